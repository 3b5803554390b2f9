section
-- ===== PART A: goes FIRST, ahead of the names: the tables' words, and 'selects' of the private methods out of them =====
/-- a private method of a class that the tables say can be made, by its rows of tables_1 -/
def lw_okq (q : MethodName × Nat) : Prop := (q.1.cls ≠ "java/lang/invoke/MethodHandle" ∧ q.1.cls ≠ "java/lang/invoke/VarHandle") ∧ Cond.instantiable q.1.cls q.2 ∈ tables_1 ∧ Cond.privateMethod q.1 ∈ tables_1 ∧ Cond.instanceMethod q.1 ∈ tables_1
theorem lw_p0 : lw_okq (⟨"CabinetBooks", "refuse", "(I)I"⟩, 10) := ⟨⟨by decide +kernel, by decide +kernel⟩, List.mem_of_getElem? (i := 14) (by decide +kernel), List.mem_of_getElem? (i := 263) (by decide +kernel), List.mem_of_getElem? (i := 264) (by decide +kernel)⟩
theorem lw_p1 : lw_okq (⟨"CabinetBooks$Catalogues", "sensesOf", "(I)I"⟩, 14) := ⟨⟨by decide +kernel, by decide +kernel⟩, List.mem_of_getElem? (i := 22) (by decide +kernel), List.mem_of_getElem? (i := 271) (by decide +kernel), List.mem_of_getElem? (i := 272) (by decide +kernel)⟩
theorem lw_p2 : lw_okq (⟨"CabinetBooks", "isEntry", "(II)Z"⟩, 10) := ⟨⟨by decide +kernel, by decide +kernel⟩, List.mem_of_getElem? (i := 14) (by decide +kernel), List.mem_of_getElem? (i := 320) (by decide +kernel), List.mem_of_getElem? (i := 321) (by decide +kernel)⟩
theorem lw_p3 : lw_okq (⟨"CabinetBooks$Catalogues", "fadesAsItMay", "(II)Z"⟩, 14) := ⟨⟨by decide +kernel, by decide +kernel⟩, List.mem_of_getElem? (i := 22) (by decide +kernel), List.mem_of_getElem? (i := 344) (by decide +kernel), List.mem_of_getElem? (i := 345) (by decide +kernel)⟩
theorem lw_p4 : lw_okq (⟨"CabinetBooks", "bestJoining", "(II)LCabinetBooks$Joining;"⟩, 10) := ⟨⟨by decide +kernel, by decide +kernel⟩, List.mem_of_getElem? (i := 14) (by decide +kernel), List.mem_of_getElem? (i := 361) (by decide +kernel), List.mem_of_getElem? (i := 362) (by decide +kernel)⟩
theorem lw_p5 : lw_okq (⟨"CabinetBooks$Joiner", "readLikes", "(LCabinetBooks$Catalogues;II)V"⟩, 7) := ⟨⟨by decide +kernel, by decide +kernel⟩, List.mem_of_getElem? (i := 365) (by decide +kernel), List.mem_of_getElem? (i := 397) (by decide +kernel), List.mem_of_getElem? (i := 398) (by decide +kernel)⟩
theorem lw_p6 : lw_okq (⟨"CabinetBooks$Joiner", "weighStates", "()V"⟩, 7) := ⟨⟨by decide +kernel, by decide +kernel⟩, List.mem_of_getElem? (i := 365) (by decide +kernel), List.mem_of_getElem? (i := 402) (by decide +kernel), List.mem_of_getElem? (i := 403) (by decide +kernel)⟩
theorem lw_p7 : lw_okq (⟨"CabinetBooks$Joiner", "weighState", "(II)I"⟩, 7) := ⟨⟨by decide +kernel, by decide +kernel⟩, List.mem_of_getElem? (i := 365) (by decide +kernel), List.mem_of_getElem? (i := 407) (by decide +kernel), List.mem_of_getElem? (i := 408) (by decide +kernel)⟩
theorem lw_p8 : lw_okq (⟨"CabinetBooks$Joiner", "valueOf", "(III)I"⟩, 7) := ⟨⟨by decide +kernel, by decide +kernel⟩, List.mem_of_getElem? (i := 365) (by decide +kernel), List.mem_of_getElem? (i := 411) (by decide +kernel), List.mem_of_getElem? (i := 412) (by decide +kernel)⟩
theorem lw_p9 : lw_okq (⟨"CabinetBooks$Joiner", "tellFirst", "(LCabinetBooks$Joining;)V"⟩, 7) := ⟨⟨by decide +kernel, by decide +kernel⟩, List.mem_of_getElem? (i := 365) (by decide +kernel), List.mem_of_getElem? (i := 416) (by decide +kernel), List.mem_of_getElem? (i := 417) (by decide +kernel)⟩
theorem lw_p10 : lw_okq (⟨"CabinetBooks$Joiner", "tellWays", "(LCabinetBooks$Joining;)V"⟩, 7) := ⟨⟨by decide +kernel, by decide +kernel⟩, List.mem_of_getElem? (i := 365) (by decide +kernel), List.mem_of_getElem? (i := 420) (by decide +kernel), List.mem_of_getElem? (i := 421) (by decide +kernel)⟩
theorem lw_p11 : lw_okq (⟨"CabinetBooks$Joiner", "passOn", "(II)I"⟩, 7) := ⟨⟨by decide +kernel, by decide +kernel⟩, List.mem_of_getElem? (i := 365) (by decide +kernel), List.mem_of_getElem? (i := 424) (by decide +kernel), List.mem_of_getElem? (i := 425) (by decide +kernel)⟩
theorem lw_p12 : lw_okq (⟨"CabinetBooks$Joiner", "addWays", "(II)V"⟩, 7) := ⟨⟨by decide +kernel, by decide +kernel⟩, List.mem_of_getElem? (i := 365) (by decide +kernel), List.mem_of_getElem? (i := 428) (by decide +kernel), List.mem_of_getElem? (i := 429) (by decide +kernel)⟩
theorem lw_p13 : lw_okq (⟨"CabinetBooks$Joiner", "sumWays", "(I)I"⟩, 7) := ⟨⟨by decide +kernel, by decide +kernel⟩, List.mem_of_getElem? (i := 365) (by decide +kernel), List.mem_of_getElem? (i := 436) (by decide +kernel), List.mem_of_getElem? (i := 437) (by decide +kernel)⟩
theorem lw_p14 : lw_okq (⟨"CabinetBooks", "followChain", "(IIII)I"⟩, 10) := ⟨⟨by decide +kernel, by decide +kernel⟩, List.mem_of_getElem? (i := 14) (by decide +kernel), List.mem_of_getElem? (i := 459) (by decide +kernel), List.mem_of_getElem? (i := 460) (by decide +kernel)⟩
theorem lw_p15 : lw_okq (⟨"CabinetBooks$Holding", "follow", "(II)V"⟩, 5) := ⟨⟨by decide +kernel, by decide +kernel⟩, List.mem_of_getElem? (i := 155) (by decide +kernel), List.mem_of_getElem? (i := 530) (by decide +kernel), List.mem_of_getElem? (i := 531) (by decide +kernel)⟩
def lw_privs_1 : List (MethodName × Nat) := [(⟨"CabinetBooks", "refuse", "(I)I"⟩, 10), (⟨"CabinetBooks$Catalogues", "sensesOf", "(I)I"⟩, 14), (⟨"CabinetBooks", "isEntry", "(II)Z"⟩, 10), (⟨"CabinetBooks$Catalogues", "fadesAsItMay", "(II)Z"⟩, 14), (⟨"CabinetBooks", "bestJoining", "(II)LCabinetBooks$Joining;"⟩, 10), (⟨"CabinetBooks$Joiner", "readLikes", "(LCabinetBooks$Catalogues;II)V"⟩, 7), (⟨"CabinetBooks$Joiner", "weighStates", "()V"⟩, 7), (⟨"CabinetBooks$Joiner", "weighState", "(II)I"⟩, 7), (⟨"CabinetBooks$Joiner", "valueOf", "(III)I"⟩, 7), (⟨"CabinetBooks$Joiner", "tellFirst", "(LCabinetBooks$Joining;)V"⟩, 7), (⟨"CabinetBooks$Joiner", "tellWays", "(LCabinetBooks$Joining;)V"⟩, 7), (⟨"CabinetBooks$Joiner", "passOn", "(II)I"⟩, 7), (⟨"CabinetBooks$Joiner", "addWays", "(II)V"⟩, 7), (⟨"CabinetBooks$Joiner", "sumWays", "(I)I"⟩, 7), (⟨"CabinetBooks", "followChain", "(IIII)I"⟩, 10), (⟨"CabinetBooks$Holding", "follow", "(II)V"⟩, 5)]
theorem lw_r1 : ∀ q ∈ lw_privs_1, lw_okq q := List.forall_mem_cons.mpr ⟨lw_p0, List.forall_mem_cons.mpr ⟨lw_p1, List.forall_mem_cons.mpr ⟨lw_p2, List.forall_mem_cons.mpr ⟨lw_p3, List.forall_mem_cons.mpr ⟨lw_p4, List.forall_mem_cons.mpr ⟨lw_p5, List.forall_mem_cons.mpr ⟨lw_p6, List.forall_mem_cons.mpr ⟨lw_p7, List.forall_mem_cons.mpr ⟨lw_p8, List.forall_mem_cons.mpr ⟨lw_p9, List.forall_mem_cons.mpr ⟨lw_p10, List.forall_mem_cons.mpr ⟨lw_p11, List.forall_mem_cons.mpr ⟨lw_p12, List.forall_mem_cons.mpr ⟨lw_p13, List.forall_mem_cons.mpr ⟨lw_p14, List.forall_mem_cons.mpr ⟨lw_p15, fun _ h => absurd h List.not_mem_nil⟩⟩⟩⟩⟩⟩⟩⟩⟩⟩⟩⟩⟩⟩⟩⟩
theorem lw_p16 : lw_okq (⟨"CabinetBooks", "bestRow", "(I)LCabinetBooks$Shelf;"⟩, 10) := ⟨⟨by decide +kernel, by decide +kernel⟩, List.mem_of_getElem? (i := 14) (by decide +kernel), List.mem_of_getElem? (i := 567) (by decide +kernel), List.mem_of_getElem? (i := 568) (by decide +kernel)⟩
theorem lw_p17 : lw_okq (⟨"CabinetBooks$Shelf", "readThings", "(I)V"⟩, 14) := ⟨⟨by decide +kernel, by decide +kernel⟩, List.mem_of_getElem? (i := 571) (by decide +kernel), List.mem_of_getElem? (i := 628) (by decide +kernel), List.mem_of_getElem? (i := 629) (by decide +kernel)⟩
theorem lw_p18 : lw_okq (⟨"CabinetBooks$Shelf", "clearTrust", "()V"⟩, 14) := ⟨⟨by decide +kernel, by decide +kernel⟩, List.mem_of_getElem? (i := 571) (by decide +kernel), List.mem_of_getElem? (i := 632) (by decide +kernel), List.mem_of_getElem? (i := 633) (by decide +kernel)⟩
theorem lw_p19 : lw_okq (⟨"CabinetBooks$Shelf", "addTrust", "(IIII)V"⟩, 14) := ⟨⟨by decide +kernel, by decide +kernel⟩, List.mem_of_getElem? (i := 571) (by decide +kernel), List.mem_of_getElem? (i := 636) (by decide +kernel), List.mem_of_getElem? (i := 637) (by decide +kernel)⟩
theorem lw_p20 : lw_okq (⟨"CabinetBooks$Shelf", "weighStates", "()V"⟩, 14) := ⟨⟨by decide +kernel, by decide +kernel⟩, List.mem_of_getElem? (i := 571) (by decide +kernel), List.mem_of_getElem? (i := 640) (by decide +kernel), List.mem_of_getElem? (i := 641) (by decide +kernel)⟩
theorem lw_p21 : lw_okq (⟨"CabinetBooks$Shelf", "readGains", "(I)V"⟩, 14) := ⟨⟨by decide +kernel, by decide +kernel⟩, List.mem_of_getElem? (i := 571) (by decide +kernel), List.mem_of_getElem? (i := 644) (by decide +kernel), List.mem_of_getElem? (i := 645) (by decide +kernel)⟩
theorem lw_p22 : lw_okq (⟨"CabinetBooks$Shelf", "weighState", "(II)I"⟩, 14) := ⟨⟨by decide +kernel, by decide +kernel⟩, List.mem_of_getElem? (i := 571) (by decide +kernel), List.mem_of_getElem? (i := 648) (by decide +kernel), List.mem_of_getElem? (i := 649) (by decide +kernel)⟩
theorem lw_p23 : lw_okq (⟨"CabinetBooks$Shelf", "valueOf", "(III)I"⟩, 14) := ⟨⟨by decide +kernel, by decide +kernel⟩, List.mem_of_getElem? (i := 571) (by decide +kernel), List.mem_of_getElem? (i := 652) (by decide +kernel), List.mem_of_getElem? (i := 653) (by decide +kernel)⟩
theorem lw_p24 : lw_okq (⟨"CabinetBooks$Shelf", "tellRow", "()V"⟩, 14) := ⟨⟨by decide +kernel, by decide +kernel⟩, List.mem_of_getElem? (i := 571) (by decide +kernel), List.mem_of_getElem? (i := 657) (by decide +kernel), List.mem_of_getElem? (i := 658) (by decide +kernel)⟩
theorem lw_p25 : lw_okq (⟨"CabinetBooks$Shelf", "firstBest", "(II)I"⟩, 14) := ⟨⟨by decide +kernel, by decide +kernel⟩, List.mem_of_getElem? (i := 571) (by decide +kernel), List.mem_of_getElem? (i := 661) (by decide +kernel), List.mem_of_getElem? (i := 662) (by decide +kernel)⟩
theorem lw_p26 : lw_okq (⟨"CabinetBooksModel", "refuse", "(I)I"⟩, 46) := ⟨⟨by decide +kernel, by decide +kernel⟩, List.mem_of_getElem? (i := 711) (by decide +kernel), List.mem_of_getElem? (i := 863) (by decide +kernel), List.mem_of_getElem? (i := 864) (by decide +kernel)⟩
theorem lw_p27 : lw_okq (⟨"CabinetBooksModel", "senseOf", "(I)I"⟩, 46) := ⟨⟨by decide +kernel, by decide +kernel⟩, List.mem_of_getElem? (i := 711) (by decide +kernel), List.mem_of_getElem? (i := 871) (by decide +kernel), List.mem_of_getElem? (i := 872) (by decide +kernel)⟩
theorem lw_p28 : lw_okq (⟨"CabinetBooksModel", "isEntry", "(II)Z"⟩, 46) := ⟨⟨by decide +kernel, by decide +kernel⟩, List.mem_of_getElem? (i := 711) (by decide +kernel), List.mem_of_getElem? (i := 895) (by decide +kernel), List.mem_of_getElem? (i := 896) (by decide +kernel)⟩
theorem lw_p29 : lw_okq (⟨"CabinetBooksModel", "isBarred", "(II)Z"⟩, 46) := ⟨⟨by decide +kernel, by decide +kernel⟩, List.mem_of_getElem? (i := 711) (by decide +kernel), List.mem_of_getElem? (i := 899) (by decide +kernel), List.mem_of_getElem? (i := 900) (by decide +kernel)⟩
theorem lw_p30 : lw_okq (⟨"CabinetBooksModel", "likeOf", "(IIII)I"⟩, 46) := ⟨⟨by decide +kernel, by decide +kernel⟩, List.mem_of_getElem? (i := 711) (by decide +kernel), List.mem_of_getElem? (i := 907) (by decide +kernel), List.mem_of_getElem? (i := 908) (by decide +kernel)⟩
theorem lw_p31 : lw_okq (⟨"CabinetBooksModel", "senses", "(I)I"⟩, 46) := ⟨⟨by decide +kernel, by decide +kernel⟩, List.mem_of_getElem? (i := 711) (by decide +kernel), List.mem_of_getElem? (i := 912) (by decide +kernel), List.mem_of_getElem? (i := 913) (by decide +kernel)⟩
def lw_privs_2 : List (MethodName × Nat) := [(⟨"CabinetBooks", "bestRow", "(I)LCabinetBooks$Shelf;"⟩, 10), (⟨"CabinetBooks$Shelf", "readThings", "(I)V"⟩, 14), (⟨"CabinetBooks$Shelf", "clearTrust", "()V"⟩, 14), (⟨"CabinetBooks$Shelf", "addTrust", "(IIII)V"⟩, 14), (⟨"CabinetBooks$Shelf", "weighStates", "()V"⟩, 14), (⟨"CabinetBooks$Shelf", "readGains", "(I)V"⟩, 14), (⟨"CabinetBooks$Shelf", "weighState", "(II)I"⟩, 14), (⟨"CabinetBooks$Shelf", "valueOf", "(III)I"⟩, 14), (⟨"CabinetBooks$Shelf", "tellRow", "()V"⟩, 14), (⟨"CabinetBooks$Shelf", "firstBest", "(II)I"⟩, 14), (⟨"CabinetBooksModel", "refuse", "(I)I"⟩, 46), (⟨"CabinetBooksModel", "senseOf", "(I)I"⟩, 46), (⟨"CabinetBooksModel", "isEntry", "(II)Z"⟩, 46), (⟨"CabinetBooksModel", "isBarred", "(II)Z"⟩, 46), (⟨"CabinetBooksModel", "likeOf", "(IIII)I"⟩, 46), (⟨"CabinetBooksModel", "senses", "(I)I"⟩, 46)]
theorem lw_r2 : ∀ q ∈ lw_privs_2, lw_okq q := List.forall_mem_cons.mpr ⟨lw_p16, List.forall_mem_cons.mpr ⟨lw_p17, List.forall_mem_cons.mpr ⟨lw_p18, List.forall_mem_cons.mpr ⟨lw_p19, List.forall_mem_cons.mpr ⟨lw_p20, List.forall_mem_cons.mpr ⟨lw_p21, List.forall_mem_cons.mpr ⟨lw_p22, List.forall_mem_cons.mpr ⟨lw_p23, List.forall_mem_cons.mpr ⟨lw_p24, List.forall_mem_cons.mpr ⟨lw_p25, List.forall_mem_cons.mpr ⟨lw_p26, List.forall_mem_cons.mpr ⟨lw_p27, List.forall_mem_cons.mpr ⟨lw_p28, List.forall_mem_cons.mpr ⟨lw_p29, List.forall_mem_cons.mpr ⟨lw_p30, List.forall_mem_cons.mpr ⟨lw_p31, fun _ h => absurd h List.not_mem_nil⟩⟩⟩⟩⟩⟩⟩⟩⟩⟩⟩⟩⟩⟩⟩⟩
theorem lw_p32 : lw_okq (⟨"CabinetBooksModel", "areBooks", "(II)Z"⟩, 46) := ⟨⟨by decide +kernel, by decide +kernel⟩, List.mem_of_getElem? (i := 711) (by decide +kernel), List.mem_of_getElem? (i := 924) (by decide +kernel), List.mem_of_getElem? (i := 925) (by decide +kernel)⟩
theorem lw_p33 : lw_okq (⟨"CabinetBooksModel", "joins", "(II)I"⟩, 46) := ⟨⟨by decide +kernel, by decide +kernel⟩, List.mem_of_getElem? (i := 711) (by decide +kernel), List.mem_of_getElem? (i := 928) (by decide +kernel), List.mem_of_getElem? (i := 929) (by decide +kernel)⟩
theorem lw_p34 : lw_okq (⟨"CabinetBooksModel", "measure", "(II)V"⟩, 46) := ⟨⟨by decide +kernel, by decide +kernel⟩, List.mem_of_getElem? (i := 711) (by decide +kernel), List.mem_of_getElem? (i := 932) (by decide +kernel), List.mem_of_getElem? (i := 933) (by decide +kernel)⟩
theorem lw_p35 : lw_okq (⟨"CabinetBooksModel", "finds", "(II)I"⟩, 46) := ⟨⟨by decide +kernel, by decide +kernel⟩, List.mem_of_getElem? (i := 711) (by decide +kernel), List.mem_of_getElem? (i := 936) (by decide +kernel), List.mem_of_getElem? (i := 937) (by decide +kernel)⟩
theorem lw_p36 : lw_okq (⟨"CabinetBooksModel", "isSure", "(III)Z"⟩, 46) := ⟨⟨by decide +kernel, by decide +kernel⟩, List.mem_of_getElem? (i := 711) (by decide +kernel), List.mem_of_getElem? (i := 957) (by decide +kernel), List.mem_of_getElem? (i := 958) (by decide +kernel)⟩
theorem lw_p37 : lw_okq (⟨"CabinetBooksModel", "isSight", "(III)Z"⟩, 46) := ⟨⟨by decide +kernel, by decide +kernel⟩, List.mem_of_getElem? (i := 711) (by decide +kernel), List.mem_of_getElem? (i := 990) (by decide +kernel), List.mem_of_getElem? (i := 991) (by decide +kernel)⟩
theorem lw_p38 : lw_okq (⟨"CabinetBooksModel", "goes", "(III)V"⟩, 46) := ⟨⟨by decide +kernel, by decide +kernel⟩, List.mem_of_getElem? (i := 711) (by decide +kernel), List.mem_of_getElem? (i := 1002) (by decide +kernel), List.mem_of_getElem? (i := 1003) (by decide +kernel)⟩
theorem lw_p39 : lw_okq (⟨"CabinetBooksModel", "isMove", "(III)Z"⟩, 46) := ⟨⟨by decide +kernel, by decide +kernel⟩, List.mem_of_getElem? (i := 711) (by decide +kernel), List.mem_of_getElem? (i := 1006) (by decide +kernel), List.mem_of_getElem? (i := 1007) (by decide +kernel)⟩
theorem lw_p40 : lw_okq (⟨"CabinetBooksModel", "changed", "(II)I"⟩, 46) := ⟨⟨by decide +kernel, by decide +kernel⟩, List.mem_of_getElem? (i := 711) (by decide +kernel), List.mem_of_getElem? (i := 1014) (by decide +kernel), List.mem_of_getElem? (i := 1015) (by decide +kernel)⟩
theorem lw_p41 : lw_okq (⟨"CabinetBooksModel", "wrongShelf", "(I)I"⟩, 46) := ⟨⟨by decide +kernel, by decide +kernel⟩, List.mem_of_getElem? (i := 711) (by decide +kernel), List.mem_of_getElem? (i := 1026) (by decide +kernel), List.mem_of_getElem? (i := 1027) (by decide +kernel)⟩
theorem lw_p42 : lw_okq (⟨"CabinetBooksModel", "shelves", "(I)I"⟩, 46) := ⟨⟨by decide +kernel, by decide +kernel⟩, List.mem_of_getElem? (i := 711) (by decide +kernel), List.mem_of_getElem? (i := 1030) (by decide +kernel), List.mem_of_getElem? (i := 1031) (by decide +kernel)⟩
theorem lw_p43 : lw_okq (⟨"CabinetBooksModel", "wins", "(IIII)I"⟩, 46) := ⟨⟨by decide +kernel, by decide +kernel⟩, List.mem_of_getElem? (i := 711) (by decide +kernel), List.mem_of_getElem? (i := 1034) (by decide +kernel), List.mem_of_getElem? (i := 1035) (by decide +kernel)⟩
theorem lw_p44 : lw_okq (⟨"CabinetBooksModel", "stands", "(II)Z"⟩, 46) := ⟨⟨by decide +kernel, by decide +kernel⟩, List.mem_of_getElem? (i := 711) (by decide +kernel), List.mem_of_getElem? (i := 1038) (by decide +kernel), List.mem_of_getElem? (i := 1039) (by decide +kernel)⟩
theorem lw_p45 : lw_okq (⟨"CabinetBooksModel", "isFake", "(I)Z"⟩, 46) := ⟨⟨by decide +kernel, by decide +kernel⟩, List.mem_of_getElem? (i := 711) (by decide +kernel), List.mem_of_getElem? (i := 1065) (by decide +kernel), List.mem_of_getElem? (i := 1066) (by decide +kernel)⟩
def lw_privs_3 : List (MethodName × Nat) := [(⟨"CabinetBooksModel", "areBooks", "(II)Z"⟩, 46), (⟨"CabinetBooksModel", "joins", "(II)I"⟩, 46), (⟨"CabinetBooksModel", "measure", "(II)V"⟩, 46), (⟨"CabinetBooksModel", "finds", "(II)I"⟩, 46), (⟨"CabinetBooksModel", "isSure", "(III)Z"⟩, 46), (⟨"CabinetBooksModel", "isSight", "(III)Z"⟩, 46), (⟨"CabinetBooksModel", "goes", "(III)V"⟩, 46), (⟨"CabinetBooksModel", "isMove", "(III)Z"⟩, 46), (⟨"CabinetBooksModel", "changed", "(II)I"⟩, 46), (⟨"CabinetBooksModel", "wrongShelf", "(I)I"⟩, 46), (⟨"CabinetBooksModel", "shelves", "(I)I"⟩, 46), (⟨"CabinetBooksModel", "wins", "(IIII)I"⟩, 46), (⟨"CabinetBooksModel", "stands", "(II)Z"⟩, 46), (⟨"CabinetBooksModel", "isFake", "(I)Z"⟩, 46)]
theorem lw_r3 : ∀ q ∈ lw_privs_3, lw_okq q := List.forall_mem_cons.mpr ⟨lw_p32, List.forall_mem_cons.mpr ⟨lw_p33, List.forall_mem_cons.mpr ⟨lw_p34, List.forall_mem_cons.mpr ⟨lw_p35, List.forall_mem_cons.mpr ⟨lw_p36, List.forall_mem_cons.mpr ⟨lw_p37, List.forall_mem_cons.mpr ⟨lw_p38, List.forall_mem_cons.mpr ⟨lw_p39, List.forall_mem_cons.mpr ⟨lw_p40, List.forall_mem_cons.mpr ⟨lw_p41, List.forall_mem_cons.mpr ⟨lw_p42, List.forall_mem_cons.mpr ⟨lw_p43, List.forall_mem_cons.mpr ⟨lw_p44, List.forall_mem_cons.mpr ⟨lw_p45, fun _ h => absurd h List.not_mem_nil⟩⟩⟩⟩⟩⟩⟩⟩⟩⟩⟩⟩⟩⟩
def lw_privs : List (MethodName × Nat) := lw_privs_1 ++ (lw_privs_2 ++ (lw_privs_3))
def lw_tbl : List Cond := k2_sels lw_privs ++ tables_1
theorem lw_privs_ok : ∀ q ∈ lw_privs, lw_okq q := by
  show ∀ q ∈ lw_privs_1 ++ (lw_privs_2 ++ (lw_privs_3)), lw_okq q
  exact List.forall_mem_append.mpr ⟨lw_r1, List.forall_mem_append.mpr ⟨lw_r2, lw_r3⟩⟩
end
section
def RX0 : String := "CabinetBooks$Beasts"
def TX0 : u_T := fun k => match k with
  | 0 => ("CabinetBooks$Beasts", "kind", "[I", true)
  | 1 => ("CabinetBooks$Beasts", "foes", "[I", true)
  | _ => ("CabinetBooks$Beasts", "clashes", "I", false)
def tyX0 : Nat → FieldType := fun k => match k with
  | 0 => .array .int
  | 1 => .array .int
  | _ => .int
theorem nmX0 : ∀ a, a < 3 → ∀ b, b < 3 → a ≠ b → (TX0 a).2.1 ≠ (TX0 b).2.1 := by decide +kernel
theorem tyX0_ok : ∀ k, k < 3 → parseFieldDescriptor (TX0 k).2.2.1 = some (tyX0 k) := by decide +kernel
abbrev cX0_init : ByteArray := prog_2_method_1_code
def yX0_init : MethodName := ⟨RX0, "<init>", "()V"⟩
abbrev cX0_tellKind : ByteArray := prog_2_method_2_code
def yX0_tellKind : MethodName := ⟨RX0, "tellKind", "(II)I"⟩
abbrev cX0_tellClash : ByteArray := prog_2_method_3_code
def yX0_tellClash : MethodName := ⟨RX0, "tellClash", "(IIZ)Z"⟩
abbrev cX0_isFake : ByteArray := prog_2_method_4_code
def yX0_isFake : MethodName := ⟨RX0, "isFake", "(I)Z"⟩
abbrev cX0_leastWithout : ByteArray := prog_2_method_5_code
def yX0_leastWithout : MethodName := ⟨RX0, "leastWithout", "(I)I"⟩
def RX1 : String := "CabinetBooks$Catalogues"
def TX1 : u_T := fun k => match k with
  | 0 => ("CabinetBooks$Catalogues", "meaning", "[I", true)
  | 1 => ("CabinetBooks$Catalogues", "sense", "[I", true)
  | 2 => ("CabinetBooks$Catalogues", "years", "[I", true)
  | 3 => ("CabinetBooks$Catalogues", "filled", "[I", true)
  | 4 => ("CabinetBooks$Catalogues", "words", "[I", true)
  | 5 => ("CabinetBooks$Catalogues", "senses", "[I", true)
  | 6 => ("CabinetBooks$Catalogues", "size", "[I", true)
  | 7 => ("CabinetBooks$Catalogues", "room", "[I", true)
  | 8 => ("CabinetBooks$Catalogues", "colour", "[I", true)
  | 9 => ("CabinetBooks$Catalogues", "barred", "[J", true)
  | 10 => ("CabinetBooks$Catalogues", "bars", "I", false)
  | 11 => ("CabinetBooks$Catalogues", "spare", "I", false)
  | 12 => ("CabinetBooks$Catalogues", "fade", "I", false)
  | _ => ("CabinetBooks$Catalogues", "version", "I", false)
def tyX1 : Nat → FieldType := fun k => match k with
  | 0 => .array .int
  | 1 => .array .int
  | 2 => .array .int
  | 3 => .array .int
  | 4 => .array .int
  | 5 => .array .int
  | 6 => .array .int
  | 7 => .array .int
  | 8 => .array .int
  | 9 => .array .long
  | 10 => .int
  | 11 => .int
  | 12 => .int
  | _ => .int
theorem nmX1 : ∀ a, a < 14 → ∀ b, b < 14 → a ≠ b → (TX1 a).2.1 ≠ (TX1 b).2.1 := by decide +kernel
theorem tyX1_ok : ∀ k, k < 14 → parseFieldDescriptor (TX1 k).2.2.1 = some (tyX1 k) := by decide +kernel
abbrev cX1_init : ByteArray := prog_3_method_1_code
def yX1_init : MethodName := ⟨RX1, "<init>", "()V"⟩
abbrev cX1_tellMeaning : ByteArray := prog_3_method_2_code
def yX1_tellMeaning : MethodName := ⟨RX1, "tellMeaning", "(II)I"⟩
abbrev cX1_sensesOf : ByteArray := prog_3_method_3_code
def yX1_sensesOf : MethodName := ⟨RX1, "sensesOf", "(I)I"⟩
abbrev cX1_tellYear : ByteArray := prog_3_method_4_code
def yX1_tellYear : MethodName := ⟨RX1, "tellYear", "(II)I"⟩
abbrev cX1_tellSpare : ByteArray := prog_3_method_5_code
def yX1_tellSpare : MethodName := ⟨RX1, "tellSpare", "(I)I"⟩
abbrev cX1_tellFade : ByteArray := prog_3_method_6_code
def yX1_tellFade : MethodName := ⟨RX1, "tellFade", "(I)I"⟩
abbrev cX1_addEntry : ByteArray := prog_3_method_7_code
def yX1_addEntry : MethodName := ⟨RX1, "addEntry", "(IIIII)I"⟩
abbrev cX1_isBarTold : ByteArray := prog_3_method_8_code
def yX1_isBarTold : MethodName := ⟨RX1, "isBarTold", "(II)Z"⟩
abbrev cX1_tellBar : ByteArray := prog_3_method_9_code
def yX1_tellBar : MethodName := ⟨RX1, "tellBar", "(II)V"⟩
abbrev cX1_isSameText : ByteArray := prog_3_method_10_code
def yX1_isSameText : MethodName := ⟨RX1, "isSameText", "(II)Z"⟩
abbrev cX1_likeness : ByteArray := prog_3_method_11_code
def yX1_likeness : MethodName := ⟨RX1, "likeness", "(II)I"⟩
abbrev cX1_fadesAsItMay : ByteArray := prog_3_method_12_code
def yX1_fadesAsItMay : MethodName := ⟨RX1, "fadesAsItMay", "(II)Z"⟩
def RX2 : String := "CabinetBooks$Holding"
def TX2 : u_T := fun k => match k with
  | 0 => ("CabinetBooks$Holding", "lenders", "[I", true)
  | 1 => ("CabinetBooks$Holding", "lent", "I", false)
  | 2 => ("CabinetBooks$Holding", "holder", "I", false)
  | 3 => ("CabinetBooks$Holding", "owner", "I", false)
  | _ => ("CabinetBooks$Holding", "stolen", "Z", false)
def tyX2 : Nat → FieldType := fun k => match k with
  | 0 => .array .int
  | 1 => .int
  | 2 => .int
  | 3 => .int
  | _ => .boolean
theorem nmX2 : ∀ a, a < 5 → ∀ b, b < 5 → a ≠ b → (TX2 a).2.1 ≠ (TX2 b).2.1 := by decide +kernel
theorem tyX2_ok : ∀ k, k < 5 → parseFieldDescriptor (TX2 k).2.2.1 = some (tyX2 k) := by decide +kernel
abbrev cX2_init : ByteArray := prog_4_method_1_code
def yX2_init : MethodName := ⟨RX2, "<init>", "()V"⟩
abbrev cX2_replay : ByteArray := prog_4_method_2_code
def yX2_replay : MethodName := ⟨RX2, "replay", "(LCabinetBooks$Records;III)V"⟩
abbrev cX2_follow : ByteArray := prog_4_method_3_code
def yX2_follow : MethodName := ⟨RX2, "follow", "(II)V"⟩
abbrev cX2_heldSince : ByteArray := prog_4_method_4_code
def yX2_heldSince : MethodName := ⟨RX2, "heldSince", "(LCabinetBooks$Records;III)I"⟩
def RX3 : String := "CabinetBooks$Joiner"
def TX3 : u_T := fun k => match k with
  | 0 => ("CabinetBooks$Joiner", "likes", "[I", true)
  | 1 => ("CabinetBooks$Joiner", "reach", "[I", true)
  | 2 => ("CabinetBooks$Joiner", "best", "[I", true)
  | 3 => ("CabinetBooks$Joiner", "ways", "[I", false)
  | 4 => ("CabinetBooks$Joiner", "nextWays", "[I", false)
  | 5 => ("CabinetBooks$Joiner", "rows", "I", false)
  | _ => ("CabinetBooks$Joiner", "columns", "I", false)
def tyX3 : Nat → FieldType := fun k => match k with
  | 0 => .array .int
  | 1 => .array .int
  | 2 => .array .int
  | 3 => .array .int
  | 4 => .array .int
  | 5 => .int
  | _ => .int
theorem nmX3 : ∀ a, a < 7 → ∀ b, b < 7 → a ≠ b → (TX3 a).2.1 ≠ (TX3 b).2.1 := by decide +kernel
theorem tyX3_ok : ∀ k, k < 7 → parseFieldDescriptor (TX3 k).2.2.1 = some (tyX3 k) := by decide +kernel
abbrev cX3_init : ByteArray := prog_5_method_1_code
def yX3_init : MethodName := ⟨RX3, "<init>", "()V"⟩
abbrev cX3_solve : ByteArray := prog_5_method_2_code
def yX3_solve : MethodName := ⟨RX3, "solve", "(LCabinetBooks$Catalogues;IILCabinetBooks$Joining;)V"⟩
abbrev cX3_readLikes : ByteArray := prog_5_method_3_code
def yX3_readLikes : MethodName := ⟨RX3, "readLikes", "(LCabinetBooks$Catalogues;II)V"⟩
abbrev cX3_weighStates : ByteArray := prog_5_method_4_code
def yX3_weighStates : MethodName := ⟨RX3, "weighStates", "()V"⟩
abbrev cX3_weighState : ByteArray := prog_5_method_5_code
def yX3_weighState : MethodName := ⟨RX3, "weighState", "(II)I"⟩
abbrev cX3_valueOf : ByteArray := prog_5_method_6_code
def yX3_valueOf : MethodName := ⟨RX3, "valueOf", "(III)I"⟩
abbrev cX3_tellFirst : ByteArray := prog_5_method_7_code
def yX3_tellFirst : MethodName := ⟨RX3, "tellFirst", "(LCabinetBooks$Joining;)V"⟩
abbrev cX3_tellWays : ByteArray := prog_5_method_8_code
def yX3_tellWays : MethodName := ⟨RX3, "tellWays", "(LCabinetBooks$Joining;)V"⟩
abbrev cX3_passOn : ByteArray := prog_5_method_9_code
def yX3_passOn : MethodName := ⟨RX3, "passOn", "(II)I"⟩
abbrev cX3_addWays : ByteArray := prog_5_method_10_code
def yX3_addWays : MethodName := ⟨RX3, "addWays", "(II)V"⟩
abbrev cX3_sumWays : ByteArray := prog_5_method_11_code
def yX3_sumWays : MethodName := ⟨RX3, "sumWays", "(I)I"⟩
def RX4 : String := "CabinetBooks$Joining"
def TX4 : u_T := fun k => match k with
  | 0 => ("CabinetBooks$Joining", "partner", "[I", true)
  | 1 => ("CabinetBooks$Joining", "certain", "[Z", true)
  | 2 => ("CabinetBooks$Joining", "sum", "I", false)
  | 3 => ("CabinetBooks$Joining", "ways", "I", false)
  | _ => ("CabinetBooks$Joining", "version", "I", false)
def tyX4 : Nat → FieldType := fun k => match k with
  | 0 => .array .int
  | 1 => .array .boolean
  | 2 => .int
  | 3 => .int
  | _ => .int
theorem nmX4 : ∀ a, a < 5 → ∀ b, b < 5 → a ≠ b → (TX4 a).2.1 ≠ (TX4 b).2.1 := by decide +kernel
theorem tyX4_ok : ∀ k, k < 5 → parseFieldDescriptor (TX4 k).2.2.1 = some (tyX4 k) := by decide +kernel
abbrev cX4_init : ByteArray := prog_6_method_1_code
def yX4_init : MethodName := ⟨RX4, "<init>", "()V"⟩
def RX5 : String := "CabinetBooks$Records"
def TX5 : u_T := fun k => match k with
  | 0 => ("CabinetBooks$Records", "thing", "[I", true)
  | 1 => ("CabinetBooks$Records", "other", "[I", true)
  | 2 => ("CabinetBooks$Records", "day", "[I", true)
  | 3 => ("CabinetBooks$Records", "sort", "[I", true)
  | 4 => ("CabinetBooks$Records", "known", "[I", true)
  | 5 => ("CabinetBooks$Records", "gone", "[I", true)
  | 6 => ("CabinetBooks$Records", "order", "[I", true)
  | 7 => ("CabinetBooks$Records", "filled", "I", false)
  | _ => ("CabinetBooks$Records", "withdrawn", "I", false)
def tyX5 : Nat → FieldType := fun k => match k with
  | 0 => .array .int
  | 1 => .array .int
  | 2 => .array .int
  | 3 => .array .int
  | 4 => .array .int
  | 5 => .array .int
  | 6 => .array .int
  | 7 => .int
  | _ => .int
theorem nmX5 : ∀ a, a < 9 → ∀ b, b < 9 → a ≠ b → (TX5 a).2.1 ≠ (TX5 b).2.1 := by decide +kernel
theorem tyX5_ok : ∀ k, k < 9 → parseFieldDescriptor (TX5 k).2.2.1 = some (tyX5 k) := by decide +kernel
abbrev cX5_init : ByteArray := prog_7_method_1_code
def yX5_init : MethodName := ⟨RX5, "<init>", "()V"⟩
abbrev cX5_addRecord : ByteArray := prog_7_method_2_code
def yX5_addRecord : MethodName := ⟨RX5, "addRecord", "(IIIII)I"⟩
abbrev cX5_takeBack : ByteArray := prog_7_method_3_code
def yX5_takeBack : MethodName := ⟨RX5, "takeBack", "(II)V"⟩
abbrev cX5_counts : ByteArray := prog_7_method_4_code
def yX5_counts : MethodName := ⟨RX5, "counts", "(III)Z"⟩
abbrev cX5_lastPlace : ByteArray := prog_7_method_5_code
def yX5_lastPlace : MethodName := ⟨RX5, "lastPlace", "(III)I"⟩
abbrev cX5_quarrelDays : ByteArray := prog_7_method_6_code
def yX5_quarrelDays : MethodName := ⟨RX5, "quarrelDays", "(II)I"⟩
abbrev cX5_lastChange : ByteArray := prog_7_method_7_code
def yX5_lastChange : MethodName := ⟨RX5, "lastChange", "(II)I"⟩
def RX6 : String := "CabinetBooks$Sayings"
def TX6 : u_T := fun k => match k with
  | 0 => ("CabinetBooks$Sayings", "sort", "[I", true)
  | 1 => ("CabinetBooks$Sayings", "x", "[I", true)
  | 2 => ("CabinetBooks$Sayings", "y", "[I", true)
  | 3 => ("CabinetBooks$Sayings", "trust", "[I", true)
  | _ => ("CabinetBooks$Sayings", "filled", "I", false)
def tyX6 : Nat → FieldType := fun k => match k with
  | 0 => .array .int
  | 1 => .array .int
  | 2 => .array .int
  | 3 => .array .int
  | _ => .int
theorem nmX6 : ∀ a, a < 5 → ∀ b, b < 5 → a ≠ b → (TX6 a).2.1 ≠ (TX6 b).2.1 := by decide +kernel
theorem tyX6_ok : ∀ k, k < 5 → parseFieldDescriptor (TX6 k).2.2.1 = some (tyX6 k) := by decide +kernel
abbrev cX6_init : ByteArray := prog_8_method_1_code
def yX6_init : MethodName := ⟨RX6, "<init>", "()V"⟩
abbrev cX6_addSaying : ByteArray := prog_8_method_2_code
def yX6_addSaying : MethodName := ⟨RX6, "addSaying", "(IIII)I"⟩
def RX7 : String := "CabinetBooks$Shelf"
def TX7 : u_T := fun k => match k with
  | 0 => ("CabinetBooks$Shelf", "things", "[I", true)
  | 1 => ("CabinetBooks$Shelf", "placeOf", "[I", true)
  | 2 => ("CabinetBooks$Shelf", "leftOf", "[I", true)
  | 3 => ("CabinetBooks$Shelf", "beside", "[I", true)
  | 4 => ("CabinetBooks$Shelf", "leftEnd", "[I", true)
  | 5 => ("CabinetBooks$Shelf", "rightEnd", "[I", true)
  | 6 => ("CabinetBooks$Shelf", "gains", "[I", true)
  | 7 => ("CabinetBooks$Shelf", "best", "[I", true)
  | 8 => ("CabinetBooks$Shelf", "told", "[I", true)
  | 9 => ("CabinetBooks$Shelf", "size", "I", false)
  | 10 => ("CabinetBooks$Shelf", "total", "I", false)
  | 11 => ("CabinetBooks$Shelf", "sum", "I", false)
  | 12 => ("CabinetBooks$Shelf", "builtSet", "I", false)
  | _ => ("CabinetBooks$Shelf", "builtSayings", "I", false)
def tyX7 : Nat → FieldType := fun k => match k with
  | 0 => .array .int
  | 1 => .array .int
  | 2 => .array .int
  | 3 => .array .int
  | 4 => .array .int
  | 5 => .array .int
  | 6 => .array .int
  | 7 => .array .int
  | 8 => .array .int
  | 9 => .int
  | 10 => .int
  | 11 => .int
  | 12 => .int
  | _ => .int
theorem nmX7 : ∀ a, a < 14 → ∀ b, b < 14 → a ≠ b → (TX7 a).2.1 ≠ (TX7 b).2.1 := by decide +kernel
theorem tyX7_ok : ∀ k, k < 14 → parseFieldDescriptor (TX7 k).2.2.1 = some (tyX7 k) := by decide +kernel
abbrev cX7_init : ByteArray := prog_9_method_1_code
def yX7_init : MethodName := ⟨RX7, "<init>", "()V"⟩
abbrev cX7_rebuild : ByteArray := prog_9_method_2_code
def yX7_rebuild : MethodName := ⟨RX7, "rebuild", "(ILCabinetBooks$Sayings;)V"⟩
abbrev cX7_readThings : ByteArray := prog_9_method_3_code
def yX7_readThings : MethodName := ⟨RX7, "readThings", "(I)V"⟩
abbrev cX7_clearTrust : ByteArray := prog_9_method_4_code
def yX7_clearTrust : MethodName := ⟨RX7, "clearTrust", "()V"⟩
abbrev cX7_addTrust : ByteArray := prog_9_method_5_code
def yX7_addTrust : MethodName := ⟨RX7, "addTrust", "(IIII)V"⟩
abbrev cX7_weighStates : ByteArray := prog_9_method_6_code
def yX7_weighStates : MethodName := ⟨RX7, "weighStates", "()V"⟩
abbrev cX7_readGains : ByteArray := prog_9_method_7_code
def yX7_readGains : MethodName := ⟨RX7, "readGains", "(I)V"⟩
abbrev cX7_weighState : ByteArray := prog_9_method_8_code
def yX7_weighState : MethodName := ⟨RX7, "weighState", "(II)I"⟩
abbrev cX7_valueOf : ByteArray := prog_9_method_9_code
def yX7_valueOf : MethodName := ⟨RX7, "valueOf", "(III)I"⟩
abbrev cX7_tellRow : ByteArray := prog_9_method_10_code
def yX7_tellRow : MethodName := ⟨RX7, "tellRow", "()V"⟩
abbrev cX7_firstBest : ByteArray := prog_9_method_11_code
def yX7_firstBest : MethodName := ⟨RX7, "firstBest", "(II)I"⟩
def RX8 : String := "CabinetBooks"
def TX8 : u_T := fun k => match k with
  | 0 => ("CabinetBooks", "catalogues", "LCabinetBooks$Catalogues;", true)
  | 1 => ("CabinetBooks", "joinings", "[LCabinetBooks$Joining;", true)
  | 2 => ("CabinetBooks", "sights", "LCabinetBooks$Records;", true)
  | 3 => ("CabinetBooks", "moves", "LCabinetBooks$Records;", true)
  | 4 => ("CabinetBooks", "holding", "LCabinetBooks$Holding;", true)
  | 5 => ("CabinetBooks", "sayings", "LCabinetBooks$Sayings;", true)
  | 6 => ("CabinetBooks", "beasts", "LCabinetBooks$Beasts;", true)
  | 7 => ("CabinetBooks", "refusals", "[I", true)
  | 8 => ("CabinetBooks", "joiner", "LCabinetBooks$Joiner;", false)
  | _ => ("CabinetBooks", "builder", "LCabinetBooks$Shelf;", false)
def tyX8 : Nat → FieldType := fun k => match k with
  | 0 => .object "CabinetBooks$Catalogues"
  | 1 => .array (.object "CabinetBooks$Joining")
  | 2 => .object "CabinetBooks$Records"
  | 3 => .object "CabinetBooks$Records"
  | 4 => .object "CabinetBooks$Holding"
  | 5 => .object "CabinetBooks$Sayings"
  | 6 => .object "CabinetBooks$Beasts"
  | 7 => .array .int
  | 8 => .object "CabinetBooks$Joiner"
  | _ => .object "CabinetBooks$Shelf"
theorem nmX8 : ∀ a, a < 10 → ∀ b, b < 10 → a ≠ b → (TX8 a).2.1 ≠ (TX8 b).2.1 := by decide +kernel
theorem tyX8_ok : ∀ k, k < 10 → parseFieldDescriptor (TX8 k).2.2.1 = some (tyX8 k) := by decide +kernel
abbrev cX8_init : ByteArray := prog_1_method_1_code
def yX8_init : MethodName := ⟨RX8, "<init>", "()V"⟩
abbrev cX8_means : ByteArray := prog_1_method_2_code
def yX8_means : MethodName := ⟨RX8, "means", "(II)I"⟩
abbrev cX8_sense : ByteArray := prog_1_method_3_code
def yX8_sense : MethodName := ⟨RX8, "sense", "(I)I"⟩
abbrev cX8_year : ByteArray := prog_1_method_4_code
def yX8_year : MethodName := ⟨RX8, "year", "(II)I"⟩
abbrev cX8_entry : ByteArray := prog_1_method_5_code
def yX8_entry : MethodName := ⟨RX8, "entry", "(IIIII)I"⟩
abbrev cX8_set : ByteArray := prog_1_method_6_code
def yX8_set : MethodName := ⟨RX8, "set", "(II)I"⟩
abbrev cX8_bar : ByteArray := prog_1_method_7_code
def yX8_bar : MethodName := ⟨RX8, "bar", "(IIII)I"⟩
abbrev cX8_like : ByteArray := prog_1_method_8_code
def yX8_like : MethodName := ⟨RX8, "like", "(IIII)I"⟩
abbrev cX8_join : ByteArray := prog_1_method_9_code
def yX8_join : MethodName := ⟨RX8, "join", "(II)I"⟩
abbrev cX8_joined : ByteArray := prog_1_method_10_code
def yX8_joined : MethodName := ⟨RX8, "joined", "(III)I"⟩
abbrev cX8_bests : ByteArray := prog_1_method_11_code
def yX8_bests : MethodName := ⟨RX8, "bests", "(II)I"⟩
abbrev cX8_sure : ByteArray := prog_1_method_12_code
def yX8_sure : MethodName := ⟨RX8, "sure", "(III)I"⟩
abbrev cX8_chain : ByteArray := prog_1_method_13_code
def yX8_chain : MethodName := ⟨RX8, "chain", "(IIII)I"⟩
abbrev cX8_copied : ByteArray := prog_1_method_14_code
def yX8_copied : MethodName := ⟨RX8, "copied", "(III)I"⟩
abbrev cX8_sight : ByteArray := prog_1_method_15_code
def yX8_sight : MethodName := ⟨RX8, "sight", "(IIII)I"⟩
abbrev cX8_move : ByteArray := prog_1_method_16_code
def yX8_move : MethodName := ⟨RX8, "move", "(IIIII)I"⟩
abbrev cX8_withdraw : ByteArray := prog_1_method_17_code
def yX8_withdraw : MethodName := ⟨RX8, "withdraw", "(ZII)I"⟩
abbrev cX8_where : ByteArray := prog_1_method_18_code
def yX8_where : MethodName := ⟨RX8, "where", "(III)I"⟩
abbrev cX8_quarrels : ByteArray := prog_1_method_19_code
def yX8_quarrels : MethodName := ⟨RX8, "quarrels", "(II)I"⟩
abbrev cX8_holds : ByteArray := prog_1_method_20_code
def yX8_holds : MethodName := ⟨RX8, "holds", "(IIII)I"⟩
abbrev cX8_since : ByteArray := prog_1_method_21_code
def yX8_since : MethodName := ⟨RX8, "since", "(III)I"⟩
abbrev cX8_visitor : ByteArray := prog_1_method_22_code
def yX8_visitor : MethodName := ⟨RX8, "visitor", "(IIII)I"⟩
abbrev cX8_shelf : ByteArray := prog_1_method_23_code
def yX8_shelf : MethodName := ⟨RX8, "shelf", "(I)I"⟩
abbrev cX8_row : ByteArray := prog_1_method_24_code
def yX8_row : MethodName := ⟨RX8, "row", "(II)I"⟩
abbrev cX8_quarrel : ByteArray := prog_1_method_25_code
def yX8_quarrel : MethodName := ⟨RX8, "quarrel", "(I)I"⟩
abbrev cX8_part : ByteArray := prog_1_method_26_code
def yX8_part : MethodName := ⟨RX8, "part", "(II)I"⟩
abbrev cX8_clash : ByteArray := prog_1_method_27_code
def yX8_clash : MethodName := ⟨RX8, "clash", "(IIZ)I"⟩
abbrev cX8_fake : ByteArray := prog_1_method_28_code
def yX8_fake : MethodName := ⟨RX8, "fake", "(I)I"⟩
abbrev cX8_least : ByteArray := prog_1_method_29_code
def yX8_least : MethodName := ⟨RX8, "least", "(I)I"⟩
abbrev cX8_count : ByteArray := prog_1_method_30_code
def yX8_count : MethodName := ⟨RX8, "count", "(I)I"⟩
abbrev cX8_refuse : ByteArray := prog_1_method_31_code
def yX8_refuse : MethodName := ⟨RX8, "refuse", "(I)I"⟩
abbrev cX8_isWord : ByteArray := prog_1_method_32_code
def yX8_isWord : MethodName := ⟨RX8, "isWord", "(I)Z"⟩
abbrev cX8_isCatalogue : ByteArray := prog_1_method_33_code
def yX8_isCatalogue : MethodName := ⟨RX8, "isCatalogue", "(I)Z"⟩
abbrev cX8_areTwo : ByteArray := prog_1_method_34_code
def yX8_areTwo : MethodName := ⟨RX8, "areTwo", "(II)Z"⟩
abbrev cX8_isThing : ByteArray := prog_1_method_35_code
def yX8_isThing : MethodName := ⟨RX8, "isThing", "(I)Z"⟩
abbrev cX8_needsTwo : ByteArray := prog_1_method_36_code
def yX8_needsTwo : MethodName := ⟨RX8, "needsTwo", "(I)Z"⟩
abbrev cX8_hasOtherBits : ByteArray := prog_1_method_37_code
def yX8_hasOtherBits : MethodName := ⟨RX8, "hasOtherBits", "(II)Z"⟩
abbrev cX8_isEntry : ByteArray := prog_1_method_38_code
def yX8_isEntry : MethodName := ⟨RX8, "isEntry", "(II)Z"⟩
abbrev cX8_daysRefusal : ByteArray := prog_1_method_39_code
def yX8_daysRefusal : MethodName := ⟨RX8, "daysRefusal", "(II)I"⟩
abbrev cX8_shelfRefusal : ByteArray := prog_1_method_40_code
def yX8_shelfRefusal : MethodName := ⟨RX8, "shelfRefusal", "(I)I"⟩
abbrev cX8_isWay : ByteArray := prog_1_method_41_code
def yX8_isWay : MethodName := ⟨RX8, "isWay", "(II)Z"⟩
abbrev cX8_followChain : ByteArray := prog_1_method_42_code
def yX8_followChain : MethodName := ⟨RX8, "followChain", "(IIII)I"⟩
abbrev cX8_bestJoining : ByteArray := prog_1_method_43_code
def yX8_bestJoining : MethodName := ⟨RX8, "bestJoining", "(II)LCabinetBooks$Joining;"⟩
abbrev cX8_bestRow : ByteArray := prog_1_method_44_code
def yX8_bestRow : MethodName := ⟨RX8, "bestRow", "(I)LCabinetBooks$Shelf;"⟩
def RX9 : String := "CabinetBooksModel"
def TX9 : u_T := fun k => match k with
  | 0 => ("CabinetBooksModel", "refusals", "[I", true)
  | 1 => ("CabinetBooksModel", "means", "[I", true)
  | 2 => ("CabinetBooksModel", "years", "[I", true)
  | 3 => ("CabinetBooksModel", "many", "[I", true)
  | 4 => ("CabinetBooksModel", "words", "[I", true)
  | 5 => ("CabinetBooksModel", "sizes", "[I", true)
  | 6 => ("CabinetBooksModel", "rooms", "[I", true)
  | 7 => ("CabinetBooksModel", "colours", "[I", true)
  | 8 => ("CabinetBooksModel", "barOne", "[I", true)
  | 9 => ("CabinetBooksModel", "barOther", "[I", true)
  | 10 => ("CabinetBooksModel", "spare", "I", false)
  | 11 => ("CabinetBooksModel", "fade", "I", false)
  | 12 => ("CabinetBooksModel", "bars", "I", false)
  | 13 => ("CabinetBooksModel", "likes", "[I", true)
  | 14 => ("CabinetBooksModel", "sum", "[I", true)
  | 15 => ("CabinetBooksModel", "joined", "[I", true)
  | 16 => ("CabinetBooksModel", "ways", "[I", true)
  | 17 => ("CabinetBooksModel", "sights", "I", false)
  | 18 => ("CabinetBooksModel", "moves", "I", false)
  | 19 => ("CabinetBooksModel", "sightThing", "[I", true)
  | 20 => ("CabinetBooksModel", "sightPlace", "[I", true)
  | 21 => ("CabinetBooksModel", "sightDay", "[I", true)
  | 22 => ("CabinetBooksModel", "sightKnown", "[I", true)
  | 23 => ("CabinetBooksModel", "sightGone", "[I", true)
  | 24 => ("CabinetBooksModel", "moveThing", "[I", true)
  | 25 => ("CabinetBooksModel", "movePerson", "[I", true)
  | 26 => ("CabinetBooksModel", "moveDay", "[I", true)
  | 27 => ("CabinetBooksModel", "moveSort", "[I", true)
  | 28 => ("CabinetBooksModel", "moveKnown", "[I", true)
  | 29 => ("CabinetBooksModel", "moveGone", "[I", true)
  | 30 => ("CabinetBooksModel", "line", "[I", true)
  | 31 => ("CabinetBooksModel", "lent", "[I", true)
  | 32 => ("CabinetBooksModel", "holder", "I", false)
  | 33 => ("CabinetBooksModel", "owner", "I", false)
  | 34 => ("CabinetBooksModel", "stolen", "I", false)
  | 35 => ("CabinetBooksModel", "visitors", "I", false)
  | 36 => ("CabinetBooksModel", "sayingSort", "[I", true)
  | 37 => ("CabinetBooksModel", "sayingX", "[I", true)
  | 38 => ("CabinetBooksModel", "sayingY", "[I", true)
  | 39 => ("CabinetBooksModel", "trust", "[I", true)
  | 40 => ("CabinetBooksModel", "things", "[I", true)
  | 41 => ("CabinetBooksModel", "rest", "[I", true)
  | 42 => ("CabinetBooksModel", "row", "[I", true)
  | 43 => ("CabinetBooksModel", "shelved", "I", false)
  | 44 => ("CabinetBooksModel", "kinds", "[I", true)
  | _ => ("CabinetBooksModel", "clashes", "[Z", true)
def tyX9 : Nat → FieldType := fun k => match k with
  | 0 => .array .int
  | 1 => .array .int
  | 2 => .array .int
  | 3 => .array .int
  | 4 => .array .int
  | 5 => .array .int
  | 6 => .array .int
  | 7 => .array .int
  | 8 => .array .int
  | 9 => .array .int
  | 10 => .int
  | 11 => .int
  | 12 => .int
  | 13 => .array .int
  | 14 => .array .int
  | 15 => .array .int
  | 16 => .array .int
  | 17 => .int
  | 18 => .int
  | 19 => .array .int
  | 20 => .array .int
  | 21 => .array .int
  | 22 => .array .int
  | 23 => .array .int
  | 24 => .array .int
  | 25 => .array .int
  | 26 => .array .int
  | 27 => .array .int
  | 28 => .array .int
  | 29 => .array .int
  | 30 => .array .int
  | 31 => .array .int
  | 32 => .int
  | 33 => .int
  | 34 => .int
  | 35 => .int
  | 36 => .array .int
  | 37 => .array .int
  | 38 => .array .int
  | 39 => .array .int
  | 40 => .array .int
  | 41 => .array .int
  | 42 => .array .int
  | 43 => .int
  | 44 => .array .int
  | _ => .array .boolean
theorem nmX9 : ∀ a, a < 46 → ∀ b, b < 46 → a ≠ b → (TX9 a).2.1 ≠ (TX9 b).2.1 := by decide +kernel
theorem tyX9_ok : ∀ k, k < 46 → parseFieldDescriptor (TX9 k).2.2.1 = some (tyX9 k) := by decide +kernel
abbrev cX9_init : ByteArray := prog_11_method_1_code
def yX9_init : MethodName := ⟨RX9, "<init>", "()V"⟩
abbrev cX9_refuse : ByteArray := prog_11_method_2_code
def yX9_refuse : MethodName := ⟨RX9, "refuse", "(I)I"⟩
abbrev cX9_isIn : ByteArray := prog_11_method_3_code
def yX9_isIn : MethodName := ⟨RX9, "isIn", "(II)Z"⟩
abbrev cX9_wrong : ByteArray := prog_11_method_4_code
def yX9_wrong : MethodName := ⟨RX9, "wrong", "(III)I"⟩
abbrev cX9_means : ByteArray := prog_11_method_5_code
def yX9_means : MethodName := ⟨RX9, "means", "(II)I"⟩
abbrev cX9_senseOf : ByteArray := prog_11_method_6_code
def yX9_senseOf : MethodName := ⟨RX9, "senseOf", "(I)I"⟩
abbrev cX9_sense : ByteArray := prog_11_method_7_code
def yX9_sense : MethodName := ⟨RX9, "sense", "(I)I"⟩
abbrev cX9_year : ByteArray := prog_11_method_8_code
def yX9_year : MethodName := ⟨RX9, "year", "(II)I"⟩
abbrev cX9_entry : ByteArray := prog_11_method_9_code
def yX9_entry : MethodName := ⟨RX9, "entry", "(IIIII)I"⟩
abbrev cX9_set : ByteArray := prog_11_method_10_code
def yX9_set : MethodName := ⟨RX9, "set", "(II)I"⟩
abbrev cX9_isEntry : ByteArray := prog_11_method_11_code
def yX9_isEntry : MethodName := ⟨RX9, "isEntry", "(II)Z"⟩
abbrev cX9_isBarred : ByteArray := prog_11_method_12_code
def yX9_isBarred : MethodName := ⟨RX9, "isBarred", "(II)Z"⟩
abbrev cX9_bar : ByteArray := prog_11_method_13_code
def yX9_bar : MethodName := ⟨RX9, "bar", "(IIII)I"⟩
abbrev cX9_senses : ByteArray := prog_11_method_14_code
def yX9_senses : MethodName := ⟨RX9, "senses", "(I)I"⟩
abbrev cX9_bitsOf : ByteArray := prog_11_method_15_code
def yX9_bitsOf : MethodName := ⟨RX9, "bitsOf", "(I)I"⟩
abbrev cX9_likeOf : ByteArray := prog_11_method_16_code
def yX9_likeOf : MethodName := ⟨RX9, "likeOf", "(IIII)I"⟩
abbrev cX9_like : ByteArray := prog_11_method_17_code
def yX9_like : MethodName := ⟨RX9, "like", "(IIII)I"⟩
abbrev cX9_areBooks : ByteArray := prog_11_method_18_code
def yX9_areBooks : MethodName := ⟨RX9, "areBooks", "(II)Z"⟩
abbrev cX9_measure : ByteArray := prog_11_method_19_code
def yX9_measure : MethodName := ⟨RX9, "measure", "(II)V"⟩
abbrev cX9_at : ByteArray := prog_11_method_20_code
def yX9_at : MethodName := ⟨RX9, "at", "(II)I"⟩
abbrev cX9_finds : ByteArray := prog_11_method_21_code
def yX9_finds : MethodName := ⟨RX9, "finds", "(II)I"⟩
abbrev cX9_joins : ByteArray := prog_11_method_22_code
def yX9_joins : MethodName := ⟨RX9, "joins", "(II)I"⟩
abbrev cX9_join : ByteArray := prog_11_method_23_code
def yX9_join : MethodName := ⟨RX9, "join", "(II)I"⟩
abbrev cX9_joined : ByteArray := prog_11_method_24_code
def yX9_joined : MethodName := ⟨RX9, "joined", "(III)I"⟩
abbrev cX9_bests : ByteArray := prog_11_method_25_code
def yX9_bests : MethodName := ⟨RX9, "bests", "(II)I"⟩
abbrev cX9_isSure : ByteArray := prog_11_method_26_code
def yX9_isSure : MethodName := ⟨RX9, "isSure", "(III)Z"⟩
abbrev cX9_sure : ByteArray := prog_11_method_27_code
def yX9_sure : MethodName := ⟨RX9, "sure", "(III)I"⟩
abbrev cX9_chain : ByteArray := prog_11_method_28_code
def yX9_chain : MethodName := ⟨RX9, "chain", "(IIII)I"⟩
abbrev cX9_copied : ByteArray := prog_11_method_29_code
def yX9_copied : MethodName := ⟨RX9, "copied", "(III)I"⟩
abbrev cX9_wrongDays : ByteArray := prog_11_method_30_code
def yX9_wrongDays : MethodName := ⟨RX9, "wrongDays", "(II)I"⟩
abbrev cX9_sight : ByteArray := prog_11_method_31_code
def yX9_sight : MethodName := ⟨RX9, "sight", "(IIII)I"⟩
abbrev cX9_move : ByteArray := prog_11_method_32_code
def yX9_move : MethodName := ⟨RX9, "move", "(IIIII)I"⟩
abbrev cX9_withdraw : ByteArray := prog_11_method_33_code
def yX9_withdraw : MethodName := ⟨RX9, "withdraw", "(ZII)I"⟩
abbrev cX9_isSight : ByteArray := prog_11_method_34_code
def yX9_isSight : MethodName := ⟨RX9, "isSight", "(III)Z"⟩
abbrev cX9_isMove : ByteArray := prog_11_method_35_code
def yX9_isMove : MethodName := ⟨RX9, "isMove", "(III)Z"⟩
abbrev cX9_where : ByteArray := prog_11_method_36_code
def yX9_where : MethodName := ⟨RX9, "where", "(III)I"⟩
abbrev cX9_quarrels : ByteArray := prog_11_method_37_code
def yX9_quarrels : MethodName := ⟨RX9, "quarrels", "(II)I"⟩
abbrev cX9_goes : ByteArray := prog_11_method_38_code
def yX9_goes : MethodName := ⟨RX9, "goes", "(III)V"⟩
abbrev cX9_holds : ByteArray := prog_11_method_39_code
def yX9_holds : MethodName := ⟨RX9, "holds", "(IIII)I"⟩
abbrev cX9_since : ByteArray := prog_11_method_40_code
def yX9_since : MethodName := ⟨RX9, "since", "(III)I"⟩
abbrev cX9_changed : ByteArray := prog_11_method_41_code
def yX9_changed : MethodName := ⟨RX9, "changed", "(II)I"⟩
abbrev cX9_visitor : ByteArray := prog_11_method_42_code
def yX9_visitor : MethodName := ⟨RX9, "visitor", "(IIII)I"⟩
abbrev cX9_wrongShelf : ByteArray := prog_11_method_43_code
def yX9_wrongShelf : MethodName := ⟨RX9, "wrongShelf", "(I)I"⟩
abbrev cX9_wins : ByteArray := prog_11_method_44_code
def yX9_wins : MethodName := ⟨RX9, "wins", "(IIII)I"⟩
abbrev cX9_stands : ByteArray := prog_11_method_45_code
def yX9_stands : MethodName := ⟨RX9, "stands", "(II)Z"⟩
abbrev cX9_shelves : ByteArray := prog_11_method_46_code
def yX9_shelves : MethodName := ⟨RX9, "shelves", "(I)I"⟩
abbrev cX9_shelf : ByteArray := prog_11_method_47_code
def yX9_shelf : MethodName := ⟨RX9, "shelf", "(I)I"⟩
abbrev cX9_row : ByteArray := prog_11_method_48_code
def yX9_row : MethodName := ⟨RX9, "row", "(II)I"⟩
abbrev cX9_quarrel : ByteArray := prog_11_method_49_code
def yX9_quarrel : MethodName := ⟨RX9, "quarrel", "(I)I"⟩
abbrev cX9_part : ByteArray := prog_11_method_50_code
def yX9_part : MethodName := ⟨RX9, "part", "(II)I"⟩
abbrev cX9_clash : ByteArray := prog_11_method_51_code
def yX9_clash : MethodName := ⟨RX9, "clash", "(IIZ)I"⟩
abbrev cX9_isFake : ByteArray := prog_11_method_52_code
def yX9_isFake : MethodName := ⟨RX9, "isFake", "(I)Z"⟩
abbrev cX9_isBeast : ByteArray := prog_11_method_53_code
def yX9_isBeast : MethodName := ⟨RX9, "isBeast", "(I)Z"⟩
abbrev cX9_fake : ByteArray := prog_11_method_54_code
def yX9_fake : MethodName := ⟨RX9, "fake", "(I)I"⟩
abbrev cX9_least : ByteArray := prog_11_method_55_code
def yX9_least : MethodName := ⟨RX9, "least", "(I)I"⟩
abbrev cX9_count : ByteArray := prog_11_method_56_code
def yX9_count : MethodName := ⟨RX9, "count", "(I)I"⟩
def RJ6 : String := "java/lang/Integer"
def TJ6 : u_T := fun k => match k with
  | _ => ("", "", "", false)
def tyJ6 : Nat → FieldType := fun k => match k with
  | _ => .int
theorem nmJ6 : ∀ a, a < 0 → ∀ b, b < 0 → a ≠ b → (TJ6 a).2.1 ≠ (TJ6 b).2.1 := by decide +kernel
theorem tyJ6_ok : ∀ k, k < 0 → parseFieldDescriptor (TJ6 k).2.2.1 = some (tyJ6 k) := by decide +kernel
abbrev cJ6_bitCount_0f7a4 : ByteArray := prog_12_method_49_code
def yJ6_bitCount_0f7a4 : MethodName := ⟨RJ6, "bitCount", "(I)I"⟩
def RJ9 : String := "java/lang/Math"
def TJ9 : u_T := fun k => match k with
  | _ => ("", "", "", false)
def tyJ9 : Nat → FieldType := fun k => match k with
  | _ => .int
theorem nmJ9 : ∀ a, a < 0 → ∀ b, b < 0 → a ≠ b → (TJ9 a).2.1 ≠ (TJ9 b).2.1 := by decide +kernel
theorem tyJ9_ok : ∀ k, k < 0 → parseFieldDescriptor (TJ9 k).2.2.1 = some (tyJ9 k) := by decide +kernel
abbrev cJ9_abs_0f7a4 : ByteArray := prog_13_method_59_code
def yJ9_abs_0f7a4 : MethodName := ⟨RJ9, "abs", "(I)I"⟩
abbrev cJ9_max_7cf53 : ByteArray := prog_13_method_65_code
def yJ9_max_7cf53 : MethodName := ⟨RJ9, "max", "(II)I"⟩
abbrev cJ9_min_7cf53 : ByteArray := prog_13_method_69_code
def yJ9_min_7cf53 : MethodName := ⟨RJ9, "min", "(II)I"⟩
def RL : String := "CabinetBooksLaw"
abbrev cL_law : ByteArray := code
def yL_law : MethodName := ⟨RL, "law", "([I)Z"⟩
abbrev vwCl : List vw_C := [(RX0, TX0, 3), (RX1, TX1, 14), (RX2, TX2, 5), (RX3, TX3, 7), (RX4, TX4, 5), (RX5, TX5, 9), (RX6, TX6, 5), (RX7, TX7, 14), (RX8, TX8, 10), (RX9, TX9, 46)]
end
section
theorem dX0_init_0 : decode cX0_init 0 = .ok (.aload_n 0, 1) := by decide +kernel
theorem dX0_init_1 : decode cX0_init 1 = .ok (.invokespecial 3, 3) := by decide +kernel
theorem dX0_init_4 : decode cX0_init 4 = .ok (.aload_n 0, 1) := by decide +kernel
theorem dX0_init_5 : decode cX0_init 5 = .ok (.bipush 10, 2) := by decide +kernel
theorem dX0_init_7 : decode cX0_init 7 = .ok (.newarray .int, 2) := by decide +kernel
theorem dX0_init_9 : decode cX0_init 9 = .ok (.putfield 9, 3) := by decide +kernel
theorem dX0_init_12 : decode cX0_init 12 = .ok (.aload_n 0, 1) := by decide +kernel
theorem dX0_init_13 : decode cX0_init 13 = .ok (.bipush 6, 2) := by decide +kernel
theorem dX0_init_15 : decode cX0_init 15 = .ok (.newarray .int, 2) := by decide +kernel
theorem dX0_init_17 : decode cX0_init 17 = .ok (.putfield 15, 3) := by decide +kernel
theorem dX0_init_20 : decode cX0_init 20 = .ok (.aload_n 0, 1) := by decide +kernel
theorem dX0_init_21 : decode cX0_init 21 = .ok (.iconst 0, 1) := by decide +kernel
theorem dX0_init_22 : decode cX0_init 22 = .ok (.putfield 18, 3) := by decide +kernel
theorem dX0_init_25 : decode cX0_init 25 = .ok (.return_, 1) := by decide +kernel
theorem dX0_tellKind_0 : decode cX0_tellKind 0 = .ok (.aload_n 0, 1) := by decide +kernel
theorem dX0_tellKind_1 : decode cX0_tellKind 1 = .ok (.getfield 9, 3) := by decide +kernel
theorem dX0_tellKind_4 : decode cX0_tellKind 4 = .ok (.iload_n 1, 1) := by decide +kernel
theorem dX0_tellKind_5 : decode cX0_tellKind 5 = .ok (.iaload, 1) := by decide +kernel
theorem dX0_tellKind_6 : decode cX0_tellKind 6 = .ok (.istore_n 3, 1) := by decide +kernel
theorem dX0_tellKind_7 : decode cX0_tellKind 7 = .ok (.aload_n 0, 1) := by decide +kernel
theorem dX0_tellKind_8 : decode cX0_tellKind 8 = .ok (.getfield 9, 3) := by decide +kernel
theorem dX0_tellKind_11 : decode cX0_tellKind 11 = .ok (.iload_n 1, 1) := by decide +kernel
theorem dX0_tellKind_12 : decode cX0_tellKind 12 = .ok (.iload_n 2, 1) := by decide +kernel
theorem dX0_tellKind_13 : decode cX0_tellKind 13 = .ok (.iastore, 1) := by decide +kernel
theorem dX0_tellKind_14 : decode cX0_tellKind 14 = .ok (.iload_n 3, 1) := by decide +kernel
theorem dX0_tellKind_15 : decode cX0_tellKind 15 = .ok (.ireturn, 1) := by decide +kernel
theorem dX0_tellClash_0 : decode cX0_tellClash 0 = .ok (.aload_n 0, 1) := by decide +kernel
theorem dX0_tellClash_1 : decode cX0_tellClash 1 = .ok (.getfield 15, 3) := by decide +kernel
theorem dX0_tellClash_4 : decode cX0_tellClash 4 = .ok (.iload_n 1, 1) := by decide +kernel
theorem dX0_tellClash_5 : decode cX0_tellClash 5 = .ok (.iaload, 1) := by decide +kernel
theorem dX0_tellClash_6 : decode cX0_tellClash 6 = .ok (.iload_n 2, 1) := by decide +kernel
theorem dX0_tellClash_7 : decode cX0_tellClash 7 = .ok (.ishr, 1) := by decide +kernel
theorem dX0_tellClash_8 : decode cX0_tellClash 8 = .ok (.iconst 1, 1) := by decide +kernel
theorem dX0_tellClash_9 : decode cX0_tellClash 9 = .ok (.iand, 1) := by decide +kernel
theorem dX0_tellClash_10 : decode cX0_tellClash 10 = .ok (.ifCond .eq 7, 3) := by decide +kernel
theorem dX0_tellClash_13 : decode cX0_tellClash 13 = .ok (.iconst 1, 1) := by decide +kernel
theorem dX0_tellClash_14 : decode cX0_tellClash 14 = .ok (.goto 4, 3) := by decide +kernel
theorem dX0_tellClash_17 : decode cX0_tellClash 17 = .ok (.iconst 0, 1) := by decide +kernel
theorem dX0_tellClash_18 : decode cX0_tellClash 18 = .ok (.istore 4, 2) := by decide +kernel
theorem dX0_tellClash_20 : decode cX0_tellClash 20 = .ok (.iload 4, 2) := by decide +kernel
theorem dX0_tellClash_22 : decode cX0_tellClash 22 = .ok (.iload_n 3, 1) := by decide +kernel
theorem dX0_tellClash_23 : decode cX0_tellClash 23 = .ok (.if_icmp .ne 5, 3) := by decide +kernel
theorem dX0_tellClash_26 : decode cX0_tellClash 26 = .ok (.iconst 0, 1) := by decide +kernel
theorem dX0_tellClash_27 : decode cX0_tellClash 27 = .ok (.ireturn, 1) := by decide +kernel
theorem dX0_tellClash_28 : decode cX0_tellClash 28 = .ok (.aload_n 0, 1) := by decide +kernel
theorem dX0_tellClash_29 : decode cX0_tellClash 29 = .ok (.getfield 15, 3) := by decide +kernel
theorem dX0_tellClash_32 : decode cX0_tellClash 32 = .ok (.iload_n 1, 1) := by decide +kernel
theorem dX0_tellClash_33 : decode cX0_tellClash 33 = .ok (.dup2, 1) := by decide +kernel
theorem dX0_tellClash_34 : decode cX0_tellClash 34 = .ok (.iaload, 1) := by decide +kernel
theorem dX0_tellClash_35 : decode cX0_tellClash 35 = .ok (.iconst 1, 1) := by decide +kernel
theorem dX0_tellClash_36 : decode cX0_tellClash 36 = .ok (.iload_n 2, 1) := by decide +kernel
theorem dX0_tellClash_37 : decode cX0_tellClash 37 = .ok (.ishl, 1) := by decide +kernel
theorem dX0_tellClash_38 : decode cX0_tellClash 38 = .ok (.ixor, 1) := by decide +kernel
theorem dX0_tellClash_39 : decode cX0_tellClash 39 = .ok (.iastore, 1) := by decide +kernel
theorem dX0_tellClash_40 : decode cX0_tellClash 40 = .ok (.aload_n 0, 1) := by decide +kernel
theorem dX0_tellClash_41 : decode cX0_tellClash 41 = .ok (.getfield 15, 3) := by decide +kernel
theorem dX0_tellClash_44 : decode cX0_tellClash 44 = .ok (.iload_n 2, 1) := by decide +kernel
theorem dX0_tellClash_45 : decode cX0_tellClash 45 = .ok (.dup2, 1) := by decide +kernel
theorem dX0_tellClash_46 : decode cX0_tellClash 46 = .ok (.iaload, 1) := by decide +kernel
theorem dX0_tellClash_47 : decode cX0_tellClash 47 = .ok (.iconst 1, 1) := by decide +kernel
theorem dX0_tellClash_48 : decode cX0_tellClash 48 = .ok (.iload_n 1, 1) := by decide +kernel
theorem dX0_tellClash_49 : decode cX0_tellClash 49 = .ok (.ishl, 1) := by decide +kernel
theorem dX0_tellClash_50 : decode cX0_tellClash 50 = .ok (.ixor, 1) := by decide +kernel
theorem dX0_tellClash_51 : decode cX0_tellClash 51 = .ok (.iastore, 1) := by decide +kernel
theorem dX0_tellClash_52 : decode cX0_tellClash 52 = .ok (.aload_n 0, 1) := by decide +kernel
theorem dX0_tellClash_53 : decode cX0_tellClash 53 = .ok (.dup, 1) := by decide +kernel
theorem dX0_tellClash_54 : decode cX0_tellClash 54 = .ok (.getfield 18, 3) := by decide +kernel
theorem dX0_tellClash_57 : decode cX0_tellClash 57 = .ok (.iload_n 3, 1) := by decide +kernel
theorem dX0_tellClash_58 : decode cX0_tellClash 58 = .ok (.ifCond .eq 7, 3) := by decide +kernel
theorem dX0_tellClash_61 : decode cX0_tellClash 61 = .ok (.iconst 1, 1) := by decide +kernel
theorem dX0_tellClash_62 : decode cX0_tellClash 62 = .ok (.goto 4, 3) := by decide +kernel
theorem dX0_tellClash_65 : decode cX0_tellClash 65 = .ok (.iconst (-1), 1) := by decide +kernel
theorem dX0_tellClash_66 : decode cX0_tellClash 66 = .ok (.iadd, 1) := by decide +kernel
theorem dX0_tellClash_67 : decode cX0_tellClash 67 = .ok (.putfield 18, 3) := by decide +kernel
theorem dX0_tellClash_70 : decode cX0_tellClash 70 = .ok (.iconst 1, 1) := by decide +kernel
theorem dX0_tellClash_71 : decode cX0_tellClash 71 = .ok (.ireturn, 1) := by decide +kernel
theorem dX0_isFake_0 : decode cX0_isFake 0 = .ok (.iconst 0, 1) := by decide +kernel
theorem dX0_isFake_1 : decode cX0_isFake 1 = .ok (.istore_n 2, 1) := by decide +kernel
theorem dX0_isFake_2 : decode cX0_isFake 2 = .ok (.iconst 0, 1) := by decide +kernel
theorem dX0_isFake_3 : decode cX0_isFake 3 = .ok (.istore_n 3, 1) := by decide +kernel
theorem dX0_isFake_4 : decode cX0_isFake 4 = .ok (.iconst 0, 1) := by decide +kernel
theorem dX0_isFake_5 : decode cX0_isFake 5 = .ok (.istore 4, 2) := by decide +kernel
theorem dX0_isFake_7 : decode cX0_isFake 7 = .ok (.iload 4, 2) := by decide +kernel
theorem dX0_isFake_9 : decode cX0_isFake 9 = .ok (.bipush 10, 2) := by decide +kernel
theorem dX0_isFake_11 : decode cX0_isFake 11 = .ok (.if_icmp .ge 45, 3) := by decide +kernel
theorem dX0_isFake_14 : decode cX0_isFake 14 = .ok (.iload_n 1, 1) := by decide +kernel
theorem dX0_isFake_15 : decode cX0_isFake 15 = .ok (.iload 4, 2) := by decide +kernel
theorem dX0_isFake_17 : decode cX0_isFake 17 = .ok (.ishr, 1) := by decide +kernel
theorem dX0_isFake_18 : decode cX0_isFake 18 = .ok (.iconst 1, 1) := by decide +kernel
theorem dX0_isFake_19 : decode cX0_isFake 19 = .ok (.iand, 1) := by decide +kernel
theorem dX0_isFake_20 : decode cX0_isFake 20 = .ok (.ifCond .eq 30, 3) := by decide +kernel
theorem dX0_isFake_23 : decode cX0_isFake 23 = .ok (.iload_n 2, 1) := by decide +kernel
theorem dX0_isFake_24 : decode cX0_isFake 24 = .ok (.iconst 1, 1) := by decide +kernel
theorem dX0_isFake_25 : decode cX0_isFake 25 = .ok (.aload_n 0, 1) := by decide +kernel
theorem dX0_isFake_26 : decode cX0_isFake 26 = .ok (.getfield 9, 3) := by decide +kernel
theorem dX0_isFake_29 : decode cX0_isFake 29 = .ok (.iload 4, 2) := by decide +kernel
theorem dX0_isFake_31 : decode cX0_isFake 31 = .ok (.iaload, 1) := by decide +kernel
theorem dX0_isFake_32 : decode cX0_isFake 32 = .ok (.ishl, 1) := by decide +kernel
theorem dX0_isFake_33 : decode cX0_isFake 33 = .ok (.ior, 1) := by decide +kernel
theorem dX0_isFake_34 : decode cX0_isFake 34 = .ok (.istore_n 2, 1) := by decide +kernel
theorem dX0_isFake_35 : decode cX0_isFake 35 = .ok (.iload_n 3, 1) := by decide +kernel
theorem dX0_isFake_36 : decode cX0_isFake 36 = .ok (.aload_n 0, 1) := by decide +kernel
theorem dX0_isFake_37 : decode cX0_isFake 37 = .ok (.getfield 15, 3) := by decide +kernel
theorem dX0_isFake_40 : decode cX0_isFake 40 = .ok (.aload_n 0, 1) := by decide +kernel
theorem dX0_isFake_41 : decode cX0_isFake 41 = .ok (.getfield 9, 3) := by decide +kernel
theorem dX0_isFake_44 : decode cX0_isFake 44 = .ok (.iload 4, 2) := by decide +kernel
theorem dX0_isFake_46 : decode cX0_isFake 46 = .ok (.iaload, 1) := by decide +kernel
theorem dX0_isFake_47 : decode cX0_isFake 47 = .ok (.iaload, 1) := by decide +kernel
theorem dX0_isFake_48 : decode cX0_isFake 48 = .ok (.ior, 1) := by decide +kernel
theorem dX0_isFake_49 : decode cX0_isFake 49 = .ok (.istore_n 3, 1) := by decide +kernel
theorem dX0_isFake_50 : decode cX0_isFake 50 = .ok (.iinc 4 1, 3) := by decide +kernel
theorem dX0_isFake_53 : decode cX0_isFake 53 = .ok (.goto (-46), 3) := by decide +kernel
theorem dX0_isFake_56 : decode cX0_isFake 56 = .ok (.iload_n 2, 1) := by decide +kernel
theorem dX0_isFake_57 : decode cX0_isFake 57 = .ok (.iload_n 3, 1) := by decide +kernel
theorem dX0_isFake_58 : decode cX0_isFake 58 = .ok (.iand, 1) := by decide +kernel
theorem dX0_isFake_59 : decode cX0_isFake 59 = .ok (.ifCond .eq 7, 3) := by decide +kernel
theorem dX0_isFake_62 : decode cX0_isFake 62 = .ok (.iconst 1, 1) := by decide +kernel
theorem dX0_isFake_63 : decode cX0_isFake 63 = .ok (.goto 4, 3) := by decide +kernel
theorem dX0_isFake_66 : decode cX0_isFake 66 = .ok (.iconst 0, 1) := by decide +kernel
theorem dX0_isFake_67 : decode cX0_isFake 67 = .ok (.ireturn, 1) := by decide +kernel
theorem dX0_leastWithout_0 : decode cX0_leastWithout 0 = .ok (.iload_n 1, 1) := by decide +kernel
theorem dX0_leastWithout_1 : decode cX0_leastWithout 1 = .ok (.istore_n 2, 1) := by decide +kernel
theorem dX0_leastWithout_2 : decode cX0_leastWithout 2 = .ok (.iconst 0, 1) := by decide +kernel
theorem dX0_leastWithout_3 : decode cX0_leastWithout 3 = .ok (.istore_n 3, 1) := by decide +kernel
theorem dX0_leastWithout_4 : decode cX0_leastWithout 4 = .ok (.iload_n 3, 1) := by decide +kernel
theorem dX0_leastWithout_5 : decode cX0_leastWithout 5 = .ok (.iload_n 1, 1) := by decide +kernel
theorem dX0_leastWithout_6 : decode cX0_leastWithout 6 = .ok (.if_icmp .ge 53, 3) := by decide +kernel
theorem dX0_leastWithout_9 : decode cX0_leastWithout 9 = .ok (.iload_n 3, 1) := by decide +kernel
theorem dX0_leastWithout_10 : decode cX0_leastWithout 10 = .ok (.iload_n 1, 1) := by decide +kernel
theorem dX0_leastWithout_11 : decode cX0_leastWithout 11 = .ok (.iand, 1) := by decide +kernel
theorem dX0_leastWithout_12 : decode cX0_leastWithout 12 = .ok (.iload_n 3, 1) := by decide +kernel
theorem dX0_leastWithout_13 : decode cX0_leastWithout 13 = .ok (.if_icmp .ne 7, 3) := by decide +kernel
theorem dX0_leastWithout_16 : decode cX0_leastWithout 16 = .ok (.iconst 1, 1) := by decide +kernel
theorem dX0_leastWithout_17 : decode cX0_leastWithout 17 = .ok (.goto 4, 3) := by decide +kernel
theorem dX0_leastWithout_20 : decode cX0_leastWithout 20 = .ok (.iconst 0, 1) := by decide +kernel
theorem dX0_leastWithout_21 : decode cX0_leastWithout 21 = .ok (.istore 4, 2) := by decide +kernel
theorem dX0_leastWithout_23 : decode cX0_leastWithout 23 = .ok (.iload 4, 2) := by decide +kernel
theorem dX0_leastWithout_25 : decode cX0_leastWithout 25 = .ok (.ifCond .eq 28, 3) := by decide +kernel
theorem dX0_leastWithout_28 : decode cX0_leastWithout 28 = .ok (.iload_n 3, 1) := by decide +kernel
theorem dX0_leastWithout_29 : decode cX0_leastWithout 29 = .ok (.invokestatic 22, 3) := by decide +kernel
theorem dX0_leastWithout_32 : decode cX0_leastWithout 32 = .ok (.iload_n 2, 1) := by decide +kernel
theorem dX0_leastWithout_33 : decode cX0_leastWithout 33 = .ok (.invokestatic 22, 3) := by decide +kernel
theorem dX0_leastWithout_36 : decode cX0_leastWithout 36 = .ok (.if_icmp .ge 17, 3) := by decide +kernel
theorem dX0_leastWithout_39 : decode cX0_leastWithout 39 = .ok (.aload_n 0, 1) := by decide +kernel
theorem dX0_leastWithout_40 : decode cX0_leastWithout 40 = .ok (.iload_n 1, 1) := by decide +kernel
theorem dX0_leastWithout_41 : decode cX0_leastWithout 41 = .ok (.iload_n 3, 1) := by decide +kernel
theorem dX0_leastWithout_42 : decode cX0_leastWithout 42 = .ok (.iconst (-1), 1) := by decide +kernel
theorem dX0_leastWithout_43 : decode cX0_leastWithout 43 = .ok (.ixor, 1) := by decide +kernel
theorem dX0_leastWithout_44 : decode cX0_leastWithout 44 = .ok (.iand, 1) := by decide +kernel
theorem dX0_leastWithout_45 : decode cX0_leastWithout 45 = .ok (.invokevirtual 28, 3) := by decide +kernel
theorem dX0_leastWithout_48 : decode cX0_leastWithout 48 = .ok (.ifCond .ne 5, 3) := by decide +kernel
theorem dX0_leastWithout_51 : decode cX0_leastWithout 51 = .ok (.iload_n 3, 1) := by decide +kernel
theorem dX0_leastWithout_52 : decode cX0_leastWithout 52 = .ok (.istore_n 2, 1) := by decide +kernel
theorem dX0_leastWithout_53 : decode cX0_leastWithout 53 = .ok (.iinc 3 1, 3) := by decide +kernel
theorem dX0_leastWithout_56 : decode cX0_leastWithout 56 = .ok (.goto (-52), 3) := by decide +kernel
theorem dX0_leastWithout_59 : decode cX0_leastWithout 59 = .ok (.iload_n 2, 1) := by decide +kernel
theorem dX0_leastWithout_60 : decode cX0_leastWithout 60 = .ok (.ireturn, 1) := by decide +kernel
theorem dX1_init_0 : decode cX1_init 0 = .ok (.aload_n 0, 1) := by decide +kernel
theorem dX1_init_1 : decode cX1_init 1 = .ok (.invokespecial 3, 3) := by decide +kernel
theorem dX1_init_4 : decode cX1_init 4 = .ok (.aload_n 0, 1) := by decide +kernel
theorem dX1_init_5 : decode cX1_init 5 = .ok (.bipush 20, 2) := by decide +kernel
theorem dX1_init_7 : decode cX1_init 7 = .ok (.newarray .int, 2) := by decide +kernel
theorem dX1_init_9 : decode cX1_init 9 = .ok (.putfield 9, 3) := by decide +kernel
theorem dX1_init_12 : decode cX1_init 12 = .ok (.aload_n 0, 1) := by decide +kernel
theorem dX1_init_13 : decode cX1_init 13 = .ok (.bipush 20, 2) := by decide +kernel
theorem dX1_init_15 : decode cX1_init 15 = .ok (.newarray .int, 2) := by decide +kernel
theorem dX1_init_17 : decode cX1_init 17 = .ok (.putfield 15, 3) := by decide +kernel
theorem dX1_init_20 : decode cX1_init 20 = .ok (.aload_n 0, 1) := by decide +kernel
theorem dX1_init_21 : decode cX1_init 21 = .ok (.iconst 4, 1) := by decide +kernel
theorem dX1_init_22 : decode cX1_init 22 = .ok (.newarray .int, 2) := by decide +kernel
theorem dX1_init_24 : decode cX1_init 24 = .ok (.putfield 18, 3) := by decide +kernel
theorem dX1_init_27 : decode cX1_init 27 = .ok (.aload_n 0, 1) := by decide +kernel
theorem dX1_init_28 : decode cX1_init 28 = .ok (.iconst 4, 1) := by decide +kernel
theorem dX1_init_29 : decode cX1_init 29 = .ok (.newarray .int, 2) := by decide +kernel
theorem dX1_init_31 : decode cX1_init 31 = .ok (.putfield 21, 3) := by decide +kernel
theorem dX1_init_34 : decode cX1_init 34 = .ok (.aload_n 0, 1) := by decide +kernel
theorem dX1_init_35 : decode cX1_init 35 = .ok (.bipush 40, 2) := by decide +kernel
theorem dX1_init_37 : decode cX1_init 37 = .ok (.newarray .int, 2) := by decide +kernel
theorem dX1_init_39 : decode cX1_init 39 = .ok (.putfield 24, 3) := by decide +kernel
theorem dX1_init_42 : decode cX1_init 42 = .ok (.aload_n 0, 1) := by decide +kernel
theorem dX1_init_43 : decode cX1_init 43 = .ok (.bipush 40, 2) := by decide +kernel
theorem dX1_init_45 : decode cX1_init 45 = .ok (.newarray .int, 2) := by decide +kernel
theorem dX1_init_47 : decode cX1_init 47 = .ok (.putfield 27, 3) := by decide +kernel
theorem dX1_init_50 : decode cX1_init 50 = .ok (.aload_n 0, 1) := by decide +kernel
theorem dX1_init_51 : decode cX1_init 51 = .ok (.bipush 40, 2) := by decide +kernel
theorem dX1_init_53 : decode cX1_init 53 = .ok (.newarray .int, 2) := by decide +kernel
theorem dX1_init_55 : decode cX1_init 55 = .ok (.putfield 30, 3) := by decide +kernel
theorem dX1_init_58 : decode cX1_init 58 = .ok (.aload_n 0, 1) := by decide +kernel
theorem dX1_init_59 : decode cX1_init 59 = .ok (.bipush 40, 2) := by decide +kernel
theorem dX1_init_61 : decode cX1_init 61 = .ok (.newarray .int, 2) := by decide +kernel
theorem dX1_init_63 : decode cX1_init 63 = .ok (.putfield 33, 3) := by decide +kernel
theorem dX1_init_66 : decode cX1_init 66 = .ok (.aload_n 0, 1) := by decide +kernel
theorem dX1_init_67 : decode cX1_init 67 = .ok (.bipush 40, 2) := by decide +kernel
theorem dX1_init_69 : decode cX1_init 69 = .ok (.newarray .int, 2) := by decide +kernel
theorem dX1_init_71 : decode cX1_init 71 = .ok (.putfield 36, 3) := by decide +kernel
theorem dX1_init_74 : decode cX1_init 74 = .ok (.aload_n 0, 1) := by decide +kernel
theorem dX1_init_75 : decode cX1_init 75 = .ok (.bipush 40, 2) := by decide +kernel
theorem dX1_init_77 : decode cX1_init 77 = .ok (.newarray .long, 2) := by decide +kernel
theorem dX1_init_79 : decode cX1_init 79 = .ok (.putfield 39, 3) := by decide +kernel
theorem dX1_init_82 : decode cX1_init 82 = .ok (.aload_n 0, 1) := by decide +kernel
theorem dX1_init_83 : decode cX1_init 83 = .ok (.iconst 0, 1) := by decide +kernel
theorem dX1_init_84 : decode cX1_init 84 = .ok (.putfield 43, 3) := by decide +kernel
theorem dX1_init_87 : decode cX1_init 87 = .ok (.aload_n 0, 1) := by decide +kernel
theorem dX1_init_88 : decode cX1_init 88 = .ok (.iconst 5, 1) := by decide +kernel
theorem dX1_init_89 : decode cX1_init 89 = .ok (.putfield 47, 3) := by decide +kernel
theorem dX1_init_92 : decode cX1_init 92 = .ok (.aload_n 0, 1) := by decide +kernel
theorem dX1_init_93 : decode cX1_init 93 = .ok (.iconst 1, 1) := by decide +kernel
theorem dX1_init_94 : decode cX1_init 94 = .ok (.putfield 50, 3) := by decide +kernel
theorem dX1_init_97 : decode cX1_init 97 = .ok (.aload_n 0, 1) := by decide +kernel
theorem dX1_init_98 : decode cX1_init 98 = .ok (.iconst 1, 1) := by decide +kernel
theorem dX1_init_99 : decode cX1_init 99 = .ok (.putfield 53, 3) := by decide +kernel
theorem dX1_init_102 : decode cX1_init 102 = .ok (.iconst 0, 1) := by decide +kernel
theorem dX1_init_103 : decode cX1_init 103 = .ok (.istore_n 1, 1) := by decide +kernel
theorem dX1_init_104 : decode cX1_init 104 = .ok (.iload_n 1, 1) := by decide +kernel
theorem dX1_init_105 : decode cX1_init 105 = .ok (.bipush 20, 2) := by decide +kernel
theorem dX1_init_107 : decode cX1_init 107 = .ok (.if_icmp .ge 23, 3) := by decide +kernel
theorem dX1_init_110 : decode cX1_init 110 = .ok (.aload_n 0, 1) := by decide +kernel
theorem dX1_init_111 : decode cX1_init 111 = .ok (.getfield 9, 3) := by decide +kernel
theorem dX1_init_114 : decode cX1_init 114 = .ok (.iload_n 1, 1) := by decide +kernel
theorem dX1_init_115 : decode cX1_init 115 = .ok (.iload_n 1, 1) := by decide +kernel
theorem dX1_init_116 : decode cX1_init 116 = .ok (.iastore, 1) := by decide +kernel
theorem dX1_init_117 : decode cX1_init 117 = .ok (.aload_n 0, 1) := by decide +kernel
theorem dX1_init_118 : decode cX1_init 118 = .ok (.getfield 15, 3) := by decide +kernel
theorem dX1_init_121 : decode cX1_init 121 = .ok (.iload_n 1, 1) := by decide +kernel
theorem dX1_init_122 : decode cX1_init 122 = .ok (.iload_n 1, 1) := by decide +kernel
theorem dX1_init_123 : decode cX1_init 123 = .ok (.iastore, 1) := by decide +kernel
theorem dX1_init_124 : decode cX1_init 124 = .ok (.iinc 1 1, 3) := by decide +kernel
theorem dX1_init_127 : decode cX1_init 127 = .ok (.goto (-23), 3) := by decide +kernel
theorem dX1_init_130 : decode cX1_init 130 = .ok (.iconst 0, 1) := by decide +kernel
theorem dX1_init_131 : decode cX1_init 131 = .ok (.istore_n 1, 1) := by decide +kernel
theorem dX1_init_132 : decode cX1_init 132 = .ok (.iload_n 1, 1) := by decide +kernel
theorem dX1_init_133 : decode cX1_init 133 = .ok (.iconst 4, 1) := by decide +kernel
theorem dX1_init_134 : decode cX1_init 134 = .ok (.if_icmp .ge 18, 3) := by decide +kernel
theorem dX1_init_137 : decode cX1_init 137 = .ok (.aload_n 0, 1) := by decide +kernel
theorem dX1_init_138 : decode cX1_init 138 = .ok (.getfield 18, 3) := by decide +kernel
theorem dX1_init_141 : decode cX1_init 141 = .ok (.iload_n 1, 1) := by decide +kernel
theorem dX1_init_142 : decode cX1_init 142 = .ok (.sipush 1500, 3) := by decide +kernel
theorem dX1_init_145 : decode cX1_init 145 = .ok (.iastore, 1) := by decide +kernel
theorem dX1_init_146 : decode cX1_init 146 = .ok (.iinc 1 1, 3) := by decide +kernel
theorem dX1_init_149 : decode cX1_init 149 = .ok (.goto (-17), 3) := by decide +kernel
theorem dX1_init_152 : decode cX1_init 152 = .ok (.return_, 1) := by decide +kernel
theorem dX1_tellMeaning_0 : decode cX1_tellMeaning 0 = .ok (.aload_n 0, 1) := by decide +kernel
theorem dX1_tellMeaning_1 : decode cX1_tellMeaning 1 = .ok (.getfield 9, 3) := by decide +kernel
theorem dX1_tellMeaning_4 : decode cX1_tellMeaning 4 = .ok (.iload_n 1, 1) := by decide +kernel
theorem dX1_tellMeaning_5 : decode cX1_tellMeaning 5 = .ok (.iaload, 1) := by decide +kernel
theorem dX1_tellMeaning_6 : decode cX1_tellMeaning 6 = .ok (.istore_n 3, 1) := by decide +kernel
theorem dX1_tellMeaning_7 : decode cX1_tellMeaning 7 = .ok (.aload_n 0, 1) := by decide +kernel
theorem dX1_tellMeaning_8 : decode cX1_tellMeaning 8 = .ok (.getfield 9, 3) := by decide +kernel
theorem dX1_tellMeaning_11 : decode cX1_tellMeaning 11 = .ok (.iload_n 1, 1) := by decide +kernel
theorem dX1_tellMeaning_12 : decode cX1_tellMeaning 12 = .ok (.iload_n 2, 1) := by decide +kernel
theorem dX1_tellMeaning_13 : decode cX1_tellMeaning 13 = .ok (.iastore, 1) := by decide +kernel
theorem dX1_tellMeaning_14 : decode cX1_tellMeaning 14 = .ok (.iconst 0, 1) := by decide +kernel
theorem dX1_tellMeaning_15 : decode cX1_tellMeaning 15 = .ok (.istore 4, 2) := by decide +kernel
theorem dX1_tellMeaning_17 : decode cX1_tellMeaning 17 = .ok (.iload 4, 2) := by decide +kernel
theorem dX1_tellMeaning_19 : decode cX1_tellMeaning 19 = .ok (.bipush 20, 2) := by decide +kernel
theorem dX1_tellMeaning_21 : decode cX1_tellMeaning 21 = .ok (.if_icmp .ge 45, 3) := by decide +kernel
theorem dX1_tellMeaning_24 : decode cX1_tellMeaning 24 = .ok (.aload_n 0, 1) := by decide +kernel
theorem dX1_tellMeaning_25 : decode cX1_tellMeaning 25 = .ok (.getfield 15, 3) := by decide +kernel
theorem dX1_tellMeaning_28 : decode cX1_tellMeaning 28 = .ok (.iload 4, 2) := by decide +kernel
theorem dX1_tellMeaning_30 : decode cX1_tellMeaning 30 = .ok (.aload_n 0, 1) := by decide +kernel
theorem dX1_tellMeaning_31 : decode cX1_tellMeaning 31 = .ok (.getfield 9, 3) := by decide +kernel
theorem dX1_tellMeaning_34 : decode cX1_tellMeaning 34 = .ok (.iload 4, 2) := by decide +kernel
theorem dX1_tellMeaning_36 : decode cX1_tellMeaning 36 = .ok (.iaload, 1) := by decide +kernel
theorem dX1_tellMeaning_37 : decode cX1_tellMeaning 37 = .ok (.iload 4, 2) := by decide +kernel
theorem dX1_tellMeaning_39 : decode cX1_tellMeaning 39 = .ok (.if_icmp .ne 8, 3) := by decide +kernel
theorem dX1_tellMeaning_42 : decode cX1_tellMeaning 42 = .ok (.iload 4, 2) := by decide +kernel
theorem dX1_tellMeaning_44 : decode cX1_tellMeaning 44 = .ok (.goto 15, 3) := by decide +kernel
theorem dX1_tellMeaning_47 : decode cX1_tellMeaning 47 = .ok (.aload_n 0, 1) := by decide +kernel
theorem dX1_tellMeaning_48 : decode cX1_tellMeaning 48 = .ok (.getfield 15, 3) := by decide +kernel
theorem dX1_tellMeaning_51 : decode cX1_tellMeaning 51 = .ok (.aload_n 0, 1) := by decide +kernel
theorem dX1_tellMeaning_52 : decode cX1_tellMeaning 52 = .ok (.getfield 9, 3) := by decide +kernel
theorem dX1_tellMeaning_55 : decode cX1_tellMeaning 55 = .ok (.iload 4, 2) := by decide +kernel
theorem dX1_tellMeaning_57 : decode cX1_tellMeaning 57 = .ok (.iaload, 1) := by decide +kernel
theorem dX1_tellMeaning_58 : decode cX1_tellMeaning 58 = .ok (.iaload, 1) := by decide +kernel
theorem dX1_tellMeaning_59 : decode cX1_tellMeaning 59 = .ok (.iastore, 1) := by decide +kernel
theorem dX1_tellMeaning_60 : decode cX1_tellMeaning 60 = .ok (.iinc 4 1, 3) := by decide +kernel
theorem dX1_tellMeaning_63 : decode cX1_tellMeaning 63 = .ok (.goto (-46), 3) := by decide +kernel
theorem dX1_tellMeaning_66 : decode cX1_tellMeaning 66 = .ok (.iconst 0, 1) := by decide +kernel
theorem dX1_tellMeaning_67 : decode cX1_tellMeaning 67 = .ok (.istore 4, 2) := by decide +kernel
theorem dX1_tellMeaning_69 : decode cX1_tellMeaning 69 = .ok (.iload 4, 2) := by decide +kernel
theorem dX1_tellMeaning_71 : decode cX1_tellMeaning 71 = .ok (.aload_n 0, 1) := by decide +kernel
theorem dX1_tellMeaning_72 : decode cX1_tellMeaning 72 = .ok (.getfield 24, 3) := by decide +kernel
theorem dX1_tellMeaning_75 : decode cX1_tellMeaning 75 = .ok (.arraylength, 1) := by decide +kernel
theorem dX1_tellMeaning_76 : decode cX1_tellMeaning 76 = .ok (.if_icmp .ge 27, 3) := by decide +kernel
theorem dX1_tellMeaning_79 : decode cX1_tellMeaning 79 = .ok (.aload_n 0, 1) := by decide +kernel
theorem dX1_tellMeaning_80 : decode cX1_tellMeaning 80 = .ok (.getfield 27, 3) := by decide +kernel
theorem dX1_tellMeaning_83 : decode cX1_tellMeaning 83 = .ok (.iload 4, 2) := by decide +kernel
theorem dX1_tellMeaning_85 : decode cX1_tellMeaning 85 = .ok (.aload_n 0, 1) := by decide +kernel
theorem dX1_tellMeaning_86 : decode cX1_tellMeaning 86 = .ok (.aload_n 0, 1) := by decide +kernel
theorem dX1_tellMeaning_87 : decode cX1_tellMeaning 87 = .ok (.getfield 24, 3) := by decide +kernel
theorem dX1_tellMeaning_90 : decode cX1_tellMeaning 90 = .ok (.iload 4, 2) := by decide +kernel
theorem dX1_tellMeaning_92 : decode cX1_tellMeaning 92 = .ok (.iaload, 1) := by decide +kernel
theorem dX1_tellMeaning_93 : decode cX1_tellMeaning 93 = .ok (.invokevirtual 56, 3) := by decide +kernel
theorem dX1_tellMeaning_96 : decode cX1_tellMeaning 96 = .ok (.iastore, 1) := by decide +kernel
theorem dX1_tellMeaning_97 : decode cX1_tellMeaning 97 = .ok (.iinc 4 1, 3) := by decide +kernel
theorem dX1_tellMeaning_100 : decode cX1_tellMeaning 100 = .ok (.goto (-31), 3) := by decide +kernel
theorem dX1_tellMeaning_103 : decode cX1_tellMeaning 103 = .ok (.aload_n 0, 1) := by decide +kernel
theorem dX1_tellMeaning_104 : decode cX1_tellMeaning 104 = .ok (.dup, 1) := by decide +kernel
theorem dX1_tellMeaning_105 : decode cX1_tellMeaning 105 = .ok (.getfield 53, 3) := by decide +kernel
theorem dX1_tellMeaning_108 : decode cX1_tellMeaning 108 = .ok (.iconst 1, 1) := by decide +kernel
theorem dX1_tellMeaning_109 : decode cX1_tellMeaning 109 = .ok (.iadd, 1) := by decide +kernel
theorem dX1_tellMeaning_110 : decode cX1_tellMeaning 110 = .ok (.putfield 53, 3) := by decide +kernel
theorem dX1_tellMeaning_113 : decode cX1_tellMeaning 113 = .ok (.iload_n 3, 1) := by decide +kernel
theorem dX1_tellMeaning_114 : decode cX1_tellMeaning 114 = .ok (.ireturn, 1) := by decide +kernel
theorem dX1_sensesOf_0 : decode cX1_sensesOf 0 = .ok (.iconst 0, 1) := by decide +kernel
theorem dX1_sensesOf_1 : decode cX1_sensesOf 1 = .ok (.istore_n 2, 1) := by decide +kernel
theorem dX1_sensesOf_2 : decode cX1_sensesOf 2 = .ok (.iconst 0, 1) := by decide +kernel
theorem dX1_sensesOf_3 : decode cX1_sensesOf 3 = .ok (.istore_n 3, 1) := by decide +kernel
theorem dX1_sensesOf_4 : decode cX1_sensesOf 4 = .ok (.iload_n 3, 1) := by decide +kernel
theorem dX1_sensesOf_5 : decode cX1_sensesOf 5 = .ok (.bipush 20, 2) := by decide +kernel
theorem dX1_sensesOf_7 : decode cX1_sensesOf 7 = .ok (.if_icmp .ge 28, 3) := by decide +kernel
theorem dX1_sensesOf_10 : decode cX1_sensesOf 10 = .ok (.iload_n 1, 1) := by decide +kernel
theorem dX1_sensesOf_11 : decode cX1_sensesOf 11 = .ok (.iload_n 3, 1) := by decide +kernel
theorem dX1_sensesOf_12 : decode cX1_sensesOf 12 = .ok (.ishr, 1) := by decide +kernel
theorem dX1_sensesOf_13 : decode cX1_sensesOf 13 = .ok (.iconst 1, 1) := by decide +kernel
theorem dX1_sensesOf_14 : decode cX1_sensesOf 14 = .ok (.iand, 1) := by decide +kernel
theorem dX1_sensesOf_15 : decode cX1_sensesOf 15 = .ok (.ifCond .eq 14, 3) := by decide +kernel
theorem dX1_sensesOf_18 : decode cX1_sensesOf 18 = .ok (.iload_n 2, 1) := by decide +kernel
theorem dX1_sensesOf_19 : decode cX1_sensesOf 19 = .ok (.iconst 1, 1) := by decide +kernel
theorem dX1_sensesOf_20 : decode cX1_sensesOf 20 = .ok (.aload_n 0, 1) := by decide +kernel
theorem dX1_sensesOf_21 : decode cX1_sensesOf 21 = .ok (.getfield 15, 3) := by decide +kernel
theorem dX1_sensesOf_24 : decode cX1_sensesOf 24 = .ok (.iload_n 3, 1) := by decide +kernel
theorem dX1_sensesOf_25 : decode cX1_sensesOf 25 = .ok (.iaload, 1) := by decide +kernel
theorem dX1_sensesOf_26 : decode cX1_sensesOf 26 = .ok (.ishl, 1) := by decide +kernel
theorem dX1_sensesOf_27 : decode cX1_sensesOf 27 = .ok (.ior, 1) := by decide +kernel
theorem dX1_sensesOf_28 : decode cX1_sensesOf 28 = .ok (.istore_n 2, 1) := by decide +kernel
theorem dX1_sensesOf_29 : decode cX1_sensesOf 29 = .ok (.iinc 3 1, 3) := by decide +kernel
theorem dX1_sensesOf_32 : decode cX1_sensesOf 32 = .ok (.goto (-28), 3) := by decide +kernel
theorem dX1_sensesOf_35 : decode cX1_sensesOf 35 = .ok (.iload_n 2, 1) := by decide +kernel
theorem dX1_sensesOf_36 : decode cX1_sensesOf 36 = .ok (.ireturn, 1) := by decide +kernel
theorem dX1_tellYear_0 : decode cX1_tellYear 0 = .ok (.aload_n 0, 1) := by decide +kernel
theorem dX1_tellYear_1 : decode cX1_tellYear 1 = .ok (.getfield 18, 3) := by decide +kernel
theorem dX1_tellYear_4 : decode cX1_tellYear 4 = .ok (.iload_n 1, 1) := by decide +kernel
theorem dX1_tellYear_5 : decode cX1_tellYear 5 = .ok (.iaload, 1) := by decide +kernel
theorem dX1_tellYear_6 : decode cX1_tellYear 6 = .ok (.istore_n 3, 1) := by decide +kernel
theorem dX1_tellYear_7 : decode cX1_tellYear 7 = .ok (.aload_n 0, 1) := by decide +kernel
theorem dX1_tellYear_8 : decode cX1_tellYear 8 = .ok (.getfield 18, 3) := by decide +kernel
theorem dX1_tellYear_11 : decode cX1_tellYear 11 = .ok (.iload_n 1, 1) := by decide +kernel
theorem dX1_tellYear_12 : decode cX1_tellYear 12 = .ok (.iload_n 2, 1) := by decide +kernel
theorem dX1_tellYear_13 : decode cX1_tellYear 13 = .ok (.iastore, 1) := by decide +kernel
theorem dX1_tellYear_14 : decode cX1_tellYear 14 = .ok (.aload_n 0, 1) := by decide +kernel
theorem dX1_tellYear_15 : decode cX1_tellYear 15 = .ok (.dup, 1) := by decide +kernel
theorem dX1_tellYear_16 : decode cX1_tellYear 16 = .ok (.getfield 53, 3) := by decide +kernel
theorem dX1_tellYear_19 : decode cX1_tellYear 19 = .ok (.iconst 1, 1) := by decide +kernel
theorem dX1_tellYear_20 : decode cX1_tellYear 20 = .ok (.iadd, 1) := by decide +kernel
theorem dX1_tellYear_21 : decode cX1_tellYear 21 = .ok (.putfield 53, 3) := by decide +kernel
theorem dX1_tellYear_24 : decode cX1_tellYear 24 = .ok (.iload_n 3, 1) := by decide +kernel
theorem dX1_tellYear_25 : decode cX1_tellYear 25 = .ok (.ireturn, 1) := by decide +kernel
theorem dX1_tellSpare_0 : decode cX1_tellSpare 0 = .ok (.aload_n 0, 1) := by decide +kernel
theorem dX1_tellSpare_1 : decode cX1_tellSpare 1 = .ok (.getfield 47, 3) := by decide +kernel
theorem dX1_tellSpare_4 : decode cX1_tellSpare 4 = .ok (.istore_n 2, 1) := by decide +kernel
theorem dX1_tellSpare_5 : decode cX1_tellSpare 5 = .ok (.aload_n 0, 1) := by decide +kernel
theorem dX1_tellSpare_6 : decode cX1_tellSpare 6 = .ok (.iload_n 1, 1) := by decide +kernel
theorem dX1_tellSpare_7 : decode cX1_tellSpare 7 = .ok (.putfield 47, 3) := by decide +kernel
theorem dX1_tellSpare_10 : decode cX1_tellSpare 10 = .ok (.aload_n 0, 1) := by decide +kernel
theorem dX1_tellSpare_11 : decode cX1_tellSpare 11 = .ok (.dup, 1) := by decide +kernel
theorem dX1_tellSpare_12 : decode cX1_tellSpare 12 = .ok (.getfield 53, 3) := by decide +kernel
theorem dX1_tellSpare_15 : decode cX1_tellSpare 15 = .ok (.iconst 1, 1) := by decide +kernel
theorem dX1_tellSpare_16 : decode cX1_tellSpare 16 = .ok (.iadd, 1) := by decide +kernel
theorem dX1_tellSpare_17 : decode cX1_tellSpare 17 = .ok (.putfield 53, 3) := by decide +kernel
theorem dX1_tellSpare_20 : decode cX1_tellSpare 20 = .ok (.iload_n 2, 1) := by decide +kernel
theorem dX1_tellSpare_21 : decode cX1_tellSpare 21 = .ok (.ireturn, 1) := by decide +kernel
theorem dX1_tellFade_0 : decode cX1_tellFade 0 = .ok (.aload_n 0, 1) := by decide +kernel
theorem dX1_tellFade_1 : decode cX1_tellFade 1 = .ok (.getfield 50, 3) := by decide +kernel
theorem dX1_tellFade_4 : decode cX1_tellFade 4 = .ok (.istore_n 2, 1) := by decide +kernel
theorem dX1_tellFade_5 : decode cX1_tellFade 5 = .ok (.aload_n 0, 1) := by decide +kernel
theorem dX1_tellFade_6 : decode cX1_tellFade 6 = .ok (.iload_n 1, 1) := by decide +kernel
theorem dX1_tellFade_7 : decode cX1_tellFade 7 = .ok (.putfield 50, 3) := by decide +kernel
theorem dX1_tellFade_10 : decode cX1_tellFade 10 = .ok (.aload_n 0, 1) := by decide +kernel
theorem dX1_tellFade_11 : decode cX1_tellFade 11 = .ok (.dup, 1) := by decide +kernel
theorem dX1_tellFade_12 : decode cX1_tellFade 12 = .ok (.getfield 53, 3) := by decide +kernel
theorem dX1_tellFade_15 : decode cX1_tellFade 15 = .ok (.iconst 1, 1) := by decide +kernel
theorem dX1_tellFade_16 : decode cX1_tellFade 16 = .ok (.iadd, 1) := by decide +kernel
theorem dX1_tellFade_17 : decode cX1_tellFade 17 = .ok (.putfield 53, 3) := by decide +kernel
theorem dX1_tellFade_20 : decode cX1_tellFade 20 = .ok (.iload_n 2, 1) := by decide +kernel
theorem dX1_tellFade_21 : decode cX1_tellFade 21 = .ok (.ireturn, 1) := by decide +kernel
theorem dX1_addEntry_0 : decode cX1_addEntry 0 = .ok (.aload_n 0, 1) := by decide +kernel
theorem dX1_addEntry_1 : decode cX1_addEntry 1 = .ok (.getfield 21, 3) := by decide +kernel
theorem dX1_addEntry_4 : decode cX1_addEntry 4 = .ok (.iload_n 1, 1) := by decide +kernel
theorem dX1_addEntry_5 : decode cX1_addEntry 5 = .ok (.iaload, 1) := by decide +kernel
theorem dX1_addEntry_6 : decode cX1_addEntry 6 = .ok (.istore 6, 2) := by decide +kernel
theorem dX1_addEntry_8 : decode cX1_addEntry 8 = .ok (.iload_n 1, 1) := by decide +kernel
theorem dX1_addEntry_9 : decode cX1_addEntry 9 = .ok (.bipush 10, 2) := by decide +kernel
theorem dX1_addEntry_11 : decode cX1_addEntry 11 = .ok (.imul, 1) := by decide +kernel
theorem dX1_addEntry_12 : decode cX1_addEntry 12 = .ok (.iload 6, 2) := by decide +kernel
theorem dX1_addEntry_14 : decode cX1_addEntry 14 = .ok (.iadd, 1) := by decide +kernel
theorem dX1_addEntry_15 : decode cX1_addEntry 15 = .ok (.istore 7, 2) := by decide +kernel
theorem dX1_addEntry_17 : decode cX1_addEntry 17 = .ok (.aload_n 0, 1) := by decide +kernel
theorem dX1_addEntry_18 : decode cX1_addEntry 18 = .ok (.getfield 24, 3) := by decide +kernel
theorem dX1_addEntry_21 : decode cX1_addEntry 21 = .ok (.iload 7, 2) := by decide +kernel
theorem dX1_addEntry_23 : decode cX1_addEntry 23 = .ok (.iload_n 2, 1) := by decide +kernel
theorem dX1_addEntry_24 : decode cX1_addEntry 24 = .ok (.iastore, 1) := by decide +kernel
theorem dX1_addEntry_25 : decode cX1_addEntry 25 = .ok (.aload_n 0, 1) := by decide +kernel
theorem dX1_addEntry_26 : decode cX1_addEntry 26 = .ok (.getfield 27, 3) := by decide +kernel
theorem dX1_addEntry_29 : decode cX1_addEntry 29 = .ok (.iload 7, 2) := by decide +kernel
theorem dX1_addEntry_31 : decode cX1_addEntry 31 = .ok (.aload_n 0, 1) := by decide +kernel
theorem dX1_addEntry_32 : decode cX1_addEntry 32 = .ok (.iload_n 2, 1) := by decide +kernel
theorem dX1_addEntry_33 : decode cX1_addEntry 33 = .ok (.invokevirtual 56, 3) := by decide +kernel
theorem dX1_addEntry_36 : decode cX1_addEntry 36 = .ok (.iastore, 1) := by decide +kernel
theorem dX1_addEntry_37 : decode cX1_addEntry 37 = .ok (.aload_n 0, 1) := by decide +kernel
theorem dX1_addEntry_38 : decode cX1_addEntry 38 = .ok (.getfield 30, 3) := by decide +kernel
theorem dX1_addEntry_41 : decode cX1_addEntry 41 = .ok (.iload 7, 2) := by decide +kernel
theorem dX1_addEntry_43 : decode cX1_addEntry 43 = .ok (.iload_n 3, 1) := by decide +kernel
theorem dX1_addEntry_44 : decode cX1_addEntry 44 = .ok (.iastore, 1) := by decide +kernel
theorem dX1_addEntry_45 : decode cX1_addEntry 45 = .ok (.aload_n 0, 1) := by decide +kernel
theorem dX1_addEntry_46 : decode cX1_addEntry 46 = .ok (.getfield 33, 3) := by decide +kernel
theorem dX1_addEntry_49 : decode cX1_addEntry 49 = .ok (.iload 7, 2) := by decide +kernel
theorem dX1_addEntry_51 : decode cX1_addEntry 51 = .ok (.iload 4, 2) := by decide +kernel
theorem dX1_addEntry_53 : decode cX1_addEntry 53 = .ok (.iastore, 1) := by decide +kernel
theorem dX1_addEntry_54 : decode cX1_addEntry 54 = .ok (.aload_n 0, 1) := by decide +kernel
theorem dX1_addEntry_55 : decode cX1_addEntry 55 = .ok (.getfield 36, 3) := by decide +kernel
theorem dX1_addEntry_58 : decode cX1_addEntry 58 = .ok (.iload 7, 2) := by decide +kernel
theorem dX1_addEntry_60 : decode cX1_addEntry 60 = .ok (.iload 5, 2) := by decide +kernel
theorem dX1_addEntry_62 : decode cX1_addEntry 62 = .ok (.iastore, 1) := by decide +kernel
theorem dX1_addEntry_63 : decode cX1_addEntry 63 = .ok (.aload_n 0, 1) := by decide +kernel
theorem dX1_addEntry_64 : decode cX1_addEntry 64 = .ok (.getfield 21, 3) := by decide +kernel
theorem dX1_addEntry_67 : decode cX1_addEntry 67 = .ok (.iload_n 1, 1) := by decide +kernel
theorem dX1_addEntry_68 : decode cX1_addEntry 68 = .ok (.iload 6, 2) := by decide +kernel
theorem dX1_addEntry_70 : decode cX1_addEntry 70 = .ok (.iconst 1, 1) := by decide +kernel
theorem dX1_addEntry_71 : decode cX1_addEntry 71 = .ok (.iadd, 1) := by decide +kernel
theorem dX1_addEntry_72 : decode cX1_addEntry 72 = .ok (.iastore, 1) := by decide +kernel
theorem dX1_addEntry_73 : decode cX1_addEntry 73 = .ok (.aload_n 0, 1) := by decide +kernel
theorem dX1_addEntry_74 : decode cX1_addEntry 74 = .ok (.dup, 1) := by decide +kernel
theorem dX1_addEntry_75 : decode cX1_addEntry 75 = .ok (.getfield 53, 3) := by decide +kernel
theorem dX1_addEntry_78 : decode cX1_addEntry 78 = .ok (.iconst 1, 1) := by decide +kernel
theorem dX1_addEntry_79 : decode cX1_addEntry 79 = .ok (.iadd, 1) := by decide +kernel
theorem dX1_addEntry_80 : decode cX1_addEntry 80 = .ok (.putfield 53, 3) := by decide +kernel
theorem dX1_addEntry_83 : decode cX1_addEntry 83 = .ok (.iload 6, 2) := by decide +kernel
theorem dX1_addEntry_85 : decode cX1_addEntry 85 = .ok (.ireturn, 1) := by decide +kernel
theorem dX1_isBarTold_0 : decode cX1_isBarTold 0 = .ok (.aload_n 0, 1) := by decide +kernel
theorem dX1_isBarTold_1 : decode cX1_isBarTold 1 = .ok (.getfield 39, 3) := by decide +kernel
theorem dX1_isBarTold_4 : decode cX1_isBarTold 4 = .ok (.iload_n 1, 1) := by decide +kernel
theorem dX1_isBarTold_5 : decode cX1_isBarTold 5 = .ok (.laload, 1) := by decide +kernel
theorem dX1_isBarTold_6 : decode cX1_isBarTold 6 = .ok (.iload_n 2, 1) := by decide +kernel
theorem dX1_isBarTold_7 : decode cX1_isBarTold 7 = .ok (.lshr, 1) := by decide +kernel
theorem dX1_isBarTold_8 : decode cX1_isBarTold 8 = .ok (.lconst 1, 1) := by decide +kernel
theorem dX1_isBarTold_9 : decode cX1_isBarTold 9 = .ok (.land, 1) := by decide +kernel
theorem dX1_isBarTold_10 : decode cX1_isBarTold 10 = .ok (.lconst 0, 1) := by decide +kernel
theorem dX1_isBarTold_11 : decode cX1_isBarTold 11 = .ok (.lcmp, 1) := by decide +kernel
theorem dX1_isBarTold_12 : decode cX1_isBarTold 12 = .ok (.ifCond .eq 7, 3) := by decide +kernel
theorem dX1_isBarTold_15 : decode cX1_isBarTold 15 = .ok (.iconst 1, 1) := by decide +kernel
theorem dX1_isBarTold_16 : decode cX1_isBarTold 16 = .ok (.goto 4, 3) := by decide +kernel
theorem dX1_isBarTold_19 : decode cX1_isBarTold 19 = .ok (.iconst 0, 1) := by decide +kernel
theorem dX1_isBarTold_20 : decode cX1_isBarTold 20 = .ok (.ireturn, 1) := by decide +kernel
theorem dX1_tellBar_0 : decode cX1_tellBar 0 = .ok (.aload_n 0, 1) := by decide +kernel
theorem dX1_tellBar_1 : decode cX1_tellBar 1 = .ok (.getfield 39, 3) := by decide +kernel
theorem dX1_tellBar_4 : decode cX1_tellBar 4 = .ok (.iload_n 1, 1) := by decide +kernel
theorem dX1_tellBar_5 : decode cX1_tellBar 5 = .ok (.dup2, 1) := by decide +kernel
theorem dX1_tellBar_6 : decode cX1_tellBar 6 = .ok (.laload, 1) := by decide +kernel
theorem dX1_tellBar_7 : decode cX1_tellBar 7 = .ok (.lconst 1, 1) := by decide +kernel
theorem dX1_tellBar_8 : decode cX1_tellBar 8 = .ok (.iload_n 2, 1) := by decide +kernel
theorem dX1_tellBar_9 : decode cX1_tellBar 9 = .ok (.lshl, 1) := by decide +kernel
theorem dX1_tellBar_10 : decode cX1_tellBar 10 = .ok (.lor, 1) := by decide +kernel
theorem dX1_tellBar_11 : decode cX1_tellBar 11 = .ok (.lastore, 1) := by decide +kernel
theorem dX1_tellBar_12 : decode cX1_tellBar 12 = .ok (.aload_n 0, 1) := by decide +kernel
theorem dX1_tellBar_13 : decode cX1_tellBar 13 = .ok (.getfield 39, 3) := by decide +kernel
theorem dX1_tellBar_16 : decode cX1_tellBar 16 = .ok (.iload_n 2, 1) := by decide +kernel
theorem dX1_tellBar_17 : decode cX1_tellBar 17 = .ok (.dup2, 1) := by decide +kernel
theorem dX1_tellBar_18 : decode cX1_tellBar 18 = .ok (.laload, 1) := by decide +kernel
theorem dX1_tellBar_19 : decode cX1_tellBar 19 = .ok (.lconst 1, 1) := by decide +kernel
theorem dX1_tellBar_20 : decode cX1_tellBar 20 = .ok (.iload_n 1, 1) := by decide +kernel
theorem dX1_tellBar_21 : decode cX1_tellBar 21 = .ok (.lshl, 1) := by decide +kernel
theorem dX1_tellBar_22 : decode cX1_tellBar 22 = .ok (.lor, 1) := by decide +kernel
theorem dX1_tellBar_23 : decode cX1_tellBar 23 = .ok (.lastore, 1) := by decide +kernel
theorem dX1_tellBar_24 : decode cX1_tellBar 24 = .ok (.aload_n 0, 1) := by decide +kernel
theorem dX1_tellBar_25 : decode cX1_tellBar 25 = .ok (.dup, 1) := by decide +kernel
theorem dX1_tellBar_26 : decode cX1_tellBar 26 = .ok (.getfield 43, 3) := by decide +kernel
theorem dX1_tellBar_29 : decode cX1_tellBar 29 = .ok (.iconst 1, 1) := by decide +kernel
theorem dX1_tellBar_30 : decode cX1_tellBar 30 = .ok (.iadd, 1) := by decide +kernel
theorem dX1_tellBar_31 : decode cX1_tellBar 31 = .ok (.putfield 43, 3) := by decide +kernel
theorem dX1_tellBar_34 : decode cX1_tellBar 34 = .ok (.aload_n 0, 1) := by decide +kernel
theorem dX1_tellBar_35 : decode cX1_tellBar 35 = .ok (.dup, 1) := by decide +kernel
theorem dX1_tellBar_36 : decode cX1_tellBar 36 = .ok (.getfield 53, 3) := by decide +kernel
theorem dX1_tellBar_39 : decode cX1_tellBar 39 = .ok (.iconst 1, 1) := by decide +kernel
theorem dX1_tellBar_40 : decode cX1_tellBar 40 = .ok (.iadd, 1) := by decide +kernel
theorem dX1_tellBar_41 : decode cX1_tellBar 41 = .ok (.putfield 53, 3) := by decide +kernel
theorem dX1_tellBar_44 : decode cX1_tellBar 44 = .ok (.return_, 1) := by decide +kernel
theorem dX1_isSameText_0 : decode cX1_isSameText 0 = .ok (.aload_n 0, 1) := by decide +kernel
theorem dX1_isSameText_1 : decode cX1_isSameText 1 = .ok (.getfield 24, 3) := by decide +kernel
theorem dX1_isSameText_4 : decode cX1_isSameText 4 = .ok (.iload_n 1, 1) := by decide +kernel
theorem dX1_isSameText_5 : decode cX1_isSameText 5 = .ok (.iaload, 1) := by decide +kernel
theorem dX1_isSameText_6 : decode cX1_isSameText 6 = .ok (.aload_n 0, 1) := by decide +kernel
theorem dX1_isSameText_7 : decode cX1_isSameText 7 = .ok (.getfield 24, 3) := by decide +kernel
theorem dX1_isSameText_10 : decode cX1_isSameText 10 = .ok (.iload_n 2, 1) := by decide +kernel
theorem dX1_isSameText_11 : decode cX1_isSameText 11 = .ok (.iaload, 1) := by decide +kernel
theorem dX1_isSameText_12 : decode cX1_isSameText 12 = .ok (.if_icmp .ne 22, 3) := by decide +kernel
theorem dX1_isSameText_15 : decode cX1_isSameText 15 = .ok (.aload_n 0, 1) := by decide +kernel
theorem dX1_isSameText_16 : decode cX1_isSameText 16 = .ok (.getfield 30, 3) := by decide +kernel
theorem dX1_isSameText_19 : decode cX1_isSameText 19 = .ok (.iload_n 1, 1) := by decide +kernel
theorem dX1_isSameText_20 : decode cX1_isSameText 20 = .ok (.iaload, 1) := by decide +kernel
theorem dX1_isSameText_21 : decode cX1_isSameText 21 = .ok (.aload_n 0, 1) := by decide +kernel
theorem dX1_isSameText_22 : decode cX1_isSameText 22 = .ok (.getfield 30, 3) := by decide +kernel
theorem dX1_isSameText_25 : decode cX1_isSameText 25 = .ok (.iload_n 2, 1) := by decide +kernel
theorem dX1_isSameText_26 : decode cX1_isSameText 26 = .ok (.iaload, 1) := by decide +kernel
theorem dX1_isSameText_27 : decode cX1_isSameText 27 = .ok (.if_icmp .ne 7, 3) := by decide +kernel
theorem dX1_isSameText_30 : decode cX1_isSameText 30 = .ok (.iconst 1, 1) := by decide +kernel
theorem dX1_isSameText_31 : decode cX1_isSameText 31 = .ok (.goto 4, 3) := by decide +kernel
theorem dX1_isSameText_34 : decode cX1_isSameText 34 = .ok (.iconst 0, 1) := by decide +kernel
theorem dX1_isSameText_35 : decode cX1_isSameText 35 = .ok (.ireturn, 1) := by decide +kernel
theorem dX1_likeness_0 : decode cX1_likeness 0 = .ok (.aload_n 0, 1) := by decide +kernel
theorem dX1_likeness_1 : decode cX1_likeness 1 = .ok (.getfield 30, 3) := by decide +kernel
theorem dX1_likeness_4 : decode cX1_likeness 4 = .ok (.iload_n 1, 1) := by decide +kernel
theorem dX1_likeness_5 : decode cX1_likeness 5 = .ok (.iaload, 1) := by decide +kernel
theorem dX1_likeness_6 : decode cX1_likeness 6 = .ok (.aload_n 0, 1) := by decide +kernel
theorem dX1_likeness_7 : decode cX1_likeness 7 = .ok (.getfield 30, 3) := by decide +kernel
theorem dX1_likeness_10 : decode cX1_likeness 10 = .ok (.iload_n 2, 1) := by decide +kernel
theorem dX1_likeness_11 : decode cX1_likeness 11 = .ok (.iaload, 1) := by decide +kernel
theorem dX1_likeness_12 : decode cX1_likeness 12 = .ok (.isub, 1) := by decide +kernel
theorem dX1_likeness_13 : decode cX1_likeness 13 = .ok (.invokestatic 60, 3) := by decide +kernel
theorem dX1_likeness_16 : decode cX1_likeness 16 = .ok (.istore_n 3, 1) := by decide +kernel
theorem dX1_likeness_17 : decode cX1_likeness 17 = .ok (.aload_n 0, 1) := by decide +kernel
theorem dX1_likeness_18 : decode cX1_likeness 18 = .ok (.getfield 27, 3) := by decide +kernel
theorem dX1_likeness_21 : decode cX1_likeness 21 = .ok (.iload_n 1, 1) := by decide +kernel
theorem dX1_likeness_22 : decode cX1_likeness 22 = .ok (.iaload, 1) := by decide +kernel
theorem dX1_likeness_23 : decode cX1_likeness 23 = .ok (.aload_n 0, 1) := by decide +kernel
theorem dX1_likeness_24 : decode cX1_likeness 24 = .ok (.getfield 27, 3) := by decide +kernel
theorem dX1_likeness_27 : decode cX1_likeness 27 = .ok (.iload_n 2, 1) := by decide +kernel
theorem dX1_likeness_28 : decode cX1_likeness 28 = .ok (.iaload, 1) := by decide +kernel
theorem dX1_likeness_29 : decode cX1_likeness 29 = .ok (.iand, 1) := by decide +kernel
theorem dX1_likeness_30 : decode cX1_likeness 30 = .ok (.istore 4, 2) := by decide +kernel
theorem dX1_likeness_32 : decode cX1_likeness 32 = .ok (.iload_n 3, 1) := by decide +kernel
theorem dX1_likeness_33 : decode cX1_likeness 33 = .ok (.aload_n 0, 1) := by decide +kernel
theorem dX1_likeness_34 : decode cX1_likeness 34 = .ok (.getfield 47, 3) := by decide +kernel
theorem dX1_likeness_37 : decode cX1_likeness 37 = .ok (.if_icmp .gt 26, 3) := by decide +kernel
theorem dX1_likeness_40 : decode cX1_likeness 40 = .ok (.iload 4, 2) := by decide +kernel
theorem dX1_likeness_42 : decode cX1_likeness 42 = .ok (.ifCond .eq 21, 3) := by decide +kernel
theorem dX1_likeness_45 : decode cX1_likeness 45 = .ok (.aload_n 0, 1) := by decide +kernel
theorem dX1_likeness_46 : decode cX1_likeness 46 = .ok (.iload_n 1, 1) := by decide +kernel
theorem dX1_likeness_47 : decode cX1_likeness 47 = .ok (.iload_n 2, 1) := by decide +kernel
theorem dX1_likeness_48 : decode cX1_likeness 48 = .ok (.invokevirtual 65, 3) := by decide +kernel
theorem dX1_likeness_51 : decode cX1_likeness 51 = .ok (.ifCond .ne 12, 3) := by decide +kernel
theorem dX1_likeness_54 : decode cX1_likeness 54 = .ok (.aload_n 0, 1) := by decide +kernel
theorem dX1_likeness_55 : decode cX1_likeness 55 = .ok (.iload_n 1, 1) := by decide +kernel
theorem dX1_likeness_56 : decode cX1_likeness 56 = .ok (.iload_n 2, 1) := by decide +kernel
theorem dX1_likeness_57 : decode cX1_likeness 57 = .ok (.invokevirtual 69, 3) := by decide +kernel
theorem dX1_likeness_60 : decode cX1_likeness 60 = .ok (.ifCond .ne 5, 3) := by decide +kernel
theorem dX1_likeness_63 : decode cX1_likeness 63 = .ok (.iconst 0, 1) := by decide +kernel
theorem dX1_likeness_64 : decode cX1_likeness 64 = .ok (.ireturn, 1) := by decide +kernel
theorem dX1_likeness_65 : decode cX1_likeness 65 = .ok (.bipush 10, 2) := by decide +kernel
theorem dX1_likeness_67 : decode cX1_likeness 67 = .ok (.iload 4, 2) := by decide +kernel
theorem dX1_likeness_69 : decode cX1_likeness 69 = .ok (.invokestatic 72, 3) := by decide +kernel
theorem dX1_likeness_72 : decode cX1_likeness 72 = .ok (.imul, 1) := by decide +kernel
theorem dX1_likeness_73 : decode cX1_likeness 73 = .ok (.iconst 2, 1) := by decide +kernel
theorem dX1_likeness_74 : decode cX1_likeness 74 = .ok (.aload_n 0, 1) := by decide +kernel
theorem dX1_likeness_75 : decode cX1_likeness 75 = .ok (.getfield 27, 3) := by decide +kernel
theorem dX1_likeness_78 : decode cX1_likeness 78 = .ok (.iload_n 1, 1) := by decide +kernel
theorem dX1_likeness_79 : decode cX1_likeness 79 = .ok (.iaload, 1) := by decide +kernel
theorem dX1_likeness_80 : decode cX1_likeness 80 = .ok (.aload_n 0, 1) := by decide +kernel
theorem dX1_likeness_81 : decode cX1_likeness 81 = .ok (.getfield 27, 3) := by decide +kernel
theorem dX1_likeness_84 : decode cX1_likeness 84 = .ok (.iload_n 2, 1) := by decide +kernel
theorem dX1_likeness_85 : decode cX1_likeness 85 = .ok (.iaload, 1) := by decide +kernel
theorem dX1_likeness_86 : decode cX1_likeness 86 = .ok (.ixor, 1) := by decide +kernel
theorem dX1_likeness_87 : decode cX1_likeness 87 = .ok (.invokestatic 72, 3) := by decide +kernel
theorem dX1_likeness_90 : decode cX1_likeness 90 = .ok (.imul, 1) := by decide +kernel
theorem dX1_likeness_91 : decode cX1_likeness 91 = .ok (.isub, 1) := by decide +kernel
theorem dX1_likeness_92 : decode cX1_likeness 92 = .ok (.iload_n 3, 1) := by decide +kernel
theorem dX1_likeness_93 : decode cX1_likeness 93 = .ok (.isub, 1) := by decide +kernel
theorem dX1_likeness_94 : decode cX1_likeness 94 = .ok (.istore 5, 2) := by decide +kernel
theorem dX1_likeness_96 : decode cX1_likeness 96 = .ok (.aload_n 0, 1) := by decide +kernel
theorem dX1_likeness_97 : decode cX1_likeness 97 = .ok (.getfield 33, 3) := by decide +kernel
theorem dX1_likeness_100 : decode cX1_likeness 100 = .ok (.iload_n 1, 1) := by decide +kernel
theorem dX1_likeness_101 : decode cX1_likeness 101 = .ok (.iaload, 1) := by decide +kernel
theorem dX1_likeness_102 : decode cX1_likeness 102 = .ok (.aload_n 0, 1) := by decide +kernel
theorem dX1_likeness_103 : decode cX1_likeness 103 = .ok (.getfield 33, 3) := by decide +kernel
theorem dX1_likeness_106 : decode cX1_likeness 106 = .ok (.iload_n 2, 1) := by decide +kernel
theorem dX1_likeness_107 : decode cX1_likeness 107 = .ok (.iaload, 1) := by decide +kernel
theorem dX1_likeness_108 : decode cX1_likeness 108 = .ok (.if_icmp .ne 6, 3) := by decide +kernel
theorem dX1_likeness_111 : decode cX1_likeness 111 = .ok (.iinc 5 7, 3) := by decide +kernel
theorem dX1_likeness_114 : decode cX1_likeness 114 = .ok (.iconst 1, 1) := by decide +kernel
theorem dX1_likeness_115 : decode cX1_likeness 115 = .ok (.iload 5, 2) := by decide +kernel
theorem dX1_likeness_117 : decode cX1_likeness 117 = .ok (.invokestatic 77, 3) := by decide +kernel
theorem dX1_likeness_120 : decode cX1_likeness 120 = .ok (.ireturn, 1) := by decide +kernel
theorem dX1_fadesAsItMay_0 : decode cX1_fadesAsItMay 0 = .ok (.iload_n 1, 1) := by decide +kernel
theorem dX1_fadesAsItMay_1 : decode cX1_fadesAsItMay 1 = .ok (.bipush 10, 2) := by decide +kernel
theorem dX1_fadesAsItMay_3 : decode cX1_fadesAsItMay 3 = .ok (.idiv, 1) := by decide +kernel
theorem dX1_fadesAsItMay_4 : decode cX1_fadesAsItMay 4 = .ok (.istore_n 3, 1) := by decide +kernel
theorem dX1_fadesAsItMay_5 : decode cX1_fadesAsItMay 5 = .ok (.iload_n 2, 1) := by decide +kernel
theorem dX1_fadesAsItMay_6 : decode cX1_fadesAsItMay 6 = .ok (.bipush 10, 2) := by decide +kernel
theorem dX1_fadesAsItMay_8 : decode cX1_fadesAsItMay 8 = .ok (.idiv, 1) := by decide +kernel
theorem dX1_fadesAsItMay_9 : decode cX1_fadesAsItMay 9 = .ok (.istore 4, 2) := by decide +kernel
theorem dX1_fadesAsItMay_11 : decode cX1_fadesAsItMay 11 = .ok (.aload_n 0, 1) := by decide +kernel
theorem dX1_fadesAsItMay_12 : decode cX1_fadesAsItMay 12 = .ok (.getfield 18, 3) := by decide +kernel
theorem dX1_fadesAsItMay_15 : decode cX1_fadesAsItMay 15 = .ok (.iload_n 3, 1) := by decide +kernel
theorem dX1_fadesAsItMay_16 : decode cX1_fadesAsItMay 16 = .ok (.iaload, 1) := by decide +kernel
theorem dX1_fadesAsItMay_17 : decode cX1_fadesAsItMay 17 = .ok (.aload_n 0, 1) := by decide +kernel
theorem dX1_fadesAsItMay_18 : decode cX1_fadesAsItMay 18 = .ok (.getfield 18, 3) := by decide +kernel
theorem dX1_fadesAsItMay_21 : decode cX1_fadesAsItMay 21 = .ok (.iload 4, 2) := by decide +kernel
theorem dX1_fadesAsItMay_23 : decode cX1_fadesAsItMay 23 = .ok (.iaload, 1) := by decide +kernel
theorem dX1_fadesAsItMay_24 : decode cX1_fadesAsItMay 24 = .ok (.if_icmp .eq 27, 3) := by decide +kernel
theorem dX1_fadesAsItMay_27 : decode cX1_fadesAsItMay 27 = .ok (.aload_n 0, 1) := by decide +kernel
theorem dX1_fadesAsItMay_28 : decode cX1_fadesAsItMay 28 = .ok (.getfield 18, 3) := by decide +kernel
theorem dX1_fadesAsItMay_31 : decode cX1_fadesAsItMay 31 = .ok (.iload_n 3, 1) := by decide +kernel
theorem dX1_fadesAsItMay_32 : decode cX1_fadesAsItMay 32 = .ok (.iaload, 1) := by decide +kernel
theorem dX1_fadesAsItMay_33 : decode cX1_fadesAsItMay 33 = .ok (.aload_n 0, 1) := by decide +kernel
theorem dX1_fadesAsItMay_34 : decode cX1_fadesAsItMay 34 = .ok (.getfield 18, 3) := by decide +kernel
theorem dX1_fadesAsItMay_37 : decode cX1_fadesAsItMay 37 = .ok (.iload 4, 2) := by decide +kernel
theorem dX1_fadesAsItMay_39 : decode cX1_fadesAsItMay 39 = .ok (.iaload, 1) := by decide +kernel
theorem dX1_fadesAsItMay_40 : decode cX1_fadesAsItMay 40 = .ok (.if_icmp .ge 7, 3) := by decide +kernel
theorem dX1_fadesAsItMay_43 : decode cX1_fadesAsItMay 43 = .ok (.iconst 1, 1) := by decide +kernel
theorem dX1_fadesAsItMay_44 : decode cX1_fadesAsItMay 44 = .ok (.goto 18, 3) := by decide +kernel
theorem dX1_fadesAsItMay_47 : decode cX1_fadesAsItMay 47 = .ok (.iconst 0, 1) := by decide +kernel
theorem dX1_fadesAsItMay_48 : decode cX1_fadesAsItMay 48 = .ok (.goto 14, 3) := by decide +kernel
theorem dX1_fadesAsItMay_51 : decode cX1_fadesAsItMay 51 = .ok (.iload_n 3, 1) := by decide +kernel
theorem dX1_fadesAsItMay_52 : decode cX1_fadesAsItMay 52 = .ok (.iload 4, 2) := by decide +kernel
theorem dX1_fadesAsItMay_54 : decode cX1_fadesAsItMay 54 = .ok (.if_icmp .ge 7, 3) := by decide +kernel
theorem dX1_fadesAsItMay_57 : decode cX1_fadesAsItMay 57 = .ok (.iconst 1, 1) := by decide +kernel
theorem dX1_fadesAsItMay_58 : decode cX1_fadesAsItMay 58 = .ok (.goto 4, 3) := by decide +kernel
theorem dX1_fadesAsItMay_61 : decode cX1_fadesAsItMay 61 = .ok (.iconst 0, 1) := by decide +kernel
theorem dX1_fadesAsItMay_62 : decode cX1_fadesAsItMay 62 = .ok (.istore 5, 2) := by decide +kernel
theorem dX1_fadesAsItMay_64 : decode cX1_fadesAsItMay 64 = .ok (.iload 5, 2) := by decide +kernel
theorem dX1_fadesAsItMay_66 : decode cX1_fadesAsItMay 66 = .ok (.ifCond .eq 19, 3) := by decide +kernel
theorem dX1_fadesAsItMay_69 : decode cX1_fadesAsItMay 69 = .ok (.aload_n 0, 1) := by decide +kernel
theorem dX1_fadesAsItMay_70 : decode cX1_fadesAsItMay 70 = .ok (.getfield 36, 3) := by decide +kernel
theorem dX1_fadesAsItMay_73 : decode cX1_fadesAsItMay 73 = .ok (.iload_n 1, 1) := by decide +kernel
theorem dX1_fadesAsItMay_74 : decode cX1_fadesAsItMay 74 = .ok (.iaload, 1) := by decide +kernel
theorem dX1_fadesAsItMay_75 : decode cX1_fadesAsItMay 75 = .ok (.aload_n 0, 1) := by decide +kernel
theorem dX1_fadesAsItMay_76 : decode cX1_fadesAsItMay 76 = .ok (.getfield 36, 3) := by decide +kernel
theorem dX1_fadesAsItMay_79 : decode cX1_fadesAsItMay 79 = .ok (.iload_n 2, 1) := by decide +kernel
theorem dX1_fadesAsItMay_80 : decode cX1_fadesAsItMay 80 = .ok (.iaload, 1) := by decide +kernel
theorem dX1_fadesAsItMay_81 : decode cX1_fadesAsItMay 81 = .ok (.isub, 1) := by decide +kernel
theorem dX1_fadesAsItMay_82 : decode cX1_fadesAsItMay 82 = .ok (.goto 16, 3) := by decide +kernel
theorem dX1_fadesAsItMay_85 : decode cX1_fadesAsItMay 85 = .ok (.aload_n 0, 1) := by decide +kernel
theorem dX1_fadesAsItMay_86 : decode cX1_fadesAsItMay 86 = .ok (.getfield 36, 3) := by decide +kernel
theorem dX1_fadesAsItMay_89 : decode cX1_fadesAsItMay 89 = .ok (.iload_n 2, 1) := by decide +kernel
theorem dX1_fadesAsItMay_90 : decode cX1_fadesAsItMay 90 = .ok (.iaload, 1) := by decide +kernel
theorem dX1_fadesAsItMay_91 : decode cX1_fadesAsItMay 91 = .ok (.aload_n 0, 1) := by decide +kernel
theorem dX1_fadesAsItMay_92 : decode cX1_fadesAsItMay 92 = .ok (.getfield 36, 3) := by decide +kernel
theorem dX1_fadesAsItMay_95 : decode cX1_fadesAsItMay 95 = .ok (.iload_n 1, 1) := by decide +kernel
theorem dX1_fadesAsItMay_96 : decode cX1_fadesAsItMay 96 = .ok (.iaload, 1) := by decide +kernel
theorem dX1_fadesAsItMay_97 : decode cX1_fadesAsItMay 97 = .ok (.isub, 1) := by decide +kernel
theorem dX1_fadesAsItMay_98 : decode cX1_fadesAsItMay 98 = .ok (.istore 6, 2) := by decide +kernel
theorem dX1_fadesAsItMay_100 : decode cX1_fadesAsItMay 100 = .ok (.iload 5, 2) := by decide +kernel
theorem dX1_fadesAsItMay_102 : decode cX1_fadesAsItMay 102 = .ok (.ifCond .eq 20, 3) := by decide +kernel
theorem dX1_fadesAsItMay_105 : decode cX1_fadesAsItMay 105 = .ok (.aload_n 0, 1) := by decide +kernel
theorem dX1_fadesAsItMay_106 : decode cX1_fadesAsItMay 106 = .ok (.getfield 18, 3) := by decide +kernel
theorem dX1_fadesAsItMay_109 : decode cX1_fadesAsItMay 109 = .ok (.iload 4, 2) := by decide +kernel
theorem dX1_fadesAsItMay_111 : decode cX1_fadesAsItMay 111 = .ok (.iaload, 1) := by decide +kernel
theorem dX1_fadesAsItMay_112 : decode cX1_fadesAsItMay 112 = .ok (.aload_n 0, 1) := by decide +kernel
theorem dX1_fadesAsItMay_113 : decode cX1_fadesAsItMay 113 = .ok (.getfield 18, 3) := by decide +kernel
theorem dX1_fadesAsItMay_116 : decode cX1_fadesAsItMay 116 = .ok (.iload_n 3, 1) := by decide +kernel
theorem dX1_fadesAsItMay_117 : decode cX1_fadesAsItMay 117 = .ok (.iaload, 1) := by decide +kernel
theorem dX1_fadesAsItMay_118 : decode cX1_fadesAsItMay 118 = .ok (.isub, 1) := by decide +kernel
theorem dX1_fadesAsItMay_119 : decode cX1_fadesAsItMay 119 = .ok (.goto 17, 3) := by decide +kernel
theorem dX1_fadesAsItMay_122 : decode cX1_fadesAsItMay 122 = .ok (.aload_n 0, 1) := by decide +kernel
theorem dX1_fadesAsItMay_123 : decode cX1_fadesAsItMay 123 = .ok (.getfield 18, 3) := by decide +kernel
theorem dX1_fadesAsItMay_126 : decode cX1_fadesAsItMay 126 = .ok (.iload_n 3, 1) := by decide +kernel
theorem dX1_fadesAsItMay_127 : decode cX1_fadesAsItMay 127 = .ok (.iaload, 1) := by decide +kernel
theorem dX1_fadesAsItMay_128 : decode cX1_fadesAsItMay 128 = .ok (.aload_n 0, 1) := by decide +kernel
theorem dX1_fadesAsItMay_129 : decode cX1_fadesAsItMay 129 = .ok (.getfield 18, 3) := by decide +kernel
theorem dX1_fadesAsItMay_132 : decode cX1_fadesAsItMay 132 = .ok (.iload 4, 2) := by decide +kernel
theorem dX1_fadesAsItMay_134 : decode cX1_fadesAsItMay 134 = .ok (.iaload, 1) := by decide +kernel
theorem dX1_fadesAsItMay_135 : decode cX1_fadesAsItMay 135 = .ok (.isub, 1) := by decide +kernel
theorem dX1_fadesAsItMay_136 : decode cX1_fadesAsItMay 136 = .ok (.istore 7, 2) := by decide +kernel
theorem dX1_fadesAsItMay_138 : decode cX1_fadesAsItMay 138 = .ok (.iload 6, 2) := by decide +kernel
theorem dX1_fadesAsItMay_140 : decode cX1_fadesAsItMay 140 = .ok (.ifCond .lt 21, 3) := by decide +kernel
theorem dX1_fadesAsItMay_143 : decode cX1_fadesAsItMay 143 = .ok (.iload 6, 2) := by decide +kernel
theorem dX1_fadesAsItMay_145 : decode cX1_fadesAsItMay 145 = .ok (.iload 7, 2) := by decide +kernel
theorem dX1_fadesAsItMay_147 : decode cX1_fadesAsItMay 147 = .ok (.aload_n 0, 1) := by decide +kernel
theorem dX1_fadesAsItMay_148 : decode cX1_fadesAsItMay 148 = .ok (.getfield 50, 3) := by decide +kernel
theorem dX1_fadesAsItMay_151 : decode cX1_fadesAsItMay 151 = .ok (.imul, 1) := by decide +kernel
theorem dX1_fadesAsItMay_152 : decode cX1_fadesAsItMay 152 = .ok (.iconst 5, 1) := by decide +kernel
theorem dX1_fadesAsItMay_153 : decode cX1_fadesAsItMay 153 = .ok (.iadd, 1) := by decide +kernel
theorem dX1_fadesAsItMay_154 : decode cX1_fadesAsItMay 154 = .ok (.if_icmp .gt 7, 3) := by decide +kernel
theorem dX1_fadesAsItMay_157 : decode cX1_fadesAsItMay 157 = .ok (.iconst 1, 1) := by decide +kernel
theorem dX1_fadesAsItMay_158 : decode cX1_fadesAsItMay 158 = .ok (.goto 4, 3) := by decide +kernel
theorem dX1_fadesAsItMay_161 : decode cX1_fadesAsItMay 161 = .ok (.iconst 0, 1) := by decide +kernel
theorem dX1_fadesAsItMay_162 : decode cX1_fadesAsItMay 162 = .ok (.ireturn, 1) := by decide +kernel
theorem dX2_init_0 : decode cX2_init 0 = .ok (.aload_n 0, 1) := by decide +kernel
theorem dX2_init_1 : decode cX2_init 1 = .ok (.invokespecial 3, 3) := by decide +kernel
theorem dX2_init_4 : decode cX2_init 4 = .ok (.aload_n 0, 1) := by decide +kernel
theorem dX2_init_5 : decode cX2_init 5 = .ok (.bipush 60, 2) := by decide +kernel
theorem dX2_init_7 : decode cX2_init 7 = .ok (.newarray .int, 2) := by decide +kernel
theorem dX2_init_9 : decode cX2_init 9 = .ok (.putfield 9, 3) := by decide +kernel
theorem dX2_init_12 : decode cX2_init 12 = .ok (.aload_n 0, 1) := by decide +kernel
theorem dX2_init_13 : decode cX2_init 13 = .ok (.iconst 0, 1) := by decide +kernel
theorem dX2_init_14 : decode cX2_init 14 = .ok (.putfield 15, 3) := by decide +kernel
theorem dX2_init_17 : decode cX2_init 17 = .ok (.aload_n 0, 1) := by decide +kernel
theorem dX2_init_18 : decode cX2_init 18 = .ok (.bipush (-9), 2) := by decide +kernel
theorem dX2_init_20 : decode cX2_init 20 = .ok (.putfield 19, 3) := by decide +kernel
theorem dX2_init_23 : decode cX2_init 23 = .ok (.aload_n 0, 1) := by decide +kernel
theorem dX2_init_24 : decode cX2_init 24 = .ok (.bipush (-9), 2) := by decide +kernel
theorem dX2_init_26 : decode cX2_init 26 = .ok (.putfield 22, 3) := by decide +kernel
theorem dX2_init_29 : decode cX2_init 29 = .ok (.aload_n 0, 1) := by decide +kernel
theorem dX2_init_30 : decode cX2_init 30 = .ok (.iconst 0, 1) := by decide +kernel
theorem dX2_init_31 : decode cX2_init 31 = .ok (.putfield 25, 3) := by decide +kernel
theorem dX2_init_34 : decode cX2_init 34 = .ok (.return_, 1) := by decide +kernel
theorem dX2_replay_0 : decode cX2_replay 0 = .ok (.aload_n 0, 1) := by decide +kernel
theorem dX2_replay_1 : decode cX2_replay 1 = .ok (.iconst 0, 1) := by decide +kernel
theorem dX2_replay_2 : decode cX2_replay 2 = .ok (.putfield 15, 3) := by decide +kernel
theorem dX2_replay_5 : decode cX2_replay 5 = .ok (.aload_n 0, 1) := by decide +kernel
theorem dX2_replay_6 : decode cX2_replay 6 = .ok (.bipush (-9), 2) := by decide +kernel
theorem dX2_replay_8 : decode cX2_replay 8 = .ok (.putfield 19, 3) := by decide +kernel
theorem dX2_replay_11 : decode cX2_replay 11 = .ok (.aload_n 0, 1) := by decide +kernel
theorem dX2_replay_12 : decode cX2_replay 12 = .ok (.bipush (-9), 2) := by decide +kernel
theorem dX2_replay_14 : decode cX2_replay 14 = .ok (.putfield 22, 3) := by decide +kernel
theorem dX2_replay_17 : decode cX2_replay 17 = .ok (.aload_n 0, 1) := by decide +kernel
theorem dX2_replay_18 : decode cX2_replay 18 = .ok (.iconst 0, 1) := by decide +kernel
theorem dX2_replay_19 : decode cX2_replay 19 = .ok (.putfield 25, 3) := by decide +kernel
theorem dX2_replay_22 : decode cX2_replay 22 = .ok (.iconst 0, 1) := by decide +kernel
theorem dX2_replay_23 : decode cX2_replay 23 = .ok (.istore 5, 2) := by decide +kernel
theorem dX2_replay_25 : decode cX2_replay 25 = .ok (.iload 5, 2) := by decide +kernel
theorem dX2_replay_27 : decode cX2_replay 27 = .ok (.aload_n 1, 1) := by decide +kernel
theorem dX2_replay_28 : decode cX2_replay 28 = .ok (.getfield 29, 3) := by decide +kernel
theorem dX2_replay_31 : decode cX2_replay 31 = .ok (.if_icmp .ge 59, 3) := by decide +kernel
theorem dX2_replay_34 : decode cX2_replay 34 = .ok (.aload_n 1, 1) := by decide +kernel
theorem dX2_replay_35 : decode cX2_replay 35 = .ok (.getfield 34, 3) := by decide +kernel
theorem dX2_replay_38 : decode cX2_replay 38 = .ok (.iload 5, 2) := by decide +kernel
theorem dX2_replay_40 : decode cX2_replay 40 = .ok (.iaload, 1) := by decide +kernel
theorem dX2_replay_41 : decode cX2_replay 41 = .ok (.istore 6, 2) := by decide +kernel
theorem dX2_replay_43 : decode cX2_replay 43 = .ok (.aload_n 1, 1) := by decide +kernel
theorem dX2_replay_44 : decode cX2_replay 44 = .ok (.getfield 37, 3) := by decide +kernel
theorem dX2_replay_47 : decode cX2_replay 47 = .ok (.iload 6, 2) := by decide +kernel
theorem dX2_replay_49 : decode cX2_replay 49 = .ok (.iaload, 1) := by decide +kernel
theorem dX2_replay_50 : decode cX2_replay 50 = .ok (.iload_n 3, 1) := by decide +kernel
theorem dX2_replay_51 : decode cX2_replay 51 = .ok (.if_icmp .gt 33, 3) := by decide +kernel
theorem dX2_replay_54 : decode cX2_replay 54 = .ok (.aload_n 1, 1) := by decide +kernel
theorem dX2_replay_55 : decode cX2_replay 55 = .ok (.iload 6, 2) := by decide +kernel
theorem dX2_replay_57 : decode cX2_replay 57 = .ok (.iload_n 2, 1) := by decide +kernel
theorem dX2_replay_58 : decode cX2_replay 58 = .ok (.iload 4, 2) := by decide +kernel
theorem dX2_replay_60 : decode cX2_replay 60 = .ok (.invokevirtual 40, 3) := by decide +kernel
theorem dX2_replay_63 : decode cX2_replay 63 = .ok (.ifCond .eq 21, 3) := by decide +kernel
theorem dX2_replay_66 : decode cX2_replay 66 = .ok (.aload_n 0, 1) := by decide +kernel
theorem dX2_replay_67 : decode cX2_replay 67 = .ok (.aload_n 1, 1) := by decide +kernel
theorem dX2_replay_68 : decode cX2_replay 68 = .ok (.getfield 44, 3) := by decide +kernel
theorem dX2_replay_71 : decode cX2_replay 71 = .ok (.iload 6, 2) := by decide +kernel
theorem dX2_replay_73 : decode cX2_replay 73 = .ok (.iaload, 1) := by decide +kernel
theorem dX2_replay_74 : decode cX2_replay 74 = .ok (.aload_n 1, 1) := by decide +kernel
theorem dX2_replay_75 : decode cX2_replay 75 = .ok (.getfield 47, 3) := by decide +kernel
theorem dX2_replay_78 : decode cX2_replay 78 = .ok (.iload 6, 2) := by decide +kernel
theorem dX2_replay_80 : decode cX2_replay 80 = .ok (.iaload, 1) := by decide +kernel
theorem dX2_replay_81 : decode cX2_replay 81 = .ok (.invokevirtual 50, 3) := by decide +kernel
theorem dX2_replay_84 : decode cX2_replay 84 = .ok (.iinc 5 1, 3) := by decide +kernel
theorem dX2_replay_87 : decode cX2_replay 87 = .ok (.goto (-62), 3) := by decide +kernel
theorem dX2_replay_90 : decode cX2_replay 90 = .ok (.return_, 1) := by decide +kernel
theorem dX2_follow_0 : decode cX2_follow 0 = .ok (.iload_n 1, 1) := by decide +kernel
theorem dX2_follow_1 : decode cX2_follow 1 = .ok (.iconst 3, 1) := by decide +kernel
theorem dX2_follow_2 : decode cX2_follow 2 = .ok (.if_icmp .ne 34, 3) := by decide +kernel
theorem dX2_follow_5 : decode cX2_follow 5 = .ok (.aload_n 0, 1) := by decide +kernel
theorem dX2_follow_6 : decode cX2_follow 6 = .ok (.getfield 9, 3) := by decide +kernel
theorem dX2_follow_9 : decode cX2_follow 9 = .ok (.aload_n 0, 1) := by decide +kernel
theorem dX2_follow_10 : decode cX2_follow 10 = .ok (.getfield 15, 3) := by decide +kernel
theorem dX2_follow_13 : decode cX2_follow 13 = .ok (.aload_n 0, 1) := by decide +kernel
theorem dX2_follow_14 : decode cX2_follow 14 = .ok (.getfield 19, 3) := by decide +kernel
theorem dX2_follow_17 : decode cX2_follow 17 = .ok (.iastore, 1) := by decide +kernel
theorem dX2_follow_18 : decode cX2_follow 18 = .ok (.aload_n 0, 1) := by decide +kernel
theorem dX2_follow_19 : decode cX2_follow 19 = .ok (.dup, 1) := by decide +kernel
theorem dX2_follow_20 : decode cX2_follow 20 = .ok (.getfield 15, 3) := by decide +kernel
theorem dX2_follow_23 : decode cX2_follow 23 = .ok (.iconst 1, 1) := by decide +kernel
theorem dX2_follow_24 : decode cX2_follow 24 = .ok (.iadd, 1) := by decide +kernel
theorem dX2_follow_25 : decode cX2_follow 25 = .ok (.putfield 15, 3) := by decide +kernel
theorem dX2_follow_28 : decode cX2_follow 28 = .ok (.aload_n 0, 1) := by decide +kernel
theorem dX2_follow_29 : decode cX2_follow 29 = .ok (.iload_n 2, 1) := by decide +kernel
theorem dX2_follow_30 : decode cX2_follow 30 = .ok (.putfield 19, 3) := by decide +kernel
theorem dX2_follow_33 : decode cX2_follow 33 = .ok (.goto 82, 3) := by decide +kernel
theorem dX2_follow_36 : decode cX2_follow 36 = .ok (.iload_n 1, 1) := by decide +kernel
theorem dX2_follow_37 : decode cX2_follow 37 = .ok (.iconst 4, 1) := by decide +kernel
theorem dX2_follow_38 : decode cX2_follow 38 = .ok (.if_icmp .ne 36, 3) := by decide +kernel
theorem dX2_follow_41 : decode cX2_follow 41 = .ok (.aload_n 0, 1) := by decide +kernel
theorem dX2_follow_42 : decode cX2_follow 42 = .ok (.getfield 15, 3) := by decide +kernel
theorem dX2_follow_45 : decode cX2_follow 45 = .ok (.ifCond .le 70, 3) := by decide +kernel
theorem dX2_follow_48 : decode cX2_follow 48 = .ok (.aload_n 0, 1) := by decide +kernel
theorem dX2_follow_49 : decode cX2_follow 49 = .ok (.dup, 1) := by decide +kernel
theorem dX2_follow_50 : decode cX2_follow 50 = .ok (.getfield 15, 3) := by decide +kernel
theorem dX2_follow_53 : decode cX2_follow 53 = .ok (.iconst 1, 1) := by decide +kernel
theorem dX2_follow_54 : decode cX2_follow 54 = .ok (.isub, 1) := by decide +kernel
theorem dX2_follow_55 : decode cX2_follow 55 = .ok (.putfield 15, 3) := by decide +kernel
theorem dX2_follow_58 : decode cX2_follow 58 = .ok (.aload_n 0, 1) := by decide +kernel
theorem dX2_follow_59 : decode cX2_follow 59 = .ok (.aload_n 0, 1) := by decide +kernel
theorem dX2_follow_60 : decode cX2_follow 60 = .ok (.getfield 9, 3) := by decide +kernel
theorem dX2_follow_63 : decode cX2_follow 63 = .ok (.aload_n 0, 1) := by decide +kernel
theorem dX2_follow_64 : decode cX2_follow 64 = .ok (.getfield 15, 3) := by decide +kernel
theorem dX2_follow_67 : decode cX2_follow 67 = .ok (.iaload, 1) := by decide +kernel
theorem dX2_follow_68 : decode cX2_follow 68 = .ok (.putfield 19, 3) := by decide +kernel
theorem dX2_follow_71 : decode cX2_follow 71 = .ok (.goto 44, 3) := by decide +kernel
theorem dX2_follow_74 : decode cX2_follow 74 = .ok (.aload_n 0, 1) := by decide +kernel
theorem dX2_follow_75 : decode cX2_follow 75 = .ok (.iconst 0, 1) := by decide +kernel
theorem dX2_follow_76 : decode cX2_follow 76 = .ok (.putfield 15, 3) := by decide +kernel
theorem dX2_follow_79 : decode cX2_follow 79 = .ok (.aload_n 0, 1) := by decide +kernel
theorem dX2_follow_80 : decode cX2_follow 80 = .ok (.iload_n 2, 1) := by decide +kernel
theorem dX2_follow_81 : decode cX2_follow 81 = .ok (.putfield 19, 3) := by decide +kernel
theorem dX2_follow_84 : decode cX2_follow 84 = .ok (.aload_n 0, 1) := by decide +kernel
theorem dX2_follow_85 : decode cX2_follow 85 = .ok (.iload_n 1, 1) := by decide +kernel
theorem dX2_follow_86 : decode cX2_follow 86 = .ok (.iconst 2, 1) := by decide +kernel
theorem dX2_follow_87 : decode cX2_follow 87 = .ok (.if_icmp .ne 7, 3) := by decide +kernel
theorem dX2_follow_90 : decode cX2_follow 90 = .ok (.iconst 1, 1) := by decide +kernel
theorem dX2_follow_91 : decode cX2_follow 91 = .ok (.goto 4, 3) := by decide +kernel
theorem dX2_follow_94 : decode cX2_follow 94 = .ok (.iconst 0, 1) := by decide +kernel
theorem dX2_follow_95 : decode cX2_follow 95 = .ok (.putfield 25, 3) := by decide +kernel
theorem dX2_follow_98 : decode cX2_follow 98 = .ok (.aload_n 0, 1) := by decide +kernel
theorem dX2_follow_99 : decode cX2_follow 99 = .ok (.aload_n 0, 1) := by decide +kernel
theorem dX2_follow_100 : decode cX2_follow 100 = .ok (.getfield 25, 3) := by decide +kernel
theorem dX2_follow_103 : decode cX2_follow 103 = .ok (.ifCond .eq 8, 3) := by decide +kernel
theorem dX2_follow_106 : decode cX2_follow 106 = .ok (.bipush (-9), 2) := by decide +kernel
theorem dX2_follow_108 : decode cX2_follow 108 = .ok (.goto 4, 3) := by decide +kernel
theorem dX2_follow_111 : decode cX2_follow 111 = .ok (.iload_n 2, 1) := by decide +kernel
theorem dX2_follow_112 : decode cX2_follow 112 = .ok (.putfield 22, 3) := by decide +kernel
theorem dX2_follow_115 : decode cX2_follow 115 = .ok (.return_, 1) := by decide +kernel
theorem dX2_heldSince_0 : decode cX2_heldSince 0 = .ok (.aload_n 0, 1) := by decide +kernel
theorem dX2_heldSince_1 : decode cX2_heldSince 1 = .ok (.aload_n 1, 1) := by decide +kernel
theorem dX2_heldSince_2 : decode cX2_heldSince 2 = .ok (.iload_n 2, 1) := by decide +kernel
theorem dX2_heldSince_3 : decode cX2_heldSince 3 = .ok (.iload_n 3, 1) := by decide +kernel
theorem dX2_heldSince_4 : decode cX2_heldSince 4 = .ok (.iload 4, 2) := by decide +kernel
theorem dX2_heldSince_6 : decode cX2_heldSince 6 = .ok (.invokevirtual 54, 3) := by decide +kernel
theorem dX2_heldSince_9 : decode cX2_heldSince 9 = .ok (.aload_n 0, 1) := by decide +kernel
theorem dX2_heldSince_10 : decode cX2_heldSince 10 = .ok (.getfield 19, 3) := by decide +kernel
theorem dX2_heldSince_13 : decode cX2_heldSince 13 = .ok (.istore 5, 2) := by decide +kernel
theorem dX2_heldSince_15 : decode cX2_heldSince 15 = .ok (.iload 4, 2) := by decide +kernel
theorem dX2_heldSince_17 : decode cX2_heldSince 17 = .ok (.istore 6, 2) := by decide +kernel
theorem dX2_heldSince_19 : decode cX2_heldSince 19 = .ok (.iconst 0, 1) := by decide +kernel
theorem dX2_heldSince_20 : decode cX2_heldSince 20 = .ok (.istore 7, 2) := by decide +kernel
theorem dX2_heldSince_22 : decode cX2_heldSince 22 = .ok (.iload 7, 2) := by decide +kernel
theorem dX2_heldSince_24 : decode cX2_heldSince 24 = .ok (.bipush 120, 2) := by decide +kernel
theorem dX2_heldSince_26 : decode cX2_heldSince 26 = .ok (.if_icmp .gt 54, 3) := by decide +kernel
theorem dX2_heldSince_29 : decode cX2_heldSince 29 = .ok (.aload_n 1, 1) := by decide +kernel
theorem dX2_heldSince_30 : decode cX2_heldSince 30 = .ok (.iload_n 2, 1) := by decide +kernel
theorem dX2_heldSince_31 : decode cX2_heldSince 31 = .ok (.iload 6, 2) := by decide +kernel
theorem dX2_heldSince_33 : decode cX2_heldSince 33 = .ok (.invokevirtual 58, 3) := by decide +kernel
theorem dX2_heldSince_36 : decode cX2_heldSince 36 = .ok (.istore 8, 2) := by decide +kernel
theorem dX2_heldSince_38 : decode cX2_heldSince 38 = .ok (.iload 8, 2) := by decide +kernel
theorem dX2_heldSince_40 : decode cX2_heldSince 40 = .ok (.ifCond .ne 5, 3) := by decide +kernel
theorem dX2_heldSince_43 : decode cX2_heldSince 43 = .ok (.iconst 0, 1) := by decide +kernel
theorem dX2_heldSince_44 : decode cX2_heldSince 44 = .ok (.ireturn, 1) := by decide +kernel
theorem dX2_heldSince_45 : decode cX2_heldSince 45 = .ok (.aload_n 0, 1) := by decide +kernel
theorem dX2_heldSince_46 : decode cX2_heldSince 46 = .ok (.aload_n 1, 1) := by decide +kernel
theorem dX2_heldSince_47 : decode cX2_heldSince 47 = .ok (.iload_n 2, 1) := by decide +kernel
theorem dX2_heldSince_48 : decode cX2_heldSince 48 = .ok (.iload_n 3, 1) := by decide +kernel
theorem dX2_heldSince_49 : decode cX2_heldSince 49 = .ok (.iload 8, 2) := by decide +kernel
theorem dX2_heldSince_51 : decode cX2_heldSince 51 = .ok (.iconst 1, 1) := by decide +kernel
theorem dX2_heldSince_52 : decode cX2_heldSince 52 = .ok (.isub, 1) := by decide +kernel
theorem dX2_heldSince_53 : decode cX2_heldSince 53 = .ok (.invokevirtual 54, 3) := by decide +kernel
theorem dX2_heldSince_56 : decode cX2_heldSince 56 = .ok (.aload_n 0, 1) := by decide +kernel
theorem dX2_heldSince_57 : decode cX2_heldSince 57 = .ok (.getfield 19, 3) := by decide +kernel
theorem dX2_heldSince_60 : decode cX2_heldSince 60 = .ok (.iload 5, 2) := by decide +kernel
theorem dX2_heldSince_62 : decode cX2_heldSince 62 = .ok (.if_icmp .eq 6, 3) := by decide +kernel
theorem dX2_heldSince_65 : decode cX2_heldSince 65 = .ok (.iload 8, 2) := by decide +kernel
theorem dX2_heldSince_67 : decode cX2_heldSince 67 = .ok (.ireturn, 1) := by decide +kernel
theorem dX2_heldSince_68 : decode cX2_heldSince 68 = .ok (.iload 8, 2) := by decide +kernel
theorem dX2_heldSince_70 : decode cX2_heldSince 70 = .ok (.iconst 1, 1) := by decide +kernel
theorem dX2_heldSince_71 : decode cX2_heldSince 71 = .ok (.isub, 1) := by decide +kernel
theorem dX2_heldSince_72 : decode cX2_heldSince 72 = .ok (.istore 6, 2) := by decide +kernel
theorem dX2_heldSince_74 : decode cX2_heldSince 74 = .ok (.iinc 7 1, 3) := by decide +kernel
theorem dX2_heldSince_77 : decode cX2_heldSince 77 = .ok (.goto (-55), 3) := by decide +kernel
theorem dX2_heldSince_80 : decode cX2_heldSince 80 = .ok (.iconst 0, 1) := by decide +kernel
theorem dX2_heldSince_81 : decode cX2_heldSince 81 = .ok (.ireturn, 1) := by decide +kernel
theorem dX3_init_0 : decode cX3_init 0 = .ok (.aload_n 0, 1) := by decide +kernel
theorem dX3_init_1 : decode cX3_init 1 = .ok (.invokespecial 3, 3) := by decide +kernel
theorem dX3_init_4 : decode cX3_init 4 = .ok (.aload_n 0, 1) := by decide +kernel
theorem dX3_init_5 : decode cX3_init 5 = .ok (.bipush 100, 2) := by decide +kernel
theorem dX3_init_7 : decode cX3_init 7 = .ok (.newarray .int, 2) := by decide +kernel
theorem dX3_init_9 : decode cX3_init 9 = .ok (.putfield 9, 3) := by decide +kernel
theorem dX3_init_12 : decode cX3_init 12 = .ok (.aload_n 0, 1) := by decide +kernel
theorem dX3_init_13 : decode cX3_init 13 = .ok (.bipush 11, 2) := by decide +kernel
theorem dX3_init_15 : decode cX3_init 15 = .ok (.newarray .int, 2) := by decide +kernel
theorem dX3_init_17 : decode cX3_init 17 = .ok (.putfield 15, 3) := by decide +kernel
theorem dX3_init_20 : decode cX3_init 20 = .ok (.aload_n 0, 1) := by decide +kernel
theorem dX3_init_21 : decode cX3_init 21 = .ok (.sipush 11264, 3) := by decide +kernel
theorem dX3_init_24 : decode cX3_init 24 = .ok (.newarray .int, 2) := by decide +kernel
theorem dX3_init_26 : decode cX3_init 26 = .ok (.putfield 18, 3) := by decide +kernel
theorem dX3_init_29 : decode cX3_init 29 = .ok (.aload_n 0, 1) := by decide +kernel
theorem dX3_init_30 : decode cX3_init 30 = .ok (.sipush 1024, 3) := by decide +kernel
theorem dX3_init_33 : decode cX3_init 33 = .ok (.newarray .int, 2) := by decide +kernel
theorem dX3_init_35 : decode cX3_init 35 = .ok (.putfield 21, 3) := by decide +kernel
theorem dX3_init_38 : decode cX3_init 38 = .ok (.aload_n 0, 1) := by decide +kernel
theorem dX3_init_39 : decode cX3_init 39 = .ok (.sipush 1024, 3) := by decide +kernel
theorem dX3_init_42 : decode cX3_init 42 = .ok (.newarray .int, 2) := by decide +kernel
theorem dX3_init_44 : decode cX3_init 44 = .ok (.putfield 24, 3) := by decide +kernel
theorem dX3_init_47 : decode cX3_init 47 = .ok (.aload_n 0, 1) := by decide +kernel
theorem dX3_init_48 : decode cX3_init 48 = .ok (.iconst 0, 1) := by decide +kernel
theorem dX3_init_49 : decode cX3_init 49 = .ok (.putfield 27, 3) := by decide +kernel
theorem dX3_init_52 : decode cX3_init 52 = .ok (.aload_n 0, 1) := by decide +kernel
theorem dX3_init_53 : decode cX3_init 53 = .ok (.iconst 0, 1) := by decide +kernel
theorem dX3_init_54 : decode cX3_init 54 = .ok (.putfield 31, 3) := by decide +kernel
theorem dX3_init_57 : decode cX3_init 57 = .ok (.return_, 1) := by decide +kernel
theorem dX3_solve_0 : decode cX3_solve 0 = .ok (.aload_n 0, 1) := by decide +kernel
theorem dX3_solve_1 : decode cX3_solve 1 = .ok (.aload_n 1, 1) := by decide +kernel
theorem dX3_solve_2 : decode cX3_solve 2 = .ok (.getfield 34, 3) := by decide +kernel
theorem dX3_solve_5 : decode cX3_solve 5 = .ok (.iload_n 2, 1) := by decide +kernel
theorem dX3_solve_6 : decode cX3_solve 6 = .ok (.iaload, 1) := by decide +kernel
theorem dX3_solve_7 : decode cX3_solve 7 = .ok (.putfield 27, 3) := by decide +kernel
theorem dX3_solve_10 : decode cX3_solve 10 = .ok (.aload_n 0, 1) := by decide +kernel
theorem dX3_solve_11 : decode cX3_solve 11 = .ok (.aload_n 1, 1) := by decide +kernel
theorem dX3_solve_12 : decode cX3_solve 12 = .ok (.getfield 34, 3) := by decide +kernel
theorem dX3_solve_15 : decode cX3_solve 15 = .ok (.iload_n 3, 1) := by decide +kernel
theorem dX3_solve_16 : decode cX3_solve 16 = .ok (.iaload, 1) := by decide +kernel
theorem dX3_solve_17 : decode cX3_solve 17 = .ok (.putfield 31, 3) := by decide +kernel
theorem dX3_solve_20 : decode cX3_solve 20 = .ok (.aload_n 0, 1) := by decide +kernel
theorem dX3_solve_21 : decode cX3_solve 21 = .ok (.aload_n 1, 1) := by decide +kernel
theorem dX3_solve_22 : decode cX3_solve 22 = .ok (.iload_n 2, 1) := by decide +kernel
theorem dX3_solve_23 : decode cX3_solve 23 = .ok (.iload_n 3, 1) := by decide +kernel
theorem dX3_solve_24 : decode cX3_solve 24 = .ok (.invokevirtual 39, 3) := by decide +kernel
theorem dX3_solve_27 : decode cX3_solve 27 = .ok (.aload_n 0, 1) := by decide +kernel
theorem dX3_solve_28 : decode cX3_solve 28 = .ok (.invokevirtual 43, 3) := by decide +kernel
theorem dX3_solve_31 : decode cX3_solve 31 = .ok (.aload 4, 2) := by decide +kernel
theorem dX3_solve_33 : decode cX3_solve 33 = .ok (.aload_n 0, 1) := by decide +kernel
theorem dX3_solve_34 : decode cX3_solve 34 = .ok (.getfield 18, 3) := by decide +kernel
theorem dX3_solve_37 : decode cX3_solve 37 = .ok (.iconst 0, 1) := by decide +kernel
theorem dX3_solve_38 : decode cX3_solve 38 = .ok (.iaload, 1) := by decide +kernel
theorem dX3_solve_39 : decode cX3_solve 39 = .ok (.putfield 46, 3) := by decide +kernel
theorem dX3_solve_42 : decode cX3_solve 42 = .ok (.aload_n 0, 1) := by decide +kernel
theorem dX3_solve_43 : decode cX3_solve 43 = .ok (.aload 4, 2) := by decide +kernel
theorem dX3_solve_45 : decode cX3_solve 45 = .ok (.invokevirtual 51, 3) := by decide +kernel
theorem dX3_solve_48 : decode cX3_solve 48 = .ok (.aload_n 0, 1) := by decide +kernel
theorem dX3_solve_49 : decode cX3_solve 49 = .ok (.aload 4, 2) := by decide +kernel
theorem dX3_solve_51 : decode cX3_solve 51 = .ok (.invokevirtual 55, 3) := by decide +kernel
theorem dX3_solve_54 : decode cX3_solve 54 = .ok (.return_, 1) := by decide +kernel
theorem dX3_readLikes_0 : decode cX3_readLikes 0 = .ok (.aload_n 0, 1) := by decide +kernel
theorem dX3_readLikes_1 : decode cX3_readLikes 1 = .ok (.getfield 15, 3) := by decide +kernel
theorem dX3_readLikes_4 : decode cX3_readLikes 4 = .ok (.iconst 0, 1) := by decide +kernel
theorem dX3_readLikes_5 : decode cX3_readLikes 5 = .ok (.iconst 0, 1) := by decide +kernel
theorem dX3_readLikes_6 : decode cX3_readLikes 6 = .ok (.iastore, 1) := by decide +kernel
theorem dX3_readLikes_7 : decode cX3_readLikes 7 = .ok (.iconst 0, 1) := by decide +kernel
theorem dX3_readLikes_8 : decode cX3_readLikes 8 = .ok (.istore 4, 2) := by decide +kernel
theorem dX3_readLikes_10 : decode cX3_readLikes 10 = .ok (.iload 4, 2) := by decide +kernel
theorem dX3_readLikes_12 : decode cX3_readLikes 12 = .ok (.aload_n 0, 1) := by decide +kernel
theorem dX3_readLikes_13 : decode cX3_readLikes 13 = .ok (.getfield 27, 3) := by decide +kernel
theorem dX3_readLikes_16 : decode cX3_readLikes 16 = .ok (.if_icmp .ge 98, 3) := by decide +kernel
theorem dX3_readLikes_19 : decode cX3_readLikes 19 = .ok (.iconst 0, 1) := by decide +kernel
theorem dX3_readLikes_20 : decode cX3_readLikes 20 = .ok (.istore 5, 2) := by decide +kernel
theorem dX3_readLikes_22 : decode cX3_readLikes 22 = .ok (.iconst 0, 1) := by decide +kernel
theorem dX3_readLikes_23 : decode cX3_readLikes 23 = .ok (.istore 6, 2) := by decide +kernel
theorem dX3_readLikes_25 : decode cX3_readLikes 25 = .ok (.iload 6, 2) := by decide +kernel
theorem dX3_readLikes_27 : decode cX3_readLikes 27 = .ok (.aload_n 0, 1) := by decide +kernel
theorem dX3_readLikes_28 : decode cX3_readLikes 28 = .ok (.getfield 31, 3) := by decide +kernel
theorem dX3_readLikes_31 : decode cX3_readLikes 31 = .ok (.if_icmp .ge 58, 3) := by decide +kernel
theorem dX3_readLikes_34 : decode cX3_readLikes 34 = .ok (.aload_n 1, 1) := by decide +kernel
theorem dX3_readLikes_35 : decode cX3_readLikes 35 = .ok (.iload_n 2, 1) := by decide +kernel
theorem dX3_readLikes_36 : decode cX3_readLikes 36 = .ok (.bipush 10, 2) := by decide +kernel
theorem dX3_readLikes_38 : decode cX3_readLikes 38 = .ok (.imul, 1) := by decide +kernel
theorem dX3_readLikes_39 : decode cX3_readLikes 39 = .ok (.iload 4, 2) := by decide +kernel
theorem dX3_readLikes_41 : decode cX3_readLikes 41 = .ok (.iadd, 1) := by decide +kernel
theorem dX3_readLikes_42 : decode cX3_readLikes 42 = .ok (.iload_n 3, 1) := by decide +kernel
theorem dX3_readLikes_43 : decode cX3_readLikes 43 = .ok (.bipush 10, 2) := by decide +kernel
theorem dX3_readLikes_45 : decode cX3_readLikes 45 = .ok (.imul, 1) := by decide +kernel
theorem dX3_readLikes_46 : decode cX3_readLikes 46 = .ok (.iload 6, 2) := by decide +kernel
theorem dX3_readLikes_48 : decode cX3_readLikes 48 = .ok (.iadd, 1) := by decide +kernel
theorem dX3_readLikes_49 : decode cX3_readLikes 49 = .ok (.invokevirtual 58, 3) := by decide +kernel
theorem dX3_readLikes_52 : decode cX3_readLikes 52 = .ok (.istore 7, 2) := by decide +kernel
theorem dX3_readLikes_54 : decode cX3_readLikes 54 = .ok (.aload_n 0, 1) := by decide +kernel
theorem dX3_readLikes_55 : decode cX3_readLikes 55 = .ok (.getfield 9, 3) := by decide +kernel
theorem dX3_readLikes_58 : decode cX3_readLikes 58 = .ok (.iload 4, 2) := by decide +kernel
theorem dX3_readLikes_60 : decode cX3_readLikes 60 = .ok (.bipush 10, 2) := by decide +kernel
theorem dX3_readLikes_62 : decode cX3_readLikes 62 = .ok (.imul, 1) := by decide +kernel
theorem dX3_readLikes_63 : decode cX3_readLikes 63 = .ok (.iload 6, 2) := by decide +kernel
theorem dX3_readLikes_65 : decode cX3_readLikes 65 = .ok (.iadd, 1) := by decide +kernel
theorem dX3_readLikes_66 : decode cX3_readLikes 66 = .ok (.iload 7, 2) := by decide +kernel
theorem dX3_readLikes_68 : decode cX3_readLikes 68 = .ok (.iastore, 1) := by decide +kernel
theorem dX3_readLikes_69 : decode cX3_readLikes 69 = .ok (.iload 7, 2) := by decide +kernel
theorem dX3_readLikes_71 : decode cX3_readLikes 71 = .ok (.ifCond .le 12, 3) := by decide +kernel
theorem dX3_readLikes_74 : decode cX3_readLikes 74 = .ok (.iload 5, 2) := by decide +kernel
theorem dX3_readLikes_76 : decode cX3_readLikes 76 = .ok (.iconst 1, 1) := by decide +kernel
theorem dX3_readLikes_77 : decode cX3_readLikes 77 = .ok (.iload 6, 2) := by decide +kernel
theorem dX3_readLikes_79 : decode cX3_readLikes 79 = .ok (.ishl, 1) := by decide +kernel
theorem dX3_readLikes_80 : decode cX3_readLikes 80 = .ok (.ior, 1) := by decide +kernel
theorem dX3_readLikes_81 : decode cX3_readLikes 81 = .ok (.istore 5, 2) := by decide +kernel
theorem dX3_readLikes_83 : decode cX3_readLikes 83 = .ok (.iinc 6 1, 3) := by decide +kernel
theorem dX3_readLikes_86 : decode cX3_readLikes 86 = .ok (.goto (-61), 3) := by decide +kernel
theorem dX3_readLikes_89 : decode cX3_readLikes 89 = .ok (.aload_n 0, 1) := by decide +kernel
theorem dX3_readLikes_90 : decode cX3_readLikes 90 = .ok (.getfield 15, 3) := by decide +kernel
theorem dX3_readLikes_93 : decode cX3_readLikes 93 = .ok (.iload 4, 2) := by decide +kernel
theorem dX3_readLikes_95 : decode cX3_readLikes 95 = .ok (.iconst 1, 1) := by decide +kernel
theorem dX3_readLikes_96 : decode cX3_readLikes 96 = .ok (.iadd, 1) := by decide +kernel
theorem dX3_readLikes_97 : decode cX3_readLikes 97 = .ok (.aload_n 0, 1) := by decide +kernel
theorem dX3_readLikes_98 : decode cX3_readLikes 98 = .ok (.getfield 15, 3) := by decide +kernel
theorem dX3_readLikes_101 : decode cX3_readLikes 101 = .ok (.iload 4, 2) := by decide +kernel
theorem dX3_readLikes_103 : decode cX3_readLikes 103 = .ok (.iaload, 1) := by decide +kernel
theorem dX3_readLikes_104 : decode cX3_readLikes 104 = .ok (.iload 5, 2) := by decide +kernel
theorem dX3_readLikes_106 : decode cX3_readLikes 106 = .ok (.ior, 1) := by decide +kernel
theorem dX3_readLikes_107 : decode cX3_readLikes 107 = .ok (.iastore, 1) := by decide +kernel
theorem dX3_readLikes_108 : decode cX3_readLikes 108 = .ok (.iinc 4 1, 3) := by decide +kernel
theorem dX3_readLikes_111 : decode cX3_readLikes 111 = .ok (.goto (-101), 3) := by decide +kernel
theorem dX3_readLikes_114 : decode cX3_readLikes 114 = .ok (.return_, 1) := by decide +kernel
theorem dX3_weighStates_0 : decode cX3_weighStates 0 = .ok (.aload_n 0, 1) := by decide +kernel
theorem dX3_weighStates_1 : decode cX3_weighStates 1 = .ok (.getfield 27, 3) := by decide +kernel
theorem dX3_weighStates_4 : decode cX3_weighStates 4 = .ok (.istore_n 1, 1) := by decide +kernel
theorem dX3_weighStates_5 : decode cX3_weighStates 5 = .ok (.iload_n 1, 1) := by decide +kernel
theorem dX3_weighStates_6 : decode cX3_weighStates 6 = .ok (.ifCond .lt 77, 3) := by decide +kernel
theorem dX3_weighStates_9 : decode cX3_weighStates 9 = .ok (.aload_n 0, 1) := by decide +kernel
theorem dX3_weighStates_10 : decode cX3_weighStates 10 = .ok (.getfield 15, 3) := by decide +kernel
theorem dX3_weighStates_13 : decode cX3_weighStates 13 = .ok (.iload_n 1, 1) := by decide +kernel
theorem dX3_weighStates_14 : decode cX3_weighStates 14 = .ok (.iaload, 1) := by decide +kernel
theorem dX3_weighStates_15 : decode cX3_weighStates 15 = .ok (.istore_n 2, 1) := by decide +kernel
theorem dX3_weighStates_16 : decode cX3_weighStates 16 = .ok (.iload_n 2, 1) := by decide +kernel
theorem dX3_weighStates_17 : decode cX3_weighStates 17 = .ok (.istore_n 3, 1) := by decide +kernel
theorem dX3_weighStates_18 : decode cX3_weighStates 18 = .ok (.iload_n 3, 1) := by decide +kernel
theorem dX3_weighStates_19 : decode cX3_weighStates 19 = .ok (.ifCond .lt 58, 3) := by decide +kernel
theorem dX3_weighStates_22 : decode cX3_weighStates 22 = .ok (.iload_n 3, 1) := by decide +kernel
theorem dX3_weighStates_23 : decode cX3_weighStates 23 = .ok (.invokestatic 62, 3) := by decide +kernel
theorem dX3_weighStates_26 : decode cX3_weighStates 26 = .ok (.iload_n 1, 1) := by decide +kernel
theorem dX3_weighStates_27 : decode cX3_weighStates 27 = .ok (.if_icmp .gt 33, 3) := by decide +kernel
theorem dX3_weighStates_30 : decode cX3_weighStates 30 = .ok (.aload_n 0, 1) := by decide +kernel
theorem dX3_weighStates_31 : decode cX3_weighStates 31 = .ok (.getfield 18, 3) := by decide +kernel
theorem dX3_weighStates_34 : decode cX3_weighStates 34 = .ok (.iload_n 1, 1) := by decide +kernel
theorem dX3_weighStates_35 : decode cX3_weighStates 35 = .ok (.sipush 1024, 3) := by decide +kernel
theorem dX3_weighStates_38 : decode cX3_weighStates 38 = .ok (.imul, 1) := by decide +kernel
theorem dX3_weighStates_39 : decode cX3_weighStates 39 = .ok (.iload_n 3, 1) := by decide +kernel
theorem dX3_weighStates_40 : decode cX3_weighStates 40 = .ok (.iadd, 1) := by decide +kernel
theorem dX3_weighStates_41 : decode cX3_weighStates 41 = .ok (.iload_n 1, 1) := by decide +kernel
theorem dX3_weighStates_42 : decode cX3_weighStates 42 = .ok (.aload_n 0, 1) := by decide +kernel
theorem dX3_weighStates_43 : decode cX3_weighStates 43 = .ok (.getfield 27, 3) := by decide +kernel
theorem dX3_weighStates_46 : decode cX3_weighStates 46 = .ok (.if_icmp .ne 7, 3) := by decide +kernel
end
section
theorem dX3_weighStates_49 : decode cX3_weighStates 49 = .ok (.iconst 0, 1) := by decide +kernel
theorem dX3_weighStates_50 : decode cX3_weighStates 50 = .ok (.goto 9, 3) := by decide +kernel
theorem dX3_weighStates_53 : decode cX3_weighStates 53 = .ok (.aload_n 0, 1) := by decide +kernel
theorem dX3_weighStates_54 : decode cX3_weighStates 54 = .ok (.iload_n 1, 1) := by decide +kernel
theorem dX3_weighStates_55 : decode cX3_weighStates 55 = .ok (.iload_n 3, 1) := by decide +kernel
theorem dX3_weighStates_56 : decode cX3_weighStates 56 = .ok (.invokevirtual 68, 3) := by decide +kernel
theorem dX3_weighStates_59 : decode cX3_weighStates 59 = .ok (.iastore, 1) := by decide +kernel
theorem dX3_weighStates_60 : decode cX3_weighStates 60 = .ok (.iload_n 3, 1) := by decide +kernel
theorem dX3_weighStates_61 : decode cX3_weighStates 61 = .ok (.ifCond .ne 7, 3) := by decide +kernel
theorem dX3_weighStates_64 : decode cX3_weighStates 64 = .ok (.iconst (-1), 1) := by decide +kernel
theorem dX3_weighStates_65 : decode cX3_weighStates 65 = .ok (.goto 8, 3) := by decide +kernel
theorem dX3_weighStates_68 : decode cX3_weighStates 68 = .ok (.iload_n 3, 1) := by decide +kernel
theorem dX3_weighStates_69 : decode cX3_weighStates 69 = .ok (.iconst 1, 1) := by decide +kernel
theorem dX3_weighStates_70 : decode cX3_weighStates 70 = .ok (.isub, 1) := by decide +kernel
theorem dX3_weighStates_71 : decode cX3_weighStates 71 = .ok (.iload_n 2, 1) := by decide +kernel
theorem dX3_weighStates_72 : decode cX3_weighStates 72 = .ok (.iand, 1) := by decide +kernel
theorem dX3_weighStates_73 : decode cX3_weighStates 73 = .ok (.istore_n 3, 1) := by decide +kernel
theorem dX3_weighStates_74 : decode cX3_weighStates 74 = .ok (.goto (-56), 3) := by decide +kernel
theorem dX3_weighStates_77 : decode cX3_weighStates 77 = .ok (.iinc 1 (-1), 3) := by decide +kernel
theorem dX3_weighStates_80 : decode cX3_weighStates 80 = .ok (.goto (-75), 3) := by decide +kernel
theorem dX3_weighStates_83 : decode cX3_weighStates 83 = .ok (.return_, 1) := by decide +kernel
theorem dX3_weighState_0 : decode cX3_weighState 0 = .ok (.aload_n 0, 1) := by decide +kernel
theorem dX3_weighState_1 : decode cX3_weighState 1 = .ok (.getfield 18, 3) := by decide +kernel
theorem dX3_weighState_4 : decode cX3_weighState 4 = .ok (.iload_n 1, 1) := by decide +kernel
theorem dX3_weighState_5 : decode cX3_weighState 5 = .ok (.iconst 1, 1) := by decide +kernel
theorem dX3_weighState_6 : decode cX3_weighState 6 = .ok (.iadd, 1) := by decide +kernel
theorem dX3_weighState_7 : decode cX3_weighState 7 = .ok (.sipush 1024, 3) := by decide +kernel
theorem dX3_weighState_10 : decode cX3_weighState 10 = .ok (.imul, 1) := by decide +kernel
theorem dX3_weighState_11 : decode cX3_weighState 11 = .ok (.iload_n 2, 1) := by decide +kernel
theorem dX3_weighState_12 : decode cX3_weighState 12 = .ok (.iadd, 1) := by decide +kernel
theorem dX3_weighState_13 : decode cX3_weighState 13 = .ok (.iaload, 1) := by decide +kernel
theorem dX3_weighState_14 : decode cX3_weighState 14 = .ok (.istore_n 3, 1) := by decide +kernel
theorem dX3_weighState_15 : decode cX3_weighState 15 = .ok (.iconst 0, 1) := by decide +kernel
theorem dX3_weighState_16 : decode cX3_weighState 16 = .ok (.istore 4, 2) := by decide +kernel
theorem dX3_weighState_18 : decode cX3_weighState 18 = .ok (.iload 4, 2) := by decide +kernel
theorem dX3_weighState_20 : decode cX3_weighState 20 = .ok (.aload_n 0, 1) := by decide +kernel
theorem dX3_weighState_21 : decode cX3_weighState 21 = .ok (.getfield 31, 3) := by decide +kernel
theorem dX3_weighState_24 : decode cX3_weighState 24 = .ok (.if_icmp .ge 22, 3) := by decide +kernel
theorem dX3_weighState_27 : decode cX3_weighState 27 = .ok (.iload_n 3, 1) := by decide +kernel
theorem dX3_weighState_28 : decode cX3_weighState 28 = .ok (.aload_n 0, 1) := by decide +kernel
theorem dX3_weighState_29 : decode cX3_weighState 29 = .ok (.iload_n 1, 1) := by decide +kernel
theorem dX3_weighState_30 : decode cX3_weighState 30 = .ok (.iload_n 2, 1) := by decide +kernel
theorem dX3_weighState_31 : decode cX3_weighState 31 = .ok (.iload 4, 2) := by decide +kernel
theorem dX3_weighState_33 : decode cX3_weighState 33 = .ok (.invokevirtual 71, 3) := by decide +kernel
theorem dX3_weighState_36 : decode cX3_weighState 36 = .ok (.invokestatic 75, 3) := by decide +kernel
theorem dX3_weighState_39 : decode cX3_weighState 39 = .ok (.istore_n 3, 1) := by decide +kernel
theorem dX3_weighState_40 : decode cX3_weighState 40 = .ok (.iinc 4 1, 3) := by decide +kernel
theorem dX3_weighState_43 : decode cX3_weighState 43 = .ok (.goto (-25), 3) := by decide +kernel
theorem dX3_weighState_46 : decode cX3_weighState 46 = .ok (.iload_n 3, 1) := by decide +kernel
theorem dX3_weighState_47 : decode cX3_weighState 47 = .ok (.ireturn, 1) := by decide +kernel
theorem dX3_valueOf_0 : decode cX3_valueOf 0 = .ok (.aload_n 0, 1) := by decide +kernel
theorem dX3_valueOf_1 : decode cX3_valueOf 1 = .ok (.getfield 9, 3) := by decide +kernel
theorem dX3_valueOf_4 : decode cX3_valueOf 4 = .ok (.iload_n 1, 1) := by decide +kernel
theorem dX3_valueOf_5 : decode cX3_valueOf 5 = .ok (.bipush 10, 2) := by decide +kernel
theorem dX3_valueOf_7 : decode cX3_valueOf 7 = .ok (.imul, 1) := by decide +kernel
theorem dX3_valueOf_8 : decode cX3_valueOf 8 = .ok (.iload_n 3, 1) := by decide +kernel
theorem dX3_valueOf_9 : decode cX3_valueOf 9 = .ok (.iadd, 1) := by decide +kernel
theorem dX3_valueOf_10 : decode cX3_valueOf 10 = .ok (.iaload, 1) := by decide +kernel
theorem dX3_valueOf_11 : decode cX3_valueOf 11 = .ok (.istore 4, 2) := by decide +kernel
theorem dX3_valueOf_13 : decode cX3_valueOf 13 = .ok (.iload 4, 2) := by decide +kernel
theorem dX3_valueOf_15 : decode cX3_valueOf 15 = .ok (.ifCond .eq 11, 3) := by decide +kernel
theorem dX3_valueOf_18 : decode cX3_valueOf 18 = .ok (.iload_n 2, 1) := by decide +kernel
theorem dX3_valueOf_19 : decode cX3_valueOf 19 = .ok (.iload_n 3, 1) := by decide +kernel
theorem dX3_valueOf_20 : decode cX3_valueOf 20 = .ok (.ishr, 1) := by decide +kernel
theorem dX3_valueOf_21 : decode cX3_valueOf 21 = .ok (.iconst 1, 1) := by decide +kernel
theorem dX3_valueOf_22 : decode cX3_valueOf 22 = .ok (.iand, 1) := by decide +kernel
theorem dX3_valueOf_23 : decode cX3_valueOf 23 = .ok (.ifCond .eq 5, 3) := by decide +kernel
theorem dX3_valueOf_26 : decode cX3_valueOf 26 = .ok (.iconst (-1), 1) := by decide +kernel
theorem dX3_valueOf_27 : decode cX3_valueOf 27 = .ok (.ireturn, 1) := by decide +kernel
theorem dX3_valueOf_28 : decode cX3_valueOf 28 = .ok (.iload 4, 2) := by decide +kernel
theorem dX3_valueOf_30 : decode cX3_valueOf 30 = .ok (.aload_n 0, 1) := by decide +kernel
theorem dX3_valueOf_31 : decode cX3_valueOf 31 = .ok (.getfield 18, 3) := by decide +kernel
theorem dX3_valueOf_34 : decode cX3_valueOf 34 = .ok (.iload_n 1, 1) := by decide +kernel
theorem dX3_valueOf_35 : decode cX3_valueOf 35 = .ok (.iconst 1, 1) := by decide +kernel
theorem dX3_valueOf_36 : decode cX3_valueOf 36 = .ok (.iadd, 1) := by decide +kernel
theorem dX3_valueOf_37 : decode cX3_valueOf 37 = .ok (.sipush 1024, 3) := by decide +kernel
theorem dX3_valueOf_40 : decode cX3_valueOf 40 = .ok (.imul, 1) := by decide +kernel
theorem dX3_valueOf_41 : decode cX3_valueOf 41 = .ok (.iload_n 2, 1) := by decide +kernel
theorem dX3_valueOf_42 : decode cX3_valueOf 42 = .ok (.iconst 1, 1) := by decide +kernel
theorem dX3_valueOf_43 : decode cX3_valueOf 43 = .ok (.iload_n 3, 1) := by decide +kernel
theorem dX3_valueOf_44 : decode cX3_valueOf 44 = .ok (.ishl, 1) := by decide +kernel
theorem dX3_valueOf_45 : decode cX3_valueOf 45 = .ok (.ior, 1) := by decide +kernel
theorem dX3_valueOf_46 : decode cX3_valueOf 46 = .ok (.iadd, 1) := by decide +kernel
theorem dX3_valueOf_47 : decode cX3_valueOf 47 = .ok (.iaload, 1) := by decide +kernel
theorem dX3_valueOf_48 : decode cX3_valueOf 48 = .ok (.iadd, 1) := by decide +kernel
theorem dX3_valueOf_49 : decode cX3_valueOf 49 = .ok (.ireturn, 1) := by decide +kernel
theorem dX3_tellFirst_0 : decode cX3_tellFirst 0 = .ok (.iconst 0, 1) := by decide +kernel
theorem dX3_tellFirst_1 : decode cX3_tellFirst 1 = .ok (.istore_n 2, 1) := by decide +kernel
theorem dX3_tellFirst_2 : decode cX3_tellFirst 2 = .ok (.iconst 0, 1) := by decide +kernel
theorem dX3_tellFirst_3 : decode cX3_tellFirst 3 = .ok (.istore_n 3, 1) := by decide +kernel
theorem dX3_tellFirst_4 : decode cX3_tellFirst 4 = .ok (.iload_n 3, 1) := by decide +kernel
theorem dX3_tellFirst_5 : decode cX3_tellFirst 5 = .ok (.aload_n 0, 1) := by decide +kernel
theorem dX3_tellFirst_6 : decode cX3_tellFirst 6 = .ok (.getfield 27, 3) := by decide +kernel
theorem dX3_tellFirst_9 : decode cX3_tellFirst 9 = .ok (.if_icmp .ge 87, 3) := by decide +kernel
theorem dX3_tellFirst_12 : decode cX3_tellFirst 12 = .ok (.bipush (-9), 2) := by decide +kernel
theorem dX3_tellFirst_14 : decode cX3_tellFirst 14 = .ok (.istore 4, 2) := by decide +kernel
theorem dX3_tellFirst_16 : decode cX3_tellFirst 16 = .ok (.iconst 0, 1) := by decide +kernel
theorem dX3_tellFirst_17 : decode cX3_tellFirst 17 = .ok (.istore 5, 2) := by decide +kernel
theorem dX3_tellFirst_19 : decode cX3_tellFirst 19 = .ok (.iload 5, 2) := by decide +kernel
theorem dX3_tellFirst_21 : decode cX3_tellFirst 21 = .ok (.aload_n 0, 1) := by decide +kernel
theorem dX3_tellFirst_22 : decode cX3_tellFirst 22 = .ok (.getfield 31, 3) := by decide +kernel
theorem dX3_tellFirst_25 : decode cX3_tellFirst 25 = .ok (.if_icmp .ge 43, 3) := by decide +kernel
theorem dX3_tellFirst_28 : decode cX3_tellFirst 28 = .ok (.iload 4, 2) := by decide +kernel
theorem dX3_tellFirst_30 : decode cX3_tellFirst 30 = .ok (.bipush (-9), 2) := by decide +kernel
theorem dX3_tellFirst_32 : decode cX3_tellFirst 32 = .ok (.if_icmp .ne 36, 3) := by decide +kernel
theorem dX3_tellFirst_35 : decode cX3_tellFirst 35 = .ok (.aload_n 0, 1) := by decide +kernel
theorem dX3_tellFirst_36 : decode cX3_tellFirst 36 = .ok (.iload_n 3, 1) := by decide +kernel
theorem dX3_tellFirst_37 : decode cX3_tellFirst 37 = .ok (.iload_n 2, 1) := by decide +kernel
theorem dX3_tellFirst_38 : decode cX3_tellFirst 38 = .ok (.iload 5, 2) := by decide +kernel
theorem dX3_tellFirst_40 : decode cX3_tellFirst 40 = .ok (.invokevirtual 71, 3) := by decide +kernel
theorem dX3_tellFirst_43 : decode cX3_tellFirst 43 = .ok (.aload_n 0, 1) := by decide +kernel
theorem dX3_tellFirst_44 : decode cX3_tellFirst 44 = .ok (.getfield 18, 3) := by decide +kernel
theorem dX3_tellFirst_47 : decode cX3_tellFirst 47 = .ok (.iload_n 3, 1) := by decide +kernel
theorem dX3_tellFirst_48 : decode cX3_tellFirst 48 = .ok (.sipush 1024, 3) := by decide +kernel
theorem dX3_tellFirst_51 : decode cX3_tellFirst 51 = .ok (.imul, 1) := by decide +kernel
theorem dX3_tellFirst_52 : decode cX3_tellFirst 52 = .ok (.iload_n 2, 1) := by decide +kernel
theorem dX3_tellFirst_53 : decode cX3_tellFirst 53 = .ok (.iadd, 1) := by decide +kernel
theorem dX3_tellFirst_54 : decode cX3_tellFirst 54 = .ok (.iaload, 1) := by decide +kernel
theorem dX3_tellFirst_55 : decode cX3_tellFirst 55 = .ok (.if_icmp .ne 7, 3) := by decide +kernel
theorem dX3_tellFirst_58 : decode cX3_tellFirst 58 = .ok (.iload 5, 2) := by decide +kernel
theorem dX3_tellFirst_60 : decode cX3_tellFirst 60 = .ok (.istore 4, 2) := by decide +kernel
theorem dX3_tellFirst_62 : decode cX3_tellFirst 62 = .ok (.iinc 5 1, 3) := by decide +kernel
theorem dX3_tellFirst_65 : decode cX3_tellFirst 65 = .ok (.goto (-46), 3) := by decide +kernel
theorem dX3_tellFirst_68 : decode cX3_tellFirst 68 = .ok (.aload_n 1, 1) := by decide +kernel
theorem dX3_tellFirst_69 : decode cX3_tellFirst 69 = .ok (.getfield 80, 3) := by decide +kernel
theorem dX3_tellFirst_72 : decode cX3_tellFirst 72 = .ok (.iload_n 3, 1) := by decide +kernel
theorem dX3_tellFirst_73 : decode cX3_tellFirst 73 = .ok (.iload 4, 2) := by decide +kernel
theorem dX3_tellFirst_75 : decode cX3_tellFirst 75 = .ok (.iastore, 1) := by decide +kernel
theorem dX3_tellFirst_76 : decode cX3_tellFirst 76 = .ok (.iload 4, 2) := by decide +kernel
theorem dX3_tellFirst_78 : decode cX3_tellFirst 78 = .ok (.bipush (-9), 2) := by decide +kernel
theorem dX3_tellFirst_80 : decode cX3_tellFirst 80 = .ok (.if_icmp .eq 10, 3) := by decide +kernel
theorem dX3_tellFirst_83 : decode cX3_tellFirst 83 = .ok (.iload_n 2, 1) := by decide +kernel
theorem dX3_tellFirst_84 : decode cX3_tellFirst 84 = .ok (.iconst 1, 1) := by decide +kernel
theorem dX3_tellFirst_85 : decode cX3_tellFirst 85 = .ok (.iload 4, 2) := by decide +kernel
theorem dX3_tellFirst_87 : decode cX3_tellFirst 87 = .ok (.ishl, 1) := by decide +kernel
theorem dX3_tellFirst_88 : decode cX3_tellFirst 88 = .ok (.ior, 1) := by decide +kernel
theorem dX3_tellFirst_89 : decode cX3_tellFirst 89 = .ok (.istore_n 2, 1) := by decide +kernel
theorem dX3_tellFirst_90 : decode cX3_tellFirst 90 = .ok (.iinc 3 1, 3) := by decide +kernel
theorem dX3_tellFirst_93 : decode cX3_tellFirst 93 = .ok (.goto (-89), 3) := by decide +kernel
theorem dX3_tellFirst_96 : decode cX3_tellFirst 96 = .ok (.return_, 1) := by decide +kernel
theorem dX3_tellWays_0 : decode cX3_tellWays 0 = .ok (.aload_n 0, 1) := by decide +kernel
theorem dX3_tellWays_1 : decode cX3_tellWays 1 = .ok (.getfield 21, 3) := by decide +kernel
theorem dX3_tellWays_4 : decode cX3_tellWays 4 = .ok (.iconst 0, 1) := by decide +kernel
theorem dX3_tellWays_5 : decode cX3_tellWays 5 = .ok (.iconst 1, 1) := by decide +kernel
theorem dX3_tellWays_6 : decode cX3_tellWays 6 = .ok (.iastore, 1) := by decide +kernel
theorem dX3_tellWays_7 : decode cX3_tellWays 7 = .ok (.iconst 0, 1) := by decide +kernel
theorem dX3_tellWays_8 : decode cX3_tellWays 8 = .ok (.istore_n 2, 1) := by decide +kernel
theorem dX3_tellWays_9 : decode cX3_tellWays 9 = .ok (.iload_n 2, 1) := by decide +kernel
theorem dX3_tellWays_10 : decode cX3_tellWays 10 = .ok (.aload_n 0, 1) := by decide +kernel
theorem dX3_tellWays_11 : decode cX3_tellWays 11 = .ok (.getfield 27, 3) := by decide +kernel
theorem dX3_tellWays_14 : decode cX3_tellWays 14 = .ok (.if_icmp .ge 123, 3) := by decide +kernel
theorem dX3_tellWays_17 : decode cX3_tellWays 17 = .ok (.iconst 0, 1) := by decide +kernel
theorem dX3_tellWays_18 : decode cX3_tellWays 18 = .ok (.istore_n 3, 1) := by decide +kernel
theorem dX3_tellWays_19 : decode cX3_tellWays 19 = .ok (.aload_n 0, 1) := by decide +kernel
theorem dX3_tellWays_20 : decode cX3_tellWays 20 = .ok (.getfield 15, 3) := by decide +kernel
theorem dX3_tellWays_23 : decode cX3_tellWays 23 = .ok (.iload_n 2, 1) := by decide +kernel
theorem dX3_tellWays_24 : decode cX3_tellWays 24 = .ok (.iaload, 1) := by decide +kernel
theorem dX3_tellWays_25 : decode cX3_tellWays 25 = .ok (.istore 4, 2) := by decide +kernel
theorem dX3_tellWays_27 : decode cX3_tellWays 27 = .ok (.iload 4, 2) := by decide +kernel
theorem dX3_tellWays_29 : decode cX3_tellWays 29 = .ok (.istore 5, 2) := by decide +kernel
theorem dX3_tellWays_31 : decode cX3_tellWays 31 = .ok (.iload 5, 2) := by decide +kernel
theorem dX3_tellWays_33 : decode cX3_tellWays 33 = .ok (.ifCond .lt 52, 3) := by decide +kernel
theorem dX3_tellWays_36 : decode cX3_tellWays 36 = .ok (.aload_n 0, 1) := by decide +kernel
theorem dX3_tellWays_37 : decode cX3_tellWays 37 = .ok (.getfield 21, 3) := by decide +kernel
theorem dX3_tellWays_40 : decode cX3_tellWays 40 = .ok (.iload 5, 2) := by decide +kernel
theorem dX3_tellWays_42 : decode cX3_tellWays 42 = .ok (.iaload, 1) := by decide +kernel
theorem dX3_tellWays_43 : decode cX3_tellWays 43 = .ok (.ifCond .le 21, 3) := by decide +kernel
theorem dX3_tellWays_46 : decode cX3_tellWays 46 = .ok (.iload_n 3, 1) := by decide +kernel
theorem dX3_tellWays_47 : decode cX3_tellWays 47 = .ok (.aload_n 0, 1) := by decide +kernel
theorem dX3_tellWays_48 : decode cX3_tellWays 48 = .ok (.iload_n 2, 1) := by decide +kernel
theorem dX3_tellWays_49 : decode cX3_tellWays 49 = .ok (.iload 5, 2) := by decide +kernel
theorem dX3_tellWays_51 : decode cX3_tellWays 51 = .ok (.invokevirtual 83, 3) := by decide +kernel
theorem dX3_tellWays_54 : decode cX3_tellWays 54 = .ok (.ior, 1) := by decide +kernel
theorem dX3_tellWays_55 : decode cX3_tellWays 55 = .ok (.istore_n 3, 1) := by decide +kernel
theorem dX3_tellWays_56 : decode cX3_tellWays 56 = .ok (.aload_n 0, 1) := by decide +kernel
theorem dX3_tellWays_57 : decode cX3_tellWays 57 = .ok (.getfield 21, 3) := by decide +kernel
theorem dX3_tellWays_60 : decode cX3_tellWays 60 = .ok (.iload 5, 2) := by decide +kernel
theorem dX3_tellWays_62 : decode cX3_tellWays 62 = .ok (.iconst 0, 1) := by decide +kernel
theorem dX3_tellWays_63 : decode cX3_tellWays 63 = .ok (.iastore, 1) := by decide +kernel
theorem dX3_tellWays_64 : decode cX3_tellWays 64 = .ok (.iload 5, 2) := by decide +kernel
theorem dX3_tellWays_66 : decode cX3_tellWays 66 = .ok (.ifCond .ne 7, 3) := by decide +kernel
theorem dX3_tellWays_69 : decode cX3_tellWays 69 = .ok (.iconst (-1), 1) := by decide +kernel
theorem dX3_tellWays_70 : decode cX3_tellWays 70 = .ok (.goto 10, 3) := by decide +kernel
theorem dX3_tellWays_73 : decode cX3_tellWays 73 = .ok (.iload 5, 2) := by decide +kernel
theorem dX3_tellWays_75 : decode cX3_tellWays 75 = .ok (.iconst 1, 1) := by decide +kernel
theorem dX3_tellWays_76 : decode cX3_tellWays 76 = .ok (.isub, 1) := by decide +kernel
theorem dX3_tellWays_77 : decode cX3_tellWays 77 = .ok (.iload 4, 2) := by decide +kernel
theorem dX3_tellWays_79 : decode cX3_tellWays 79 = .ok (.iand, 1) := by decide +kernel
theorem dX3_tellWays_80 : decode cX3_tellWays 80 = .ok (.istore 5, 2) := by decide +kernel
theorem dX3_tellWays_82 : decode cX3_tellWays 82 = .ok (.goto (-51), 3) := by decide +kernel
theorem dX3_tellWays_85 : decode cX3_tellWays 85 = .ok (.aload_n 1, 1) := by decide +kernel
theorem dX3_tellWays_86 : decode cX3_tellWays 86 = .ok (.getfield 86, 3) := by decide +kernel
theorem dX3_tellWays_89 : decode cX3_tellWays 89 = .ok (.iload_n 2, 1) := by decide +kernel
theorem dX3_tellWays_90 : decode cX3_tellWays 90 = .ok (.iload_n 3, 1) := by decide +kernel
theorem dX3_tellWays_91 : decode cX3_tellWays 91 = .ok (.invokestatic 62, 3) := by decide +kernel
theorem dX3_tellWays_94 : decode cX3_tellWays 94 = .ok (.iconst 1, 1) := by decide +kernel
theorem dX3_tellWays_95 : decode cX3_tellWays 95 = .ok (.if_icmp .ne 14, 3) := by decide +kernel
theorem dX3_tellWays_98 : decode cX3_tellWays 98 = .ok (.iload_n 3, 1) := by decide +kernel
theorem dX3_tellWays_99 : decode cX3_tellWays 99 = .ok (.sipush 1024, 3) := by decide +kernel
theorem dX3_tellWays_102 : decode cX3_tellWays 102 = .ok (.if_icmp .ge 7, 3) := by decide +kernel
theorem dX3_tellWays_105 : decode cX3_tellWays 105 = .ok (.iconst 1, 1) := by decide +kernel
theorem dX3_tellWays_106 : decode cX3_tellWays 106 = .ok (.goto 4, 3) := by decide +kernel
theorem dX3_tellWays_109 : decode cX3_tellWays 109 = .ok (.iconst 0, 1) := by decide +kernel
theorem dX3_tellWays_110 : decode cX3_tellWays 110 = .ok (.bastore, 1) := by decide +kernel
theorem dX3_tellWays_111 : decode cX3_tellWays 111 = .ok (.aload_n 0, 1) := by decide +kernel
theorem dX3_tellWays_112 : decode cX3_tellWays 112 = .ok (.getfield 21, 3) := by decide +kernel
theorem dX3_tellWays_115 : decode cX3_tellWays 115 = .ok (.astore 5, 2) := by decide +kernel
theorem dX3_tellWays_117 : decode cX3_tellWays 117 = .ok (.aload_n 0, 1) := by decide +kernel
theorem dX3_tellWays_118 : decode cX3_tellWays 118 = .ok (.aload_n 0, 1) := by decide +kernel
theorem dX3_tellWays_119 : decode cX3_tellWays 119 = .ok (.getfield 24, 3) := by decide +kernel
theorem dX3_tellWays_122 : decode cX3_tellWays 122 = .ok (.putfield 21, 3) := by decide +kernel
theorem dX3_tellWays_125 : decode cX3_tellWays 125 = .ok (.aload_n 0, 1) := by decide +kernel
theorem dX3_tellWays_126 : decode cX3_tellWays 126 = .ok (.aload 5, 2) := by decide +kernel
theorem dX3_tellWays_128 : decode cX3_tellWays 128 = .ok (.putfield 24, 3) := by decide +kernel
theorem dX3_tellWays_131 : decode cX3_tellWays 131 = .ok (.iinc 2 1, 3) := by decide +kernel
theorem dX3_tellWays_134 : decode cX3_tellWays 134 = .ok (.goto (-125), 3) := by decide +kernel
theorem dX3_tellWays_137 : decode cX3_tellWays 137 = .ok (.aload_n 1, 1) := by decide +kernel
theorem dX3_tellWays_138 : decode cX3_tellWays 138 = .ok (.aload_n 0, 1) := by decide +kernel
theorem dX3_tellWays_139 : decode cX3_tellWays 139 = .ok (.aload_n 0, 1) := by decide +kernel
theorem dX3_tellWays_140 : decode cX3_tellWays 140 = .ok (.getfield 15, 3) := by decide +kernel
theorem dX3_tellWays_143 : decode cX3_tellWays 143 = .ok (.aload_n 0, 1) := by decide +kernel
theorem dX3_tellWays_144 : decode cX3_tellWays 144 = .ok (.getfield 27, 3) := by decide +kernel
theorem dX3_tellWays_147 : decode cX3_tellWays 147 = .ok (.iaload, 1) := by decide +kernel
theorem dX3_tellWays_148 : decode cX3_tellWays 148 = .ok (.invokevirtual 90, 3) := by decide +kernel
theorem dX3_tellWays_151 : decode cX3_tellWays 151 = .ok (.putfield 93, 3) := by decide +kernel
theorem dX3_tellWays_154 : decode cX3_tellWays 154 = .ok (.return_, 1) := by decide +kernel
theorem dX3_passOn_0 : decode cX3_passOn 0 = .ok (.aload_n 0, 1) := by decide +kernel
theorem dX3_passOn_1 : decode cX3_passOn 1 = .ok (.getfield 18, 3) := by decide +kernel
theorem dX3_passOn_4 : decode cX3_passOn 4 = .ok (.iload_n 1, 1) := by decide +kernel
theorem dX3_passOn_5 : decode cX3_passOn 5 = .ok (.sipush 1024, 3) := by decide +kernel
theorem dX3_passOn_8 : decode cX3_passOn 8 = .ok (.imul, 1) := by decide +kernel
theorem dX3_passOn_9 : decode cX3_passOn 9 = .ok (.iload_n 2, 1) := by decide +kernel
theorem dX3_passOn_10 : decode cX3_passOn 10 = .ok (.iadd, 1) := by decide +kernel
theorem dX3_passOn_11 : decode cX3_passOn 11 = .ok (.iaload, 1) := by decide +kernel
theorem dX3_passOn_12 : decode cX3_passOn 12 = .ok (.istore_n 3, 1) := by decide +kernel
theorem dX3_passOn_13 : decode cX3_passOn 13 = .ok (.iconst 0, 1) := by decide +kernel
theorem dX3_passOn_14 : decode cX3_passOn 14 = .ok (.istore 4, 2) := by decide +kernel
theorem dX3_passOn_16 : decode cX3_passOn 16 = .ok (.iconst 0, 1) := by decide +kernel
theorem dX3_passOn_17 : decode cX3_passOn 17 = .ok (.istore 5, 2) := by decide +kernel
theorem dX3_passOn_19 : decode cX3_passOn 19 = .ok (.iload 5, 2) := by decide +kernel
theorem dX3_passOn_21 : decode cX3_passOn 21 = .ok (.aload_n 0, 1) := by decide +kernel
theorem dX3_passOn_22 : decode cX3_passOn 22 = .ok (.getfield 31, 3) := by decide +kernel
theorem dX3_passOn_25 : decode cX3_passOn 25 = .ok (.if_icmp .ge 46, 3) := by decide +kernel
theorem dX3_passOn_28 : decode cX3_passOn 28 = .ok (.aload_n 0, 1) := by decide +kernel
theorem dX3_passOn_29 : decode cX3_passOn 29 = .ok (.iload_n 1, 1) := by decide +kernel
theorem dX3_passOn_30 : decode cX3_passOn 30 = .ok (.iload_n 2, 1) := by decide +kernel
theorem dX3_passOn_31 : decode cX3_passOn 31 = .ok (.iload 5, 2) := by decide +kernel
theorem dX3_passOn_33 : decode cX3_passOn 33 = .ok (.invokevirtual 71, 3) := by decide +kernel
theorem dX3_passOn_36 : decode cX3_passOn 36 = .ok (.iload_n 3, 1) := by decide +kernel
theorem dX3_passOn_37 : decode cX3_passOn 37 = .ok (.if_icmp .ne 28, 3) := by decide +kernel
theorem dX3_passOn_40 : decode cX3_passOn 40 = .ok (.aload_n 0, 1) := by decide +kernel
theorem dX3_passOn_41 : decode cX3_passOn 41 = .ok (.iload_n 2, 1) := by decide +kernel
theorem dX3_passOn_42 : decode cX3_passOn 42 = .ok (.iconst 1, 1) := by decide +kernel
theorem dX3_passOn_43 : decode cX3_passOn 43 = .ok (.iload 5, 2) := by decide +kernel
theorem dX3_passOn_45 : decode cX3_passOn 45 = .ok (.ishl, 1) := by decide +kernel
theorem dX3_passOn_46 : decode cX3_passOn 46 = .ok (.ior, 1) := by decide +kernel
theorem dX3_passOn_47 : decode cX3_passOn 47 = .ok (.aload_n 0, 1) := by decide +kernel
theorem dX3_passOn_48 : decode cX3_passOn 48 = .ok (.getfield 21, 3) := by decide +kernel
theorem dX3_passOn_51 : decode cX3_passOn 51 = .ok (.iload_n 2, 1) := by decide +kernel
theorem dX3_passOn_52 : decode cX3_passOn 52 = .ok (.iaload, 1) := by decide +kernel
theorem dX3_passOn_53 : decode cX3_passOn 53 = .ok (.invokevirtual 95, 3) := by decide +kernel
theorem dX3_passOn_56 : decode cX3_passOn 56 = .ok (.iload 4, 2) := by decide +kernel
theorem dX3_passOn_58 : decode cX3_passOn 58 = .ok (.iconst 1, 1) := by decide +kernel
theorem dX3_passOn_59 : decode cX3_passOn 59 = .ok (.iload 5, 2) := by decide +kernel
theorem dX3_passOn_61 : decode cX3_passOn 61 = .ok (.ishl, 1) := by decide +kernel
theorem dX3_passOn_62 : decode cX3_passOn 62 = .ok (.ior, 1) := by decide +kernel
theorem dX3_passOn_63 : decode cX3_passOn 63 = .ok (.istore 4, 2) := by decide +kernel
theorem dX3_passOn_65 : decode cX3_passOn 65 = .ok (.iinc 5 1, 3) := by decide +kernel
theorem dX3_passOn_68 : decode cX3_passOn 68 = .ok (.goto (-49), 3) := by decide +kernel
theorem dX3_passOn_71 : decode cX3_passOn 71 = .ok (.aload_n 0, 1) := by decide +kernel
theorem dX3_passOn_72 : decode cX3_passOn 72 = .ok (.getfield 18, 3) := by decide +kernel
theorem dX3_passOn_75 : decode cX3_passOn 75 = .ok (.iload_n 1, 1) := by decide +kernel
theorem dX3_passOn_76 : decode cX3_passOn 76 = .ok (.iconst 1, 1) := by decide +kernel
theorem dX3_passOn_77 : decode cX3_passOn 77 = .ok (.iadd, 1) := by decide +kernel
theorem dX3_passOn_78 : decode cX3_passOn 78 = .ok (.sipush 1024, 3) := by decide +kernel
theorem dX3_passOn_81 : decode cX3_passOn 81 = .ok (.imul, 1) := by decide +kernel
theorem dX3_passOn_82 : decode cX3_passOn 82 = .ok (.iload_n 2, 1) := by decide +kernel
theorem dX3_passOn_83 : decode cX3_passOn 83 = .ok (.iadd, 1) := by decide +kernel
theorem dX3_passOn_84 : decode cX3_passOn 84 = .ok (.iaload, 1) := by decide +kernel
theorem dX3_passOn_85 : decode cX3_passOn 85 = .ok (.iload_n 3, 1) := by decide +kernel
theorem dX3_passOn_86 : decode cX3_passOn 86 = .ok (.if_icmp .ne 22, 3) := by decide +kernel
theorem dX3_passOn_89 : decode cX3_passOn 89 = .ok (.aload_n 0, 1) := by decide +kernel
theorem dX3_passOn_90 : decode cX3_passOn 90 = .ok (.iload_n 2, 1) := by decide +kernel
theorem dX3_passOn_91 : decode cX3_passOn 91 = .ok (.aload_n 0, 1) := by decide +kernel
theorem dX3_passOn_92 : decode cX3_passOn 92 = .ok (.getfield 21, 3) := by decide +kernel
theorem dX3_passOn_95 : decode cX3_passOn 95 = .ok (.iload_n 2, 1) := by decide +kernel
theorem dX3_passOn_96 : decode cX3_passOn 96 = .ok (.iaload, 1) := by decide +kernel
theorem dX3_passOn_97 : decode cX3_passOn 97 = .ok (.invokevirtual 95, 3) := by decide +kernel
theorem dX3_passOn_100 : decode cX3_passOn 100 = .ok (.iload 4, 2) := by decide +kernel
theorem dX3_passOn_102 : decode cX3_passOn 102 = .ok (.sipush 1024, 3) := by decide +kernel
theorem dX3_passOn_105 : decode cX3_passOn 105 = .ok (.ior, 1) := by decide +kernel
theorem dX3_passOn_106 : decode cX3_passOn 106 = .ok (.istore 4, 2) := by decide +kernel
theorem dX3_passOn_108 : decode cX3_passOn 108 = .ok (.iload 4, 2) := by decide +kernel
theorem dX3_passOn_110 : decode cX3_passOn 110 = .ok (.ireturn, 1) := by decide +kernel
theorem dX3_addWays_0 : decode cX3_addWays 0 = .ok (.aload_n 0, 1) := by decide +kernel
theorem dX3_addWays_1 : decode cX3_addWays 1 = .ok (.getfield 24, 3) := by decide +kernel
theorem dX3_addWays_4 : decode cX3_addWays 4 = .ok (.iload_n 1, 1) := by decide +kernel
theorem dX3_addWays_5 : decode cX3_addWays 5 = .ok (.ldc 99, 2) := by decide +kernel
theorem dX3_addWays_7 : decode cX3_addWays 7 = .ok (.aload_n 0, 1) := by decide +kernel
theorem dX3_addWays_8 : decode cX3_addWays 8 = .ok (.getfield 24, 3) := by decide +kernel
theorem dX3_addWays_11 : decode cX3_addWays 11 = .ok (.iload_n 1, 1) := by decide +kernel
theorem dX3_addWays_12 : decode cX3_addWays 12 = .ok (.iaload, 1) := by decide +kernel
theorem dX3_addWays_13 : decode cX3_addWays 13 = .ok (.iload_n 2, 1) := by decide +kernel
theorem dX3_addWays_14 : decode cX3_addWays 14 = .ok (.iadd, 1) := by decide +kernel
theorem dX3_addWays_15 : decode cX3_addWays 15 = .ok (.invokestatic 100, 3) := by decide +kernel
theorem dX3_addWays_18 : decode cX3_addWays 18 = .ok (.iastore, 1) := by decide +kernel
theorem dX3_addWays_19 : decode cX3_addWays 19 = .ok (.return_, 1) := by decide +kernel
theorem dX3_sumWays_0 : decode cX3_sumWays 0 = .ok (.iconst 0, 1) := by decide +kernel
theorem dX3_sumWays_1 : decode cX3_sumWays 1 = .ok (.istore_n 2, 1) := by decide +kernel
theorem dX3_sumWays_2 : decode cX3_sumWays 2 = .ok (.iload_n 1, 1) := by decide +kernel
theorem dX3_sumWays_3 : decode cX3_sumWays 3 = .ok (.istore_n 3, 1) := by decide +kernel
theorem dX3_sumWays_4 : decode cX3_sumWays 4 = .ok (.iload_n 3, 1) := by decide +kernel
theorem dX3_sumWays_5 : decode cX3_sumWays 5 = .ok (.ifCond .lt 41, 3) := by decide +kernel
theorem dX3_sumWays_8 : decode cX3_sumWays 8 = .ok (.ldc 99, 2) := by decide +kernel
theorem dX3_sumWays_10 : decode cX3_sumWays 10 = .ok (.iload_n 2, 1) := by decide +kernel
theorem dX3_sumWays_11 : decode cX3_sumWays 11 = .ok (.aload_n 0, 1) := by decide +kernel
theorem dX3_sumWays_12 : decode cX3_sumWays 12 = .ok (.getfield 21, 3) := by decide +kernel
theorem dX3_sumWays_15 : decode cX3_sumWays 15 = .ok (.iload_n 3, 1) := by decide +kernel
theorem dX3_sumWays_16 : decode cX3_sumWays 16 = .ok (.iaload, 1) := by decide +kernel
theorem dX3_sumWays_17 : decode cX3_sumWays 17 = .ok (.iadd, 1) := by decide +kernel
theorem dX3_sumWays_18 : decode cX3_sumWays 18 = .ok (.invokestatic 100, 3) := by decide +kernel
theorem dX3_sumWays_21 : decode cX3_sumWays 21 = .ok (.istore_n 2, 1) := by decide +kernel
theorem dX3_sumWays_22 : decode cX3_sumWays 22 = .ok (.aload_n 0, 1) := by decide +kernel
theorem dX3_sumWays_23 : decode cX3_sumWays 23 = .ok (.getfield 21, 3) := by decide +kernel
theorem dX3_sumWays_26 : decode cX3_sumWays 26 = .ok (.iload_n 3, 1) := by decide +kernel
theorem dX3_sumWays_27 : decode cX3_sumWays 27 = .ok (.iconst 0, 1) := by decide +kernel
theorem dX3_sumWays_28 : decode cX3_sumWays 28 = .ok (.iastore, 1) := by decide +kernel
theorem dX3_sumWays_29 : decode cX3_sumWays 29 = .ok (.iload_n 3, 1) := by decide +kernel
theorem dX3_sumWays_30 : decode cX3_sumWays 30 = .ok (.ifCond .ne 7, 3) := by decide +kernel
theorem dX3_sumWays_33 : decode cX3_sumWays 33 = .ok (.iconst (-1), 1) := by decide +kernel
theorem dX3_sumWays_34 : decode cX3_sumWays 34 = .ok (.goto 8, 3) := by decide +kernel
theorem dX3_sumWays_37 : decode cX3_sumWays 37 = .ok (.iload_n 3, 1) := by decide +kernel
theorem dX3_sumWays_38 : decode cX3_sumWays 38 = .ok (.iconst 1, 1) := by decide +kernel
theorem dX3_sumWays_39 : decode cX3_sumWays 39 = .ok (.isub, 1) := by decide +kernel
theorem dX3_sumWays_40 : decode cX3_sumWays 40 = .ok (.iload_n 1, 1) := by decide +kernel
theorem dX3_sumWays_41 : decode cX3_sumWays 41 = .ok (.iand, 1) := by decide +kernel
theorem dX3_sumWays_42 : decode cX3_sumWays 42 = .ok (.istore_n 3, 1) := by decide +kernel
theorem dX3_sumWays_43 : decode cX3_sumWays 43 = .ok (.goto (-39), 3) := by decide +kernel
theorem dX3_sumWays_46 : decode cX3_sumWays 46 = .ok (.iload_n 2, 1) := by decide +kernel
theorem dX3_sumWays_47 : decode cX3_sumWays 47 = .ok (.ireturn, 1) := by decide +kernel
theorem dX4_init_0 : decode cX4_init 0 = .ok (.aload_n 0, 1) := by decide +kernel
theorem dX4_init_1 : decode cX4_init 1 = .ok (.invokespecial 3, 3) := by decide +kernel
theorem dX4_init_4 : decode cX4_init 4 = .ok (.aload_n 0, 1) := by decide +kernel
theorem dX4_init_5 : decode cX4_init 5 = .ok (.bipush 10, 2) := by decide +kernel
theorem dX4_init_7 : decode cX4_init 7 = .ok (.newarray .int, 2) := by decide +kernel
theorem dX4_init_9 : decode cX4_init 9 = .ok (.putfield 9, 3) := by decide +kernel
theorem dX4_init_12 : decode cX4_init 12 = .ok (.aload_n 0, 1) := by decide +kernel
theorem dX4_init_13 : decode cX4_init 13 = .ok (.bipush 10, 2) := by decide +kernel
theorem dX4_init_15 : decode cX4_init 15 = .ok (.newarray .boolean, 2) := by decide +kernel
theorem dX4_init_17 : decode cX4_init 17 = .ok (.putfield 15, 3) := by decide +kernel
theorem dX4_init_20 : decode cX4_init 20 = .ok (.aload_n 0, 1) := by decide +kernel
theorem dX4_init_21 : decode cX4_init 21 = .ok (.iconst 0, 1) := by decide +kernel
theorem dX4_init_22 : decode cX4_init 22 = .ok (.putfield 19, 3) := by decide +kernel
theorem dX4_init_25 : decode cX4_init 25 = .ok (.aload_n 0, 1) := by decide +kernel
theorem dX4_init_26 : decode cX4_init 26 = .ok (.iconst 0, 1) := by decide +kernel
theorem dX4_init_27 : decode cX4_init 27 = .ok (.putfield 23, 3) := by decide +kernel
theorem dX4_init_30 : decode cX4_init 30 = .ok (.aload_n 0, 1) := by decide +kernel
theorem dX4_init_31 : decode cX4_init 31 = .ok (.iconst 0, 1) := by decide +kernel
theorem dX4_init_32 : decode cX4_init 32 = .ok (.putfield 26, 3) := by decide +kernel
theorem dX4_init_35 : decode cX4_init 35 = .ok (.return_, 1) := by decide +kernel
theorem dX5_init_0 : decode cX5_init 0 = .ok (.aload_n 0, 1) := by decide +kernel
theorem dX5_init_1 : decode cX5_init 1 = .ok (.invokespecial 3, 3) := by decide +kernel
theorem dX5_init_4 : decode cX5_init 4 = .ok (.aload_n 0, 1) := by decide +kernel
theorem dX5_init_5 : decode cX5_init 5 = .ok (.bipush 60, 2) := by decide +kernel
theorem dX5_init_7 : decode cX5_init 7 = .ok (.newarray .int, 2) := by decide +kernel
theorem dX5_init_9 : decode cX5_init 9 = .ok (.putfield 9, 3) := by decide +kernel
theorem dX5_init_12 : decode cX5_init 12 = .ok (.aload_n 0, 1) := by decide +kernel
theorem dX5_init_13 : decode cX5_init 13 = .ok (.bipush 60, 2) := by decide +kernel
theorem dX5_init_15 : decode cX5_init 15 = .ok (.newarray .int, 2) := by decide +kernel
theorem dX5_init_17 : decode cX5_init 17 = .ok (.putfield 15, 3) := by decide +kernel
theorem dX5_init_20 : decode cX5_init 20 = .ok (.aload_n 0, 1) := by decide +kernel
theorem dX5_init_21 : decode cX5_init 21 = .ok (.bipush 60, 2) := by decide +kernel
theorem dX5_init_23 : decode cX5_init 23 = .ok (.newarray .int, 2) := by decide +kernel
theorem dX5_init_25 : decode cX5_init 25 = .ok (.putfield 18, 3) := by decide +kernel
theorem dX5_init_28 : decode cX5_init 28 = .ok (.aload_n 0, 1) := by decide +kernel
theorem dX5_init_29 : decode cX5_init 29 = .ok (.bipush 60, 2) := by decide +kernel
theorem dX5_init_31 : decode cX5_init 31 = .ok (.newarray .int, 2) := by decide +kernel
theorem dX5_init_33 : decode cX5_init 33 = .ok (.putfield 21, 3) := by decide +kernel
theorem dX5_init_36 : decode cX5_init 36 = .ok (.aload_n 0, 1) := by decide +kernel
theorem dX5_init_37 : decode cX5_init 37 = .ok (.bipush 60, 2) := by decide +kernel
theorem dX5_init_39 : decode cX5_init 39 = .ok (.newarray .int, 2) := by decide +kernel
theorem dX5_init_41 : decode cX5_init 41 = .ok (.putfield 24, 3) := by decide +kernel
theorem dX5_init_44 : decode cX5_init 44 = .ok (.aload_n 0, 1) := by decide +kernel
theorem dX5_init_45 : decode cX5_init 45 = .ok (.bipush 60, 2) := by decide +kernel
theorem dX5_init_47 : decode cX5_init 47 = .ok (.newarray .int, 2) := by decide +kernel
theorem dX5_init_49 : decode cX5_init 49 = .ok (.putfield 27, 3) := by decide +kernel
theorem dX5_init_52 : decode cX5_init 52 = .ok (.aload_n 0, 1) := by decide +kernel
theorem dX5_init_53 : decode cX5_init 53 = .ok (.bipush 60, 2) := by decide +kernel
theorem dX5_init_55 : decode cX5_init 55 = .ok (.newarray .int, 2) := by decide +kernel
theorem dX5_init_57 : decode cX5_init 57 = .ok (.putfield 30, 3) := by decide +kernel
theorem dX5_init_60 : decode cX5_init 60 = .ok (.aload_n 0, 1) := by decide +kernel
theorem dX5_init_61 : decode cX5_init 61 = .ok (.iconst 0, 1) := by decide +kernel
theorem dX5_init_62 : decode cX5_init 62 = .ok (.putfield 33, 3) := by decide +kernel
theorem dX5_init_65 : decode cX5_init 65 = .ok (.aload_n 0, 1) := by decide +kernel
theorem dX5_init_66 : decode cX5_init 66 = .ok (.iconst 0, 1) := by decide +kernel
theorem dX5_init_67 : decode cX5_init 67 = .ok (.putfield 37, 3) := by decide +kernel
theorem dX5_init_70 : decode cX5_init 70 = .ok (.return_, 1) := by decide +kernel
theorem dX5_addRecord_0 : decode cX5_addRecord 0 = .ok (.aload_n 0, 1) := by decide +kernel
theorem dX5_addRecord_1 : decode cX5_addRecord 1 = .ok (.getfield 33, 3) := by decide +kernel
theorem dX5_addRecord_4 : decode cX5_addRecord 4 = .ok (.istore 6, 2) := by decide +kernel
theorem dX5_addRecord_6 : decode cX5_addRecord 6 = .ok (.aload_n 0, 1) := by decide +kernel
theorem dX5_addRecord_7 : decode cX5_addRecord 7 = .ok (.getfield 9, 3) := by decide +kernel
theorem dX5_addRecord_10 : decode cX5_addRecord 10 = .ok (.iload 6, 2) := by decide +kernel
theorem dX5_addRecord_12 : decode cX5_addRecord 12 = .ok (.iload_n 1, 1) := by decide +kernel
theorem dX5_addRecord_13 : decode cX5_addRecord 13 = .ok (.iastore, 1) := by decide +kernel
theorem dX5_addRecord_14 : decode cX5_addRecord 14 = .ok (.aload_n 0, 1) := by decide +kernel
theorem dX5_addRecord_15 : decode cX5_addRecord 15 = .ok (.getfield 15, 3) := by decide +kernel
theorem dX5_addRecord_18 : decode cX5_addRecord 18 = .ok (.iload 6, 2) := by decide +kernel
theorem dX5_addRecord_20 : decode cX5_addRecord 20 = .ok (.iload_n 2, 1) := by decide +kernel
theorem dX5_addRecord_21 : decode cX5_addRecord 21 = .ok (.iastore, 1) := by decide +kernel
theorem dX5_addRecord_22 : decode cX5_addRecord 22 = .ok (.aload_n 0, 1) := by decide +kernel
theorem dX5_addRecord_23 : decode cX5_addRecord 23 = .ok (.getfield 18, 3) := by decide +kernel
theorem dX5_addRecord_26 : decode cX5_addRecord 26 = .ok (.iload 6, 2) := by decide +kernel
theorem dX5_addRecord_28 : decode cX5_addRecord 28 = .ok (.iload_n 3, 1) := by decide +kernel
theorem dX5_addRecord_29 : decode cX5_addRecord 29 = .ok (.iastore, 1) := by decide +kernel
theorem dX5_addRecord_30 : decode cX5_addRecord 30 = .ok (.aload_n 0, 1) := by decide +kernel
theorem dX5_addRecord_31 : decode cX5_addRecord 31 = .ok (.getfield 21, 3) := by decide +kernel
theorem dX5_addRecord_34 : decode cX5_addRecord 34 = .ok (.iload 6, 2) := by decide +kernel
theorem dX5_addRecord_36 : decode cX5_addRecord 36 = .ok (.iload 4, 2) := by decide +kernel
theorem dX5_addRecord_38 : decode cX5_addRecord 38 = .ok (.iastore, 1) := by decide +kernel
theorem dX5_addRecord_39 : decode cX5_addRecord 39 = .ok (.aload_n 0, 1) := by decide +kernel
theorem dX5_addRecord_40 : decode cX5_addRecord 40 = .ok (.getfield 24, 3) := by decide +kernel
theorem dX5_addRecord_43 : decode cX5_addRecord 43 = .ok (.iload 6, 2) := by decide +kernel
theorem dX5_addRecord_45 : decode cX5_addRecord 45 = .ok (.iload 5, 2) := by decide +kernel
theorem dX5_addRecord_47 : decode cX5_addRecord 47 = .ok (.iastore, 1) := by decide +kernel
theorem dX5_addRecord_48 : decode cX5_addRecord 48 = .ok (.aload_n 0, 1) := by decide +kernel
theorem dX5_addRecord_49 : decode cX5_addRecord 49 = .ok (.getfield 27, 3) := by decide +kernel
theorem dX5_addRecord_52 : decode cX5_addRecord 52 = .ok (.iload 6, 2) := by decide +kernel
theorem dX5_addRecord_54 : decode cX5_addRecord 54 = .ok (.ldc 40, 2) := by decide +kernel
theorem dX5_addRecord_56 : decode cX5_addRecord 56 = .ok (.iastore, 1) := by decide +kernel
theorem dX5_addRecord_57 : decode cX5_addRecord 57 = .ok (.iload 6, 2) := by decide +kernel
theorem dX5_addRecord_59 : decode cX5_addRecord 59 = .ok (.istore 7, 2) := by decide +kernel
theorem dX5_addRecord_61 : decode cX5_addRecord 61 = .ok (.iload 7, 2) := by decide +kernel
theorem dX5_addRecord_63 : decode cX5_addRecord 63 = .ok (.ifCond .le 43, 3) := by decide +kernel
theorem dX5_addRecord_66 : decode cX5_addRecord 66 = .ok (.aload_n 0, 1) := by decide +kernel
theorem dX5_addRecord_67 : decode cX5_addRecord 67 = .ok (.getfield 18, 3) := by decide +kernel
theorem dX5_addRecord_70 : decode cX5_addRecord 70 = .ok (.aload_n 0, 1) := by decide +kernel
theorem dX5_addRecord_71 : decode cX5_addRecord 71 = .ok (.getfield 30, 3) := by decide +kernel
theorem dX5_addRecord_74 : decode cX5_addRecord 74 = .ok (.iload 7, 2) := by decide +kernel
theorem dX5_addRecord_76 : decode cX5_addRecord 76 = .ok (.iconst 1, 1) := by decide +kernel
theorem dX5_addRecord_77 : decode cX5_addRecord 77 = .ok (.isub, 1) := by decide +kernel
theorem dX5_addRecord_78 : decode cX5_addRecord 78 = .ok (.iaload, 1) := by decide +kernel
theorem dX5_addRecord_79 : decode cX5_addRecord 79 = .ok (.iaload, 1) := by decide +kernel
theorem dX5_addRecord_80 : decode cX5_addRecord 80 = .ok (.iload_n 3, 1) := by decide +kernel
theorem dX5_addRecord_81 : decode cX5_addRecord 81 = .ok (.if_icmp .le 25, 3) := by decide +kernel
theorem dX5_addRecord_84 : decode cX5_addRecord 84 = .ok (.aload_n 0, 1) := by decide +kernel
theorem dX5_addRecord_85 : decode cX5_addRecord 85 = .ok (.getfield 30, 3) := by decide +kernel
theorem dX5_addRecord_88 : decode cX5_addRecord 88 = .ok (.iload 7, 2) := by decide +kernel
theorem dX5_addRecord_90 : decode cX5_addRecord 90 = .ok (.aload_n 0, 1) := by decide +kernel
theorem dX5_addRecord_91 : decode cX5_addRecord 91 = .ok (.getfield 30, 3) := by decide +kernel
theorem dX5_addRecord_94 : decode cX5_addRecord 94 = .ok (.iload 7, 2) := by decide +kernel
theorem dX5_addRecord_96 : decode cX5_addRecord 96 = .ok (.iconst 1, 1) := by decide +kernel
theorem dX5_addRecord_97 : decode cX5_addRecord 97 = .ok (.isub, 1) := by decide +kernel
theorem dX5_addRecord_98 : decode cX5_addRecord 98 = .ok (.iaload, 1) := by decide +kernel
theorem dX5_addRecord_99 : decode cX5_addRecord 99 = .ok (.iastore, 1) := by decide +kernel
theorem dX5_addRecord_100 : decode cX5_addRecord 100 = .ok (.iinc 7 (-1), 3) := by decide +kernel
theorem dX5_addRecord_103 : decode cX5_addRecord 103 = .ok (.goto (-42), 3) := by decide +kernel
theorem dX5_addRecord_106 : decode cX5_addRecord 106 = .ok (.aload_n 0, 1) := by decide +kernel
theorem dX5_addRecord_107 : decode cX5_addRecord 107 = .ok (.getfield 30, 3) := by decide +kernel
theorem dX5_addRecord_110 : decode cX5_addRecord 110 = .ok (.iload 7, 2) := by decide +kernel
theorem dX5_addRecord_112 : decode cX5_addRecord 112 = .ok (.iload 6, 2) := by decide +kernel
theorem dX5_addRecord_114 : decode cX5_addRecord 114 = .ok (.iastore, 1) := by decide +kernel
theorem dX5_addRecord_115 : decode cX5_addRecord 115 = .ok (.aload_n 0, 1) := by decide +kernel
theorem dX5_addRecord_116 : decode cX5_addRecord 116 = .ok (.iload 6, 2) := by decide +kernel
theorem dX5_addRecord_118 : decode cX5_addRecord 118 = .ok (.iconst 1, 1) := by decide +kernel
theorem dX5_addRecord_119 : decode cX5_addRecord 119 = .ok (.iadd, 1) := by decide +kernel
theorem dX5_addRecord_120 : decode cX5_addRecord 120 = .ok (.putfield 33, 3) := by decide +kernel
theorem dX5_addRecord_123 : decode cX5_addRecord 123 = .ok (.iload 6, 2) := by decide +kernel
theorem dX5_addRecord_125 : decode cX5_addRecord 125 = .ok (.ireturn, 1) := by decide +kernel
theorem dX5_takeBack_0 : decode cX5_takeBack 0 = .ok (.aload_n 0, 1) := by decide +kernel
theorem dX5_takeBack_1 : decode cX5_takeBack 1 = .ok (.getfield 27, 3) := by decide +kernel
theorem dX5_takeBack_4 : decode cX5_takeBack 4 = .ok (.iload_n 1, 1) := by decide +kernel
theorem dX5_takeBack_5 : decode cX5_takeBack 5 = .ok (.iload_n 2, 1) := by decide +kernel
theorem dX5_takeBack_6 : decode cX5_takeBack 6 = .ok (.iastore, 1) := by decide +kernel
theorem dX5_takeBack_7 : decode cX5_takeBack 7 = .ok (.aload_n 0, 1) := by decide +kernel
theorem dX5_takeBack_8 : decode cX5_takeBack 8 = .ok (.dup, 1) := by decide +kernel
theorem dX5_takeBack_9 : decode cX5_takeBack 9 = .ok (.getfield 37, 3) := by decide +kernel
theorem dX5_takeBack_12 : decode cX5_takeBack 12 = .ok (.iconst 1, 1) := by decide +kernel
theorem dX5_takeBack_13 : decode cX5_takeBack 13 = .ok (.iadd, 1) := by decide +kernel
theorem dX5_takeBack_14 : decode cX5_takeBack 14 = .ok (.putfield 37, 3) := by decide +kernel
theorem dX5_takeBack_17 : decode cX5_takeBack 17 = .ok (.return_, 1) := by decide +kernel
theorem dX5_counts_0 : decode cX5_counts 0 = .ok (.aload_n 0, 1) := by decide +kernel
theorem dX5_counts_1 : decode cX5_counts 1 = .ok (.getfield 9, 3) := by decide +kernel
theorem dX5_counts_4 : decode cX5_counts 4 = .ok (.iload_n 1, 1) := by decide +kernel
theorem dX5_counts_5 : decode cX5_counts 5 = .ok (.iaload, 1) := by decide +kernel
theorem dX5_counts_6 : decode cX5_counts 6 = .ok (.iload_n 2, 1) := by decide +kernel
theorem dX5_counts_7 : decode cX5_counts 7 = .ok (.if_icmp .ne 27, 3) := by decide +kernel
theorem dX5_counts_10 : decode cX5_counts 10 = .ok (.aload_n 0, 1) := by decide +kernel
theorem dX5_counts_11 : decode cX5_counts 11 = .ok (.getfield 24, 3) := by decide +kernel
theorem dX5_counts_14 : decode cX5_counts 14 = .ok (.iload_n 1, 1) := by decide +kernel
theorem dX5_counts_15 : decode cX5_counts 15 = .ok (.iaload, 1) := by decide +kernel
theorem dX5_counts_16 : decode cX5_counts 16 = .ok (.iload_n 3, 1) := by decide +kernel
theorem dX5_counts_17 : decode cX5_counts 17 = .ok (.if_icmp .gt 17, 3) := by decide +kernel
theorem dX5_counts_20 : decode cX5_counts 20 = .ok (.iload_n 3, 1) := by decide +kernel
theorem dX5_counts_21 : decode cX5_counts 21 = .ok (.aload_n 0, 1) := by decide +kernel
theorem dX5_counts_22 : decode cX5_counts 22 = .ok (.getfield 27, 3) := by decide +kernel
theorem dX5_counts_25 : decode cX5_counts 25 = .ok (.iload_n 1, 1) := by decide +kernel
theorem dX5_counts_26 : decode cX5_counts 26 = .ok (.iaload, 1) := by decide +kernel
theorem dX5_counts_27 : decode cX5_counts 27 = .ok (.if_icmp .ge 7, 3) := by decide +kernel
theorem dX5_counts_30 : decode cX5_counts 30 = .ok (.iconst 1, 1) := by decide +kernel
theorem dX5_counts_31 : decode cX5_counts 31 = .ok (.goto 4, 3) := by decide +kernel
theorem dX5_counts_34 : decode cX5_counts 34 = .ok (.iconst 0, 1) := by decide +kernel
theorem dX5_counts_35 : decode cX5_counts 35 = .ok (.ireturn, 1) := by decide +kernel
theorem dX5_lastPlace_0 : decode cX5_lastPlace 0 = .ok (.bipush (-9), 2) := by decide +kernel
theorem dX5_lastPlace_2 : decode cX5_lastPlace 2 = .ok (.istore 4, 2) := by decide +kernel
theorem dX5_lastPlace_4 : decode cX5_lastPlace 4 = .ok (.iconst 0, 1) := by decide +kernel
theorem dX5_lastPlace_5 : decode cX5_lastPlace 5 = .ok (.istore 5, 2) := by decide +kernel
theorem dX5_lastPlace_7 : decode cX5_lastPlace 7 = .ok (.iload 5, 2) := by decide +kernel
theorem dX5_lastPlace_9 : decode cX5_lastPlace 9 = .ok (.aload_n 0, 1) := by decide +kernel
theorem dX5_lastPlace_10 : decode cX5_lastPlace 10 = .ok (.getfield 33, 3) := by decide +kernel
theorem dX5_lastPlace_13 : decode cX5_lastPlace 13 = .ok (.if_icmp .ge 49, 3) := by decide +kernel
theorem dX5_lastPlace_16 : decode cX5_lastPlace 16 = .ok (.aload_n 0, 1) := by decide +kernel
theorem dX5_lastPlace_17 : decode cX5_lastPlace 17 = .ok (.getfield 30, 3) := by decide +kernel
theorem dX5_lastPlace_20 : decode cX5_lastPlace 20 = .ok (.iload 5, 2) := by decide +kernel
theorem dX5_lastPlace_22 : decode cX5_lastPlace 22 = .ok (.iaload, 1) := by decide +kernel
theorem dX5_lastPlace_23 : decode cX5_lastPlace 23 = .ok (.istore 6, 2) := by decide +kernel
theorem dX5_lastPlace_25 : decode cX5_lastPlace 25 = .ok (.aload_n 0, 1) := by decide +kernel
theorem dX5_lastPlace_26 : decode cX5_lastPlace 26 = .ok (.getfield 18, 3) := by decide +kernel
theorem dX5_lastPlace_29 : decode cX5_lastPlace 29 = .ok (.iload 6, 2) := by decide +kernel
theorem dX5_lastPlace_31 : decode cX5_lastPlace 31 = .ok (.iaload, 1) := by decide +kernel
theorem dX5_lastPlace_32 : decode cX5_lastPlace 32 = .ok (.iload_n 2, 1) := by decide +kernel
theorem dX5_lastPlace_33 : decode cX5_lastPlace 33 = .ok (.if_icmp .gt 23, 3) := by decide +kernel
theorem dX5_lastPlace_36 : decode cX5_lastPlace 36 = .ok (.aload_n 0, 1) := by decide +kernel
theorem dX5_lastPlace_37 : decode cX5_lastPlace 37 = .ok (.iload 6, 2) := by decide +kernel
theorem dX5_lastPlace_39 : decode cX5_lastPlace 39 = .ok (.iload_n 1, 1) := by decide +kernel
theorem dX5_lastPlace_40 : decode cX5_lastPlace 40 = .ok (.iload_n 3, 1) := by decide +kernel
theorem dX5_lastPlace_41 : decode cX5_lastPlace 41 = .ok (.invokevirtual 41, 3) := by decide +kernel
theorem dX5_lastPlace_44 : decode cX5_lastPlace 44 = .ok (.ifCond .eq 12, 3) := by decide +kernel
theorem dX5_lastPlace_47 : decode cX5_lastPlace 47 = .ok (.aload_n 0, 1) := by decide +kernel
theorem dX5_lastPlace_48 : decode cX5_lastPlace 48 = .ok (.getfield 15, 3) := by decide +kernel
theorem dX5_lastPlace_51 : decode cX5_lastPlace 51 = .ok (.iload 6, 2) := by decide +kernel
theorem dX5_lastPlace_53 : decode cX5_lastPlace 53 = .ok (.iaload, 1) := by decide +kernel
theorem dX5_lastPlace_54 : decode cX5_lastPlace 54 = .ok (.istore 4, 2) := by decide +kernel
theorem dX5_lastPlace_56 : decode cX5_lastPlace 56 = .ok (.iinc 5 1, 3) := by decide +kernel
theorem dX5_lastPlace_59 : decode cX5_lastPlace 59 = .ok (.goto (-52), 3) := by decide +kernel
theorem dX5_lastPlace_62 : decode cX5_lastPlace 62 = .ok (.iload 4, 2) := by decide +kernel
theorem dX5_lastPlace_64 : decode cX5_lastPlace 64 = .ok (.ireturn, 1) := by decide +kernel
theorem dX5_quarrelDays_0 : decode cX5_quarrelDays 0 = .ok (.iconst 0, 1) := by decide +kernel
theorem dX5_quarrelDays_1 : decode cX5_quarrelDays 1 = .ok (.istore_n 3, 1) := by decide +kernel
theorem dX5_quarrelDays_2 : decode cX5_quarrelDays 2 = .ok (.iconst (-1), 1) := by decide +kernel
theorem dX5_quarrelDays_3 : decode cX5_quarrelDays 3 = .ok (.istore 4, 2) := by decide +kernel
theorem dX5_quarrelDays_5 : decode cX5_quarrelDays 5 = .ok (.iconst (-1), 1) := by decide +kernel
theorem dX5_quarrelDays_6 : decode cX5_quarrelDays 6 = .ok (.istore 5, 2) := by decide +kernel
theorem dX5_quarrelDays_8 : decode cX5_quarrelDays 8 = .ok (.iconst 0, 1) := by decide +kernel
theorem dX5_quarrelDays_9 : decode cX5_quarrelDays 9 = .ok (.istore 6, 2) := by decide +kernel
theorem dX5_quarrelDays_11 : decode cX5_quarrelDays 11 = .ok (.iconst 0, 1) := by decide +kernel
theorem dX5_quarrelDays_12 : decode cX5_quarrelDays 12 = .ok (.istore 7, 2) := by decide +kernel
theorem dX5_quarrelDays_14 : decode cX5_quarrelDays 14 = .ok (.iload 7, 2) := by decide +kernel
theorem dX5_quarrelDays_16 : decode cX5_quarrelDays 16 = .ok (.aload_n 0, 1) := by decide +kernel
theorem dX5_quarrelDays_17 : decode cX5_quarrelDays 17 = .ok (.getfield 33, 3) := by decide +kernel
theorem dX5_quarrelDays_20 : decode cX5_quarrelDays 20 = .ok (.if_icmp .ge 88, 3) := by decide +kernel
theorem dX5_quarrelDays_23 : decode cX5_quarrelDays 23 = .ok (.aload_n 0, 1) := by decide +kernel
theorem dX5_quarrelDays_24 : decode cX5_quarrelDays 24 = .ok (.getfield 30, 3) := by decide +kernel
theorem dX5_quarrelDays_27 : decode cX5_quarrelDays 27 = .ok (.iload 7, 2) := by decide +kernel
theorem dX5_quarrelDays_29 : decode cX5_quarrelDays 29 = .ok (.iaload, 1) := by decide +kernel
theorem dX5_quarrelDays_30 : decode cX5_quarrelDays 30 = .ok (.istore 8, 2) := by decide +kernel
theorem dX5_quarrelDays_32 : decode cX5_quarrelDays 32 = .ok (.aload_n 0, 1) := by decide +kernel
theorem dX5_quarrelDays_33 : decode cX5_quarrelDays 33 = .ok (.iload 8, 2) := by decide +kernel
theorem dX5_quarrelDays_35 : decode cX5_quarrelDays 35 = .ok (.iload_n 1, 1) := by decide +kernel
theorem dX5_quarrelDays_36 : decode cX5_quarrelDays 36 = .ok (.iload_n 2, 1) := by decide +kernel
theorem dX5_quarrelDays_37 : decode cX5_quarrelDays 37 = .ok (.invokevirtual 41, 3) := by decide +kernel
theorem dX5_quarrelDays_40 : decode cX5_quarrelDays 40 = .ok (.ifCond .eq 62, 3) := by decide +kernel
theorem dX5_quarrelDays_43 : decode cX5_quarrelDays 43 = .ok (.aload_n 0, 1) := by decide +kernel
theorem dX5_quarrelDays_44 : decode cX5_quarrelDays 44 = .ok (.getfield 18, 3) := by decide +kernel
theorem dX5_quarrelDays_47 : decode cX5_quarrelDays 47 = .ok (.iload 8, 2) := by decide +kernel
theorem dX5_quarrelDays_49 : decode cX5_quarrelDays 49 = .ok (.iaload, 1) := by decide +kernel
theorem dX5_quarrelDays_50 : decode cX5_quarrelDays 50 = .ok (.iload 4, 2) := by decide +kernel
theorem dX5_quarrelDays_52 : decode cX5_quarrelDays 52 = .ok (.if_icmp .eq 27, 3) := by decide +kernel
theorem dX5_quarrelDays_55 : decode cX5_quarrelDays 55 = .ok (.aload_n 0, 1) := by decide +kernel
theorem dX5_quarrelDays_56 : decode cX5_quarrelDays 56 = .ok (.getfield 18, 3) := by decide +kernel
theorem dX5_quarrelDays_59 : decode cX5_quarrelDays 59 = .ok (.iload 8, 2) := by decide +kernel
theorem dX5_quarrelDays_61 : decode cX5_quarrelDays 61 = .ok (.iaload, 1) := by decide +kernel
theorem dX5_quarrelDays_62 : decode cX5_quarrelDays 62 = .ok (.istore 4, 2) := by decide +kernel
theorem dX5_quarrelDays_64 : decode cX5_quarrelDays 64 = .ok (.aload_n 0, 1) := by decide +kernel
theorem dX5_quarrelDays_65 : decode cX5_quarrelDays 65 = .ok (.getfield 15, 3) := by decide +kernel
theorem dX5_quarrelDays_68 : decode cX5_quarrelDays 68 = .ok (.iload 8, 2) := by decide +kernel
theorem dX5_quarrelDays_70 : decode cX5_quarrelDays 70 = .ok (.iaload, 1) := by decide +kernel
theorem dX5_quarrelDays_71 : decode cX5_quarrelDays 71 = .ok (.istore 5, 2) := by decide +kernel
theorem dX5_quarrelDays_73 : decode cX5_quarrelDays 73 = .ok (.iconst 0, 1) := by decide +kernel
theorem dX5_quarrelDays_74 : decode cX5_quarrelDays 74 = .ok (.istore 6, 2) := by decide +kernel
theorem dX5_quarrelDays_76 : decode cX5_quarrelDays 76 = .ok (.goto 26, 3) := by decide +kernel
theorem dX5_quarrelDays_79 : decode cX5_quarrelDays 79 = .ok (.aload_n 0, 1) := by decide +kernel
theorem dX5_quarrelDays_80 : decode cX5_quarrelDays 80 = .ok (.getfield 15, 3) := by decide +kernel
theorem dX5_quarrelDays_83 : decode cX5_quarrelDays 83 = .ok (.iload 8, 2) := by decide +kernel
theorem dX5_quarrelDays_85 : decode cX5_quarrelDays 85 = .ok (.iaload, 1) := by decide +kernel
theorem dX5_quarrelDays_86 : decode cX5_quarrelDays 86 = .ok (.iload 5, 2) := by decide +kernel
theorem dX5_quarrelDays_88 : decode cX5_quarrelDays 88 = .ok (.if_icmp .eq 14, 3) := by decide +kernel
theorem dX5_quarrelDays_91 : decode cX5_quarrelDays 91 = .ok (.iload 6, 2) := by decide +kernel
theorem dX5_quarrelDays_93 : decode cX5_quarrelDays 93 = .ok (.ifCond .ne 9, 3) := by decide +kernel
theorem dX5_quarrelDays_96 : decode cX5_quarrelDays 96 = .ok (.iconst 1, 1) := by decide +kernel
theorem dX5_quarrelDays_97 : decode cX5_quarrelDays 97 = .ok (.istore 6, 2) := by decide +kernel
theorem dX5_quarrelDays_99 : decode cX5_quarrelDays 99 = .ok (.iinc 3 1, 3) := by decide +kernel
theorem dX5_quarrelDays_102 : decode cX5_quarrelDays 102 = .ok (.iinc 7 1, 3) := by decide +kernel
theorem dX5_quarrelDays_105 : decode cX5_quarrelDays 105 = .ok (.goto (-91), 3) := by decide +kernel
theorem dX5_quarrelDays_108 : decode cX5_quarrelDays 108 = .ok (.iload_n 3, 1) := by decide +kernel
theorem dX5_quarrelDays_109 : decode cX5_quarrelDays 109 = .ok (.ireturn, 1) := by decide +kernel
theorem dX5_lastChange_0 : decode cX5_lastChange 0 = .ok (.iconst 0, 1) := by decide +kernel
theorem dX5_lastChange_1 : decode cX5_lastChange 1 = .ok (.istore_n 3, 1) := by decide +kernel
theorem dX5_lastChange_2 : decode cX5_lastChange 2 = .ok (.iconst 0, 1) := by decide +kernel
theorem dX5_lastChange_3 : decode cX5_lastChange 3 = .ok (.istore 4, 2) := by decide +kernel
theorem dX5_lastChange_5 : decode cX5_lastChange 5 = .ok (.iload 4, 2) := by decide +kernel
theorem dX5_lastChange_7 : decode cX5_lastChange 7 = .ok (.aload_n 0, 1) := by decide +kernel
theorem dX5_lastChange_8 : decode cX5_lastChange 8 = .ok (.getfield 33, 3) := by decide +kernel
theorem dX5_lastChange_11 : decode cX5_lastChange 11 = .ok (.if_icmp .ge 66, 3) := by decide +kernel
theorem dX5_lastChange_14 : decode cX5_lastChange 14 = .ok (.aload_n 0, 1) := by decide +kernel
theorem dX5_lastChange_15 : decode cX5_lastChange 15 = .ok (.getfield 9, 3) := by decide +kernel
theorem dX5_lastChange_18 : decode cX5_lastChange 18 = .ok (.iload 4, 2) := by decide +kernel
theorem dX5_lastChange_20 : decode cX5_lastChange 20 = .ok (.iaload, 1) := by decide +kernel
theorem dX5_lastChange_21 : decode cX5_lastChange 21 = .ok (.iload_n 1, 1) := by decide +kernel
theorem dX5_lastChange_22 : decode cX5_lastChange 22 = .ok (.if_icmp .ne 49, 3) := by decide +kernel
theorem dX5_lastChange_25 : decode cX5_lastChange 25 = .ok (.aload_n 0, 1) := by decide +kernel
theorem dX5_lastChange_26 : decode cX5_lastChange 26 = .ok (.getfield 24, 3) := by decide +kernel
theorem dX5_lastChange_29 : decode cX5_lastChange 29 = .ok (.iload 4, 2) := by decide +kernel
theorem dX5_lastChange_31 : decode cX5_lastChange 31 = .ok (.iaload, 1) := by decide +kernel
theorem dX5_lastChange_32 : decode cX5_lastChange 32 = .ok (.iload_n 2, 1) := by decide +kernel
theorem dX5_lastChange_33 : decode cX5_lastChange 33 = .ok (.if_icmp .gt 15, 3) := by decide +kernel
theorem dX5_lastChange_36 : decode cX5_lastChange 36 = .ok (.iload_n 3, 1) := by decide +kernel
theorem dX5_lastChange_37 : decode cX5_lastChange 37 = .ok (.aload_n 0, 1) := by decide +kernel
theorem dX5_lastChange_38 : decode cX5_lastChange 38 = .ok (.getfield 24, 3) := by decide +kernel
theorem dX5_lastChange_41 : decode cX5_lastChange 41 = .ok (.iload 4, 2) := by decide +kernel
theorem dX5_lastChange_43 : decode cX5_lastChange 43 = .ok (.iaload, 1) := by decide +kernel
theorem dX5_lastChange_44 : decode cX5_lastChange 44 = .ok (.invokestatic 45, 3) := by decide +kernel
theorem dX5_lastChange_47 : decode cX5_lastChange 47 = .ok (.istore_n 3, 1) := by decide +kernel
theorem dX5_lastChange_48 : decode cX5_lastChange 48 = .ok (.aload_n 0, 1) := by decide +kernel
theorem dX5_lastChange_49 : decode cX5_lastChange 49 = .ok (.getfield 27, 3) := by decide +kernel
theorem dX5_lastChange_52 : decode cX5_lastChange 52 = .ok (.iload 4, 2) := by decide +kernel
theorem dX5_lastChange_54 : decode cX5_lastChange 54 = .ok (.iaload, 1) := by decide +kernel
theorem dX5_lastChange_55 : decode cX5_lastChange 55 = .ok (.iload_n 2, 1) := by decide +kernel
theorem dX5_lastChange_56 : decode cX5_lastChange 56 = .ok (.if_icmp .gt 15, 3) := by decide +kernel
theorem dX5_lastChange_59 : decode cX5_lastChange 59 = .ok (.iload_n 3, 1) := by decide +kernel
theorem dX5_lastChange_60 : decode cX5_lastChange 60 = .ok (.aload_n 0, 1) := by decide +kernel
theorem dX5_lastChange_61 : decode cX5_lastChange 61 = .ok (.getfield 27, 3) := by decide +kernel
theorem dX5_lastChange_64 : decode cX5_lastChange 64 = .ok (.iload 4, 2) := by decide +kernel
theorem dX5_lastChange_66 : decode cX5_lastChange 66 = .ok (.iaload, 1) := by decide +kernel
theorem dX5_lastChange_67 : decode cX5_lastChange 67 = .ok (.invokestatic 45, 3) := by decide +kernel
theorem dX5_lastChange_70 : decode cX5_lastChange 70 = .ok (.istore_n 3, 1) := by decide +kernel
theorem dX5_lastChange_71 : decode cX5_lastChange 71 = .ok (.iinc 4 1, 3) := by decide +kernel
theorem dX5_lastChange_74 : decode cX5_lastChange 74 = .ok (.goto (-69), 3) := by decide +kernel
theorem dX5_lastChange_77 : decode cX5_lastChange 77 = .ok (.iload_n 3, 1) := by decide +kernel
theorem dX5_lastChange_78 : decode cX5_lastChange 78 = .ok (.ireturn, 1) := by decide +kernel
theorem dX6_init_0 : decode cX6_init 0 = .ok (.aload_n 0, 1) := by decide +kernel
theorem dX6_init_1 : decode cX6_init 1 = .ok (.invokespecial 3, 3) := by decide +kernel
theorem dX6_init_4 : decode cX6_init 4 = .ok (.aload_n 0, 1) := by decide +kernel
theorem dX6_init_5 : decode cX6_init 5 = .ok (.bipush 40, 2) := by decide +kernel
theorem dX6_init_7 : decode cX6_init 7 = .ok (.newarray .int, 2) := by decide +kernel
theorem dX6_init_9 : decode cX6_init 9 = .ok (.putfield 9, 3) := by decide +kernel
theorem dX6_init_12 : decode cX6_init 12 = .ok (.aload_n 0, 1) := by decide +kernel
theorem dX6_init_13 : decode cX6_init 13 = .ok (.bipush 40, 2) := by decide +kernel
theorem dX6_init_15 : decode cX6_init 15 = .ok (.newarray .int, 2) := by decide +kernel
theorem dX6_init_17 : decode cX6_init 17 = .ok (.putfield 15, 3) := by decide +kernel
theorem dX6_init_20 : decode cX6_init 20 = .ok (.aload_n 0, 1) := by decide +kernel
theorem dX6_init_21 : decode cX6_init 21 = .ok (.bipush 40, 2) := by decide +kernel
theorem dX6_init_23 : decode cX6_init 23 = .ok (.newarray .int, 2) := by decide +kernel
theorem dX6_init_25 : decode cX6_init 25 = .ok (.putfield 18, 3) := by decide +kernel
theorem dX6_init_28 : decode cX6_init 28 = .ok (.aload_n 0, 1) := by decide +kernel
theorem dX6_init_29 : decode cX6_init 29 = .ok (.bipush 40, 2) := by decide +kernel
theorem dX6_init_31 : decode cX6_init 31 = .ok (.newarray .int, 2) := by decide +kernel
theorem dX6_init_33 : decode cX6_init 33 = .ok (.putfield 21, 3) := by decide +kernel
theorem dX6_init_36 : decode cX6_init 36 = .ok (.aload_n 0, 1) := by decide +kernel
theorem dX6_init_37 : decode cX6_init 37 = .ok (.iconst 0, 1) := by decide +kernel
theorem dX6_init_38 : decode cX6_init 38 = .ok (.putfield 24, 3) := by decide +kernel
theorem dX6_init_41 : decode cX6_init 41 = .ok (.return_, 1) := by decide +kernel
theorem dX6_addSaying_0 : decode cX6_addSaying 0 = .ok (.aload_n 0, 1) := by decide +kernel
theorem dX6_addSaying_1 : decode cX6_addSaying 1 = .ok (.getfield 24, 3) := by decide +kernel
theorem dX6_addSaying_4 : decode cX6_addSaying 4 = .ok (.istore 5, 2) := by decide +kernel
theorem dX6_addSaying_6 : decode cX6_addSaying 6 = .ok (.aload_n 0, 1) := by decide +kernel
theorem dX6_addSaying_7 : decode cX6_addSaying 7 = .ok (.getfield 9, 3) := by decide +kernel
theorem dX6_addSaying_10 : decode cX6_addSaying 10 = .ok (.iload 5, 2) := by decide +kernel
theorem dX6_addSaying_12 : decode cX6_addSaying 12 = .ok (.iload_n 1, 1) := by decide +kernel
theorem dX6_addSaying_13 : decode cX6_addSaying 13 = .ok (.iastore, 1) := by decide +kernel
theorem dX6_addSaying_14 : decode cX6_addSaying 14 = .ok (.aload_n 0, 1) := by decide +kernel
theorem dX6_addSaying_15 : decode cX6_addSaying 15 = .ok (.getfield 15, 3) := by decide +kernel
theorem dX6_addSaying_18 : decode cX6_addSaying 18 = .ok (.iload 5, 2) := by decide +kernel
theorem dX6_addSaying_20 : decode cX6_addSaying 20 = .ok (.iload_n 2, 1) := by decide +kernel
theorem dX6_addSaying_21 : decode cX6_addSaying 21 = .ok (.iastore, 1) := by decide +kernel
theorem dX6_addSaying_22 : decode cX6_addSaying 22 = .ok (.aload_n 0, 1) := by decide +kernel
theorem dX6_addSaying_23 : decode cX6_addSaying 23 = .ok (.getfield 18, 3) := by decide +kernel
theorem dX6_addSaying_26 : decode cX6_addSaying 26 = .ok (.iload 5, 2) := by decide +kernel
theorem dX6_addSaying_28 : decode cX6_addSaying 28 = .ok (.iload_n 3, 1) := by decide +kernel
theorem dX6_addSaying_29 : decode cX6_addSaying 29 = .ok (.iastore, 1) := by decide +kernel
theorem dX6_addSaying_30 : decode cX6_addSaying 30 = .ok (.aload_n 0, 1) := by decide +kernel
theorem dX6_addSaying_31 : decode cX6_addSaying 31 = .ok (.getfield 21, 3) := by decide +kernel
theorem dX6_addSaying_34 : decode cX6_addSaying 34 = .ok (.iload 5, 2) := by decide +kernel
theorem dX6_addSaying_36 : decode cX6_addSaying 36 = .ok (.iload 4, 2) := by decide +kernel
theorem dX6_addSaying_38 : decode cX6_addSaying 38 = .ok (.iastore, 1) := by decide +kernel
theorem dX6_addSaying_39 : decode cX6_addSaying 39 = .ok (.aload_n 0, 1) := by decide +kernel
theorem dX6_addSaying_40 : decode cX6_addSaying 40 = .ok (.iload 5, 2) := by decide +kernel
theorem dX6_addSaying_42 : decode cX6_addSaying 42 = .ok (.iconst 1, 1) := by decide +kernel
theorem dX6_addSaying_43 : decode cX6_addSaying 43 = .ok (.iadd, 1) := by decide +kernel
theorem dX6_addSaying_44 : decode cX6_addSaying 44 = .ok (.putfield 24, 3) := by decide +kernel
theorem dX6_addSaying_47 : decode cX6_addSaying 47 = .ok (.iload 5, 2) := by decide +kernel
theorem dX6_addSaying_49 : decode cX6_addSaying 49 = .ok (.ireturn, 1) := by decide +kernel
theorem dX7_init_0 : decode cX7_init 0 = .ok (.aload_n 0, 1) := by decide +kernel
theorem dX7_init_1 : decode cX7_init 1 = .ok (.invokespecial 3, 3) := by decide +kernel
theorem dX7_init_4 : decode cX7_init 4 = .ok (.aload_n 0, 1) := by decide +kernel
theorem dX7_init_5 : decode cX7_init 5 = .ok (.bipush 8, 2) := by decide +kernel
theorem dX7_init_7 : decode cX7_init 7 = .ok (.newarray .int, 2) := by decide +kernel
theorem dX7_init_9 : decode cX7_init 9 = .ok (.putfield 9, 3) := by decide +kernel
theorem dX7_init_12 : decode cX7_init 12 = .ok (.aload_n 0, 1) := by decide +kernel
theorem dX7_init_13 : decode cX7_init 13 = .ok (.bipush 12, 2) := by decide +kernel
theorem dX7_init_15 : decode cX7_init 15 = .ok (.newarray .int, 2) := by decide +kernel
theorem dX7_init_17 : decode cX7_init 17 = .ok (.putfield 15, 3) := by decide +kernel
theorem dX7_init_20 : decode cX7_init 20 = .ok (.aload_n 0, 1) := by decide +kernel
theorem dX7_init_21 : decode cX7_init 21 = .ok (.bipush 64, 2) := by decide +kernel
theorem dX7_init_23 : decode cX7_init 23 = .ok (.newarray .int, 2) := by decide +kernel
theorem dX7_init_25 : decode cX7_init 25 = .ok (.putfield 18, 3) := by decide +kernel
theorem dX7_init_28 : decode cX7_init 28 = .ok (.aload_n 0, 1) := by decide +kernel
theorem dX7_init_29 : decode cX7_init 29 = .ok (.bipush 64, 2) := by decide +kernel
theorem dX7_init_31 : decode cX7_init 31 = .ok (.newarray .int, 2) := by decide +kernel
theorem dX7_init_33 : decode cX7_init 33 = .ok (.putfield 21, 3) := by decide +kernel
theorem dX7_init_36 : decode cX7_init 36 = .ok (.aload_n 0, 1) := by decide +kernel
theorem dX7_init_37 : decode cX7_init 37 = .ok (.bipush 8, 2) := by decide +kernel
theorem dX7_init_39 : decode cX7_init 39 = .ok (.newarray .int, 2) := by decide +kernel
theorem dX7_init_41 : decode cX7_init 41 = .ok (.putfield 24, 3) := by decide +kernel
theorem dX7_init_44 : decode cX7_init 44 = .ok (.aload_n 0, 1) := by decide +kernel
theorem dX7_init_45 : decode cX7_init 45 = .ok (.bipush 8, 2) := by decide +kernel
theorem dX7_init_47 : decode cX7_init 47 = .ok (.newarray .int, 2) := by decide +kernel
theorem dX7_init_49 : decode cX7_init 49 = .ok (.putfield 27, 3) := by decide +kernel
theorem dX7_init_52 : decode cX7_init 52 = .ok (.aload_n 0, 1) := by decide +kernel
theorem dX7_init_53 : decode cX7_init 53 = .ok (.bipush 8, 2) := by decide +kernel
theorem dX7_init_55 : decode cX7_init 55 = .ok (.newarray .int, 2) := by decide +kernel
theorem dX7_init_57 : decode cX7_init 57 = .ok (.putfield 30, 3) := by decide +kernel
theorem dX7_init_60 : decode cX7_init 60 = .ok (.aload_n 0, 1) := by decide +kernel
theorem dX7_init_61 : decode cX7_init 61 = .ok (.sipush 2048, 3) := by decide +kernel
theorem dX7_init_64 : decode cX7_init 64 = .ok (.newarray .int, 2) := by decide +kernel
theorem dX7_init_66 : decode cX7_init 66 = .ok (.putfield 33, 3) := by decide +kernel
theorem dX7_init_69 : decode cX7_init 69 = .ok (.aload_n 0, 1) := by decide +kernel
theorem dX7_init_70 : decode cX7_init 70 = .ok (.bipush 8, 2) := by decide +kernel
theorem dX7_init_72 : decode cX7_init 72 = .ok (.newarray .int, 2) := by decide +kernel
theorem dX7_init_74 : decode cX7_init 74 = .ok (.putfield 36, 3) := by decide +kernel
theorem dX7_init_77 : decode cX7_init 77 = .ok (.aload_n 0, 1) := by decide +kernel
theorem dX7_init_78 : decode cX7_init 78 = .ok (.iconst 0, 1) := by decide +kernel
theorem dX7_init_79 : decode cX7_init 79 = .ok (.putfield 39, 3) := by decide +kernel
theorem dX7_init_82 : decode cX7_init 82 = .ok (.aload_n 0, 1) := by decide +kernel
theorem dX7_init_83 : decode cX7_init 83 = .ok (.iconst 0, 1) := by decide +kernel
theorem dX7_init_84 : decode cX7_init 84 = .ok (.putfield 43, 3) := by decide +kernel
theorem dX7_init_87 : decode cX7_init 87 = .ok (.aload_n 0, 1) := by decide +kernel
theorem dX7_init_88 : decode cX7_init 88 = .ok (.iconst 0, 1) := by decide +kernel
theorem dX7_init_89 : decode cX7_init 89 = .ok (.putfield 46, 3) := by decide +kernel
theorem dX7_init_92 : decode cX7_init 92 = .ok (.aload_n 0, 1) := by decide +kernel
theorem dX7_init_93 : decode cX7_init 93 = .ok (.iconst 0, 1) := by decide +kernel
theorem dX7_init_94 : decode cX7_init 94 = .ok (.putfield 49, 3) := by decide +kernel
theorem dX7_init_97 : decode cX7_init 97 = .ok (.aload_n 0, 1) := by decide +kernel
theorem dX7_init_98 : decode cX7_init 98 = .ok (.iconst 0, 1) := by decide +kernel
theorem dX7_init_99 : decode cX7_init 99 = .ok (.putfield 52, 3) := by decide +kernel
theorem dX7_init_102 : decode cX7_init 102 = .ok (.return_, 1) := by decide +kernel
theorem dX7_rebuild_0 : decode cX7_rebuild 0 = .ok (.iload_n 1, 1) := by decide +kernel
theorem dX7_rebuild_1 : decode cX7_rebuild 1 = .ok (.aload_n 0, 1) := by decide +kernel
theorem dX7_rebuild_2 : decode cX7_rebuild 2 = .ok (.getfield 49, 3) := by decide +kernel
theorem dX7_rebuild_5 : decode cX7_rebuild 5 = .ok (.if_icmp .ne 15, 3) := by decide +kernel
theorem dX7_rebuild_8 : decode cX7_rebuild 8 = .ok (.aload_n 2, 1) := by decide +kernel
theorem dX7_rebuild_9 : decode cX7_rebuild 9 = .ok (.getfield 55, 3) := by decide +kernel
theorem dX7_rebuild_12 : decode cX7_rebuild 12 = .ok (.aload_n 0, 1) := by decide +kernel
theorem dX7_rebuild_13 : decode cX7_rebuild 13 = .ok (.getfield 52, 3) := by decide +kernel
theorem dX7_rebuild_16 : decode cX7_rebuild 16 = .ok (.if_icmp .ne 4, 3) := by decide +kernel
theorem dX7_rebuild_19 : decode cX7_rebuild 19 = .ok (.return_, 1) := by decide +kernel
theorem dX7_rebuild_20 : decode cX7_rebuild 20 = .ok (.aload_n 0, 1) := by decide +kernel
theorem dX7_rebuild_21 : decode cX7_rebuild 21 = .ok (.iload_n 1, 1) := by decide +kernel
theorem dX7_rebuild_22 : decode cX7_rebuild 22 = .ok (.putfield 49, 3) := by decide +kernel
theorem dX7_rebuild_25 : decode cX7_rebuild 25 = .ok (.aload_n 0, 1) := by decide +kernel
theorem dX7_rebuild_26 : decode cX7_rebuild 26 = .ok (.aload_n 2, 1) := by decide +kernel
theorem dX7_rebuild_27 : decode cX7_rebuild 27 = .ok (.getfield 55, 3) := by decide +kernel
theorem dX7_rebuild_30 : decode cX7_rebuild 30 = .ok (.putfield 52, 3) := by decide +kernel
theorem dX7_rebuild_33 : decode cX7_rebuild 33 = .ok (.aload_n 0, 1) := by decide +kernel
theorem dX7_rebuild_34 : decode cX7_rebuild 34 = .ok (.iload_n 1, 1) := by decide +kernel
theorem dX7_rebuild_35 : decode cX7_rebuild 35 = .ok (.invokevirtual 60, 3) := by decide +kernel
theorem dX7_rebuild_38 : decode cX7_rebuild 38 = .ok (.aload_n 0, 1) := by decide +kernel
theorem dX7_rebuild_39 : decode cX7_rebuild 39 = .ok (.invokevirtual 64, 3) := by decide +kernel
theorem dX7_rebuild_42 : decode cX7_rebuild 42 = .ok (.aload_n 0, 1) := by decide +kernel
theorem dX7_rebuild_43 : decode cX7_rebuild 43 = .ok (.iconst 0, 1) := by decide +kernel
theorem dX7_rebuild_44 : decode cX7_rebuild 44 = .ok (.putfield 43, 3) := by decide +kernel
theorem dX7_rebuild_47 : decode cX7_rebuild 47 = .ok (.iconst 0, 1) := by decide +kernel
theorem dX7_rebuild_48 : decode cX7_rebuild 48 = .ok (.istore_n 3, 1) := by decide +kernel
theorem dX7_rebuild_49 : decode cX7_rebuild 49 = .ok (.iload_n 3, 1) := by decide +kernel
theorem dX7_rebuild_50 : decode cX7_rebuild 50 = .ok (.aload_n 2, 1) := by decide +kernel
theorem dX7_rebuild_51 : decode cX7_rebuild 51 = .ok (.getfield 55, 3) := by decide +kernel
theorem dX7_rebuild_54 : decode cX7_rebuild 54 = .ok (.if_icmp .ge 88, 3) := by decide +kernel
theorem dX7_rebuild_57 : decode cX7_rebuild 57 = .ok (.iload_n 1, 1) := by decide +kernel
theorem dX7_rebuild_58 : decode cX7_rebuild 58 = .ok (.aload_n 2, 1) := by decide +kernel
theorem dX7_rebuild_59 : decode cX7_rebuild 59 = .ok (.getfield 67, 3) := by decide +kernel
theorem dX7_rebuild_62 : decode cX7_rebuild 62 = .ok (.iload_n 3, 1) := by decide +kernel
theorem dX7_rebuild_63 : decode cX7_rebuild 63 = .ok (.iaload, 1) := by decide +kernel
theorem dX7_rebuild_64 : decode cX7_rebuild 64 = .ok (.ishr, 1) := by decide +kernel
theorem dX7_rebuild_65 : decode cX7_rebuild 65 = .ok (.iconst 1, 1) := by decide +kernel
theorem dX7_rebuild_66 : decode cX7_rebuild 66 = .ok (.iand, 1) := by decide +kernel
theorem dX7_rebuild_67 : decode cX7_rebuild 67 = .ok (.ifCond .eq 69, 3) := by decide +kernel
theorem dX7_rebuild_70 : decode cX7_rebuild 70 = .ok (.iload_n 1, 1) := by decide +kernel
theorem dX7_rebuild_71 : decode cX7_rebuild 71 = .ok (.aload_n 2, 1) := by decide +kernel
theorem dX7_rebuild_72 : decode cX7_rebuild 72 = .ok (.getfield 70, 3) := by decide +kernel
theorem dX7_rebuild_75 : decode cX7_rebuild 75 = .ok (.iload_n 3, 1) := by decide +kernel
theorem dX7_rebuild_76 : decode cX7_rebuild 76 = .ok (.iaload, 1) := by decide +kernel
theorem dX7_rebuild_77 : decode cX7_rebuild 77 = .ok (.ishr, 1) := by decide +kernel
theorem dX7_rebuild_78 : decode cX7_rebuild 78 = .ok (.iconst 1, 1) := by decide +kernel
theorem dX7_rebuild_79 : decode cX7_rebuild 79 = .ok (.iand, 1) := by decide +kernel
theorem dX7_rebuild_80 : decode cX7_rebuild 80 = .ok (.ifCond .eq 56, 3) := by decide +kernel
theorem dX7_rebuild_83 : decode cX7_rebuild 83 = .ok (.aload_n 0, 1) := by decide +kernel
theorem dX7_rebuild_84 : decode cX7_rebuild 84 = .ok (.dup, 1) := by decide +kernel
theorem dX7_rebuild_85 : decode cX7_rebuild 85 = .ok (.getfield 43, 3) := by decide +kernel
theorem dX7_rebuild_88 : decode cX7_rebuild 88 = .ok (.aload_n 2, 1) := by decide +kernel
theorem dX7_rebuild_89 : decode cX7_rebuild 89 = .ok (.getfield 73, 3) := by decide +kernel
theorem dX7_rebuild_92 : decode cX7_rebuild 92 = .ok (.iload_n 3, 1) := by decide +kernel
theorem dX7_rebuild_93 : decode cX7_rebuild 93 = .ok (.iaload, 1) := by decide +kernel
theorem dX7_rebuild_94 : decode cX7_rebuild 94 = .ok (.iadd, 1) := by decide +kernel
theorem dX7_rebuild_95 : decode cX7_rebuild 95 = .ok (.putfield 43, 3) := by decide +kernel
theorem dX7_rebuild_98 : decode cX7_rebuild 98 = .ok (.aload_n 0, 1) := by decide +kernel
theorem dX7_rebuild_99 : decode cX7_rebuild 99 = .ok (.aload_n 2, 1) := by decide +kernel
theorem dX7_rebuild_100 : decode cX7_rebuild 100 = .ok (.getfield 76, 3) := by decide +kernel
theorem dX7_rebuild_103 : decode cX7_rebuild 103 = .ok (.iload_n 3, 1) := by decide +kernel
theorem dX7_rebuild_104 : decode cX7_rebuild 104 = .ok (.iaload, 1) := by decide +kernel
theorem dX7_rebuild_105 : decode cX7_rebuild 105 = .ok (.aload_n 0, 1) := by decide +kernel
theorem dX7_rebuild_106 : decode cX7_rebuild 106 = .ok (.getfield 15, 3) := by decide +kernel
theorem dX7_rebuild_109 : decode cX7_rebuild 109 = .ok (.aload_n 2, 1) := by decide +kernel
theorem dX7_rebuild_110 : decode cX7_rebuild 110 = .ok (.getfield 67, 3) := by decide +kernel
theorem dX7_rebuild_113 : decode cX7_rebuild 113 = .ok (.iload_n 3, 1) := by decide +kernel
theorem dX7_rebuild_114 : decode cX7_rebuild 114 = .ok (.iaload, 1) := by decide +kernel
theorem dX7_rebuild_115 : decode cX7_rebuild 115 = .ok (.iaload, 1) := by decide +kernel
theorem dX7_rebuild_116 : decode cX7_rebuild 116 = .ok (.aload_n 0, 1) := by decide +kernel
theorem dX7_rebuild_117 : decode cX7_rebuild 117 = .ok (.getfield 15, 3) := by decide +kernel
theorem dX7_rebuild_120 : decode cX7_rebuild 120 = .ok (.aload_n 2, 1) := by decide +kernel
theorem dX7_rebuild_121 : decode cX7_rebuild 121 = .ok (.getfield 70, 3) := by decide +kernel
theorem dX7_rebuild_124 : decode cX7_rebuild 124 = .ok (.iload_n 3, 1) := by decide +kernel
theorem dX7_rebuild_125 : decode cX7_rebuild 125 = .ok (.iaload, 1) := by decide +kernel
theorem dX7_rebuild_126 : decode cX7_rebuild 126 = .ok (.iaload, 1) := by decide +kernel
theorem dX7_rebuild_127 : decode cX7_rebuild 127 = .ok (.aload_n 2, 1) := by decide +kernel
theorem dX7_rebuild_128 : decode cX7_rebuild 128 = .ok (.getfield 73, 3) := by decide +kernel
theorem dX7_rebuild_131 : decode cX7_rebuild 131 = .ok (.iload_n 3, 1) := by decide +kernel
theorem dX7_rebuild_132 : decode cX7_rebuild 132 = .ok (.iaload, 1) := by decide +kernel
theorem dX7_rebuild_133 : decode cX7_rebuild 133 = .ok (.invokevirtual 79, 3) := by decide +kernel
theorem dX7_rebuild_136 : decode cX7_rebuild 136 = .ok (.iinc 3 1, 3) := by decide +kernel
theorem dX7_rebuild_139 : decode cX7_rebuild 139 = .ok (.goto (-90), 3) := by decide +kernel
theorem dX7_rebuild_142 : decode cX7_rebuild 142 = .ok (.aload_n 0, 1) := by decide +kernel
theorem dX7_rebuild_143 : decode cX7_rebuild 143 = .ok (.invokevirtual 83, 3) := by decide +kernel
theorem dX7_rebuild_146 : decode cX7_rebuild 146 = .ok (.aload_n 0, 1) := by decide +kernel
theorem dX7_rebuild_147 : decode cX7_rebuild 147 = .ok (.invokevirtual 86, 3) := by decide +kernel
theorem dX7_rebuild_150 : decode cX7_rebuild 150 = .ok (.return_, 1) := by decide +kernel
theorem dX7_readThings_0 : decode cX7_readThings 0 = .ok (.aload_n 0, 1) := by decide +kernel
theorem dX7_readThings_1 : decode cX7_readThings 1 = .ok (.iconst 0, 1) := by decide +kernel
theorem dX7_readThings_2 : decode cX7_readThings 2 = .ok (.putfield 39, 3) := by decide +kernel
theorem dX7_readThings_5 : decode cX7_readThings 5 = .ok (.iconst 0, 1) := by decide +kernel
theorem dX7_readThings_6 : decode cX7_readThings 6 = .ok (.istore_n 2, 1) := by decide +kernel
theorem dX7_readThings_7 : decode cX7_readThings 7 = .ok (.iload_n 2, 1) := by decide +kernel
theorem dX7_readThings_8 : decode cX7_readThings 8 = .ok (.bipush 12, 2) := by decide +kernel
theorem dX7_readThings_10 : decode cX7_readThings 10 = .ok (.if_icmp .ge 56, 3) := by decide +kernel
theorem dX7_readThings_13 : decode cX7_readThings 13 = .ok (.iload_n 1, 1) := by decide +kernel
theorem dX7_readThings_14 : decode cX7_readThings 14 = .ok (.iload_n 2, 1) := by decide +kernel
theorem dX7_readThings_15 : decode cX7_readThings 15 = .ok (.ishr, 1) := by decide +kernel
theorem dX7_readThings_16 : decode cX7_readThings 16 = .ok (.iconst 1, 1) := by decide +kernel
theorem dX7_readThings_17 : decode cX7_readThings 17 = .ok (.iand, 1) := by decide +kernel
theorem dX7_readThings_18 : decode cX7_readThings 18 = .ok (.ifCond .eq 42, 3) := by decide +kernel
theorem dX7_readThings_21 : decode cX7_readThings 21 = .ok (.aload_n 0, 1) := by decide +kernel
theorem dX7_readThings_22 : decode cX7_readThings 22 = .ok (.getfield 39, 3) := by decide +kernel
theorem dX7_readThings_25 : decode cX7_readThings 25 = .ok (.bipush 8, 2) := by decide +kernel
theorem dX7_readThings_27 : decode cX7_readThings 27 = .ok (.if_icmp .ge 33, 3) := by decide +kernel
theorem dX7_readThings_30 : decode cX7_readThings 30 = .ok (.aload_n 0, 1) := by decide +kernel
theorem dX7_readThings_31 : decode cX7_readThings 31 = .ok (.getfield 9, 3) := by decide +kernel
theorem dX7_readThings_34 : decode cX7_readThings 34 = .ok (.aload_n 0, 1) := by decide +kernel
theorem dX7_readThings_35 : decode cX7_readThings 35 = .ok (.getfield 39, 3) := by decide +kernel
theorem dX7_readThings_38 : decode cX7_readThings 38 = .ok (.iload_n 2, 1) := by decide +kernel
theorem dX7_readThings_39 : decode cX7_readThings 39 = .ok (.iastore, 1) := by decide +kernel
theorem dX7_readThings_40 : decode cX7_readThings 40 = .ok (.aload_n 0, 1) := by decide +kernel
theorem dX7_readThings_41 : decode cX7_readThings 41 = .ok (.getfield 15, 3) := by decide +kernel
theorem dX7_readThings_44 : decode cX7_readThings 44 = .ok (.iload_n 2, 1) := by decide +kernel
theorem dX7_readThings_45 : decode cX7_readThings 45 = .ok (.aload_n 0, 1) := by decide +kernel
theorem dX7_readThings_46 : decode cX7_readThings 46 = .ok (.getfield 39, 3) := by decide +kernel
theorem dX7_readThings_49 : decode cX7_readThings 49 = .ok (.iastore, 1) := by decide +kernel
theorem dX7_readThings_50 : decode cX7_readThings 50 = .ok (.aload_n 0, 1) := by decide +kernel
theorem dX7_readThings_51 : decode cX7_readThings 51 = .ok (.dup, 1) := by decide +kernel
theorem dX7_readThings_52 : decode cX7_readThings 52 = .ok (.getfield 39, 3) := by decide +kernel
theorem dX7_readThings_55 : decode cX7_readThings 55 = .ok (.iconst 1, 1) := by decide +kernel
theorem dX7_readThings_56 : decode cX7_readThings 56 = .ok (.iadd, 1) := by decide +kernel
theorem dX7_readThings_57 : decode cX7_readThings 57 = .ok (.putfield 39, 3) := by decide +kernel
theorem dX7_readThings_60 : decode cX7_readThings 60 = .ok (.iinc 2 1, 3) := by decide +kernel
theorem dX7_readThings_63 : decode cX7_readThings 63 = .ok (.goto (-56), 3) := by decide +kernel
theorem dX7_readThings_66 : decode cX7_readThings 66 = .ok (.return_, 1) := by decide +kernel
theorem dX7_clearTrust_0 : decode cX7_clearTrust 0 = .ok (.iconst 0, 1) := by decide +kernel
theorem dX7_clearTrust_1 : decode cX7_clearTrust 1 = .ok (.istore_n 1, 1) := by decide +kernel
theorem dX7_clearTrust_2 : decode cX7_clearTrust 2 = .ok (.iload_n 1, 1) := by decide +kernel
theorem dX7_clearTrust_3 : decode cX7_clearTrust 3 = .ok (.aload_n 0, 1) := by decide +kernel
theorem dX7_clearTrust_4 : decode cX7_clearTrust 4 = .ok (.getfield 18, 3) := by decide +kernel
theorem dX7_clearTrust_7 : decode cX7_clearTrust 7 = .ok (.arraylength, 1) := by decide +kernel
theorem dX7_clearTrust_8 : decode cX7_clearTrust 8 = .ok (.if_icmp .ge 23, 3) := by decide +kernel
theorem dX7_clearTrust_11 : decode cX7_clearTrust 11 = .ok (.aload_n 0, 1) := by decide +kernel
theorem dX7_clearTrust_12 : decode cX7_clearTrust 12 = .ok (.getfield 18, 3) := by decide +kernel
theorem dX7_clearTrust_15 : decode cX7_clearTrust 15 = .ok (.iload_n 1, 1) := by decide +kernel
theorem dX7_clearTrust_16 : decode cX7_clearTrust 16 = .ok (.iconst 0, 1) := by decide +kernel
theorem dX7_clearTrust_17 : decode cX7_clearTrust 17 = .ok (.iastore, 1) := by decide +kernel
theorem dX7_clearTrust_18 : decode cX7_clearTrust 18 = .ok (.aload_n 0, 1) := by decide +kernel
theorem dX7_clearTrust_19 : decode cX7_clearTrust 19 = .ok (.getfield 21, 3) := by decide +kernel
theorem dX7_clearTrust_22 : decode cX7_clearTrust 22 = .ok (.iload_n 1, 1) := by decide +kernel
theorem dX7_clearTrust_23 : decode cX7_clearTrust 23 = .ok (.iconst 0, 1) := by decide +kernel
theorem dX7_clearTrust_24 : decode cX7_clearTrust 24 = .ok (.iastore, 1) := by decide +kernel
theorem dX7_clearTrust_25 : decode cX7_clearTrust 25 = .ok (.iinc 1 1, 3) := by decide +kernel
theorem dX7_clearTrust_28 : decode cX7_clearTrust 28 = .ok (.goto (-26), 3) := by decide +kernel
theorem dX7_clearTrust_31 : decode cX7_clearTrust 31 = .ok (.iconst 0, 1) := by decide +kernel
theorem dX7_clearTrust_32 : decode cX7_clearTrust 32 = .ok (.istore_n 1, 1) := by decide +kernel
theorem dX7_clearTrust_33 : decode cX7_clearTrust 33 = .ok (.iload_n 1, 1) := by decide +kernel
theorem dX7_clearTrust_34 : decode cX7_clearTrust 34 = .ok (.bipush 8, 2) := by decide +kernel
theorem dX7_clearTrust_36 : decode cX7_clearTrust 36 = .ok (.if_icmp .ge 23, 3) := by decide +kernel
theorem dX7_clearTrust_39 : decode cX7_clearTrust 39 = .ok (.aload_n 0, 1) := by decide +kernel
theorem dX7_clearTrust_40 : decode cX7_clearTrust 40 = .ok (.getfield 24, 3) := by decide +kernel
theorem dX7_clearTrust_43 : decode cX7_clearTrust 43 = .ok (.iload_n 1, 1) := by decide +kernel
theorem dX7_clearTrust_44 : decode cX7_clearTrust 44 = .ok (.iconst 0, 1) := by decide +kernel
theorem dX7_clearTrust_45 : decode cX7_clearTrust 45 = .ok (.iastore, 1) := by decide +kernel
theorem dX7_clearTrust_46 : decode cX7_clearTrust 46 = .ok (.aload_n 0, 1) := by decide +kernel
theorem dX7_clearTrust_47 : decode cX7_clearTrust 47 = .ok (.getfield 27, 3) := by decide +kernel
theorem dX7_clearTrust_50 : decode cX7_clearTrust 50 = .ok (.iload_n 1, 1) := by decide +kernel
theorem dX7_clearTrust_51 : decode cX7_clearTrust 51 = .ok (.iconst 0, 1) := by decide +kernel
theorem dX7_clearTrust_52 : decode cX7_clearTrust 52 = .ok (.iastore, 1) := by decide +kernel
theorem dX7_clearTrust_53 : decode cX7_clearTrust 53 = .ok (.iinc 1 1, 3) := by decide +kernel
theorem dX7_clearTrust_56 : decode cX7_clearTrust 56 = .ok (.goto (-23), 3) := by decide +kernel
theorem dX7_clearTrust_59 : decode cX7_clearTrust 59 = .ok (.return_, 1) := by decide +kernel
theorem dX7_addTrust_0 : decode cX7_addTrust 0 = .ok (.iload_n 1, 1) := by decide +kernel
theorem dX7_addTrust_1 : decode cX7_addTrust 1 = .ok (.ifCond .ne 22, 3) := by decide +kernel
theorem dX7_addTrust_4 : decode cX7_addTrust 4 = .ok (.aload_n 0, 1) := by decide +kernel
theorem dX7_addTrust_5 : decode cX7_addTrust 5 = .ok (.getfield 18, 3) := by decide +kernel
theorem dX7_addTrust_8 : decode cX7_addTrust 8 = .ok (.iload_n 2, 1) := by decide +kernel
theorem dX7_addTrust_9 : decode cX7_addTrust 9 = .ok (.bipush 8, 2) := by decide +kernel
theorem dX7_addTrust_11 : decode cX7_addTrust 11 = .ok (.imul, 1) := by decide +kernel
theorem dX7_addTrust_12 : decode cX7_addTrust 12 = .ok (.iload_n 3, 1) := by decide +kernel
theorem dX7_addTrust_13 : decode cX7_addTrust 13 = .ok (.iadd, 1) := by decide +kernel
theorem dX7_addTrust_14 : decode cX7_addTrust 14 = .ok (.dup2, 1) := by decide +kernel
theorem dX7_addTrust_15 : decode cX7_addTrust 15 = .ok (.iaload, 1) := by decide +kernel
theorem dX7_addTrust_16 : decode cX7_addTrust 16 = .ok (.iload 4, 2) := by decide +kernel
theorem dX7_addTrust_18 : decode cX7_addTrust 18 = .ok (.iadd, 1) := by decide +kernel
theorem dX7_addTrust_19 : decode cX7_addTrust 19 = .ok (.iastore, 1) := by decide +kernel
theorem dX7_addTrust_20 : decode cX7_addTrust 20 = .ok (.goto 73, 3) := by decide +kernel
theorem dX7_addTrust_23 : decode cX7_addTrust 23 = .ok (.iload_n 1, 1) := by decide +kernel
theorem dX7_addTrust_24 : decode cX7_addTrust 24 = .ok (.iconst 1, 1) := by decide +kernel
theorem dX7_addTrust_25 : decode cX7_addTrust 25 = .ok (.if_icmp .ne 38, 3) := by decide +kernel
theorem dX7_addTrust_28 : decode cX7_addTrust 28 = .ok (.aload_n 0, 1) := by decide +kernel
theorem dX7_addTrust_29 : decode cX7_addTrust 29 = .ok (.getfield 21, 3) := by decide +kernel
theorem dX7_addTrust_32 : decode cX7_addTrust 32 = .ok (.iload_n 2, 1) := by decide +kernel
theorem dX7_addTrust_33 : decode cX7_addTrust 33 = .ok (.bipush 8, 2) := by decide +kernel
theorem dX7_addTrust_35 : decode cX7_addTrust 35 = .ok (.imul, 1) := by decide +kernel
theorem dX7_addTrust_36 : decode cX7_addTrust 36 = .ok (.iload_n 3, 1) := by decide +kernel
theorem dX7_addTrust_37 : decode cX7_addTrust 37 = .ok (.iadd, 1) := by decide +kernel
theorem dX7_addTrust_38 : decode cX7_addTrust 38 = .ok (.dup2, 1) := by decide +kernel
theorem dX7_addTrust_39 : decode cX7_addTrust 39 = .ok (.iaload, 1) := by decide +kernel
theorem dX7_addTrust_40 : decode cX7_addTrust 40 = .ok (.iload 4, 2) := by decide +kernel
theorem dX7_addTrust_42 : decode cX7_addTrust 42 = .ok (.iadd, 1) := by decide +kernel
theorem dX7_addTrust_43 : decode cX7_addTrust 43 = .ok (.iastore, 1) := by decide +kernel
theorem dX7_addTrust_44 : decode cX7_addTrust 44 = .ok (.aload_n 0, 1) := by decide +kernel
theorem dX7_addTrust_45 : decode cX7_addTrust 45 = .ok (.getfield 21, 3) := by decide +kernel
theorem dX7_addTrust_48 : decode cX7_addTrust 48 = .ok (.iload_n 3, 1) := by decide +kernel
theorem dX7_addTrust_49 : decode cX7_addTrust 49 = .ok (.bipush 8, 2) := by decide +kernel
theorem dX7_addTrust_51 : decode cX7_addTrust 51 = .ok (.imul, 1) := by decide +kernel
theorem dX7_addTrust_52 : decode cX7_addTrust 52 = .ok (.iload_n 2, 1) := by decide +kernel
theorem dX7_addTrust_53 : decode cX7_addTrust 53 = .ok (.iadd, 1) := by decide +kernel
theorem dX7_addTrust_54 : decode cX7_addTrust 54 = .ok (.dup2, 1) := by decide +kernel
theorem dX7_addTrust_55 : decode cX7_addTrust 55 = .ok (.iaload, 1) := by decide +kernel
theorem dX7_addTrust_56 : decode cX7_addTrust 56 = .ok (.iload 4, 2) := by decide +kernel
theorem dX7_addTrust_58 : decode cX7_addTrust 58 = .ok (.iadd, 1) := by decide +kernel
theorem dX7_addTrust_59 : decode cX7_addTrust 59 = .ok (.iastore, 1) := by decide +kernel
theorem dX7_addTrust_60 : decode cX7_addTrust 60 = .ok (.goto 33, 3) := by decide +kernel
theorem dX7_addTrust_63 : decode cX7_addTrust 63 = .ok (.iload_n 1, 1) := by decide +kernel
theorem dX7_addTrust_64 : decode cX7_addTrust 64 = .ok (.iconst 2, 1) := by decide +kernel
theorem dX7_addTrust_65 : decode cX7_addTrust 65 = .ok (.if_icmp .ne 17, 3) := by decide +kernel
theorem dX7_addTrust_68 : decode cX7_addTrust 68 = .ok (.aload_n 0, 1) := by decide +kernel
theorem dX7_addTrust_69 : decode cX7_addTrust 69 = .ok (.getfield 24, 3) := by decide +kernel
theorem dX7_addTrust_72 : decode cX7_addTrust 72 = .ok (.iload_n 2, 1) := by decide +kernel
theorem dX7_addTrust_73 : decode cX7_addTrust 73 = .ok (.dup2, 1) := by decide +kernel
theorem dX7_addTrust_74 : decode cX7_addTrust 74 = .ok (.iaload, 1) := by decide +kernel
theorem dX7_addTrust_75 : decode cX7_addTrust 75 = .ok (.iload 4, 2) := by decide +kernel
theorem dX7_addTrust_77 : decode cX7_addTrust 77 = .ok (.iadd, 1) := by decide +kernel
theorem dX7_addTrust_78 : decode cX7_addTrust 78 = .ok (.iastore, 1) := by decide +kernel
theorem dX7_addTrust_79 : decode cX7_addTrust 79 = .ok (.goto 14, 3) := by decide +kernel
theorem dX7_addTrust_82 : decode cX7_addTrust 82 = .ok (.aload_n 0, 1) := by decide +kernel
theorem dX7_addTrust_83 : decode cX7_addTrust 83 = .ok (.getfield 27, 3) := by decide +kernel
theorem dX7_addTrust_86 : decode cX7_addTrust 86 = .ok (.iload_n 2, 1) := by decide +kernel
theorem dX7_addTrust_87 : decode cX7_addTrust 87 = .ok (.dup2, 1) := by decide +kernel
theorem dX7_addTrust_88 : decode cX7_addTrust 88 = .ok (.iaload, 1) := by decide +kernel
theorem dX7_addTrust_89 : decode cX7_addTrust 89 = .ok (.iload 4, 2) := by decide +kernel
theorem dX7_addTrust_91 : decode cX7_addTrust 91 = .ok (.iadd, 1) := by decide +kernel
theorem dX7_addTrust_92 : decode cX7_addTrust 92 = .ok (.iastore, 1) := by decide +kernel
theorem dX7_addTrust_93 : decode cX7_addTrust 93 = .ok (.return_, 1) := by decide +kernel
theorem dX7_weighStates_0 : decode cX7_weighStates 0 = .ok (.iconst 1, 1) := by decide +kernel
theorem dX7_weighStates_1 : decode cX7_weighStates 1 = .ok (.aload_n 0, 1) := by decide +kernel
theorem dX7_weighStates_2 : decode cX7_weighStates 2 = .ok (.getfield 39, 3) := by decide +kernel
theorem dX7_weighStates_5 : decode cX7_weighStates 5 = .ok (.ishl, 1) := by decide +kernel
theorem dX7_weighStates_6 : decode cX7_weighStates 6 = .ok (.iconst 1, 1) := by decide +kernel
theorem dX7_weighStates_7 : decode cX7_weighStates 7 = .ok (.isub, 1) := by decide +kernel
theorem dX7_weighStates_8 : decode cX7_weighStates 8 = .ok (.istore_n 1, 1) := by decide +kernel
theorem dX7_weighStates_9 : decode cX7_weighStates 9 = .ok (.iconst 0, 1) := by decide +kernel
theorem dX7_weighStates_10 : decode cX7_weighStates 10 = .ok (.istore_n 2, 1) := by decide +kernel
theorem dX7_weighStates_11 : decode cX7_weighStates 11 = .ok (.iload_n 2, 1) := by decide +kernel
theorem dX7_weighStates_12 : decode cX7_weighStates 12 = .ok (.aload_n 0, 1) := by decide +kernel
theorem dX7_weighStates_13 : decode cX7_weighStates 13 = .ok (.getfield 39, 3) := by decide +kernel
theorem dX7_weighStates_16 : decode cX7_weighStates 16 = .ok (.if_icmp .ge 21, 3) := by decide +kernel
theorem dX7_weighStates_19 : decode cX7_weighStates 19 = .ok (.aload_n 0, 1) := by decide +kernel
theorem dX7_weighStates_20 : decode cX7_weighStates 20 = .ok (.getfield 33, 3) := by decide +kernel
theorem dX7_weighStates_23 : decode cX7_weighStates 23 = .ok (.iload_n 1, 1) := by decide +kernel
theorem dX7_weighStates_24 : decode cX7_weighStates 24 = .ok (.bipush 8, 2) := by decide +kernel
theorem dX7_weighStates_26 : decode cX7_weighStates 26 = .ok (.imul, 1) := by decide +kernel
theorem dX7_weighStates_27 : decode cX7_weighStates 27 = .ok (.iload_n 2, 1) := by decide +kernel
theorem dX7_weighStates_28 : decode cX7_weighStates 28 = .ok (.iadd, 1) := by decide +kernel
theorem dX7_weighStates_29 : decode cX7_weighStates 29 = .ok (.iconst 0, 1) := by decide +kernel
theorem dX7_weighStates_30 : decode cX7_weighStates 30 = .ok (.iastore, 1) := by decide +kernel
theorem dX7_weighStates_31 : decode cX7_weighStates 31 = .ok (.iinc 2 1, 3) := by decide +kernel
theorem dX7_weighStates_34 : decode cX7_weighStates 34 = .ok (.goto (-23), 3) := by decide +kernel
theorem dX7_weighStates_37 : decode cX7_weighStates 37 = .ok (.iload_n 1, 1) := by decide +kernel
end
section
theorem dX7_weighStates_38 : decode cX7_weighStates 38 = .ok (.iconst 1, 1) := by decide +kernel
theorem dX7_weighStates_39 : decode cX7_weighStates 39 = .ok (.isub, 1) := by decide +kernel
theorem dX7_weighStates_40 : decode cX7_weighStates 40 = .ok (.istore_n 2, 1) := by decide +kernel
theorem dX7_weighStates_41 : decode cX7_weighStates 41 = .ok (.iload_n 2, 1) := by decide +kernel
theorem dX7_weighStates_42 : decode cX7_weighStates 42 = .ok (.ifCond .le 55, 3) := by decide +kernel
theorem dX7_weighStates_45 : decode cX7_weighStates 45 = .ok (.aload_n 0, 1) := by decide +kernel
theorem dX7_weighStates_46 : decode cX7_weighStates 46 = .ok (.iload_n 2, 1) := by decide +kernel
theorem dX7_weighStates_47 : decode cX7_weighStates 47 = .ok (.invokevirtual 89, 3) := by decide +kernel
theorem dX7_weighStates_50 : decode cX7_weighStates 50 = .ok (.iconst 0, 1) := by decide +kernel
theorem dX7_weighStates_51 : decode cX7_weighStates 51 = .ok (.istore_n 3, 1) := by decide +kernel
theorem dX7_weighStates_52 : decode cX7_weighStates 52 = .ok (.iload_n 3, 1) := by decide +kernel
theorem dX7_weighStates_53 : decode cX7_weighStates 53 = .ok (.aload_n 0, 1) := by decide +kernel
theorem dX7_weighStates_54 : decode cX7_weighStates 54 = .ok (.getfield 39, 3) := by decide +kernel
theorem dX7_weighStates_57 : decode cX7_weighStates 57 = .ok (.if_icmp .ge 34, 3) := by decide +kernel
theorem dX7_weighStates_60 : decode cX7_weighStates 60 = .ok (.iload_n 2, 1) := by decide +kernel
theorem dX7_weighStates_61 : decode cX7_weighStates 61 = .ok (.iload_n 3, 1) := by decide +kernel
theorem dX7_weighStates_62 : decode cX7_weighStates 62 = .ok (.ishr, 1) := by decide +kernel
theorem dX7_weighStates_63 : decode cX7_weighStates 63 = .ok (.iconst 1, 1) := by decide +kernel
theorem dX7_weighStates_64 : decode cX7_weighStates 64 = .ok (.iand, 1) := by decide +kernel
theorem dX7_weighStates_65 : decode cX7_weighStates 65 = .ok (.ifCond .eq 20, 3) := by decide +kernel
theorem dX7_weighStates_68 : decode cX7_weighStates 68 = .ok (.aload_n 0, 1) := by decide +kernel
theorem dX7_weighStates_69 : decode cX7_weighStates 69 = .ok (.getfield 33, 3) := by decide +kernel
theorem dX7_weighStates_72 : decode cX7_weighStates 72 = .ok (.iload_n 2, 1) := by decide +kernel
theorem dX7_weighStates_73 : decode cX7_weighStates 73 = .ok (.bipush 8, 2) := by decide +kernel
theorem dX7_weighStates_75 : decode cX7_weighStates 75 = .ok (.imul, 1) := by decide +kernel
theorem dX7_weighStates_76 : decode cX7_weighStates 76 = .ok (.iload_n 3, 1) := by decide +kernel
theorem dX7_weighStates_77 : decode cX7_weighStates 77 = .ok (.iadd, 1) := by decide +kernel
theorem dX7_weighStates_78 : decode cX7_weighStates 78 = .ok (.aload_n 0, 1) := by decide +kernel
theorem dX7_weighStates_79 : decode cX7_weighStates 79 = .ok (.iload_n 2, 1) := by decide +kernel
theorem dX7_weighStates_80 : decode cX7_weighStates 80 = .ok (.iload_n 3, 1) := by decide +kernel
theorem dX7_weighStates_81 : decode cX7_weighStates 81 = .ok (.invokevirtual 92, 3) := by decide +kernel
theorem dX7_weighStates_84 : decode cX7_weighStates 84 = .ok (.iastore, 1) := by decide +kernel
theorem dX7_weighStates_85 : decode cX7_weighStates 85 = .ok (.iinc 3 1, 3) := by decide +kernel
theorem dX7_weighStates_88 : decode cX7_weighStates 88 = .ok (.goto (-36), 3) := by decide +kernel
theorem dX7_weighStates_91 : decode cX7_weighStates 91 = .ok (.iinc 2 (-1), 3) := by decide +kernel
theorem dX7_weighStates_94 : decode cX7_weighStates 94 = .ok (.goto (-53), 3) := by decide +kernel
theorem dX7_weighStates_97 : decode cX7_weighStates 97 = .ok (.aload_n 0, 1) := by decide +kernel
theorem dX7_weighStates_98 : decode cX7_weighStates 98 = .ok (.iconst 0, 1) := by decide +kernel
theorem dX7_weighStates_99 : decode cX7_weighStates 99 = .ok (.invokevirtual 89, 3) := by decide +kernel
theorem dX7_weighStates_102 : decode cX7_weighStates 102 = .ok (.aload_n 0, 1) := by decide +kernel
theorem dX7_weighStates_103 : decode cX7_weighStates 103 = .ok (.aload_n 0, 1) := by decide +kernel
theorem dX7_weighStates_104 : decode cX7_weighStates 104 = .ok (.iconst 0, 1) := by decide +kernel
theorem dX7_weighStates_105 : decode cX7_weighStates 105 = .ok (.iconst 0, 1) := by decide +kernel
theorem dX7_weighStates_106 : decode cX7_weighStates 106 = .ok (.invokevirtual 92, 3) := by decide +kernel
theorem dX7_weighStates_109 : decode cX7_weighStates 109 = .ok (.putfield 46, 3) := by decide +kernel
theorem dX7_weighStates_112 : decode cX7_weighStates 112 = .ok (.return_, 1) := by decide +kernel
theorem dX7_readGains_0 : decode cX7_readGains 0 = .ok (.iconst 1, 1) := by decide +kernel
theorem dX7_readGains_1 : decode cX7_readGains 1 = .ok (.aload_n 0, 1) := by decide +kernel
theorem dX7_readGains_2 : decode cX7_readGains 2 = .ok (.getfield 39, 3) := by decide +kernel
theorem dX7_readGains_5 : decode cX7_readGains 5 = .ok (.ishl, 1) := by decide +kernel
theorem dX7_readGains_6 : decode cX7_readGains 6 = .ok (.iconst 1, 1) := by decide +kernel
theorem dX7_readGains_7 : decode cX7_readGains 7 = .ok (.isub, 1) := by decide +kernel
theorem dX7_readGains_8 : decode cX7_readGains 8 = .ok (.istore_n 2, 1) := by decide +kernel
theorem dX7_readGains_9 : decode cX7_readGains 9 = .ok (.iconst 0, 1) := by decide +kernel
theorem dX7_readGains_10 : decode cX7_readGains 10 = .ok (.istore_n 3, 1) := by decide +kernel
theorem dX7_readGains_11 : decode cX7_readGains 11 = .ok (.iload_n 3, 1) := by decide +kernel
theorem dX7_readGains_12 : decode cX7_readGains 12 = .ok (.aload_n 0, 1) := by decide +kernel
theorem dX7_readGains_13 : decode cX7_readGains 13 = .ok (.getfield 39, 3) := by decide +kernel
theorem dX7_readGains_16 : decode cX7_readGains 16 = .ok (.if_icmp .ge 97, 3) := by decide +kernel
theorem dX7_readGains_19 : decode cX7_readGains 19 = .ok (.iload_n 1, 1) := by decide +kernel
theorem dX7_readGains_20 : decode cX7_readGains 20 = .ok (.ifCond .ne 12, 3) := by decide +kernel
theorem dX7_readGains_23 : decode cX7_readGains 23 = .ok (.aload_n 0, 1) := by decide +kernel
theorem dX7_readGains_24 : decode cX7_readGains 24 = .ok (.getfield 24, 3) := by decide +kernel
theorem dX7_readGains_27 : decode cX7_readGains 27 = .ok (.iload_n 3, 1) := by decide +kernel
theorem dX7_readGains_28 : decode cX7_readGains 28 = .ok (.iaload, 1) := by decide +kernel
theorem dX7_readGains_29 : decode cX7_readGains 29 = .ok (.goto 4, 3) := by decide +kernel
theorem dX7_readGains_32 : decode cX7_readGains 32 = .ok (.iconst 0, 1) := by decide +kernel
theorem dX7_readGains_33 : decode cX7_readGains 33 = .ok (.istore 4, 2) := by decide +kernel
theorem dX7_readGains_35 : decode cX7_readGains 35 = .ok (.iload_n 1, 1) := by decide +kernel
theorem dX7_readGains_36 : decode cX7_readGains 36 = .ok (.iconst 1, 1) := by decide +kernel
theorem dX7_readGains_37 : decode cX7_readGains 37 = .ok (.iload_n 3, 1) := by decide +kernel
theorem dX7_readGains_38 : decode cX7_readGains 38 = .ok (.ishl, 1) := by decide +kernel
theorem dX7_readGains_39 : decode cX7_readGains 39 = .ok (.ior, 1) := by decide +kernel
theorem dX7_readGains_40 : decode cX7_readGains 40 = .ok (.iload_n 2, 1) := by decide +kernel
theorem dX7_readGains_41 : decode cX7_readGains 41 = .ok (.if_icmp .ne 14, 3) := by decide +kernel
theorem dX7_readGains_44 : decode cX7_readGains 44 = .ok (.iload 4, 2) := by decide +kernel
theorem dX7_readGains_46 : decode cX7_readGains 46 = .ok (.aload_n 0, 1) := by decide +kernel
theorem dX7_readGains_47 : decode cX7_readGains 47 = .ok (.getfield 27, 3) := by decide +kernel
theorem dX7_readGains_50 : decode cX7_readGains 50 = .ok (.iload_n 3, 1) := by decide +kernel
theorem dX7_readGains_51 : decode cX7_readGains 51 = .ok (.iaload, 1) := by decide +kernel
theorem dX7_readGains_52 : decode cX7_readGains 52 = .ok (.iadd, 1) := by decide +kernel
theorem dX7_readGains_53 : decode cX7_readGains 53 = .ok (.istore 4, 2) := by decide +kernel
theorem dX7_readGains_55 : decode cX7_readGains 55 = .ok (.iconst 0, 1) := by decide +kernel
theorem dX7_readGains_56 : decode cX7_readGains 56 = .ok (.istore 5, 2) := by decide +kernel
theorem dX7_readGains_58 : decode cX7_readGains 58 = .ok (.iload 5, 2) := by decide +kernel
theorem dX7_readGains_60 : decode cX7_readGains 60 = .ok (.aload_n 0, 1) := by decide +kernel
theorem dX7_readGains_61 : decode cX7_readGains 61 = .ok (.getfield 39, 3) := by decide +kernel
theorem dX7_readGains_64 : decode cX7_readGains 64 = .ok (.if_icmp .ge 35, 3) := by decide +kernel
theorem dX7_readGains_67 : decode cX7_readGains 67 = .ok (.iload_n 1, 1) := by decide +kernel
theorem dX7_readGains_68 : decode cX7_readGains 68 = .ok (.iload 5, 2) := by decide +kernel
theorem dX7_readGains_70 : decode cX7_readGains 70 = .ok (.ishr, 1) := by decide +kernel
theorem dX7_readGains_71 : decode cX7_readGains 71 = .ok (.iconst 1, 1) := by decide +kernel
theorem dX7_readGains_72 : decode cX7_readGains 72 = .ok (.iand, 1) := by decide +kernel
theorem dX7_readGains_73 : decode cX7_readGains 73 = .ok (.ifCond .eq 20, 3) := by decide +kernel
theorem dX7_readGains_76 : decode cX7_readGains 76 = .ok (.iload 4, 2) := by decide +kernel
theorem dX7_readGains_78 : decode cX7_readGains 78 = .ok (.aload_n 0, 1) := by decide +kernel
theorem dX7_readGains_79 : decode cX7_readGains 79 = .ok (.getfield 18, 3) := by decide +kernel
theorem dX7_readGains_82 : decode cX7_readGains 82 = .ok (.iload 5, 2) := by decide +kernel
theorem dX7_readGains_84 : decode cX7_readGains 84 = .ok (.bipush 8, 2) := by decide +kernel
theorem dX7_readGains_86 : decode cX7_readGains 86 = .ok (.imul, 1) := by decide +kernel
theorem dX7_readGains_87 : decode cX7_readGains 87 = .ok (.iload_n 3, 1) := by decide +kernel
theorem dX7_readGains_88 : decode cX7_readGains 88 = .ok (.iadd, 1) := by decide +kernel
theorem dX7_readGains_89 : decode cX7_readGains 89 = .ok (.iaload, 1) := by decide +kernel
theorem dX7_readGains_90 : decode cX7_readGains 90 = .ok (.iadd, 1) := by decide +kernel
theorem dX7_readGains_91 : decode cX7_readGains 91 = .ok (.istore 4, 2) := by decide +kernel
theorem dX7_readGains_93 : decode cX7_readGains 93 = .ok (.iinc 5 1, 3) := by decide +kernel
theorem dX7_readGains_96 : decode cX7_readGains 96 = .ok (.goto (-38), 3) := by decide +kernel
theorem dX7_readGains_99 : decode cX7_readGains 99 = .ok (.aload_n 0, 1) := by decide +kernel
theorem dX7_readGains_100 : decode cX7_readGains 100 = .ok (.getfield 30, 3) := by decide +kernel
theorem dX7_readGains_103 : decode cX7_readGains 103 = .ok (.iload_n 3, 1) := by decide +kernel
theorem dX7_readGains_104 : decode cX7_readGains 104 = .ok (.iload 4, 2) := by decide +kernel
theorem dX7_readGains_106 : decode cX7_readGains 106 = .ok (.iastore, 1) := by decide +kernel
theorem dX7_readGains_107 : decode cX7_readGains 107 = .ok (.iinc 3 1, 3) := by decide +kernel
theorem dX7_readGains_110 : decode cX7_readGains 110 = .ok (.goto (-99), 3) := by decide +kernel
theorem dX7_readGains_113 : decode cX7_readGains 113 = .ok (.return_, 1) := by decide +kernel
theorem dX7_weighState_0 : decode cX7_weighState 0 = .ok (.iconst 0, 1) := by decide +kernel
theorem dX7_weighState_1 : decode cX7_weighState 1 = .ok (.istore_n 3, 1) := by decide +kernel
theorem dX7_weighState_2 : decode cX7_weighState 2 = .ok (.iconst 0, 1) := by decide +kernel
theorem dX7_weighState_3 : decode cX7_weighState 3 = .ok (.istore 4, 2) := by decide +kernel
theorem dX7_weighState_5 : decode cX7_weighState 5 = .ok (.iload 4, 2) := by decide +kernel
theorem dX7_weighState_7 : decode cX7_weighState 7 = .ok (.aload_n 0, 1) := by decide +kernel
theorem dX7_weighState_8 : decode cX7_weighState 8 = .ok (.getfield 39, 3) := by decide +kernel
theorem dX7_weighState_11 : decode cX7_weighState 11 = .ok (.if_icmp .ge 31, 3) := by decide +kernel
theorem dX7_weighState_14 : decode cX7_weighState 14 = .ok (.iload_n 1, 1) := by decide +kernel
theorem dX7_weighState_15 : decode cX7_weighState 15 = .ok (.iload 4, 2) := by decide +kernel
theorem dX7_weighState_17 : decode cX7_weighState 17 = .ok (.ishr, 1) := by decide +kernel
theorem dX7_weighState_18 : decode cX7_weighState 18 = .ok (.iconst 1, 1) := by decide +kernel
theorem dX7_weighState_19 : decode cX7_weighState 19 = .ok (.iand, 1) := by decide +kernel
theorem dX7_weighState_20 : decode cX7_weighState 20 = .ok (.ifCond .ne 16, 3) := by decide +kernel
theorem dX7_weighState_23 : decode cX7_weighState 23 = .ok (.iload_n 3, 1) := by decide +kernel
theorem dX7_weighState_24 : decode cX7_weighState 24 = .ok (.aload_n 0, 1) := by decide +kernel
theorem dX7_weighState_25 : decode cX7_weighState 25 = .ok (.iload_n 1, 1) := by decide +kernel
theorem dX7_weighState_26 : decode cX7_weighState 26 = .ok (.iload_n 2, 1) := by decide +kernel
theorem dX7_weighState_27 : decode cX7_weighState 27 = .ok (.iload 4, 2) := by decide +kernel
theorem dX7_weighState_29 : decode cX7_weighState 29 = .ok (.invokevirtual 96, 3) := by decide +kernel
theorem dX7_weighState_32 : decode cX7_weighState 32 = .ok (.invokestatic 100, 3) := by decide +kernel
theorem dX7_weighState_35 : decode cX7_weighState 35 = .ok (.istore_n 3, 1) := by decide +kernel
theorem dX7_weighState_36 : decode cX7_weighState 36 = .ok (.iinc 4 1, 3) := by decide +kernel
theorem dX7_weighState_39 : decode cX7_weighState 39 = .ok (.goto (-34), 3) := by decide +kernel
theorem dX7_weighState_42 : decode cX7_weighState 42 = .ok (.iload_n 3, 1) := by decide +kernel
theorem dX7_weighState_43 : decode cX7_weighState 43 = .ok (.ireturn, 1) := by decide +kernel
theorem dX7_valueOf_0 : decode cX7_valueOf 0 = .ok (.aload_n 0, 1) := by decide +kernel
theorem dX7_valueOf_1 : decode cX7_valueOf 1 = .ok (.getfield 30, 3) := by decide +kernel
theorem dX7_valueOf_4 : decode cX7_valueOf 4 = .ok (.iload_n 3, 1) := by decide +kernel
theorem dX7_valueOf_5 : decode cX7_valueOf 5 = .ok (.iaload, 1) := by decide +kernel
theorem dX7_valueOf_6 : decode cX7_valueOf 6 = .ok (.aload_n 0, 1) := by decide +kernel
theorem dX7_valueOf_7 : decode cX7_valueOf 7 = .ok (.getfield 33, 3) := by decide +kernel
theorem dX7_valueOf_10 : decode cX7_valueOf 10 = .ok (.iload_n 1, 1) := by decide +kernel
theorem dX7_valueOf_11 : decode cX7_valueOf 11 = .ok (.iconst 1, 1) := by decide +kernel
theorem dX7_valueOf_12 : decode cX7_valueOf 12 = .ok (.iload_n 3, 1) := by decide +kernel
theorem dX7_valueOf_13 : decode cX7_valueOf 13 = .ok (.ishl, 1) := by decide +kernel
theorem dX7_valueOf_14 : decode cX7_valueOf 14 = .ok (.ior, 1) := by decide +kernel
theorem dX7_valueOf_15 : decode cX7_valueOf 15 = .ok (.bipush 8, 2) := by decide +kernel
theorem dX7_valueOf_17 : decode cX7_valueOf 17 = .ok (.imul, 1) := by decide +kernel
theorem dX7_valueOf_18 : decode cX7_valueOf 18 = .ok (.iload_n 3, 1) := by decide +kernel
theorem dX7_valueOf_19 : decode cX7_valueOf 19 = .ok (.iadd, 1) := by decide +kernel
theorem dX7_valueOf_20 : decode cX7_valueOf 20 = .ok (.iaload, 1) := by decide +kernel
theorem dX7_valueOf_21 : decode cX7_valueOf 21 = .ok (.iadd, 1) := by decide +kernel
theorem dX7_valueOf_22 : decode cX7_valueOf 22 = .ok (.istore 4, 2) := by decide +kernel
theorem dX7_valueOf_24 : decode cX7_valueOf 24 = .ok (.iload_n 1, 1) := by decide +kernel
theorem dX7_valueOf_25 : decode cX7_valueOf 25 = .ok (.ifCond .ne 8, 3) := by decide +kernel
theorem dX7_valueOf_28 : decode cX7_valueOf 28 = .ok (.iload 4, 2) := by decide +kernel
theorem dX7_valueOf_30 : decode cX7_valueOf 30 = .ok (.goto 17, 3) := by decide +kernel
theorem dX7_valueOf_33 : decode cX7_valueOf 33 = .ok (.iload 4, 2) := by decide +kernel
theorem dX7_valueOf_35 : decode cX7_valueOf 35 = .ok (.aload_n 0, 1) := by decide +kernel
theorem dX7_valueOf_36 : decode cX7_valueOf 36 = .ok (.getfield 21, 3) := by decide +kernel
theorem dX7_valueOf_39 : decode cX7_valueOf 39 = .ok (.iload_n 2, 1) := by decide +kernel
theorem dX7_valueOf_40 : decode cX7_valueOf 40 = .ok (.bipush 8, 2) := by decide +kernel
theorem dX7_valueOf_42 : decode cX7_valueOf 42 = .ok (.imul, 1) := by decide +kernel
theorem dX7_valueOf_43 : decode cX7_valueOf 43 = .ok (.iload_n 3, 1) := by decide +kernel
theorem dX7_valueOf_44 : decode cX7_valueOf 44 = .ok (.iadd, 1) := by decide +kernel
theorem dX7_valueOf_45 : decode cX7_valueOf 45 = .ok (.iaload, 1) := by decide +kernel
theorem dX7_valueOf_46 : decode cX7_valueOf 46 = .ok (.iadd, 1) := by decide +kernel
theorem dX7_valueOf_47 : decode cX7_valueOf 47 = .ok (.ireturn, 1) := by decide +kernel
theorem dX7_tellRow_0 : decode cX7_tellRow 0 = .ok (.iconst 0, 1) := by decide +kernel
theorem dX7_tellRow_1 : decode cX7_tellRow 1 = .ok (.istore_n 1, 1) := by decide +kernel
theorem dX7_tellRow_2 : decode cX7_tellRow 2 = .ok (.iconst 0, 1) := by decide +kernel
theorem dX7_tellRow_3 : decode cX7_tellRow 3 = .ok (.istore_n 2, 1) := by decide +kernel
theorem dX7_tellRow_4 : decode cX7_tellRow 4 = .ok (.iconst 0, 1) := by decide +kernel
theorem dX7_tellRow_5 : decode cX7_tellRow 5 = .ok (.istore_n 3, 1) := by decide +kernel
theorem dX7_tellRow_6 : decode cX7_tellRow 6 = .ok (.iload_n 3, 1) := by decide +kernel
theorem dX7_tellRow_7 : decode cX7_tellRow 7 = .ok (.aload_n 0, 1) := by decide +kernel
theorem dX7_tellRow_8 : decode cX7_tellRow 8 = .ok (.getfield 39, 3) := by decide +kernel
theorem dX7_tellRow_11 : decode cX7_tellRow 11 = .ok (.if_icmp .ge 45, 3) := by decide +kernel
theorem dX7_tellRow_14 : decode cX7_tellRow 14 = .ok (.aload_n 0, 1) := by decide +kernel
theorem dX7_tellRow_15 : decode cX7_tellRow 15 = .ok (.iload_n 1, 1) := by decide +kernel
theorem dX7_tellRow_16 : decode cX7_tellRow 16 = .ok (.invokevirtual 89, 3) := by decide +kernel
theorem dX7_tellRow_19 : decode cX7_tellRow 19 = .ok (.aload_n 0, 1) := by decide +kernel
theorem dX7_tellRow_20 : decode cX7_tellRow 20 = .ok (.iload_n 1, 1) := by decide +kernel
theorem dX7_tellRow_21 : decode cX7_tellRow 21 = .ok (.iload_n 2, 1) := by decide +kernel
theorem dX7_tellRow_22 : decode cX7_tellRow 22 = .ok (.invokevirtual 105, 3) := by decide +kernel
theorem dX7_tellRow_25 : decode cX7_tellRow 25 = .ok (.istore 4, 2) := by decide +kernel
theorem dX7_tellRow_27 : decode cX7_tellRow 27 = .ok (.aload_n 0, 1) := by decide +kernel
theorem dX7_tellRow_28 : decode cX7_tellRow 28 = .ok (.getfield 36, 3) := by decide +kernel
theorem dX7_tellRow_31 : decode cX7_tellRow 31 = .ok (.iload_n 3, 1) := by decide +kernel
theorem dX7_tellRow_32 : decode cX7_tellRow 32 = .ok (.aload_n 0, 1) := by decide +kernel
theorem dX7_tellRow_33 : decode cX7_tellRow 33 = .ok (.getfield 9, 3) := by decide +kernel
theorem dX7_tellRow_36 : decode cX7_tellRow 36 = .ok (.iload 4, 2) := by decide +kernel
theorem dX7_tellRow_38 : decode cX7_tellRow 38 = .ok (.iaload, 1) := by decide +kernel
theorem dX7_tellRow_39 : decode cX7_tellRow 39 = .ok (.iastore, 1) := by decide +kernel
theorem dX7_tellRow_40 : decode cX7_tellRow 40 = .ok (.iload_n 1, 1) := by decide +kernel
theorem dX7_tellRow_41 : decode cX7_tellRow 41 = .ok (.iconst 1, 1) := by decide +kernel
theorem dX7_tellRow_42 : decode cX7_tellRow 42 = .ok (.iload 4, 2) := by decide +kernel
theorem dX7_tellRow_44 : decode cX7_tellRow 44 = .ok (.ishl, 1) := by decide +kernel
theorem dX7_tellRow_45 : decode cX7_tellRow 45 = .ok (.ior, 1) := by decide +kernel
theorem dX7_tellRow_46 : decode cX7_tellRow 46 = .ok (.istore_n 1, 1) := by decide +kernel
theorem dX7_tellRow_47 : decode cX7_tellRow 47 = .ok (.iload 4, 2) := by decide +kernel
theorem dX7_tellRow_49 : decode cX7_tellRow 49 = .ok (.istore_n 2, 1) := by decide +kernel
theorem dX7_tellRow_50 : decode cX7_tellRow 50 = .ok (.iinc 3 1, 3) := by decide +kernel
theorem dX7_tellRow_53 : decode cX7_tellRow 53 = .ok (.goto (-47), 3) := by decide +kernel
theorem dX7_tellRow_56 : decode cX7_tellRow 56 = .ok (.return_, 1) := by decide +kernel
theorem dX7_firstBest_0 : decode cX7_firstBest 0 = .ok (.aload_n 0, 1) := by decide +kernel
theorem dX7_firstBest_1 : decode cX7_firstBest 1 = .ok (.iload_n 1, 1) := by decide +kernel
theorem dX7_firstBest_2 : decode cX7_firstBest 2 = .ok (.iload_n 2, 1) := by decide +kernel
theorem dX7_firstBest_3 : decode cX7_firstBest 3 = .ok (.invokevirtual 92, 3) := by decide +kernel
theorem dX7_firstBest_6 : decode cX7_firstBest 6 = .ok (.istore_n 3, 1) := by decide +kernel
theorem dX7_firstBest_7 : decode cX7_firstBest 7 = .ok (.iconst 0, 1) := by decide +kernel
theorem dX7_firstBest_8 : decode cX7_firstBest 8 = .ok (.istore 4, 2) := by decide +kernel
theorem dX7_firstBest_10 : decode cX7_firstBest 10 = .ok (.iload 4, 2) := by decide +kernel
theorem dX7_firstBest_12 : decode cX7_firstBest 12 = .ok (.aload_n 0, 1) := by decide +kernel
theorem dX7_firstBest_13 : decode cX7_firstBest 13 = .ok (.getfield 39, 3) := by decide +kernel
theorem dX7_firstBest_16 : decode cX7_firstBest 16 = .ok (.if_icmp .ge 33, 3) := by decide +kernel
theorem dX7_firstBest_19 : decode cX7_firstBest 19 = .ok (.iload_n 1, 1) := by decide +kernel
theorem dX7_firstBest_20 : decode cX7_firstBest 20 = .ok (.iload 4, 2) := by decide +kernel
theorem dX7_firstBest_22 : decode cX7_firstBest 22 = .ok (.ishr, 1) := by decide +kernel
theorem dX7_firstBest_23 : decode cX7_firstBest 23 = .ok (.iconst 1, 1) := by decide +kernel
theorem dX7_firstBest_24 : decode cX7_firstBest 24 = .ok (.iand, 1) := by decide +kernel
theorem dX7_firstBest_25 : decode cX7_firstBest 25 = .ok (.ifCond .ne 18, 3) := by decide +kernel
theorem dX7_firstBest_28 : decode cX7_firstBest 28 = .ok (.aload_n 0, 1) := by decide +kernel
theorem dX7_firstBest_29 : decode cX7_firstBest 29 = .ok (.iload_n 1, 1) := by decide +kernel
theorem dX7_firstBest_30 : decode cX7_firstBest 30 = .ok (.iload_n 2, 1) := by decide +kernel
theorem dX7_firstBest_31 : decode cX7_firstBest 31 = .ok (.iload 4, 2) := by decide +kernel
theorem dX7_firstBest_33 : decode cX7_firstBest 33 = .ok (.invokevirtual 96, 3) := by decide +kernel
theorem dX7_firstBest_36 : decode cX7_firstBest 36 = .ok (.iload_n 3, 1) := by decide +kernel
theorem dX7_firstBest_37 : decode cX7_firstBest 37 = .ok (.if_icmp .ne 6, 3) := by decide +kernel
theorem dX7_firstBest_40 : decode cX7_firstBest 40 = .ok (.iload 4, 2) := by decide +kernel
theorem dX7_firstBest_42 : decode cX7_firstBest 42 = .ok (.ireturn, 1) := by decide +kernel
theorem dX7_firstBest_43 : decode cX7_firstBest 43 = .ok (.iinc 4 1, 3) := by decide +kernel
theorem dX7_firstBest_46 : decode cX7_firstBest 46 = .ok (.goto (-36), 3) := by decide +kernel
theorem dX7_firstBest_49 : decode cX7_firstBest 49 = .ok (.iconst 0, 1) := by decide +kernel
theorem dX7_firstBest_50 : decode cX7_firstBest 50 = .ok (.ireturn, 1) := by decide +kernel
theorem dX8_init_0 : decode cX8_init 0 = .ok (.aload_n 0, 1) := by decide +kernel
theorem dX8_init_1 : decode cX8_init 1 = .ok (.invokespecial 3, 3) := by decide +kernel
theorem dX8_init_4 : decode cX8_init 4 = .ok (.aload_n 0, 1) := by decide +kernel
theorem dX8_init_5 : decode cX8_init 5 = .ok (.aconst_null, 1) := by decide +kernel
theorem dX8_init_6 : decode cX8_init 6 = .ok (.putfield 9, 3) := by decide +kernel
theorem dX8_init_9 : decode cX8_init 9 = .ok (.aload_n 0, 1) := by decide +kernel
theorem dX8_init_10 : decode cX8_init 10 = .ok (.aconst_null, 1) := by decide +kernel
theorem dX8_init_11 : decode cX8_init 11 = .ok (.putfield 13, 3) := by decide +kernel
theorem dX8_init_14 : decode cX8_init 14 = .ok (.aload_n 0, 1) := by decide +kernel
theorem dX8_init_15 : decode cX8_init 15 = .ok (.new 17, 3) := by decide +kernel
theorem dX8_init_18 : decode cX8_init 18 = .ok (.dup, 1) := by decide +kernel
theorem dX8_init_19 : decode cX8_init 19 = .ok (.invokespecial 19, 3) := by decide +kernel
theorem dX8_init_22 : decode cX8_init 22 = .ok (.putfield 20, 3) := by decide +kernel
theorem dX8_init_25 : decode cX8_init 25 = .ok (.aload_n 0, 1) := by decide +kernel
theorem dX8_init_26 : decode cX8_init 26 = .ok (.bipush 16, 2) := by decide +kernel
theorem dX8_init_28 : decode cX8_init 28 = .ok (.anewarray 24, 3) := by decide +kernel
theorem dX8_init_31 : decode cX8_init 31 = .ok (.putfield 26, 3) := by decide +kernel
theorem dX8_init_34 : decode cX8_init 34 = .ok (.iconst 0, 1) := by decide +kernel
theorem dX8_init_35 : decode cX8_init 35 = .ok (.istore_n 1, 1) := by decide +kernel
theorem dX8_init_36 : decode cX8_init 36 = .ok (.iload_n 1, 1) := by decide +kernel
theorem dX8_init_37 : decode cX8_init 37 = .ok (.aload_n 0, 1) := by decide +kernel
theorem dX8_init_38 : decode cX8_init 38 = .ok (.getfield 26, 3) := by decide +kernel
theorem dX8_init_41 : decode cX8_init 41 = .ok (.arraylength, 1) := by decide +kernel
theorem dX8_init_42 : decode cX8_init 42 = .ok (.if_icmp .ge 22, 3) := by decide +kernel
theorem dX8_init_45 : decode cX8_init 45 = .ok (.aload_n 0, 1) := by decide +kernel
theorem dX8_init_46 : decode cX8_init 46 = .ok (.getfield 26, 3) := by decide +kernel
theorem dX8_init_49 : decode cX8_init 49 = .ok (.iload_n 1, 1) := by decide +kernel
theorem dX8_init_50 : decode cX8_init 50 = .ok (.new 24, 3) := by decide +kernel
theorem dX8_init_53 : decode cX8_init 53 = .ok (.dup, 1) := by decide +kernel
theorem dX8_init_54 : decode cX8_init 54 = .ok (.invokespecial 30, 3) := by decide +kernel
theorem dX8_init_57 : decode cX8_init 57 = .ok (.aastore, 1) := by decide +kernel
theorem dX8_init_58 : decode cX8_init 58 = .ok (.iinc 1 1, 3) := by decide +kernel
theorem dX8_init_61 : decode cX8_init 61 = .ok (.goto (-25), 3) := by decide +kernel
theorem dX8_init_64 : decode cX8_init 64 = .ok (.aload_n 0, 1) := by decide +kernel
theorem dX8_init_65 : decode cX8_init 65 = .ok (.new 31, 3) := by decide +kernel
theorem dX8_init_68 : decode cX8_init 68 = .ok (.dup, 1) := by decide +kernel
theorem dX8_init_69 : decode cX8_init 69 = .ok (.invokespecial 33, 3) := by decide +kernel
theorem dX8_init_72 : decode cX8_init 72 = .ok (.putfield 34, 3) := by decide +kernel
theorem dX8_init_75 : decode cX8_init 75 = .ok (.aload_n 0, 1) := by decide +kernel
theorem dX8_init_76 : decode cX8_init 76 = .ok (.new 31, 3) := by decide +kernel
theorem dX8_init_79 : decode cX8_init 79 = .ok (.dup, 1) := by decide +kernel
theorem dX8_init_80 : decode cX8_init 80 = .ok (.invokespecial 33, 3) := by decide +kernel
theorem dX8_init_83 : decode cX8_init 83 = .ok (.putfield 38, 3) := by decide +kernel
theorem dX8_init_86 : decode cX8_init 86 = .ok (.aload_n 0, 1) := by decide +kernel
theorem dX8_init_87 : decode cX8_init 87 = .ok (.new 41, 3) := by decide +kernel
theorem dX8_init_90 : decode cX8_init 90 = .ok (.dup, 1) := by decide +kernel
theorem dX8_init_91 : decode cX8_init 91 = .ok (.invokespecial 43, 3) := by decide +kernel
theorem dX8_init_94 : decode cX8_init 94 = .ok (.putfield 44, 3) := by decide +kernel
theorem dX8_init_97 : decode cX8_init 97 = .ok (.aload_n 0, 1) := by decide +kernel
theorem dX8_init_98 : decode cX8_init 98 = .ok (.new 48, 3) := by decide +kernel
theorem dX8_init_101 : decode cX8_init 101 = .ok (.dup, 1) := by decide +kernel
theorem dX8_init_102 : decode cX8_init 102 = .ok (.invokespecial 50, 3) := by decide +kernel
theorem dX8_init_105 : decode cX8_init 105 = .ok (.putfield 51, 3) := by decide +kernel
theorem dX8_init_108 : decode cX8_init 108 = .ok (.aload_n 0, 1) := by decide +kernel
theorem dX8_init_109 : decode cX8_init 109 = .ok (.new 55, 3) := by decide +kernel
theorem dX8_init_112 : decode cX8_init 112 = .ok (.dup, 1) := by decide +kernel
theorem dX8_init_113 : decode cX8_init 113 = .ok (.invokespecial 57, 3) := by decide +kernel
theorem dX8_init_116 : decode cX8_init 116 = .ok (.putfield 58, 3) := by decide +kernel
theorem dX8_init_119 : decode cX8_init 119 = .ok (.aload_n 0, 1) := by decide +kernel
theorem dX8_init_120 : decode cX8_init 120 = .ok (.bipush 7, 2) := by decide +kernel
theorem dX8_init_122 : decode cX8_init 122 = .ok (.newarray .int, 2) := by decide +kernel
theorem dX8_init_124 : decode cX8_init 124 = .ok (.putfield 62, 3) := by decide +kernel
theorem dX8_init_127 : decode cX8_init 127 = .ok (.return_, 1) := by decide +kernel
theorem dX8_means_0 : decode cX8_means 0 = .ok (.iload_n 1, 1) := by decide +kernel
theorem dX8_means_1 : decode cX8_means 1 = .ok (.invokestatic 66, 3) := by decide +kernel
theorem dX8_means_4 : decode cX8_means 4 = .ok (.ifCond .eq 10, 3) := by decide +kernel
theorem dX8_means_7 : decode cX8_means 7 = .ok (.iload_n 2, 1) := by decide +kernel
theorem dX8_means_8 : decode cX8_means 8 = .ok (.invokestatic 66, 3) := by decide +kernel
theorem dX8_means_11 : decode cX8_means 11 = .ok (.ifCond .ne 9, 3) := by decide +kernel
theorem dX8_means_14 : decode cX8_means 14 = .ok (.aload_n 0, 1) := by decide +kernel
theorem dX8_means_15 : decode cX8_means 15 = .ok (.iconst (-1), 1) := by decide +kernel
theorem dX8_means_16 : decode cX8_means 16 = .ok (.invokevirtual 70, 3) := by decide +kernel
theorem dX8_means_19 : decode cX8_means 19 = .ok (.ireturn, 1) := by decide +kernel
theorem dX8_means_20 : decode cX8_means 20 = .ok (.iload_n 2, 1) := by decide +kernel
theorem dX8_means_21 : decode cX8_means 21 = .ok (.iload_n 1, 1) := by decide +kernel
theorem dX8_means_22 : decode cX8_means 22 = .ok (.if_icmp .le 10, 3) := by decide +kernel
theorem dX8_means_25 : decode cX8_means 25 = .ok (.aload_n 0, 1) := by decide +kernel
theorem dX8_means_26 : decode cX8_means 26 = .ok (.bipush (-4), 2) := by decide +kernel
theorem dX8_means_28 : decode cX8_means 28 = .ok (.invokevirtual 70, 3) := by decide +kernel
theorem dX8_means_31 : decode cX8_means 31 = .ok (.ireturn, 1) := by decide +kernel
theorem dX8_means_32 : decode cX8_means 32 = .ok (.aload_n 0, 1) := by decide +kernel
theorem dX8_means_33 : decode cX8_means 33 = .ok (.getfield 20, 3) := by decide +kernel
theorem dX8_means_36 : decode cX8_means 36 = .ok (.iload_n 1, 1) := by decide +kernel
theorem dX8_means_37 : decode cX8_means 37 = .ok (.iload_n 2, 1) := by decide +kernel
theorem dX8_means_38 : decode cX8_means 38 = .ok (.invokevirtual 74, 3) := by decide +kernel
theorem dX8_means_41 : decode cX8_means 41 = .ok (.ireturn, 1) := by decide +kernel
theorem dX8_sense_0 : decode cX8_sense 0 = .ok (.iload_n 1, 1) := by decide +kernel
theorem dX8_sense_1 : decode cX8_sense 1 = .ok (.invokestatic 66, 3) := by decide +kernel
theorem dX8_sense_4 : decode cX8_sense 4 = .ok (.ifCond .ne 9, 3) := by decide +kernel
theorem dX8_sense_7 : decode cX8_sense 7 = .ok (.aload_n 0, 1) := by decide +kernel
theorem dX8_sense_8 : decode cX8_sense 8 = .ok (.iconst (-1), 1) := by decide +kernel
theorem dX8_sense_9 : decode cX8_sense 9 = .ok (.invokevirtual 70, 3) := by decide +kernel
theorem dX8_sense_12 : decode cX8_sense 12 = .ok (.ireturn, 1) := by decide +kernel
theorem dX8_sense_13 : decode cX8_sense 13 = .ok (.aload_n 0, 1) := by decide +kernel
theorem dX8_sense_14 : decode cX8_sense 14 = .ok (.getfield 20, 3) := by decide +kernel
theorem dX8_sense_17 : decode cX8_sense 17 = .ok (.getfield 78, 3) := by decide +kernel
theorem dX8_sense_20 : decode cX8_sense 20 = .ok (.iload_n 1, 1) := by decide +kernel
theorem dX8_sense_21 : decode cX8_sense 21 = .ok (.iaload, 1) := by decide +kernel
theorem dX8_sense_22 : decode cX8_sense 22 = .ok (.ireturn, 1) := by decide +kernel
theorem dX8_year_0 : decode cX8_year 0 = .ok (.iload_n 1, 1) := by decide +kernel
theorem dX8_year_1 : decode cX8_year 1 = .ok (.invokestatic 81, 3) := by decide +kernel
theorem dX8_year_4 : decode cX8_year 4 = .ok (.ifCond .ne 9, 3) := by decide +kernel
theorem dX8_year_7 : decode cX8_year 7 = .ok (.aload_n 0, 1) := by decide +kernel
theorem dX8_year_8 : decode cX8_year 8 = .ok (.iconst (-1), 1) := by decide +kernel
theorem dX8_year_9 : decode cX8_year 9 = .ok (.invokevirtual 70, 3) := by decide +kernel
theorem dX8_year_12 : decode cX8_year 12 = .ok (.ireturn, 1) := by decide +kernel
theorem dX8_year_13 : decode cX8_year 13 = .ok (.iload_n 2, 1) := by decide +kernel
theorem dX8_year_14 : decode cX8_year 14 = .ok (.sipush 1500, 3) := by decide +kernel
theorem dX8_year_17 : decode cX8_year 17 = .ok (.if_icmp .ge 10, 3) := by decide +kernel
theorem dX8_year_20 : decode cX8_year 20 = .ok (.aload_n 0, 1) := by decide +kernel
theorem dX8_year_21 : decode cX8_year 21 = .ok (.bipush (-4), 2) := by decide +kernel
theorem dX8_year_23 : decode cX8_year 23 = .ok (.invokevirtual 70, 3) := by decide +kernel
theorem dX8_year_26 : decode cX8_year 26 = .ok (.ireturn, 1) := by decide +kernel
theorem dX8_year_27 : decode cX8_year 27 = .ok (.iload_n 2, 1) := by decide +kernel
theorem dX8_year_28 : decode cX8_year 28 = .ok (.sipush 1900, 3) := by decide +kernel
theorem dX8_year_31 : decode cX8_year 31 = .ok (.if_icmp .le 10, 3) := by decide +kernel
theorem dX8_year_34 : decode cX8_year 34 = .ok (.aload_n 0, 1) := by decide +kernel
theorem dX8_year_35 : decode cX8_year 35 = .ok (.bipush (-6), 2) := by decide +kernel
theorem dX8_year_37 : decode cX8_year 37 = .ok (.invokevirtual 70, 3) := by decide +kernel
theorem dX8_year_40 : decode cX8_year 40 = .ok (.ireturn, 1) := by decide +kernel
theorem dX8_year_41 : decode cX8_year 41 = .ok (.aload_n 0, 1) := by decide +kernel
theorem dX8_year_42 : decode cX8_year 42 = .ok (.getfield 20, 3) := by decide +kernel
theorem dX8_year_45 : decode cX8_year 45 = .ok (.iload_n 1, 1) := by decide +kernel
theorem dX8_year_46 : decode cX8_year 46 = .ok (.iload_n 2, 1) := by decide +kernel
theorem dX8_year_47 : decode cX8_year 47 = .ok (.invokevirtual 84, 3) := by decide +kernel
theorem dX8_year_50 : decode cX8_year 50 = .ok (.ireturn, 1) := by decide +kernel
theorem dX8_entry_0 : decode cX8_entry 0 = .ok (.iload_n 1, 1) := by decide +kernel
theorem dX8_entry_1 : decode cX8_entry 1 = .ok (.invokestatic 81, 3) := by decide +kernel
theorem dX8_entry_4 : decode cX8_entry 4 = .ok (.ifCond .eq 12, 3) := by decide +kernel
theorem dX8_entry_7 : decode cX8_entry 7 = .ok (.iload_n 2, 1) := by decide +kernel
theorem dX8_entry_8 : decode cX8_entry 8 = .ok (.bipush 20, 2) := by decide +kernel
theorem dX8_entry_10 : decode cX8_entry 10 = .ok (.invokestatic 87, 3) := by decide +kernel
theorem dX8_entry_13 : decode cX8_entry 13 = .ok (.ifCond .eq 9, 3) := by decide +kernel
theorem dX8_entry_16 : decode cX8_entry 16 = .ok (.aload_n 0, 1) := by decide +kernel
theorem dX8_entry_17 : decode cX8_entry 17 = .ok (.iconst (-1), 1) := by decide +kernel
theorem dX8_entry_18 : decode cX8_entry 18 = .ok (.invokevirtual 70, 3) := by decide +kernel
theorem dX8_entry_21 : decode cX8_entry 21 = .ok (.ireturn, 1) := by decide +kernel
theorem dX8_entry_22 : decode cX8_entry 22 = .ok (.iload_n 2, 1) := by decide +kernel
theorem dX8_entry_23 : decode cX8_entry 23 = .ok (.ifCond .eq 18, 3) := by decide +kernel
theorem dX8_entry_26 : decode cX8_entry 26 = .ok (.iload_n 3, 1) := by decide +kernel
theorem dX8_entry_27 : decode cX8_entry 27 = .ok (.iconst 1, 1) := by decide +kernel
theorem dX8_entry_28 : decode cX8_entry 28 = .ok (.if_icmp .lt 13, 3) := by decide +kernel
theorem dX8_entry_31 : decode cX8_entry 31 = .ok (.iload 4, 2) := by decide +kernel
theorem dX8_entry_33 : decode cX8_entry 33 = .ok (.ifCond .lt 8, 3) := by decide +kernel
theorem dX8_entry_36 : decode cX8_entry 36 = .ok (.iload 5, 2) := by decide +kernel
theorem dX8_entry_38 : decode cX8_entry 38 = .ok (.ifCond .ge 10, 3) := by decide +kernel
theorem dX8_entry_41 : decode cX8_entry 41 = .ok (.aload_n 0, 1) := by decide +kernel
theorem dX8_entry_42 : decode cX8_entry 42 = .ok (.bipush (-4), 2) := by decide +kernel
theorem dX8_entry_44 : decode cX8_entry 44 = .ok (.invokevirtual 70, 3) := by decide +kernel
theorem dX8_entry_47 : decode cX8_entry 47 = .ok (.ireturn, 1) := by decide +kernel
theorem dX8_entry_48 : decode cX8_entry 48 = .ok (.iload_n 3, 1) := by decide +kernel
theorem dX8_entry_49 : decode cX8_entry 49 = .ok (.sipush 200, 3) := by decide +kernel
theorem dX8_entry_52 : decode cX8_entry 52 = .ok (.if_icmp .gt 31, 3) := by decide +kernel
theorem dX8_entry_55 : decode cX8_entry 55 = .ok (.iload 4, 2) := by decide +kernel
theorem dX8_entry_57 : decode cX8_entry 57 = .ok (.bipush 9, 2) := by decide +kernel
theorem dX8_entry_59 : decode cX8_entry 59 = .ok (.if_icmp .gt 24, 3) := by decide +kernel
theorem dX8_entry_62 : decode cX8_entry 62 = .ok (.iload 5, 2) := by decide +kernel
theorem dX8_entry_64 : decode cX8_entry 64 = .ok (.bipush 99, 2) := by decide +kernel
theorem dX8_entry_66 : decode cX8_entry 66 = .ok (.if_icmp .gt 17, 3) := by decide +kernel
theorem dX8_entry_69 : decode cX8_entry 69 = .ok (.aload_n 0, 1) := by decide +kernel
theorem dX8_entry_70 : decode cX8_entry 70 = .ok (.getfield 20, 3) := by decide +kernel
theorem dX8_entry_73 : decode cX8_entry 73 = .ok (.getfield 91, 3) := by decide +kernel
theorem dX8_entry_76 : decode cX8_entry 76 = .ok (.iload_n 1, 1) := by decide +kernel
theorem dX8_entry_77 : decode cX8_entry 77 = .ok (.iaload, 1) := by decide +kernel
theorem dX8_entry_78 : decode cX8_entry 78 = .ok (.bipush 10, 2) := by decide +kernel
theorem dX8_entry_80 : decode cX8_entry 80 = .ok (.if_icmp .lt 10, 3) := by decide +kernel
theorem dX8_entry_83 : decode cX8_entry 83 = .ok (.aload_n 0, 1) := by decide +kernel
theorem dX8_entry_84 : decode cX8_entry 84 = .ok (.bipush (-6), 2) := by decide +kernel
theorem dX8_entry_86 : decode cX8_entry 86 = .ok (.invokevirtual 70, 3) := by decide +kernel
theorem dX8_entry_89 : decode cX8_entry 89 = .ok (.ireturn, 1) := by decide +kernel
theorem dX8_entry_90 : decode cX8_entry 90 = .ok (.aload_n 0, 1) := by decide +kernel
theorem dX8_entry_91 : decode cX8_entry 91 = .ok (.getfield 20, 3) := by decide +kernel
theorem dX8_entry_94 : decode cX8_entry 94 = .ok (.iload_n 1, 1) := by decide +kernel
theorem dX8_entry_95 : decode cX8_entry 95 = .ok (.iload_n 2, 1) := by decide +kernel
theorem dX8_entry_96 : decode cX8_entry 96 = .ok (.iload_n 3, 1) := by decide +kernel
theorem dX8_entry_97 : decode cX8_entry 97 = .ok (.iload 4, 2) := by decide +kernel
theorem dX8_entry_99 : decode cX8_entry 99 = .ok (.iload 5, 2) := by decide +kernel
theorem dX8_entry_101 : decode cX8_entry 101 = .ok (.invokevirtual 94, 3) := by decide +kernel
theorem dX8_entry_104 : decode cX8_entry 104 = .ok (.ireturn, 1) := by decide +kernel
theorem dX8_set_0 : decode cX8_set 0 = .ok (.iload_n 1, 1) := by decide +kernel
theorem dX8_set_1 : decode cX8_set 1 = .ok (.ifCond .eq 15, 3) := by decide +kernel
theorem dX8_set_4 : decode cX8_set 4 = .ok (.iload_n 1, 1) := by decide +kernel
theorem dX8_set_5 : decode cX8_set 5 = .ok (.iconst 1, 1) := by decide +kernel
theorem dX8_set_6 : decode cX8_set 6 = .ok (.if_icmp .eq 10, 3) := by decide +kernel
theorem dX8_set_9 : decode cX8_set 9 = .ok (.aload_n 0, 1) := by decide +kernel
theorem dX8_set_10 : decode cX8_set 10 = .ok (.bipush (-2), 2) := by decide +kernel
theorem dX8_set_12 : decode cX8_set 12 = .ok (.invokevirtual 70, 3) := by decide +kernel
theorem dX8_set_15 : decode cX8_set 15 = .ok (.ireturn, 1) := by decide +kernel
theorem dX8_set_16 : decode cX8_set 16 = .ok (.iload_n 2, 1) := by decide +kernel
theorem dX8_set_17 : decode cX8_set 17 = .ok (.ifCond .ge 10, 3) := by decide +kernel
theorem dX8_set_20 : decode cX8_set 20 = .ok (.aload_n 0, 1) := by decide +kernel
theorem dX8_set_21 : decode cX8_set 21 = .ok (.bipush (-4), 2) := by decide +kernel
theorem dX8_set_23 : decode cX8_set 23 = .ok (.invokevirtual 70, 3) := by decide +kernel
theorem dX8_set_26 : decode cX8_set 26 = .ok (.ireturn, 1) := by decide +kernel
theorem dX8_set_27 : decode cX8_set 27 = .ok (.iload_n 2, 1) := by decide +kernel
theorem dX8_set_28 : decode cX8_set 28 = .ok (.iload_n 1, 1) := by decide +kernel
theorem dX8_set_29 : decode cX8_set 29 = .ok (.ifCond .ne 8, 3) := by decide +kernel
theorem dX8_set_32 : decode cX8_set 32 = .ok (.bipush 50, 2) := by decide +kernel
theorem dX8_set_34 : decode cX8_set 34 = .ok (.goto 5, 3) := by decide +kernel
theorem dX8_set_37 : decode cX8_set 37 = .ok (.bipush 9, 2) := by decide +kernel
theorem dX8_set_39 : decode cX8_set 39 = .ok (.if_icmp .le 10, 3) := by decide +kernel
theorem dX8_set_42 : decode cX8_set 42 = .ok (.aload_n 0, 1) := by decide +kernel
theorem dX8_set_43 : decode cX8_set 43 = .ok (.bipush (-6), 2) := by decide +kernel
theorem dX8_set_45 : decode cX8_set 45 = .ok (.invokevirtual 70, 3) := by decide +kernel
theorem dX8_set_48 : decode cX8_set 48 = .ok (.ireturn, 1) := by decide +kernel
theorem dX8_set_49 : decode cX8_set 49 = .ok (.iload_n 1, 1) := by decide +kernel
theorem dX8_set_50 : decode cX8_set 50 = .ok (.ifCond .ne 14, 3) := by decide +kernel
theorem dX8_set_53 : decode cX8_set 53 = .ok (.aload_n 0, 1) := by decide +kernel
theorem dX8_set_54 : decode cX8_set 54 = .ok (.getfield 20, 3) := by decide +kernel
theorem dX8_set_57 : decode cX8_set 57 = .ok (.iload_n 2, 1) := by decide +kernel
theorem dX8_set_58 : decode cX8_set 58 = .ok (.invokevirtual 98, 3) := by decide +kernel
theorem dX8_set_61 : decode cX8_set 61 = .ok (.goto 11, 3) := by decide +kernel
theorem dX8_set_64 : decode cX8_set 64 = .ok (.aload_n 0, 1) := by decide +kernel
theorem dX8_set_65 : decode cX8_set 65 = .ok (.getfield 20, 3) := by decide +kernel
theorem dX8_set_68 : decode cX8_set 68 = .ok (.iload_n 2, 1) := by decide +kernel
theorem dX8_set_69 : decode cX8_set 69 = .ok (.invokevirtual 101, 3) := by decide +kernel
theorem dX8_set_72 : decode cX8_set 72 = .ok (.ireturn, 1) := by decide +kernel
theorem dX8_bar_0 : decode cX8_bar 0 = .ok (.iload_n 1, 1) := by decide +kernel
theorem dX8_bar_1 : decode cX8_bar 1 = .ok (.iload_n 3, 1) := by decide +kernel
theorem dX8_bar_2 : decode cX8_bar 2 = .ok (.invokestatic 104, 3) := by decide +kernel
theorem dX8_bar_5 : decode cX8_bar 5 = .ok (.ifCond .eq 22, 3) := by decide +kernel
theorem dX8_bar_8 : decode cX8_bar 8 = .ok (.aload_n 0, 1) := by decide +kernel
theorem dX8_bar_9 : decode cX8_bar 9 = .ok (.iload_n 1, 1) := by decide +kernel
theorem dX8_bar_10 : decode cX8_bar 10 = .ok (.iload_n 2, 1) := by decide +kernel
theorem dX8_bar_11 : decode cX8_bar 11 = .ok (.invokevirtual 107, 3) := by decide +kernel
theorem dX8_bar_14 : decode cX8_bar 14 = .ok (.ifCond .eq 13, 3) := by decide +kernel
theorem dX8_bar_17 : decode cX8_bar 17 = .ok (.aload_n 0, 1) := by decide +kernel
theorem dX8_bar_18 : decode cX8_bar 18 = .ok (.iload_n 3, 1) := by decide +kernel
theorem dX8_bar_19 : decode cX8_bar 19 = .ok (.iload 4, 2) := by decide +kernel
theorem dX8_bar_21 : decode cX8_bar 21 = .ok (.invokevirtual 107, 3) := by decide +kernel
theorem dX8_bar_24 : decode cX8_bar 24 = .ok (.ifCond .ne 9, 3) := by decide +kernel
theorem dX8_bar_27 : decode cX8_bar 27 = .ok (.aload_n 0, 1) := by decide +kernel
theorem dX8_bar_28 : decode cX8_bar 28 = .ok (.iconst (-1), 1) := by decide +kernel
theorem dX8_bar_29 : decode cX8_bar 29 = .ok (.invokevirtual 70, 3) := by decide +kernel
theorem dX8_bar_32 : decode cX8_bar 32 = .ok (.ireturn, 1) := by decide +kernel
theorem dX8_bar_33 : decode cX8_bar 33 = .ok (.iload_n 1, 1) := by decide +kernel
theorem dX8_bar_34 : decode cX8_bar 34 = .ok (.bipush 10, 2) := by decide +kernel
theorem dX8_bar_36 : decode cX8_bar 36 = .ok (.imul, 1) := by decide +kernel
theorem dX8_bar_37 : decode cX8_bar 37 = .ok (.iload_n 2, 1) := by decide +kernel
theorem dX8_bar_38 : decode cX8_bar 38 = .ok (.iadd, 1) := by decide +kernel
theorem dX8_bar_39 : decode cX8_bar 39 = .ok (.istore 5, 2) := by decide +kernel
theorem dX8_bar_41 : decode cX8_bar 41 = .ok (.iload_n 3, 1) := by decide +kernel
theorem dX8_bar_42 : decode cX8_bar 42 = .ok (.bipush 10, 2) := by decide +kernel
theorem dX8_bar_44 : decode cX8_bar 44 = .ok (.imul, 1) := by decide +kernel
theorem dX8_bar_45 : decode cX8_bar 45 = .ok (.iload 4, 2) := by decide +kernel
theorem dX8_bar_47 : decode cX8_bar 47 = .ok (.iadd, 1) := by decide +kernel
theorem dX8_bar_48 : decode cX8_bar 48 = .ok (.istore 6, 2) := by decide +kernel
theorem dX8_bar_50 : decode cX8_bar 50 = .ok (.aload_n 0, 1) := by decide +kernel
theorem dX8_bar_51 : decode cX8_bar 51 = .ok (.getfield 20, 3) := by decide +kernel
theorem dX8_bar_54 : decode cX8_bar 54 = .ok (.iload 5, 2) := by decide +kernel
theorem dX8_bar_56 : decode cX8_bar 56 = .ok (.iload 6, 2) := by decide +kernel
theorem dX8_bar_58 : decode cX8_bar 58 = .ok (.invokevirtual 110, 3) := by decide +kernel
theorem dX8_bar_61 : decode cX8_bar 61 = .ok (.ifCond .eq 5, 3) := by decide +kernel
theorem dX8_bar_64 : decode cX8_bar 64 = .ok (.iconst 0, 1) := by decide +kernel
theorem dX8_bar_65 : decode cX8_bar 65 = .ok (.ireturn, 1) := by decide +kernel
theorem dX8_bar_66 : decode cX8_bar 66 = .ok (.aload_n 0, 1) := by decide +kernel
theorem dX8_bar_67 : decode cX8_bar 67 = .ok (.getfield 20, 3) := by decide +kernel
theorem dX8_bar_70 : decode cX8_bar 70 = .ok (.getfield 113, 3) := by decide +kernel
theorem dX8_bar_73 : decode cX8_bar 73 = .ok (.bipush 30, 2) := by decide +kernel
theorem dX8_bar_75 : decode cX8_bar 75 = .ok (.if_icmp .lt 10, 3) := by decide +kernel
theorem dX8_bar_78 : decode cX8_bar 78 = .ok (.aload_n 0, 1) := by decide +kernel
theorem dX8_bar_79 : decode cX8_bar 79 = .ok (.bipush (-6), 2) := by decide +kernel
theorem dX8_bar_81 : decode cX8_bar 81 = .ok (.invokevirtual 70, 3) := by decide +kernel
theorem dX8_bar_84 : decode cX8_bar 84 = .ok (.ireturn, 1) := by decide +kernel
theorem dX8_bar_85 : decode cX8_bar 85 = .ok (.aload_n 0, 1) := by decide +kernel
theorem dX8_bar_86 : decode cX8_bar 86 = .ok (.getfield 20, 3) := by decide +kernel
theorem dX8_bar_89 : decode cX8_bar 89 = .ok (.iload 5, 2) := by decide +kernel
theorem dX8_bar_91 : decode cX8_bar 91 = .ok (.iload 6, 2) := by decide +kernel
theorem dX8_bar_93 : decode cX8_bar 93 = .ok (.invokevirtual 117, 3) := by decide +kernel
theorem dX8_bar_96 : decode cX8_bar 96 = .ok (.iconst 1, 1) := by decide +kernel
theorem dX8_bar_97 : decode cX8_bar 97 = .ok (.ireturn, 1) := by decide +kernel
theorem dX8_like_0 : decode cX8_like 0 = .ok (.iload_n 1, 1) := by decide +kernel
theorem dX8_like_1 : decode cX8_like 1 = .ok (.iload_n 3, 1) := by decide +kernel
theorem dX8_like_2 : decode cX8_like 2 = .ok (.invokestatic 104, 3) := by decide +kernel
theorem dX8_like_5 : decode cX8_like 5 = .ok (.ifCond .eq 22, 3) := by decide +kernel
theorem dX8_like_8 : decode cX8_like 8 = .ok (.aload_n 0, 1) := by decide +kernel
theorem dX8_like_9 : decode cX8_like 9 = .ok (.iload_n 1, 1) := by decide +kernel
theorem dX8_like_10 : decode cX8_like 10 = .ok (.iload_n 2, 1) := by decide +kernel
theorem dX8_like_11 : decode cX8_like 11 = .ok (.invokevirtual 107, 3) := by decide +kernel
theorem dX8_like_14 : decode cX8_like 14 = .ok (.ifCond .eq 13, 3) := by decide +kernel
theorem dX8_like_17 : decode cX8_like 17 = .ok (.aload_n 0, 1) := by decide +kernel
theorem dX8_like_18 : decode cX8_like 18 = .ok (.iload_n 3, 1) := by decide +kernel
theorem dX8_like_19 : decode cX8_like 19 = .ok (.iload 4, 2) := by decide +kernel
theorem dX8_like_21 : decode cX8_like 21 = .ok (.invokevirtual 107, 3) := by decide +kernel
theorem dX8_like_24 : decode cX8_like 24 = .ok (.ifCond .ne 9, 3) := by decide +kernel
theorem dX8_like_27 : decode cX8_like 27 = .ok (.aload_n 0, 1) := by decide +kernel
theorem dX8_like_28 : decode cX8_like 28 = .ok (.iconst (-1), 1) := by decide +kernel
theorem dX8_like_29 : decode cX8_like 29 = .ok (.invokevirtual 70, 3) := by decide +kernel
theorem dX8_like_32 : decode cX8_like 32 = .ok (.ireturn, 1) := by decide +kernel
theorem dX8_like_33 : decode cX8_like 33 = .ok (.aload_n 0, 1) := by decide +kernel
theorem dX8_like_34 : decode cX8_like 34 = .ok (.getfield 20, 3) := by decide +kernel
theorem dX8_like_37 : decode cX8_like 37 = .ok (.iload_n 1, 1) := by decide +kernel
theorem dX8_like_38 : decode cX8_like 38 = .ok (.bipush 10, 2) := by decide +kernel
theorem dX8_like_40 : decode cX8_like 40 = .ok (.imul, 1) := by decide +kernel
theorem dX8_like_41 : decode cX8_like 41 = .ok (.iload_n 2, 1) := by decide +kernel
theorem dX8_like_42 : decode cX8_like 42 = .ok (.iadd, 1) := by decide +kernel
theorem dX8_like_43 : decode cX8_like 43 = .ok (.iload_n 3, 1) := by decide +kernel
theorem dX8_like_44 : decode cX8_like 44 = .ok (.bipush 10, 2) := by decide +kernel
theorem dX8_like_46 : decode cX8_like 46 = .ok (.imul, 1) := by decide +kernel
theorem dX8_like_47 : decode cX8_like 47 = .ok (.iload 4, 2) := by decide +kernel
theorem dX8_like_49 : decode cX8_like 49 = .ok (.iadd, 1) := by decide +kernel
theorem dX8_like_50 : decode cX8_like 50 = .ok (.invokevirtual 121, 3) := by decide +kernel
theorem dX8_like_53 : decode cX8_like 53 = .ok (.ireturn, 1) := by decide +kernel
theorem dX8_join_0 : decode cX8_join 0 = .ok (.iload_n 1, 1) := by decide +kernel
theorem dX8_join_1 : decode cX8_join 1 = .ok (.iload_n 2, 1) := by decide +kernel
theorem dX8_join_2 : decode cX8_join 2 = .ok (.invokestatic 104, 3) := by decide +kernel
theorem dX8_join_5 : decode cX8_join 5 = .ok (.ifCond .ne 9, 3) := by decide +kernel
theorem dX8_join_8 : decode cX8_join 8 = .ok (.aload_n 0, 1) := by decide +kernel
theorem dX8_join_9 : decode cX8_join 9 = .ok (.iconst (-1), 1) := by decide +kernel
theorem dX8_join_10 : decode cX8_join 10 = .ok (.invokevirtual 70, 3) := by decide +kernel
theorem dX8_join_13 : decode cX8_join 13 = .ok (.ireturn, 1) := by decide +kernel
theorem dX8_join_14 : decode cX8_join 14 = .ok (.aload_n 0, 1) := by decide +kernel
theorem dX8_join_15 : decode cX8_join 15 = .ok (.iload_n 1, 1) := by decide +kernel
theorem dX8_join_16 : decode cX8_join 16 = .ok (.iload_n 2, 1) := by decide +kernel
theorem dX8_join_17 : decode cX8_join 17 = .ok (.invokevirtual 124, 3) := by decide +kernel
theorem dX8_join_20 : decode cX8_join 20 = .ok (.getfield 128, 3) := by decide +kernel
theorem dX8_join_23 : decode cX8_join 23 = .ok (.ireturn, 1) := by decide +kernel
theorem dX8_joined_0 : decode cX8_joined 0 = .ok (.iload_n 1, 1) := by decide +kernel
theorem dX8_joined_1 : decode cX8_joined 1 = .ok (.iload_n 3, 1) := by decide +kernel
theorem dX8_joined_2 : decode cX8_joined 2 = .ok (.invokestatic 104, 3) := by decide +kernel
theorem dX8_joined_5 : decode cX8_joined 5 = .ok (.ifCond .eq 12, 3) := by decide +kernel
theorem dX8_joined_8 : decode cX8_joined 8 = .ok (.aload_n 0, 1) := by decide +kernel
theorem dX8_joined_9 : decode cX8_joined 9 = .ok (.iload_n 1, 1) := by decide +kernel
theorem dX8_joined_10 : decode cX8_joined 10 = .ok (.iload_n 2, 1) := by decide +kernel
theorem dX8_joined_11 : decode cX8_joined 11 = .ok (.invokevirtual 107, 3) := by decide +kernel
theorem dX8_joined_14 : decode cX8_joined 14 = .ok (.ifCond .ne 9, 3) := by decide +kernel
theorem dX8_joined_17 : decode cX8_joined 17 = .ok (.aload_n 0, 1) := by decide +kernel
theorem dX8_joined_18 : decode cX8_joined 18 = .ok (.iconst (-1), 1) := by decide +kernel
theorem dX8_joined_19 : decode cX8_joined 19 = .ok (.invokevirtual 70, 3) := by decide +kernel
theorem dX8_joined_22 : decode cX8_joined 22 = .ok (.ireturn, 1) := by decide +kernel
theorem dX8_joined_23 : decode cX8_joined 23 = .ok (.aload_n 0, 1) := by decide +kernel
theorem dX8_joined_24 : decode cX8_joined 24 = .ok (.iload_n 1, 1) := by decide +kernel
theorem dX8_joined_25 : decode cX8_joined 25 = .ok (.iload_n 3, 1) := by decide +kernel
theorem dX8_joined_26 : decode cX8_joined 26 = .ok (.invokevirtual 124, 3) := by decide +kernel
theorem dX8_joined_29 : decode cX8_joined 29 = .ok (.getfield 131, 3) := by decide +kernel
theorem dX8_joined_32 : decode cX8_joined 32 = .ok (.iload_n 2, 1) := by decide +kernel
theorem dX8_joined_33 : decode cX8_joined 33 = .ok (.iaload, 1) := by decide +kernel
theorem dX8_joined_34 : decode cX8_joined 34 = .ok (.ireturn, 1) := by decide +kernel
theorem dX8_bests_0 : decode cX8_bests 0 = .ok (.iload_n 1, 1) := by decide +kernel
theorem dX8_bests_1 : decode cX8_bests 1 = .ok (.iload_n 2, 1) := by decide +kernel
theorem dX8_bests_2 : decode cX8_bests 2 = .ok (.invokestatic 104, 3) := by decide +kernel
theorem dX8_bests_5 : decode cX8_bests 5 = .ok (.ifCond .ne 9, 3) := by decide +kernel
theorem dX8_bests_8 : decode cX8_bests 8 = .ok (.aload_n 0, 1) := by decide +kernel
theorem dX8_bests_9 : decode cX8_bests 9 = .ok (.iconst (-1), 1) := by decide +kernel
theorem dX8_bests_10 : decode cX8_bests 10 = .ok (.invokevirtual 70, 3) := by decide +kernel
theorem dX8_bests_13 : decode cX8_bests 13 = .ok (.ireturn, 1) := by decide +kernel
theorem dX8_bests_14 : decode cX8_bests 14 = .ok (.aload_n 0, 1) := by decide +kernel
theorem dX8_bests_15 : decode cX8_bests 15 = .ok (.iload_n 1, 1) := by decide +kernel
theorem dX8_bests_16 : decode cX8_bests 16 = .ok (.iload_n 2, 1) := by decide +kernel
theorem dX8_bests_17 : decode cX8_bests 17 = .ok (.invokevirtual 124, 3) := by decide +kernel
theorem dX8_bests_20 : decode cX8_bests 20 = .ok (.getfield 134, 3) := by decide +kernel
theorem dX8_bests_23 : decode cX8_bests 23 = .ok (.ireturn, 1) := by decide +kernel
theorem dX8_sure_0 : decode cX8_sure 0 = .ok (.iload_n 1, 1) := by decide +kernel
theorem dX8_sure_1 : decode cX8_sure 1 = .ok (.iload_n 3, 1) := by decide +kernel
theorem dX8_sure_2 : decode cX8_sure 2 = .ok (.invokestatic 104, 3) := by decide +kernel
theorem dX8_sure_5 : decode cX8_sure 5 = .ok (.ifCond .eq 12, 3) := by decide +kernel
theorem dX8_sure_8 : decode cX8_sure 8 = .ok (.aload_n 0, 1) := by decide +kernel
theorem dX8_sure_9 : decode cX8_sure 9 = .ok (.iload_n 1, 1) := by decide +kernel
theorem dX8_sure_10 : decode cX8_sure 10 = .ok (.iload_n 2, 1) := by decide +kernel
theorem dX8_sure_11 : decode cX8_sure 11 = .ok (.invokevirtual 107, 3) := by decide +kernel
theorem dX8_sure_14 : decode cX8_sure 14 = .ok (.ifCond .ne 9, 3) := by decide +kernel
theorem dX8_sure_17 : decode cX8_sure 17 = .ok (.aload_n 0, 1) := by decide +kernel
theorem dX8_sure_18 : decode cX8_sure 18 = .ok (.iconst (-1), 1) := by decide +kernel
theorem dX8_sure_19 : decode cX8_sure 19 = .ok (.invokevirtual 70, 3) := by decide +kernel
theorem dX8_sure_22 : decode cX8_sure 22 = .ok (.ireturn, 1) := by decide +kernel
theorem dX8_sure_23 : decode cX8_sure 23 = .ok (.aload_n 0, 1) := by decide +kernel
theorem dX8_sure_24 : decode cX8_sure 24 = .ok (.iload_n 1, 1) := by decide +kernel
theorem dX8_sure_25 : decode cX8_sure 25 = .ok (.iload_n 3, 1) := by decide +kernel
theorem dX8_sure_26 : decode cX8_sure 26 = .ok (.invokevirtual 124, 3) := by decide +kernel
theorem dX8_sure_29 : decode cX8_sure 29 = .ok (.getfield 137, 3) := by decide +kernel
theorem dX8_sure_32 : decode cX8_sure 32 = .ok (.iload_n 2, 1) := by decide +kernel
theorem dX8_sure_33 : decode cX8_sure 33 = .ok (.baload, 1) := by decide +kernel
theorem dX8_sure_34 : decode cX8_sure 34 = .ok (.ifCond .eq 7, 3) := by decide +kernel
theorem dX8_sure_37 : decode cX8_sure 37 = .ok (.iconst 1, 1) := by decide +kernel
theorem dX8_sure_38 : decode cX8_sure 38 = .ok (.goto 4, 3) := by decide +kernel
theorem dX8_sure_41 : decode cX8_sure 41 = .ok (.iconst 0, 1) := by decide +kernel
theorem dX8_sure_42 : decode cX8_sure 42 = .ok (.ireturn, 1) := by decide +kernel
theorem dX8_chain_0 : decode cX8_chain 0 = .ok (.aload_n 0, 1) := by decide +kernel
theorem dX8_chain_1 : decode cX8_chain 1 = .ok (.iload_n 1, 1) := by decide +kernel
theorem dX8_chain_2 : decode cX8_chain 2 = .ok (.iload_n 2, 1) := by decide +kernel
theorem dX8_chain_3 : decode cX8_chain 3 = .ok (.invokevirtual 107, 3) := by decide +kernel
theorem dX8_chain_6 : decode cX8_chain 6 = .ok (.ifCond .eq 11, 3) := by decide +kernel
theorem dX8_chain_9 : decode cX8_chain 9 = .ok (.iload_n 1, 1) := by decide +kernel
theorem dX8_chain_10 : decode cX8_chain 10 = .ok (.iload_n 3, 1) := by decide +kernel
theorem dX8_chain_11 : decode cX8_chain 11 = .ok (.invokestatic 141, 3) := by decide +kernel
theorem dX8_chain_14 : decode cX8_chain 14 = .ok (.ifCond .ne 9, 3) := by decide +kernel
theorem dX8_chain_17 : decode cX8_chain 17 = .ok (.aload_n 0, 1) := by decide +kernel
theorem dX8_chain_18 : decode cX8_chain 18 = .ok (.iconst (-1), 1) := by decide +kernel
theorem dX8_chain_19 : decode cX8_chain 19 = .ok (.invokevirtual 70, 3) := by decide +kernel
theorem dX8_chain_22 : decode cX8_chain 22 = .ok (.ireturn, 1) := by decide +kernel
theorem dX8_chain_23 : decode cX8_chain 23 = .ok (.iload 4, 2) := by decide +kernel
theorem dX8_chain_25 : decode cX8_chain 25 = .ok (.ifCond .lt 9, 3) := by decide +kernel
theorem dX8_chain_28 : decode cX8_chain 28 = .ok (.iload 4, 2) := by decide +kernel
theorem dX8_chain_30 : decode cX8_chain 30 = .ok (.iconst 2, 1) := by decide +kernel
theorem dX8_chain_31 : decode cX8_chain 31 = .ok (.if_icmp .le 10, 3) := by decide +kernel
theorem dX8_chain_34 : decode cX8_chain 34 = .ok (.aload_n 0, 1) := by decide +kernel
theorem dX8_chain_35 : decode cX8_chain 35 = .ok (.bipush (-2), 2) := by decide +kernel
theorem dX8_chain_37 : decode cX8_chain 37 = .ok (.invokevirtual 70, 3) := by decide +kernel
theorem dX8_chain_40 : decode cX8_chain 40 = .ok (.ireturn, 1) := by decide +kernel
theorem dX8_chain_41 : decode cX8_chain 41 = .ok (.aload_n 0, 1) := by decide +kernel
theorem dX8_chain_42 : decode cX8_chain 42 = .ok (.iload_n 1, 1) := by decide +kernel
theorem dX8_chain_43 : decode cX8_chain 43 = .ok (.iload_n 2, 1) := by decide +kernel
theorem dX8_chain_44 : decode cX8_chain 44 = .ok (.iload_n 3, 1) := by decide +kernel
theorem dX8_chain_45 : decode cX8_chain 45 = .ok (.iload 4, 2) := by decide +kernel
theorem dX8_chain_47 : decode cX8_chain 47 = .ok (.invokevirtual 144, 3) := by decide +kernel
theorem dX8_chain_50 : decode cX8_chain 50 = .ok (.ireturn, 1) := by decide +kernel
theorem dX8_copied_0 : decode cX8_copied 0 = .ok (.iload_n 1, 1) := by decide +kernel
theorem dX8_copied_1 : decode cX8_copied 1 = .ok (.invokestatic 81, 3) := by decide +kernel
theorem dX8_copied_4 : decode cX8_copied 4 = .ok (.ifCond .eq 12, 3) := by decide +kernel
theorem dX8_copied_7 : decode cX8_copied 7 = .ok (.aload_n 0, 1) := by decide +kernel
theorem dX8_copied_8 : decode cX8_copied 8 = .ok (.iload_n 2, 1) := by decide +kernel
theorem dX8_copied_9 : decode cX8_copied 9 = .ok (.iload_n 3, 1) := by decide +kernel
theorem dX8_copied_10 : decode cX8_copied 10 = .ok (.invokevirtual 107, 3) := by decide +kernel
theorem dX8_copied_13 : decode cX8_copied 13 = .ok (.ifCond .ne 9, 3) := by decide +kernel
theorem dX8_copied_16 : decode cX8_copied 16 = .ok (.aload_n 0, 1) := by decide +kernel
theorem dX8_copied_17 : decode cX8_copied 17 = .ok (.iconst (-1), 1) := by decide +kernel
theorem dX8_copied_18 : decode cX8_copied 18 = .ok (.invokevirtual 70, 3) := by decide +kernel
theorem dX8_copied_21 : decode cX8_copied 21 = .ok (.ireturn, 1) := by decide +kernel
theorem dX8_copied_22 : decode cX8_copied 22 = .ok (.aload_n 0, 1) := by decide +kernel
theorem dX8_copied_23 : decode cX8_copied 23 = .ok (.getfield 20, 3) := by decide +kernel
theorem dX8_copied_26 : decode cX8_copied 26 = .ok (.getfield 148, 3) := by decide +kernel
theorem dX8_copied_29 : decode cX8_copied 29 = .ok (.iload_n 2, 1) := by decide +kernel
theorem dX8_copied_30 : decode cX8_copied 30 = .ok (.iaload, 1) := by decide +kernel
theorem dX8_copied_31 : decode cX8_copied 31 = .ok (.aload_n 0, 1) := by decide +kernel
theorem dX8_copied_32 : decode cX8_copied 32 = .ok (.getfield 20, 3) := by decide +kernel
theorem dX8_copied_35 : decode cX8_copied 35 = .ok (.getfield 148, 3) := by decide +kernel
theorem dX8_copied_38 : decode cX8_copied 38 = .ok (.iload_n 1, 1) := by decide +kernel
theorem dX8_copied_39 : decode cX8_copied 39 = .ok (.iaload, 1) := by decide +kernel
theorem dX8_copied_40 : decode cX8_copied 40 = .ok (.if_icmp .gt 10, 3) := by decide +kernel
theorem dX8_copied_43 : decode cX8_copied 43 = .ok (.aload_n 0, 1) := by decide +kernel
theorem dX8_copied_44 : decode cX8_copied 44 = .ok (.bipush (-3), 2) := by decide +kernel
theorem dX8_copied_46 : decode cX8_copied 46 = .ok (.invokevirtual 70, 3) := by decide +kernel
theorem dX8_copied_49 : decode cX8_copied 49 = .ok (.ireturn, 1) := by decide +kernel
theorem dX8_copied_50 : decode cX8_copied 50 = .ok (.aload_n 0, 1) := by decide +kernel
theorem dX8_copied_51 : decode cX8_copied 51 = .ok (.iload_n 1, 1) := by decide +kernel
theorem dX8_copied_52 : decode cX8_copied 52 = .ok (.iload_n 2, 1) := by decide +kernel
theorem dX8_copied_53 : decode cX8_copied 53 = .ok (.invokevirtual 124, 3) := by decide +kernel
theorem dX8_copied_56 : decode cX8_copied 56 = .ok (.astore 4, 2) := by decide +kernel
theorem dX8_copied_58 : decode cX8_copied 58 = .ok (.iconst 0, 1) := by decide +kernel
theorem dX8_copied_59 : decode cX8_copied 59 = .ok (.istore 5, 2) := by decide +kernel
theorem dX8_copied_61 : decode cX8_copied 61 = .ok (.iload 5, 2) := by decide +kernel
theorem dX8_copied_63 : decode cX8_copied 63 = .ok (.aload_n 0, 1) := by decide +kernel
theorem dX8_copied_64 : decode cX8_copied 64 = .ok (.getfield 20, 3) := by decide +kernel
theorem dX8_copied_67 : decode cX8_copied 67 = .ok (.getfield 91, 3) := by decide +kernel
theorem dX8_copied_70 : decode cX8_copied 70 = .ok (.iload_n 1, 1) := by decide +kernel
theorem dX8_copied_71 : decode cX8_copied 71 = .ok (.iaload, 1) := by decide +kernel
theorem dX8_copied_72 : decode cX8_copied 72 = .ok (.if_icmp .ge 47, 3) := by decide +kernel
theorem dX8_copied_75 : decode cX8_copied 75 = .ok (.aload 4, 2) := by decide +kernel
theorem dX8_copied_77 : decode cX8_copied 77 = .ok (.getfield 131, 3) := by decide +kernel
theorem dX8_copied_80 : decode cX8_copied 80 = .ok (.iload 5, 2) := by decide +kernel
theorem dX8_copied_82 : decode cX8_copied 82 = .ok (.iaload, 1) := by decide +kernel
theorem dX8_copied_83 : decode cX8_copied 83 = .ok (.iload_n 3, 1) := by decide +kernel
theorem dX8_copied_84 : decode cX8_copied 84 = .ok (.if_icmp .eq 29, 3) := by decide +kernel
theorem dX8_copied_87 : decode cX8_copied 87 = .ok (.aload_n 0, 1) := by decide +kernel
theorem dX8_copied_88 : decode cX8_copied 88 = .ok (.getfield 20, 3) := by decide +kernel
theorem dX8_copied_91 : decode cX8_copied 91 = .ok (.iload_n 1, 1) := by decide +kernel
theorem dX8_copied_92 : decode cX8_copied 92 = .ok (.bipush 10, 2) := by decide +kernel
theorem dX8_copied_94 : decode cX8_copied 94 = .ok (.imul, 1) := by decide +kernel
theorem dX8_copied_95 : decode cX8_copied 95 = .ok (.iload 5, 2) := by decide +kernel
theorem dX8_copied_97 : decode cX8_copied 97 = .ok (.iadd, 1) := by decide +kernel
theorem dX8_copied_98 : decode cX8_copied 98 = .ok (.iload_n 2, 1) := by decide +kernel
theorem dX8_copied_99 : decode cX8_copied 99 = .ok (.bipush 10, 2) := by decide +kernel
theorem dX8_copied_101 : decode cX8_copied 101 = .ok (.imul, 1) := by decide +kernel
theorem dX8_copied_102 : decode cX8_copied 102 = .ok (.iload_n 3, 1) := by decide +kernel
theorem dX8_copied_103 : decode cX8_copied 103 = .ok (.iadd, 1) := by decide +kernel
theorem dX8_copied_104 : decode cX8_copied 104 = .ok (.invokevirtual 151, 3) := by decide +kernel
theorem dX8_copied_107 : decode cX8_copied 107 = .ok (.ifCond .eq 6, 3) := by decide +kernel
theorem dX8_copied_110 : decode cX8_copied 110 = .ok (.iload 5, 2) := by decide +kernel
theorem dX8_copied_112 : decode cX8_copied 112 = .ok (.ireturn, 1) := by decide +kernel
theorem dX8_copied_113 : decode cX8_copied 113 = .ok (.iinc 5 1, 3) := by decide +kernel
theorem dX8_copied_116 : decode cX8_copied 116 = .ok (.goto (-55), 3) := by decide +kernel
theorem dX8_copied_119 : decode cX8_copied 119 = .ok (.bipush (-9), 2) := by decide +kernel
theorem dX8_copied_121 : decode cX8_copied 121 = .ok (.ireturn, 1) := by decide +kernel
theorem dX8_sight_0 : decode cX8_sight 0 = .ok (.iload_n 1, 1) := by decide +kernel
theorem dX8_sight_1 : decode cX8_sight 1 = .ok (.invokestatic 154, 3) := by decide +kernel
theorem dX8_sight_4 : decode cX8_sight 4 = .ok (.ifCond .eq 13, 3) := by decide +kernel
theorem dX8_sight_7 : decode cX8_sight 7 = .ok (.iload_n 2, 1) := by decide +kernel
theorem dX8_sight_8 : decode cX8_sight 8 = .ok (.ifCond .lt 9, 3) := by decide +kernel
theorem dX8_sight_11 : decode cX8_sight 11 = .ok (.iload_n 2, 1) := by decide +kernel
theorem dX8_sight_12 : decode cX8_sight 12 = .ok (.bipush 8, 2) := by decide +kernel
theorem dX8_sight_14 : decode cX8_sight 14 = .ok (.if_icmp .lt 9, 3) := by decide +kernel
theorem dX8_sight_17 : decode cX8_sight 17 = .ok (.aload_n 0, 1) := by decide +kernel
theorem dX8_sight_18 : decode cX8_sight 18 = .ok (.iconst (-1), 1) := by decide +kernel
theorem dX8_sight_19 : decode cX8_sight 19 = .ok (.invokevirtual 70, 3) := by decide +kernel
theorem dX8_sight_22 : decode cX8_sight 22 = .ok (.ireturn, 1) := by decide +kernel
theorem dX8_sight_23 : decode cX8_sight 23 = .ok (.iload_n 3, 1) := by decide +kernel
theorem dX8_sight_24 : decode cX8_sight 24 = .ok (.iload 4, 2) := by decide +kernel
theorem dX8_sight_26 : decode cX8_sight 26 = .ok (.invokestatic 157, 3) := by decide +kernel
theorem dX8_sight_29 : decode cX8_sight 29 = .ok (.istore 5, 2) := by decide +kernel
theorem dX8_sight_31 : decode cX8_sight 31 = .ok (.iload 5, 2) := by decide +kernel
theorem dX8_sight_33 : decode cX8_sight 33 = .ok (.ifCond .eq 10, 3) := by decide +kernel
theorem dX8_sight_36 : decode cX8_sight 36 = .ok (.aload_n 0, 1) := by decide +kernel
theorem dX8_sight_37 : decode cX8_sight 37 = .ok (.iload 5, 2) := by decide +kernel
theorem dX8_sight_39 : decode cX8_sight 39 = .ok (.invokevirtual 70, 3) := by decide +kernel
theorem dX8_sight_42 : decode cX8_sight 42 = .ok (.ireturn, 1) := by decide +kernel
theorem dX8_sight_43 : decode cX8_sight 43 = .ok (.aload_n 0, 1) := by decide +kernel
theorem dX8_sight_44 : decode cX8_sight 44 = .ok (.getfield 34, 3) := by decide +kernel
theorem dX8_sight_47 : decode cX8_sight 47 = .ok (.getfield 160, 3) := by decide +kernel
theorem dX8_sight_50 : decode cX8_sight 50 = .ok (.bipush 60, 2) := by decide +kernel
theorem dX8_sight_52 : decode cX8_sight 52 = .ok (.if_icmp .lt 10, 3) := by decide +kernel
theorem dX8_sight_55 : decode cX8_sight 55 = .ok (.aload_n 0, 1) := by decide +kernel
theorem dX8_sight_56 : decode cX8_sight 56 = .ok (.bipush (-6), 2) := by decide +kernel
theorem dX8_sight_58 : decode cX8_sight 58 = .ok (.invokevirtual 70, 3) := by decide +kernel
theorem dX8_sight_61 : decode cX8_sight 61 = .ok (.ireturn, 1) := by decide +kernel
theorem dX8_sight_62 : decode cX8_sight 62 = .ok (.aload_n 0, 1) := by decide +kernel
theorem dX8_sight_63 : decode cX8_sight 63 = .ok (.getfield 34, 3) := by decide +kernel
theorem dX8_sight_66 : decode cX8_sight 66 = .ok (.iload_n 1, 1) := by decide +kernel
theorem dX8_sight_67 : decode cX8_sight 67 = .ok (.iload_n 2, 1) := by decide +kernel
theorem dX8_sight_68 : decode cX8_sight 68 = .ok (.iload_n 3, 1) := by decide +kernel
theorem dX8_sight_69 : decode cX8_sight 69 = .ok (.iconst 0, 1) := by decide +kernel
theorem dX8_sight_70 : decode cX8_sight 70 = .ok (.iload 4, 2) := by decide +kernel
theorem dX8_sight_72 : decode cX8_sight 72 = .ok (.invokevirtual 162, 3) := by decide +kernel
theorem dX8_sight_75 : decode cX8_sight 75 = .ok (.ireturn, 1) := by decide +kernel
theorem dX8_move_0 : decode cX8_move 0 = .ok (.iload_n 1, 1) := by decide +kernel
theorem dX8_move_1 : decode cX8_move 1 = .ok (.invokestatic 154, 3) := by decide +kernel
theorem dX8_move_4 : decode cX8_move 4 = .ok (.ifCond .eq 13, 3) := by decide +kernel
theorem dX8_move_7 : decode cX8_move 7 = .ok (.iload_n 2, 1) := by decide +kernel
theorem dX8_move_8 : decode cX8_move 8 = .ok (.ifCond .lt 9, 3) := by decide +kernel
theorem dX8_move_11 : decode cX8_move 11 = .ok (.iload_n 2, 1) := by decide +kernel
theorem dX8_move_12 : decode cX8_move 12 = .ok (.bipush 8, 2) := by decide +kernel
theorem dX8_move_14 : decode cX8_move 14 = .ok (.if_icmp .lt 9, 3) := by decide +kernel
theorem dX8_move_17 : decode cX8_move 17 = .ok (.aload_n 0, 1) := by decide +kernel
theorem dX8_move_18 : decode cX8_move 18 = .ok (.iconst (-1), 1) := by decide +kernel
theorem dX8_move_19 : decode cX8_move 19 = .ok (.invokevirtual 70, 3) := by decide +kernel
theorem dX8_move_22 : decode cX8_move 22 = .ok (.ireturn, 1) := by decide +kernel
theorem dX8_move_23 : decode cX8_move 23 = .ok (.iload 4, 2) := by decide +kernel
theorem dX8_move_25 : decode cX8_move 25 = .ok (.ifCond .lt 9, 3) := by decide +kernel
theorem dX8_move_28 : decode cX8_move 28 = .ok (.iload 4, 2) := by decide +kernel
theorem dX8_move_30 : decode cX8_move 30 = .ok (.iconst 4, 1) := by decide +kernel
theorem dX8_move_31 : decode cX8_move 31 = .ok (.if_icmp .le 10, 3) := by decide +kernel
theorem dX8_move_34 : decode cX8_move 34 = .ok (.aload_n 0, 1) := by decide +kernel
theorem dX8_move_35 : decode cX8_move 35 = .ok (.bipush (-2), 2) := by decide +kernel
theorem dX8_move_37 : decode cX8_move 37 = .ok (.invokevirtual 70, 3) := by decide +kernel
theorem dX8_move_40 : decode cX8_move 40 = .ok (.ireturn, 1) := by decide +kernel
theorem dX8_move_41 : decode cX8_move 41 = .ok (.iload_n 3, 1) := by decide +kernel
theorem dX8_move_42 : decode cX8_move 42 = .ok (.iload 5, 2) := by decide +kernel
theorem dX8_move_44 : decode cX8_move 44 = .ok (.invokestatic 157, 3) := by decide +kernel
theorem dX8_move_47 : decode cX8_move 47 = .ok (.istore 6, 2) := by decide +kernel
theorem dX8_move_49 : decode cX8_move 49 = .ok (.iload 6, 2) := by decide +kernel
theorem dX8_move_51 : decode cX8_move 51 = .ok (.ifCond .eq 10, 3) := by decide +kernel
theorem dX8_move_54 : decode cX8_move 54 = .ok (.aload_n 0, 1) := by decide +kernel
theorem dX8_move_55 : decode cX8_move 55 = .ok (.iload 6, 2) := by decide +kernel
theorem dX8_move_57 : decode cX8_move 57 = .ok (.invokevirtual 70, 3) := by decide +kernel
theorem dX8_move_60 : decode cX8_move 60 = .ok (.ireturn, 1) := by decide +kernel
theorem dX8_move_61 : decode cX8_move 61 = .ok (.aload_n 0, 1) := by decide +kernel
theorem dX8_move_62 : decode cX8_move 62 = .ok (.getfield 38, 3) := by decide +kernel
theorem dX8_move_65 : decode cX8_move 65 = .ok (.getfield 160, 3) := by decide +kernel
theorem dX8_move_68 : decode cX8_move 68 = .ok (.bipush 60, 2) := by decide +kernel
theorem dX8_move_70 : decode cX8_move 70 = .ok (.if_icmp .lt 10, 3) := by decide +kernel
theorem dX8_move_73 : decode cX8_move 73 = .ok (.aload_n 0, 1) := by decide +kernel
theorem dX8_move_74 : decode cX8_move 74 = .ok (.bipush (-6), 2) := by decide +kernel
theorem dX8_move_76 : decode cX8_move 76 = .ok (.invokevirtual 70, 3) := by decide +kernel
theorem dX8_move_79 : decode cX8_move 79 = .ok (.ireturn, 1) := by decide +kernel
theorem dX8_move_80 : decode cX8_move 80 = .ok (.aload_n 0, 1) := by decide +kernel
theorem dX8_move_81 : decode cX8_move 81 = .ok (.getfield 38, 3) := by decide +kernel
theorem dX8_move_84 : decode cX8_move 84 = .ok (.iload_n 1, 1) := by decide +kernel
theorem dX8_move_85 : decode cX8_move 85 = .ok (.iload_n 2, 1) := by decide +kernel
theorem dX8_move_86 : decode cX8_move 86 = .ok (.iload_n 3, 1) := by decide +kernel
theorem dX8_move_87 : decode cX8_move 87 = .ok (.iload 4, 2) := by decide +kernel
theorem dX8_move_89 : decode cX8_move 89 = .ok (.iload 5, 2) := by decide +kernel
theorem dX8_move_91 : decode cX8_move 91 = .ok (.invokevirtual 162, 3) := by decide +kernel
theorem dX8_move_94 : decode cX8_move 94 = .ok (.ireturn, 1) := by decide +kernel
theorem dX8_withdraw_0 : decode cX8_withdraw 0 = .ok (.iload_n 1, 1) := by decide +kernel
theorem dX8_withdraw_1 : decode cX8_withdraw 1 = .ok (.ifCond .eq 10, 3) := by decide +kernel
theorem dX8_withdraw_4 : decode cX8_withdraw 4 = .ok (.aload_n 0, 1) := by decide +kernel
theorem dX8_withdraw_5 : decode cX8_withdraw 5 = .ok (.getfield 34, 3) := by decide +kernel
theorem dX8_withdraw_8 : decode cX8_withdraw 8 = .ok (.goto 7, 3) := by decide +kernel
theorem dX8_withdraw_11 : decode cX8_withdraw 11 = .ok (.aload_n 0, 1) := by decide +kernel
theorem dX8_withdraw_12 : decode cX8_withdraw 12 = .ok (.getfield 38, 3) := by decide +kernel
theorem dX8_withdraw_15 : decode cX8_withdraw 15 = .ok (.astore 4, 2) := by decide +kernel
theorem dX8_withdraw_17 : decode cX8_withdraw 17 = .ok (.iload_n 2, 1) := by decide +kernel
theorem dX8_withdraw_18 : decode cX8_withdraw 18 = .ok (.ifCond .lt 12, 3) := by decide +kernel
theorem dX8_withdraw_21 : decode cX8_withdraw 21 = .ok (.iload_n 2, 1) := by decide +kernel
theorem dX8_withdraw_22 : decode cX8_withdraw 22 = .ok (.aload 4, 2) := by decide +kernel
theorem dX8_withdraw_24 : decode cX8_withdraw 24 = .ok (.getfield 160, 3) := by decide +kernel
theorem dX8_withdraw_27 : decode cX8_withdraw 27 = .ok (.if_icmp .lt 9, 3) := by decide +kernel
theorem dX8_withdraw_30 : decode cX8_withdraw 30 = .ok (.aload_n 0, 1) := by decide +kernel
theorem dX8_withdraw_31 : decode cX8_withdraw 31 = .ok (.iconst (-1), 1) := by decide +kernel
theorem dX8_withdraw_32 : decode cX8_withdraw 32 = .ok (.invokevirtual 70, 3) := by decide +kernel
theorem dX8_withdraw_35 : decode cX8_withdraw 35 = .ok (.ireturn, 1) := by decide +kernel
theorem dX8_withdraw_36 : decode cX8_withdraw 36 = .ok (.aload 4, 2) := by decide +kernel
theorem dX8_withdraw_38 : decode cX8_withdraw 38 = .ok (.getfield 165, 3) := by decide +kernel
theorem dX8_withdraw_41 : decode cX8_withdraw 41 = .ok (.iload_n 2, 1) := by decide +kernel
theorem dX8_withdraw_42 : decode cX8_withdraw 42 = .ok (.iaload, 1) := by decide +kernel
theorem dX8_withdraw_43 : decode cX8_withdraw 43 = .ok (.ldc 168, 2) := by decide +kernel
theorem dX8_withdraw_45 : decode cX8_withdraw 45 = .ok (.if_icmp .eq 10, 3) := by decide +kernel
theorem dX8_withdraw_48 : decode cX8_withdraw 48 = .ok (.aload_n 0, 1) := by decide +kernel
theorem dX8_withdraw_49 : decode cX8_withdraw 49 = .ok (.bipush (-3), 2) := by decide +kernel
theorem dX8_withdraw_51 : decode cX8_withdraw 51 = .ok (.invokevirtual 70, 3) := by decide +kernel
theorem dX8_withdraw_54 : decode cX8_withdraw 54 = .ok (.ireturn, 1) := by decide +kernel
theorem dX8_withdraw_55 : decode cX8_withdraw 55 = .ok (.iload_n 3, 1) := by decide +kernel
theorem dX8_withdraw_56 : decode cX8_withdraw 56 = .ok (.aload 4, 2) := by decide +kernel
theorem dX8_withdraw_58 : decode cX8_withdraw 58 = .ok (.getfield 169, 3) := by decide +kernel
theorem dX8_withdraw_61 : decode cX8_withdraw 61 = .ok (.iload_n 2, 1) := by decide +kernel
theorem dX8_withdraw_62 : decode cX8_withdraw 62 = .ok (.iaload, 1) := by decide +kernel
theorem dX8_withdraw_63 : decode cX8_withdraw 63 = .ok (.if_icmp .ge 10, 3) := by decide +kernel
theorem dX8_withdraw_66 : decode cX8_withdraw 66 = .ok (.aload_n 0, 1) := by decide +kernel
theorem dX8_withdraw_67 : decode cX8_withdraw 67 = .ok (.bipush (-4), 2) := by decide +kernel
theorem dX8_withdraw_69 : decode cX8_withdraw 69 = .ok (.invokevirtual 70, 3) := by decide +kernel
theorem dX8_withdraw_72 : decode cX8_withdraw 72 = .ok (.ireturn, 1) := by decide +kernel
theorem dX8_withdraw_73 : decode cX8_withdraw 73 = .ok (.iload_n 3, 1) := by decide +kernel
theorem dX8_withdraw_74 : decode cX8_withdraw 74 = .ok (.ldc 172, 2) := by decide +kernel
theorem dX8_withdraw_76 : decode cX8_withdraw 76 = .ok (.if_icmp .le 10, 3) := by decide +kernel
theorem dX8_withdraw_79 : decode cX8_withdraw 79 = .ok (.aload_n 0, 1) := by decide +kernel
theorem dX8_withdraw_80 : decode cX8_withdraw 80 = .ok (.bipush (-6), 2) := by decide +kernel
theorem dX8_withdraw_82 : decode cX8_withdraw 82 = .ok (.invokevirtual 70, 3) := by decide +kernel
theorem dX8_withdraw_85 : decode cX8_withdraw 85 = .ok (.ireturn, 1) := by decide +kernel
theorem dX8_withdraw_86 : decode cX8_withdraw 86 = .ok (.aload 4, 2) := by decide +kernel
theorem dX8_withdraw_88 : decode cX8_withdraw 88 = .ok (.iload_n 2, 1) := by decide +kernel
theorem dX8_withdraw_89 : decode cX8_withdraw 89 = .ok (.iload_n 3, 1) := by decide +kernel
theorem dX8_withdraw_90 : decode cX8_withdraw 90 = .ok (.invokevirtual 173, 3) := by decide +kernel
theorem dX8_withdraw_93 : decode cX8_withdraw 93 = .ok (.iconst 1, 1) := by decide +kernel
theorem dX8_withdraw_94 : decode cX8_withdraw 94 = .ok (.ireturn, 1) := by decide +kernel
theorem dX8_where_0 : decode cX8_where 0 = .ok (.iload_n 1, 1) := by decide +kernel
theorem dX8_where_1 : decode cX8_where 1 = .ok (.invokestatic 154, 3) := by decide +kernel
theorem dX8_where_4 : decode cX8_where 4 = .ok (.ifCond .ne 9, 3) := by decide +kernel
theorem dX8_where_7 : decode cX8_where 7 = .ok (.aload_n 0, 1) := by decide +kernel
theorem dX8_where_8 : decode cX8_where 8 = .ok (.iconst (-1), 1) := by decide +kernel
theorem dX8_where_9 : decode cX8_where 9 = .ok (.invokevirtual 70, 3) := by decide +kernel
theorem dX8_where_12 : decode cX8_where 12 = .ok (.ireturn, 1) := by decide +kernel
theorem dX8_where_13 : decode cX8_where 13 = .ok (.iload_n 2, 1) := by decide +kernel
theorem dX8_where_14 : decode cX8_where 14 = .ok (.iload_n 3, 1) := by decide +kernel
theorem dX8_where_15 : decode cX8_where 15 = .ok (.invokestatic 157, 3) := by decide +kernel
theorem dX8_where_18 : decode cX8_where 18 = .ok (.istore 4, 2) := by decide +kernel
theorem dX8_where_20 : decode cX8_where 20 = .ok (.iload 4, 2) := by decide +kernel
theorem dX8_where_22 : decode cX8_where 22 = .ok (.ifCond .eq 10, 3) := by decide +kernel
theorem dX8_where_25 : decode cX8_where 25 = .ok (.aload_n 0, 1) := by decide +kernel
theorem dX8_where_26 : decode cX8_where 26 = .ok (.iload 4, 2) := by decide +kernel
theorem dX8_where_28 : decode cX8_where 28 = .ok (.invokevirtual 70, 3) := by decide +kernel
theorem dX8_where_31 : decode cX8_where 31 = .ok (.ireturn, 1) := by decide +kernel
theorem dX8_where_32 : decode cX8_where 32 = .ok (.aload_n 0, 1) := by decide +kernel
theorem dX8_where_33 : decode cX8_where 33 = .ok (.getfield 34, 3) := by decide +kernel
theorem dX8_where_36 : decode cX8_where 36 = .ok (.iload_n 1, 1) := by decide +kernel
theorem dX8_where_37 : decode cX8_where 37 = .ok (.iload_n 2, 1) := by decide +kernel
theorem dX8_where_38 : decode cX8_where 38 = .ok (.iload_n 3, 1) := by decide +kernel
theorem dX8_where_39 : decode cX8_where 39 = .ok (.invokevirtual 176, 3) := by decide +kernel
theorem dX8_where_42 : decode cX8_where 42 = .ok (.ireturn, 1) := by decide +kernel
theorem dX8_quarrels_0 : decode cX8_quarrels 0 = .ok (.iload_n 1, 1) := by decide +kernel
theorem dX8_quarrels_1 : decode cX8_quarrels 1 = .ok (.invokestatic 154, 3) := by decide +kernel
theorem dX8_quarrels_4 : decode cX8_quarrels 4 = .ok (.ifCond .ne 9, 3) := by decide +kernel
theorem dX8_quarrels_7 : decode cX8_quarrels 7 = .ok (.aload_n 0, 1) := by decide +kernel
theorem dX8_quarrels_8 : decode cX8_quarrels 8 = .ok (.iconst (-1), 1) := by decide +kernel
theorem dX8_quarrels_9 : decode cX8_quarrels 9 = .ok (.invokevirtual 70, 3) := by decide +kernel
theorem dX8_quarrels_12 : decode cX8_quarrels 12 = .ok (.ireturn, 1) := by decide +kernel
theorem dX8_quarrels_13 : decode cX8_quarrels 13 = .ok (.iload_n 2, 1) := by decide +kernel
theorem dX8_quarrels_14 : decode cX8_quarrels 14 = .ok (.iload_n 2, 1) := by decide +kernel
theorem dX8_quarrels_15 : decode cX8_quarrels 15 = .ok (.invokestatic 157, 3) := by decide +kernel
theorem dX8_quarrels_18 : decode cX8_quarrels 18 = .ok (.istore_n 3, 1) := by decide +kernel
theorem dX8_quarrels_19 : decode cX8_quarrels 19 = .ok (.iload_n 3, 1) := by decide +kernel
theorem dX8_quarrels_20 : decode cX8_quarrels 20 = .ok (.ifCond .eq 9, 3) := by decide +kernel
theorem dX8_quarrels_23 : decode cX8_quarrels 23 = .ok (.aload_n 0, 1) := by decide +kernel
theorem dX8_quarrels_24 : decode cX8_quarrels 24 = .ok (.iload_n 3, 1) := by decide +kernel
theorem dX8_quarrels_25 : decode cX8_quarrels 25 = .ok (.invokevirtual 70, 3) := by decide +kernel
theorem dX8_quarrels_28 : decode cX8_quarrels 28 = .ok (.ireturn, 1) := by decide +kernel
theorem dX8_quarrels_29 : decode cX8_quarrels 29 = .ok (.aload_n 0, 1) := by decide +kernel
theorem dX8_quarrels_30 : decode cX8_quarrels 30 = .ok (.getfield 34, 3) := by decide +kernel
theorem dX8_quarrels_33 : decode cX8_quarrels 33 = .ok (.iload_n 1, 1) := by decide +kernel
theorem dX8_quarrels_34 : decode cX8_quarrels 34 = .ok (.iload_n 2, 1) := by decide +kernel
theorem dX8_quarrels_35 : decode cX8_quarrels 35 = .ok (.invokevirtual 180, 3) := by decide +kernel
theorem dX8_quarrels_38 : decode cX8_quarrels 38 = .ok (.ireturn, 1) := by decide +kernel
theorem dX8_holds_0 : decode cX8_holds 0 = .ok (.iload_n 1, 1) := by decide +kernel
theorem dX8_holds_1 : decode cX8_holds 1 = .ok (.invokestatic 154, 3) := by decide +kernel
theorem dX8_holds_4 : decode cX8_holds 4 = .ok (.ifCond .ne 9, 3) := by decide +kernel
theorem dX8_holds_7 : decode cX8_holds 7 = .ok (.aload_n 0, 1) := by decide +kernel
theorem dX8_holds_8 : decode cX8_holds 8 = .ok (.iconst (-1), 1) := by decide +kernel
theorem dX8_holds_9 : decode cX8_holds 9 = .ok (.invokevirtual 70, 3) := by decide +kernel
theorem dX8_holds_12 : decode cX8_holds 12 = .ok (.ireturn, 1) := by decide +kernel
theorem dX8_holds_13 : decode cX8_holds 13 = .ok (.iload 4, 2) := by decide +kernel
theorem dX8_holds_15 : decode cX8_holds 15 = .ok (.ifCond .lt 9, 3) := by decide +kernel
theorem dX8_holds_18 : decode cX8_holds 18 = .ok (.iload 4, 2) := by decide +kernel
theorem dX8_holds_20 : decode cX8_holds 20 = .ok (.iconst 2, 1) := by decide +kernel
theorem dX8_holds_21 : decode cX8_holds 21 = .ok (.if_icmp .le 10, 3) := by decide +kernel
theorem dX8_holds_24 : decode cX8_holds 24 = .ok (.aload_n 0, 1) := by decide +kernel
theorem dX8_holds_25 : decode cX8_holds 25 = .ok (.bipush (-2), 2) := by decide +kernel
theorem dX8_holds_27 : decode cX8_holds 27 = .ok (.invokevirtual 70, 3) := by decide +kernel
theorem dX8_holds_30 : decode cX8_holds 30 = .ok (.ireturn, 1) := by decide +kernel
theorem dX8_holds_31 : decode cX8_holds 31 = .ok (.iload_n 2, 1) := by decide +kernel
theorem dX8_holds_32 : decode cX8_holds 32 = .ok (.iload_n 3, 1) := by decide +kernel
theorem dX8_holds_33 : decode cX8_holds 33 = .ok (.invokestatic 157, 3) := by decide +kernel
theorem dX8_holds_36 : decode cX8_holds 36 = .ok (.istore 5, 2) := by decide +kernel
theorem dX8_holds_38 : decode cX8_holds 38 = .ok (.iload 5, 2) := by decide +kernel
theorem dX8_holds_40 : decode cX8_holds 40 = .ok (.ifCond .eq 10, 3) := by decide +kernel
theorem dX8_holds_43 : decode cX8_holds 43 = .ok (.aload_n 0, 1) := by decide +kernel
theorem dX8_holds_44 : decode cX8_holds 44 = .ok (.iload 5, 2) := by decide +kernel
theorem dX8_holds_46 : decode cX8_holds 46 = .ok (.invokevirtual 70, 3) := by decide +kernel
theorem dX8_holds_49 : decode cX8_holds 49 = .ok (.ireturn, 1) := by decide +kernel
theorem dX8_holds_50 : decode cX8_holds 50 = .ok (.aload_n 0, 1) := by decide +kernel
theorem dX8_holds_51 : decode cX8_holds 51 = .ok (.getfield 44, 3) := by decide +kernel
theorem dX8_holds_54 : decode cX8_holds 54 = .ok (.aload_n 0, 1) := by decide +kernel
theorem dX8_holds_55 : decode cX8_holds 55 = .ok (.getfield 38, 3) := by decide +kernel
theorem dX8_holds_58 : decode cX8_holds 58 = .ok (.iload_n 1, 1) := by decide +kernel
theorem dX8_holds_59 : decode cX8_holds 59 = .ok (.iload_n 2, 1) := by decide +kernel
theorem dX8_holds_60 : decode cX8_holds 60 = .ok (.iload_n 3, 1) := by decide +kernel
theorem dX8_holds_61 : decode cX8_holds 61 = .ok (.invokevirtual 183, 3) := by decide +kernel
theorem dX8_holds_64 : decode cX8_holds 64 = .ok (.iload 4, 2) := by decide +kernel
theorem dX8_holds_66 : decode cX8_holds 66 = .ok (.ifCond .ne 11, 3) := by decide +kernel
theorem dX8_holds_69 : decode cX8_holds 69 = .ok (.aload_n 0, 1) := by decide +kernel
theorem dX8_holds_70 : decode cX8_holds 70 = .ok (.getfield 44, 3) := by decide +kernel
theorem dX8_holds_73 : decode cX8_holds 73 = .ok (.getfield 187, 3) := by decide +kernel
theorem dX8_holds_76 : decode cX8_holds 76 = .ok (.ireturn, 1) := by decide +kernel
theorem dX8_holds_77 : decode cX8_holds 77 = .ok (.iload 4, 2) := by decide +kernel
theorem dX8_holds_79 : decode cX8_holds 79 = .ok (.iconst 1, 1) := by decide +kernel
theorem dX8_holds_80 : decode cX8_holds 80 = .ok (.if_icmp .ne 11, 3) := by decide +kernel
theorem dX8_holds_83 : decode cX8_holds 83 = .ok (.aload_n 0, 1) := by decide +kernel
theorem dX8_holds_84 : decode cX8_holds 84 = .ok (.getfield 44, 3) := by decide +kernel
theorem dX8_holds_87 : decode cX8_holds 87 = .ok (.getfield 190, 3) := by decide +kernel
theorem dX8_holds_90 : decode cX8_holds 90 = .ok (.ireturn, 1) := by decide +kernel
theorem dX8_holds_91 : decode cX8_holds 91 = .ok (.aload_n 0, 1) := by decide +kernel
theorem dX8_holds_92 : decode cX8_holds 92 = .ok (.getfield 44, 3) := by decide +kernel
theorem dX8_holds_95 : decode cX8_holds 95 = .ok (.getfield 193, 3) := by decide +kernel
theorem dX8_holds_98 : decode cX8_holds 98 = .ok (.ifCond .eq 7, 3) := by decide +kernel
theorem dX8_holds_101 : decode cX8_holds 101 = .ok (.iconst 1, 1) := by decide +kernel
theorem dX8_holds_102 : decode cX8_holds 102 = .ok (.goto 4, 3) := by decide +kernel
theorem dX8_holds_105 : decode cX8_holds 105 = .ok (.iconst 0, 1) := by decide +kernel
theorem dX8_holds_106 : decode cX8_holds 106 = .ok (.ireturn, 1) := by decide +kernel
theorem dX8_since_0 : decode cX8_since 0 = .ok (.iload_n 1, 1) := by decide +kernel
theorem dX8_since_1 : decode cX8_since 1 = .ok (.invokestatic 154, 3) := by decide +kernel
theorem dX8_since_4 : decode cX8_since 4 = .ok (.ifCond .ne 9, 3) := by decide +kernel
theorem dX8_since_7 : decode cX8_since 7 = .ok (.aload_n 0, 1) := by decide +kernel
theorem dX8_since_8 : decode cX8_since 8 = .ok (.iconst (-1), 1) := by decide +kernel
theorem dX8_since_9 : decode cX8_since 9 = .ok (.invokevirtual 70, 3) := by decide +kernel
theorem dX8_since_12 : decode cX8_since 12 = .ok (.ireturn, 1) := by decide +kernel
theorem dX8_since_13 : decode cX8_since 13 = .ok (.iload_n 2, 1) := by decide +kernel
theorem dX8_since_14 : decode cX8_since 14 = .ok (.iload_n 3, 1) := by decide +kernel
theorem dX8_since_15 : decode cX8_since 15 = .ok (.invokestatic 157, 3) := by decide +kernel
theorem dX8_since_18 : decode cX8_since 18 = .ok (.istore 4, 2) := by decide +kernel
theorem dX8_since_20 : decode cX8_since 20 = .ok (.iload 4, 2) := by decide +kernel
theorem dX8_since_22 : decode cX8_since 22 = .ok (.ifCond .eq 10, 3) := by decide +kernel
theorem dX8_since_25 : decode cX8_since 25 = .ok (.aload_n 0, 1) := by decide +kernel
theorem dX8_since_26 : decode cX8_since 26 = .ok (.iload 4, 2) := by decide +kernel
theorem dX8_since_28 : decode cX8_since 28 = .ok (.invokevirtual 70, 3) := by decide +kernel
theorem dX8_since_31 : decode cX8_since 31 = .ok (.ireturn, 1) := by decide +kernel
theorem dX8_since_32 : decode cX8_since 32 = .ok (.aload_n 0, 1) := by decide +kernel
theorem dX8_since_33 : decode cX8_since 33 = .ok (.getfield 44, 3) := by decide +kernel
theorem dX8_since_36 : decode cX8_since 36 = .ok (.aload_n 0, 1) := by decide +kernel
theorem dX8_since_37 : decode cX8_since 37 = .ok (.getfield 38, 3) := by decide +kernel
theorem dX8_since_40 : decode cX8_since 40 = .ok (.iload_n 1, 1) := by decide +kernel
theorem dX8_since_41 : decode cX8_since 41 = .ok (.iload_n 2, 1) := by decide +kernel
theorem dX8_since_42 : decode cX8_since 42 = .ok (.iload_n 3, 1) := by decide +kernel
theorem dX8_since_43 : decode cX8_since 43 = .ok (.invokevirtual 197, 3) := by decide +kernel
theorem dX8_since_46 : decode cX8_since 46 = .ok (.ireturn, 1) := by decide +kernel
theorem dX8_visitor_0 : decode cX8_visitor 0 = .ok (.iload_n 1, 1) := by decide +kernel
theorem dX8_visitor_1 : decode cX8_visitor 1 = .ok (.ifCond .lt 8, 3) := by decide +kernel
theorem dX8_visitor_4 : decode cX8_visitor 4 = .ok (.iload_n 1, 1) := by decide +kernel
theorem dX8_visitor_5 : decode cX8_visitor 5 = .ok (.iconst 3, 1) := by decide +kernel
theorem dX8_visitor_6 : decode cX8_visitor 6 = .ok (.if_icmp .le 10, 3) := by decide +kernel
theorem dX8_visitor_9 : decode cX8_visitor 9 = .ok (.aload_n 0, 1) := by decide +kernel
theorem dX8_visitor_10 : decode cX8_visitor 10 = .ok (.bipush (-2), 2) := by decide +kernel
theorem dX8_visitor_12 : decode cX8_visitor 12 = .ok (.invokevirtual 70, 3) := by decide +kernel
theorem dX8_visitor_15 : decode cX8_visitor 15 = .ok (.ireturn, 1) := by decide +kernel
theorem dX8_visitor_16 : decode cX8_visitor 16 = .ok (.iload_n 2, 1) := by decide +kernel
theorem dX8_visitor_17 : decode cX8_visitor 17 = .ok (.invokestatic 154, 3) := by decide +kernel
theorem dX8_visitor_20 : decode cX8_visitor 20 = .ok (.ifCond .eq 22, 3) := by decide +kernel
theorem dX8_visitor_23 : decode cX8_visitor 23 = .ok (.iload_n 1, 1) := by decide +kernel
theorem dX8_visitor_24 : decode cX8_visitor 24 = .ok (.invokestatic 201, 3) := by decide +kernel
theorem dX8_visitor_27 : decode cX8_visitor 27 = .ok (.ifCond .eq 21, 3) := by decide +kernel
theorem dX8_visitor_30 : decode cX8_visitor 30 = .ok (.iload_n 3, 1) := by decide +kernel
theorem dX8_visitor_31 : decode cX8_visitor 31 = .ok (.invokestatic 154, 3) := by decide +kernel
theorem dX8_visitor_34 : decode cX8_visitor 34 = .ok (.ifCond .eq 8, 3) := by decide +kernel
end
section
theorem dX8_visitor_37 : decode cX8_visitor 37 = .ok (.iload_n 2, 1) := by decide +kernel
theorem dX8_visitor_38 : decode cX8_visitor 38 = .ok (.iload_n 3, 1) := by decide +kernel
theorem dX8_visitor_39 : decode cX8_visitor 39 = .ok (.if_icmp .ne 9, 3) := by decide +kernel
theorem dX8_visitor_42 : decode cX8_visitor 42 = .ok (.aload_n 0, 1) := by decide +kernel
theorem dX8_visitor_43 : decode cX8_visitor 43 = .ok (.iconst (-1), 1) := by decide +kernel
theorem dX8_visitor_44 : decode cX8_visitor 44 = .ok (.invokevirtual 70, 3) := by decide +kernel
theorem dX8_visitor_47 : decode cX8_visitor 47 = .ok (.ireturn, 1) := by decide +kernel
theorem dX8_visitor_48 : decode cX8_visitor 48 = .ok (.iload 4, 2) := by decide +kernel
theorem dX8_visitor_50 : decode cX8_visitor 50 = .ok (.iconst 1, 1) := by decide +kernel
theorem dX8_visitor_51 : decode cX8_visitor 51 = .ok (.if_icmp .ge 10, 3) := by decide +kernel
theorem dX8_visitor_54 : decode cX8_visitor 54 = .ok (.aload_n 0, 1) := by decide +kernel
theorem dX8_visitor_55 : decode cX8_visitor 55 = .ok (.bipush (-4), 2) := by decide +kernel
theorem dX8_visitor_57 : decode cX8_visitor 57 = .ok (.invokevirtual 70, 3) := by decide +kernel
theorem dX8_visitor_60 : decode cX8_visitor 60 = .ok (.ireturn, 1) := by decide +kernel
theorem dX8_visitor_61 : decode cX8_visitor 61 = .ok (.iload 4, 2) := by decide +kernel
theorem dX8_visitor_63 : decode cX8_visitor 63 = .ok (.bipush 9, 2) := by decide +kernel
theorem dX8_visitor_65 : decode cX8_visitor 65 = .ok (.if_icmp .gt 15, 3) := by decide +kernel
theorem dX8_visitor_68 : decode cX8_visitor 68 = .ok (.aload_n 0, 1) := by decide +kernel
theorem dX8_visitor_69 : decode cX8_visitor 69 = .ok (.getfield 51, 3) := by decide +kernel
theorem dX8_visitor_72 : decode cX8_visitor 72 = .ok (.getfield 204, 3) := by decide +kernel
theorem dX8_visitor_75 : decode cX8_visitor 75 = .ok (.bipush 40, 2) := by decide +kernel
theorem dX8_visitor_77 : decode cX8_visitor 77 = .ok (.if_icmp .lt 10, 3) := by decide +kernel
theorem dX8_visitor_80 : decode cX8_visitor 80 = .ok (.aload_n 0, 1) := by decide +kernel
theorem dX8_visitor_81 : decode cX8_visitor 81 = .ok (.bipush (-6), 2) := by decide +kernel
theorem dX8_visitor_83 : decode cX8_visitor 83 = .ok (.invokevirtual 70, 3) := by decide +kernel
theorem dX8_visitor_86 : decode cX8_visitor 86 = .ok (.ireturn, 1) := by decide +kernel
theorem dX8_visitor_87 : decode cX8_visitor 87 = .ok (.aload_n 0, 1) := by decide +kernel
theorem dX8_visitor_88 : decode cX8_visitor 88 = .ok (.getfield 51, 3) := by decide +kernel
theorem dX8_visitor_91 : decode cX8_visitor 91 = .ok (.iload_n 1, 1) := by decide +kernel
theorem dX8_visitor_92 : decode cX8_visitor 92 = .ok (.iload_n 2, 1) := by decide +kernel
theorem dX8_visitor_93 : decode cX8_visitor 93 = .ok (.iload_n 1, 1) := by decide +kernel
theorem dX8_visitor_94 : decode cX8_visitor 94 = .ok (.invokestatic 201, 3) := by decide +kernel
theorem dX8_visitor_97 : decode cX8_visitor 97 = .ok (.ifCond .eq 7, 3) := by decide +kernel
theorem dX8_visitor_100 : decode cX8_visitor 100 = .ok (.iload_n 3, 1) := by decide +kernel
theorem dX8_visitor_101 : decode cX8_visitor 101 = .ok (.goto 4, 3) := by decide +kernel
theorem dX8_visitor_104 : decode cX8_visitor 104 = .ok (.iload_n 2, 1) := by decide +kernel
theorem dX8_visitor_105 : decode cX8_visitor 105 = .ok (.iload 4, 2) := by decide +kernel
theorem dX8_visitor_107 : decode cX8_visitor 107 = .ok (.invokevirtual 205, 3) := by decide +kernel
theorem dX8_visitor_110 : decode cX8_visitor 110 = .ok (.ireturn, 1) := by decide +kernel
theorem dX8_shelf_0 : decode cX8_shelf 0 = .ok (.iload_n 1, 1) := by decide +kernel
theorem dX8_shelf_1 : decode cX8_shelf 1 = .ok (.invokestatic 208, 3) := by decide +kernel
theorem dX8_shelf_4 : decode cX8_shelf 4 = .ok (.istore_n 2, 1) := by decide +kernel
theorem dX8_shelf_5 : decode cX8_shelf 5 = .ok (.iload_n 2, 1) := by decide +kernel
theorem dX8_shelf_6 : decode cX8_shelf 6 = .ok (.ifCond .eq 9, 3) := by decide +kernel
theorem dX8_shelf_9 : decode cX8_shelf 9 = .ok (.aload_n 0, 1) := by decide +kernel
theorem dX8_shelf_10 : decode cX8_shelf 10 = .ok (.iload_n 2, 1) := by decide +kernel
theorem dX8_shelf_11 : decode cX8_shelf 11 = .ok (.invokevirtual 70, 3) := by decide +kernel
theorem dX8_shelf_14 : decode cX8_shelf 14 = .ok (.ireturn, 1) := by decide +kernel
theorem dX8_shelf_15 : decode cX8_shelf 15 = .ok (.aload_n 0, 1) := by decide +kernel
theorem dX8_shelf_16 : decode cX8_shelf 16 = .ok (.iload_n 1, 1) := by decide +kernel
theorem dX8_shelf_17 : decode cX8_shelf 17 = .ok (.invokevirtual 211, 3) := by decide +kernel
theorem dX8_shelf_20 : decode cX8_shelf 20 = .ok (.getfield 215, 3) := by decide +kernel
theorem dX8_shelf_23 : decode cX8_shelf 23 = .ok (.ireturn, 1) := by decide +kernel
theorem dX8_row_0 : decode cX8_row 0 = .ok (.iload_n 1, 1) := by decide +kernel
theorem dX8_row_1 : decode cX8_row 1 = .ok (.invokestatic 208, 3) := by decide +kernel
theorem dX8_row_4 : decode cX8_row 4 = .ok (.istore_n 3, 1) := by decide +kernel
theorem dX8_row_5 : decode cX8_row 5 = .ok (.iload_n 3, 1) := by decide +kernel
theorem dX8_row_6 : decode cX8_row 6 = .ok (.ifCond .eq 9, 3) := by decide +kernel
theorem dX8_row_9 : decode cX8_row 9 = .ok (.aload_n 0, 1) := by decide +kernel
theorem dX8_row_10 : decode cX8_row 10 = .ok (.iload_n 3, 1) := by decide +kernel
theorem dX8_row_11 : decode cX8_row 11 = .ok (.invokevirtual 70, 3) := by decide +kernel
theorem dX8_row_14 : decode cX8_row 14 = .ok (.ireturn, 1) := by decide +kernel
theorem dX8_row_15 : decode cX8_row 15 = .ok (.aload_n 0, 1) := by decide +kernel
theorem dX8_row_16 : decode cX8_row 16 = .ok (.iload_n 1, 1) := by decide +kernel
theorem dX8_row_17 : decode cX8_row 17 = .ok (.invokevirtual 211, 3) := by decide +kernel
theorem dX8_row_20 : decode cX8_row 20 = .ok (.astore 4, 2) := by decide +kernel
theorem dX8_row_22 : decode cX8_row 22 = .ok (.iload_n 2, 1) := by decide +kernel
theorem dX8_row_23 : decode cX8_row 23 = .ok (.ifCond .lt 12, 3) := by decide +kernel
theorem dX8_row_26 : decode cX8_row 26 = .ok (.iload_n 2, 1) := by decide +kernel
theorem dX8_row_27 : decode cX8_row 27 = .ok (.aload 4, 2) := by decide +kernel
theorem dX8_row_29 : decode cX8_row 29 = .ok (.getfield 218, 3) := by decide +kernel
theorem dX8_row_32 : decode cX8_row 32 = .ok (.if_icmp .lt 8, 3) := by decide +kernel
theorem dX8_row_35 : decode cX8_row 35 = .ok (.bipush (-9), 2) := by decide +kernel
theorem dX8_row_37 : decode cX8_row 37 = .ok (.goto 10, 3) := by decide +kernel
theorem dX8_row_40 : decode cX8_row 40 = .ok (.aload 4, 2) := by decide +kernel
theorem dX8_row_42 : decode cX8_row 42 = .ok (.getfield 221, 3) := by decide +kernel
theorem dX8_row_45 : decode cX8_row 45 = .ok (.iload_n 2, 1) := by decide +kernel
theorem dX8_row_46 : decode cX8_row 46 = .ok (.iaload, 1) := by decide +kernel
theorem dX8_row_47 : decode cX8_row 47 = .ok (.ireturn, 1) := by decide +kernel
theorem dX8_quarrel_0 : decode cX8_quarrel 0 = .ok (.iload_n 1, 1) := by decide +kernel
theorem dX8_quarrel_1 : decode cX8_quarrel 1 = .ok (.invokestatic 208, 3) := by decide +kernel
theorem dX8_quarrel_4 : decode cX8_quarrel 4 = .ok (.istore_n 2, 1) := by decide +kernel
theorem dX8_quarrel_5 : decode cX8_quarrel 5 = .ok (.iload_n 2, 1) := by decide +kernel
theorem dX8_quarrel_6 : decode cX8_quarrel 6 = .ok (.ifCond .eq 9, 3) := by decide +kernel
theorem dX8_quarrel_9 : decode cX8_quarrel 9 = .ok (.aload_n 0, 1) := by decide +kernel
theorem dX8_quarrel_10 : decode cX8_quarrel 10 = .ok (.iload_n 2, 1) := by decide +kernel
theorem dX8_quarrel_11 : decode cX8_quarrel 11 = .ok (.invokevirtual 70, 3) := by decide +kernel
theorem dX8_quarrel_14 : decode cX8_quarrel 14 = .ok (.ireturn, 1) := by decide +kernel
theorem dX8_quarrel_15 : decode cX8_quarrel 15 = .ok (.aload_n 0, 1) := by decide +kernel
theorem dX8_quarrel_16 : decode cX8_quarrel 16 = .ok (.iload_n 1, 1) := by decide +kernel
theorem dX8_quarrel_17 : decode cX8_quarrel 17 = .ok (.invokevirtual 211, 3) := by decide +kernel
theorem dX8_quarrel_20 : decode cX8_quarrel 20 = .ok (.astore_n 3, 1) := by decide +kernel
theorem dX8_quarrel_21 : decode cX8_quarrel 21 = .ok (.aload_n 3, 1) := by decide +kernel
theorem dX8_quarrel_22 : decode cX8_quarrel 22 = .ok (.getfield 224, 3) := by decide +kernel
theorem dX8_quarrel_25 : decode cX8_quarrel 25 = .ok (.aload_n 3, 1) := by decide +kernel
theorem dX8_quarrel_26 : decode cX8_quarrel 26 = .ok (.getfield 215, 3) := by decide +kernel
theorem dX8_quarrel_29 : decode cX8_quarrel 29 = .ok (.isub, 1) := by decide +kernel
theorem dX8_quarrel_30 : decode cX8_quarrel 30 = .ok (.ireturn, 1) := by decide +kernel
theorem dX8_part_0 : decode cX8_part 0 = .ok (.iload_n 1, 1) := by decide +kernel
theorem dX8_part_1 : decode cX8_part 1 = .ok (.ifCond .lt 9, 3) := by decide +kernel
theorem dX8_part_4 : decode cX8_part 4 = .ok (.iload_n 1, 1) := by decide +kernel
theorem dX8_part_5 : decode cX8_part 5 = .ok (.bipush 10, 2) := by decide +kernel
theorem dX8_part_7 : decode cX8_part 7 = .ok (.if_icmp .lt 9, 3) := by decide +kernel
theorem dX8_part_10 : decode cX8_part 10 = .ok (.aload_n 0, 1) := by decide +kernel
theorem dX8_part_11 : decode cX8_part 11 = .ok (.iconst (-1), 1) := by decide +kernel
theorem dX8_part_12 : decode cX8_part 12 = .ok (.invokevirtual 70, 3) := by decide +kernel
theorem dX8_part_15 : decode cX8_part 15 = .ok (.ireturn, 1) := by decide +kernel
theorem dX8_part_16 : decode cX8_part 16 = .ok (.iload_n 2, 1) := by decide +kernel
theorem dX8_part_17 : decode cX8_part 17 = .ok (.ifCond .ge 10, 3) := by decide +kernel
theorem dX8_part_20 : decode cX8_part 20 = .ok (.aload_n 0, 1) := by decide +kernel
theorem dX8_part_21 : decode cX8_part 21 = .ok (.bipush (-4), 2) := by decide +kernel
theorem dX8_part_23 : decode cX8_part 23 = .ok (.invokevirtual 70, 3) := by decide +kernel
theorem dX8_part_26 : decode cX8_part 26 = .ok (.ireturn, 1) := by decide +kernel
theorem dX8_part_27 : decode cX8_part 27 = .ok (.iload_n 2, 1) := by decide +kernel
theorem dX8_part_28 : decode cX8_part 28 = .ok (.bipush 6, 2) := by decide +kernel
theorem dX8_part_30 : decode cX8_part 30 = .ok (.if_icmp .lt 10, 3) := by decide +kernel
theorem dX8_part_33 : decode cX8_part 33 = .ok (.aload_n 0, 1) := by decide +kernel
theorem dX8_part_34 : decode cX8_part 34 = .ok (.bipush (-6), 2) := by decide +kernel
theorem dX8_part_36 : decode cX8_part 36 = .ok (.invokevirtual 70, 3) := by decide +kernel
theorem dX8_part_39 : decode cX8_part 39 = .ok (.ireturn, 1) := by decide +kernel
theorem dX8_part_40 : decode cX8_part 40 = .ok (.aload_n 0, 1) := by decide +kernel
theorem dX8_part_41 : decode cX8_part 41 = .ok (.getfield 58, 3) := by decide +kernel
theorem dX8_part_44 : decode cX8_part 44 = .ok (.iload_n 1, 1) := by decide +kernel
theorem dX8_part_45 : decode cX8_part 45 = .ok (.iload_n 2, 1) := by decide +kernel
theorem dX8_part_46 : decode cX8_part 46 = .ok (.invokevirtual 227, 3) := by decide +kernel
theorem dX8_part_49 : decode cX8_part 49 = .ok (.ireturn, 1) := by decide +kernel
theorem dX8_clash_0 : decode cX8_clash 0 = .ok (.iload_n 1, 1) := by decide +kernel
theorem dX8_clash_1 : decode cX8_clash 1 = .ok (.ifCond .lt 7, 3) := by decide +kernel
theorem dX8_clash_4 : decode cX8_clash 4 = .ok (.iload_n 2, 1) := by decide +kernel
theorem dX8_clash_5 : decode cX8_clash 5 = .ok (.ifCond .ge 10, 3) := by decide +kernel
theorem dX8_clash_8 : decode cX8_clash 8 = .ok (.aload_n 0, 1) := by decide +kernel
theorem dX8_clash_9 : decode cX8_clash 9 = .ok (.bipush (-4), 2) := by decide +kernel
theorem dX8_clash_11 : decode cX8_clash 11 = .ok (.invokevirtual 70, 3) := by decide +kernel
theorem dX8_clash_14 : decode cX8_clash 14 = .ok (.ireturn, 1) := by decide +kernel
theorem dX8_clash_15 : decode cX8_clash 15 = .ok (.iload_n 1, 1) := by decide +kernel
theorem dX8_clash_16 : decode cX8_clash 16 = .ok (.bipush 6, 2) := by decide +kernel
theorem dX8_clash_18 : decode cX8_clash 18 = .ok (.if_icmp .ge 9, 3) := by decide +kernel
theorem dX8_clash_21 : decode cX8_clash 21 = .ok (.iload_n 2, 1) := by decide +kernel
theorem dX8_clash_22 : decode cX8_clash 22 = .ok (.bipush 6, 2) := by decide +kernel
theorem dX8_clash_24 : decode cX8_clash 24 = .ok (.if_icmp .lt 10, 3) := by decide +kernel
theorem dX8_clash_27 : decode cX8_clash 27 = .ok (.aload_n 0, 1) := by decide +kernel
theorem dX8_clash_28 : decode cX8_clash 28 = .ok (.bipush (-6), 2) := by decide +kernel
theorem dX8_clash_30 : decode cX8_clash 30 = .ok (.invokevirtual 70, 3) := by decide +kernel
theorem dX8_clash_33 : decode cX8_clash 33 = .ok (.ireturn, 1) := by decide +kernel
theorem dX8_clash_34 : decode cX8_clash 34 = .ok (.iload_n 1, 1) := by decide +kernel
theorem dX8_clash_35 : decode cX8_clash 35 = .ok (.iload_n 2, 1) := by decide +kernel
theorem dX8_clash_36 : decode cX8_clash 36 = .ok (.if_icmp .ne 10, 3) := by decide +kernel
theorem dX8_clash_39 : decode cX8_clash 39 = .ok (.aload_n 0, 1) := by decide +kernel
theorem dX8_clash_40 : decode cX8_clash 40 = .ok (.bipush (-3), 2) := by decide +kernel
theorem dX8_clash_42 : decode cX8_clash 42 = .ok (.invokevirtual 70, 3) := by decide +kernel
theorem dX8_clash_45 : decode cX8_clash 45 = .ok (.ireturn, 1) := by decide +kernel
theorem dX8_clash_46 : decode cX8_clash 46 = .ok (.aload_n 0, 1) := by decide +kernel
theorem dX8_clash_47 : decode cX8_clash 47 = .ok (.getfield 58, 3) := by decide +kernel
theorem dX8_clash_50 : decode cX8_clash 50 = .ok (.iload_n 1, 1) := by decide +kernel
theorem dX8_clash_51 : decode cX8_clash 51 = .ok (.iload_n 2, 1) := by decide +kernel
theorem dX8_clash_52 : decode cX8_clash 52 = .ok (.iload_n 3, 1) := by decide +kernel
theorem dX8_clash_53 : decode cX8_clash 53 = .ok (.invokevirtual 230, 3) := by decide +kernel
theorem dX8_clash_56 : decode cX8_clash 56 = .ok (.ifCond .eq 7, 3) := by decide +kernel
theorem dX8_clash_59 : decode cX8_clash 59 = .ok (.iconst 1, 1) := by decide +kernel
theorem dX8_clash_60 : decode cX8_clash 60 = .ok (.goto 4, 3) := by decide +kernel
theorem dX8_clash_63 : decode cX8_clash 63 = .ok (.iconst 0, 1) := by decide +kernel
theorem dX8_clash_64 : decode cX8_clash 64 = .ok (.ireturn, 1) := by decide +kernel
theorem dX8_fake_0 : decode cX8_fake 0 = .ok (.iload_n 1, 1) := by decide +kernel
theorem dX8_fake_1 : decode cX8_fake 1 = .ok (.bipush 10, 2) := by decide +kernel
theorem dX8_fake_3 : decode cX8_fake 3 = .ok (.invokestatic 87, 3) := by decide +kernel
theorem dX8_fake_6 : decode cX8_fake 6 = .ok (.ifCond .eq 9, 3) := by decide +kernel
theorem dX8_fake_9 : decode cX8_fake 9 = .ok (.aload_n 0, 1) := by decide +kernel
theorem dX8_fake_10 : decode cX8_fake 10 = .ok (.iconst (-1), 1) := by decide +kernel
theorem dX8_fake_11 : decode cX8_fake 11 = .ok (.invokevirtual 70, 3) := by decide +kernel
theorem dX8_fake_14 : decode cX8_fake 14 = .ok (.ireturn, 1) := by decide +kernel
theorem dX8_fake_15 : decode cX8_fake 15 = .ok (.aload_n 0, 1) := by decide +kernel
theorem dX8_fake_16 : decode cX8_fake 16 = .ok (.getfield 58, 3) := by decide +kernel
theorem dX8_fake_19 : decode cX8_fake 19 = .ok (.iload_n 1, 1) := by decide +kernel
theorem dX8_fake_20 : decode cX8_fake 20 = .ok (.invokevirtual 234, 3) := by decide +kernel
theorem dX8_fake_23 : decode cX8_fake 23 = .ok (.ifCond .eq 7, 3) := by decide +kernel
theorem dX8_fake_26 : decode cX8_fake 26 = .ok (.iconst 1, 1) := by decide +kernel
theorem dX8_fake_27 : decode cX8_fake 27 = .ok (.goto 4, 3) := by decide +kernel
theorem dX8_fake_30 : decode cX8_fake 30 = .ok (.iconst 0, 1) := by decide +kernel
theorem dX8_fake_31 : decode cX8_fake 31 = .ok (.ireturn, 1) := by decide +kernel
theorem dX8_least_0 : decode cX8_least 0 = .ok (.iload_n 1, 1) := by decide +kernel
theorem dX8_least_1 : decode cX8_least 1 = .ok (.bipush 10, 2) := by decide +kernel
theorem dX8_least_3 : decode cX8_least 3 = .ok (.invokestatic 87, 3) := by decide +kernel
theorem dX8_least_6 : decode cX8_least 6 = .ok (.ifCond .eq 9, 3) := by decide +kernel
theorem dX8_least_9 : decode cX8_least 9 = .ok (.aload_n 0, 1) := by decide +kernel
theorem dX8_least_10 : decode cX8_least 10 = .ok (.iconst (-1), 1) := by decide +kernel
theorem dX8_least_11 : decode cX8_least 11 = .ok (.invokevirtual 70, 3) := by decide +kernel
theorem dX8_least_14 : decode cX8_least 14 = .ok (.ireturn, 1) := by decide +kernel
theorem dX8_least_15 : decode cX8_least 15 = .ok (.aload_n 0, 1) := by decide +kernel
theorem dX8_least_16 : decode cX8_least 16 = .ok (.getfield 58, 3) := by decide +kernel
theorem dX8_least_19 : decode cX8_least 19 = .ok (.iload_n 1, 1) := by decide +kernel
theorem dX8_least_20 : decode cX8_least 20 = .ok (.invokevirtual 237, 3) := by decide +kernel
theorem dX8_least_23 : decode cX8_least 23 = .ok (.ireturn, 1) := by decide +kernel
theorem dX8_count_0 : decode cX8_count 0 = .ok (.iload_n 1, 1) := by decide +kernel
theorem dX8_count_1 : decode cX8_count 1 = .ok (.tableswitch 121 0 9 #[55, 55, 55, 55, 65, 73, 81, 89, 97, 105], 55) := by decide +kernel
theorem dX8_count_56 : decode cX8_count 56 = .ok (.aload_n 0, 1) := by decide +kernel
theorem dX8_count_57 : decode cX8_count 57 = .ok (.getfield 20, 3) := by decide +kernel
theorem dX8_count_60 : decode cX8_count 60 = .ok (.getfield 91, 3) := by decide +kernel
theorem dX8_count_63 : decode cX8_count 63 = .ok (.iload_n 1, 1) := by decide +kernel
theorem dX8_count_64 : decode cX8_count 64 = .ok (.iaload, 1) := by decide +kernel
theorem dX8_count_65 : decode cX8_count 65 = .ok (.ireturn, 1) := by decide +kernel
theorem dX8_count_66 : decode cX8_count 66 = .ok (.aload_n 0, 1) := by decide +kernel
theorem dX8_count_67 : decode cX8_count 67 = .ok (.getfield 34, 3) := by decide +kernel
theorem dX8_count_70 : decode cX8_count 70 = .ok (.getfield 160, 3) := by decide +kernel
theorem dX8_count_73 : decode cX8_count 73 = .ok (.ireturn, 1) := by decide +kernel
theorem dX8_count_74 : decode cX8_count 74 = .ok (.aload_n 0, 1) := by decide +kernel
theorem dX8_count_75 : decode cX8_count 75 = .ok (.getfield 38, 3) := by decide +kernel
theorem dX8_count_78 : decode cX8_count 78 = .ok (.getfield 160, 3) := by decide +kernel
theorem dX8_count_81 : decode cX8_count 81 = .ok (.ireturn, 1) := by decide +kernel
theorem dX8_count_82 : decode cX8_count 82 = .ok (.aload_n 0, 1) := by decide +kernel
theorem dX8_count_83 : decode cX8_count 83 = .ok (.getfield 51, 3) := by decide +kernel
theorem dX8_count_86 : decode cX8_count 86 = .ok (.getfield 204, 3) := by decide +kernel
theorem dX8_count_89 : decode cX8_count 89 = .ok (.ireturn, 1) := by decide +kernel
theorem dX8_count_90 : decode cX8_count 90 = .ok (.aload_n 0, 1) := by decide +kernel
theorem dX8_count_91 : decode cX8_count 91 = .ok (.getfield 20, 3) := by decide +kernel
theorem dX8_count_94 : decode cX8_count 94 = .ok (.getfield 113, 3) := by decide +kernel
theorem dX8_count_97 : decode cX8_count 97 = .ok (.ireturn, 1) := by decide +kernel
theorem dX8_count_98 : decode cX8_count 98 = .ok (.aload_n 0, 1) := by decide +kernel
theorem dX8_count_99 : decode cX8_count 99 = .ok (.getfield 58, 3) := by decide +kernel
theorem dX8_count_102 : decode cX8_count 102 = .ok (.getfield 240, 3) := by decide +kernel
theorem dX8_count_105 : decode cX8_count 105 = .ok (.ireturn, 1) := by decide +kernel
theorem dX8_count_106 : decode cX8_count 106 = .ok (.aload_n 0, 1) := by decide +kernel
theorem dX8_count_107 : decode cX8_count 107 = .ok (.getfield 34, 3) := by decide +kernel
theorem dX8_count_110 : decode cX8_count 110 = .ok (.getfield 243, 3) := by decide +kernel
theorem dX8_count_113 : decode cX8_count 113 = .ok (.aload_n 0, 1) := by decide +kernel
theorem dX8_count_114 : decode cX8_count 114 = .ok (.getfield 38, 3) := by decide +kernel
theorem dX8_count_117 : decode cX8_count 117 = .ok (.getfield 243, 3) := by decide +kernel
theorem dX8_count_120 : decode cX8_count 120 = .ok (.iadd, 1) := by decide +kernel
theorem dX8_count_121 : decode cX8_count 121 = .ok (.ireturn, 1) := by decide +kernel
theorem dX8_count_122 : decode cX8_count 122 = .ok (.iload_n 1, 1) := by decide +kernel
theorem dX8_count_123 : decode cX8_count 123 = .ok (.bipush 10, 2) := by decide +kernel
theorem dX8_count_125 : decode cX8_count 125 = .ok (.if_icmp .le 21, 3) := by decide +kernel
theorem dX8_count_128 : decode cX8_count 128 = .ok (.iload_n 1, 1) := by decide +kernel
theorem dX8_count_129 : decode cX8_count 129 = .ok (.bipush 16, 2) := by decide +kernel
theorem dX8_count_131 : decode cX8_count 131 = .ok (.if_icmp .gt 15, 3) := by decide +kernel
theorem dX8_count_134 : decode cX8_count 134 = .ok (.aload_n 0, 1) := by decide +kernel
theorem dX8_count_135 : decode cX8_count 135 = .ok (.getfield 62, 3) := by decide +kernel
theorem dX8_count_138 : decode cX8_count 138 = .ok (.iload_n 1, 1) := by decide +kernel
theorem dX8_count_139 : decode cX8_count 139 = .ok (.bipush 10, 2) := by decide +kernel
theorem dX8_count_141 : decode cX8_count 141 = .ok (.isub, 1) := by decide +kernel
theorem dX8_count_142 : decode cX8_count 142 = .ok (.iaload, 1) := by decide +kernel
theorem dX8_count_143 : decode cX8_count 143 = .ok (.goto 5, 3) := by decide +kernel
theorem dX8_count_146 : decode cX8_count 146 = .ok (.bipush (-9), 2) := by decide +kernel
theorem dX8_count_148 : decode cX8_count 148 = .ok (.ireturn, 1) := by decide +kernel
theorem dX8_refuse_0 : decode cX8_refuse 0 = .ok (.aload_n 0, 1) := by decide +kernel
theorem dX8_refuse_1 : decode cX8_refuse 1 = .ok (.getfield 62, 3) := by decide +kernel
theorem dX8_refuse_4 : decode cX8_refuse 4 = .ok (.iload_n 1, 1) := by decide +kernel
theorem dX8_refuse_5 : decode cX8_refuse 5 = .ok (.ineg, 1) := by decide +kernel
theorem dX8_refuse_6 : decode cX8_refuse 6 = .ok (.dup2, 1) := by decide +kernel
theorem dX8_refuse_7 : decode cX8_refuse 7 = .ok (.iaload, 1) := by decide +kernel
theorem dX8_refuse_8 : decode cX8_refuse 8 = .ok (.iconst 1, 1) := by decide +kernel
theorem dX8_refuse_9 : decode cX8_refuse 9 = .ok (.iadd, 1) := by decide +kernel
theorem dX8_refuse_10 : decode cX8_refuse 10 = .ok (.iastore, 1) := by decide +kernel
theorem dX8_refuse_11 : decode cX8_refuse 11 = .ok (.iload_n 1, 1) := by decide +kernel
theorem dX8_refuse_12 : decode cX8_refuse 12 = .ok (.ireturn, 1) := by decide +kernel
theorem dX8_isWord_0 : decode cX8_isWord 0 = .ok (.iload_n 0, 1) := by decide +kernel
theorem dX8_isWord_1 : decode cX8_isWord 1 = .ok (.ifCond .lt 13, 3) := by decide +kernel
theorem dX8_isWord_4 : decode cX8_isWord 4 = .ok (.iload_n 0, 1) := by decide +kernel
theorem dX8_isWord_5 : decode cX8_isWord 5 = .ok (.bipush 20, 2) := by decide +kernel
theorem dX8_isWord_7 : decode cX8_isWord 7 = .ok (.if_icmp .ge 7, 3) := by decide +kernel
theorem dX8_isWord_10 : decode cX8_isWord 10 = .ok (.iconst 1, 1) := by decide +kernel
theorem dX8_isWord_11 : decode cX8_isWord 11 = .ok (.goto 4, 3) := by decide +kernel
theorem dX8_isWord_14 : decode cX8_isWord 14 = .ok (.iconst 0, 1) := by decide +kernel
theorem dX8_isWord_15 : decode cX8_isWord 15 = .ok (.ireturn, 1) := by decide +kernel
theorem dX8_isCatalogue_0 : decode cX8_isCatalogue 0 = .ok (.iload_n 0, 1) := by decide +kernel
theorem dX8_isCatalogue_1 : decode cX8_isCatalogue 1 = .ok (.ifCond .lt 12, 3) := by decide +kernel
theorem dX8_isCatalogue_4 : decode cX8_isCatalogue 4 = .ok (.iload_n 0, 1) := by decide +kernel
theorem dX8_isCatalogue_5 : decode cX8_isCatalogue 5 = .ok (.iconst 4, 1) := by decide +kernel
theorem dX8_isCatalogue_6 : decode cX8_isCatalogue 6 = .ok (.if_icmp .ge 7, 3) := by decide +kernel
theorem dX8_isCatalogue_9 : decode cX8_isCatalogue 9 = .ok (.iconst 1, 1) := by decide +kernel
theorem dX8_isCatalogue_10 : decode cX8_isCatalogue 10 = .ok (.goto 4, 3) := by decide +kernel
theorem dX8_isCatalogue_13 : decode cX8_isCatalogue 13 = .ok (.iconst 0, 1) := by decide +kernel
theorem dX8_isCatalogue_14 : decode cX8_isCatalogue 14 = .ok (.ireturn, 1) := by decide +kernel
theorem dX8_areTwo_0 : decode cX8_areTwo 0 = .ok (.iload_n 0, 1) := by decide +kernel
theorem dX8_areTwo_1 : decode cX8_areTwo 1 = .ok (.invokestatic 81, 3) := by decide +kernel
theorem dX8_areTwo_4 : decode cX8_areTwo 4 = .ok (.ifCond .eq 19, 3) := by decide +kernel
theorem dX8_areTwo_7 : decode cX8_areTwo 7 = .ok (.iload_n 1, 1) := by decide +kernel
theorem dX8_areTwo_8 : decode cX8_areTwo 8 = .ok (.invokestatic 81, 3) := by decide +kernel
theorem dX8_areTwo_11 : decode cX8_areTwo 11 = .ok (.ifCond .eq 12, 3) := by decide +kernel
theorem dX8_areTwo_14 : decode cX8_areTwo 14 = .ok (.iload_n 0, 1) := by decide +kernel
theorem dX8_areTwo_15 : decode cX8_areTwo 15 = .ok (.iload_n 1, 1) := by decide +kernel
theorem dX8_areTwo_16 : decode cX8_areTwo 16 = .ok (.if_icmp .eq 7, 3) := by decide +kernel
theorem dX8_areTwo_19 : decode cX8_areTwo 19 = .ok (.iconst 1, 1) := by decide +kernel
theorem dX8_areTwo_20 : decode cX8_areTwo 20 = .ok (.goto 4, 3) := by decide +kernel
theorem dX8_areTwo_23 : decode cX8_areTwo 23 = .ok (.iconst 0, 1) := by decide +kernel
theorem dX8_areTwo_24 : decode cX8_areTwo 24 = .ok (.ireturn, 1) := by decide +kernel
theorem dX8_isThing_0 : decode cX8_isThing 0 = .ok (.iload_n 0, 1) := by decide +kernel
theorem dX8_isThing_1 : decode cX8_isThing 1 = .ok (.ifCond .lt 13, 3) := by decide +kernel
theorem dX8_isThing_4 : decode cX8_isThing 4 = .ok (.iload_n 0, 1) := by decide +kernel
theorem dX8_isThing_5 : decode cX8_isThing 5 = .ok (.bipush 12, 2) := by decide +kernel
theorem dX8_isThing_7 : decode cX8_isThing 7 = .ok (.if_icmp .ge 7, 3) := by decide +kernel
theorem dX8_isThing_10 : decode cX8_isThing 10 = .ok (.iconst 1, 1) := by decide +kernel
theorem dX8_isThing_11 : decode cX8_isThing 11 = .ok (.goto 4, 3) := by decide +kernel
theorem dX8_isThing_14 : decode cX8_isThing 14 = .ok (.iconst 0, 1) := by decide +kernel
theorem dX8_isThing_15 : decode cX8_isThing 15 = .ok (.ireturn, 1) := by decide +kernel
theorem dX8_needsTwo_0 : decode cX8_needsTwo 0 = .ok (.iload_n 0, 1) := by decide +kernel
theorem dX8_needsTwo_1 : decode cX8_needsTwo 1 = .ok (.ifCond .eq 8, 3) := by decide +kernel
theorem dX8_needsTwo_4 : decode cX8_needsTwo 4 = .ok (.iload_n 0, 1) := by decide +kernel
theorem dX8_needsTwo_5 : decode cX8_needsTwo 5 = .ok (.iconst 1, 1) := by decide +kernel
theorem dX8_needsTwo_6 : decode cX8_needsTwo 6 = .ok (.if_icmp .ne 7, 3) := by decide +kernel
theorem dX8_needsTwo_9 : decode cX8_needsTwo 9 = .ok (.iconst 1, 1) := by decide +kernel
theorem dX8_needsTwo_10 : decode cX8_needsTwo 10 = .ok (.goto 4, 3) := by decide +kernel
theorem dX8_needsTwo_13 : decode cX8_needsTwo 13 = .ok (.iconst 0, 1) := by decide +kernel
theorem dX8_needsTwo_14 : decode cX8_needsTwo 14 = .ok (.ireturn, 1) := by decide +kernel
theorem dX8_hasOtherBits_0 : decode cX8_hasOtherBits 0 = .ok (.iload_n 0, 1) := by decide +kernel
theorem dX8_hasOtherBits_1 : decode cX8_hasOtherBits 1 = .ok (.ifCond .lt 10, 3) := by decide +kernel
theorem dX8_hasOtherBits_4 : decode cX8_hasOtherBits 4 = .ok (.iload_n 0, 1) := by decide +kernel
theorem dX8_hasOtherBits_5 : decode cX8_hasOtherBits 5 = .ok (.iconst 1, 1) := by decide +kernel
theorem dX8_hasOtherBits_6 : decode cX8_hasOtherBits 6 = .ok (.iload_n 1, 1) := by decide +kernel
theorem dX8_hasOtherBits_7 : decode cX8_hasOtherBits 7 = .ok (.ishl, 1) := by decide +kernel
theorem dX8_hasOtherBits_8 : decode cX8_hasOtherBits 8 = .ok (.if_icmp .lt 7, 3) := by decide +kernel
theorem dX8_hasOtherBits_11 : decode cX8_hasOtherBits 11 = .ok (.iconst 1, 1) := by decide +kernel
theorem dX8_hasOtherBits_12 : decode cX8_hasOtherBits 12 = .ok (.goto 4, 3) := by decide +kernel
theorem dX8_hasOtherBits_15 : decode cX8_hasOtherBits 15 = .ok (.iconst 0, 1) := by decide +kernel
theorem dX8_hasOtherBits_16 : decode cX8_hasOtherBits 16 = .ok (.ireturn, 1) := by decide +kernel
theorem dX8_isEntry_0 : decode cX8_isEntry 0 = .ok (.iload_n 1, 1) := by decide +kernel
theorem dX8_isEntry_1 : decode cX8_isEntry 1 = .ok (.invokestatic 81, 3) := by decide +kernel
theorem dX8_isEntry_4 : decode cX8_isEntry 4 = .ok (.ifCond .eq 24, 3) := by decide +kernel
theorem dX8_isEntry_7 : decode cX8_isEntry 7 = .ok (.iload_n 2, 1) := by decide +kernel
theorem dX8_isEntry_8 : decode cX8_isEntry 8 = .ok (.ifCond .lt 20, 3) := by decide +kernel
theorem dX8_isEntry_11 : decode cX8_isEntry 11 = .ok (.iload_n 2, 1) := by decide +kernel
theorem dX8_isEntry_12 : decode cX8_isEntry 12 = .ok (.aload_n 0, 1) := by decide +kernel
theorem dX8_isEntry_13 : decode cX8_isEntry 13 = .ok (.getfield 20, 3) := by decide +kernel
theorem dX8_isEntry_16 : decode cX8_isEntry 16 = .ok (.getfield 91, 3) := by decide +kernel
theorem dX8_isEntry_19 : decode cX8_isEntry 19 = .ok (.iload_n 1, 1) := by decide +kernel
theorem dX8_isEntry_20 : decode cX8_isEntry 20 = .ok (.iaload, 1) := by decide +kernel
theorem dX8_isEntry_21 : decode cX8_isEntry 21 = .ok (.if_icmp .ge 7, 3) := by decide +kernel
theorem dX8_isEntry_24 : decode cX8_isEntry 24 = .ok (.iconst 1, 1) := by decide +kernel
theorem dX8_isEntry_25 : decode cX8_isEntry 25 = .ok (.goto 4, 3) := by decide +kernel
theorem dX8_isEntry_28 : decode cX8_isEntry 28 = .ok (.iconst 0, 1) := by decide +kernel
theorem dX8_isEntry_29 : decode cX8_isEntry 29 = .ok (.ireturn, 1) := by decide +kernel
theorem dX8_daysRefusal_0 : decode cX8_daysRefusal 0 = .ok (.iload_n 0, 1) := by decide +kernel
theorem dX8_daysRefusal_1 : decode cX8_daysRefusal 1 = .ok (.ifCond .lt 7, 3) := by decide +kernel
theorem dX8_daysRefusal_4 : decode cX8_daysRefusal 4 = .ok (.iload_n 1, 1) := by decide +kernel
theorem dX8_daysRefusal_5 : decode cX8_daysRefusal 5 = .ok (.ifCond .ge 6, 3) := by decide +kernel
theorem dX8_daysRefusal_8 : decode cX8_daysRefusal 8 = .ok (.bipush (-4), 2) := by decide +kernel
theorem dX8_daysRefusal_10 : decode cX8_daysRefusal 10 = .ok (.ireturn, 1) := by decide +kernel
theorem dX8_daysRefusal_11 : decode cX8_daysRefusal 11 = .ok (.iload_n 0, 1) := by decide +kernel
theorem dX8_daysRefusal_12 : decode cX8_daysRefusal 12 = .ok (.ldc 172, 2) := by decide +kernel
theorem dX8_daysRefusal_14 : decode cX8_daysRefusal 14 = .ok (.if_icmp .gt 9, 3) := by decide +kernel
theorem dX8_daysRefusal_17 : decode cX8_daysRefusal 17 = .ok (.iload_n 1, 1) := by decide +kernel
theorem dX8_daysRefusal_18 : decode cX8_daysRefusal 18 = .ok (.ldc 172, 2) := by decide +kernel
theorem dX8_daysRefusal_20 : decode cX8_daysRefusal 20 = .ok (.if_icmp .le 8, 3) := by decide +kernel
theorem dX8_daysRefusal_23 : decode cX8_daysRefusal 23 = .ok (.bipush (-6), 2) := by decide +kernel
theorem dX8_daysRefusal_25 : decode cX8_daysRefusal 25 = .ok (.goto 4, 3) := by decide +kernel
theorem dX8_daysRefusal_28 : decode cX8_daysRefusal 28 = .ok (.iconst 0, 1) := by decide +kernel
theorem dX8_daysRefusal_29 : decode cX8_daysRefusal 29 = .ok (.ireturn, 1) := by decide +kernel
theorem dX8_shelfRefusal_0 : decode cX8_shelfRefusal 0 = .ok (.iload_n 0, 1) := by decide +kernel
theorem dX8_shelfRefusal_1 : decode cX8_shelfRefusal 1 = .ok (.ifCond .eq 12, 3) := by decide +kernel
theorem dX8_shelfRefusal_4 : decode cX8_shelfRefusal 4 = .ok (.iload_n 0, 1) := by decide +kernel
theorem dX8_shelfRefusal_5 : decode cX8_shelfRefusal 5 = .ok (.bipush 12, 2) := by decide +kernel
theorem dX8_shelfRefusal_7 : decode cX8_shelfRefusal 7 = .ok (.invokestatic 87, 3) := by decide +kernel
theorem dX8_shelfRefusal_10 : decode cX8_shelfRefusal 10 = .ok (.ifCond .eq 5, 3) := by decide +kernel
theorem dX8_shelfRefusal_13 : decode cX8_shelfRefusal 13 = .ok (.iconst (-1), 1) := by decide +kernel
theorem dX8_shelfRefusal_14 : decode cX8_shelfRefusal 14 = .ok (.ireturn, 1) := by decide +kernel
theorem dX8_shelfRefusal_15 : decode cX8_shelfRefusal 15 = .ok (.iload_n 0, 1) := by decide +kernel
theorem dX8_shelfRefusal_16 : decode cX8_shelfRefusal 16 = .ok (.invokestatic 246, 3) := by decide +kernel
theorem dX8_shelfRefusal_19 : decode cX8_shelfRefusal 19 = .ok (.bipush 8, 2) := by decide +kernel
theorem dX8_shelfRefusal_21 : decode cX8_shelfRefusal 21 = .ok (.if_icmp .le 8, 3) := by decide +kernel
theorem dX8_shelfRefusal_24 : decode cX8_shelfRefusal 24 = .ok (.bipush (-6), 2) := by decide +kernel
theorem dX8_shelfRefusal_26 : decode cX8_shelfRefusal 26 = .ok (.goto 4, 3) := by decide +kernel
theorem dX8_shelfRefusal_29 : decode cX8_shelfRefusal 29 = .ok (.iconst 0, 1) := by decide +kernel
theorem dX8_shelfRefusal_30 : decode cX8_shelfRefusal 30 = .ok (.ireturn, 1) := by decide +kernel
theorem dX8_isWay_0 : decode cX8_isWay 0 = .ok (.iload_n 1, 1) := by decide +kernel
theorem dX8_isWay_1 : decode cX8_isWay 1 = .ok (.iconst 1, 1) := by decide +kernel
theorem dX8_isWay_2 : decode cX8_isWay 2 = .ok (.if_icmp .lt 10, 3) := by decide +kernel
theorem dX8_isWay_5 : decode cX8_isWay 5 = .ok (.iload_n 1, 1) := by decide +kernel
theorem dX8_isWay_6 : decode cX8_isWay 6 = .ok (.sipush 999, 3) := by decide +kernel
theorem dX8_isWay_9 : decode cX8_isWay 9 = .ok (.if_icmp .le 5, 3) := by decide +kernel
theorem dX8_isWay_12 : decode cX8_isWay 12 = .ok (.iconst 0, 1) := by decide +kernel
theorem dX8_isWay_13 : decode cX8_isWay 13 = .ok (.ireturn, 1) := by decide +kernel
theorem dX8_isWay_14 : decode cX8_isWay 14 = .ok (.iconst 1, 1) := by decide +kernel
theorem dX8_isWay_15 : decode cX8_isWay 15 = .ok (.iload_n 0, 1) := by decide +kernel
theorem dX8_isWay_16 : decode cX8_isWay 16 = .ok (.ishl, 1) := by decide +kernel
theorem dX8_isWay_17 : decode cX8_isWay 17 = .ok (.istore_n 2, 1) := by decide +kernel
theorem dX8_isWay_18 : decode cX8_isWay 18 = .ok (.iload_n 1, 1) := by decide +kernel
theorem dX8_isWay_19 : decode cX8_isWay 19 = .ok (.istore_n 3, 1) := by decide +kernel
theorem dX8_isWay_20 : decode cX8_isWay 20 = .ok (.iload_n 3, 1) := by decide +kernel
theorem dX8_isWay_21 : decode cX8_isWay 21 = .ok (.ifCond .le 45, 3) := by decide +kernel
theorem dX8_isWay_24 : decode cX8_isWay 24 = .ok (.iload_n 3, 1) := by decide +kernel
theorem dX8_isWay_25 : decode cX8_isWay 25 = .ok (.bipush 10, 2) := by decide +kernel
theorem dX8_isWay_27 : decode cX8_isWay 27 = .ok (.irem, 1) := by decide +kernel
theorem dX8_isWay_28 : decode cX8_isWay 28 = .ok (.iconst 1, 1) := by decide +kernel
theorem dX8_isWay_29 : decode cX8_isWay 29 = .ok (.isub, 1) := by decide +kernel
theorem dX8_isWay_30 : decode cX8_isWay 30 = .ok (.istore 4, 2) := by decide +kernel
theorem dX8_isWay_32 : decode cX8_isWay 32 = .ok (.iload 4, 2) := by decide +kernel
theorem dX8_isWay_34 : decode cX8_isWay 34 = .ok (.invokestatic 81, 3) := by decide +kernel
theorem dX8_isWay_37 : decode cX8_isWay 37 = .ok (.ifCond .eq 12, 3) := by decide +kernel
theorem dX8_isWay_40 : decode cX8_isWay 40 = .ok (.iload_n 2, 1) := by decide +kernel
theorem dX8_isWay_41 : decode cX8_isWay 41 = .ok (.iload 4, 2) := by decide +kernel
theorem dX8_isWay_43 : decode cX8_isWay 43 = .ok (.ishr, 1) := by decide +kernel
theorem dX8_isWay_44 : decode cX8_isWay 44 = .ok (.iconst 1, 1) := by decide +kernel
theorem dX8_isWay_45 : decode cX8_isWay 45 = .ok (.iand, 1) := by decide +kernel
theorem dX8_isWay_46 : decode cX8_isWay 46 = .ok (.ifCond .eq 5, 3) := by decide +kernel
theorem dX8_isWay_49 : decode cX8_isWay 49 = .ok (.iconst 0, 1) := by decide +kernel
theorem dX8_isWay_50 : decode cX8_isWay 50 = .ok (.ireturn, 1) := by decide +kernel
theorem dX8_isWay_51 : decode cX8_isWay 51 = .ok (.iload_n 2, 1) := by decide +kernel
theorem dX8_isWay_52 : decode cX8_isWay 52 = .ok (.iconst 1, 1) := by decide +kernel
theorem dX8_isWay_53 : decode cX8_isWay 53 = .ok (.iload 4, 2) := by decide +kernel
theorem dX8_isWay_55 : decode cX8_isWay 55 = .ok (.ishl, 1) := by decide +kernel
theorem dX8_isWay_56 : decode cX8_isWay 56 = .ok (.ior, 1) := by decide +kernel
theorem dX8_isWay_57 : decode cX8_isWay 57 = .ok (.istore_n 2, 1) := by decide +kernel
theorem dX8_isWay_58 : decode cX8_isWay 58 = .ok (.iload_n 3, 1) := by decide +kernel
theorem dX8_isWay_59 : decode cX8_isWay 59 = .ok (.bipush 10, 2) := by decide +kernel
theorem dX8_isWay_61 : decode cX8_isWay 61 = .ok (.idiv, 1) := by decide +kernel
theorem dX8_isWay_62 : decode cX8_isWay 62 = .ok (.istore_n 3, 1) := by decide +kernel
theorem dX8_isWay_63 : decode cX8_isWay 63 = .ok (.goto (-43), 3) := by decide +kernel
theorem dX8_isWay_66 : decode cX8_isWay 66 = .ok (.iconst 1, 1) := by decide +kernel
theorem dX8_isWay_67 : decode cX8_isWay 67 = .ok (.ireturn, 1) := by decide +kernel
theorem dX8_followChain_0 : decode cX8_followChain 0 = .ok (.iload_n 1, 1) := by decide +kernel
theorem dX8_followChain_1 : decode cX8_followChain 1 = .ok (.istore 5, 2) := by decide +kernel
theorem dX8_followChain_3 : decode cX8_followChain 3 = .ok (.iload_n 2, 1) := by decide +kernel
theorem dX8_followChain_4 : decode cX8_followChain 4 = .ok (.istore 6, 2) := by decide +kernel
theorem dX8_followChain_6 : decode cX8_followChain 6 = .ok (.iconst 0, 1) := by decide +kernel
theorem dX8_followChain_7 : decode cX8_followChain 7 = .ok (.istore 7, 2) := by decide +kernel
theorem dX8_followChain_9 : decode cX8_followChain 9 = .ok (.iconst 0, 1) := by decide +kernel
theorem dX8_followChain_10 : decode cX8_followChain 10 = .ok (.istore 8, 2) := by decide +kernel
theorem dX8_followChain_12 : decode cX8_followChain 12 = .ok (.bipush 100, 2) := by decide +kernel
theorem dX8_followChain_14 : decode cX8_followChain 14 = .ok (.istore 9, 2) := by decide +kernel
theorem dX8_followChain_16 : decode cX8_followChain 16 = .ok (.iload 9, 2) := by decide +kernel
theorem dX8_followChain_18 : decode cX8_followChain 18 = .ok (.ifCond .le 131, 3) := by decide +kernel
theorem dX8_followChain_21 : decode cX8_followChain 21 = .ok (.iload 6, 2) := by decide +kernel
theorem dX8_followChain_23 : decode cX8_followChain 23 = .ok (.bipush (-9), 2) := by decide +kernel
theorem dX8_followChain_25 : decode cX8_followChain 25 = .ok (.if_icmp .eq 124, 3) := by decide +kernel
theorem dX8_followChain_28 : decode cX8_followChain 28 = .ok (.iload_n 3, 1) := by decide +kernel
theorem dX8_followChain_29 : decode cX8_followChain 29 = .ok (.iload 9, 2) := by decide +kernel
theorem dX8_followChain_31 : decode cX8_followChain 31 = .ok (.idiv, 1) := by decide +kernel
theorem dX8_followChain_32 : decode cX8_followChain 32 = .ok (.bipush 10, 2) := by decide +kernel
theorem dX8_followChain_34 : decode cX8_followChain 34 = .ok (.irem, 1) := by decide +kernel
theorem dX8_followChain_35 : decode cX8_followChain 35 = .ok (.iconst 1, 1) := by decide +kernel
theorem dX8_followChain_36 : decode cX8_followChain 36 = .ok (.isub, 1) := by decide +kernel
theorem dX8_followChain_37 : decode cX8_followChain 37 = .ok (.istore 10, 2) := by decide +kernel
theorem dX8_followChain_39 : decode cX8_followChain 39 = .ok (.iload 10, 2) := by decide +kernel
theorem dX8_followChain_41 : decode cX8_followChain 41 = .ok (.ifCond .lt 98, 3) := by decide +kernel
theorem dX8_followChain_44 : decode cX8_followChain 44 = .ok (.aload_n 0, 1) := by decide +kernel
theorem dX8_followChain_45 : decode cX8_followChain 45 = .ok (.iload 5, 2) := by decide +kernel
theorem dX8_followChain_47 : decode cX8_followChain 47 = .ok (.iload 10, 2) := by decide +kernel
theorem dX8_followChain_49 : decode cX8_followChain 49 = .ok (.invokevirtual 124, 3) := by decide +kernel
theorem dX8_followChain_52 : decode cX8_followChain 52 = .ok (.astore 11, 2) := by decide +kernel
theorem dX8_followChain_54 : decode cX8_followChain 54 = .ok (.aload 11, 2) := by decide +kernel
theorem dX8_followChain_56 : decode cX8_followChain 56 = .ok (.getfield 131, 3) := by decide +kernel
theorem dX8_followChain_59 : decode cX8_followChain 59 = .ok (.iload 6, 2) := by decide +kernel
theorem dX8_followChain_61 : decode cX8_followChain 61 = .ok (.iaload, 1) := by decide +kernel
theorem dX8_followChain_62 : decode cX8_followChain 62 = .ok (.istore 12, 2) := by decide +kernel
theorem dX8_followChain_64 : decode cX8_followChain 64 = .ok (.iload 12, 2) := by decide +kernel
theorem dX8_followChain_66 : decode cX8_followChain 66 = .ok (.bipush (-9), 2) := by decide +kernel
theorem dX8_followChain_68 : decode cX8_followChain 68 = .ok (.if_icmp .eq 63, 3) := by decide +kernel
theorem dX8_followChain_71 : decode cX8_followChain 71 = .ok (.iinc 7 1, 3) := by decide +kernel
theorem dX8_followChain_74 : decode cX8_followChain 74 = .ok (.aload_n 0, 1) := by decide +kernel
theorem dX8_followChain_75 : decode cX8_followChain 75 = .ok (.getfield 20, 3) := by decide +kernel
theorem dX8_followChain_78 : decode cX8_followChain 78 = .ok (.iload 5, 2) := by decide +kernel
theorem dX8_followChain_80 : decode cX8_followChain 80 = .ok (.bipush 10, 2) := by decide +kernel
theorem dX8_followChain_82 : decode cX8_followChain 82 = .ok (.imul, 1) := by decide +kernel
theorem dX8_followChain_83 : decode cX8_followChain 83 = .ok (.iload 6, 2) := by decide +kernel
theorem dX8_followChain_85 : decode cX8_followChain 85 = .ok (.iadd, 1) := by decide +kernel
theorem dX8_followChain_86 : decode cX8_followChain 86 = .ok (.iload 10, 2) := by decide +kernel
theorem dX8_followChain_88 : decode cX8_followChain 88 = .ok (.bipush 10, 2) := by decide +kernel
theorem dX8_followChain_90 : decode cX8_followChain 90 = .ok (.imul, 1) := by decide +kernel
theorem dX8_followChain_91 : decode cX8_followChain 91 = .ok (.iload 12, 2) := by decide +kernel
theorem dX8_followChain_93 : decode cX8_followChain 93 = .ok (.iadd, 1) := by decide +kernel
theorem dX8_followChain_94 : decode cX8_followChain 94 = .ok (.invokevirtual 121, 3) := by decide +kernel
theorem dX8_followChain_97 : decode cX8_followChain 97 = .ok (.istore 13, 2) := by decide +kernel
theorem dX8_followChain_99 : decode cX8_followChain 99 = .ok (.iload 8, 2) := by decide +kernel
theorem dX8_followChain_101 : decode cX8_followChain 101 = .ok (.iconst 0, 1) := by decide +kernel
theorem dX8_followChain_102 : decode cX8_followChain 102 = .ok (.bipush 100, 2) := by decide +kernel
theorem dX8_followChain_104 : decode cX8_followChain 104 = .ok (.iload 13, 2) := by decide +kernel
theorem dX8_followChain_106 : decode cX8_followChain 106 = .ok (.isub, 1) := by decide +kernel
theorem dX8_followChain_107 : decode cX8_followChain 107 = .ok (.invokestatic 251, 3) := by decide +kernel
theorem dX8_followChain_110 : decode cX8_followChain 110 = .ok (.aload 11, 2) := by decide +kernel
theorem dX8_followChain_112 : decode cX8_followChain 112 = .ok (.getfield 137, 3) := by decide +kernel
theorem dX8_followChain_115 : decode cX8_followChain 115 = .ok (.iload 6, 2) := by decide +kernel
theorem dX8_followChain_117 : decode cX8_followChain 117 = .ok (.baload, 1) := by decide +kernel
theorem dX8_followChain_118 : decode cX8_followChain 118 = .ok (.ifCond .eq 7, 3) := by decide +kernel
theorem dX8_followChain_121 : decode cX8_followChain 121 = .ok (.iconst 0, 1) := by decide +kernel
theorem dX8_followChain_122 : decode cX8_followChain 122 = .ok (.goto 5, 3) := by decide +kernel
theorem dX8_followChain_125 : decode cX8_followChain 125 = .ok (.bipush 50, 2) := by decide +kernel
theorem dX8_followChain_127 : decode cX8_followChain 127 = .ok (.iadd, 1) := by decide +kernel
theorem dX8_followChain_128 : decode cX8_followChain 128 = .ok (.iadd, 1) := by decide +kernel
theorem dX8_followChain_129 : decode cX8_followChain 129 = .ok (.istore 8, 2) := by decide +kernel
theorem dX8_followChain_131 : decode cX8_followChain 131 = .ok (.iload 10, 2) := by decide +kernel
theorem dX8_followChain_133 : decode cX8_followChain 133 = .ok (.istore 5, 2) := by decide +kernel
theorem dX8_followChain_135 : decode cX8_followChain 135 = .ok (.iload 12, 2) := by decide +kernel
theorem dX8_followChain_137 : decode cX8_followChain 137 = .ok (.istore 6, 2) := by decide +kernel
theorem dX8_followChain_139 : decode cX8_followChain 139 = .ok (.iload 9, 2) := by decide +kernel
theorem dX8_followChain_141 : decode cX8_followChain 141 = .ok (.bipush 10, 2) := by decide +kernel
theorem dX8_followChain_143 : decode cX8_followChain 143 = .ok (.idiv, 1) := by decide +kernel
theorem dX8_followChain_144 : decode cX8_followChain 144 = .ok (.istore 9, 2) := by decide +kernel
theorem dX8_followChain_146 : decode cX8_followChain 146 = .ok (.goto (-130), 3) := by decide +kernel
theorem dX8_followChain_149 : decode cX8_followChain 149 = .ok (.iload 4, 2) := by decide +kernel
theorem dX8_followChain_151 : decode cX8_followChain 151 = .ok (.ifCond .ne 6, 3) := by decide +kernel
theorem dX8_followChain_154 : decode cX8_followChain 154 = .ok (.iload 6, 2) := by decide +kernel
theorem dX8_followChain_156 : decode cX8_followChain 156 = .ok (.ireturn, 1) := by decide +kernel
theorem dX8_followChain_157 : decode cX8_followChain 157 = .ok (.iload 4, 2) := by decide +kernel
theorem dX8_followChain_159 : decode cX8_followChain 159 = .ok (.iconst 1, 1) := by decide +kernel
theorem dX8_followChain_160 : decode cX8_followChain 160 = .ok (.if_icmp .ne 8, 3) := by decide +kernel
theorem dX8_followChain_163 : decode cX8_followChain 163 = .ok (.iload 7, 2) := by decide +kernel
theorem dX8_followChain_165 : decode cX8_followChain 165 = .ok (.goto 5, 3) := by decide +kernel
theorem dX8_followChain_168 : decode cX8_followChain 168 = .ok (.iload 8, 2) := by decide +kernel
theorem dX8_followChain_170 : decode cX8_followChain 170 = .ok (.ireturn, 1) := by decide +kernel
theorem dX8_bestJoining_0 : decode cX8_bestJoining 0 = .ok (.aload_n 0, 1) := by decide +kernel
theorem dX8_bestJoining_1 : decode cX8_bestJoining 1 = .ok (.getfield 26, 3) := by decide +kernel
theorem dX8_bestJoining_4 : decode cX8_bestJoining 4 = .ok (.iload_n 1, 1) := by decide +kernel
theorem dX8_bestJoining_5 : decode cX8_bestJoining 5 = .ok (.iconst 4, 1) := by decide +kernel
theorem dX8_bestJoining_6 : decode cX8_bestJoining 6 = .ok (.imul, 1) := by decide +kernel
theorem dX8_bestJoining_7 : decode cX8_bestJoining 7 = .ok (.iload_n 2, 1) := by decide +kernel
theorem dX8_bestJoining_8 : decode cX8_bestJoining 8 = .ok (.iadd, 1) := by decide +kernel
theorem dX8_bestJoining_9 : decode cX8_bestJoining 9 = .ok (.aaload, 1) := by decide +kernel
theorem dX8_bestJoining_10 : decode cX8_bestJoining 10 = .ok (.astore_n 3, 1) := by decide +kernel
theorem dX8_bestJoining_11 : decode cX8_bestJoining 11 = .ok (.aload_n 3, 1) := by decide +kernel
theorem dX8_bestJoining_12 : decode cX8_bestJoining 12 = .ok (.getfield 256, 3) := by decide +kernel
theorem dX8_bestJoining_15 : decode cX8_bestJoining 15 = .ok (.aload_n 0, 1) := by decide +kernel
theorem dX8_bestJoining_16 : decode cX8_bestJoining 16 = .ok (.getfield 20, 3) := by decide +kernel
theorem dX8_bestJoining_19 : decode cX8_bestJoining 19 = .ok (.getfield 259, 3) := by decide +kernel
theorem dX8_bestJoining_22 : decode cX8_bestJoining 22 = .ok (.if_icmp .eq 46, 3) := by decide +kernel
theorem dX8_bestJoining_25 : decode cX8_bestJoining 25 = .ok (.aload_n 0, 1) := by decide +kernel
theorem dX8_bestJoining_26 : decode cX8_bestJoining 26 = .ok (.getfield 9, 3) := by decide +kernel
theorem dX8_bestJoining_29 : decode cX8_bestJoining 29 = .ok (.ifnonnull 14, 3) := by decide +kernel
theorem dX8_bestJoining_32 : decode cX8_bestJoining 32 = .ok (.aload_n 0, 1) := by decide +kernel
theorem dX8_bestJoining_33 : decode cX8_bestJoining 33 = .ok (.new 260, 3) := by decide +kernel
theorem dX8_bestJoining_36 : decode cX8_bestJoining 36 = .ok (.dup, 1) := by decide +kernel
theorem dX8_bestJoining_37 : decode cX8_bestJoining 37 = .ok (.invokespecial 262, 3) := by decide +kernel
theorem dX8_bestJoining_40 : decode cX8_bestJoining 40 = .ok (.putfield 9, 3) := by decide +kernel
theorem dX8_bestJoining_43 : decode cX8_bestJoining 43 = .ok (.aload_n 0, 1) := by decide +kernel
theorem dX8_bestJoining_44 : decode cX8_bestJoining 44 = .ok (.getfield 9, 3) := by decide +kernel
theorem dX8_bestJoining_47 : decode cX8_bestJoining 47 = .ok (.aload_n 0, 1) := by decide +kernel
theorem dX8_bestJoining_48 : decode cX8_bestJoining 48 = .ok (.getfield 20, 3) := by decide +kernel
theorem dX8_bestJoining_51 : decode cX8_bestJoining 51 = .ok (.iload_n 1, 1) := by decide +kernel
theorem dX8_bestJoining_52 : decode cX8_bestJoining 52 = .ok (.iload_n 2, 1) := by decide +kernel
theorem dX8_bestJoining_53 : decode cX8_bestJoining 53 = .ok (.aload_n 3, 1) := by decide +kernel
theorem dX8_bestJoining_54 : decode cX8_bestJoining 54 = .ok (.invokevirtual 263, 3) := by decide +kernel
theorem dX8_bestJoining_57 : decode cX8_bestJoining 57 = .ok (.aload_n 3, 1) := by decide +kernel
theorem dX8_bestJoining_58 : decode cX8_bestJoining 58 = .ok (.aload_n 0, 1) := by decide +kernel
theorem dX8_bestJoining_59 : decode cX8_bestJoining 59 = .ok (.getfield 20, 3) := by decide +kernel
theorem dX8_bestJoining_62 : decode cX8_bestJoining 62 = .ok (.getfield 259, 3) := by decide +kernel
theorem dX8_bestJoining_65 : decode cX8_bestJoining 65 = .ok (.putfield 256, 3) := by decide +kernel
theorem dX8_bestJoining_68 : decode cX8_bestJoining 68 = .ok (.aload_n 3, 1) := by decide +kernel
theorem dX8_bestJoining_69 : decode cX8_bestJoining 69 = .ok (.areturn, 1) := by decide +kernel
theorem dX8_bestRow_0 : decode cX8_bestRow 0 = .ok (.aload_n 0, 1) := by decide +kernel
theorem dX8_bestRow_1 : decode cX8_bestRow 1 = .ok (.getfield 13, 3) := by decide +kernel
theorem dX8_bestRow_4 : decode cX8_bestRow 4 = .ok (.ifnonnull 14, 3) := by decide +kernel
theorem dX8_bestRow_7 : decode cX8_bestRow 7 = .ok (.aload_n 0, 1) := by decide +kernel
theorem dX8_bestRow_8 : decode cX8_bestRow 8 = .ok (.new 216, 3) := by decide +kernel
theorem dX8_bestRow_11 : decode cX8_bestRow 11 = .ok (.dup, 1) := by decide +kernel
theorem dX8_bestRow_12 : decode cX8_bestRow 12 = .ok (.invokespecial 267, 3) := by decide +kernel
theorem dX8_bestRow_15 : decode cX8_bestRow 15 = .ok (.putfield 13, 3) := by decide +kernel
theorem dX8_bestRow_18 : decode cX8_bestRow 18 = .ok (.aload_n 0, 1) := by decide +kernel
theorem dX8_bestRow_19 : decode cX8_bestRow 19 = .ok (.getfield 13, 3) := by decide +kernel
theorem dX8_bestRow_22 : decode cX8_bestRow 22 = .ok (.iload_n 1, 1) := by decide +kernel
theorem dX8_bestRow_23 : decode cX8_bestRow 23 = .ok (.aload_n 0, 1) := by decide +kernel
theorem dX8_bestRow_24 : decode cX8_bestRow 24 = .ok (.getfield 51, 3) := by decide +kernel
theorem dX8_bestRow_27 : decode cX8_bestRow 27 = .ok (.invokevirtual 268, 3) := by decide +kernel
theorem dX8_bestRow_30 : decode cX8_bestRow 30 = .ok (.aload_n 0, 1) := by decide +kernel
theorem dX8_bestRow_31 : decode cX8_bestRow 31 = .ok (.getfield 13, 3) := by decide +kernel
theorem dX8_bestRow_34 : decode cX8_bestRow 34 = .ok (.areturn, 1) := by decide +kernel
theorem dX9_init_0 : decode cX9_init 0 = .ok (.aload_n 0, 1) := by decide +kernel
theorem dX9_init_1 : decode cX9_init 1 = .ok (.invokespecial 1, 3) := by decide +kernel
theorem dX9_init_4 : decode cX9_init 4 = .ok (.aload_n 0, 1) := by decide +kernel
theorem dX9_init_5 : decode cX9_init 5 = .ok (.bipush 7, 2) := by decide +kernel
theorem dX9_init_7 : decode cX9_init 7 = .ok (.newarray .int, 2) := by decide +kernel
theorem dX9_init_9 : decode cX9_init 9 = .ok (.putfield 7, 3) := by decide +kernel
theorem dX9_init_12 : decode cX9_init 12 = .ok (.aload_n 0, 1) := by decide +kernel
theorem dX9_init_13 : decode cX9_init 13 = .ok (.bipush 20, 2) := by decide +kernel
theorem dX9_init_15 : decode cX9_init 15 = .ok (.newarray .int, 2) := by decide +kernel
theorem dX9_init_17 : decode cX9_init 17 = .ok (.putfield 13, 3) := by decide +kernel
theorem dX9_init_20 : decode cX9_init 20 = .ok (.aload_n 0, 1) := by decide +kernel
theorem dX9_init_21 : decode cX9_init 21 = .ok (.iconst 4, 1) := by decide +kernel
theorem dX9_init_22 : decode cX9_init 22 = .ok (.newarray .int, 2) := by decide +kernel
theorem dX9_init_24 : decode cX9_init 24 = .ok (.putfield 16, 3) := by decide +kernel
theorem dX9_init_27 : decode cX9_init 27 = .ok (.aload_n 0, 1) := by decide +kernel
theorem dX9_init_28 : decode cX9_init 28 = .ok (.iconst 4, 1) := by decide +kernel
theorem dX9_init_29 : decode cX9_init 29 = .ok (.newarray .int, 2) := by decide +kernel
theorem dX9_init_31 : decode cX9_init 31 = .ok (.putfield 19, 3) := by decide +kernel
theorem dX9_init_34 : decode cX9_init 34 = .ok (.aload_n 0, 1) := by decide +kernel
theorem dX9_init_35 : decode cX9_init 35 = .ok (.bipush 40, 2) := by decide +kernel
theorem dX9_init_37 : decode cX9_init 37 = .ok (.newarray .int, 2) := by decide +kernel
theorem dX9_init_39 : decode cX9_init 39 = .ok (.putfield 22, 3) := by decide +kernel
theorem dX9_init_42 : decode cX9_init 42 = .ok (.aload_n 0, 1) := by decide +kernel
theorem dX9_init_43 : decode cX9_init 43 = .ok (.bipush 40, 2) := by decide +kernel
theorem dX9_init_45 : decode cX9_init 45 = .ok (.newarray .int, 2) := by decide +kernel
theorem dX9_init_47 : decode cX9_init 47 = .ok (.putfield 25, 3) := by decide +kernel
theorem dX9_init_50 : decode cX9_init 50 = .ok (.aload_n 0, 1) := by decide +kernel
theorem dX9_init_51 : decode cX9_init 51 = .ok (.bipush 40, 2) := by decide +kernel
theorem dX9_init_53 : decode cX9_init 53 = .ok (.newarray .int, 2) := by decide +kernel
theorem dX9_init_55 : decode cX9_init 55 = .ok (.putfield 28, 3) := by decide +kernel
theorem dX9_init_58 : decode cX9_init 58 = .ok (.aload_n 0, 1) := by decide +kernel
theorem dX9_init_59 : decode cX9_init 59 = .ok (.bipush 40, 2) := by decide +kernel
theorem dX9_init_61 : decode cX9_init 61 = .ok (.newarray .int, 2) := by decide +kernel
theorem dX9_init_63 : decode cX9_init 63 = .ok (.putfield 31, 3) := by decide +kernel
theorem dX9_init_66 : decode cX9_init 66 = .ok (.aload_n 0, 1) := by decide +kernel
theorem dX9_init_67 : decode cX9_init 67 = .ok (.bipush 30, 2) := by decide +kernel
theorem dX9_init_69 : decode cX9_init 69 = .ok (.newarray .int, 2) := by decide +kernel
theorem dX9_init_71 : decode cX9_init 71 = .ok (.putfield 34, 3) := by decide +kernel
theorem dX9_init_74 : decode cX9_init 74 = .ok (.aload_n 0, 1) := by decide +kernel
theorem dX9_init_75 : decode cX9_init 75 = .ok (.bipush 30, 2) := by decide +kernel
theorem dX9_init_77 : decode cX9_init 77 = .ok (.newarray .int, 2) := by decide +kernel
theorem dX9_init_79 : decode cX9_init 79 = .ok (.putfield 37, 3) := by decide +kernel
theorem dX9_init_82 : decode cX9_init 82 = .ok (.aload_n 0, 1) := by decide +kernel
theorem dX9_init_83 : decode cX9_init 83 = .ok (.iconst 5, 1) := by decide +kernel
theorem dX9_init_84 : decode cX9_init 84 = .ok (.putfield 40, 3) := by decide +kernel
theorem dX9_init_87 : decode cX9_init 87 = .ok (.aload_n 0, 1) := by decide +kernel
theorem dX9_init_88 : decode cX9_init 88 = .ok (.iconst 1, 1) := by decide +kernel
theorem dX9_init_89 : decode cX9_init 89 = .ok (.putfield 44, 3) := by decide +kernel
theorem dX9_init_92 : decode cX9_init 92 = .ok (.aload_n 0, 1) := by decide +kernel
theorem dX9_init_93 : decode cX9_init 93 = .ok (.bipush 100, 2) := by decide +kernel
theorem dX9_init_95 : decode cX9_init 95 = .ok (.newarray .int, 2) := by decide +kernel
theorem dX9_init_97 : decode cX9_init 97 = .ok (.putfield 47, 3) := by decide +kernel
theorem dX9_init_100 : decode cX9_init 100 = .ok (.aload_n 0, 1) := by decide +kernel
theorem dX9_init_101 : decode cX9_init 101 = .ok (.sipush 11264, 3) := by decide +kernel
theorem dX9_init_104 : decode cX9_init 104 = .ok (.newarray .int, 2) := by decide +kernel
theorem dX9_init_106 : decode cX9_init 106 = .ok (.putfield 50, 3) := by decide +kernel
theorem dX9_init_109 : decode cX9_init 109 = .ok (.aload_n 0, 1) := by decide +kernel
theorem dX9_init_110 : decode cX9_init 110 = .ok (.bipush 10, 2) := by decide +kernel
theorem dX9_init_112 : decode cX9_init 112 = .ok (.newarray .int, 2) := by decide +kernel
theorem dX9_init_114 : decode cX9_init 114 = .ok (.putfield 53, 3) := by decide +kernel
theorem dX9_init_117 : decode cX9_init 117 = .ok (.aload_n 0, 1) := by decide +kernel
theorem dX9_init_118 : decode cX9_init 118 = .ok (.sipush 11264, 3) := by decide +kernel
theorem dX9_init_121 : decode cX9_init 121 = .ok (.newarray .int, 2) := by decide +kernel
theorem dX9_init_123 : decode cX9_init 123 = .ok (.putfield 56, 3) := by decide +kernel
theorem dX9_init_126 : decode cX9_init 126 = .ok (.aload_n 0, 1) := by decide +kernel
theorem dX9_init_127 : decode cX9_init 127 = .ok (.bipush 60, 2) := by decide +kernel
theorem dX9_init_129 : decode cX9_init 129 = .ok (.newarray .int, 2) := by decide +kernel
theorem dX9_init_131 : decode cX9_init 131 = .ok (.putfield 59, 3) := by decide +kernel
theorem dX9_init_134 : decode cX9_init 134 = .ok (.aload_n 0, 1) := by decide +kernel
theorem dX9_init_135 : decode cX9_init 135 = .ok (.bipush 60, 2) := by decide +kernel
theorem dX9_init_137 : decode cX9_init 137 = .ok (.newarray .int, 2) := by decide +kernel
theorem dX9_init_139 : decode cX9_init 139 = .ok (.putfield 62, 3) := by decide +kernel
theorem dX9_init_142 : decode cX9_init 142 = .ok (.aload_n 0, 1) := by decide +kernel
theorem dX9_init_143 : decode cX9_init 143 = .ok (.bipush 60, 2) := by decide +kernel
theorem dX9_init_145 : decode cX9_init 145 = .ok (.newarray .int, 2) := by decide +kernel
theorem dX9_init_147 : decode cX9_init 147 = .ok (.putfield 65, 3) := by decide +kernel
theorem dX9_init_150 : decode cX9_init 150 = .ok (.aload_n 0, 1) := by decide +kernel
theorem dX9_init_151 : decode cX9_init 151 = .ok (.bipush 60, 2) := by decide +kernel
theorem dX9_init_153 : decode cX9_init 153 = .ok (.newarray .int, 2) := by decide +kernel
theorem dX9_init_155 : decode cX9_init 155 = .ok (.putfield 68, 3) := by decide +kernel
theorem dX9_init_158 : decode cX9_init 158 = .ok (.aload_n 0, 1) := by decide +kernel
theorem dX9_init_159 : decode cX9_init 159 = .ok (.bipush 60, 2) := by decide +kernel
theorem dX9_init_161 : decode cX9_init 161 = .ok (.newarray .int, 2) := by decide +kernel
theorem dX9_init_163 : decode cX9_init 163 = .ok (.putfield 71, 3) := by decide +kernel
theorem dX9_init_166 : decode cX9_init 166 = .ok (.aload_n 0, 1) := by decide +kernel
theorem dX9_init_167 : decode cX9_init 167 = .ok (.bipush 60, 2) := by decide +kernel
theorem dX9_init_169 : decode cX9_init 169 = .ok (.newarray .int, 2) := by decide +kernel
theorem dX9_init_171 : decode cX9_init 171 = .ok (.putfield 74, 3) := by decide +kernel
theorem dX9_init_174 : decode cX9_init 174 = .ok (.aload_n 0, 1) := by decide +kernel
theorem dX9_init_175 : decode cX9_init 175 = .ok (.bipush 60, 2) := by decide +kernel
theorem dX9_init_177 : decode cX9_init 177 = .ok (.newarray .int, 2) := by decide +kernel
theorem dX9_init_179 : decode cX9_init 179 = .ok (.putfield 77, 3) := by decide +kernel
theorem dX9_init_182 : decode cX9_init 182 = .ok (.aload_n 0, 1) := by decide +kernel
theorem dX9_init_183 : decode cX9_init 183 = .ok (.bipush 60, 2) := by decide +kernel
theorem dX9_init_185 : decode cX9_init 185 = .ok (.newarray .int, 2) := by decide +kernel
theorem dX9_init_187 : decode cX9_init 187 = .ok (.putfield 80, 3) := by decide +kernel
theorem dX9_init_190 : decode cX9_init 190 = .ok (.aload_n 0, 1) := by decide +kernel
theorem dX9_init_191 : decode cX9_init 191 = .ok (.bipush 60, 2) := by decide +kernel
theorem dX9_init_193 : decode cX9_init 193 = .ok (.newarray .int, 2) := by decide +kernel
theorem dX9_init_195 : decode cX9_init 195 = .ok (.putfield 83, 3) := by decide +kernel
theorem dX9_init_198 : decode cX9_init 198 = .ok (.aload_n 0, 1) := by decide +kernel
theorem dX9_init_199 : decode cX9_init 199 = .ok (.bipush 60, 2) := by decide +kernel
theorem dX9_init_201 : decode cX9_init 201 = .ok (.newarray .int, 2) := by decide +kernel
theorem dX9_init_203 : decode cX9_init 203 = .ok (.putfield 86, 3) := by decide +kernel
theorem dX9_init_206 : decode cX9_init 206 = .ok (.aload_n 0, 1) := by decide +kernel
theorem dX9_init_207 : decode cX9_init 207 = .ok (.bipush 60, 2) := by decide +kernel
theorem dX9_init_209 : decode cX9_init 209 = .ok (.newarray .int, 2) := by decide +kernel
theorem dX9_init_211 : decode cX9_init 211 = .ok (.putfield 89, 3) := by decide +kernel
theorem dX9_init_214 : decode cX9_init 214 = .ok (.aload_n 0, 1) := by decide +kernel
theorem dX9_init_215 : decode cX9_init 215 = .ok (.bipush 60, 2) := by decide +kernel
theorem dX9_init_217 : decode cX9_init 217 = .ok (.newarray .int, 2) := by decide +kernel
theorem dX9_init_219 : decode cX9_init 219 = .ok (.putfield 92, 3) := by decide +kernel
theorem dX9_init_222 : decode cX9_init 222 = .ok (.aload_n 0, 1) := by decide +kernel
theorem dX9_init_223 : decode cX9_init 223 = .ok (.bipush 60, 2) := by decide +kernel
theorem dX9_init_225 : decode cX9_init 225 = .ok (.newarray .int, 2) := by decide +kernel
theorem dX9_init_227 : decode cX9_init 227 = .ok (.putfield 95, 3) := by decide +kernel
theorem dX9_init_230 : decode cX9_init 230 = .ok (.aload_n 0, 1) := by decide +kernel
theorem dX9_init_231 : decode cX9_init 231 = .ok (.bipush 40, 2) := by decide +kernel
theorem dX9_init_233 : decode cX9_init 233 = .ok (.newarray .int, 2) := by decide +kernel
theorem dX9_init_235 : decode cX9_init 235 = .ok (.putfield 98, 3) := by decide +kernel
theorem dX9_init_238 : decode cX9_init 238 = .ok (.aload_n 0, 1) := by decide +kernel
theorem dX9_init_239 : decode cX9_init 239 = .ok (.bipush 40, 2) := by decide +kernel
theorem dX9_init_241 : decode cX9_init 241 = .ok (.newarray .int, 2) := by decide +kernel
theorem dX9_init_243 : decode cX9_init 243 = .ok (.putfield 101, 3) := by decide +kernel
theorem dX9_init_246 : decode cX9_init 246 = .ok (.aload_n 0, 1) := by decide +kernel
theorem dX9_init_247 : decode cX9_init 247 = .ok (.bipush 40, 2) := by decide +kernel
theorem dX9_init_249 : decode cX9_init 249 = .ok (.newarray .int, 2) := by decide +kernel
theorem dX9_init_251 : decode cX9_init 251 = .ok (.putfield 104, 3) := by decide +kernel
theorem dX9_init_254 : decode cX9_init 254 = .ok (.aload_n 0, 1) := by decide +kernel
theorem dX9_init_255 : decode cX9_init 255 = .ok (.bipush 40, 2) := by decide +kernel
theorem dX9_init_257 : decode cX9_init 257 = .ok (.newarray .int, 2) := by decide +kernel
theorem dX9_init_259 : decode cX9_init 259 = .ok (.putfield 107, 3) := by decide +kernel
theorem dX9_init_262 : decode cX9_init 262 = .ok (.aload_n 0, 1) := by decide +kernel
theorem dX9_init_263 : decode cX9_init 263 = .ok (.bipush 8, 2) := by decide +kernel
theorem dX9_init_265 : decode cX9_init 265 = .ok (.newarray .int, 2) := by decide +kernel
theorem dX9_init_267 : decode cX9_init 267 = .ok (.putfield 110, 3) := by decide +kernel
theorem dX9_init_270 : decode cX9_init 270 = .ok (.aload_n 0, 1) := by decide +kernel
theorem dX9_init_271 : decode cX9_init 271 = .ok (.sipush 2304, 3) := by decide +kernel
theorem dX9_init_274 : decode cX9_init 274 = .ok (.newarray .int, 2) := by decide +kernel
theorem dX9_init_276 : decode cX9_init 276 = .ok (.putfield 113, 3) := by decide +kernel
theorem dX9_init_279 : decode cX9_init 279 = .ok (.aload_n 0, 1) := by decide +kernel
theorem dX9_init_280 : decode cX9_init 280 = .ok (.bipush 8, 2) := by decide +kernel
theorem dX9_init_282 : decode cX9_init 282 = .ok (.newarray .int, 2) := by decide +kernel
theorem dX9_init_284 : decode cX9_init 284 = .ok (.putfield 116, 3) := by decide +kernel
theorem dX9_init_287 : decode cX9_init 287 = .ok (.aload_n 0, 1) := by decide +kernel
theorem dX9_init_288 : decode cX9_init 288 = .ok (.bipush 10, 2) := by decide +kernel
theorem dX9_init_290 : decode cX9_init 290 = .ok (.newarray .int, 2) := by decide +kernel
theorem dX9_init_292 : decode cX9_init 292 = .ok (.putfield 119, 3) := by decide +kernel
theorem dX9_init_295 : decode cX9_init 295 = .ok (.aload_n 0, 1) := by decide +kernel
theorem dX9_init_296 : decode cX9_init 296 = .ok (.bipush 36, 2) := by decide +kernel
theorem dX9_init_298 : decode cX9_init 298 = .ok (.newarray .boolean, 2) := by decide +kernel
theorem dX9_init_300 : decode cX9_init 300 = .ok (.putfield 122, 3) := by decide +kernel
theorem dX9_init_303 : decode cX9_init 303 = .ok (.iconst 0, 1) := by decide +kernel
theorem dX9_init_304 : decode cX9_init 304 = .ok (.istore_n 1, 1) := by decide +kernel
theorem dX9_init_305 : decode cX9_init 305 = .ok (.iload_n 1, 1) := by decide +kernel
theorem dX9_init_306 : decode cX9_init 306 = .ok (.bipush 20, 2) := by decide +kernel
theorem dX9_init_308 : decode cX9_init 308 = .ok (.if_icmp .ge 16, 3) := by decide +kernel
theorem dX9_init_311 : decode cX9_init 311 = .ok (.aload_n 0, 1) := by decide +kernel
theorem dX9_init_312 : decode cX9_init 312 = .ok (.getfield 13, 3) := by decide +kernel
theorem dX9_init_315 : decode cX9_init 315 = .ok (.iload_n 1, 1) := by decide +kernel
theorem dX9_init_316 : decode cX9_init 316 = .ok (.iload_n 1, 1) := by decide +kernel
theorem dX9_init_317 : decode cX9_init 317 = .ok (.iastore, 1) := by decide +kernel
theorem dX9_init_318 : decode cX9_init 318 = .ok (.iinc 1 1, 3) := by decide +kernel
theorem dX9_init_321 : decode cX9_init 321 = .ok (.goto (-16), 3) := by decide +kernel
theorem dX9_init_324 : decode cX9_init 324 = .ok (.iconst 0, 1) := by decide +kernel
theorem dX9_init_325 : decode cX9_init 325 = .ok (.istore_n 1, 1) := by decide +kernel
theorem dX9_init_326 : decode cX9_init 326 = .ok (.iload_n 1, 1) := by decide +kernel
theorem dX9_init_327 : decode cX9_init 327 = .ok (.iconst 4, 1) := by decide +kernel
theorem dX9_init_328 : decode cX9_init 328 = .ok (.if_icmp .ge 18, 3) := by decide +kernel
theorem dX9_init_331 : decode cX9_init 331 = .ok (.aload_n 0, 1) := by decide +kernel
theorem dX9_init_332 : decode cX9_init 332 = .ok (.getfield 16, 3) := by decide +kernel
theorem dX9_init_335 : decode cX9_init 335 = .ok (.iload_n 1, 1) := by decide +kernel
theorem dX9_init_336 : decode cX9_init 336 = .ok (.sipush 1500, 3) := by decide +kernel
theorem dX9_init_339 : decode cX9_init 339 = .ok (.iastore, 1) := by decide +kernel
theorem dX9_init_340 : decode cX9_init 340 = .ok (.iinc 1 1, 3) := by decide +kernel
theorem dX9_init_343 : decode cX9_init 343 = .ok (.goto (-17), 3) := by decide +kernel
theorem dX9_init_346 : decode cX9_init 346 = .ok (.return_, 1) := by decide +kernel
theorem dX9_refuse_0 : decode cX9_refuse 0 = .ok (.aload_n 0, 1) := by decide +kernel
theorem dX9_refuse_1 : decode cX9_refuse 1 = .ok (.getfield 7, 3) := by decide +kernel
theorem dX9_refuse_4 : decode cX9_refuse 4 = .ok (.iload_n 1, 1) := by decide +kernel
theorem dX9_refuse_5 : decode cX9_refuse 5 = .ok (.ineg, 1) := by decide +kernel
theorem dX9_refuse_6 : decode cX9_refuse 6 = .ok (.dup2, 1) := by decide +kernel
theorem dX9_refuse_7 : decode cX9_refuse 7 = .ok (.iaload, 1) := by decide +kernel
theorem dX9_refuse_8 : decode cX9_refuse 8 = .ok (.iconst 1, 1) := by decide +kernel
theorem dX9_refuse_9 : decode cX9_refuse 9 = .ok (.iadd, 1) := by decide +kernel
theorem dX9_refuse_10 : decode cX9_refuse 10 = .ok (.iastore, 1) := by decide +kernel
theorem dX9_refuse_11 : decode cX9_refuse 11 = .ok (.iload_n 1, 1) := by decide +kernel
theorem dX9_refuse_12 : decode cX9_refuse 12 = .ok (.ireturn, 1) := by decide +kernel
theorem dX9_isIn_0 : decode cX9_isIn 0 = .ok (.iload_n 0, 1) := by decide +kernel
theorem dX9_isIn_1 : decode cX9_isIn 1 = .ok (.ifCond .lt 12, 3) := by decide +kernel
theorem dX9_isIn_4 : decode cX9_isIn 4 = .ok (.iload_n 0, 1) := by decide +kernel
theorem dX9_isIn_5 : decode cX9_isIn 5 = .ok (.iload_n 1, 1) := by decide +kernel
theorem dX9_isIn_6 : decode cX9_isIn 6 = .ok (.if_icmp .ge 7, 3) := by decide +kernel
theorem dX9_isIn_9 : decode cX9_isIn 9 = .ok (.iconst 1, 1) := by decide +kernel
theorem dX9_isIn_10 : decode cX9_isIn 10 = .ok (.goto 4, 3) := by decide +kernel
theorem dX9_isIn_13 : decode cX9_isIn 13 = .ok (.iconst 0, 1) := by decide +kernel
theorem dX9_isIn_14 : decode cX9_isIn 14 = .ok (.ireturn, 1) := by decide +kernel
theorem dX9_wrong_0 : decode cX9_wrong 0 = .ok (.iload_n 0, 1) := by decide +kernel
theorem dX9_wrong_1 : decode cX9_wrong 1 = .ok (.iload_n 1, 1) := by decide +kernel
theorem dX9_wrong_2 : decode cX9_wrong 2 = .ok (.if_icmp .ge 8, 3) := by decide +kernel
theorem dX9_wrong_5 : decode cX9_wrong 5 = .ok (.bipush (-4), 2) := by decide +kernel
theorem dX9_wrong_7 : decode cX9_wrong 7 = .ok (.goto 14, 3) := by decide +kernel
theorem dX9_wrong_10 : decode cX9_wrong 10 = .ok (.iload_n 0, 1) := by decide +kernel
theorem dX9_wrong_11 : decode cX9_wrong 11 = .ok (.iload_n 2, 1) := by decide +kernel
theorem dX9_wrong_12 : decode cX9_wrong 12 = .ok (.if_icmp .le 8, 3) := by decide +kernel
theorem dX9_wrong_15 : decode cX9_wrong 15 = .ok (.bipush (-6), 2) := by decide +kernel
theorem dX9_wrong_17 : decode cX9_wrong 17 = .ok (.goto 4, 3) := by decide +kernel
theorem dX9_wrong_20 : decode cX9_wrong 20 = .ok (.iconst 0, 1) := by decide +kernel
theorem dX9_wrong_21 : decode cX9_wrong 21 = .ok (.ireturn, 1) := by decide +kernel
theorem dX9_means_0 : decode cX9_means 0 = .ok (.iload_n 1, 1) := by decide +kernel
theorem dX9_means_1 : decode cX9_means 1 = .ok (.bipush 20, 2) := by decide +kernel
theorem dX9_means_3 : decode cX9_means 3 = .ok (.invokestatic 126, 3) := by decide +kernel
theorem dX9_means_6 : decode cX9_means 6 = .ok (.ifCond .eq 12, 3) := by decide +kernel
theorem dX9_means_9 : decode cX9_means 9 = .ok (.iload_n 2, 1) := by decide +kernel
theorem dX9_means_10 : decode cX9_means 10 = .ok (.bipush 20, 2) := by decide +kernel
theorem dX9_means_12 : decode cX9_means 12 = .ok (.invokestatic 126, 3) := by decide +kernel
theorem dX9_means_15 : decode cX9_means 15 = .ok (.ifCond .ne 9, 3) := by decide +kernel
theorem dX9_means_18 : decode cX9_means 18 = .ok (.aload_n 0, 1) := by decide +kernel
theorem dX9_means_19 : decode cX9_means 19 = .ok (.iconst (-1), 1) := by decide +kernel
theorem dX9_means_20 : decode cX9_means 20 = .ok (.invokevirtual 130, 3) := by decide +kernel
theorem dX9_means_23 : decode cX9_means 23 = .ok (.ireturn, 1) := by decide +kernel
theorem dX9_means_24 : decode cX9_means 24 = .ok (.iload_n 2, 1) := by decide +kernel
theorem dX9_means_25 : decode cX9_means 25 = .ok (.iload_n 1, 1) := by decide +kernel
theorem dX9_means_26 : decode cX9_means 26 = .ok (.if_icmp .le 10, 3) := by decide +kernel
theorem dX9_means_29 : decode cX9_means 29 = .ok (.aload_n 0, 1) := by decide +kernel
theorem dX9_means_30 : decode cX9_means 30 = .ok (.bipush (-4), 2) := by decide +kernel
theorem dX9_means_32 : decode cX9_means 32 = .ok (.invokevirtual 130, 3) := by decide +kernel
theorem dX9_means_35 : decode cX9_means 35 = .ok (.ireturn, 1) := by decide +kernel
theorem dX9_means_36 : decode cX9_means 36 = .ok (.aload_n 0, 1) := by decide +kernel
theorem dX9_means_37 : decode cX9_means 37 = .ok (.getfield 13, 3) := by decide +kernel
theorem dX9_means_40 : decode cX9_means 40 = .ok (.iload_n 1, 1) := by decide +kernel
theorem dX9_means_41 : decode cX9_means 41 = .ok (.iaload, 1) := by decide +kernel
theorem dX9_means_42 : decode cX9_means 42 = .ok (.istore_n 3, 1) := by decide +kernel
theorem dX9_means_43 : decode cX9_means 43 = .ok (.aload_n 0, 1) := by decide +kernel
theorem dX9_means_44 : decode cX9_means 44 = .ok (.getfield 13, 3) := by decide +kernel
theorem dX9_means_47 : decode cX9_means 47 = .ok (.iload_n 1, 1) := by decide +kernel
theorem dX9_means_48 : decode cX9_means 48 = .ok (.iload_n 2, 1) := by decide +kernel
theorem dX9_means_49 : decode cX9_means 49 = .ok (.iastore, 1) := by decide +kernel
theorem dX9_means_50 : decode cX9_means 50 = .ok (.iload_n 3, 1) := by decide +kernel
theorem dX9_means_51 : decode cX9_means 51 = .ok (.ireturn, 1) := by decide +kernel
theorem dX9_senseOf_0 : decode cX9_senseOf 0 = .ok (.iload_n 1, 1) := by decide +kernel
theorem dX9_senseOf_1 : decode cX9_senseOf 1 = .ok (.istore_n 2, 1) := by decide +kernel
theorem dX9_senseOf_2 : decode cX9_senseOf 2 = .ok (.aload_n 0, 1) := by decide +kernel
theorem dX9_senseOf_3 : decode cX9_senseOf 3 = .ok (.getfield 13, 3) := by decide +kernel
theorem dX9_senseOf_6 : decode cX9_senseOf 6 = .ok (.iload_n 2, 1) := by decide +kernel
theorem dX9_senseOf_7 : decode cX9_senseOf 7 = .ok (.iaload, 1) := by decide +kernel
theorem dX9_senseOf_8 : decode cX9_senseOf 8 = .ok (.iload_n 2, 1) := by decide +kernel
theorem dX9_senseOf_9 : decode cX9_senseOf 9 = .ok (.if_icmp .eq 13, 3) := by decide +kernel
theorem dX9_senseOf_12 : decode cX9_senseOf 12 = .ok (.aload_n 0, 1) := by decide +kernel
theorem dX9_senseOf_13 : decode cX9_senseOf 13 = .ok (.getfield 13, 3) := by decide +kernel
theorem dX9_senseOf_16 : decode cX9_senseOf 16 = .ok (.iload_n 2, 1) := by decide +kernel
theorem dX9_senseOf_17 : decode cX9_senseOf 17 = .ok (.iaload, 1) := by decide +kernel
theorem dX9_senseOf_18 : decode cX9_senseOf 18 = .ok (.istore_n 2, 1) := by decide +kernel
theorem dX9_senseOf_19 : decode cX9_senseOf 19 = .ok (.goto (-17), 3) := by decide +kernel
theorem dX9_senseOf_22 : decode cX9_senseOf 22 = .ok (.iload_n 2, 1) := by decide +kernel
theorem dX9_senseOf_23 : decode cX9_senseOf 23 = .ok (.ireturn, 1) := by decide +kernel
theorem dX9_sense_0 : decode cX9_sense 0 = .ok (.iload_n 1, 1) := by decide +kernel
theorem dX9_sense_1 : decode cX9_sense 1 = .ok (.bipush 20, 2) := by decide +kernel
theorem dX9_sense_3 : decode cX9_sense 3 = .ok (.invokestatic 126, 3) := by decide +kernel
theorem dX9_sense_6 : decode cX9_sense 6 = .ok (.ifCond .eq 11, 3) := by decide +kernel
theorem dX9_sense_9 : decode cX9_sense 9 = .ok (.aload_n 0, 1) := by decide +kernel
theorem dX9_sense_10 : decode cX9_sense 10 = .ok (.iload_n 1, 1) := by decide +kernel
theorem dX9_sense_11 : decode cX9_sense 11 = .ok (.invokevirtual 134, 3) := by decide +kernel
theorem dX9_sense_14 : decode cX9_sense 14 = .ok (.goto 8, 3) := by decide +kernel
theorem dX9_sense_17 : decode cX9_sense 17 = .ok (.aload_n 0, 1) := by decide +kernel
theorem dX9_sense_18 : decode cX9_sense 18 = .ok (.iconst (-1), 1) := by decide +kernel
theorem dX9_sense_19 : decode cX9_sense 19 = .ok (.invokevirtual 130, 3) := by decide +kernel
theorem dX9_sense_22 : decode cX9_sense 22 = .ok (.ireturn, 1) := by decide +kernel
theorem dX9_year_0 : decode cX9_year 0 = .ok (.iload_n 1, 1) := by decide +kernel
theorem dX9_year_1 : decode cX9_year 1 = .ok (.iconst 4, 1) := by decide +kernel
theorem dX9_year_2 : decode cX9_year 2 = .ok (.invokestatic 126, 3) := by decide +kernel
theorem dX9_year_5 : decode cX9_year 5 = .ok (.ifCond .eq 16, 3) := by decide +kernel
theorem dX9_year_8 : decode cX9_year 8 = .ok (.iload_n 2, 1) := by decide +kernel
theorem dX9_year_9 : decode cX9_year 9 = .ok (.sipush 1500, 3) := by decide +kernel
theorem dX9_year_12 : decode cX9_year 12 = .ok (.sipush 1900, 3) := by decide +kernel
theorem dX9_year_15 : decode cX9_year 15 = .ok (.invokestatic 137, 3) := by decide +kernel
theorem dX9_year_18 : decode cX9_year 18 = .ok (.goto 4, 3) := by decide +kernel
theorem dX9_year_21 : decode cX9_year 21 = .ok (.iconst (-1), 1) := by decide +kernel
theorem dX9_year_22 : decode cX9_year 22 = .ok (.istore_n 3, 1) := by decide +kernel
theorem dX9_year_23 : decode cX9_year 23 = .ok (.iload_n 3, 1) := by decide +kernel
theorem dX9_year_24 : decode cX9_year 24 = .ok (.ifCond .eq 9, 3) := by decide +kernel
theorem dX9_year_27 : decode cX9_year 27 = .ok (.aload_n 0, 1) := by decide +kernel
theorem dX9_year_28 : decode cX9_year 28 = .ok (.iload_n 3, 1) := by decide +kernel
theorem dX9_year_29 : decode cX9_year 29 = .ok (.invokevirtual 130, 3) := by decide +kernel
theorem dX9_year_32 : decode cX9_year 32 = .ok (.ireturn, 1) := by decide +kernel
theorem dX9_year_33 : decode cX9_year 33 = .ok (.aload_n 0, 1) := by decide +kernel
theorem dX9_year_34 : decode cX9_year 34 = .ok (.getfield 16, 3) := by decide +kernel
theorem dX9_year_37 : decode cX9_year 37 = .ok (.iload_n 1, 1) := by decide +kernel
theorem dX9_year_38 : decode cX9_year 38 = .ok (.iaload, 1) := by decide +kernel
theorem dX9_year_39 : decode cX9_year 39 = .ok (.istore 4, 2) := by decide +kernel
theorem dX9_year_41 : decode cX9_year 41 = .ok (.aload_n 0, 1) := by decide +kernel
theorem dX9_year_42 : decode cX9_year 42 = .ok (.getfield 16, 3) := by decide +kernel
theorem dX9_year_45 : decode cX9_year 45 = .ok (.iload_n 1, 1) := by decide +kernel
theorem dX9_year_46 : decode cX9_year 46 = .ok (.iload_n 2, 1) := by decide +kernel
theorem dX9_year_47 : decode cX9_year 47 = .ok (.iastore, 1) := by decide +kernel
theorem dX9_year_48 : decode cX9_year 48 = .ok (.iload 4, 2) := by decide +kernel
theorem dX9_year_50 : decode cX9_year 50 = .ok (.ireturn, 1) := by decide +kernel
theorem dX9_entry_0 : decode cX9_entry 0 = .ok (.iload_n 1, 1) := by decide +kernel
theorem dX9_entry_1 : decode cX9_entry 1 = .ok (.iconst 4, 1) := by decide +kernel
theorem dX9_entry_2 : decode cX9_entry 2 = .ok (.invokestatic 126, 3) := by decide +kernel
theorem dX9_entry_5 : decode cX9_entry 5 = .ok (.ifCond .eq 13, 3) := by decide +kernel
theorem dX9_entry_8 : decode cX9_entry 8 = .ok (.iload_n 2, 1) := by decide +kernel
theorem dX9_entry_9 : decode cX9_entry 9 = .ok (.ifCond .lt 9, 3) := by decide +kernel
theorem dX9_entry_12 : decode cX9_entry 12 = .ok (.iload_n 2, 1) := by decide +kernel
theorem dX9_entry_13 : decode cX9_entry 13 = .ok (.ldc 141, 2) := by decide +kernel
theorem dX9_entry_15 : decode cX9_entry 15 = .ok (.if_icmp .lt 9, 3) := by decide +kernel
theorem dX9_entry_18 : decode cX9_entry 18 = .ok (.aload_n 0, 1) := by decide +kernel
theorem dX9_entry_19 : decode cX9_entry 19 = .ok (.iconst (-1), 1) := by decide +kernel
theorem dX9_entry_20 : decode cX9_entry 20 = .ok (.invokevirtual 130, 3) := by decide +kernel
theorem dX9_entry_23 : decode cX9_entry 23 = .ok (.ireturn, 1) := by decide +kernel
theorem dX9_entry_24 : decode cX9_entry 24 = .ok (.iload_n 2, 1) := by decide +kernel
theorem dX9_entry_25 : decode cX9_entry 25 = .ok (.ifCond .eq 18, 3) := by decide +kernel
theorem dX9_entry_28 : decode cX9_entry 28 = .ok (.iload_n 3, 1) := by decide +kernel
theorem dX9_entry_29 : decode cX9_entry 29 = .ok (.iconst 1, 1) := by decide +kernel
theorem dX9_entry_30 : decode cX9_entry 30 = .ok (.if_icmp .lt 13, 3) := by decide +kernel
theorem dX9_entry_33 : decode cX9_entry 33 = .ok (.iload 4, 2) := by decide +kernel
theorem dX9_entry_35 : decode cX9_entry 35 = .ok (.ifCond .lt 8, 3) := by decide +kernel
theorem dX9_entry_38 : decode cX9_entry 38 = .ok (.iload 5, 2) := by decide +kernel
theorem dX9_entry_40 : decode cX9_entry 40 = .ok (.ifCond .ge 10, 3) := by decide +kernel
theorem dX9_entry_43 : decode cX9_entry 43 = .ok (.aload_n 0, 1) := by decide +kernel
theorem dX9_entry_44 : decode cX9_entry 44 = .ok (.bipush (-4), 2) := by decide +kernel
theorem dX9_entry_46 : decode cX9_entry 46 = .ok (.invokevirtual 130, 3) := by decide +kernel
theorem dX9_entry_49 : decode cX9_entry 49 = .ok (.ireturn, 1) := by decide +kernel
theorem dX9_entry_50 : decode cX9_entry 50 = .ok (.iload_n 3, 1) := by decide +kernel
theorem dX9_entry_51 : decode cX9_entry 51 = .ok (.sipush 200, 3) := by decide +kernel
theorem dX9_entry_54 : decode cX9_entry 54 = .ok (.if_icmp .gt 28, 3) := by decide +kernel
theorem dX9_entry_57 : decode cX9_entry 57 = .ok (.iload 4, 2) := by decide +kernel
theorem dX9_entry_59 : decode cX9_entry 59 = .ok (.bipush 9, 2) := by decide +kernel
theorem dX9_entry_61 : decode cX9_entry 61 = .ok (.if_icmp .gt 21, 3) := by decide +kernel
theorem dX9_entry_64 : decode cX9_entry 64 = .ok (.iload 5, 2) := by decide +kernel
theorem dX9_entry_66 : decode cX9_entry 66 = .ok (.bipush 99, 2) := by decide +kernel
theorem dX9_entry_68 : decode cX9_entry 68 = .ok (.if_icmp .gt 14, 3) := by decide +kernel
theorem dX9_entry_71 : decode cX9_entry 71 = .ok (.aload_n 0, 1) := by decide +kernel
theorem dX9_entry_72 : decode cX9_entry 72 = .ok (.getfield 19, 3) := by decide +kernel
theorem dX9_entry_75 : decode cX9_entry 75 = .ok (.iload_n 1, 1) := by decide +kernel
theorem dX9_entry_76 : decode cX9_entry 76 = .ok (.iaload, 1) := by decide +kernel
theorem dX9_entry_77 : decode cX9_entry 77 = .ok (.bipush 10, 2) := by decide +kernel
theorem dX9_entry_79 : decode cX9_entry 79 = .ok (.if_icmp .ne 10, 3) := by decide +kernel
theorem dX9_entry_82 : decode cX9_entry 82 = .ok (.aload_n 0, 1) := by decide +kernel
theorem dX9_entry_83 : decode cX9_entry 83 = .ok (.bipush (-6), 2) := by decide +kernel
theorem dX9_entry_85 : decode cX9_entry 85 = .ok (.invokevirtual 130, 3) := by decide +kernel
theorem dX9_entry_88 : decode cX9_entry 88 = .ok (.ireturn, 1) := by decide +kernel
theorem dX9_entry_89 : decode cX9_entry 89 = .ok (.bipush 10, 2) := by decide +kernel
theorem dX9_entry_91 : decode cX9_entry 91 = .ok (.iload_n 1, 1) := by decide +kernel
theorem dX9_entry_92 : decode cX9_entry 92 = .ok (.imul, 1) := by decide +kernel
theorem dX9_entry_93 : decode cX9_entry 93 = .ok (.aload_n 0, 1) := by decide +kernel
theorem dX9_entry_94 : decode cX9_entry 94 = .ok (.getfield 19, 3) := by decide +kernel
theorem dX9_entry_97 : decode cX9_entry 97 = .ok (.iload_n 1, 1) := by decide +kernel
theorem dX9_entry_98 : decode cX9_entry 98 = .ok (.iaload, 1) := by decide +kernel
theorem dX9_entry_99 : decode cX9_entry 99 = .ok (.iadd, 1) := by decide +kernel
theorem dX9_entry_100 : decode cX9_entry 100 = .ok (.istore 6, 2) := by decide +kernel
theorem dX9_entry_102 : decode cX9_entry 102 = .ok (.aload_n 0, 1) := by decide +kernel
theorem dX9_entry_103 : decode cX9_entry 103 = .ok (.getfield 22, 3) := by decide +kernel
theorem dX9_entry_106 : decode cX9_entry 106 = .ok (.iload 6, 2) := by decide +kernel
theorem dX9_entry_108 : decode cX9_entry 108 = .ok (.iload_n 2, 1) := by decide +kernel
theorem dX9_entry_109 : decode cX9_entry 109 = .ok (.iastore, 1) := by decide +kernel
theorem dX9_entry_110 : decode cX9_entry 110 = .ok (.aload_n 0, 1) := by decide +kernel
theorem dX9_entry_111 : decode cX9_entry 111 = .ok (.getfield 25, 3) := by decide +kernel
theorem dX9_entry_114 : decode cX9_entry 114 = .ok (.iload 6, 2) := by decide +kernel
theorem dX9_entry_116 : decode cX9_entry 116 = .ok (.iload_n 3, 1) := by decide +kernel
theorem dX9_entry_117 : decode cX9_entry 117 = .ok (.iastore, 1) := by decide +kernel
theorem dX9_entry_118 : decode cX9_entry 118 = .ok (.aload_n 0, 1) := by decide +kernel
theorem dX9_entry_119 : decode cX9_entry 119 = .ok (.getfield 28, 3) := by decide +kernel
theorem dX9_entry_122 : decode cX9_entry 122 = .ok (.iload 6, 2) := by decide +kernel
theorem dX9_entry_124 : decode cX9_entry 124 = .ok (.iload 4, 2) := by decide +kernel
theorem dX9_entry_126 : decode cX9_entry 126 = .ok (.iastore, 1) := by decide +kernel
theorem dX9_entry_127 : decode cX9_entry 127 = .ok (.aload_n 0, 1) := by decide +kernel
theorem dX9_entry_128 : decode cX9_entry 128 = .ok (.getfield 31, 3) := by decide +kernel
theorem dX9_entry_131 : decode cX9_entry 131 = .ok (.iload 6, 2) := by decide +kernel
theorem dX9_entry_133 : decode cX9_entry 133 = .ok (.iload 5, 2) := by decide +kernel
theorem dX9_entry_135 : decode cX9_entry 135 = .ok (.iastore, 1) := by decide +kernel
theorem dX9_entry_136 : decode cX9_entry 136 = .ok (.aload_n 0, 1) := by decide +kernel
theorem dX9_entry_137 : decode cX9_entry 137 = .ok (.getfield 19, 3) := by decide +kernel
theorem dX9_entry_140 : decode cX9_entry 140 = .ok (.iload_n 1, 1) := by decide +kernel
theorem dX9_entry_141 : decode cX9_entry 141 = .ok (.dup2, 1) := by decide +kernel
theorem dX9_entry_142 : decode cX9_entry 142 = .ok (.iaload, 1) := by decide +kernel
theorem dX9_entry_143 : decode cX9_entry 143 = .ok (.iconst 1, 1) := by decide +kernel
theorem dX9_entry_144 : decode cX9_entry 144 = .ok (.iadd, 1) := by decide +kernel
theorem dX9_entry_145 : decode cX9_entry 145 = .ok (.iastore, 1) := by decide +kernel
theorem dX9_entry_146 : decode cX9_entry 146 = .ok (.aload_n 0, 1) := by decide +kernel
theorem dX9_entry_147 : decode cX9_entry 147 = .ok (.getfield 19, 3) := by decide +kernel
theorem dX9_entry_150 : decode cX9_entry 150 = .ok (.iload_n 1, 1) := by decide +kernel
theorem dX9_entry_151 : decode cX9_entry 151 = .ok (.iaload, 1) := by decide +kernel
theorem dX9_entry_152 : decode cX9_entry 152 = .ok (.iconst 1, 1) := by decide +kernel
theorem dX9_entry_153 : decode cX9_entry 153 = .ok (.isub, 1) := by decide +kernel
theorem dX9_entry_154 : decode cX9_entry 154 = .ok (.ireturn, 1) := by decide +kernel
theorem dX9_set_0 : decode cX9_set 0 = .ok (.iload_n 1, 1) := by decide +kernel
theorem dX9_set_1 : decode cX9_set 1 = .ok (.iconst 2, 1) := by decide +kernel
theorem dX9_set_2 : decode cX9_set 2 = .ok (.invokestatic 126, 3) := by decide +kernel
theorem dX9_set_5 : decode cX9_set 5 = .ok (.ifCond .eq 22, 3) := by decide +kernel
theorem dX9_set_8 : decode cX9_set 8 = .ok (.iload_n 2, 1) := by decide +kernel
theorem dX9_set_9 : decode cX9_set 9 = .ok (.iconst 0, 1) := by decide +kernel
theorem dX9_set_10 : decode cX9_set 10 = .ok (.iload_n 1, 1) := by decide +kernel
theorem dX9_set_11 : decode cX9_set 11 = .ok (.ifCond .ne 8, 3) := by decide +kernel
theorem dX9_set_14 : decode cX9_set 14 = .ok (.bipush 50, 2) := by decide +kernel
theorem dX9_set_16 : decode cX9_set 16 = .ok (.goto 5, 3) := by decide +kernel
theorem dX9_set_19 : decode cX9_set 19 = .ok (.bipush 9, 2) := by decide +kernel
theorem dX9_set_21 : decode cX9_set 21 = .ok (.invokestatic 137, 3) := by decide +kernel
theorem dX9_set_24 : decode cX9_set 24 = .ok (.goto 5, 3) := by decide +kernel
theorem dX9_set_27 : decode cX9_set 27 = .ok (.bipush (-2), 2) := by decide +kernel
theorem dX9_set_29 : decode cX9_set 29 = .ok (.istore_n 3, 1) := by decide +kernel
theorem dX9_set_30 : decode cX9_set 30 = .ok (.iload_n 3, 1) := by decide +kernel
theorem dX9_set_31 : decode cX9_set 31 = .ok (.ifCond .eq 9, 3) := by decide +kernel
theorem dX9_set_34 : decode cX9_set 34 = .ok (.aload_n 0, 1) := by decide +kernel
theorem dX9_set_35 : decode cX9_set 35 = .ok (.iload_n 3, 1) := by decide +kernel
theorem dX9_set_36 : decode cX9_set 36 = .ok (.invokevirtual 130, 3) := by decide +kernel
theorem dX9_set_39 : decode cX9_set 39 = .ok (.ireturn, 1) := by decide +kernel
theorem dX9_set_40 : decode cX9_set 40 = .ok (.iload_n 1, 1) := by decide +kernel
theorem dX9_set_41 : decode cX9_set 41 = .ok (.ifCond .ne 10, 3) := by decide +kernel
theorem dX9_set_44 : decode cX9_set 44 = .ok (.aload_n 0, 1) := by decide +kernel
theorem dX9_set_45 : decode cX9_set 45 = .ok (.getfield 40, 3) := by decide +kernel
theorem dX9_set_48 : decode cX9_set 48 = .ok (.goto 7, 3) := by decide +kernel
theorem dX9_set_51 : decode cX9_set 51 = .ok (.aload_n 0, 1) := by decide +kernel
theorem dX9_set_52 : decode cX9_set 52 = .ok (.getfield 44, 3) := by decide +kernel
theorem dX9_set_55 : decode cX9_set 55 = .ok (.istore 4, 2) := by decide +kernel
theorem dX9_set_57 : decode cX9_set 57 = .ok (.iload_n 1, 1) := by decide +kernel
theorem dX9_set_58 : decode cX9_set 58 = .ok (.ifCond .ne 11, 3) := by decide +kernel
theorem dX9_set_61 : decode cX9_set 61 = .ok (.aload_n 0, 1) := by decide +kernel
theorem dX9_set_62 : decode cX9_set 62 = .ok (.iload_n 2, 1) := by decide +kernel
theorem dX9_set_63 : decode cX9_set 63 = .ok (.putfield 40, 3) := by decide +kernel
theorem dX9_set_66 : decode cX9_set 66 = .ok (.goto 8, 3) := by decide +kernel
theorem dX9_set_69 : decode cX9_set 69 = .ok (.aload_n 0, 1) := by decide +kernel
theorem dX9_set_70 : decode cX9_set 70 = .ok (.iload_n 2, 1) := by decide +kernel
theorem dX9_set_71 : decode cX9_set 71 = .ok (.putfield 44, 3) := by decide +kernel
theorem dX9_set_74 : decode cX9_set 74 = .ok (.iload 4, 2) := by decide +kernel
theorem dX9_set_76 : decode cX9_set 76 = .ok (.ireturn, 1) := by decide +kernel
theorem dX9_isEntry_0 : decode cX9_isEntry 0 = .ok (.iload_n 1, 1) := by decide +kernel
theorem dX9_isEntry_1 : decode cX9_isEntry 1 = .ok (.iconst 4, 1) := by decide +kernel
theorem dX9_isEntry_2 : decode cX9_isEntry 2 = .ok (.invokestatic 126, 3) := by decide +kernel
theorem dX9_isEntry_5 : decode cX9_isEntry 5 = .ok (.ifCond .eq 20, 3) := by decide +kernel
theorem dX9_isEntry_8 : decode cX9_isEntry 8 = .ok (.iload_n 2, 1) := by decide +kernel
theorem dX9_isEntry_9 : decode cX9_isEntry 9 = .ok (.aload_n 0, 1) := by decide +kernel
theorem dX9_isEntry_10 : decode cX9_isEntry 10 = .ok (.getfield 19, 3) := by decide +kernel
theorem dX9_isEntry_13 : decode cX9_isEntry 13 = .ok (.iload_n 1, 1) := by decide +kernel
theorem dX9_isEntry_14 : decode cX9_isEntry 14 = .ok (.iaload, 1) := by decide +kernel
theorem dX9_isEntry_15 : decode cX9_isEntry 15 = .ok (.invokestatic 126, 3) := by decide +kernel
theorem dX9_isEntry_18 : decode cX9_isEntry 18 = .ok (.ifCond .eq 7, 3) := by decide +kernel
theorem dX9_isEntry_21 : decode cX9_isEntry 21 = .ok (.iconst 1, 1) := by decide +kernel
theorem dX9_isEntry_22 : decode cX9_isEntry 22 = .ok (.goto 4, 3) := by decide +kernel
theorem dX9_isEntry_25 : decode cX9_isEntry 25 = .ok (.iconst 0, 1) := by decide +kernel
theorem dX9_isEntry_26 : decode cX9_isEntry 26 = .ok (.ireturn, 1) := by decide +kernel
theorem dX9_isBarred_0 : decode cX9_isBarred 0 = .ok (.iconst 0, 1) := by decide +kernel
theorem dX9_isBarred_1 : decode cX9_isBarred 1 = .ok (.istore_n 3, 1) := by decide +kernel
theorem dX9_isBarred_2 : decode cX9_isBarred 2 = .ok (.iconst 0, 1) := by decide +kernel
theorem dX9_isBarred_3 : decode cX9_isBarred 3 = .ok (.istore 4, 2) := by decide +kernel
theorem dX9_isBarred_5 : decode cX9_isBarred 5 = .ok (.iload 4, 2) := by decide +kernel
theorem dX9_isBarred_7 : decode cX9_isBarred 7 = .ok (.aload_n 0, 1) := by decide +kernel
end
section
theorem dX9_isBarred_8 : decode cX9_isBarred 8 = .ok (.getfield 142, 3) := by decide +kernel
theorem dX9_isBarred_11 : decode cX9_isBarred 11 = .ok (.if_icmp .ge 63, 3) := by decide +kernel
theorem dX9_isBarred_14 : decode cX9_isBarred 14 = .ok (.iload_n 3, 1) := by decide +kernel
theorem dX9_isBarred_15 : decode cX9_isBarred 15 = .ok (.ifCond .ne 47, 3) := by decide +kernel
theorem dX9_isBarred_18 : decode cX9_isBarred 18 = .ok (.aload_n 0, 1) := by decide +kernel
theorem dX9_isBarred_19 : decode cX9_isBarred 19 = .ok (.getfield 34, 3) := by decide +kernel
theorem dX9_isBarred_22 : decode cX9_isBarred 22 = .ok (.iload 4, 2) := by decide +kernel
theorem dX9_isBarred_24 : decode cX9_isBarred 24 = .ok (.iaload, 1) := by decide +kernel
theorem dX9_isBarred_25 : decode cX9_isBarred 25 = .ok (.iload_n 1, 1) := by decide +kernel
theorem dX9_isBarred_26 : decode cX9_isBarred 26 = .ok (.if_icmp .ne 14, 3) := by decide +kernel
theorem dX9_isBarred_29 : decode cX9_isBarred 29 = .ok (.aload_n 0, 1) := by decide +kernel
theorem dX9_isBarred_30 : decode cX9_isBarred 30 = .ok (.getfield 37, 3) := by decide +kernel
theorem dX9_isBarred_33 : decode cX9_isBarred 33 = .ok (.iload 4, 2) := by decide +kernel
theorem dX9_isBarred_35 : decode cX9_isBarred 35 = .ok (.iaload, 1) := by decide +kernel
theorem dX9_isBarred_36 : decode cX9_isBarred 36 = .ok (.iload_n 2, 1) := by decide +kernel
theorem dX9_isBarred_37 : decode cX9_isBarred 37 = .ok (.if_icmp .eq 25, 3) := by decide +kernel
theorem dX9_isBarred_40 : decode cX9_isBarred 40 = .ok (.aload_n 0, 1) := by decide +kernel
theorem dX9_isBarred_41 : decode cX9_isBarred 41 = .ok (.getfield 34, 3) := by decide +kernel
theorem dX9_isBarred_44 : decode cX9_isBarred 44 = .ok (.iload 4, 2) := by decide +kernel
theorem dX9_isBarred_46 : decode cX9_isBarred 46 = .ok (.iaload, 1) := by decide +kernel
theorem dX9_isBarred_47 : decode cX9_isBarred 47 = .ok (.iload_n 2, 1) := by decide +kernel
theorem dX9_isBarred_48 : decode cX9_isBarred 48 = .ok (.if_icmp .ne 18, 3) := by decide +kernel
theorem dX9_isBarred_51 : decode cX9_isBarred 51 = .ok (.aload_n 0, 1) := by decide +kernel
theorem dX9_isBarred_52 : decode cX9_isBarred 52 = .ok (.getfield 37, 3) := by decide +kernel
theorem dX9_isBarred_55 : decode cX9_isBarred 55 = .ok (.iload 4, 2) := by decide +kernel
theorem dX9_isBarred_57 : decode cX9_isBarred 57 = .ok (.iaload, 1) := by decide +kernel
theorem dX9_isBarred_58 : decode cX9_isBarred 58 = .ok (.iload_n 1, 1) := by decide +kernel
theorem dX9_isBarred_59 : decode cX9_isBarred 59 = .ok (.if_icmp .ne 7, 3) := by decide +kernel
theorem dX9_isBarred_62 : decode cX9_isBarred 62 = .ok (.iconst 1, 1) := by decide +kernel
theorem dX9_isBarred_63 : decode cX9_isBarred 63 = .ok (.goto 4, 3) := by decide +kernel
theorem dX9_isBarred_66 : decode cX9_isBarred 66 = .ok (.iconst 0, 1) := by decide +kernel
theorem dX9_isBarred_67 : decode cX9_isBarred 67 = .ok (.istore_n 3, 1) := by decide +kernel
theorem dX9_isBarred_68 : decode cX9_isBarred 68 = .ok (.iinc 4 1, 3) := by decide +kernel
theorem dX9_isBarred_71 : decode cX9_isBarred 71 = .ok (.goto (-66), 3) := by decide +kernel
theorem dX9_isBarred_74 : decode cX9_isBarred 74 = .ok (.iload_n 3, 1) := by decide +kernel
theorem dX9_isBarred_75 : decode cX9_isBarred 75 = .ok (.ireturn, 1) := by decide +kernel
theorem dX9_bar_0 : decode cX9_bar 0 = .ok (.aload_n 0, 1) := by decide +kernel
theorem dX9_bar_1 : decode cX9_bar 1 = .ok (.iload_n 1, 1) := by decide +kernel
theorem dX9_bar_2 : decode cX9_bar 2 = .ok (.iload_n 2, 1) := by decide +kernel
theorem dX9_bar_3 : decode cX9_bar 3 = .ok (.invokevirtual 145, 3) := by decide +kernel
theorem dX9_bar_6 : decode cX9_bar 6 = .ok (.ifCond .eq 18, 3) := by decide +kernel
theorem dX9_bar_9 : decode cX9_bar 9 = .ok (.aload_n 0, 1) := by decide +kernel
theorem dX9_bar_10 : decode cX9_bar 10 = .ok (.iload_n 3, 1) := by decide +kernel
theorem dX9_bar_11 : decode cX9_bar 11 = .ok (.iload 4, 2) := by decide +kernel
theorem dX9_bar_13 : decode cX9_bar 13 = .ok (.invokevirtual 145, 3) := by decide +kernel
theorem dX9_bar_16 : decode cX9_bar 16 = .ok (.ifCond .eq 8, 3) := by decide +kernel
theorem dX9_bar_19 : decode cX9_bar 19 = .ok (.iload_n 1, 1) := by decide +kernel
theorem dX9_bar_20 : decode cX9_bar 20 = .ok (.iload_n 3, 1) := by decide +kernel
theorem dX9_bar_21 : decode cX9_bar 21 = .ok (.if_icmp .ne 9, 3) := by decide +kernel
theorem dX9_bar_24 : decode cX9_bar 24 = .ok (.aload_n 0, 1) := by decide +kernel
theorem dX9_bar_25 : decode cX9_bar 25 = .ok (.iconst (-1), 1) := by decide +kernel
theorem dX9_bar_26 : decode cX9_bar 26 = .ok (.invokevirtual 130, 3) := by decide +kernel
theorem dX9_bar_29 : decode cX9_bar 29 = .ok (.ireturn, 1) := by decide +kernel
theorem dX9_bar_30 : decode cX9_bar 30 = .ok (.aload_n 0, 1) := by decide +kernel
theorem dX9_bar_31 : decode cX9_bar 31 = .ok (.bipush 10, 2) := by decide +kernel
theorem dX9_bar_33 : decode cX9_bar 33 = .ok (.iload_n 1, 1) := by decide +kernel
theorem dX9_bar_34 : decode cX9_bar 34 = .ok (.imul, 1) := by decide +kernel
theorem dX9_bar_35 : decode cX9_bar 35 = .ok (.iload_n 2, 1) := by decide +kernel
theorem dX9_bar_36 : decode cX9_bar 36 = .ok (.iadd, 1) := by decide +kernel
theorem dX9_bar_37 : decode cX9_bar 37 = .ok (.bipush 10, 2) := by decide +kernel
theorem dX9_bar_39 : decode cX9_bar 39 = .ok (.iload_n 3, 1) := by decide +kernel
theorem dX9_bar_40 : decode cX9_bar 40 = .ok (.imul, 1) := by decide +kernel
theorem dX9_bar_41 : decode cX9_bar 41 = .ok (.iload 4, 2) := by decide +kernel
theorem dX9_bar_43 : decode cX9_bar 43 = .ok (.iadd, 1) := by decide +kernel
theorem dX9_bar_44 : decode cX9_bar 44 = .ok (.invokevirtual 148, 3) := by decide +kernel
theorem dX9_bar_47 : decode cX9_bar 47 = .ok (.ifCond .eq 5, 3) := by decide +kernel
theorem dX9_bar_50 : decode cX9_bar 50 = .ok (.iconst 0, 1) := by decide +kernel
theorem dX9_bar_51 : decode cX9_bar 51 = .ok (.ireturn, 1) := by decide +kernel
theorem dX9_bar_52 : decode cX9_bar 52 = .ok (.aload_n 0, 1) := by decide +kernel
theorem dX9_bar_53 : decode cX9_bar 53 = .ok (.getfield 142, 3) := by decide +kernel
theorem dX9_bar_56 : decode cX9_bar 56 = .ok (.bipush 30, 2) := by decide +kernel
theorem dX9_bar_58 : decode cX9_bar 58 = .ok (.if_icmp .ne 10, 3) := by decide +kernel
theorem dX9_bar_61 : decode cX9_bar 61 = .ok (.aload_n 0, 1) := by decide +kernel
theorem dX9_bar_62 : decode cX9_bar 62 = .ok (.bipush (-6), 2) := by decide +kernel
theorem dX9_bar_64 : decode cX9_bar 64 = .ok (.invokevirtual 130, 3) := by decide +kernel
theorem dX9_bar_67 : decode cX9_bar 67 = .ok (.ireturn, 1) := by decide +kernel
theorem dX9_bar_68 : decode cX9_bar 68 = .ok (.aload_n 0, 1) := by decide +kernel
theorem dX9_bar_69 : decode cX9_bar 69 = .ok (.getfield 34, 3) := by decide +kernel
theorem dX9_bar_72 : decode cX9_bar 72 = .ok (.aload_n 0, 1) := by decide +kernel
theorem dX9_bar_73 : decode cX9_bar 73 = .ok (.getfield 142, 3) := by decide +kernel
theorem dX9_bar_76 : decode cX9_bar 76 = .ok (.bipush 10, 2) := by decide +kernel
theorem dX9_bar_78 : decode cX9_bar 78 = .ok (.iload_n 1, 1) := by decide +kernel
theorem dX9_bar_79 : decode cX9_bar 79 = .ok (.imul, 1) := by decide +kernel
theorem dX9_bar_80 : decode cX9_bar 80 = .ok (.iload_n 2, 1) := by decide +kernel
theorem dX9_bar_81 : decode cX9_bar 81 = .ok (.iadd, 1) := by decide +kernel
theorem dX9_bar_82 : decode cX9_bar 82 = .ok (.iastore, 1) := by decide +kernel
theorem dX9_bar_83 : decode cX9_bar 83 = .ok (.aload_n 0, 1) := by decide +kernel
theorem dX9_bar_84 : decode cX9_bar 84 = .ok (.getfield 37, 3) := by decide +kernel
theorem dX9_bar_87 : decode cX9_bar 87 = .ok (.aload_n 0, 1) := by decide +kernel
theorem dX9_bar_88 : decode cX9_bar 88 = .ok (.getfield 142, 3) := by decide +kernel
theorem dX9_bar_91 : decode cX9_bar 91 = .ok (.bipush 10, 2) := by decide +kernel
theorem dX9_bar_93 : decode cX9_bar 93 = .ok (.iload_n 3, 1) := by decide +kernel
theorem dX9_bar_94 : decode cX9_bar 94 = .ok (.imul, 1) := by decide +kernel
theorem dX9_bar_95 : decode cX9_bar 95 = .ok (.iload 4, 2) := by decide +kernel
theorem dX9_bar_97 : decode cX9_bar 97 = .ok (.iadd, 1) := by decide +kernel
theorem dX9_bar_98 : decode cX9_bar 98 = .ok (.iastore, 1) := by decide +kernel
theorem dX9_bar_99 : decode cX9_bar 99 = .ok (.aload_n 0, 1) := by decide +kernel
theorem dX9_bar_100 : decode cX9_bar 100 = .ok (.dup, 1) := by decide +kernel
theorem dX9_bar_101 : decode cX9_bar 101 = .ok (.getfield 142, 3) := by decide +kernel
theorem dX9_bar_104 : decode cX9_bar 104 = .ok (.iconst 1, 1) := by decide +kernel
theorem dX9_bar_105 : decode cX9_bar 105 = .ok (.iadd, 1) := by decide +kernel
theorem dX9_bar_106 : decode cX9_bar 106 = .ok (.putfield 142, 3) := by decide +kernel
theorem dX9_bar_109 : decode cX9_bar 109 = .ok (.iconst 1, 1) := by decide +kernel
theorem dX9_bar_110 : decode cX9_bar 110 = .ok (.ireturn, 1) := by decide +kernel
theorem dX9_senses_0 : decode cX9_senses 0 = .ok (.iconst 0, 1) := by decide +kernel
theorem dX9_senses_1 : decode cX9_senses 1 = .ok (.istore_n 2, 1) := by decide +kernel
theorem dX9_senses_2 : decode cX9_senses 2 = .ok (.iconst 0, 1) := by decide +kernel
theorem dX9_senses_3 : decode cX9_senses 3 = .ok (.istore_n 3, 1) := by decide +kernel
theorem dX9_senses_4 : decode cX9_senses 4 = .ok (.iload_n 3, 1) := by decide +kernel
theorem dX9_senses_5 : decode cX9_senses 5 = .ok (.bipush 20, 2) := by decide +kernel
theorem dX9_senses_7 : decode cX9_senses 7 = .ok (.if_icmp .ge 33, 3) := by decide +kernel
theorem dX9_senses_10 : decode cX9_senses 10 = .ok (.aload_n 0, 1) := by decide +kernel
theorem dX9_senses_11 : decode cX9_senses 11 = .ok (.getfield 22, 3) := by decide +kernel
theorem dX9_senses_14 : decode cX9_senses 14 = .ok (.iload_n 1, 1) := by decide +kernel
theorem dX9_senses_15 : decode cX9_senses 15 = .ok (.iaload, 1) := by decide +kernel
theorem dX9_senses_16 : decode cX9_senses 16 = .ok (.iload_n 3, 1) := by decide +kernel
theorem dX9_senses_17 : decode cX9_senses 17 = .ok (.ishr, 1) := by decide +kernel
theorem dX9_senses_18 : decode cX9_senses 18 = .ok (.iconst 1, 1) := by decide +kernel
theorem dX9_senses_19 : decode cX9_senses 19 = .ok (.iand, 1) := by decide +kernel
theorem dX9_senses_20 : decode cX9_senses 20 = .ok (.iconst 1, 1) := by decide +kernel
theorem dX9_senses_21 : decode cX9_senses 21 = .ok (.if_icmp .ne 13, 3) := by decide +kernel
theorem dX9_senses_24 : decode cX9_senses 24 = .ok (.iload_n 2, 1) := by decide +kernel
theorem dX9_senses_25 : decode cX9_senses 25 = .ok (.iconst 1, 1) := by decide +kernel
theorem dX9_senses_26 : decode cX9_senses 26 = .ok (.aload_n 0, 1) := by decide +kernel
theorem dX9_senses_27 : decode cX9_senses 27 = .ok (.iload_n 3, 1) := by decide +kernel
theorem dX9_senses_28 : decode cX9_senses 28 = .ok (.invokevirtual 134, 3) := by decide +kernel
theorem dX9_senses_31 : decode cX9_senses 31 = .ok (.ishl, 1) := by decide +kernel
theorem dX9_senses_32 : decode cX9_senses 32 = .ok (.ior, 1) := by decide +kernel
theorem dX9_senses_33 : decode cX9_senses 33 = .ok (.istore_n 2, 1) := by decide +kernel
theorem dX9_senses_34 : decode cX9_senses 34 = .ok (.iinc 3 1, 3) := by decide +kernel
theorem dX9_senses_37 : decode cX9_senses 37 = .ok (.goto (-33), 3) := by decide +kernel
theorem dX9_senses_40 : decode cX9_senses 40 = .ok (.iload_n 2, 1) := by decide +kernel
theorem dX9_senses_41 : decode cX9_senses 41 = .ok (.ireturn, 1) := by decide +kernel
theorem dX9_bitsOf_0 : decode cX9_bitsOf 0 = .ok (.iconst 0, 1) := by decide +kernel
theorem dX9_bitsOf_1 : decode cX9_bitsOf 1 = .ok (.istore_n 1, 1) := by decide +kernel
theorem dX9_bitsOf_2 : decode cX9_bitsOf 2 = .ok (.iload_n 0, 1) := by decide +kernel
theorem dX9_bitsOf_3 : decode cX9_bitsOf 3 = .ok (.istore_n 2, 1) := by decide +kernel
theorem dX9_bitsOf_4 : decode cX9_bitsOf 4 = .ok (.iload_n 2, 1) := by decide +kernel
theorem dX9_bitsOf_5 : decode cX9_bitsOf 5 = .ok (.ifCond .eq 15, 3) := by decide +kernel
theorem dX9_bitsOf_8 : decode cX9_bitsOf 8 = .ok (.iinc 1 1, 3) := by decide +kernel
theorem dX9_bitsOf_11 : decode cX9_bitsOf 11 = .ok (.iload_n 2, 1) := by decide +kernel
theorem dX9_bitsOf_12 : decode cX9_bitsOf 12 = .ok (.iload_n 2, 1) := by decide +kernel
theorem dX9_bitsOf_13 : decode cX9_bitsOf 13 = .ok (.iconst 1, 1) := by decide +kernel
theorem dX9_bitsOf_14 : decode cX9_bitsOf 14 = .ok (.isub, 1) := by decide +kernel
theorem dX9_bitsOf_15 : decode cX9_bitsOf 15 = .ok (.iand, 1) := by decide +kernel
theorem dX9_bitsOf_16 : decode cX9_bitsOf 16 = .ok (.istore_n 2, 1) := by decide +kernel
theorem dX9_bitsOf_17 : decode cX9_bitsOf 17 = .ok (.goto (-13), 3) := by decide +kernel
theorem dX9_bitsOf_20 : decode cX9_bitsOf 20 = .ok (.iload_n 1, 1) := by decide +kernel
theorem dX9_bitsOf_21 : decode cX9_bitsOf 21 = .ok (.ireturn, 1) := by decide +kernel
theorem dX9_likeOf_0 : decode cX9_likeOf 0 = .ok (.bipush 10, 2) := by decide +kernel
theorem dX9_likeOf_2 : decode cX9_likeOf 2 = .ok (.iload_n 1, 1) := by decide +kernel
theorem dX9_likeOf_3 : decode cX9_likeOf 3 = .ok (.imul, 1) := by decide +kernel
theorem dX9_likeOf_4 : decode cX9_likeOf 4 = .ok (.iload_n 2, 1) := by decide +kernel
theorem dX9_likeOf_5 : decode cX9_likeOf 5 = .ok (.iadd, 1) := by decide +kernel
theorem dX9_likeOf_6 : decode cX9_likeOf 6 = .ok (.istore 5, 2) := by decide +kernel
theorem dX9_likeOf_8 : decode cX9_likeOf 8 = .ok (.bipush 10, 2) := by decide +kernel
theorem dX9_likeOf_10 : decode cX9_likeOf 10 = .ok (.iload_n 3, 1) := by decide +kernel
theorem dX9_likeOf_11 : decode cX9_likeOf 11 = .ok (.imul, 1) := by decide +kernel
theorem dX9_likeOf_12 : decode cX9_likeOf 12 = .ok (.iload 4, 2) := by decide +kernel
theorem dX9_likeOf_14 : decode cX9_likeOf 14 = .ok (.iadd, 1) := by decide +kernel
theorem dX9_likeOf_15 : decode cX9_likeOf 15 = .ok (.istore 6, 2) := by decide +kernel
theorem dX9_likeOf_17 : decode cX9_likeOf 17 = .ok (.aload_n 0, 1) := by decide +kernel
theorem dX9_likeOf_18 : decode cX9_likeOf 18 = .ok (.getfield 25, 3) := by decide +kernel
theorem dX9_likeOf_21 : decode cX9_likeOf 21 = .ok (.iload 5, 2) := by decide +kernel
theorem dX9_likeOf_23 : decode cX9_likeOf 23 = .ok (.iaload, 1) := by decide +kernel
theorem dX9_likeOf_24 : decode cX9_likeOf 24 = .ok (.aload_n 0, 1) := by decide +kernel
theorem dX9_likeOf_25 : decode cX9_likeOf 25 = .ok (.getfield 25, 3) := by decide +kernel
theorem dX9_likeOf_28 : decode cX9_likeOf 28 = .ok (.iload 6, 2) := by decide +kernel
theorem dX9_likeOf_30 : decode cX9_likeOf 30 = .ok (.iaload, 1) := by decide +kernel
theorem dX9_likeOf_31 : decode cX9_likeOf 31 = .ok (.isub, 1) := by decide +kernel
theorem dX9_likeOf_32 : decode cX9_likeOf 32 = .ok (.invokestatic 151, 3) := by decide +kernel
theorem dX9_likeOf_35 : decode cX9_likeOf 35 = .ok (.istore 7, 2) := by decide +kernel
theorem dX9_likeOf_37 : decode cX9_likeOf 37 = .ok (.aload_n 0, 1) := by decide +kernel
theorem dX9_likeOf_38 : decode cX9_likeOf 38 = .ok (.iload 5, 2) := by decide +kernel
theorem dX9_likeOf_40 : decode cX9_likeOf 40 = .ok (.invokevirtual 156, 3) := by decide +kernel
theorem dX9_likeOf_43 : decode cX9_likeOf 43 = .ok (.istore 8, 2) := by decide +kernel
theorem dX9_likeOf_45 : decode cX9_likeOf 45 = .ok (.aload_n 0, 1) := by decide +kernel
theorem dX9_likeOf_46 : decode cX9_likeOf 46 = .ok (.iload 6, 2) := by decide +kernel
theorem dX9_likeOf_48 : decode cX9_likeOf 48 = .ok (.invokevirtual 156, 3) := by decide +kernel
theorem dX9_likeOf_51 : decode cX9_likeOf 51 = .ok (.istore 9, 2) := by decide +kernel
theorem dX9_likeOf_53 : decode cX9_likeOf 53 = .ok (.aload_n 0, 1) := by decide +kernel
theorem dX9_likeOf_54 : decode cX9_likeOf 54 = .ok (.getfield 16, 3) := by decide +kernel
theorem dX9_likeOf_57 : decode cX9_likeOf 57 = .ok (.iload_n 1, 1) := by decide +kernel
theorem dX9_likeOf_58 : decode cX9_likeOf 58 = .ok (.iaload, 1) := by decide +kernel
theorem dX9_likeOf_59 : decode cX9_likeOf 59 = .ok (.aload_n 0, 1) := by decide +kernel
theorem dX9_likeOf_60 : decode cX9_likeOf 60 = .ok (.getfield 16, 3) := by decide +kernel
theorem dX9_likeOf_63 : decode cX9_likeOf 63 = .ok (.iload_n 3, 1) := by decide +kernel
theorem dX9_likeOf_64 : decode cX9_likeOf 64 = .ok (.iaload, 1) := by decide +kernel
theorem dX9_likeOf_65 : decode cX9_likeOf 65 = .ok (.if_icmp .eq 26, 3) := by decide +kernel
theorem dX9_likeOf_68 : decode cX9_likeOf 68 = .ok (.aload_n 0, 1) := by decide +kernel
theorem dX9_likeOf_69 : decode cX9_likeOf 69 = .ok (.getfield 16, 3) := by decide +kernel
theorem dX9_likeOf_72 : decode cX9_likeOf 72 = .ok (.iload_n 1, 1) := by decide +kernel
theorem dX9_likeOf_73 : decode cX9_likeOf 73 = .ok (.iaload, 1) := by decide +kernel
theorem dX9_likeOf_74 : decode cX9_likeOf 74 = .ok (.aload_n 0, 1) := by decide +kernel
theorem dX9_likeOf_75 : decode cX9_likeOf 75 = .ok (.getfield 16, 3) := by decide +kernel
theorem dX9_likeOf_78 : decode cX9_likeOf 78 = .ok (.iload_n 3, 1) := by decide +kernel
theorem dX9_likeOf_79 : decode cX9_likeOf 79 = .ok (.iaload, 1) := by decide +kernel
theorem dX9_likeOf_80 : decode cX9_likeOf 80 = .ok (.if_icmp .ge 7, 3) := by decide +kernel
theorem dX9_likeOf_83 : decode cX9_likeOf 83 = .ok (.iconst 1, 1) := by decide +kernel
theorem dX9_likeOf_84 : decode cX9_likeOf 84 = .ok (.goto 17, 3) := by decide +kernel
theorem dX9_likeOf_87 : decode cX9_likeOf 87 = .ok (.iconst 0, 1) := by decide +kernel
theorem dX9_likeOf_88 : decode cX9_likeOf 88 = .ok (.goto 13, 3) := by decide +kernel
theorem dX9_likeOf_91 : decode cX9_likeOf 91 = .ok (.iload_n 1, 1) := by decide +kernel
theorem dX9_likeOf_92 : decode cX9_likeOf 92 = .ok (.iload_n 3, 1) := by decide +kernel
theorem dX9_likeOf_93 : decode cX9_likeOf 93 = .ok (.if_icmp .ge 7, 3) := by decide +kernel
theorem dX9_likeOf_96 : decode cX9_likeOf 96 = .ok (.iconst 1, 1) := by decide +kernel
theorem dX9_likeOf_97 : decode cX9_likeOf 97 = .ok (.goto 4, 3) := by decide +kernel
theorem dX9_likeOf_100 : decode cX9_likeOf 100 = .ok (.iconst 0, 1) := by decide +kernel
theorem dX9_likeOf_101 : decode cX9_likeOf 101 = .ok (.istore 10, 2) := by decide +kernel
theorem dX9_likeOf_103 : decode cX9_likeOf 103 = .ok (.iload 10, 2) := by decide +kernel
theorem dX9_likeOf_105 : decode cX9_likeOf 105 = .ok (.ifCond .eq 21, 3) := by decide +kernel
theorem dX9_likeOf_108 : decode cX9_likeOf 108 = .ok (.aload_n 0, 1) := by decide +kernel
theorem dX9_likeOf_109 : decode cX9_likeOf 109 = .ok (.getfield 31, 3) := by decide +kernel
theorem dX9_likeOf_112 : decode cX9_likeOf 112 = .ok (.iload 5, 2) := by decide +kernel
theorem dX9_likeOf_114 : decode cX9_likeOf 114 = .ok (.iaload, 1) := by decide +kernel
theorem dX9_likeOf_115 : decode cX9_likeOf 115 = .ok (.aload_n 0, 1) := by decide +kernel
theorem dX9_likeOf_116 : decode cX9_likeOf 116 = .ok (.getfield 31, 3) := by decide +kernel
theorem dX9_likeOf_119 : decode cX9_likeOf 119 = .ok (.iload 6, 2) := by decide +kernel
theorem dX9_likeOf_121 : decode cX9_likeOf 121 = .ok (.iaload, 1) := by decide +kernel
theorem dX9_likeOf_122 : decode cX9_likeOf 122 = .ok (.isub, 1) := by decide +kernel
theorem dX9_likeOf_123 : decode cX9_likeOf 123 = .ok (.goto 18, 3) := by decide +kernel
theorem dX9_likeOf_126 : decode cX9_likeOf 126 = .ok (.aload_n 0, 1) := by decide +kernel
theorem dX9_likeOf_127 : decode cX9_likeOf 127 = .ok (.getfield 31, 3) := by decide +kernel
theorem dX9_likeOf_130 : decode cX9_likeOf 130 = .ok (.iload 6, 2) := by decide +kernel
theorem dX9_likeOf_132 : decode cX9_likeOf 132 = .ok (.iaload, 1) := by decide +kernel
theorem dX9_likeOf_133 : decode cX9_likeOf 133 = .ok (.aload_n 0, 1) := by decide +kernel
theorem dX9_likeOf_134 : decode cX9_likeOf 134 = .ok (.getfield 31, 3) := by decide +kernel
theorem dX9_likeOf_137 : decode cX9_likeOf 137 = .ok (.iload 5, 2) := by decide +kernel
theorem dX9_likeOf_139 : decode cX9_likeOf 139 = .ok (.iaload, 1) := by decide +kernel
theorem dX9_likeOf_140 : decode cX9_likeOf 140 = .ok (.isub, 1) := by decide +kernel
theorem dX9_likeOf_141 : decode cX9_likeOf 141 = .ok (.istore 11, 2) := by decide +kernel
theorem dX9_likeOf_143 : decode cX9_likeOf 143 = .ok (.iload 7, 2) := by decide +kernel
theorem dX9_likeOf_145 : decode cX9_likeOf 145 = .ok (.aload_n 0, 1) := by decide +kernel
theorem dX9_likeOf_146 : decode cX9_likeOf 146 = .ok (.getfield 40, 3) := by decide +kernel
theorem dX9_likeOf_149 : decode cX9_likeOf 149 = .ok (.if_icmp .gt 55, 3) := by decide +kernel
theorem dX9_likeOf_152 : decode cX9_likeOf 152 = .ok (.iload 8, 2) := by decide +kernel
theorem dX9_likeOf_154 : decode cX9_likeOf 154 = .ok (.iload 9, 2) := by decide +kernel
theorem dX9_likeOf_156 : decode cX9_likeOf 156 = .ok (.iand, 1) := by decide +kernel
theorem dX9_likeOf_157 : decode cX9_likeOf 157 = .ok (.ifCond .eq 47, 3) := by decide +kernel
theorem dX9_likeOf_160 : decode cX9_likeOf 160 = .ok (.aload_n 0, 1) := by decide +kernel
theorem dX9_likeOf_161 : decode cX9_likeOf 161 = .ok (.iload 5, 2) := by decide +kernel
theorem dX9_likeOf_163 : decode cX9_likeOf 163 = .ok (.iload 6, 2) := by decide +kernel
theorem dX9_likeOf_165 : decode cX9_likeOf 165 = .ok (.invokevirtual 148, 3) := by decide +kernel
theorem dX9_likeOf_168 : decode cX9_likeOf 168 = .ok (.ifCond .ne 36, 3) := by decide +kernel
theorem dX9_likeOf_171 : decode cX9_likeOf 171 = .ok (.iload 11, 2) := by decide +kernel
theorem dX9_likeOf_173 : decode cX9_likeOf 173 = .ok (.ifCond .lt 31, 3) := by decide +kernel
theorem dX9_likeOf_176 : decode cX9_likeOf 176 = .ok (.iload 11, 2) := by decide +kernel
theorem dX9_likeOf_178 : decode cX9_likeOf 178 = .ok (.aload_n 0, 1) := by decide +kernel
theorem dX9_likeOf_179 : decode cX9_likeOf 179 = .ok (.getfield 16, 3) := by decide +kernel
theorem dX9_likeOf_182 : decode cX9_likeOf 182 = .ok (.iload_n 1, 1) := by decide +kernel
theorem dX9_likeOf_183 : decode cX9_likeOf 183 = .ok (.iaload, 1) := by decide +kernel
theorem dX9_likeOf_184 : decode cX9_likeOf 184 = .ok (.aload_n 0, 1) := by decide +kernel
theorem dX9_likeOf_185 : decode cX9_likeOf 185 = .ok (.getfield 16, 3) := by decide +kernel
theorem dX9_likeOf_188 : decode cX9_likeOf 188 = .ok (.iload_n 3, 1) := by decide +kernel
theorem dX9_likeOf_189 : decode cX9_likeOf 189 = .ok (.iaload, 1) := by decide +kernel
theorem dX9_likeOf_190 : decode cX9_likeOf 190 = .ok (.isub, 1) := by decide +kernel
theorem dX9_likeOf_191 : decode cX9_likeOf 191 = .ok (.invokestatic 151, 3) := by decide +kernel
theorem dX9_likeOf_194 : decode cX9_likeOf 194 = .ok (.aload_n 0, 1) := by decide +kernel
theorem dX9_likeOf_195 : decode cX9_likeOf 195 = .ok (.getfield 44, 3) := by decide +kernel
theorem dX9_likeOf_198 : decode cX9_likeOf 198 = .ok (.imul, 1) := by decide +kernel
theorem dX9_likeOf_199 : decode cX9_likeOf 199 = .ok (.iconst 5, 1) := by decide +kernel
theorem dX9_likeOf_200 : decode cX9_likeOf 200 = .ok (.iadd, 1) := by decide +kernel
theorem dX9_likeOf_201 : decode cX9_likeOf 201 = .ok (.if_icmp .le 5, 3) := by decide +kernel
theorem dX9_likeOf_204 : decode cX9_likeOf 204 = .ok (.iconst 0, 1) := by decide +kernel
theorem dX9_likeOf_205 : decode cX9_likeOf 205 = .ok (.ireturn, 1) := by decide +kernel
theorem dX9_likeOf_206 : decode cX9_likeOf 206 = .ok (.iconst 1, 1) := by decide +kernel
theorem dX9_likeOf_207 : decode cX9_likeOf 207 = .ok (.bipush 10, 2) := by decide +kernel
theorem dX9_likeOf_209 : decode cX9_likeOf 209 = .ok (.iload 8, 2) := by decide +kernel
theorem dX9_likeOf_211 : decode cX9_likeOf 211 = .ok (.iload 9, 2) := by decide +kernel
theorem dX9_likeOf_213 : decode cX9_likeOf 213 = .ok (.iand, 1) := by decide +kernel
theorem dX9_likeOf_214 : decode cX9_likeOf 214 = .ok (.invokestatic 159, 3) := by decide +kernel
theorem dX9_likeOf_217 : decode cX9_likeOf 217 = .ok (.imul, 1) := by decide +kernel
theorem dX9_likeOf_218 : decode cX9_likeOf 218 = .ok (.iconst 2, 1) := by decide +kernel
theorem dX9_likeOf_219 : decode cX9_likeOf 219 = .ok (.iload 8, 2) := by decide +kernel
theorem dX9_likeOf_221 : decode cX9_likeOf 221 = .ok (.iload 9, 2) := by decide +kernel
theorem dX9_likeOf_223 : decode cX9_likeOf 223 = .ok (.ixor, 1) := by decide +kernel
theorem dX9_likeOf_224 : decode cX9_likeOf 224 = .ok (.invokestatic 159, 3) := by decide +kernel
theorem dX9_likeOf_227 : decode cX9_likeOf 227 = .ok (.imul, 1) := by decide +kernel
theorem dX9_likeOf_228 : decode cX9_likeOf 228 = .ok (.isub, 1) := by decide +kernel
theorem dX9_likeOf_229 : decode cX9_likeOf 229 = .ok (.iload 7, 2) := by decide +kernel
theorem dX9_likeOf_231 : decode cX9_likeOf 231 = .ok (.isub, 1) := by decide +kernel
theorem dX9_likeOf_232 : decode cX9_likeOf 232 = .ok (.aload_n 0, 1) := by decide +kernel
theorem dX9_likeOf_233 : decode cX9_likeOf 233 = .ok (.getfield 28, 3) := by decide +kernel
theorem dX9_likeOf_236 : decode cX9_likeOf 236 = .ok (.iload 5, 2) := by decide +kernel
theorem dX9_likeOf_238 : decode cX9_likeOf 238 = .ok (.iaload, 1) := by decide +kernel
theorem dX9_likeOf_239 : decode cX9_likeOf 239 = .ok (.aload_n 0, 1) := by decide +kernel
theorem dX9_likeOf_240 : decode cX9_likeOf 240 = .ok (.getfield 28, 3) := by decide +kernel
theorem dX9_likeOf_243 : decode cX9_likeOf 243 = .ok (.iload 6, 2) := by decide +kernel
theorem dX9_likeOf_245 : decode cX9_likeOf 245 = .ok (.iaload, 1) := by decide +kernel
theorem dX9_likeOf_246 : decode cX9_likeOf 246 = .ok (.if_icmp .ne 8, 3) := by decide +kernel
theorem dX9_likeOf_249 : decode cX9_likeOf 249 = .ok (.bipush 7, 2) := by decide +kernel
theorem dX9_likeOf_251 : decode cX9_likeOf 251 = .ok (.goto 4, 3) := by decide +kernel
theorem dX9_likeOf_254 : decode cX9_likeOf 254 = .ok (.iconst 0, 1) := by decide +kernel
theorem dX9_likeOf_255 : decode cX9_likeOf 255 = .ok (.iadd, 1) := by decide +kernel
theorem dX9_likeOf_256 : decode cX9_likeOf 256 = .ok (.invokestatic 162, 3) := by decide +kernel
theorem dX9_likeOf_259 : decode cX9_likeOf 259 = .ok (.ireturn, 1) := by decide +kernel
theorem dX9_like_0 : decode cX9_like 0 = .ok (.aload_n 0, 1) := by decide +kernel
theorem dX9_like_1 : decode cX9_like 1 = .ok (.iload_n 1, 1) := by decide +kernel
theorem dX9_like_2 : decode cX9_like 2 = .ok (.iload_n 2, 1) := by decide +kernel
theorem dX9_like_3 : decode cX9_like 3 = .ok (.invokevirtual 145, 3) := by decide +kernel
theorem dX9_like_6 : decode cX9_like 6 = .ok (.ifCond .eq 30, 3) := by decide +kernel
theorem dX9_like_9 : decode cX9_like 9 = .ok (.aload_n 0, 1) := by decide +kernel
theorem dX9_like_10 : decode cX9_like 10 = .ok (.iload_n 3, 1) := by decide +kernel
theorem dX9_like_11 : decode cX9_like 11 = .ok (.iload 4, 2) := by decide +kernel
theorem dX9_like_13 : decode cX9_like 13 = .ok (.invokevirtual 145, 3) := by decide +kernel
theorem dX9_like_16 : decode cX9_like 16 = .ok (.ifCond .eq 20, 3) := by decide +kernel
theorem dX9_like_19 : decode cX9_like 19 = .ok (.iload_n 1, 1) := by decide +kernel
theorem dX9_like_20 : decode cX9_like 20 = .ok (.iload_n 3, 1) := by decide +kernel
theorem dX9_like_21 : decode cX9_like 21 = .ok (.if_icmp .eq 15, 3) := by decide +kernel
theorem dX9_like_24 : decode cX9_like 24 = .ok (.aload_n 0, 1) := by decide +kernel
theorem dX9_like_25 : decode cX9_like 25 = .ok (.iload_n 1, 1) := by decide +kernel
theorem dX9_like_26 : decode cX9_like 26 = .ok (.iload_n 2, 1) := by decide +kernel
theorem dX9_like_27 : decode cX9_like 27 = .ok (.iload_n 3, 1) := by decide +kernel
theorem dX9_like_28 : decode cX9_like 28 = .ok (.iload 4, 2) := by decide +kernel
theorem dX9_like_30 : decode cX9_like 30 = .ok (.invokevirtual 166, 3) := by decide +kernel
theorem dX9_like_33 : decode cX9_like 33 = .ok (.goto 8, 3) := by decide +kernel
theorem dX9_like_36 : decode cX9_like 36 = .ok (.aload_n 0, 1) := by decide +kernel
theorem dX9_like_37 : decode cX9_like 37 = .ok (.iconst (-1), 1) := by decide +kernel
theorem dX9_like_38 : decode cX9_like 38 = .ok (.invokevirtual 130, 3) := by decide +kernel
theorem dX9_like_41 : decode cX9_like 41 = .ok (.ireturn, 1) := by decide +kernel
theorem dX9_areBooks_0 : decode cX9_areBooks 0 = .ok (.iload_n 1, 1) := by decide +kernel
theorem dX9_areBooks_1 : decode cX9_areBooks 1 = .ok (.iconst 4, 1) := by decide +kernel
theorem dX9_areBooks_2 : decode cX9_areBooks 2 = .ok (.invokestatic 126, 3) := by decide +kernel
theorem dX9_areBooks_5 : decode cX9_areBooks 5 = .ok (.ifCond .eq 20, 3) := by decide +kernel
theorem dX9_areBooks_8 : decode cX9_areBooks 8 = .ok (.iload_n 2, 1) := by decide +kernel
theorem dX9_areBooks_9 : decode cX9_areBooks 9 = .ok (.iconst 4, 1) := by decide +kernel
theorem dX9_areBooks_10 : decode cX9_areBooks 10 = .ok (.invokestatic 126, 3) := by decide +kernel
theorem dX9_areBooks_13 : decode cX9_areBooks 13 = .ok (.ifCond .eq 12, 3) := by decide +kernel
theorem dX9_areBooks_16 : decode cX9_areBooks 16 = .ok (.iload_n 1, 1) := by decide +kernel
theorem dX9_areBooks_17 : decode cX9_areBooks 17 = .ok (.iload_n 2, 1) := by decide +kernel
theorem dX9_areBooks_18 : decode cX9_areBooks 18 = .ok (.if_icmp .eq 7, 3) := by decide +kernel
theorem dX9_areBooks_21 : decode cX9_areBooks 21 = .ok (.iconst 1, 1) := by decide +kernel
theorem dX9_areBooks_22 : decode cX9_areBooks 22 = .ok (.goto 4, 3) := by decide +kernel
theorem dX9_areBooks_25 : decode cX9_areBooks 25 = .ok (.iconst 0, 1) := by decide +kernel
theorem dX9_areBooks_26 : decode cX9_areBooks 26 = .ok (.ireturn, 1) := by decide +kernel
theorem dX9_measure_0 : decode cX9_measure 0 = .ok (.iconst 0, 1) := by decide +kernel
theorem dX9_measure_1 : decode cX9_measure 1 = .ok (.istore_n 3, 1) := by decide +kernel
theorem dX9_measure_2 : decode cX9_measure 2 = .ok (.iload_n 3, 1) := by decide +kernel
theorem dX9_measure_3 : decode cX9_measure 3 = .ok (.aload_n 0, 1) := by decide +kernel
theorem dX9_measure_4 : decode cX9_measure 4 = .ok (.getfield 19, 3) := by decide +kernel
theorem dX9_measure_7 : decode cX9_measure 7 = .ok (.iload_n 1, 1) := by decide +kernel
theorem dX9_measure_8 : decode cX9_measure 8 = .ok (.iaload, 1) := by decide +kernel
theorem dX9_measure_9 : decode cX9_measure 9 = .ok (.if_icmp .ge 50, 3) := by decide +kernel
theorem dX9_measure_12 : decode cX9_measure 12 = .ok (.iconst 0, 1) := by decide +kernel
theorem dX9_measure_13 : decode cX9_measure 13 = .ok (.istore 4, 2) := by decide +kernel
theorem dX9_measure_15 : decode cX9_measure 15 = .ok (.iload 4, 2) := by decide +kernel
theorem dX9_measure_17 : decode cX9_measure 17 = .ok (.aload_n 0, 1) := by decide +kernel
theorem dX9_measure_18 : decode cX9_measure 18 = .ok (.getfield 19, 3) := by decide +kernel
theorem dX9_measure_21 : decode cX9_measure 21 = .ok (.iload_n 2, 1) := by decide +kernel
theorem dX9_measure_22 : decode cX9_measure 22 = .ok (.iaload, 1) := by decide +kernel
theorem dX9_measure_23 : decode cX9_measure 23 = .ok (.if_icmp .ge 30, 3) := by decide +kernel
theorem dX9_measure_26 : decode cX9_measure 26 = .ok (.aload_n 0, 1) := by decide +kernel
theorem dX9_measure_27 : decode cX9_measure 27 = .ok (.getfield 47, 3) := by decide +kernel
theorem dX9_measure_30 : decode cX9_measure 30 = .ok (.bipush 10, 2) := by decide +kernel
theorem dX9_measure_32 : decode cX9_measure 32 = .ok (.iload_n 3, 1) := by decide +kernel
theorem dX9_measure_33 : decode cX9_measure 33 = .ok (.imul, 1) := by decide +kernel
theorem dX9_measure_34 : decode cX9_measure 34 = .ok (.iload 4, 2) := by decide +kernel
theorem dX9_measure_36 : decode cX9_measure 36 = .ok (.iadd, 1) := by decide +kernel
theorem dX9_measure_37 : decode cX9_measure 37 = .ok (.aload_n 0, 1) := by decide +kernel
theorem dX9_measure_38 : decode cX9_measure 38 = .ok (.iload_n 1, 1) := by decide +kernel
theorem dX9_measure_39 : decode cX9_measure 39 = .ok (.iload_n 3, 1) := by decide +kernel
theorem dX9_measure_40 : decode cX9_measure 40 = .ok (.iload_n 2, 1) := by decide +kernel
theorem dX9_measure_41 : decode cX9_measure 41 = .ok (.iload 4, 2) := by decide +kernel
theorem dX9_measure_43 : decode cX9_measure 43 = .ok (.invokevirtual 166, 3) := by decide +kernel
theorem dX9_measure_46 : decode cX9_measure 46 = .ok (.iastore, 1) := by decide +kernel
theorem dX9_measure_47 : decode cX9_measure 47 = .ok (.iinc 4 1, 3) := by decide +kernel
theorem dX9_measure_50 : decode cX9_measure 50 = .ok (.goto (-35), 3) := by decide +kernel
theorem dX9_measure_53 : decode cX9_measure 53 = .ok (.iinc 3 1, 3) := by decide +kernel
theorem dX9_measure_56 : decode cX9_measure 56 = .ok (.goto (-54), 3) := by decide +kernel
theorem dX9_measure_59 : decode cX9_measure 59 = .ok (.return_, 1) := by decide +kernel
theorem dX9_at_0 : decode cX9_at 0 = .ok (.iload_n 0, 1) := by decide +kernel
theorem dX9_at_1 : decode cX9_at 1 = .ok (.bipush 10, 2) := by decide +kernel
theorem dX9_at_3 : decode cX9_at 3 = .ok (.ishl, 1) := by decide +kernel
theorem dX9_at_4 : decode cX9_at 4 = .ok (.iload_n 1, 1) := by decide +kernel
theorem dX9_at_5 : decode cX9_at 5 = .ok (.iadd, 1) := by decide +kernel
theorem dX9_at_6 : decode cX9_at 6 = .ok (.ireturn, 1) := by decide +kernel
theorem dX9_finds_0 : decode cX9_finds 0 = .ok (.iconst 1, 1) := by decide +kernel
theorem dX9_finds_1 : decode cX9_finds 1 = .ok (.iload_n 2, 1) := by decide +kernel
theorem dX9_finds_2 : decode cX9_finds 2 = .ok (.ishl, 1) := by decide +kernel
theorem dX9_finds_3 : decode cX9_finds 3 = .ok (.istore_n 3, 1) := by decide +kernel
theorem dX9_finds_4 : decode cX9_finds 4 = .ok (.iconst 0, 1) := by decide +kernel
theorem dX9_finds_5 : decode cX9_finds 5 = .ok (.istore 4, 2) := by decide +kernel
theorem dX9_finds_7 : decode cX9_finds 7 = .ok (.iload 4, 2) := by decide +kernel
theorem dX9_finds_9 : decode cX9_finds 9 = .ok (.iload_n 3, 1) := by decide +kernel
theorem dX9_finds_10 : decode cX9_finds 10 = .ok (.if_icmp .ge 33, 3) := by decide +kernel
theorem dX9_finds_13 : decode cX9_finds 13 = .ok (.aload_n 0, 1) := by decide +kernel
theorem dX9_finds_14 : decode cX9_finds 14 = .ok (.getfield 50, 3) := by decide +kernel
theorem dX9_finds_17 : decode cX9_finds 17 = .ok (.iload_n 1, 1) := by decide +kernel
theorem dX9_finds_18 : decode cX9_finds 18 = .ok (.iload 4, 2) := by decide +kernel
theorem dX9_finds_20 : decode cX9_finds 20 = .ok (.invokestatic 170, 3) := by decide +kernel
theorem dX9_finds_23 : decode cX9_finds 23 = .ok (.iconst 0, 1) := by decide +kernel
theorem dX9_finds_24 : decode cX9_finds 24 = .ok (.iastore, 1) := by decide +kernel
theorem dX9_finds_25 : decode cX9_finds 25 = .ok (.aload_n 0, 1) := by decide +kernel
theorem dX9_finds_26 : decode cX9_finds 26 = .ok (.getfield 56, 3) := by decide +kernel
theorem dX9_finds_29 : decode cX9_finds 29 = .ok (.iload_n 1, 1) := by decide +kernel
theorem dX9_finds_30 : decode cX9_finds 30 = .ok (.iload 4, 2) := by decide +kernel
theorem dX9_finds_32 : decode cX9_finds 32 = .ok (.invokestatic 170, 3) := by decide +kernel
theorem dX9_finds_35 : decode cX9_finds 35 = .ok (.iconst 1, 1) := by decide +kernel
theorem dX9_finds_36 : decode cX9_finds 36 = .ok (.iastore, 1) := by decide +kernel
theorem dX9_finds_37 : decode cX9_finds 37 = .ok (.iinc 4 1, 3) := by decide +kernel
theorem dX9_finds_40 : decode cX9_finds 40 = .ok (.goto (-33), 3) := by decide +kernel
theorem dX9_finds_43 : decode cX9_finds 43 = .ok (.iload_n 1, 1) := by decide +kernel
theorem dX9_finds_44 : decode cX9_finds 44 = .ok (.iconst 1, 1) := by decide +kernel
theorem dX9_finds_45 : decode cX9_finds 45 = .ok (.isub, 1) := by decide +kernel
theorem dX9_finds_46 : decode cX9_finds 46 = .ok (.istore 4, 2) := by decide +kernel
theorem dX9_finds_48 : decode cX9_finds 48 = .ok (.iload 4, 2) := by decide +kernel
theorem dX9_finds_50 : decode cX9_finds 50 = .ok (.ifCond .lt 212, 3) := by decide +kernel
theorem dX9_finds_53 : decode cX9_finds 53 = .ok (.iconst 0, 1) := by decide +kernel
theorem dX9_finds_54 : decode cX9_finds 54 = .ok (.istore 5, 2) := by decide +kernel
theorem dX9_finds_56 : decode cX9_finds 56 = .ok (.iload 5, 2) := by decide +kernel
theorem dX9_finds_58 : decode cX9_finds 58 = .ok (.iload_n 3, 1) := by decide +kernel
theorem dX9_finds_59 : decode cX9_finds 59 = .ok (.if_icmp .ge 197, 3) := by decide +kernel
theorem dX9_finds_62 : decode cX9_finds 62 = .ok (.aload_n 0, 1) := by decide +kernel
theorem dX9_finds_63 : decode cX9_finds 63 = .ok (.getfield 50, 3) := by decide +kernel
theorem dX9_finds_66 : decode cX9_finds 66 = .ok (.iload 4, 2) := by decide +kernel
theorem dX9_finds_68 : decode cX9_finds 68 = .ok (.iconst 1, 1) := by decide +kernel
theorem dX9_finds_69 : decode cX9_finds 69 = .ok (.iadd, 1) := by decide +kernel
theorem dX9_finds_70 : decode cX9_finds 70 = .ok (.iload 5, 2) := by decide +kernel
theorem dX9_finds_72 : decode cX9_finds 72 = .ok (.invokestatic 170, 3) := by decide +kernel
theorem dX9_finds_75 : decode cX9_finds 75 = .ok (.iaload, 1) := by decide +kernel
theorem dX9_finds_76 : decode cX9_finds 76 = .ok (.istore 6, 2) := by decide +kernel
theorem dX9_finds_78 : decode cX9_finds 78 = .ok (.aload_n 0, 1) := by decide +kernel
theorem dX9_finds_79 : decode cX9_finds 79 = .ok (.getfield 56, 3) := by decide +kernel
theorem dX9_finds_82 : decode cX9_finds 82 = .ok (.iload 4, 2) := by decide +kernel
theorem dX9_finds_84 : decode cX9_finds 84 = .ok (.iconst 1, 1) := by decide +kernel
theorem dX9_finds_85 : decode cX9_finds 85 = .ok (.iadd, 1) := by decide +kernel
theorem dX9_finds_86 : decode cX9_finds 86 = .ok (.iload 5, 2) := by decide +kernel
theorem dX9_finds_88 : decode cX9_finds 88 = .ok (.invokestatic 170, 3) := by decide +kernel
theorem dX9_finds_91 : decode cX9_finds 91 = .ok (.iaload, 1) := by decide +kernel
theorem dX9_finds_92 : decode cX9_finds 92 = .ok (.istore 7, 2) := by decide +kernel
theorem dX9_finds_94 : decode cX9_finds 94 = .ok (.iconst 0, 1) := by decide +kernel
theorem dX9_finds_95 : decode cX9_finds 95 = .ok (.istore 8, 2) := by decide +kernel
theorem dX9_finds_97 : decode cX9_finds 97 = .ok (.iload 8, 2) := by decide +kernel
theorem dX9_finds_99 : decode cX9_finds 99 = .ok (.iload_n 2, 1) := by decide +kernel
theorem dX9_finds_100 : decode cX9_finds 100 = .ok (.if_icmp .ge 122, 3) := by decide +kernel
theorem dX9_finds_103 : decode cX9_finds 103 = .ok (.aload_n 0, 1) := by decide +kernel
theorem dX9_finds_104 : decode cX9_finds 104 = .ok (.getfield 47, 3) := by decide +kernel
theorem dX9_finds_107 : decode cX9_finds 107 = .ok (.bipush 10, 2) := by decide +kernel
theorem dX9_finds_109 : decode cX9_finds 109 = .ok (.iload 4, 2) := by decide +kernel
theorem dX9_finds_111 : decode cX9_finds 111 = .ok (.imul, 1) := by decide +kernel
theorem dX9_finds_112 : decode cX9_finds 112 = .ok (.iload 8, 2) := by decide +kernel
theorem dX9_finds_114 : decode cX9_finds 114 = .ok (.iadd, 1) := by decide +kernel
theorem dX9_finds_115 : decode cX9_finds 115 = .ok (.iaload, 1) := by decide +kernel
theorem dX9_finds_116 : decode cX9_finds 116 = .ok (.istore 9, 2) := by decide +kernel
theorem dX9_finds_118 : decode cX9_finds 118 = .ok (.iload 9, 2) := by decide +kernel
theorem dX9_finds_120 : decode cX9_finds 120 = .ok (.ifCond .eq 96, 3) := by decide +kernel
theorem dX9_finds_123 : decode cX9_finds 123 = .ok (.iload 5, 2) := by decide +kernel
theorem dX9_finds_125 : decode cX9_finds 125 = .ok (.iload 8, 2) := by decide +kernel
theorem dX9_finds_127 : decode cX9_finds 127 = .ok (.ishr, 1) := by decide +kernel
theorem dX9_finds_128 : decode cX9_finds 128 = .ok (.iconst 1, 1) := by decide +kernel
theorem dX9_finds_129 : decode cX9_finds 129 = .ok (.iand, 1) := by decide +kernel
theorem dX9_finds_130 : decode cX9_finds 130 = .ok (.iconst 1, 1) := by decide +kernel
theorem dX9_finds_131 : decode cX9_finds 131 = .ok (.if_icmp .ne 6, 3) := by decide +kernel
theorem dX9_finds_134 : decode cX9_finds 134 = .ok (.goto 82, 3) := by decide +kernel
theorem dX9_finds_137 : decode cX9_finds 137 = .ok (.iload 9, 2) := by decide +kernel
theorem dX9_finds_139 : decode cX9_finds 139 = .ok (.aload_n 0, 1) := by decide +kernel
theorem dX9_finds_140 : decode cX9_finds 140 = .ok (.getfield 50, 3) := by decide +kernel
theorem dX9_finds_143 : decode cX9_finds 143 = .ok (.iload 4, 2) := by decide +kernel
theorem dX9_finds_145 : decode cX9_finds 145 = .ok (.iconst 1, 1) := by decide +kernel
theorem dX9_finds_146 : decode cX9_finds 146 = .ok (.iadd, 1) := by decide +kernel
theorem dX9_finds_147 : decode cX9_finds 147 = .ok (.iload 5, 2) := by decide +kernel
theorem dX9_finds_149 : decode cX9_finds 149 = .ok (.iconst 1, 1) := by decide +kernel
theorem dX9_finds_150 : decode cX9_finds 150 = .ok (.iload 8, 2) := by decide +kernel
theorem dX9_finds_152 : decode cX9_finds 152 = .ok (.ishl, 1) := by decide +kernel
theorem dX9_finds_153 : decode cX9_finds 153 = .ok (.ior, 1) := by decide +kernel
theorem dX9_finds_154 : decode cX9_finds 154 = .ok (.invokestatic 170, 3) := by decide +kernel
theorem dX9_finds_157 : decode cX9_finds 157 = .ok (.iaload, 1) := by decide +kernel
theorem dX9_finds_158 : decode cX9_finds 158 = .ok (.iadd, 1) := by decide +kernel
theorem dX9_finds_159 : decode cX9_finds 159 = .ok (.istore 10, 2) := by decide +kernel
theorem dX9_finds_161 : decode cX9_finds 161 = .ok (.iload 10, 2) := by decide +kernel
theorem dX9_finds_163 : decode cX9_finds 163 = .ok (.iload 6, 2) := by decide +kernel
theorem dX9_finds_165 : decode cX9_finds 165 = .ok (.if_icmp .le 6, 3) := by decide +kernel
theorem dX9_finds_168 : decode cX9_finds 168 = .ok (.iconst 0, 1) := by decide +kernel
theorem dX9_finds_169 : decode cX9_finds 169 = .ok (.istore 7, 2) := by decide +kernel
theorem dX9_finds_171 : decode cX9_finds 171 = .ok (.iload 10, 2) := by decide +kernel
theorem dX9_finds_173 : decode cX9_finds 173 = .ok (.iload 6, 2) := by decide +kernel
theorem dX9_finds_175 : decode cX9_finds 175 = .ok (.if_icmp .lt 32, 3) := by decide +kernel
theorem dX9_finds_178 : decode cX9_finds 178 = .ok (.ldc 173, 2) := by decide +kernel
theorem dX9_finds_180 : decode cX9_finds 180 = .ok (.iload 7, 2) := by decide +kernel
theorem dX9_finds_182 : decode cX9_finds 182 = .ok (.aload_n 0, 1) := by decide +kernel
theorem dX9_finds_183 : decode cX9_finds 183 = .ok (.getfield 56, 3) := by decide +kernel
theorem dX9_finds_186 : decode cX9_finds 186 = .ok (.iload 4, 2) := by decide +kernel
theorem dX9_finds_188 : decode cX9_finds 188 = .ok (.iconst 1, 1) := by decide +kernel
theorem dX9_finds_189 : decode cX9_finds 189 = .ok (.iadd, 1) := by decide +kernel
theorem dX9_finds_190 : decode cX9_finds 190 = .ok (.iload 5, 2) := by decide +kernel
theorem dX9_finds_192 : decode cX9_finds 192 = .ok (.iconst 1, 1) := by decide +kernel
theorem dX9_finds_193 : decode cX9_finds 193 = .ok (.iload 8, 2) := by decide +kernel
theorem dX9_finds_195 : decode cX9_finds 195 = .ok (.ishl, 1) := by decide +kernel
theorem dX9_finds_196 : decode cX9_finds 196 = .ok (.ior, 1) := by decide +kernel
theorem dX9_finds_197 : decode cX9_finds 197 = .ok (.invokestatic 170, 3) := by decide +kernel
theorem dX9_finds_200 : decode cX9_finds 200 = .ok (.iaload, 1) := by decide +kernel
theorem dX9_finds_201 : decode cX9_finds 201 = .ok (.iadd, 1) := by decide +kernel
theorem dX9_finds_202 : decode cX9_finds 202 = .ok (.invokestatic 174, 3) := by decide +kernel
theorem dX9_finds_205 : decode cX9_finds 205 = .ok (.istore 7, 2) := by decide +kernel
theorem dX9_finds_207 : decode cX9_finds 207 = .ok (.iload 6, 2) := by decide +kernel
theorem dX9_finds_209 : decode cX9_finds 209 = .ok (.iload 10, 2) := by decide +kernel
theorem dX9_finds_211 : decode cX9_finds 211 = .ok (.invokestatic 162, 3) := by decide +kernel
theorem dX9_finds_214 : decode cX9_finds 214 = .ok (.istore 6, 2) := by decide +kernel
theorem dX9_finds_216 : decode cX9_finds 216 = .ok (.iinc 8 1, 3) := by decide +kernel
theorem dX9_finds_219 : decode cX9_finds 219 = .ok (.goto (-122), 3) := by decide +kernel
theorem dX9_finds_222 : decode cX9_finds 222 = .ok (.aload_n 0, 1) := by decide +kernel
theorem dX9_finds_223 : decode cX9_finds 223 = .ok (.getfield 50, 3) := by decide +kernel
theorem dX9_finds_226 : decode cX9_finds 226 = .ok (.iload 4, 2) := by decide +kernel
theorem dX9_finds_228 : decode cX9_finds 228 = .ok (.iload 5, 2) := by decide +kernel
theorem dX9_finds_230 : decode cX9_finds 230 = .ok (.invokestatic 170, 3) := by decide +kernel
theorem dX9_finds_233 : decode cX9_finds 233 = .ok (.iload 6, 2) := by decide +kernel
theorem dX9_finds_235 : decode cX9_finds 235 = .ok (.iastore, 1) := by decide +kernel
theorem dX9_finds_236 : decode cX9_finds 236 = .ok (.aload_n 0, 1) := by decide +kernel
theorem dX9_finds_237 : decode cX9_finds 237 = .ok (.getfield 56, 3) := by decide +kernel
theorem dX9_finds_240 : decode cX9_finds 240 = .ok (.iload 4, 2) := by decide +kernel
theorem dX9_finds_242 : decode cX9_finds 242 = .ok (.iload 5, 2) := by decide +kernel
theorem dX9_finds_244 : decode cX9_finds 244 = .ok (.invokestatic 170, 3) := by decide +kernel
theorem dX9_finds_247 : decode cX9_finds 247 = .ok (.iload 7, 2) := by decide +kernel
theorem dX9_finds_249 : decode cX9_finds 249 = .ok (.iastore, 1) := by decide +kernel
theorem dX9_finds_250 : decode cX9_finds 250 = .ok (.iinc 5 1, 3) := by decide +kernel
theorem dX9_finds_253 : decode cX9_finds 253 = .ok (.goto (-197), 3) := by decide +kernel
theorem dX9_finds_256 : decode cX9_finds 256 = .ok (.iinc 4 (-1), 3) := by decide +kernel
theorem dX9_finds_259 : decode cX9_finds 259 = .ok (.goto (-211), 3) := by decide +kernel
theorem dX9_finds_262 : decode cX9_finds 262 = .ok (.aload_n 0, 1) := by decide +kernel
theorem dX9_finds_263 : decode cX9_finds 263 = .ok (.getfield 50, 3) := by decide +kernel
theorem dX9_finds_266 : decode cX9_finds 266 = .ok (.iconst 0, 1) := by decide +kernel
theorem dX9_finds_267 : decode cX9_finds 267 = .ok (.iaload, 1) := by decide +kernel
theorem dX9_finds_268 : decode cX9_finds 268 = .ok (.ireturn, 1) := by decide +kernel
theorem dX9_joins_0 : decode cX9_joins 0 = .ok (.aload_n 0, 1) := by decide +kernel
theorem dX9_joins_1 : decode cX9_joins 1 = .ok (.iload_n 1, 1) := by decide +kernel
theorem dX9_joins_2 : decode cX9_joins 2 = .ok (.iload_n 2, 1) := by decide +kernel
theorem dX9_joins_3 : decode cX9_joins 3 = .ok (.invokevirtual 177, 3) := by decide +kernel
theorem dX9_joins_6 : decode cX9_joins 6 = .ok (.aload_n 0, 1) := by decide +kernel
theorem dX9_joins_7 : decode cX9_joins 7 = .ok (.aload_n 0, 1) := by decide +kernel
theorem dX9_joins_8 : decode cX9_joins 8 = .ok (.getfield 19, 3) := by decide +kernel
theorem dX9_joins_11 : decode cX9_joins 11 = .ok (.iload_n 1, 1) := by decide +kernel
theorem dX9_joins_12 : decode cX9_joins 12 = .ok (.iaload, 1) := by decide +kernel
theorem dX9_joins_13 : decode cX9_joins 13 = .ok (.aload_n 0, 1) := by decide +kernel
theorem dX9_joins_14 : decode cX9_joins 14 = .ok (.getfield 19, 3) := by decide +kernel
theorem dX9_joins_17 : decode cX9_joins 17 = .ok (.iload_n 2, 1) := by decide +kernel
theorem dX9_joins_18 : decode cX9_joins 18 = .ok (.iaload, 1) := by decide +kernel
theorem dX9_joins_19 : decode cX9_joins 19 = .ok (.invokevirtual 181, 3) := by decide +kernel
theorem dX9_joins_22 : decode cX9_joins 22 = .ok (.istore_n 3, 1) := by decide +kernel
theorem dX9_joins_23 : decode cX9_joins 23 = .ok (.iconst 0, 1) := by decide +kernel
theorem dX9_joins_24 : decode cX9_joins 24 = .ok (.istore 4, 2) := by decide +kernel
theorem dX9_joins_26 : decode cX9_joins 26 = .ok (.iconst 0, 1) := by decide +kernel
theorem dX9_joins_27 : decode cX9_joins 27 = .ok (.istore 5, 2) := by decide +kernel
theorem dX9_joins_29 : decode cX9_joins 29 = .ok (.iload 5, 2) := by decide +kernel
theorem dX9_joins_31 : decode cX9_joins 31 = .ok (.aload_n 0, 1) := by decide +kernel
theorem dX9_joins_32 : decode cX9_joins 32 = .ok (.getfield 19, 3) := by decide +kernel
theorem dX9_joins_35 : decode cX9_joins 35 = .ok (.iload_n 1, 1) := by decide +kernel
theorem dX9_joins_36 : decode cX9_joins 36 = .ok (.iaload, 1) := by decide +kernel
theorem dX9_joins_37 : decode cX9_joins 37 = .ok (.if_icmp .ge 148, 3) := by decide +kernel
theorem dX9_joins_40 : decode cX9_joins 40 = .ok (.aload_n 0, 1) := by decide +kernel
theorem dX9_joins_41 : decode cX9_joins 41 = .ok (.getfield 53, 3) := by decide +kernel
theorem dX9_joins_44 : decode cX9_joins 44 = .ok (.iload 5, 2) := by decide +kernel
theorem dX9_joins_46 : decode cX9_joins 46 = .ok (.bipush (-9), 2) := by decide +kernel
theorem dX9_joins_48 : decode cX9_joins 48 = .ok (.iastore, 1) := by decide +kernel
theorem dX9_joins_49 : decode cX9_joins 49 = .ok (.iconst 0, 1) := by decide +kernel
theorem dX9_joins_50 : decode cX9_joins 50 = .ok (.istore 6, 2) := by decide +kernel
theorem dX9_joins_52 : decode cX9_joins 52 = .ok (.iload 6, 2) := by decide +kernel
theorem dX9_joins_54 : decode cX9_joins 54 = .ok (.aload_n 0, 1) := by decide +kernel
theorem dX9_joins_55 : decode cX9_joins 55 = .ok (.getfield 19, 3) := by decide +kernel
theorem dX9_joins_58 : decode cX9_joins 58 = .ok (.iload_n 2, 1) := by decide +kernel
theorem dX9_joins_59 : decode cX9_joins 59 = .ok (.iaload, 1) := by decide +kernel
theorem dX9_joins_60 : decode cX9_joins 60 = .ok (.if_icmp .ge 95, 3) := by decide +kernel
theorem dX9_joins_63 : decode cX9_joins 63 = .ok (.aload_n 0, 1) := by decide +kernel
theorem dX9_joins_64 : decode cX9_joins 64 = .ok (.getfield 53, 3) := by decide +kernel
theorem dX9_joins_67 : decode cX9_joins 67 = .ok (.iload 5, 2) := by decide +kernel
theorem dX9_joins_69 : decode cX9_joins 69 = .ok (.iaload, 1) := by decide +kernel
theorem dX9_joins_70 : decode cX9_joins 70 = .ok (.ifCond .ge 85, 3) := by decide +kernel
theorem dX9_joins_73 : decode cX9_joins 73 = .ok (.aload_n 0, 1) := by decide +kernel
theorem dX9_joins_74 : decode cX9_joins 74 = .ok (.getfield 47, 3) := by decide +kernel
theorem dX9_joins_77 : decode cX9_joins 77 = .ok (.bipush 10, 2) := by decide +kernel
theorem dX9_joins_79 : decode cX9_joins 79 = .ok (.iload 5, 2) := by decide +kernel
theorem dX9_joins_81 : decode cX9_joins 81 = .ok (.imul, 1) := by decide +kernel
theorem dX9_joins_82 : decode cX9_joins 82 = .ok (.iload 6, 2) := by decide +kernel
theorem dX9_joins_84 : decode cX9_joins 84 = .ok (.iadd, 1) := by decide +kernel
theorem dX9_joins_85 : decode cX9_joins 85 = .ok (.iaload, 1) := by decide +kernel
theorem dX9_joins_86 : decode cX9_joins 86 = .ok (.istore 7, 2) := by decide +kernel
theorem dX9_joins_88 : decode cX9_joins 88 = .ok (.iload 7, 2) := by decide +kernel
theorem dX9_joins_90 : decode cX9_joins 90 = .ok (.ifCond .le 59, 3) := by decide +kernel
theorem dX9_joins_93 : decode cX9_joins 93 = .ok (.iload 4, 2) := by decide +kernel
theorem dX9_joins_95 : decode cX9_joins 95 = .ok (.iload 6, 2) := by decide +kernel
theorem dX9_joins_97 : decode cX9_joins 97 = .ok (.ishr, 1) := by decide +kernel
theorem dX9_joins_98 : decode cX9_joins 98 = .ok (.iconst 1, 1) := by decide +kernel
theorem dX9_joins_99 : decode cX9_joins 99 = .ok (.iand, 1) := by decide +kernel
theorem dX9_joins_100 : decode cX9_joins 100 = .ok (.ifCond .ne 49, 3) := by decide +kernel
theorem dX9_joins_103 : decode cX9_joins 103 = .ok (.iload 7, 2) := by decide +kernel
theorem dX9_joins_105 : decode cX9_joins 105 = .ok (.aload_n 0, 1) := by decide +kernel
theorem dX9_joins_106 : decode cX9_joins 106 = .ok (.getfield 50, 3) := by decide +kernel
theorem dX9_joins_109 : decode cX9_joins 109 = .ok (.iload 5, 2) := by decide +kernel
theorem dX9_joins_111 : decode cX9_joins 111 = .ok (.iconst 1, 1) := by decide +kernel
theorem dX9_joins_112 : decode cX9_joins 112 = .ok (.iadd, 1) := by decide +kernel
theorem dX9_joins_113 : decode cX9_joins 113 = .ok (.iload 4, 2) := by decide +kernel
theorem dX9_joins_115 : decode cX9_joins 115 = .ok (.iconst 1, 1) := by decide +kernel
theorem dX9_joins_116 : decode cX9_joins 116 = .ok (.iload 6, 2) := by decide +kernel
theorem dX9_joins_118 : decode cX9_joins 118 = .ok (.ishl, 1) := by decide +kernel
theorem dX9_joins_119 : decode cX9_joins 119 = .ok (.ior, 1) := by decide +kernel
theorem dX9_joins_120 : decode cX9_joins 120 = .ok (.invokestatic 170, 3) := by decide +kernel
theorem dX9_joins_123 : decode cX9_joins 123 = .ok (.iaload, 1) := by decide +kernel
theorem dX9_joins_124 : decode cX9_joins 124 = .ok (.iadd, 1) := by decide +kernel
theorem dX9_joins_125 : decode cX9_joins 125 = .ok (.aload_n 0, 1) := by decide +kernel
theorem dX9_joins_126 : decode cX9_joins 126 = .ok (.getfield 50, 3) := by decide +kernel
theorem dX9_joins_129 : decode cX9_joins 129 = .ok (.iload 5, 2) := by decide +kernel
theorem dX9_joins_131 : decode cX9_joins 131 = .ok (.iload 4, 2) := by decide +kernel
theorem dX9_joins_133 : decode cX9_joins 133 = .ok (.invokestatic 170, 3) := by decide +kernel
theorem dX9_joins_136 : decode cX9_joins 136 = .ok (.iaload, 1) := by decide +kernel
theorem dX9_joins_137 : decode cX9_joins 137 = .ok (.if_icmp .ne 12, 3) := by decide +kernel
theorem dX9_joins_140 : decode cX9_joins 140 = .ok (.aload_n 0, 1) := by decide +kernel
theorem dX9_joins_141 : decode cX9_joins 141 = .ok (.getfield 53, 3) := by decide +kernel
theorem dX9_joins_144 : decode cX9_joins 144 = .ok (.iload 5, 2) := by decide +kernel
theorem dX9_joins_146 : decode cX9_joins 146 = .ok (.iload 6, 2) := by decide +kernel
theorem dX9_joins_148 : decode cX9_joins 148 = .ok (.iastore, 1) := by decide +kernel
theorem dX9_joins_149 : decode cX9_joins 149 = .ok (.iinc 6 1, 3) := by decide +kernel
theorem dX9_joins_152 : decode cX9_joins 152 = .ok (.goto (-100), 3) := by decide +kernel
theorem dX9_joins_155 : decode cX9_joins 155 = .ok (.aload_n 0, 1) := by decide +kernel
theorem dX9_joins_156 : decode cX9_joins 156 = .ok (.getfield 53, 3) := by decide +kernel
theorem dX9_joins_159 : decode cX9_joins 159 = .ok (.iload 5, 2) := by decide +kernel
theorem dX9_joins_161 : decode cX9_joins 161 = .ok (.iaload, 1) := by decide +kernel
theorem dX9_joins_162 : decode cX9_joins 162 = .ok (.ifCond .lt 17, 3) := by decide +kernel
theorem dX9_joins_165 : decode cX9_joins 165 = .ok (.iload 4, 2) := by decide +kernel
theorem dX9_joins_167 : decode cX9_joins 167 = .ok (.iconst 1, 1) := by decide +kernel
theorem dX9_joins_168 : decode cX9_joins 168 = .ok (.aload_n 0, 1) := by decide +kernel
theorem dX9_joins_169 : decode cX9_joins 169 = .ok (.getfield 53, 3) := by decide +kernel
theorem dX9_joins_172 : decode cX9_joins 172 = .ok (.iload 5, 2) := by decide +kernel
theorem dX9_joins_174 : decode cX9_joins 174 = .ok (.iaload, 1) := by decide +kernel
theorem dX9_joins_175 : decode cX9_joins 175 = .ok (.ishl, 1) := by decide +kernel
theorem dX9_joins_176 : decode cX9_joins 176 = .ok (.ior, 1) := by decide +kernel
theorem dX9_joins_177 : decode cX9_joins 177 = .ok (.istore 4, 2) := by decide +kernel
theorem dX9_joins_179 : decode cX9_joins 179 = .ok (.iinc 5 1, 3) := by decide +kernel
theorem dX9_joins_182 : decode cX9_joins 182 = .ok (.goto (-153), 3) := by decide +kernel
theorem dX9_joins_185 : decode cX9_joins 185 = .ok (.iload_n 3, 1) := by decide +kernel
theorem dX9_joins_186 : decode cX9_joins 186 = .ok (.ireturn, 1) := by decide +kernel
theorem dX9_join_0 : decode cX9_join 0 = .ok (.aload_n 0, 1) := by decide +kernel
theorem dX9_join_1 : decode cX9_join 1 = .ok (.iload_n 1, 1) := by decide +kernel
theorem dX9_join_2 : decode cX9_join 2 = .ok (.iload_n 2, 1) := by decide +kernel
theorem dX9_join_3 : decode cX9_join 3 = .ok (.invokevirtual 184, 3) := by decide +kernel
theorem dX9_join_6 : decode cX9_join 6 = .ok (.ifCond .eq 12, 3) := by decide +kernel
theorem dX9_join_9 : decode cX9_join 9 = .ok (.aload_n 0, 1) := by decide +kernel
theorem dX9_join_10 : decode cX9_join 10 = .ok (.iload_n 1, 1) := by decide +kernel
theorem dX9_join_11 : decode cX9_join 11 = .ok (.iload_n 2, 1) := by decide +kernel
theorem dX9_join_12 : decode cX9_join 12 = .ok (.invokevirtual 187, 3) := by decide +kernel
theorem dX9_join_15 : decode cX9_join 15 = .ok (.goto 8, 3) := by decide +kernel
theorem dX9_join_18 : decode cX9_join 18 = .ok (.aload_n 0, 1) := by decide +kernel
theorem dX9_join_19 : decode cX9_join 19 = .ok (.iconst (-1), 1) := by decide +kernel
theorem dX9_join_20 : decode cX9_join 20 = .ok (.invokevirtual 130, 3) := by decide +kernel
theorem dX9_join_23 : decode cX9_join 23 = .ok (.ireturn, 1) := by decide +kernel
theorem dX9_joined_0 : decode cX9_joined 0 = .ok (.aload_n 0, 1) := by decide +kernel
theorem dX9_joined_1 : decode cX9_joined 1 = .ok (.iload_n 1, 1) := by decide +kernel
theorem dX9_joined_2 : decode cX9_joined 2 = .ok (.iload_n 3, 1) := by decide +kernel
theorem dX9_joined_3 : decode cX9_joined 3 = .ok (.invokevirtual 184, 3) := by decide +kernel
theorem dX9_joined_6 : decode cX9_joined 6 = .ok (.ifCond .eq 16, 3) := by decide +kernel
theorem dX9_joined_9 : decode cX9_joined 9 = .ok (.iload_n 2, 1) := by decide +kernel
theorem dX9_joined_10 : decode cX9_joined 10 = .ok (.aload_n 0, 1) := by decide +kernel
theorem dX9_joined_11 : decode cX9_joined 11 = .ok (.getfield 19, 3) := by decide +kernel
theorem dX9_joined_14 : decode cX9_joined 14 = .ok (.iload_n 1, 1) := by decide +kernel
theorem dX9_joined_15 : decode cX9_joined 15 = .ok (.iaload, 1) := by decide +kernel
theorem dX9_joined_16 : decode cX9_joined 16 = .ok (.invokestatic 126, 3) := by decide +kernel
theorem dX9_joined_19 : decode cX9_joined 19 = .ok (.ifCond .ne 9, 3) := by decide +kernel
theorem dX9_joined_22 : decode cX9_joined 22 = .ok (.aload_n 0, 1) := by decide +kernel
theorem dX9_joined_23 : decode cX9_joined 23 = .ok (.iconst (-1), 1) := by decide +kernel
theorem dX9_joined_24 : decode cX9_joined 24 = .ok (.invokevirtual 130, 3) := by decide +kernel
theorem dX9_joined_27 : decode cX9_joined 27 = .ok (.ireturn, 1) := by decide +kernel
theorem dX9_joined_28 : decode cX9_joined 28 = .ok (.aload_n 0, 1) := by decide +kernel
theorem dX9_joined_29 : decode cX9_joined 29 = .ok (.iload_n 1, 1) := by decide +kernel
theorem dX9_joined_30 : decode cX9_joined 30 = .ok (.iload_n 3, 1) := by decide +kernel
theorem dX9_joined_31 : decode cX9_joined 31 = .ok (.invokevirtual 187, 3) := by decide +kernel
theorem dX9_joined_34 : decode cX9_joined 34 = .ok (.istore 4, 2) := by decide +kernel
theorem dX9_joined_36 : decode cX9_joined 36 = .ok (.aload_n 0, 1) := by decide +kernel
theorem dX9_joined_37 : decode cX9_joined 37 = .ok (.getfield 53, 3) := by decide +kernel
theorem dX9_joined_40 : decode cX9_joined 40 = .ok (.iload_n 2, 1) := by decide +kernel
theorem dX9_joined_41 : decode cX9_joined 41 = .ok (.iaload, 1) := by decide +kernel
theorem dX9_joined_42 : decode cX9_joined 42 = .ok (.ireturn, 1) := by decide +kernel
theorem dX9_bests_0 : decode cX9_bests 0 = .ok (.aload_n 0, 1) := by decide +kernel
theorem dX9_bests_1 : decode cX9_bests 1 = .ok (.iload_n 1, 1) := by decide +kernel
theorem dX9_bests_2 : decode cX9_bests 2 = .ok (.iload_n 2, 1) := by decide +kernel
theorem dX9_bests_3 : decode cX9_bests 3 = .ok (.invokevirtual 184, 3) := by decide +kernel
theorem dX9_bests_6 : decode cX9_bests 6 = .ok (.ifCond .ne 9, 3) := by decide +kernel
theorem dX9_bests_9 : decode cX9_bests 9 = .ok (.aload_n 0, 1) := by decide +kernel
theorem dX9_bests_10 : decode cX9_bests 10 = .ok (.iconst (-1), 1) := by decide +kernel
theorem dX9_bests_11 : decode cX9_bests 11 = .ok (.invokevirtual 130, 3) := by decide +kernel
theorem dX9_bests_14 : decode cX9_bests 14 = .ok (.ireturn, 1) := by decide +kernel
theorem dX9_bests_15 : decode cX9_bests 15 = .ok (.aload_n 0, 1) := by decide +kernel
theorem dX9_bests_16 : decode cX9_bests 16 = .ok (.iload_n 1, 1) := by decide +kernel
theorem dX9_bests_17 : decode cX9_bests 17 = .ok (.iload_n 2, 1) := by decide +kernel
theorem dX9_bests_18 : decode cX9_bests 18 = .ok (.invokevirtual 187, 3) := by decide +kernel
theorem dX9_bests_21 : decode cX9_bests 21 = .ok (.istore_n 3, 1) := by decide +kernel
theorem dX9_bests_22 : decode cX9_bests 22 = .ok (.aload_n 0, 1) := by decide +kernel
theorem dX9_bests_23 : decode cX9_bests 23 = .ok (.getfield 56, 3) := by decide +kernel
theorem dX9_bests_26 : decode cX9_bests 26 = .ok (.iconst 0, 1) := by decide +kernel
theorem dX9_bests_27 : decode cX9_bests 27 = .ok (.iaload, 1) := by decide +kernel
theorem dX9_bests_28 : decode cX9_bests 28 = .ok (.ireturn, 1) := by decide +kernel
theorem dX9_isSure_0 : decode cX9_isSure 0 = .ok (.aload_n 0, 1) := by decide +kernel
theorem dX9_isSure_1 : decode cX9_isSure 1 = .ok (.iload_n 1, 1) := by decide +kernel
theorem dX9_isSure_2 : decode cX9_isSure 2 = .ok (.iload_n 3, 1) := by decide +kernel
theorem dX9_isSure_3 : decode cX9_isSure 3 = .ok (.invokevirtual 187, 3) := by decide +kernel
theorem dX9_isSure_6 : decode cX9_isSure 6 = .ok (.istore 4, 2) := by decide +kernel
theorem dX9_isSure_8 : decode cX9_isSure 8 = .ok (.aload_n 0, 1) := by decide +kernel
theorem dX9_isSure_9 : decode cX9_isSure 9 = .ok (.getfield 53, 3) := by decide +kernel
theorem dX9_isSure_12 : decode cX9_isSure 12 = .ok (.iload_n 2, 1) := by decide +kernel
theorem dX9_isSure_13 : decode cX9_isSure 13 = .ok (.iaload, 1) := by decide +kernel
theorem dX9_isSure_14 : decode cX9_isSure 14 = .ok (.istore 5, 2) := by decide +kernel
theorem dX9_isSure_16 : decode cX9_isSure 16 = .ok (.iload 5, 2) := by decide +kernel
theorem dX9_isSure_18 : decode cX9_isSure 18 = .ok (.ifCond .ge 5, 3) := by decide +kernel
theorem dX9_isSure_21 : decode cX9_isSure 21 = .ok (.iconst 0, 1) := by decide +kernel
theorem dX9_isSure_22 : decode cX9_isSure 22 = .ok (.ireturn, 1) := by decide +kernel
theorem dX9_isSure_23 : decode cX9_isSure 23 = .ok (.aload_n 0, 1) := by decide +kernel
theorem dX9_isSure_24 : decode cX9_isSure 24 = .ok (.getfield 47, 3) := by decide +kernel
theorem dX9_isSure_27 : decode cX9_isSure 27 = .ok (.bipush 10, 2) := by decide +kernel
theorem dX9_isSure_29 : decode cX9_isSure 29 = .ok (.iload_n 2, 1) := by decide +kernel
theorem dX9_isSure_30 : decode cX9_isSure 30 = .ok (.imul, 1) := by decide +kernel
theorem dX9_isSure_31 : decode cX9_isSure 31 = .ok (.iload 5, 2) := by decide +kernel
theorem dX9_isSure_33 : decode cX9_isSure 33 = .ok (.iadd, 1) := by decide +kernel
theorem dX9_isSure_34 : decode cX9_isSure 34 = .ok (.iconst 0, 1) := by decide +kernel
theorem dX9_isSure_35 : decode cX9_isSure 35 = .ok (.iastore, 1) := by decide +kernel
theorem dX9_isSure_36 : decode cX9_isSure 36 = .ok (.aload_n 0, 1) := by decide +kernel
theorem dX9_isSure_37 : decode cX9_isSure 37 = .ok (.aload_n 0, 1) := by decide +kernel
theorem dX9_isSure_38 : decode cX9_isSure 38 = .ok (.getfield 19, 3) := by decide +kernel
theorem dX9_isSure_41 : decode cX9_isSure 41 = .ok (.iload_n 1, 1) := by decide +kernel
theorem dX9_isSure_42 : decode cX9_isSure 42 = .ok (.iaload, 1) := by decide +kernel
theorem dX9_isSure_43 : decode cX9_isSure 43 = .ok (.aload_n 0, 1) := by decide +kernel
theorem dX9_isSure_44 : decode cX9_isSure 44 = .ok (.getfield 19, 3) := by decide +kernel
theorem dX9_isSure_47 : decode cX9_isSure 47 = .ok (.iload_n 3, 1) := by decide +kernel
theorem dX9_isSure_48 : decode cX9_isSure 48 = .ok (.iaload, 1) := by decide +kernel
theorem dX9_isSure_49 : decode cX9_isSure 49 = .ok (.invokevirtual 181, 3) := by decide +kernel
theorem dX9_isSure_52 : decode cX9_isSure 52 = .ok (.iload 4, 2) := by decide +kernel
theorem dX9_isSure_54 : decode cX9_isSure 54 = .ok (.if_icmp .ge 7, 3) := by decide +kernel
theorem dX9_isSure_57 : decode cX9_isSure 57 = .ok (.iconst 1, 1) := by decide +kernel
theorem dX9_isSure_58 : decode cX9_isSure 58 = .ok (.goto 4, 3) := by decide +kernel
theorem dX9_isSure_61 : decode cX9_isSure 61 = .ok (.iconst 0, 1) := by decide +kernel
theorem dX9_isSure_62 : decode cX9_isSure 62 = .ok (.ireturn, 1) := by decide +kernel
theorem dX9_sure_0 : decode cX9_sure 0 = .ok (.aload_n 0, 1) := by decide +kernel
theorem dX9_sure_1 : decode cX9_sure 1 = .ok (.iload_n 1, 1) := by decide +kernel
theorem dX9_sure_2 : decode cX9_sure 2 = .ok (.iload_n 3, 1) := by decide +kernel
theorem dX9_sure_3 : decode cX9_sure 3 = .ok (.invokevirtual 184, 3) := by decide +kernel
theorem dX9_sure_6 : decode cX9_sure 6 = .ok (.ifCond .eq 16, 3) := by decide +kernel
theorem dX9_sure_9 : decode cX9_sure 9 = .ok (.iload_n 2, 1) := by decide +kernel
theorem dX9_sure_10 : decode cX9_sure 10 = .ok (.aload_n 0, 1) := by decide +kernel
theorem dX9_sure_11 : decode cX9_sure 11 = .ok (.getfield 19, 3) := by decide +kernel
theorem dX9_sure_14 : decode cX9_sure 14 = .ok (.iload_n 1, 1) := by decide +kernel
theorem dX9_sure_15 : decode cX9_sure 15 = .ok (.iaload, 1) := by decide +kernel
theorem dX9_sure_16 : decode cX9_sure 16 = .ok (.invokestatic 126, 3) := by decide +kernel
theorem dX9_sure_19 : decode cX9_sure 19 = .ok (.ifCond .ne 9, 3) := by decide +kernel
theorem dX9_sure_22 : decode cX9_sure 22 = .ok (.aload_n 0, 1) := by decide +kernel
theorem dX9_sure_23 : decode cX9_sure 23 = .ok (.iconst (-1), 1) := by decide +kernel
theorem dX9_sure_24 : decode cX9_sure 24 = .ok (.invokevirtual 130, 3) := by decide +kernel
theorem dX9_sure_27 : decode cX9_sure 27 = .ok (.ireturn, 1) := by decide +kernel
theorem dX9_sure_28 : decode cX9_sure 28 = .ok (.aload_n 0, 1) := by decide +kernel
theorem dX9_sure_29 : decode cX9_sure 29 = .ok (.iload_n 1, 1) := by decide +kernel
theorem dX9_sure_30 : decode cX9_sure 30 = .ok (.iload_n 2, 1) := by decide +kernel
theorem dX9_sure_31 : decode cX9_sure 31 = .ok (.iload_n 3, 1) := by decide +kernel
theorem dX9_sure_32 : decode cX9_sure 32 = .ok (.invokevirtual 190, 3) := by decide +kernel
theorem dX9_sure_35 : decode cX9_sure 35 = .ok (.ifCond .eq 7, 3) := by decide +kernel
theorem dX9_sure_38 : decode cX9_sure 38 = .ok (.iconst 1, 1) := by decide +kernel
theorem dX9_sure_39 : decode cX9_sure 39 = .ok (.goto 4, 3) := by decide +kernel
theorem dX9_sure_42 : decode cX9_sure 42 = .ok (.iconst 0, 1) := by decide +kernel
theorem dX9_sure_43 : decode cX9_sure 43 = .ok (.ireturn, 1) := by decide +kernel
theorem dX9_chain_0 : decode cX9_chain 0 = .ok (.aload_n 0, 1) := by decide +kernel
theorem dX9_chain_1 : decode cX9_chain 1 = .ok (.iload_n 1, 1) := by decide +kernel
theorem dX9_chain_2 : decode cX9_chain 2 = .ok (.iload_n 2, 1) := by decide +kernel
theorem dX9_chain_3 : decode cX9_chain 3 = .ok (.invokevirtual 145, 3) := by decide +kernel
theorem dX9_chain_6 : decode cX9_chain 6 = .ok (.ifCond .eq 15, 3) := by decide +kernel
theorem dX9_chain_9 : decode cX9_chain 9 = .ok (.iload_n 3, 1) := by decide +kernel
theorem dX9_chain_10 : decode cX9_chain 10 = .ok (.iconst 1, 1) := by decide +kernel
theorem dX9_chain_11 : decode cX9_chain 11 = .ok (.if_icmp .lt 10, 3) := by decide +kernel
theorem dX9_chain_14 : decode cX9_chain 14 = .ok (.iload_n 3, 1) := by decide +kernel
theorem dX9_chain_15 : decode cX9_chain 15 = .ok (.sipush 999, 3) := by decide +kernel
theorem dX9_chain_18 : decode cX9_chain 18 = .ok (.if_icmp .le 9, 3) := by decide +kernel
theorem dX9_chain_21 : decode cX9_chain 21 = .ok (.aload_n 0, 1) := by decide +kernel
theorem dX9_chain_22 : decode cX9_chain 22 = .ok (.iconst (-1), 1) := by decide +kernel
theorem dX9_chain_23 : decode cX9_chain 23 = .ok (.invokevirtual 130, 3) := by decide +kernel
theorem dX9_chain_26 : decode cX9_chain 26 = .ok (.ireturn, 1) := by decide +kernel
theorem dX9_chain_27 : decode cX9_chain 27 = .ok (.iconst 1, 1) := by decide +kernel
theorem dX9_chain_28 : decode cX9_chain 28 = .ok (.iload_n 1, 1) := by decide +kernel
theorem dX9_chain_29 : decode cX9_chain 29 = .ok (.ishl, 1) := by decide +kernel
theorem dX9_chain_30 : decode cX9_chain 30 = .ok (.istore 5, 2) := by decide +kernel
theorem dX9_chain_32 : decode cX9_chain 32 = .ok (.iload_n 3, 1) := by decide +kernel
theorem dX9_chain_33 : decode cX9_chain 33 = .ok (.bipush 99, 2) := by decide +kernel
theorem dX9_chain_35 : decode cX9_chain 35 = .ok (.if_icmp .le 7, 3) := by decide +kernel
theorem dX9_chain_38 : decode cX9_chain 38 = .ok (.iconst 3, 1) := by decide +kernel
theorem dX9_chain_39 : decode cX9_chain 39 = .ok (.goto 14, 3) := by decide +kernel
theorem dX9_chain_42 : decode cX9_chain 42 = .ok (.iload_n 3, 1) := by decide +kernel
theorem dX9_chain_43 : decode cX9_chain 43 = .ok (.bipush 9, 2) := by decide +kernel
theorem dX9_chain_45 : decode cX9_chain 45 = .ok (.if_icmp .le 7, 3) := by decide +kernel
theorem dX9_chain_48 : decode cX9_chain 48 = .ok (.iconst 2, 1) := by decide +kernel
theorem dX9_chain_49 : decode cX9_chain 49 = .ok (.goto 4, 3) := by decide +kernel
theorem dX9_chain_52 : decode cX9_chain 52 = .ok (.iconst 1, 1) := by decide +kernel
theorem dX9_chain_53 : decode cX9_chain 53 = .ok (.istore 6, 2) := by decide +kernel
theorem dX9_chain_55 : decode cX9_chain 55 = .ok (.iload_n 3, 1) := by decide +kernel
theorem dX9_chain_56 : decode cX9_chain 56 = .ok (.istore 7, 2) := by decide +kernel
theorem dX9_chain_58 : decode cX9_chain 58 = .ok (.iload 7, 2) := by decide +kernel
theorem dX9_chain_60 : decode cX9_chain 60 = .ok (.ifCond .le 57, 3) := by decide +kernel
theorem dX9_chain_63 : decode cX9_chain 63 = .ok (.iload 7, 2) := by decide +kernel
theorem dX9_chain_65 : decode cX9_chain 65 = .ok (.bipush 10, 2) := by decide +kernel
theorem dX9_chain_67 : decode cX9_chain 67 = .ok (.irem, 1) := by decide +kernel
theorem dX9_chain_68 : decode cX9_chain 68 = .ok (.iconst 1, 1) := by decide +kernel
theorem dX9_chain_69 : decode cX9_chain 69 = .ok (.isub, 1) := by decide +kernel
theorem dX9_chain_70 : decode cX9_chain 70 = .ok (.istore 8, 2) := by decide +kernel
theorem dX9_chain_72 : decode cX9_chain 72 = .ok (.iload 8, 2) := by decide +kernel
theorem dX9_chain_74 : decode cX9_chain 74 = .ok (.iconst 4, 1) := by decide +kernel
theorem dX9_chain_75 : decode cX9_chain 75 = .ok (.invokestatic 126, 3) := by decide +kernel
theorem dX9_chain_78 : decode cX9_chain 78 = .ok (.ifCond .eq 14, 3) := by decide +kernel
theorem dX9_chain_81 : decode cX9_chain 81 = .ok (.iload 5, 2) := by decide +kernel
theorem dX9_chain_83 : decode cX9_chain 83 = .ok (.iload 8, 2) := by decide +kernel
theorem dX9_chain_85 : decode cX9_chain 85 = .ok (.ishr, 1) := by decide +kernel
theorem dX9_chain_86 : decode cX9_chain 86 = .ok (.iconst 1, 1) := by decide +kernel
theorem dX9_chain_87 : decode cX9_chain 87 = .ok (.iand, 1) := by decide +kernel
theorem dX9_chain_88 : decode cX9_chain 88 = .ok (.iconst 1, 1) := by decide +kernel
theorem dX9_chain_89 : decode cX9_chain 89 = .ok (.if_icmp .ne 9, 3) := by decide +kernel
theorem dX9_chain_92 : decode cX9_chain 92 = .ok (.aload_n 0, 1) := by decide +kernel
theorem dX9_chain_93 : decode cX9_chain 93 = .ok (.iconst (-1), 1) := by decide +kernel
theorem dX9_chain_94 : decode cX9_chain 94 = .ok (.invokevirtual 130, 3) := by decide +kernel
theorem dX9_chain_97 : decode cX9_chain 97 = .ok (.ireturn, 1) := by decide +kernel
theorem dX9_chain_98 : decode cX9_chain 98 = .ok (.iload 5, 2) := by decide +kernel
theorem dX9_chain_100 : decode cX9_chain 100 = .ok (.iconst 1, 1) := by decide +kernel
theorem dX9_chain_101 : decode cX9_chain 101 = .ok (.iload 8, 2) := by decide +kernel
theorem dX9_chain_103 : decode cX9_chain 103 = .ok (.ishl, 1) := by decide +kernel
theorem dX9_chain_104 : decode cX9_chain 104 = .ok (.ior, 1) := by decide +kernel
theorem dX9_chain_105 : decode cX9_chain 105 = .ok (.istore 5, 2) := by decide +kernel
theorem dX9_chain_107 : decode cX9_chain 107 = .ok (.iload 7, 2) := by decide +kernel
theorem dX9_chain_109 : decode cX9_chain 109 = .ok (.bipush 10, 2) := by decide +kernel
theorem dX9_chain_111 : decode cX9_chain 111 = .ok (.idiv, 1) := by decide +kernel
theorem dX9_chain_112 : decode cX9_chain 112 = .ok (.istore 7, 2) := by decide +kernel
theorem dX9_chain_114 : decode cX9_chain 114 = .ok (.goto (-56), 3) := by decide +kernel
theorem dX9_chain_117 : decode cX9_chain 117 = .ok (.iload 4, 2) := by decide +kernel
theorem dX9_chain_119 : decode cX9_chain 119 = .ok (.iconst 3, 1) := by decide +kernel
theorem dX9_chain_120 : decode cX9_chain 120 = .ok (.invokestatic 126, 3) := by decide +kernel
theorem dX9_chain_123 : decode cX9_chain 123 = .ok (.ifCond .ne 10, 3) := by decide +kernel
theorem dX9_chain_126 : decode cX9_chain 126 = .ok (.aload_n 0, 1) := by decide +kernel
theorem dX9_chain_127 : decode cX9_chain 127 = .ok (.bipush (-2), 2) := by decide +kernel
theorem dX9_chain_129 : decode cX9_chain 129 = .ok (.invokevirtual 130, 3) := by decide +kernel
theorem dX9_chain_132 : decode cX9_chain 132 = .ok (.ireturn, 1) := by decide +kernel
theorem dX9_chain_133 : decode cX9_chain 133 = .ok (.iconst 0, 1) := by decide +kernel
theorem dX9_chain_134 : decode cX9_chain 134 = .ok (.istore 7, 2) := by decide +kernel
theorem dX9_chain_136 : decode cX9_chain 136 = .ok (.iconst 0, 1) := by decide +kernel
theorem dX9_chain_137 : decode cX9_chain 137 = .ok (.istore 8, 2) := by decide +kernel
theorem dX9_chain_139 : decode cX9_chain 139 = .ok (.iload_n 1, 1) := by decide +kernel
theorem dX9_chain_140 : decode cX9_chain 140 = .ok (.istore 9, 2) := by decide +kernel
theorem dX9_chain_142 : decode cX9_chain 142 = .ok (.iload_n 2, 1) := by decide +kernel
theorem dX9_chain_143 : decode cX9_chain 143 = .ok (.istore 10, 2) := by decide +kernel
theorem dX9_chain_145 : decode cX9_chain 145 = .ok (.iload 6, 2) := by decide +kernel
theorem dX9_chain_147 : decode cX9_chain 147 = .ok (.iconst 3, 1) := by decide +kernel
theorem dX9_chain_148 : decode cX9_chain 148 = .ok (.if_icmp .ne 8, 3) := by decide +kernel
theorem dX9_chain_151 : decode cX9_chain 151 = .ok (.bipush 100, 2) := by decide +kernel
theorem dX9_chain_153 : decode cX9_chain 153 = .ok (.goto 15, 3) := by decide +kernel
theorem dX9_chain_156 : decode cX9_chain 156 = .ok (.iload 6, 2) := by decide +kernel
theorem dX9_chain_158 : decode cX9_chain 158 = .ok (.iconst 2, 1) := by decide +kernel
theorem dX9_chain_159 : decode cX9_chain 159 = .ok (.if_icmp .ne 8, 3) := by decide +kernel
theorem dX9_chain_162 : decode cX9_chain 162 = .ok (.bipush 10, 2) := by decide +kernel
theorem dX9_chain_164 : decode cX9_chain 164 = .ok (.goto 4, 3) := by decide +kernel
theorem dX9_chain_167 : decode cX9_chain 167 = .ok (.iconst 1, 1) := by decide +kernel
theorem dX9_chain_168 : decode cX9_chain 168 = .ok (.istore 11, 2) := by decide +kernel
theorem dX9_chain_170 : decode cX9_chain 170 = .ok (.iload 11, 2) := by decide +kernel
theorem dX9_chain_172 : decode cX9_chain 172 = .ok (.ifCond .le 102, 3) := by decide +kernel
theorem dX9_chain_175 : decode cX9_chain 175 = .ok (.iload 10, 2) := by decide +kernel
theorem dX9_chain_177 : decode cX9_chain 177 = .ok (.ifCond .lt 97, 3) := by decide +kernel
theorem dX9_chain_180 : decode cX9_chain 180 = .ok (.iload_n 3, 1) := by decide +kernel
theorem dX9_chain_181 : decode cX9_chain 181 = .ok (.iload 11, 2) := by decide +kernel
theorem dX9_chain_183 : decode cX9_chain 183 = .ok (.idiv, 1) := by decide +kernel
theorem dX9_chain_184 : decode cX9_chain 184 = .ok (.bipush 10, 2) := by decide +kernel
theorem dX9_chain_186 : decode cX9_chain 186 = .ok (.irem, 1) := by decide +kernel
theorem dX9_chain_187 : decode cX9_chain 187 = .ok (.iconst 1, 1) := by decide +kernel
theorem dX9_chain_188 : decode cX9_chain 188 = .ok (.isub, 1) := by decide +kernel
theorem dX9_chain_189 : decode cX9_chain 189 = .ok (.istore 12, 2) := by decide +kernel
theorem dX9_chain_191 : decode cX9_chain 191 = .ok (.aload_n 0, 1) := by decide +kernel
theorem dX9_chain_192 : decode cX9_chain 192 = .ok (.iload 9, 2) := by decide +kernel
theorem dX9_chain_194 : decode cX9_chain 194 = .ok (.iload 10, 2) := by decide +kernel
theorem dX9_chain_196 : decode cX9_chain 196 = .ok (.iload 12, 2) := by decide +kernel
theorem dX9_chain_198 : decode cX9_chain 198 = .ok (.invokevirtual 190, 3) := by decide +kernel
theorem dX9_chain_201 : decode cX9_chain 201 = .ok (.istore 13, 2) := by decide +kernel
theorem dX9_chain_203 : decode cX9_chain 203 = .ok (.aload_n 0, 1) := by decide +kernel
theorem dX9_chain_204 : decode cX9_chain 204 = .ok (.getfield 53, 3) := by decide +kernel
theorem dX9_chain_207 : decode cX9_chain 207 = .ok (.iload 10, 2) := by decide +kernel
theorem dX9_chain_209 : decode cX9_chain 209 = .ok (.iaload, 1) := by decide +kernel
theorem dX9_chain_210 : decode cX9_chain 210 = .ok (.istore 14, 2) := by decide +kernel
theorem dX9_chain_212 : decode cX9_chain 212 = .ok (.iload 14, 2) := by decide +kernel
theorem dX9_chain_214 : decode cX9_chain 214 = .ok (.ifCond .lt 42, 3) := by decide +kernel
theorem dX9_chain_217 : decode cX9_chain 217 = .ok (.iinc 7 1, 3) := by decide +kernel
theorem dX9_chain_220 : decode cX9_chain 220 = .ok (.iload 8, 2) := by decide +kernel
theorem dX9_chain_222 : decode cX9_chain 222 = .ok (.iconst 0, 1) := by decide +kernel
theorem dX9_chain_223 : decode cX9_chain 223 = .ok (.bipush 100, 2) := by decide +kernel
theorem dX9_chain_225 : decode cX9_chain 225 = .ok (.aload_n 0, 1) := by decide +kernel
theorem dX9_chain_226 : decode cX9_chain 226 = .ok (.iload 9, 2) := by decide +kernel
theorem dX9_chain_228 : decode cX9_chain 228 = .ok (.iload 10, 2) := by decide +kernel
theorem dX9_chain_230 : decode cX9_chain 230 = .ok (.iload 12, 2) := by decide +kernel
theorem dX9_chain_232 : decode cX9_chain 232 = .ok (.iload 14, 2) := by decide +kernel
theorem dX9_chain_234 : decode cX9_chain 234 = .ok (.invokevirtual 166, 3) := by decide +kernel
theorem dX9_chain_237 : decode cX9_chain 237 = .ok (.isub, 1) := by decide +kernel
theorem dX9_chain_238 : decode cX9_chain 238 = .ok (.invokestatic 162, 3) := by decide +kernel
theorem dX9_chain_241 : decode cX9_chain 241 = .ok (.iload 13, 2) := by decide +kernel
theorem dX9_chain_243 : decode cX9_chain 243 = .ok (.ifCond .eq 7, 3) := by decide +kernel
theorem dX9_chain_246 : decode cX9_chain 246 = .ok (.iconst 0, 1) := by decide +kernel
theorem dX9_chain_247 : decode cX9_chain 247 = .ok (.goto 5, 3) := by decide +kernel
theorem dX9_chain_250 : decode cX9_chain 250 = .ok (.bipush 50, 2) := by decide +kernel
theorem dX9_chain_252 : decode cX9_chain 252 = .ok (.iadd, 1) := by decide +kernel
theorem dX9_chain_253 : decode cX9_chain 253 = .ok (.iadd, 1) := by decide +kernel
theorem dX9_chain_254 : decode cX9_chain 254 = .ok (.istore 8, 2) := by decide +kernel
theorem dX9_chain_256 : decode cX9_chain 256 = .ok (.iload 14, 2) := by decide +kernel
theorem dX9_chain_258 : decode cX9_chain 258 = .ok (.istore 10, 2) := by decide +kernel
theorem dX9_chain_260 : decode cX9_chain 260 = .ok (.iload 12, 2) := by decide +kernel
theorem dX9_chain_262 : decode cX9_chain 262 = .ok (.istore 9, 2) := by decide +kernel
theorem dX9_chain_264 : decode cX9_chain 264 = .ok (.iload 11, 2) := by decide +kernel
theorem dX9_chain_266 : decode cX9_chain 266 = .ok (.bipush 10, 2) := by decide +kernel
theorem dX9_chain_268 : decode cX9_chain 268 = .ok (.idiv, 1) := by decide +kernel
theorem dX9_chain_269 : decode cX9_chain 269 = .ok (.istore 11, 2) := by decide +kernel
theorem dX9_chain_271 : decode cX9_chain 271 = .ok (.goto (-101), 3) := by decide +kernel
theorem dX9_chain_274 : decode cX9_chain 274 = .ok (.iload 4, 2) := by decide +kernel
theorem dX9_chain_276 : decode cX9_chain 276 = .ok (.ifCond .ne 8, 3) := by decide +kernel
theorem dX9_chain_279 : decode cX9_chain 279 = .ok (.iload 10, 2) := by decide +kernel
theorem dX9_chain_281 : decode cX9_chain 281 = .ok (.goto 16, 3) := by decide +kernel
theorem dX9_chain_284 : decode cX9_chain 284 = .ok (.iload 4, 2) := by decide +kernel
theorem dX9_chain_286 : decode cX9_chain 286 = .ok (.iconst 1, 1) := by decide +kernel
theorem dX9_chain_287 : decode cX9_chain 287 = .ok (.if_icmp .ne 8, 3) := by decide +kernel
theorem dX9_chain_290 : decode cX9_chain 290 = .ok (.iload 7, 2) := by decide +kernel
theorem dX9_chain_292 : decode cX9_chain 292 = .ok (.goto 5, 3) := by decide +kernel
theorem dX9_chain_295 : decode cX9_chain 295 = .ok (.iload 8, 2) := by decide +kernel
theorem dX9_chain_297 : decode cX9_chain 297 = .ok (.ireturn, 1) := by decide +kernel
theorem dX9_copied_0 : decode cX9_copied 0 = .ok (.aload_n 0, 1) := by decide +kernel
theorem dX9_copied_1 : decode cX9_copied 1 = .ok (.iload_n 1, 1) := by decide +kernel
theorem dX9_copied_2 : decode cX9_copied 2 = .ok (.iload_n 2, 1) := by decide +kernel
theorem dX9_copied_3 : decode cX9_copied 3 = .ok (.invokevirtual 184, 3) := by decide +kernel
theorem dX9_copied_6 : decode cX9_copied 6 = .ok (.ifCond .eq 16, 3) := by decide +kernel
theorem dX9_copied_9 : decode cX9_copied 9 = .ok (.iload_n 3, 1) := by decide +kernel
theorem dX9_copied_10 : decode cX9_copied 10 = .ok (.aload_n 0, 1) := by decide +kernel
theorem dX9_copied_11 : decode cX9_copied 11 = .ok (.getfield 19, 3) := by decide +kernel
theorem dX9_copied_14 : decode cX9_copied 14 = .ok (.iload_n 2, 1) := by decide +kernel
theorem dX9_copied_15 : decode cX9_copied 15 = .ok (.iaload, 1) := by decide +kernel
theorem dX9_copied_16 : decode cX9_copied 16 = .ok (.invokestatic 126, 3) := by decide +kernel
theorem dX9_copied_19 : decode cX9_copied 19 = .ok (.ifCond .ne 9, 3) := by decide +kernel
theorem dX9_copied_22 : decode cX9_copied 22 = .ok (.aload_n 0, 1) := by decide +kernel
theorem dX9_copied_23 : decode cX9_copied 23 = .ok (.iconst (-1), 1) := by decide +kernel
theorem dX9_copied_24 : decode cX9_copied 24 = .ok (.invokevirtual 130, 3) := by decide +kernel
theorem dX9_copied_27 : decode cX9_copied 27 = .ok (.ireturn, 1) := by decide +kernel
theorem dX9_copied_28 : decode cX9_copied 28 = .ok (.aload_n 0, 1) := by decide +kernel
theorem dX9_copied_29 : decode cX9_copied 29 = .ok (.getfield 16, 3) := by decide +kernel
theorem dX9_copied_32 : decode cX9_copied 32 = .ok (.iload_n 2, 1) := by decide +kernel
theorem dX9_copied_33 : decode cX9_copied 33 = .ok (.iaload, 1) := by decide +kernel
theorem dX9_copied_34 : decode cX9_copied 34 = .ok (.aload_n 0, 1) := by decide +kernel
theorem dX9_copied_35 : decode cX9_copied 35 = .ok (.getfield 16, 3) := by decide +kernel
theorem dX9_copied_38 : decode cX9_copied 38 = .ok (.iload_n 1, 1) := by decide +kernel
theorem dX9_copied_39 : decode cX9_copied 39 = .ok (.iaload, 1) := by decide +kernel
theorem dX9_copied_40 : decode cX9_copied 40 = .ok (.if_icmp .gt 10, 3) := by decide +kernel
theorem dX9_copied_43 : decode cX9_copied 43 = .ok (.aload_n 0, 1) := by decide +kernel
theorem dX9_copied_44 : decode cX9_copied 44 = .ok (.bipush (-3), 2) := by decide +kernel
theorem dX9_copied_46 : decode cX9_copied 46 = .ok (.invokevirtual 130, 3) := by decide +kernel
theorem dX9_copied_49 : decode cX9_copied 49 = .ok (.ireturn, 1) := by decide +kernel
theorem dX9_copied_50 : decode cX9_copied 50 = .ok (.aload_n 0, 1) := by decide +kernel
theorem dX9_copied_51 : decode cX9_copied 51 = .ok (.iload_n 1, 1) := by decide +kernel
theorem dX9_copied_52 : decode cX9_copied 52 = .ok (.iload_n 2, 1) := by decide +kernel
theorem dX9_copied_53 : decode cX9_copied 53 = .ok (.invokevirtual 187, 3) := by decide +kernel
theorem dX9_copied_56 : decode cX9_copied 56 = .ok (.istore 4, 2) := by decide +kernel
theorem dX9_copied_58 : decode cX9_copied 58 = .ok (.iconst 0, 1) := by decide +kernel
theorem dX9_copied_59 : decode cX9_copied 59 = .ok (.istore 5, 2) := by decide +kernel
theorem dX9_copied_61 : decode cX9_copied 61 = .ok (.iload 5, 2) := by decide +kernel
theorem dX9_copied_63 : decode cX9_copied 63 = .ok (.aload_n 0, 1) := by decide +kernel
theorem dX9_copied_64 : decode cX9_copied 64 = .ok (.getfield 19, 3) := by decide +kernel
theorem dX9_copied_67 : decode cX9_copied 67 = .ok (.iload_n 1, 1) := by decide +kernel
theorem dX9_copied_68 : decode cX9_copied 68 = .ok (.iaload, 1) := by decide +kernel
theorem dX9_copied_69 : decode cX9_copied 69 = .ok (.if_icmp .ge 75, 3) := by decide +kernel
theorem dX9_copied_72 : decode cX9_copied 72 = .ok (.aload_n 0, 1) := by decide +kernel
theorem dX9_copied_73 : decode cX9_copied 73 = .ok (.getfield 22, 3) := by decide +kernel
theorem dX9_copied_76 : decode cX9_copied 76 = .ok (.bipush 10, 2) := by decide +kernel
theorem dX9_copied_78 : decode cX9_copied 78 = .ok (.iload_n 1, 1) := by decide +kernel
theorem dX9_copied_79 : decode cX9_copied 79 = .ok (.imul, 1) := by decide +kernel
theorem dX9_copied_80 : decode cX9_copied 80 = .ok (.iload 5, 2) := by decide +kernel
theorem dX9_copied_82 : decode cX9_copied 82 = .ok (.iadd, 1) := by decide +kernel
theorem dX9_copied_83 : decode cX9_copied 83 = .ok (.iaload, 1) := by decide +kernel
theorem dX9_copied_84 : decode cX9_copied 84 = .ok (.aload_n 0, 1) := by decide +kernel
theorem dX9_copied_85 : decode cX9_copied 85 = .ok (.getfield 22, 3) := by decide +kernel
theorem dX9_copied_88 : decode cX9_copied 88 = .ok (.bipush 10, 2) := by decide +kernel
theorem dX9_copied_90 : decode cX9_copied 90 = .ok (.iload_n 2, 1) := by decide +kernel
theorem dX9_copied_91 : decode cX9_copied 91 = .ok (.imul, 1) := by decide +kernel
theorem dX9_copied_92 : decode cX9_copied 92 = .ok (.iload_n 3, 1) := by decide +kernel
theorem dX9_copied_93 : decode cX9_copied 93 = .ok (.iadd, 1) := by decide +kernel
theorem dX9_copied_94 : decode cX9_copied 94 = .ok (.iaload, 1) := by decide +kernel
theorem dX9_copied_95 : decode cX9_copied 95 = .ok (.if_icmp .ne 43, 3) := by decide +kernel
theorem dX9_copied_98 : decode cX9_copied 98 = .ok (.aload_n 0, 1) := by decide +kernel
theorem dX9_copied_99 : decode cX9_copied 99 = .ok (.getfield 25, 3) := by decide +kernel
theorem dX9_copied_102 : decode cX9_copied 102 = .ok (.bipush 10, 2) := by decide +kernel
theorem dX9_copied_104 : decode cX9_copied 104 = .ok (.iload_n 1, 1) := by decide +kernel
theorem dX9_copied_105 : decode cX9_copied 105 = .ok (.imul, 1) := by decide +kernel
theorem dX9_copied_106 : decode cX9_copied 106 = .ok (.iload 5, 2) := by decide +kernel
theorem dX9_copied_108 : decode cX9_copied 108 = .ok (.iadd, 1) := by decide +kernel
theorem dX9_copied_109 : decode cX9_copied 109 = .ok (.iaload, 1) := by decide +kernel
theorem dX9_copied_110 : decode cX9_copied 110 = .ok (.aload_n 0, 1) := by decide +kernel
theorem dX9_copied_111 : decode cX9_copied 111 = .ok (.getfield 25, 3) := by decide +kernel
theorem dX9_copied_114 : decode cX9_copied 114 = .ok (.bipush 10, 2) := by decide +kernel
theorem dX9_copied_116 : decode cX9_copied 116 = .ok (.iload_n 2, 1) := by decide +kernel
theorem dX9_copied_117 : decode cX9_copied 117 = .ok (.imul, 1) := by decide +kernel
theorem dX9_copied_118 : decode cX9_copied 118 = .ok (.iload_n 3, 1) := by decide +kernel
theorem dX9_copied_119 : decode cX9_copied 119 = .ok (.iadd, 1) := by decide +kernel
theorem dX9_copied_120 : decode cX9_copied 120 = .ok (.iaload, 1) := by decide +kernel
theorem dX9_copied_121 : decode cX9_copied 121 = .ok (.if_icmp .ne 17, 3) := by decide +kernel
theorem dX9_copied_124 : decode cX9_copied 124 = .ok (.aload_n 0, 1) := by decide +kernel
theorem dX9_copied_125 : decode cX9_copied 125 = .ok (.getfield 53, 3) := by decide +kernel
theorem dX9_copied_128 : decode cX9_copied 128 = .ok (.iload 5, 2) := by decide +kernel
theorem dX9_copied_130 : decode cX9_copied 130 = .ok (.iaload, 1) := by decide +kernel
theorem dX9_copied_131 : decode cX9_copied 131 = .ok (.iload_n 3, 1) := by decide +kernel
theorem dX9_copied_132 : decode cX9_copied 132 = .ok (.if_icmp .eq 6, 3) := by decide +kernel
theorem dX9_copied_135 : decode cX9_copied 135 = .ok (.iload 5, 2) := by decide +kernel
theorem dX9_copied_137 : decode cX9_copied 137 = .ok (.ireturn, 1) := by decide +kernel
theorem dX9_copied_138 : decode cX9_copied 138 = .ok (.iinc 5 1, 3) := by decide +kernel
theorem dX9_copied_141 : decode cX9_copied 141 = .ok (.goto (-80), 3) := by decide +kernel
theorem dX9_copied_144 : decode cX9_copied 144 = .ok (.bipush (-9), 2) := by decide +kernel
end
section
theorem dX9_copied_146 : decode cX9_copied 146 = .ok (.ireturn, 1) := by decide +kernel
theorem dX9_wrongDays_0 : decode cX9_wrongDays 0 = .ok (.iload_n 0, 1) := by decide +kernel
theorem dX9_wrongDays_1 : decode cX9_wrongDays 1 = .ok (.ifCond .lt 7, 3) := by decide +kernel
theorem dX9_wrongDays_4 : decode cX9_wrongDays 4 = .ok (.iload_n 1, 1) := by decide +kernel
theorem dX9_wrongDays_5 : decode cX9_wrongDays 5 = .ok (.ifCond .ge 6, 3) := by decide +kernel
theorem dX9_wrongDays_8 : decode cX9_wrongDays 8 = .ok (.bipush (-4), 2) := by decide +kernel
theorem dX9_wrongDays_10 : decode cX9_wrongDays 10 = .ok (.ireturn, 1) := by decide +kernel
theorem dX9_wrongDays_11 : decode cX9_wrongDays 11 = .ok (.iload_n 0, 1) := by decide +kernel
theorem dX9_wrongDays_12 : decode cX9_wrongDays 12 = .ok (.ldc 194, 2) := by decide +kernel
theorem dX9_wrongDays_14 : decode cX9_wrongDays 14 = .ok (.if_icmp .gt 9, 3) := by decide +kernel
theorem dX9_wrongDays_17 : decode cX9_wrongDays 17 = .ok (.iload_n 1, 1) := by decide +kernel
theorem dX9_wrongDays_18 : decode cX9_wrongDays 18 = .ok (.ldc 194, 2) := by decide +kernel
theorem dX9_wrongDays_20 : decode cX9_wrongDays 20 = .ok (.if_icmp .le 8, 3) := by decide +kernel
theorem dX9_wrongDays_23 : decode cX9_wrongDays 23 = .ok (.bipush (-6), 2) := by decide +kernel
theorem dX9_wrongDays_25 : decode cX9_wrongDays 25 = .ok (.goto 4, 3) := by decide +kernel
theorem dX9_wrongDays_28 : decode cX9_wrongDays 28 = .ok (.iconst 0, 1) := by decide +kernel
theorem dX9_wrongDays_29 : decode cX9_wrongDays 29 = .ok (.ireturn, 1) := by decide +kernel
theorem dX9_sight_0 : decode cX9_sight 0 = .ok (.iload_n 1, 1) := by decide +kernel
theorem dX9_sight_1 : decode cX9_sight 1 = .ok (.bipush 12, 2) := by decide +kernel
theorem dX9_sight_3 : decode cX9_sight 3 = .ok (.invokestatic 126, 3) := by decide +kernel
theorem dX9_sight_6 : decode cX9_sight 6 = .ok (.ifCond .eq 21, 3) := by decide +kernel
theorem dX9_sight_9 : decode cX9_sight 9 = .ok (.iload_n 2, 1) := by decide +kernel
theorem dX9_sight_10 : decode cX9_sight 10 = .ok (.bipush 8, 2) := by decide +kernel
theorem dX9_sight_12 : decode cX9_sight 12 = .ok (.invokestatic 126, 3) := by decide +kernel
theorem dX9_sight_15 : decode cX9_sight 15 = .ok (.ifCond .eq 12, 3) := by decide +kernel
theorem dX9_sight_18 : decode cX9_sight 18 = .ok (.iload_n 3, 1) := by decide +kernel
theorem dX9_sight_19 : decode cX9_sight 19 = .ok (.iload 4, 2) := by decide +kernel
theorem dX9_sight_21 : decode cX9_sight 21 = .ok (.invokestatic 195, 3) := by decide +kernel
theorem dX9_sight_24 : decode cX9_sight 24 = .ok (.goto 4, 3) := by decide +kernel
theorem dX9_sight_27 : decode cX9_sight 27 = .ok (.iconst (-1), 1) := by decide +kernel
theorem dX9_sight_28 : decode cX9_sight 28 = .ok (.istore 5, 2) := by decide +kernel
theorem dX9_sight_30 : decode cX9_sight 30 = .ok (.iload 5, 2) := by decide +kernel
theorem dX9_sight_32 : decode cX9_sight 32 = .ok (.ifCond .ne 16, 3) := by decide +kernel
theorem dX9_sight_35 : decode cX9_sight 35 = .ok (.aload_n 0, 1) := by decide +kernel
theorem dX9_sight_36 : decode cX9_sight 36 = .ok (.getfield 198, 3) := by decide +kernel
theorem dX9_sight_39 : decode cX9_sight 39 = .ok (.bipush 60, 2) := by decide +kernel
theorem dX9_sight_41 : decode cX9_sight 41 = .ok (.if_icmp .ne 7, 3) := by decide +kernel
theorem dX9_sight_44 : decode cX9_sight 44 = .ok (.bipush (-6), 2) := by decide +kernel
theorem dX9_sight_46 : decode cX9_sight 46 = .ok (.istore 5, 2) := by decide +kernel
theorem dX9_sight_48 : decode cX9_sight 48 = .ok (.iload 5, 2) := by decide +kernel
theorem dX9_sight_50 : decode cX9_sight 50 = .ok (.ifCond .eq 10, 3) := by decide +kernel
theorem dX9_sight_53 : decode cX9_sight 53 = .ok (.aload_n 0, 1) := by decide +kernel
theorem dX9_sight_54 : decode cX9_sight 54 = .ok (.iload 5, 2) := by decide +kernel
theorem dX9_sight_56 : decode cX9_sight 56 = .ok (.invokevirtual 130, 3) := by decide +kernel
theorem dX9_sight_59 : decode cX9_sight 59 = .ok (.ireturn, 1) := by decide +kernel
theorem dX9_sight_60 : decode cX9_sight 60 = .ok (.aload_n 0, 1) := by decide +kernel
theorem dX9_sight_61 : decode cX9_sight 61 = .ok (.getfield 59, 3) := by decide +kernel
theorem dX9_sight_64 : decode cX9_sight 64 = .ok (.aload_n 0, 1) := by decide +kernel
theorem dX9_sight_65 : decode cX9_sight 65 = .ok (.getfield 198, 3) := by decide +kernel
theorem dX9_sight_68 : decode cX9_sight 68 = .ok (.iload_n 1, 1) := by decide +kernel
theorem dX9_sight_69 : decode cX9_sight 69 = .ok (.iastore, 1) := by decide +kernel
theorem dX9_sight_70 : decode cX9_sight 70 = .ok (.aload_n 0, 1) := by decide +kernel
theorem dX9_sight_71 : decode cX9_sight 71 = .ok (.getfield 62, 3) := by decide +kernel
theorem dX9_sight_74 : decode cX9_sight 74 = .ok (.aload_n 0, 1) := by decide +kernel
theorem dX9_sight_75 : decode cX9_sight 75 = .ok (.getfield 198, 3) := by decide +kernel
theorem dX9_sight_78 : decode cX9_sight 78 = .ok (.iload_n 2, 1) := by decide +kernel
theorem dX9_sight_79 : decode cX9_sight 79 = .ok (.iastore, 1) := by decide +kernel
theorem dX9_sight_80 : decode cX9_sight 80 = .ok (.aload_n 0, 1) := by decide +kernel
theorem dX9_sight_81 : decode cX9_sight 81 = .ok (.getfield 65, 3) := by decide +kernel
theorem dX9_sight_84 : decode cX9_sight 84 = .ok (.aload_n 0, 1) := by decide +kernel
theorem dX9_sight_85 : decode cX9_sight 85 = .ok (.getfield 198, 3) := by decide +kernel
theorem dX9_sight_88 : decode cX9_sight 88 = .ok (.iload_n 3, 1) := by decide +kernel
theorem dX9_sight_89 : decode cX9_sight 89 = .ok (.iastore, 1) := by decide +kernel
theorem dX9_sight_90 : decode cX9_sight 90 = .ok (.aload_n 0, 1) := by decide +kernel
theorem dX9_sight_91 : decode cX9_sight 91 = .ok (.getfield 68, 3) := by decide +kernel
theorem dX9_sight_94 : decode cX9_sight 94 = .ok (.aload_n 0, 1) := by decide +kernel
theorem dX9_sight_95 : decode cX9_sight 95 = .ok (.getfield 198, 3) := by decide +kernel
theorem dX9_sight_98 : decode cX9_sight 98 = .ok (.iload 4, 2) := by decide +kernel
theorem dX9_sight_100 : decode cX9_sight 100 = .ok (.iastore, 1) := by decide +kernel
theorem dX9_sight_101 : decode cX9_sight 101 = .ok (.aload_n 0, 1) := by decide +kernel
theorem dX9_sight_102 : decode cX9_sight 102 = .ok (.getfield 71, 3) := by decide +kernel
theorem dX9_sight_105 : decode cX9_sight 105 = .ok (.aload_n 0, 1) := by decide +kernel
theorem dX9_sight_106 : decode cX9_sight 106 = .ok (.getfield 198, 3) := by decide +kernel
theorem dX9_sight_109 : decode cX9_sight 109 = .ok (.ldc 201, 2) := by decide +kernel
theorem dX9_sight_111 : decode cX9_sight 111 = .ok (.iastore, 1) := by decide +kernel
theorem dX9_sight_112 : decode cX9_sight 112 = .ok (.aload_n 0, 1) := by decide +kernel
theorem dX9_sight_113 : decode cX9_sight 113 = .ok (.dup, 1) := by decide +kernel
theorem dX9_sight_114 : decode cX9_sight 114 = .ok (.getfield 198, 3) := by decide +kernel
theorem dX9_sight_117 : decode cX9_sight 117 = .ok (.iconst 1, 1) := by decide +kernel
theorem dX9_sight_118 : decode cX9_sight 118 = .ok (.iadd, 1) := by decide +kernel
theorem dX9_sight_119 : decode cX9_sight 119 = .ok (.putfield 198, 3) := by decide +kernel
theorem dX9_sight_122 : decode cX9_sight 122 = .ok (.aload_n 0, 1) := by decide +kernel
theorem dX9_sight_123 : decode cX9_sight 123 = .ok (.getfield 198, 3) := by decide +kernel
theorem dX9_sight_126 : decode cX9_sight 126 = .ok (.iconst 1, 1) := by decide +kernel
theorem dX9_sight_127 : decode cX9_sight 127 = .ok (.isub, 1) := by decide +kernel
theorem dX9_sight_128 : decode cX9_sight 128 = .ok (.ireturn, 1) := by decide +kernel
theorem dX9_move_0 : decode cX9_move 0 = .ok (.iload_n 1, 1) := by decide +kernel
theorem dX9_move_1 : decode cX9_move 1 = .ok (.bipush 12, 2) := by decide +kernel
theorem dX9_move_3 : decode cX9_move 3 = .ok (.invokestatic 126, 3) := by decide +kernel
theorem dX9_move_6 : decode cX9_move 6 = .ok (.ifCond .eq 12, 3) := by decide +kernel
theorem dX9_move_9 : decode cX9_move 9 = .ok (.iload_n 2, 1) := by decide +kernel
theorem dX9_move_10 : decode cX9_move 10 = .ok (.bipush 8, 2) := by decide +kernel
theorem dX9_move_12 : decode cX9_move 12 = .ok (.invokestatic 126, 3) := by decide +kernel
theorem dX9_move_15 : decode cX9_move 15 = .ok (.ifCond .ne 7, 3) := by decide +kernel
theorem dX9_move_18 : decode cX9_move 18 = .ok (.iconst (-1), 1) := by decide +kernel
theorem dX9_move_19 : decode cX9_move 19 = .ok (.goto 23, 3) := by decide +kernel
theorem dX9_move_22 : decode cX9_move 22 = .ok (.iload 4, 2) := by decide +kernel
theorem dX9_move_24 : decode cX9_move 24 = .ok (.iconst 5, 1) := by decide +kernel
theorem dX9_move_25 : decode cX9_move 25 = .ok (.invokestatic 126, 3) := by decide +kernel
theorem dX9_move_28 : decode cX9_move 28 = .ok (.ifCond .ne 8, 3) := by decide +kernel
theorem dX9_move_31 : decode cX9_move 31 = .ok (.bipush (-2), 2) := by decide +kernel
theorem dX9_move_33 : decode cX9_move 33 = .ok (.goto 9, 3) := by decide +kernel
theorem dX9_move_36 : decode cX9_move 36 = .ok (.iload_n 3, 1) := by decide +kernel
theorem dX9_move_37 : decode cX9_move 37 = .ok (.iload 5, 2) := by decide +kernel
theorem dX9_move_39 : decode cX9_move 39 = .ok (.invokestatic 195, 3) := by decide +kernel
theorem dX9_move_42 : decode cX9_move 42 = .ok (.istore 6, 2) := by decide +kernel
theorem dX9_move_44 : decode cX9_move 44 = .ok (.iload 6, 2) := by decide +kernel
theorem dX9_move_46 : decode cX9_move 46 = .ok (.ifCond .ne 16, 3) := by decide +kernel
theorem dX9_move_49 : decode cX9_move 49 = .ok (.aload_n 0, 1) := by decide +kernel
theorem dX9_move_50 : decode cX9_move 50 = .ok (.getfield 202, 3) := by decide +kernel
theorem dX9_move_53 : decode cX9_move 53 = .ok (.bipush 60, 2) := by decide +kernel
theorem dX9_move_55 : decode cX9_move 55 = .ok (.if_icmp .ne 7, 3) := by decide +kernel
theorem dX9_move_58 : decode cX9_move 58 = .ok (.bipush (-6), 2) := by decide +kernel
theorem dX9_move_60 : decode cX9_move 60 = .ok (.istore 6, 2) := by decide +kernel
theorem dX9_move_62 : decode cX9_move 62 = .ok (.iload 6, 2) := by decide +kernel
theorem dX9_move_64 : decode cX9_move 64 = .ok (.ifCond .eq 10, 3) := by decide +kernel
theorem dX9_move_67 : decode cX9_move 67 = .ok (.aload_n 0, 1) := by decide +kernel
theorem dX9_move_68 : decode cX9_move 68 = .ok (.iload 6, 2) := by decide +kernel
theorem dX9_move_70 : decode cX9_move 70 = .ok (.invokevirtual 130, 3) := by decide +kernel
theorem dX9_move_73 : decode cX9_move 73 = .ok (.ireturn, 1) := by decide +kernel
theorem dX9_move_74 : decode cX9_move 74 = .ok (.aload_n 0, 1) := by decide +kernel
theorem dX9_move_75 : decode cX9_move 75 = .ok (.getfield 74, 3) := by decide +kernel
theorem dX9_move_78 : decode cX9_move 78 = .ok (.aload_n 0, 1) := by decide +kernel
theorem dX9_move_79 : decode cX9_move 79 = .ok (.getfield 202, 3) := by decide +kernel
theorem dX9_move_82 : decode cX9_move 82 = .ok (.iload_n 1, 1) := by decide +kernel
theorem dX9_move_83 : decode cX9_move 83 = .ok (.iastore, 1) := by decide +kernel
theorem dX9_move_84 : decode cX9_move 84 = .ok (.aload_n 0, 1) := by decide +kernel
theorem dX9_move_85 : decode cX9_move 85 = .ok (.getfield 77, 3) := by decide +kernel
theorem dX9_move_88 : decode cX9_move 88 = .ok (.aload_n 0, 1) := by decide +kernel
theorem dX9_move_89 : decode cX9_move 89 = .ok (.getfield 202, 3) := by decide +kernel
theorem dX9_move_92 : decode cX9_move 92 = .ok (.iload_n 2, 1) := by decide +kernel
theorem dX9_move_93 : decode cX9_move 93 = .ok (.iastore, 1) := by decide +kernel
theorem dX9_move_94 : decode cX9_move 94 = .ok (.aload_n 0, 1) := by decide +kernel
theorem dX9_move_95 : decode cX9_move 95 = .ok (.getfield 80, 3) := by decide +kernel
theorem dX9_move_98 : decode cX9_move 98 = .ok (.aload_n 0, 1) := by decide +kernel
theorem dX9_move_99 : decode cX9_move 99 = .ok (.getfield 202, 3) := by decide +kernel
theorem dX9_move_102 : decode cX9_move 102 = .ok (.iload_n 3, 1) := by decide +kernel
theorem dX9_move_103 : decode cX9_move 103 = .ok (.iastore, 1) := by decide +kernel
theorem dX9_move_104 : decode cX9_move 104 = .ok (.aload_n 0, 1) := by decide +kernel
theorem dX9_move_105 : decode cX9_move 105 = .ok (.getfield 83, 3) := by decide +kernel
theorem dX9_move_108 : decode cX9_move 108 = .ok (.aload_n 0, 1) := by decide +kernel
theorem dX9_move_109 : decode cX9_move 109 = .ok (.getfield 202, 3) := by decide +kernel
theorem dX9_move_112 : decode cX9_move 112 = .ok (.iload 4, 2) := by decide +kernel
theorem dX9_move_114 : decode cX9_move 114 = .ok (.iastore, 1) := by decide +kernel
theorem dX9_move_115 : decode cX9_move 115 = .ok (.aload_n 0, 1) := by decide +kernel
theorem dX9_move_116 : decode cX9_move 116 = .ok (.getfield 86, 3) := by decide +kernel
theorem dX9_move_119 : decode cX9_move 119 = .ok (.aload_n 0, 1) := by decide +kernel
theorem dX9_move_120 : decode cX9_move 120 = .ok (.getfield 202, 3) := by decide +kernel
theorem dX9_move_123 : decode cX9_move 123 = .ok (.iload 5, 2) := by decide +kernel
theorem dX9_move_125 : decode cX9_move 125 = .ok (.iastore, 1) := by decide +kernel
theorem dX9_move_126 : decode cX9_move 126 = .ok (.aload_n 0, 1) := by decide +kernel
theorem dX9_move_127 : decode cX9_move 127 = .ok (.getfield 89, 3) := by decide +kernel
theorem dX9_move_130 : decode cX9_move 130 = .ok (.aload_n 0, 1) := by decide +kernel
theorem dX9_move_131 : decode cX9_move 131 = .ok (.getfield 202, 3) := by decide +kernel
theorem dX9_move_134 : decode cX9_move 134 = .ok (.ldc 201, 2) := by decide +kernel
theorem dX9_move_136 : decode cX9_move 136 = .ok (.iastore, 1) := by decide +kernel
theorem dX9_move_137 : decode cX9_move 137 = .ok (.aload_n 0, 1) := by decide +kernel
theorem dX9_move_138 : decode cX9_move 138 = .ok (.dup, 1) := by decide +kernel
theorem dX9_move_139 : decode cX9_move 139 = .ok (.getfield 202, 3) := by decide +kernel
theorem dX9_move_142 : decode cX9_move 142 = .ok (.iconst 1, 1) := by decide +kernel
theorem dX9_move_143 : decode cX9_move 143 = .ok (.iadd, 1) := by decide +kernel
theorem dX9_move_144 : decode cX9_move 144 = .ok (.putfield 202, 3) := by decide +kernel
theorem dX9_move_147 : decode cX9_move 147 = .ok (.aload_n 0, 1) := by decide +kernel
theorem dX9_move_148 : decode cX9_move 148 = .ok (.getfield 202, 3) := by decide +kernel
theorem dX9_move_151 : decode cX9_move 151 = .ok (.iconst 1, 1) := by decide +kernel
theorem dX9_move_152 : decode cX9_move 152 = .ok (.isub, 1) := by decide +kernel
theorem dX9_move_153 : decode cX9_move 153 = .ok (.ireturn, 1) := by decide +kernel
theorem dX9_withdraw_0 : decode cX9_withdraw 0 = .ok (.iload_n 2, 1) := by decide +kernel
theorem dX9_withdraw_1 : decode cX9_withdraw 1 = .ok (.iload_n 1, 1) := by decide +kernel
theorem dX9_withdraw_2 : decode cX9_withdraw 2 = .ok (.ifCond .eq 10, 3) := by decide +kernel
theorem dX9_withdraw_5 : decode cX9_withdraw 5 = .ok (.aload_n 0, 1) := by decide +kernel
theorem dX9_withdraw_6 : decode cX9_withdraw 6 = .ok (.getfield 198, 3) := by decide +kernel
theorem dX9_withdraw_9 : decode cX9_withdraw 9 = .ok (.goto 7, 3) := by decide +kernel
theorem dX9_withdraw_12 : decode cX9_withdraw 12 = .ok (.aload_n 0, 1) := by decide +kernel
theorem dX9_withdraw_13 : decode cX9_withdraw 13 = .ok (.getfield 202, 3) := by decide +kernel
theorem dX9_withdraw_16 : decode cX9_withdraw 16 = .ok (.invokestatic 126, 3) := by decide +kernel
theorem dX9_withdraw_19 : decode cX9_withdraw 19 = .ok (.ifCond .ne 9, 3) := by decide +kernel
theorem dX9_withdraw_22 : decode cX9_withdraw 22 = .ok (.aload_n 0, 1) := by decide +kernel
theorem dX9_withdraw_23 : decode cX9_withdraw 23 = .ok (.iconst (-1), 1) := by decide +kernel
theorem dX9_withdraw_24 : decode cX9_withdraw 24 = .ok (.invokevirtual 130, 3) := by decide +kernel
theorem dX9_withdraw_27 : decode cX9_withdraw 27 = .ok (.ireturn, 1) := by decide +kernel
theorem dX9_withdraw_28 : decode cX9_withdraw 28 = .ok (.iload_n 1, 1) := by decide +kernel
theorem dX9_withdraw_29 : decode cX9_withdraw 29 = .ok (.ifCond .eq 12, 3) := by decide +kernel
theorem dX9_withdraw_32 : decode cX9_withdraw 32 = .ok (.aload_n 0, 1) := by decide +kernel
theorem dX9_withdraw_33 : decode cX9_withdraw 33 = .ok (.getfield 71, 3) := by decide +kernel
theorem dX9_withdraw_36 : decode cX9_withdraw 36 = .ok (.iload_n 2, 1) := by decide +kernel
theorem dX9_withdraw_37 : decode cX9_withdraw 37 = .ok (.iaload, 1) := by decide +kernel
theorem dX9_withdraw_38 : decode cX9_withdraw 38 = .ok (.goto 9, 3) := by decide +kernel
theorem dX9_withdraw_41 : decode cX9_withdraw 41 = .ok (.aload_n 0, 1) := by decide +kernel
theorem dX9_withdraw_42 : decode cX9_withdraw 42 = .ok (.getfield 89, 3) := by decide +kernel
theorem dX9_withdraw_45 : decode cX9_withdraw 45 = .ok (.iload_n 2, 1) := by decide +kernel
theorem dX9_withdraw_46 : decode cX9_withdraw 46 = .ok (.iaload, 1) := by decide +kernel
theorem dX9_withdraw_47 : decode cX9_withdraw 47 = .ok (.ldc 201, 2) := by decide +kernel
theorem dX9_withdraw_49 : decode cX9_withdraw 49 = .ok (.if_icmp .ge 10, 3) := by decide +kernel
theorem dX9_withdraw_52 : decode cX9_withdraw 52 = .ok (.aload_n 0, 1) := by decide +kernel
theorem dX9_withdraw_53 : decode cX9_withdraw 53 = .ok (.bipush (-3), 2) := by decide +kernel
theorem dX9_withdraw_55 : decode cX9_withdraw 55 = .ok (.invokevirtual 130, 3) := by decide +kernel
theorem dX9_withdraw_58 : decode cX9_withdraw 58 = .ok (.ireturn, 1) := by decide +kernel
theorem dX9_withdraw_59 : decode cX9_withdraw 59 = .ok (.iload_n 3, 1) := by decide +kernel
theorem dX9_withdraw_60 : decode cX9_withdraw 60 = .ok (.iload_n 1, 1) := by decide +kernel
theorem dX9_withdraw_61 : decode cX9_withdraw 61 = .ok (.ifCond .eq 12, 3) := by decide +kernel
theorem dX9_withdraw_64 : decode cX9_withdraw 64 = .ok (.aload_n 0, 1) := by decide +kernel
theorem dX9_withdraw_65 : decode cX9_withdraw 65 = .ok (.getfield 68, 3) := by decide +kernel
theorem dX9_withdraw_68 : decode cX9_withdraw 68 = .ok (.iload_n 2, 1) := by decide +kernel
theorem dX9_withdraw_69 : decode cX9_withdraw 69 = .ok (.iaload, 1) := by decide +kernel
theorem dX9_withdraw_70 : decode cX9_withdraw 70 = .ok (.goto 9, 3) := by decide +kernel
theorem dX9_withdraw_73 : decode cX9_withdraw 73 = .ok (.aload_n 0, 1) := by decide +kernel
theorem dX9_withdraw_74 : decode cX9_withdraw 74 = .ok (.getfield 86, 3) := by decide +kernel
theorem dX9_withdraw_77 : decode cX9_withdraw 77 = .ok (.iload_n 2, 1) := by decide +kernel
theorem dX9_withdraw_78 : decode cX9_withdraw 78 = .ok (.iaload, 1) := by decide +kernel
theorem dX9_withdraw_79 : decode cX9_withdraw 79 = .ok (.ldc 194, 2) := by decide +kernel
theorem dX9_withdraw_81 : decode cX9_withdraw 81 = .ok (.invokestatic 137, 3) := by decide +kernel
theorem dX9_withdraw_84 : decode cX9_withdraw 84 = .ok (.istore 4, 2) := by decide +kernel
theorem dX9_withdraw_86 : decode cX9_withdraw 86 = .ok (.iload 4, 2) := by decide +kernel
theorem dX9_withdraw_88 : decode cX9_withdraw 88 = .ok (.ifCond .eq 10, 3) := by decide +kernel
theorem dX9_withdraw_91 : decode cX9_withdraw 91 = .ok (.aload_n 0, 1) := by decide +kernel
theorem dX9_withdraw_92 : decode cX9_withdraw 92 = .ok (.iload 4, 2) := by decide +kernel
theorem dX9_withdraw_94 : decode cX9_withdraw 94 = .ok (.invokevirtual 130, 3) := by decide +kernel
theorem dX9_withdraw_97 : decode cX9_withdraw 97 = .ok (.ireturn, 1) := by decide +kernel
theorem dX9_withdraw_98 : decode cX9_withdraw 98 = .ok (.iload_n 1, 1) := by decide +kernel
theorem dX9_withdraw_99 : decode cX9_withdraw 99 = .ok (.ifCond .eq 13, 3) := by decide +kernel
theorem dX9_withdraw_102 : decode cX9_withdraw 102 = .ok (.aload_n 0, 1) := by decide +kernel
theorem dX9_withdraw_103 : decode cX9_withdraw 103 = .ok (.getfield 71, 3) := by decide +kernel
theorem dX9_withdraw_106 : decode cX9_withdraw 106 = .ok (.iload_n 2, 1) := by decide +kernel
theorem dX9_withdraw_107 : decode cX9_withdraw 107 = .ok (.iload_n 3, 1) := by decide +kernel
theorem dX9_withdraw_108 : decode cX9_withdraw 108 = .ok (.iastore, 1) := by decide +kernel
theorem dX9_withdraw_109 : decode cX9_withdraw 109 = .ok (.goto 10, 3) := by decide +kernel
theorem dX9_withdraw_112 : decode cX9_withdraw 112 = .ok (.aload_n 0, 1) := by decide +kernel
theorem dX9_withdraw_113 : decode cX9_withdraw 113 = .ok (.getfield 89, 3) := by decide +kernel
theorem dX9_withdraw_116 : decode cX9_withdraw 116 = .ok (.iload_n 2, 1) := by decide +kernel
theorem dX9_withdraw_117 : decode cX9_withdraw 117 = .ok (.iload_n 3, 1) := by decide +kernel
theorem dX9_withdraw_118 : decode cX9_withdraw 118 = .ok (.iastore, 1) := by decide +kernel
theorem dX9_withdraw_119 : decode cX9_withdraw 119 = .ok (.iconst 1, 1) := by decide +kernel
theorem dX9_withdraw_120 : decode cX9_withdraw 120 = .ok (.ireturn, 1) := by decide +kernel
theorem dX9_isSight_0 : decode cX9_isSight 0 = .ok (.aload_n 0, 1) := by decide +kernel
theorem dX9_isSight_1 : decode cX9_isSight 1 = .ok (.getfield 59, 3) := by decide +kernel
theorem dX9_isSight_4 : decode cX9_isSight 4 = .ok (.iload_n 1, 1) := by decide +kernel
theorem dX9_isSight_5 : decode cX9_isSight 5 = .ok (.iaload, 1) := by decide +kernel
theorem dX9_isSight_6 : decode cX9_isSight 6 = .ok (.iload_n 2, 1) := by decide +kernel
theorem dX9_isSight_7 : decode cX9_isSight 7 = .ok (.if_icmp .ne 27, 3) := by decide +kernel
theorem dX9_isSight_10 : decode cX9_isSight 10 = .ok (.aload_n 0, 1) := by decide +kernel
theorem dX9_isSight_11 : decode cX9_isSight 11 = .ok (.getfield 68, 3) := by decide +kernel
theorem dX9_isSight_14 : decode cX9_isSight 14 = .ok (.iload_n 1, 1) := by decide +kernel
theorem dX9_isSight_15 : decode cX9_isSight 15 = .ok (.iaload, 1) := by decide +kernel
theorem dX9_isSight_16 : decode cX9_isSight 16 = .ok (.iload_n 3, 1) := by decide +kernel
theorem dX9_isSight_17 : decode cX9_isSight 17 = .ok (.if_icmp .gt 17, 3) := by decide +kernel
theorem dX9_isSight_20 : decode cX9_isSight 20 = .ok (.iload_n 3, 1) := by decide +kernel
theorem dX9_isSight_21 : decode cX9_isSight 21 = .ok (.aload_n 0, 1) := by decide +kernel
theorem dX9_isSight_22 : decode cX9_isSight 22 = .ok (.getfield 71, 3) := by decide +kernel
theorem dX9_isSight_25 : decode cX9_isSight 25 = .ok (.iload_n 1, 1) := by decide +kernel
theorem dX9_isSight_26 : decode cX9_isSight 26 = .ok (.iaload, 1) := by decide +kernel
theorem dX9_isSight_27 : decode cX9_isSight 27 = .ok (.if_icmp .ge 7, 3) := by decide +kernel
theorem dX9_isSight_30 : decode cX9_isSight 30 = .ok (.iconst 1, 1) := by decide +kernel
theorem dX9_isSight_31 : decode cX9_isSight 31 = .ok (.goto 4, 3) := by decide +kernel
theorem dX9_isSight_34 : decode cX9_isSight 34 = .ok (.iconst 0, 1) := by decide +kernel
theorem dX9_isSight_35 : decode cX9_isSight 35 = .ok (.ireturn, 1) := by decide +kernel
theorem dX9_isMove_0 : decode cX9_isMove 0 = .ok (.aload_n 0, 1) := by decide +kernel
theorem dX9_isMove_1 : decode cX9_isMove 1 = .ok (.getfield 74, 3) := by decide +kernel
theorem dX9_isMove_4 : decode cX9_isMove 4 = .ok (.iload_n 1, 1) := by decide +kernel
theorem dX9_isMove_5 : decode cX9_isMove 5 = .ok (.iaload, 1) := by decide +kernel
theorem dX9_isMove_6 : decode cX9_isMove 6 = .ok (.iload_n 2, 1) := by decide +kernel
theorem dX9_isMove_7 : decode cX9_isMove 7 = .ok (.if_icmp .ne 27, 3) := by decide +kernel
theorem dX9_isMove_10 : decode cX9_isMove 10 = .ok (.aload_n 0, 1) := by decide +kernel
theorem dX9_isMove_11 : decode cX9_isMove 11 = .ok (.getfield 86, 3) := by decide +kernel
theorem dX9_isMove_14 : decode cX9_isMove 14 = .ok (.iload_n 1, 1) := by decide +kernel
theorem dX9_isMove_15 : decode cX9_isMove 15 = .ok (.iaload, 1) := by decide +kernel
theorem dX9_isMove_16 : decode cX9_isMove 16 = .ok (.iload_n 3, 1) := by decide +kernel
theorem dX9_isMove_17 : decode cX9_isMove 17 = .ok (.if_icmp .gt 17, 3) := by decide +kernel
theorem dX9_isMove_20 : decode cX9_isMove 20 = .ok (.iload_n 3, 1) := by decide +kernel
theorem dX9_isMove_21 : decode cX9_isMove 21 = .ok (.aload_n 0, 1) := by decide +kernel
theorem dX9_isMove_22 : decode cX9_isMove 22 = .ok (.getfield 89, 3) := by decide +kernel
theorem dX9_isMove_25 : decode cX9_isMove 25 = .ok (.iload_n 1, 1) := by decide +kernel
theorem dX9_isMove_26 : decode cX9_isMove 26 = .ok (.iaload, 1) := by decide +kernel
theorem dX9_isMove_27 : decode cX9_isMove 27 = .ok (.if_icmp .ge 7, 3) := by decide +kernel
theorem dX9_isMove_30 : decode cX9_isMove 30 = .ok (.iconst 1, 1) := by decide +kernel
theorem dX9_isMove_31 : decode cX9_isMove 31 = .ok (.goto 4, 3) := by decide +kernel
theorem dX9_isMove_34 : decode cX9_isMove 34 = .ok (.iconst 0, 1) := by decide +kernel
theorem dX9_isMove_35 : decode cX9_isMove 35 = .ok (.ireturn, 1) := by decide +kernel
theorem dX9_where_0 : decode cX9_where 0 = .ok (.iload_n 1, 1) := by decide +kernel
theorem dX9_where_1 : decode cX9_where 1 = .ok (.bipush 12, 2) := by decide +kernel
theorem dX9_where_3 : decode cX9_where 3 = .ok (.invokestatic 126, 3) := by decide +kernel
theorem dX9_where_6 : decode cX9_where 6 = .ok (.ifCond .eq 11, 3) := by decide +kernel
theorem dX9_where_9 : decode cX9_where 9 = .ok (.iload_n 2, 1) := by decide +kernel
theorem dX9_where_10 : decode cX9_where 10 = .ok (.iload_n 3, 1) := by decide +kernel
theorem dX9_where_11 : decode cX9_where 11 = .ok (.invokestatic 195, 3) := by decide +kernel
theorem dX9_where_14 : decode cX9_where 14 = .ok (.goto 4, 3) := by decide +kernel
theorem dX9_where_17 : decode cX9_where 17 = .ok (.iconst (-1), 1) := by decide +kernel
theorem dX9_where_18 : decode cX9_where 18 = .ok (.istore 4, 2) := by decide +kernel
theorem dX9_where_20 : decode cX9_where 20 = .ok (.iload 4, 2) := by decide +kernel
theorem dX9_where_22 : decode cX9_where 22 = .ok (.ifCond .eq 10, 3) := by decide +kernel
theorem dX9_where_25 : decode cX9_where 25 = .ok (.aload_n 0, 1) := by decide +kernel
theorem dX9_where_26 : decode cX9_where 26 = .ok (.iload 4, 2) := by decide +kernel
theorem dX9_where_28 : decode cX9_where 28 = .ok (.invokevirtual 130, 3) := by decide +kernel
theorem dX9_where_31 : decode cX9_where 31 = .ok (.ireturn, 1) := by decide +kernel
theorem dX9_where_32 : decode cX9_where 32 = .ok (.iconst (-1), 1) := by decide +kernel
theorem dX9_where_33 : decode cX9_where 33 = .ok (.istore 5, 2) := by decide +kernel
theorem dX9_where_35 : decode cX9_where 35 = .ok (.iconst 0, 1) := by decide +kernel
theorem dX9_where_36 : decode cX9_where 36 = .ok (.istore 6, 2) := by decide +kernel
theorem dX9_where_38 : decode cX9_where 38 = .ok (.iload 6, 2) := by decide +kernel
theorem dX9_where_40 : decode cX9_where 40 = .ok (.aload_n 0, 1) := by decide +kernel
theorem dX9_where_41 : decode cX9_where 41 = .ok (.getfield 198, 3) := by decide +kernel
theorem dX9_where_44 : decode cX9_where 44 = .ok (.if_icmp .ge 57, 3) := by decide +kernel
theorem dX9_where_47 : decode cX9_where 47 = .ok (.aload_n 0, 1) := by decide +kernel
theorem dX9_where_48 : decode cX9_where 48 = .ok (.iload 6, 2) := by decide +kernel
theorem dX9_where_50 : decode cX9_where 50 = .ok (.iload_n 1, 1) := by decide +kernel
theorem dX9_where_51 : decode cX9_where 51 = .ok (.iload_n 3, 1) := by decide +kernel
theorem dX9_where_52 : decode cX9_where 52 = .ok (.invokevirtual 205, 3) := by decide +kernel
theorem dX9_where_55 : decode cX9_where 55 = .ok (.ifCond .eq 40, 3) := by decide +kernel
theorem dX9_where_58 : decode cX9_where 58 = .ok (.aload_n 0, 1) := by decide +kernel
theorem dX9_where_59 : decode cX9_where 59 = .ok (.getfield 65, 3) := by decide +kernel
theorem dX9_where_62 : decode cX9_where 62 = .ok (.iload 6, 2) := by decide +kernel
theorem dX9_where_64 : decode cX9_where 64 = .ok (.iaload, 1) := by decide +kernel
theorem dX9_where_65 : decode cX9_where 65 = .ok (.iload_n 2, 1) := by decide +kernel
theorem dX9_where_66 : decode cX9_where 66 = .ok (.if_icmp .gt 29, 3) := by decide +kernel
theorem dX9_where_69 : decode cX9_where 69 = .ok (.iload 5, 2) := by decide +kernel
theorem dX9_where_71 : decode cX9_where 71 = .ok (.ifCond .lt 20, 3) := by decide +kernel
theorem dX9_where_74 : decode cX9_where 74 = .ok (.aload_n 0, 1) := by decide +kernel
theorem dX9_where_75 : decode cX9_where 75 = .ok (.getfield 65, 3) := by decide +kernel
theorem dX9_where_78 : decode cX9_where 78 = .ok (.iload 6, 2) := by decide +kernel
theorem dX9_where_80 : decode cX9_where 80 = .ok (.iaload, 1) := by decide +kernel
theorem dX9_where_81 : decode cX9_where 81 = .ok (.aload_n 0, 1) := by decide +kernel
theorem dX9_where_82 : decode cX9_where 82 = .ok (.getfield 65, 3) := by decide +kernel
theorem dX9_where_85 : decode cX9_where 85 = .ok (.iload 5, 2) := by decide +kernel
theorem dX9_where_87 : decode cX9_where 87 = .ok (.iaload, 1) := by decide +kernel
theorem dX9_where_88 : decode cX9_where 88 = .ok (.if_icmp .lt 7, 3) := by decide +kernel
theorem dX9_where_91 : decode cX9_where 91 = .ok (.iload 6, 2) := by decide +kernel
theorem dX9_where_93 : decode cX9_where 93 = .ok (.istore 5, 2) := by decide +kernel
theorem dX9_where_95 : decode cX9_where 95 = .ok (.iinc 6 1, 3) := by decide +kernel
theorem dX9_where_98 : decode cX9_where 98 = .ok (.goto (-60), 3) := by decide +kernel
theorem dX9_where_101 : decode cX9_where 101 = .ok (.iload 5, 2) := by decide +kernel
theorem dX9_where_103 : decode cX9_where 103 = .ok (.ifCond .ge 8, 3) := by decide +kernel
theorem dX9_where_106 : decode cX9_where 106 = .ok (.bipush (-9), 2) := by decide +kernel
theorem dX9_where_108 : decode cX9_where 108 = .ok (.goto 10, 3) := by decide +kernel
theorem dX9_where_111 : decode cX9_where 111 = .ok (.aload_n 0, 1) := by decide +kernel
theorem dX9_where_112 : decode cX9_where 112 = .ok (.getfield 62, 3) := by decide +kernel
theorem dX9_where_115 : decode cX9_where 115 = .ok (.iload 5, 2) := by decide +kernel
theorem dX9_where_117 : decode cX9_where 117 = .ok (.iaload, 1) := by decide +kernel
theorem dX9_where_118 : decode cX9_where 118 = .ok (.ireturn, 1) := by decide +kernel
theorem dX9_quarrels_0 : decode cX9_quarrels 0 = .ok (.iload_n 1, 1) := by decide +kernel
theorem dX9_quarrels_1 : decode cX9_quarrels 1 = .ok (.bipush 12, 2) := by decide +kernel
theorem dX9_quarrels_3 : decode cX9_quarrels 3 = .ok (.invokestatic 126, 3) := by decide +kernel
theorem dX9_quarrels_6 : decode cX9_quarrels 6 = .ok (.ifCond .eq 13, 3) := by decide +kernel
theorem dX9_quarrels_9 : decode cX9_quarrels 9 = .ok (.iload_n 2, 1) := by decide +kernel
theorem dX9_quarrels_10 : decode cX9_quarrels 10 = .ok (.iconst 0, 1) := by decide +kernel
theorem dX9_quarrels_11 : decode cX9_quarrels 11 = .ok (.ldc 194, 2) := by decide +kernel
theorem dX9_quarrels_13 : decode cX9_quarrels 13 = .ok (.invokestatic 137, 3) := by decide +kernel
theorem dX9_quarrels_16 : decode cX9_quarrels 16 = .ok (.goto 4, 3) := by decide +kernel
theorem dX9_quarrels_19 : decode cX9_quarrels 19 = .ok (.iconst (-1), 1) := by decide +kernel
theorem dX9_quarrels_20 : decode cX9_quarrels 20 = .ok (.istore_n 3, 1) := by decide +kernel
theorem dX9_quarrels_21 : decode cX9_quarrels 21 = .ok (.iload_n 3, 1) := by decide +kernel
theorem dX9_quarrels_22 : decode cX9_quarrels 22 = .ok (.ifCond .eq 9, 3) := by decide +kernel
theorem dX9_quarrels_25 : decode cX9_quarrels 25 = .ok (.aload_n 0, 1) := by decide +kernel
theorem dX9_quarrels_26 : decode cX9_quarrels 26 = .ok (.iload_n 3, 1) := by decide +kernel
theorem dX9_quarrels_27 : decode cX9_quarrels 27 = .ok (.invokevirtual 130, 3) := by decide +kernel
theorem dX9_quarrels_30 : decode cX9_quarrels 30 = .ok (.ireturn, 1) := by decide +kernel
theorem dX9_quarrels_31 : decode cX9_quarrels 31 = .ok (.iconst 0, 1) := by decide +kernel
theorem dX9_quarrels_32 : decode cX9_quarrels 32 = .ok (.istore 4, 2) := by decide +kernel
theorem dX9_quarrels_34 : decode cX9_quarrels 34 = .ok (.iconst 0, 1) := by decide +kernel
theorem dX9_quarrels_35 : decode cX9_quarrels 35 = .ok (.istore 5, 2) := by decide +kernel
theorem dX9_quarrels_37 : decode cX9_quarrels 37 = .ok (.iload 5, 2) := by decide +kernel
theorem dX9_quarrels_39 : decode cX9_quarrels 39 = .ok (.aload_n 0, 1) := by decide +kernel
theorem dX9_quarrels_40 : decode cX9_quarrels 40 = .ok (.getfield 198, 3) := by decide +kernel
theorem dX9_quarrels_43 : decode cX9_quarrels 43 = .ok (.if_icmp .ge 146, 3) := by decide +kernel
theorem dX9_quarrels_46 : decode cX9_quarrels 46 = .ok (.aload_n 0, 1) := by decide +kernel
theorem dX9_quarrels_47 : decode cX9_quarrels 47 = .ok (.iload 5, 2) := by decide +kernel
theorem dX9_quarrels_49 : decode cX9_quarrels 49 = .ok (.iload_n 1, 1) := by decide +kernel
theorem dX9_quarrels_50 : decode cX9_quarrels 50 = .ok (.iload_n 2, 1) := by decide +kernel
theorem dX9_quarrels_51 : decode cX9_quarrels 51 = .ok (.invokevirtual 205, 3) := by decide +kernel
theorem dX9_quarrels_54 : decode cX9_quarrels 54 = .ok (.ifCond .ne 6, 3) := by decide +kernel
theorem dX9_quarrels_57 : decode cX9_quarrels 57 = .ok (.goto 126, 3) := by decide +kernel
theorem dX9_quarrels_60 : decode cX9_quarrels 60 = .ok (.iconst 1, 1) := by decide +kernel
theorem dX9_quarrels_61 : decode cX9_quarrels 61 = .ok (.istore 6, 2) := by decide +kernel
theorem dX9_quarrels_63 : decode cX9_quarrels 63 = .ok (.iconst 0, 1) := by decide +kernel
theorem dX9_quarrels_64 : decode cX9_quarrels 64 = .ok (.istore 7, 2) := by decide +kernel
theorem dX9_quarrels_66 : decode cX9_quarrels 66 = .ok (.iconst 0, 1) := by decide +kernel
theorem dX9_quarrels_67 : decode cX9_quarrels 67 = .ok (.istore 8, 2) := by decide +kernel
theorem dX9_quarrels_69 : decode cX9_quarrels 69 = .ok (.iload 8, 2) := by decide +kernel
theorem dX9_quarrels_71 : decode cX9_quarrels 71 = .ok (.aload_n 0, 1) := by decide +kernel
theorem dX9_quarrels_72 : decode cX9_quarrels 72 = .ok (.getfield 198, 3) := by decide +kernel
theorem dX9_quarrels_75 : decode cX9_quarrels 75 = .ok (.if_icmp .ge 88, 3) := by decide +kernel
theorem dX9_quarrels_78 : decode cX9_quarrels 78 = .ok (.aload_n 0, 1) := by decide +kernel
theorem dX9_quarrels_79 : decode cX9_quarrels 79 = .ok (.iload 8, 2) := by decide +kernel
theorem dX9_quarrels_81 : decode cX9_quarrels 81 = .ok (.iload_n 1, 1) := by decide +kernel
theorem dX9_quarrels_82 : decode cX9_quarrels 82 = .ok (.iload_n 2, 1) := by decide +kernel
theorem dX9_quarrels_83 : decode cX9_quarrels 83 = .ok (.invokevirtual 205, 3) := by decide +kernel
theorem dX9_quarrels_86 : decode cX9_quarrels 86 = .ok (.ifCond .eq 71, 3) := by decide +kernel
theorem dX9_quarrels_89 : decode cX9_quarrels 89 = .ok (.aload_n 0, 1) := by decide +kernel
theorem dX9_quarrels_90 : decode cX9_quarrels 90 = .ok (.getfield 65, 3) := by decide +kernel
theorem dX9_quarrels_93 : decode cX9_quarrels 93 = .ok (.iload 8, 2) := by decide +kernel
theorem dX9_quarrels_95 : decode cX9_quarrels 95 = .ok (.iaload, 1) := by decide +kernel
theorem dX9_quarrels_96 : decode cX9_quarrels 96 = .ok (.aload_n 0, 1) := by decide +kernel
theorem dX9_quarrels_97 : decode cX9_quarrels 97 = .ok (.getfield 65, 3) := by decide +kernel
theorem dX9_quarrels_100 : decode cX9_quarrels 100 = .ok (.iload 5, 2) := by decide +kernel
theorem dX9_quarrels_102 : decode cX9_quarrels 102 = .ok (.iaload, 1) := by decide +kernel
theorem dX9_quarrels_103 : decode cX9_quarrels 103 = .ok (.if_icmp .eq 6, 3) := by decide +kernel
theorem dX9_quarrels_106 : decode cX9_quarrels 106 = .ok (.goto 51, 3) := by decide +kernel
theorem dX9_quarrels_109 : decode cX9_quarrels 109 = .ok (.iload 6, 2) := by decide +kernel
theorem dX9_quarrels_111 : decode cX9_quarrels 111 = .ok (.ifCond .eq 14, 3) := by decide +kernel
theorem dX9_quarrels_114 : decode cX9_quarrels 114 = .ok (.iload 8, 2) := by decide +kernel
theorem dX9_quarrels_116 : decode cX9_quarrels 116 = .ok (.iload 5, 2) := by decide +kernel
theorem dX9_quarrels_118 : decode cX9_quarrels 118 = .ok (.if_icmp .lt 7, 3) := by decide +kernel
theorem dX9_quarrels_121 : decode cX9_quarrels 121 = .ok (.iconst 1, 1) := by decide +kernel
theorem dX9_quarrels_122 : decode cX9_quarrels 122 = .ok (.goto 4, 3) := by decide +kernel
theorem dX9_quarrels_125 : decode cX9_quarrels 125 = .ok (.iconst 0, 1) := by decide +kernel
theorem dX9_quarrels_126 : decode cX9_quarrels 126 = .ok (.istore 6, 2) := by decide +kernel
theorem dX9_quarrels_128 : decode cX9_quarrels 128 = .ok (.iload 7, 2) := by decide +kernel
theorem dX9_quarrels_130 : decode cX9_quarrels 130 = .ok (.ifCond .ne 20, 3) := by decide +kernel
theorem dX9_quarrels_133 : decode cX9_quarrels 133 = .ok (.aload_n 0, 1) := by decide +kernel
theorem dX9_quarrels_134 : decode cX9_quarrels 134 = .ok (.getfield 62, 3) := by decide +kernel
theorem dX9_quarrels_137 : decode cX9_quarrels 137 = .ok (.iload 8, 2) := by decide +kernel
theorem dX9_quarrels_139 : decode cX9_quarrels 139 = .ok (.iaload, 1) := by decide +kernel
theorem dX9_quarrels_140 : decode cX9_quarrels 140 = .ok (.aload_n 0, 1) := by decide +kernel
theorem dX9_quarrels_141 : decode cX9_quarrels 141 = .ok (.getfield 62, 3) := by decide +kernel
theorem dX9_quarrels_144 : decode cX9_quarrels 144 = .ok (.iload 5, 2) := by decide +kernel
theorem dX9_quarrels_146 : decode cX9_quarrels 146 = .ok (.iaload, 1) := by decide +kernel
theorem dX9_quarrels_147 : decode cX9_quarrels 147 = .ok (.if_icmp .eq 7, 3) := by decide +kernel
theorem dX9_quarrels_150 : decode cX9_quarrels 150 = .ok (.iconst 1, 1) := by decide +kernel
theorem dX9_quarrels_151 : decode cX9_quarrels 151 = .ok (.goto 4, 3) := by decide +kernel
theorem dX9_quarrels_154 : decode cX9_quarrels 154 = .ok (.iconst 0, 1) := by decide +kernel
theorem dX9_quarrels_155 : decode cX9_quarrels 155 = .ok (.istore 7, 2) := by decide +kernel
theorem dX9_quarrels_157 : decode cX9_quarrels 157 = .ok (.iinc 8 1, 3) := by decide +kernel
theorem dX9_quarrels_160 : decode cX9_quarrels 160 = .ok (.goto (-91), 3) := by decide +kernel
theorem dX9_quarrels_163 : decode cX9_quarrels 163 = .ok (.iload 4, 2) := by decide +kernel
theorem dX9_quarrels_165 : decode cX9_quarrels 165 = .ok (.iload 6, 2) := by decide +kernel
theorem dX9_quarrels_167 : decode cX9_quarrels 167 = .ok (.ifCond .eq 12, 3) := by decide +kernel
theorem dX9_quarrels_170 : decode cX9_quarrels 170 = .ok (.iload 7, 2) := by decide +kernel
theorem dX9_quarrels_172 : decode cX9_quarrels 172 = .ok (.ifCond .eq 7, 3) := by decide +kernel
theorem dX9_quarrels_175 : decode cX9_quarrels 175 = .ok (.iconst 1, 1) := by decide +kernel
theorem dX9_quarrels_176 : decode cX9_quarrels 176 = .ok (.goto 4, 3) := by decide +kernel
theorem dX9_quarrels_179 : decode cX9_quarrels 179 = .ok (.iconst 0, 1) := by decide +kernel
theorem dX9_quarrels_180 : decode cX9_quarrels 180 = .ok (.iadd, 1) := by decide +kernel
theorem dX9_quarrels_181 : decode cX9_quarrels 181 = .ok (.istore 4, 2) := by decide +kernel
theorem dX9_quarrels_183 : decode cX9_quarrels 183 = .ok (.iinc 5 1, 3) := by decide +kernel
theorem dX9_quarrels_186 : decode cX9_quarrels 186 = .ok (.goto (-149), 3) := by decide +kernel
theorem dX9_quarrels_189 : decode cX9_quarrels 189 = .ok (.iload 4, 2) := by decide +kernel
theorem dX9_quarrels_191 : decode cX9_quarrels 191 = .ok (.ireturn, 1) := by decide +kernel
theorem dX9_goes_0 : decode cX9_goes 0 = .ok (.iconst 0, 1) := by decide +kernel
theorem dX9_goes_1 : decode cX9_goes 1 = .ok (.istore 4, 2) := by decide +kernel
theorem dX9_goes_3 : decode cX9_goes 3 = .ok (.iconst 0, 1) := by decide +kernel
theorem dX9_goes_4 : decode cX9_goes 4 = .ok (.istore 5, 2) := by decide +kernel
theorem dX9_goes_6 : decode cX9_goes 6 = .ok (.iload 5, 2) := by decide +kernel
theorem dX9_goes_8 : decode cX9_goes 8 = .ok (.aload_n 0, 1) := by decide +kernel
theorem dX9_goes_9 : decode cX9_goes 9 = .ok (.getfield 202, 3) := by decide +kernel
theorem dX9_goes_12 : decode cX9_goes 12 = .ok (.if_icmp .ge 101, 3) := by decide +kernel
theorem dX9_goes_15 : decode cX9_goes 15 = .ok (.aload_n 0, 1) := by decide +kernel
theorem dX9_goes_16 : decode cX9_goes 16 = .ok (.iload 5, 2) := by decide +kernel
theorem dX9_goes_18 : decode cX9_goes 18 = .ok (.iload_n 1, 1) := by decide +kernel
theorem dX9_goes_19 : decode cX9_goes 19 = .ok (.iload_n 3, 1) := by decide +kernel
theorem dX9_goes_20 : decode cX9_goes 20 = .ok (.invokevirtual 208, 3) := by decide +kernel
theorem dX9_goes_23 : decode cX9_goes 23 = .ok (.ifCond .eq 84, 3) := by decide +kernel
theorem dX9_goes_26 : decode cX9_goes 26 = .ok (.aload_n 0, 1) := by decide +kernel
theorem dX9_goes_27 : decode cX9_goes 27 = .ok (.getfield 80, 3) := by decide +kernel
theorem dX9_goes_30 : decode cX9_goes 30 = .ok (.iload 5, 2) := by decide +kernel
theorem dX9_goes_32 : decode cX9_goes 32 = .ok (.iaload, 1) := by decide +kernel
theorem dX9_goes_33 : decode cX9_goes 33 = .ok (.iload_n 2, 1) := by decide +kernel
theorem dX9_goes_34 : decode cX9_goes 34 = .ok (.if_icmp .le 6, 3) := by decide +kernel
theorem dX9_goes_37 : decode cX9_goes 37 = .ok (.goto 70, 3) := by decide +kernel
theorem dX9_goes_40 : decode cX9_goes 40 = .ok (.iload 4, 2) := by decide +kernel
theorem dX9_goes_42 : decode cX9_goes 42 = .ok (.istore 6, 2) := by decide +kernel
theorem dX9_goes_44 : decode cX9_goes 44 = .ok (.iload 6, 2) := by decide +kernel
theorem dX9_goes_46 : decode cX9_goes 46 = .ok (.ifCond .le 49, 3) := by decide +kernel
theorem dX9_goes_49 : decode cX9_goes 49 = .ok (.aload_n 0, 1) := by decide +kernel
theorem dX9_goes_50 : decode cX9_goes 50 = .ok (.getfield 80, 3) := by decide +kernel
theorem dX9_goes_53 : decode cX9_goes 53 = .ok (.aload_n 0, 1) := by decide +kernel
theorem dX9_goes_54 : decode cX9_goes 54 = .ok (.getfield 92, 3) := by decide +kernel
theorem dX9_goes_57 : decode cX9_goes 57 = .ok (.iload 6, 2) := by decide +kernel
theorem dX9_goes_59 : decode cX9_goes 59 = .ok (.iconst 1, 1) := by decide +kernel
theorem dX9_goes_60 : decode cX9_goes 60 = .ok (.isub, 1) := by decide +kernel
theorem dX9_goes_61 : decode cX9_goes 61 = .ok (.iaload, 1) := by decide +kernel
theorem dX9_goes_62 : decode cX9_goes 62 = .ok (.iaload, 1) := by decide +kernel
theorem dX9_goes_63 : decode cX9_goes 63 = .ok (.aload_n 0, 1) := by decide +kernel
theorem dX9_goes_64 : decode cX9_goes 64 = .ok (.getfield 80, 3) := by decide +kernel
theorem dX9_goes_67 : decode cX9_goes 67 = .ok (.iload 5, 2) := by decide +kernel
theorem dX9_goes_69 : decode cX9_goes 69 = .ok (.iaload, 1) := by decide +kernel
theorem dX9_goes_70 : decode cX9_goes 70 = .ok (.if_icmp .le 25, 3) := by decide +kernel
theorem dX9_goes_73 : decode cX9_goes 73 = .ok (.aload_n 0, 1) := by decide +kernel
theorem dX9_goes_74 : decode cX9_goes 74 = .ok (.getfield 92, 3) := by decide +kernel
theorem dX9_goes_77 : decode cX9_goes 77 = .ok (.iload 6, 2) := by decide +kernel
theorem dX9_goes_79 : decode cX9_goes 79 = .ok (.aload_n 0, 1) := by decide +kernel
theorem dX9_goes_80 : decode cX9_goes 80 = .ok (.getfield 92, 3) := by decide +kernel
theorem dX9_goes_83 : decode cX9_goes 83 = .ok (.iload 6, 2) := by decide +kernel
theorem dX9_goes_85 : decode cX9_goes 85 = .ok (.iconst 1, 1) := by decide +kernel
theorem dX9_goes_86 : decode cX9_goes 86 = .ok (.isub, 1) := by decide +kernel
theorem dX9_goes_87 : decode cX9_goes 87 = .ok (.iaload, 1) := by decide +kernel
theorem dX9_goes_88 : decode cX9_goes 88 = .ok (.iastore, 1) := by decide +kernel
theorem dX9_goes_89 : decode cX9_goes 89 = .ok (.iinc 6 (-1), 3) := by decide +kernel
theorem dX9_goes_92 : decode cX9_goes 92 = .ok (.goto (-48), 3) := by decide +kernel
theorem dX9_goes_95 : decode cX9_goes 95 = .ok (.aload_n 0, 1) := by decide +kernel
theorem dX9_goes_96 : decode cX9_goes 96 = .ok (.getfield 92, 3) := by decide +kernel
theorem dX9_goes_99 : decode cX9_goes 99 = .ok (.iload 6, 2) := by decide +kernel
theorem dX9_goes_101 : decode cX9_goes 101 = .ok (.iload 5, 2) := by decide +kernel
theorem dX9_goes_103 : decode cX9_goes 103 = .ok (.iastore, 1) := by decide +kernel
theorem dX9_goes_104 : decode cX9_goes 104 = .ok (.iinc 4 1, 3) := by decide +kernel
theorem dX9_goes_107 : decode cX9_goes 107 = .ok (.iinc 5 1, 3) := by decide +kernel
theorem dX9_goes_110 : decode cX9_goes 110 = .ok (.goto (-104), 3) := by decide +kernel
theorem dX9_goes_113 : decode cX9_goes 113 = .ok (.aload_n 0, 1) := by decide +kernel
theorem dX9_goes_114 : decode cX9_goes 114 = .ok (.bipush (-9), 2) := by decide +kernel
theorem dX9_goes_116 : decode cX9_goes 116 = .ok (.putfield 211, 3) := by decide +kernel
theorem dX9_goes_119 : decode cX9_goes 119 = .ok (.aload_n 0, 1) := by decide +kernel
theorem dX9_goes_120 : decode cX9_goes 120 = .ok (.bipush (-9), 2) := by decide +kernel
theorem dX9_goes_122 : decode cX9_goes 122 = .ok (.putfield 214, 3) := by decide +kernel
theorem dX9_goes_125 : decode cX9_goes 125 = .ok (.aload_n 0, 1) := by decide +kernel
theorem dX9_goes_126 : decode cX9_goes 126 = .ok (.iconst 0, 1) := by decide +kernel
theorem dX9_goes_127 : decode cX9_goes 127 = .ok (.putfield 217, 3) := by decide +kernel
theorem dX9_goes_130 : decode cX9_goes 130 = .ok (.iconst 0, 1) := by decide +kernel
theorem dX9_goes_131 : decode cX9_goes 131 = .ok (.istore 5, 2) := by decide +kernel
theorem dX9_goes_133 : decode cX9_goes 133 = .ok (.iconst 0, 1) := by decide +kernel
theorem dX9_goes_134 : decode cX9_goes 134 = .ok (.istore 6, 2) := by decide +kernel
theorem dX9_goes_136 : decode cX9_goes 136 = .ok (.iload 6, 2) := by decide +kernel
theorem dX9_goes_138 : decode cX9_goes 138 = .ok (.iload 4, 2) := by decide +kernel
theorem dX9_goes_140 : decode cX9_goes 140 = .ok (.if_icmp .ge 138, 3) := by decide +kernel
theorem dX9_goes_143 : decode cX9_goes 143 = .ok (.aload_n 0, 1) := by decide +kernel
theorem dX9_goes_144 : decode cX9_goes 144 = .ok (.getfield 83, 3) := by decide +kernel
theorem dX9_goes_147 : decode cX9_goes 147 = .ok (.aload_n 0, 1) := by decide +kernel
theorem dX9_goes_148 : decode cX9_goes 148 = .ok (.getfield 92, 3) := by decide +kernel
theorem dX9_goes_151 : decode cX9_goes 151 = .ok (.iload 6, 2) := by decide +kernel
theorem dX9_goes_153 : decode cX9_goes 153 = .ok (.iaload, 1) := by decide +kernel
theorem dX9_goes_154 : decode cX9_goes 154 = .ok (.iaload, 1) := by decide +kernel
theorem dX9_goes_155 : decode cX9_goes 155 = .ok (.istore 7, 2) := by decide +kernel
theorem dX9_goes_157 : decode cX9_goes 157 = .ok (.aload_n 0, 1) := by decide +kernel
theorem dX9_goes_158 : decode cX9_goes 158 = .ok (.getfield 77, 3) := by decide +kernel
theorem dX9_goes_161 : decode cX9_goes 161 = .ok (.aload_n 0, 1) := by decide +kernel
theorem dX9_goes_162 : decode cX9_goes 162 = .ok (.getfield 92, 3) := by decide +kernel
theorem dX9_goes_165 : decode cX9_goes 165 = .ok (.iload 6, 2) := by decide +kernel
theorem dX9_goes_167 : decode cX9_goes 167 = .ok (.iaload, 1) := by decide +kernel
theorem dX9_goes_168 : decode cX9_goes 168 = .ok (.iaload, 1) := by decide +kernel
theorem dX9_goes_169 : decode cX9_goes 169 = .ok (.istore 8, 2) := by decide +kernel
theorem dX9_goes_171 : decode cX9_goes 171 = .ok (.iload 7, 2) := by decide +kernel
theorem dX9_goes_173 : decode cX9_goes 173 = .ok (.iconst 3, 1) := by decide +kernel
theorem dX9_goes_174 : decode cX9_goes 174 = .ok (.if_icmp .ne 26, 3) := by decide +kernel
theorem dX9_goes_177 : decode cX9_goes 177 = .ok (.aload_n 0, 1) := by decide +kernel
theorem dX9_goes_178 : decode cX9_goes 178 = .ok (.getfield 95, 3) := by decide +kernel
theorem dX9_goes_181 : decode cX9_goes 181 = .ok (.iload 5, 2) := by decide +kernel
theorem dX9_goes_183 : decode cX9_goes 183 = .ok (.aload_n 0, 1) := by decide +kernel
theorem dX9_goes_184 : decode cX9_goes 184 = .ok (.getfield 211, 3) := by decide +kernel
theorem dX9_goes_187 : decode cX9_goes 187 = .ok (.iastore, 1) := by decide +kernel
theorem dX9_goes_188 : decode cX9_goes 188 = .ok (.iinc 5 1, 3) := by decide +kernel
theorem dX9_goes_191 : decode cX9_goes 191 = .ok (.aload_n 0, 1) := by decide +kernel
theorem dX9_goes_192 : decode cX9_goes 192 = .ok (.iload 8, 2) := by decide +kernel
theorem dX9_goes_194 : decode cX9_goes 194 = .ok (.putfield 211, 3) := by decide +kernel
theorem dX9_goes_197 : decode cX9_goes 197 = .ok (.goto 75, 3) := by decide +kernel
theorem dX9_goes_200 : decode cX9_goes 200 = .ok (.iload 7, 2) := by decide +kernel
theorem dX9_goes_202 : decode cX9_goes 202 = .ok (.iconst 4, 1) := by decide +kernel
theorem dX9_goes_203 : decode cX9_goes 203 = .ok (.if_icmp .ne 28, 3) := by decide +kernel
theorem dX9_goes_206 : decode cX9_goes 206 = .ok (.iload 5, 2) := by decide +kernel
theorem dX9_goes_208 : decode cX9_goes 208 = .ok (.ifCond .ne 6, 3) := by decide +kernel
theorem dX9_goes_211 : decode cX9_goes 211 = .ok (.goto 61, 3) := by decide +kernel
theorem dX9_goes_214 : decode cX9_goes 214 = .ok (.iinc 5 (-1), 3) := by decide +kernel
theorem dX9_goes_217 : decode cX9_goes 217 = .ok (.aload_n 0, 1) := by decide +kernel
theorem dX9_goes_218 : decode cX9_goes 218 = .ok (.aload_n 0, 1) := by decide +kernel
theorem dX9_goes_219 : decode cX9_goes 219 = .ok (.getfield 95, 3) := by decide +kernel
theorem dX9_goes_222 : decode cX9_goes 222 = .ok (.iload 5, 2) := by decide +kernel
theorem dX9_goes_224 : decode cX9_goes 224 = .ok (.iaload, 1) := by decide +kernel
theorem dX9_goes_225 : decode cX9_goes 225 = .ok (.putfield 211, 3) := by decide +kernel
theorem dX9_goes_228 : decode cX9_goes 228 = .ok (.goto 44, 3) := by decide +kernel
theorem dX9_goes_231 : decode cX9_goes 231 = .ok (.aload_n 0, 1) := by decide +kernel
theorem dX9_goes_232 : decode cX9_goes 232 = .ok (.iload 8, 2) := by decide +kernel
theorem dX9_goes_234 : decode cX9_goes 234 = .ok (.putfield 211, 3) := by decide +kernel
theorem dX9_goes_237 : decode cX9_goes 237 = .ok (.iconst 0, 1) := by decide +kernel
theorem dX9_goes_238 : decode cX9_goes 238 = .ok (.istore 5, 2) := by decide +kernel
theorem dX9_goes_240 : decode cX9_goes 240 = .ok (.aload_n 0, 1) := by decide +kernel
theorem dX9_goes_241 : decode cX9_goes 241 = .ok (.iload 7, 2) := by decide +kernel
theorem dX9_goes_243 : decode cX9_goes 243 = .ok (.iconst 2, 1) := by decide +kernel
theorem dX9_goes_244 : decode cX9_goes 244 = .ok (.if_icmp .ne 8, 3) := by decide +kernel
theorem dX9_goes_247 : decode cX9_goes 247 = .ok (.bipush (-9), 2) := by decide +kernel
theorem dX9_goes_249 : decode cX9_goes 249 = .ok (.goto 5, 3) := by decide +kernel
theorem dX9_goes_252 : decode cX9_goes 252 = .ok (.iload 8, 2) := by decide +kernel
theorem dX9_goes_254 : decode cX9_goes 254 = .ok (.putfield 214, 3) := by decide +kernel
theorem dX9_goes_257 : decode cX9_goes 257 = .ok (.aload_n 0, 1) := by decide +kernel
theorem dX9_goes_258 : decode cX9_goes 258 = .ok (.iload 7, 2) := by decide +kernel
theorem dX9_goes_260 : decode cX9_goes 260 = .ok (.iconst 2, 1) := by decide +kernel
theorem dX9_goes_261 : decode cX9_goes 261 = .ok (.if_icmp .ne 7, 3) := by decide +kernel
theorem dX9_goes_264 : decode cX9_goes 264 = .ok (.iconst 1, 1) := by decide +kernel
theorem dX9_goes_265 : decode cX9_goes 265 = .ok (.goto 4, 3) := by decide +kernel
theorem dX9_goes_268 : decode cX9_goes 268 = .ok (.iconst 0, 1) := by decide +kernel
theorem dX9_goes_269 : decode cX9_goes 269 = .ok (.putfield 217, 3) := by decide +kernel
theorem dX9_goes_272 : decode cX9_goes 272 = .ok (.iinc 6 1, 3) := by decide +kernel
theorem dX9_goes_275 : decode cX9_goes 275 = .ok (.goto (-139), 3) := by decide +kernel
theorem dX9_goes_278 : decode cX9_goes 278 = .ok (.return_, 1) := by decide +kernel
theorem dX9_holds_0 : decode cX9_holds 0 = .ok (.iload_n 1, 1) := by decide +kernel
theorem dX9_holds_1 : decode cX9_holds 1 = .ok (.bipush 12, 2) := by decide +kernel
theorem dX9_holds_3 : decode cX9_holds 3 = .ok (.invokestatic 126, 3) := by decide +kernel
theorem dX9_holds_6 : decode cX9_holds 6 = .ok (.ifCond .ne 7, 3) := by decide +kernel
theorem dX9_holds_9 : decode cX9_holds 9 = .ok (.iconst (-1), 1) := by decide +kernel
theorem dX9_holds_10 : decode cX9_holds 10 = .ok (.goto 22, 3) := by decide +kernel
theorem dX9_holds_13 : decode cX9_holds 13 = .ok (.iload 4, 2) := by decide +kernel
theorem dX9_holds_15 : decode cX9_holds 15 = .ok (.iconst 3, 1) := by decide +kernel
theorem dX9_holds_16 : decode cX9_holds 16 = .ok (.invokestatic 126, 3) := by decide +kernel
theorem dX9_holds_19 : decode cX9_holds 19 = .ok (.ifCond .ne 8, 3) := by decide +kernel
theorem dX9_holds_22 : decode cX9_holds 22 = .ok (.bipush (-2), 2) := by decide +kernel
theorem dX9_holds_24 : decode cX9_holds 24 = .ok (.goto 8, 3) := by decide +kernel
theorem dX9_holds_27 : decode cX9_holds 27 = .ok (.iload_n 2, 1) := by decide +kernel
theorem dX9_holds_28 : decode cX9_holds 28 = .ok (.iload_n 3, 1) := by decide +kernel
theorem dX9_holds_29 : decode cX9_holds 29 = .ok (.invokestatic 195, 3) := by decide +kernel
theorem dX9_holds_32 : decode cX9_holds 32 = .ok (.istore 5, 2) := by decide +kernel
theorem dX9_holds_34 : decode cX9_holds 34 = .ok (.iload 5, 2) := by decide +kernel
theorem dX9_holds_36 : decode cX9_holds 36 = .ok (.ifCond .eq 10, 3) := by decide +kernel
theorem dX9_holds_39 : decode cX9_holds 39 = .ok (.aload_n 0, 1) := by decide +kernel
theorem dX9_holds_40 : decode cX9_holds 40 = .ok (.iload 5, 2) := by decide +kernel
theorem dX9_holds_42 : decode cX9_holds 42 = .ok (.invokevirtual 130, 3) := by decide +kernel
theorem dX9_holds_45 : decode cX9_holds 45 = .ok (.ireturn, 1) := by decide +kernel
theorem dX9_holds_46 : decode cX9_holds 46 = .ok (.aload_n 0, 1) := by decide +kernel
theorem dX9_holds_47 : decode cX9_holds 47 = .ok (.iload_n 1, 1) := by decide +kernel
theorem dX9_holds_48 : decode cX9_holds 48 = .ok (.iload_n 2, 1) := by decide +kernel
theorem dX9_holds_49 : decode cX9_holds 49 = .ok (.iload_n 3, 1) := by decide +kernel
theorem dX9_holds_50 : decode cX9_holds 50 = .ok (.invokevirtual 220, 3) := by decide +kernel
theorem dX9_holds_53 : decode cX9_holds 53 = .ok (.iload 4, 2) := by decide +kernel
theorem dX9_holds_55 : decode cX9_holds 55 = .ok (.ifCond .ne 10, 3) := by decide +kernel
theorem dX9_holds_58 : decode cX9_holds 58 = .ok (.aload_n 0, 1) := by decide +kernel
theorem dX9_holds_59 : decode cX9_holds 59 = .ok (.getfield 211, 3) := by decide +kernel
theorem dX9_holds_62 : decode cX9_holds 62 = .ok (.goto 20, 3) := by decide +kernel
theorem dX9_holds_65 : decode cX9_holds 65 = .ok (.iload 4, 2) := by decide +kernel
theorem dX9_holds_67 : decode cX9_holds 67 = .ok (.iconst 1, 1) := by decide +kernel
theorem dX9_holds_68 : decode cX9_holds 68 = .ok (.if_icmp .ne 10, 3) := by decide +kernel
theorem dX9_holds_71 : decode cX9_holds 71 = .ok (.aload_n 0, 1) := by decide +kernel
theorem dX9_holds_72 : decode cX9_holds 72 = .ok (.getfield 214, 3) := by decide +kernel
theorem dX9_holds_75 : decode cX9_holds 75 = .ok (.goto 7, 3) := by decide +kernel
theorem dX9_holds_78 : decode cX9_holds 78 = .ok (.aload_n 0, 1) := by decide +kernel
theorem dX9_holds_79 : decode cX9_holds 79 = .ok (.getfield 217, 3) := by decide +kernel
theorem dX9_holds_82 : decode cX9_holds 82 = .ok (.ireturn, 1) := by decide +kernel
theorem dX9_since_0 : decode cX9_since 0 = .ok (.iload_n 1, 1) := by decide +kernel
theorem dX9_since_1 : decode cX9_since 1 = .ok (.bipush 12, 2) := by decide +kernel
theorem dX9_since_3 : decode cX9_since 3 = .ok (.invokestatic 126, 3) := by decide +kernel
theorem dX9_since_6 : decode cX9_since 6 = .ok (.ifCond .eq 11, 3) := by decide +kernel
theorem dX9_since_9 : decode cX9_since 9 = .ok (.iload_n 2, 1) := by decide +kernel
theorem dX9_since_10 : decode cX9_since 10 = .ok (.iload_n 3, 1) := by decide +kernel
theorem dX9_since_11 : decode cX9_since 11 = .ok (.invokestatic 195, 3) := by decide +kernel
theorem dX9_since_14 : decode cX9_since 14 = .ok (.goto 4, 3) := by decide +kernel
theorem dX9_since_17 : decode cX9_since 17 = .ok (.iconst (-1), 1) := by decide +kernel
theorem dX9_since_18 : decode cX9_since 18 = .ok (.istore 4, 2) := by decide +kernel
theorem dX9_since_20 : decode cX9_since 20 = .ok (.iload 4, 2) := by decide +kernel
theorem dX9_since_22 : decode cX9_since 22 = .ok (.ifCond .eq 10, 3) := by decide +kernel
theorem dX9_since_25 : decode cX9_since 25 = .ok (.aload_n 0, 1) := by decide +kernel
theorem dX9_since_26 : decode cX9_since 26 = .ok (.iload 4, 2) := by decide +kernel
theorem dX9_since_28 : decode cX9_since 28 = .ok (.invokevirtual 130, 3) := by decide +kernel
theorem dX9_since_31 : decode cX9_since 31 = .ok (.ireturn, 1) := by decide +kernel
theorem dX9_since_32 : decode cX9_since 32 = .ok (.aload_n 0, 1) := by decide +kernel
theorem dX9_since_33 : decode cX9_since 33 = .ok (.iload_n 1, 1) := by decide +kernel
theorem dX9_since_34 : decode cX9_since 34 = .ok (.iload_n 2, 1) := by decide +kernel
theorem dX9_since_35 : decode cX9_since 35 = .ok (.iload_n 3, 1) := by decide +kernel
theorem dX9_since_36 : decode cX9_since 36 = .ok (.invokevirtual 220, 3) := by decide +kernel
theorem dX9_since_39 : decode cX9_since 39 = .ok (.aload_n 0, 1) := by decide +kernel
theorem dX9_since_40 : decode cX9_since 40 = .ok (.getfield 211, 3) := by decide +kernel
theorem dX9_since_43 : decode cX9_since 43 = .ok (.istore 5, 2) := by decide +kernel
theorem dX9_since_45 : decode cX9_since 45 = .ok (.aload_n 0, 1) := by decide +kernel
theorem dX9_since_46 : decode cX9_since 46 = .ok (.iload_n 1, 1) := by decide +kernel
theorem dX9_since_47 : decode cX9_since 47 = .ok (.iload_n 3, 1) := by decide +kernel
theorem dX9_since_48 : decode cX9_since 48 = .ok (.invokevirtual 224, 3) := by decide +kernel
theorem dX9_since_51 : decode cX9_since 51 = .ok (.istore 6, 2) := by decide +kernel
theorem dX9_since_53 : decode cX9_since 53 = .ok (.iload 6, 2) := by decide +kernel
theorem dX9_since_55 : decode cX9_since 55 = .ok (.ifCond .le 39, 3) := by decide +kernel
theorem dX9_since_58 : decode cX9_since 58 = .ok (.aload_n 0, 1) := by decide +kernel
theorem dX9_since_59 : decode cX9_since 59 = .ok (.iload_n 1, 1) := by decide +kernel
theorem dX9_since_60 : decode cX9_since 60 = .ok (.iload_n 2, 1) := by decide +kernel
theorem dX9_since_61 : decode cX9_since 61 = .ok (.iload 6, 2) := by decide +kernel
theorem dX9_since_63 : decode cX9_since 63 = .ok (.iconst 1, 1) := by decide +kernel
theorem dX9_since_64 : decode cX9_since 64 = .ok (.isub, 1) := by decide +kernel
theorem dX9_since_65 : decode cX9_since 65 = .ok (.invokevirtual 220, 3) := by decide +kernel
theorem dX9_since_68 : decode cX9_since 68 = .ok (.aload_n 0, 1) := by decide +kernel
theorem dX9_since_69 : decode cX9_since 69 = .ok (.getfield 211, 3) := by decide +kernel
theorem dX9_since_72 : decode cX9_since 72 = .ok (.iload 5, 2) := by decide +kernel
theorem dX9_since_74 : decode cX9_since 74 = .ok (.if_icmp .eq 6, 3) := by decide +kernel
theorem dX9_since_77 : decode cX9_since 77 = .ok (.iload 6, 2) := by decide +kernel
theorem dX9_since_79 : decode cX9_since 79 = .ok (.ireturn, 1) := by decide +kernel
theorem dX9_since_80 : decode cX9_since 80 = .ok (.aload_n 0, 1) := by decide +kernel
theorem dX9_since_81 : decode cX9_since 81 = .ok (.iload_n 1, 1) := by decide +kernel
theorem dX9_since_82 : decode cX9_since 82 = .ok (.iload 6, 2) := by decide +kernel
theorem dX9_since_84 : decode cX9_since 84 = .ok (.iconst 1, 1) := by decide +kernel
theorem dX9_since_85 : decode cX9_since 85 = .ok (.isub, 1) := by decide +kernel
theorem dX9_since_86 : decode cX9_since 86 = .ok (.invokevirtual 224, 3) := by decide +kernel
theorem dX9_since_89 : decode cX9_since 89 = .ok (.istore 6, 2) := by decide +kernel
theorem dX9_since_91 : decode cX9_since 91 = .ok (.goto (-38), 3) := by decide +kernel
theorem dX9_since_94 : decode cX9_since 94 = .ok (.iconst 0, 1) := by decide +kernel
theorem dX9_since_95 : decode cX9_since 95 = .ok (.ireturn, 1) := by decide +kernel
theorem dX9_changed_0 : decode cX9_changed 0 = .ok (.iconst 0, 1) := by decide +kernel
theorem dX9_changed_1 : decode cX9_changed 1 = .ok (.istore_n 3, 1) := by decide +kernel
theorem dX9_changed_2 : decode cX9_changed 2 = .ok (.iconst 0, 1) := by decide +kernel
theorem dX9_changed_3 : decode cX9_changed 3 = .ok (.istore 4, 2) := by decide +kernel
theorem dX9_changed_5 : decode cX9_changed 5 = .ok (.iload 4, 2) := by decide +kernel
theorem dX9_changed_7 : decode cX9_changed 7 = .ok (.aload_n 0, 1) := by decide +kernel
theorem dX9_changed_8 : decode cX9_changed 8 = .ok (.getfield 202, 3) := by decide +kernel
theorem dX9_changed_11 : decode cX9_changed 11 = .ok (.if_icmp .ge 69, 3) := by decide +kernel
theorem dX9_changed_14 : decode cX9_changed 14 = .ok (.aload_n 0, 1) := by decide +kernel
theorem dX9_changed_15 : decode cX9_changed 15 = .ok (.getfield 74, 3) := by decide +kernel
theorem dX9_changed_18 : decode cX9_changed 18 = .ok (.iload 4, 2) := by decide +kernel
theorem dX9_changed_20 : decode cX9_changed 20 = .ok (.iaload, 1) := by decide +kernel
theorem dX9_changed_21 : decode cX9_changed 21 = .ok (.iload_n 1, 1) := by decide +kernel
theorem dX9_changed_22 : decode cX9_changed 22 = .ok (.if_icmp .eq 6, 3) := by decide +kernel
theorem dX9_changed_25 : decode cX9_changed 25 = .ok (.goto 49, 3) := by decide +kernel
theorem dX9_changed_28 : decode cX9_changed 28 = .ok (.aload_n 0, 1) := by decide +kernel
theorem dX9_changed_29 : decode cX9_changed 29 = .ok (.getfield 86, 3) := by decide +kernel
theorem dX9_changed_32 : decode cX9_changed 32 = .ok (.iload 4, 2) := by decide +kernel
theorem dX9_changed_34 : decode cX9_changed 34 = .ok (.iaload, 1) := by decide +kernel
theorem dX9_changed_35 : decode cX9_changed 35 = .ok (.iload_n 2, 1) := by decide +kernel
theorem dX9_changed_36 : decode cX9_changed 36 = .ok (.if_icmp .gt 15, 3) := by decide +kernel
theorem dX9_changed_39 : decode cX9_changed 39 = .ok (.iload_n 3, 1) := by decide +kernel
theorem dX9_changed_40 : decode cX9_changed 40 = .ok (.aload_n 0, 1) := by decide +kernel
theorem dX9_changed_41 : decode cX9_changed 41 = .ok (.getfield 86, 3) := by decide +kernel
theorem dX9_changed_44 : decode cX9_changed 44 = .ok (.iload 4, 2) := by decide +kernel
theorem dX9_changed_46 : decode cX9_changed 46 = .ok (.iaload, 1) := by decide +kernel
theorem dX9_changed_47 : decode cX9_changed 47 = .ok (.invokestatic 162, 3) := by decide +kernel
theorem dX9_changed_50 : decode cX9_changed 50 = .ok (.istore_n 3, 1) := by decide +kernel
theorem dX9_changed_51 : decode cX9_changed 51 = .ok (.aload_n 0, 1) := by decide +kernel
theorem dX9_changed_52 : decode cX9_changed 52 = .ok (.getfield 89, 3) := by decide +kernel
theorem dX9_changed_55 : decode cX9_changed 55 = .ok (.iload 4, 2) := by decide +kernel
theorem dX9_changed_57 : decode cX9_changed 57 = .ok (.iaload, 1) := by decide +kernel
theorem dX9_changed_58 : decode cX9_changed 58 = .ok (.iload_n 2, 1) := by decide +kernel
theorem dX9_changed_59 : decode cX9_changed 59 = .ok (.if_icmp .gt 15, 3) := by decide +kernel
theorem dX9_changed_62 : decode cX9_changed 62 = .ok (.iload_n 3, 1) := by decide +kernel
theorem dX9_changed_63 : decode cX9_changed 63 = .ok (.aload_n 0, 1) := by decide +kernel
theorem dX9_changed_64 : decode cX9_changed 64 = .ok (.getfield 89, 3) := by decide +kernel
theorem dX9_changed_67 : decode cX9_changed 67 = .ok (.iload 4, 2) := by decide +kernel
theorem dX9_changed_69 : decode cX9_changed 69 = .ok (.iaload, 1) := by decide +kernel
theorem dX9_changed_70 : decode cX9_changed 70 = .ok (.invokestatic 162, 3) := by decide +kernel
theorem dX9_changed_73 : decode cX9_changed 73 = .ok (.istore_n 3, 1) := by decide +kernel
theorem dX9_changed_74 : decode cX9_changed 74 = .ok (.iinc 4 1, 3) := by decide +kernel
theorem dX9_changed_77 : decode cX9_changed 77 = .ok (.goto (-72), 3) := by decide +kernel
theorem dX9_changed_80 : decode cX9_changed 80 = .ok (.iload_n 3, 1) := by decide +kernel
theorem dX9_changed_81 : decode cX9_changed 81 = .ok (.ireturn, 1) := by decide +kernel
theorem dX9_visitor_0 : decode cX9_visitor 0 = .ok (.iload_n 1, 1) := by decide +kernel
theorem dX9_visitor_1 : decode cX9_visitor 1 = .ok (.iconst 4, 1) := by decide +kernel
theorem dX9_visitor_2 : decode cX9_visitor 2 = .ok (.invokestatic 126, 3) := by decide +kernel
theorem dX9_visitor_5 : decode cX9_visitor 5 = .ok (.ifCond .ne 10, 3) := by decide +kernel
theorem dX9_visitor_8 : decode cX9_visitor 8 = .ok (.aload_n 0, 1) := by decide +kernel
theorem dX9_visitor_9 : decode cX9_visitor 9 = .ok (.bipush (-2), 2) := by decide +kernel
theorem dX9_visitor_11 : decode cX9_visitor 11 = .ok (.invokevirtual 130, 3) := by decide +kernel
theorem dX9_visitor_14 : decode cX9_visitor 14 = .ok (.ireturn, 1) := by decide +kernel
theorem dX9_visitor_15 : decode cX9_visitor 15 = .ok (.iload_n 2, 1) := by decide +kernel
theorem dX9_visitor_16 : decode cX9_visitor 16 = .ok (.bipush 12, 2) := by decide +kernel
theorem dX9_visitor_18 : decode cX9_visitor 18 = .ok (.invokestatic 126, 3) := by decide +kernel
theorem dX9_visitor_21 : decode cX9_visitor 21 = .ok (.ifCond .eq 22, 3) := by decide +kernel
theorem dX9_visitor_24 : decode cX9_visitor 24 = .ok (.iload_n 1, 1) := by decide +kernel
theorem dX9_visitor_25 : decode cX9_visitor 25 = .ok (.iconst 2, 1) := by decide +kernel
theorem dX9_visitor_26 : decode cX9_visitor 26 = .ok (.if_icmp .ge 23, 3) := by decide +kernel
theorem dX9_visitor_29 : decode cX9_visitor 29 = .ok (.iload_n 3, 1) := by decide +kernel
theorem dX9_visitor_30 : decode cX9_visitor 30 = .ok (.bipush 12, 2) := by decide +kernel
theorem dX9_visitor_32 : decode cX9_visitor 32 = .ok (.invokestatic 126, 3) := by decide +kernel
theorem dX9_visitor_35 : decode cX9_visitor 35 = .ok (.ifCond .eq 8, 3) := by decide +kernel
theorem dX9_visitor_38 : decode cX9_visitor 38 = .ok (.iload_n 2, 1) := by decide +kernel
theorem dX9_visitor_39 : decode cX9_visitor 39 = .ok (.iload_n 3, 1) := by decide +kernel
theorem dX9_visitor_40 : decode cX9_visitor 40 = .ok (.if_icmp .ne 9, 3) := by decide +kernel
theorem dX9_visitor_43 : decode cX9_visitor 43 = .ok (.aload_n 0, 1) := by decide +kernel
theorem dX9_visitor_44 : decode cX9_visitor 44 = .ok (.iconst (-1), 1) := by decide +kernel
theorem dX9_visitor_45 : decode cX9_visitor 45 = .ok (.invokevirtual 130, 3) := by decide +kernel
theorem dX9_visitor_48 : decode cX9_visitor 48 = .ok (.ireturn, 1) := by decide +kernel
theorem dX9_visitor_49 : decode cX9_visitor 49 = .ok (.iload 4, 2) := by decide +kernel
theorem dX9_visitor_51 : decode cX9_visitor 51 = .ok (.iconst 1, 1) := by decide +kernel
theorem dX9_visitor_52 : decode cX9_visitor 52 = .ok (.if_icmp .ge 10, 3) := by decide +kernel
theorem dX9_visitor_55 : decode cX9_visitor 55 = .ok (.aload_n 0, 1) := by decide +kernel
theorem dX9_visitor_56 : decode cX9_visitor 56 = .ok (.bipush (-4), 2) := by decide +kernel
theorem dX9_visitor_58 : decode cX9_visitor 58 = .ok (.invokevirtual 130, 3) := by decide +kernel
theorem dX9_visitor_61 : decode cX9_visitor 61 = .ok (.ireturn, 1) := by decide +kernel
theorem dX9_visitor_62 : decode cX9_visitor 62 = .ok (.iload 4, 2) := by decide +kernel
theorem dX9_visitor_64 : decode cX9_visitor 64 = .ok (.bipush 9, 2) := by decide +kernel
theorem dX9_visitor_66 : decode cX9_visitor 66 = .ok (.if_icmp .gt 12, 3) := by decide +kernel
theorem dX9_visitor_69 : decode cX9_visitor 69 = .ok (.aload_n 0, 1) := by decide +kernel
theorem dX9_visitor_70 : decode cX9_visitor 70 = .ok (.getfield 227, 3) := by decide +kernel
theorem dX9_visitor_73 : decode cX9_visitor 73 = .ok (.bipush 40, 2) := by decide +kernel
theorem dX9_visitor_75 : decode cX9_visitor 75 = .ok (.if_icmp .ne 10, 3) := by decide +kernel
theorem dX9_visitor_78 : decode cX9_visitor 78 = .ok (.aload_n 0, 1) := by decide +kernel
theorem dX9_visitor_79 : decode cX9_visitor 79 = .ok (.bipush (-6), 2) := by decide +kernel
theorem dX9_visitor_81 : decode cX9_visitor 81 = .ok (.invokevirtual 130, 3) := by decide +kernel
theorem dX9_visitor_84 : decode cX9_visitor 84 = .ok (.ireturn, 1) := by decide +kernel
theorem dX9_visitor_85 : decode cX9_visitor 85 = .ok (.aload_n 0, 1) := by decide +kernel
theorem dX9_visitor_86 : decode cX9_visitor 86 = .ok (.getfield 98, 3) := by decide +kernel
theorem dX9_visitor_89 : decode cX9_visitor 89 = .ok (.aload_n 0, 1) := by decide +kernel
theorem dX9_visitor_90 : decode cX9_visitor 90 = .ok (.getfield 227, 3) := by decide +kernel
theorem dX9_visitor_93 : decode cX9_visitor 93 = .ok (.iload_n 1, 1) := by decide +kernel
theorem dX9_visitor_94 : decode cX9_visitor 94 = .ok (.iastore, 1) := by decide +kernel
theorem dX9_visitor_95 : decode cX9_visitor 95 = .ok (.aload_n 0, 1) := by decide +kernel
theorem dX9_visitor_96 : decode cX9_visitor 96 = .ok (.getfield 101, 3) := by decide +kernel
theorem dX9_visitor_99 : decode cX9_visitor 99 = .ok (.aload_n 0, 1) := by decide +kernel
theorem dX9_visitor_100 : decode cX9_visitor 100 = .ok (.getfield 227, 3) := by decide +kernel
theorem dX9_visitor_103 : decode cX9_visitor 103 = .ok (.iload_n 2, 1) := by decide +kernel
theorem dX9_visitor_104 : decode cX9_visitor 104 = .ok (.iastore, 1) := by decide +kernel
theorem dX9_visitor_105 : decode cX9_visitor 105 = .ok (.aload_n 0, 1) := by decide +kernel
theorem dX9_visitor_106 : decode cX9_visitor 106 = .ok (.getfield 104, 3) := by decide +kernel
theorem dX9_visitor_109 : decode cX9_visitor 109 = .ok (.aload_n 0, 1) := by decide +kernel
theorem dX9_visitor_110 : decode cX9_visitor 110 = .ok (.getfield 227, 3) := by decide +kernel
theorem dX9_visitor_113 : decode cX9_visitor 113 = .ok (.iload_n 3, 1) := by decide +kernel
theorem dX9_visitor_114 : decode cX9_visitor 114 = .ok (.iastore, 1) := by decide +kernel
theorem dX9_visitor_115 : decode cX9_visitor 115 = .ok (.aload_n 0, 1) := by decide +kernel
theorem dX9_visitor_116 : decode cX9_visitor 116 = .ok (.getfield 107, 3) := by decide +kernel
theorem dX9_visitor_119 : decode cX9_visitor 119 = .ok (.aload_n 0, 1) := by decide +kernel
theorem dX9_visitor_120 : decode cX9_visitor 120 = .ok (.getfield 227, 3) := by decide +kernel
theorem dX9_visitor_123 : decode cX9_visitor 123 = .ok (.iload 4, 2) := by decide +kernel
theorem dX9_visitor_125 : decode cX9_visitor 125 = .ok (.iastore, 1) := by decide +kernel
theorem dX9_visitor_126 : decode cX9_visitor 126 = .ok (.aload_n 0, 1) := by decide +kernel
theorem dX9_visitor_127 : decode cX9_visitor 127 = .ok (.dup, 1) := by decide +kernel
theorem dX9_visitor_128 : decode cX9_visitor 128 = .ok (.getfield 227, 3) := by decide +kernel
theorem dX9_visitor_131 : decode cX9_visitor 131 = .ok (.iconst 1, 1) := by decide +kernel
theorem dX9_visitor_132 : decode cX9_visitor 132 = .ok (.iadd, 1) := by decide +kernel
theorem dX9_visitor_133 : decode cX9_visitor 133 = .ok (.putfield 227, 3) := by decide +kernel
theorem dX9_visitor_136 : decode cX9_visitor 136 = .ok (.aload_n 0, 1) := by decide +kernel
theorem dX9_visitor_137 : decode cX9_visitor 137 = .ok (.getfield 227, 3) := by decide +kernel
theorem dX9_visitor_140 : decode cX9_visitor 140 = .ok (.iconst 1, 1) := by decide +kernel
theorem dX9_visitor_141 : decode cX9_visitor 141 = .ok (.isub, 1) := by decide +kernel
theorem dX9_visitor_142 : decode cX9_visitor 142 = .ok (.ireturn, 1) := by decide +kernel
theorem dX9_wrongShelf_0 : decode cX9_wrongShelf 0 = .ok (.iload_n 1, 1) := by decide +kernel
theorem dX9_wrongShelf_1 : decode cX9_wrongShelf 1 = .ok (.ifCond .le 10, 3) := by decide +kernel
theorem dX9_wrongShelf_4 : decode cX9_wrongShelf 4 = .ok (.iload_n 1, 1) := by decide +kernel
theorem dX9_wrongShelf_5 : decode cX9_wrongShelf 5 = .ok (.sipush 4096, 3) := by decide +kernel
theorem dX9_wrongShelf_8 : decode cX9_wrongShelf 8 = .ok (.if_icmp .lt 5, 3) := by decide +kernel
theorem dX9_wrongShelf_11 : decode cX9_wrongShelf 11 = .ok (.iconst (-1), 1) := by decide +kernel
theorem dX9_wrongShelf_12 : decode cX9_wrongShelf 12 = .ok (.ireturn, 1) := by decide +kernel
theorem dX9_wrongShelf_13 : decode cX9_wrongShelf 13 = .ok (.iload_n 1, 1) := by decide +kernel
theorem dX9_wrongShelf_14 : decode cX9_wrongShelf 14 = .ok (.invokestatic 159, 3) := by decide +kernel
theorem dX9_wrongShelf_17 : decode cX9_wrongShelf 17 = .ok (.bipush 8, 2) := by decide +kernel
theorem dX9_wrongShelf_19 : decode cX9_wrongShelf 19 = .ok (.if_icmp .le 8, 3) := by decide +kernel
theorem dX9_wrongShelf_22 : decode cX9_wrongShelf 22 = .ok (.bipush (-6), 2) := by decide +kernel
theorem dX9_wrongShelf_24 : decode cX9_wrongShelf 24 = .ok (.goto 4, 3) := by decide +kernel
theorem dX9_wrongShelf_27 : decode cX9_wrongShelf 27 = .ok (.iconst 0, 1) := by decide +kernel
theorem dX9_wrongShelf_28 : decode cX9_wrongShelf 28 = .ok (.ireturn, 1) := by decide +kernel
theorem dX9_wins_0 : decode cX9_wins 0 = .ok (.aload_n 0, 1) := by decide +kernel
theorem dX9_wins_1 : decode cX9_wins 1 = .ok (.getfield 110, 3) := by decide +kernel
theorem dX9_wins_4 : decode cX9_wins 4 = .ok (.iload 4, 2) := by decide +kernel
theorem dX9_wins_6 : decode cX9_wins 6 = .ok (.iaload, 1) := by decide +kernel
theorem dX9_wins_7 : decode cX9_wins 7 = .ok (.istore 5, 2) := by decide +kernel
theorem dX9_wins_9 : decode cX9_wins 9 = .ok (.iconst 0, 1) := by decide +kernel
theorem dX9_wins_10 : decode cX9_wins 10 = .ok (.istore 6, 2) := by decide +kernel
theorem dX9_wins_12 : decode cX9_wins 12 = .ok (.iconst 0, 1) := by decide +kernel
theorem dX9_wins_13 : decode cX9_wins 13 = .ok (.istore 7, 2) := by decide +kernel
theorem dX9_wins_15 : decode cX9_wins 15 = .ok (.iload 7, 2) := by decide +kernel
theorem dX9_wins_17 : decode cX9_wins 17 = .ok (.aload_n 0, 1) := by decide +kernel
theorem dX9_wins_18 : decode cX9_wins 18 = .ok (.getfield 227, 3) := by decide +kernel
theorem dX9_wins_21 : decode cX9_wins 21 = .ok (.if_icmp .ge 287, 3) := by decide +kernel
theorem dX9_wins_24 : decode cX9_wins 24 = .ok (.iload_n 1, 1) := by decide +kernel
theorem dX9_wins_25 : decode cX9_wins 25 = .ok (.aload_n 0, 1) := by decide +kernel
theorem dX9_wins_26 : decode cX9_wins 26 = .ok (.getfield 101, 3) := by decide +kernel
theorem dX9_wins_29 : decode cX9_wins 29 = .ok (.iload 7, 2) := by decide +kernel
theorem dX9_wins_31 : decode cX9_wins 31 = .ok (.iaload, 1) := by decide +kernel
theorem dX9_wins_32 : decode cX9_wins 32 = .ok (.ishr, 1) := by decide +kernel
theorem dX9_wins_33 : decode cX9_wins 33 = .ok (.iconst 1, 1) := by decide +kernel
theorem dX9_wins_34 : decode cX9_wins 34 = .ok (.iand, 1) := by decide +kernel
theorem dX9_wins_35 : decode cX9_wins 35 = .ok (.iconst 1, 1) := by decide +kernel
theorem dX9_wins_36 : decode cX9_wins 36 = .ok (.if_icmp .ne 33, 3) := by decide +kernel
theorem dX9_wins_39 : decode cX9_wins 39 = .ok (.aload_n 0, 1) := by decide +kernel
theorem dX9_wins_40 : decode cX9_wins 40 = .ok (.getfield 98, 3) := by decide +kernel
theorem dX9_wins_43 : decode cX9_wins 43 = .ok (.iload 7, 2) := by decide +kernel
theorem dX9_wins_45 : decode cX9_wins 45 = .ok (.iaload, 1) := by decide +kernel
theorem dX9_wins_46 : decode cX9_wins 46 = .ok (.iconst 1, 1) := by decide +kernel
theorem dX9_wins_47 : decode cX9_wins 47 = .ok (.if_icmp .gt 18, 3) := by decide +kernel
theorem dX9_wins_50 : decode cX9_wins 50 = .ok (.iload_n 1, 1) := by decide +kernel
theorem dX9_wins_51 : decode cX9_wins 51 = .ok (.aload_n 0, 1) := by decide +kernel
theorem dX9_wins_52 : decode cX9_wins 52 = .ok (.getfield 104, 3) := by decide +kernel
theorem dX9_wins_55 : decode cX9_wins 55 = .ok (.iload 7, 2) := by decide +kernel
theorem dX9_wins_57 : decode cX9_wins 57 = .ok (.iaload, 1) := by decide +kernel
theorem dX9_wins_58 : decode cX9_wins 58 = .ok (.ishr, 1) := by decide +kernel
theorem dX9_wins_59 : decode cX9_wins 59 = .ok (.iconst 1, 1) := by decide +kernel
theorem dX9_wins_60 : decode cX9_wins 60 = .ok (.iand, 1) := by decide +kernel
theorem dX9_wins_61 : decode cX9_wins 61 = .ok (.iconst 1, 1) := by decide +kernel
theorem dX9_wins_62 : decode cX9_wins 62 = .ok (.if_icmp .ne 7, 3) := by decide +kernel
theorem dX9_wins_65 : decode cX9_wins 65 = .ok (.iconst 1, 1) := by decide +kernel
theorem dX9_wins_66 : decode cX9_wins 66 = .ok (.goto 4, 3) := by decide +kernel
theorem dX9_wins_69 : decode cX9_wins 69 = .ok (.iconst 0, 1) := by decide +kernel
theorem dX9_wins_70 : decode cX9_wins 70 = .ok (.istore 8, 2) := by decide +kernel
theorem dX9_wins_72 : decode cX9_wins 72 = .ok (.iload 8, 2) := by decide +kernel
theorem dX9_wins_74 : decode cX9_wins 74 = .ok (.ifCond .ne 6, 3) := by decide +kernel
theorem dX9_wins_77 : decode cX9_wins 77 = .ok (.goto 225, 3) := by decide +kernel
theorem dX9_wins_80 : decode cX9_wins 80 = .ok (.aload_n 0, 1) := by decide +kernel
theorem dX9_wins_81 : decode cX9_wins 81 = .ok (.getfield 98, 3) := by decide +kernel
theorem dX9_wins_84 : decode cX9_wins 84 = .ok (.iload 7, 2) := by decide +kernel
theorem dX9_wins_86 : decode cX9_wins 86 = .ok (.iaload, 1) := by decide +kernel
theorem dX9_wins_87 : decode cX9_wins 87 = .ok (.tableswitch 158 0 2 #[25, 62, 132], 25) := by decide +kernel
theorem dX9_wins_112 : decode cX9_wins 112 = .ok (.aload_n 0, 1) := by decide +kernel
theorem dX9_wins_113 : decode cX9_wins 113 = .ok (.getfield 104, 3) := by decide +kernel
theorem dX9_wins_116 : decode cX9_wins 116 = .ok (.iload 7, 2) := by decide +kernel
theorem dX9_wins_118 : decode cX9_wins 118 = .ok (.iaload, 1) := by decide +kernel
theorem dX9_wins_119 : decode cX9_wins 119 = .ok (.iload 5, 2) := by decide +kernel
theorem dX9_wins_121 : decode cX9_wins 121 = .ok (.if_icmp .ne 22, 3) := by decide +kernel
theorem dX9_wins_124 : decode cX9_wins 124 = .ok (.aload_n 0, 1) := by decide +kernel
theorem dX9_wins_125 : decode cX9_wins 125 = .ok (.iload_n 2, 1) := by decide +kernel
theorem dX9_wins_126 : decode cX9_wins 126 = .ok (.aload_n 0, 1) := by decide +kernel
theorem dX9_wins_127 : decode cX9_wins 127 = .ok (.getfield 101, 3) := by decide +kernel
theorem dX9_wins_130 : decode cX9_wins 130 = .ok (.iload 7, 2) := by decide +kernel
theorem dX9_wins_132 : decode cX9_wins 132 = .ok (.iaload, 1) := by decide +kernel
theorem dX9_wins_133 : decode cX9_wins 133 = .ok (.invokevirtual 230, 3) := by decide +kernel
theorem dX9_wins_136 : decode cX9_wins 136 = .ok (.ifCond .eq 7, 3) := by decide +kernel
theorem dX9_wins_139 : decode cX9_wins 139 = .ok (.iconst 1, 1) := by decide +kernel
theorem dX9_wins_140 : decode cX9_wins 140 = .ok (.goto 4, 3) := by decide +kernel
theorem dX9_wins_143 : decode cX9_wins 143 = .ok (.iconst 0, 1) := by decide +kernel
theorem dX9_wins_144 : decode cX9_wins 144 = .ok (.istore 9, 2) := by decide +kernel
theorem dX9_wins_146 : decode cX9_wins 146 = .ok (.goto 135, 3) := by decide +kernel
theorem dX9_wins_149 : decode cX9_wins 149 = .ok (.iload_n 3, 1) := by decide +kernel
theorem dX9_wins_150 : decode cX9_wins 150 = .ok (.ifCond .lt 63, 3) := by decide +kernel
theorem dX9_wins_153 : decode cX9_wins 153 = .ok (.aload_n 0, 1) := by decide +kernel
theorem dX9_wins_154 : decode cX9_wins 154 = .ok (.getfield 101, 3) := by decide +kernel
theorem dX9_wins_157 : decode cX9_wins 157 = .ok (.iload 7, 2) := by decide +kernel
theorem dX9_wins_159 : decode cX9_wins 159 = .ok (.iaload, 1) := by decide +kernel
theorem dX9_wins_160 : decode cX9_wins 160 = .ok (.iload 5, 2) := by decide +kernel
theorem dX9_wins_162 : decode cX9_wins 162 = .ok (.if_icmp .ne 19, 3) := by decide +kernel
theorem dX9_wins_165 : decode cX9_wins 165 = .ok (.aload_n 0, 1) := by decide +kernel
theorem dX9_wins_166 : decode cX9_wins 166 = .ok (.getfield 104, 3) := by decide +kernel
theorem dX9_wins_169 : decode cX9_wins 169 = .ok (.iload 7, 2) := by decide +kernel
theorem dX9_wins_171 : decode cX9_wins 171 = .ok (.iaload, 1) := by decide +kernel
theorem dX9_wins_172 : decode cX9_wins 172 = .ok (.aload_n 0, 1) := by decide +kernel
theorem dX9_wins_173 : decode cX9_wins 173 = .ok (.getfield 110, 3) := by decide +kernel
theorem dX9_wins_176 : decode cX9_wins 176 = .ok (.iload_n 3, 1) := by decide +kernel
theorem dX9_wins_177 : decode cX9_wins 177 = .ok (.iaload, 1) := by decide +kernel
theorem dX9_wins_178 : decode cX9_wins 178 = .ok (.if_icmp .eq 31, 3) := by decide +kernel
theorem dX9_wins_181 : decode cX9_wins 181 = .ok (.aload_n 0, 1) := by decide +kernel
theorem dX9_wins_182 : decode cX9_wins 182 = .ok (.getfield 104, 3) := by decide +kernel
theorem dX9_wins_185 : decode cX9_wins 185 = .ok (.iload 7, 2) := by decide +kernel
theorem dX9_wins_187 : decode cX9_wins 187 = .ok (.iaload, 1) := by decide +kernel
theorem dX9_wins_188 : decode cX9_wins 188 = .ok (.iload 5, 2) := by decide +kernel
theorem dX9_wins_190 : decode cX9_wins 190 = .ok (.if_icmp .ne 23, 3) := by decide +kernel
theorem dX9_wins_193 : decode cX9_wins 193 = .ok (.aload_n 0, 1) := by decide +kernel
theorem dX9_wins_194 : decode cX9_wins 194 = .ok (.getfield 101, 3) := by decide +kernel
theorem dX9_wins_197 : decode cX9_wins 197 = .ok (.iload 7, 2) := by decide +kernel
theorem dX9_wins_199 : decode cX9_wins 199 = .ok (.iaload, 1) := by decide +kernel
theorem dX9_wins_200 : decode cX9_wins 200 = .ok (.aload_n 0, 1) := by decide +kernel
theorem dX9_wins_201 : decode cX9_wins 201 = .ok (.getfield 110, 3) := by decide +kernel
theorem dX9_wins_204 : decode cX9_wins 204 = .ok (.iload_n 3, 1) := by decide +kernel
theorem dX9_wins_205 : decode cX9_wins 205 = .ok (.iaload, 1) := by decide +kernel
theorem dX9_wins_206 : decode cX9_wins 206 = .ok (.if_icmp .ne 7, 3) := by decide +kernel
theorem dX9_wins_209 : decode cX9_wins 209 = .ok (.iconst 1, 1) := by decide +kernel
theorem dX9_wins_210 : decode cX9_wins 210 = .ok (.goto 4, 3) := by decide +kernel
theorem dX9_wins_213 : decode cX9_wins 213 = .ok (.iconst 0, 1) := by decide +kernel
theorem dX9_wins_214 : decode cX9_wins 214 = .ok (.istore 9, 2) := by decide +kernel
theorem dX9_wins_216 : decode cX9_wins 216 = .ok (.goto 65, 3) := by decide +kernel
theorem dX9_wins_219 : decode cX9_wins 219 = .ok (.aload_n 0, 1) := by decide +kernel
theorem dX9_wins_220 : decode cX9_wins 220 = .ok (.getfield 101, 3) := by decide +kernel
theorem dX9_wins_223 : decode cX9_wins 223 = .ok (.iload 7, 2) := by decide +kernel
theorem dX9_wins_225 : decode cX9_wins 225 = .ok (.iaload, 1) := by decide +kernel
theorem dX9_wins_226 : decode cX9_wins 226 = .ok (.iload 5, 2) := by decide +kernel
theorem dX9_wins_228 : decode cX9_wins 228 = .ok (.if_icmp .ne 11, 3) := by decide +kernel
theorem dX9_wins_231 : decode cX9_wins 231 = .ok (.iload_n 2, 1) := by decide +kernel
theorem dX9_wins_232 : decode cX9_wins 232 = .ok (.ifCond .ne 7, 3) := by decide +kernel
theorem dX9_wins_235 : decode cX9_wins 235 = .ok (.iconst 1, 1) := by decide +kernel
theorem dX9_wins_236 : decode cX9_wins 236 = .ok (.goto 4, 3) := by decide +kernel
theorem dX9_wins_239 : decode cX9_wins 239 = .ok (.iconst 0, 1) := by decide +kernel
theorem dX9_wins_240 : decode cX9_wins 240 = .ok (.istore 9, 2) := by decide +kernel
theorem dX9_wins_242 : decode cX9_wins 242 = .ok (.goto 39, 3) := by decide +kernel
theorem dX9_wins_245 : decode cX9_wins 245 = .ok (.aload_n 0, 1) := by decide +kernel
theorem dX9_wins_246 : decode cX9_wins 246 = .ok (.getfield 101, 3) := by decide +kernel
theorem dX9_wins_249 : decode cX9_wins 249 = .ok (.iload 7, 2) := by decide +kernel
theorem dX9_wins_251 : decode cX9_wins 251 = .ok (.iaload, 1) := by decide +kernel
theorem dX9_wins_252 : decode cX9_wins 252 = .ok (.iload 5, 2) := by decide +kernel
theorem dX9_wins_254 : decode cX9_wins 254 = .ok (.if_icmp .ne 24, 3) := by decide +kernel
theorem dX9_wins_257 : decode cX9_wins 257 = .ok (.iload_n 2, 1) := by decide +kernel
theorem dX9_wins_258 : decode cX9_wins 258 = .ok (.iconst 1, 1) := by decide +kernel
theorem dX9_wins_259 : decode cX9_wins 259 = .ok (.iload 4, 2) := by decide +kernel
theorem dX9_wins_261 : decode cX9_wins 261 = .ok (.ishl, 1) := by decide +kernel
theorem dX9_wins_262 : decode cX9_wins 262 = .ok (.ior, 1) := by decide +kernel
theorem dX9_wins_263 : decode cX9_wins 263 = .ok (.iconst 1, 1) := by decide +kernel
theorem dX9_wins_264 : decode cX9_wins 264 = .ok (.aload_n 0, 1) := by decide +kernel
theorem dX9_wins_265 : decode cX9_wins 265 = .ok (.getfield 233, 3) := by decide +kernel
theorem dX9_wins_268 : decode cX9_wins 268 = .ok (.ishl, 1) := by decide +kernel
theorem dX9_wins_269 : decode cX9_wins 269 = .ok (.iconst 1, 1) := by decide +kernel
theorem dX9_wins_270 : decode cX9_wins 270 = .ok (.isub, 1) := by decide +kernel
theorem dX9_wins_271 : decode cX9_wins 271 = .ok (.if_icmp .ne 7, 3) := by decide +kernel
theorem dX9_wins_274 : decode cX9_wins 274 = .ok (.iconst 1, 1) := by decide +kernel
theorem dX9_wins_275 : decode cX9_wins 275 = .ok (.goto 4, 3) := by decide +kernel
theorem dX9_wins_278 : decode cX9_wins 278 = .ok (.iconst 0, 1) := by decide +kernel
theorem dX9_wins_279 : decode cX9_wins 279 = .ok (.istore 9, 2) := by decide +kernel
theorem dX9_wins_281 : decode cX9_wins 281 = .ok (.iload 6, 2) := by decide +kernel
theorem dX9_wins_283 : decode cX9_wins 283 = .ok (.iload 9, 2) := by decide +kernel
theorem dX9_wins_285 : decode cX9_wins 285 = .ok (.ifCond .eq 13, 3) := by decide +kernel
theorem dX9_wins_288 : decode cX9_wins 288 = .ok (.aload_n 0, 1) := by decide +kernel
theorem dX9_wins_289 : decode cX9_wins 289 = .ok (.getfield 107, 3) := by decide +kernel
theorem dX9_wins_292 : decode cX9_wins 292 = .ok (.iload 7, 2) := by decide +kernel
theorem dX9_wins_294 : decode cX9_wins 294 = .ok (.iaload, 1) := by decide +kernel
theorem dX9_wins_295 : decode cX9_wins 295 = .ok (.goto 4, 3) := by decide +kernel
theorem dX9_wins_298 : decode cX9_wins 298 = .ok (.iconst 0, 1) := by decide +kernel
theorem dX9_wins_299 : decode cX9_wins 299 = .ok (.iadd, 1) := by decide +kernel
theorem dX9_wins_300 : decode cX9_wins 300 = .ok (.istore 6, 2) := by decide +kernel
theorem dX9_wins_302 : decode cX9_wins 302 = .ok (.iinc 7 1, 3) := by decide +kernel
theorem dX9_wins_305 : decode cX9_wins 305 = .ok (.goto (-290), 3) := by decide +kernel
theorem dX9_wins_308 : decode cX9_wins 308 = .ok (.iload 6, 2) := by decide +kernel
theorem dX9_wins_310 : decode cX9_wins 310 = .ok (.ireturn, 1) := by decide +kernel
theorem dX9_stands_0 : decode cX9_stands 0 = .ok (.iconst 0, 1) := by decide +kernel
theorem dX9_stands_1 : decode cX9_stands 1 = .ok (.istore_n 3, 1) := by decide +kernel
theorem dX9_stands_2 : decode cX9_stands 2 = .ok (.iconst 0, 1) := by decide +kernel
theorem dX9_stands_3 : decode cX9_stands 3 = .ok (.istore 4, 2) := by decide +kernel
theorem dX9_stands_5 : decode cX9_stands 5 = .ok (.iload 4, 2) := by decide +kernel
theorem dX9_stands_7 : decode cX9_stands 7 = .ok (.aload_n 0, 1) := by decide +kernel
theorem dX9_stands_8 : decode cX9_stands 8 = .ok (.getfield 233, 3) := by decide +kernel
theorem dX9_stands_11 : decode cX9_stands 11 = .ok (.if_icmp .ge 40, 3) := by decide +kernel
theorem dX9_stands_14 : decode cX9_stands 14 = .ok (.iload_n 3, 1) := by decide +kernel
theorem dX9_stands_15 : decode cX9_stands 15 = .ok (.ifCond .ne 24, 3) := by decide +kernel
theorem dX9_stands_18 : decode cX9_stands 18 = .ok (.iload_n 1, 1) := by decide +kernel
theorem dX9_stands_19 : decode cX9_stands 19 = .ok (.iload 4, 2) := by decide +kernel
theorem dX9_stands_21 : decode cX9_stands 21 = .ok (.ishr, 1) := by decide +kernel
theorem dX9_stands_22 : decode cX9_stands 22 = .ok (.iconst 1, 1) := by decide +kernel
theorem dX9_stands_23 : decode cX9_stands 23 = .ok (.iand, 1) := by decide +kernel
theorem dX9_stands_24 : decode cX9_stands 24 = .ok (.iconst 1, 1) := by decide +kernel
theorem dX9_stands_25 : decode cX9_stands 25 = .ok (.if_icmp .ne 18, 3) := by decide +kernel
theorem dX9_stands_28 : decode cX9_stands 28 = .ok (.aload_n 0, 1) := by decide +kernel
theorem dX9_stands_29 : decode cX9_stands 29 = .ok (.getfield 110, 3) := by decide +kernel
theorem dX9_stands_32 : decode cX9_stands 32 = .ok (.iload 4, 2) := by decide +kernel
theorem dX9_stands_34 : decode cX9_stands 34 = .ok (.iaload, 1) := by decide +kernel
theorem dX9_stands_35 : decode cX9_stands 35 = .ok (.iload_n 2, 1) := by decide +kernel
theorem dX9_stands_36 : decode cX9_stands 36 = .ok (.if_icmp .ne 7, 3) := by decide +kernel
theorem dX9_stands_39 : decode cX9_stands 39 = .ok (.iconst 1, 1) := by decide +kernel
theorem dX9_stands_40 : decode cX9_stands 40 = .ok (.goto 4, 3) := by decide +kernel
theorem dX9_stands_43 : decode cX9_stands 43 = .ok (.iconst 0, 1) := by decide +kernel
theorem dX9_stands_44 : decode cX9_stands 44 = .ok (.istore_n 3, 1) := by decide +kernel
theorem dX9_stands_45 : decode cX9_stands 45 = .ok (.iinc 4 1, 3) := by decide +kernel
theorem dX9_stands_48 : decode cX9_stands 48 = .ok (.goto (-43), 3) := by decide +kernel
theorem dX9_stands_51 : decode cX9_stands 51 = .ok (.iload_n 3, 1) := by decide +kernel
end
section
theorem dX9_stands_52 : decode cX9_stands 52 = .ok (.ireturn, 1) := by decide +kernel
theorem dX9_shelves_0 : decode cX9_shelves 0 = .ok (.aload_n 0, 1) := by decide +kernel
theorem dX9_shelves_1 : decode cX9_shelves 1 = .ok (.iconst 0, 1) := by decide +kernel
theorem dX9_shelves_2 : decode cX9_shelves 2 = .ok (.putfield 233, 3) := by decide +kernel
theorem dX9_shelves_5 : decode cX9_shelves 5 = .ok (.iconst 0, 1) := by decide +kernel
theorem dX9_shelves_6 : decode cX9_shelves 6 = .ok (.istore_n 2, 1) := by decide +kernel
theorem dX9_shelves_7 : decode cX9_shelves 7 = .ok (.iload_n 2, 1) := by decide +kernel
theorem dX9_shelves_8 : decode cX9_shelves 8 = .ok (.bipush 12, 2) := by decide +kernel
theorem dX9_shelves_10 : decode cX9_shelves 10 = .ok (.if_icmp .ge 40, 3) := by decide +kernel
theorem dX9_shelves_13 : decode cX9_shelves 13 = .ok (.iload_n 1, 1) := by decide +kernel
theorem dX9_shelves_14 : decode cX9_shelves 14 = .ok (.iload_n 2, 1) := by decide +kernel
theorem dX9_shelves_15 : decode cX9_shelves 15 = .ok (.ishr, 1) := by decide +kernel
theorem dX9_shelves_16 : decode cX9_shelves 16 = .ok (.iconst 1, 1) := by decide +kernel
theorem dX9_shelves_17 : decode cX9_shelves 17 = .ok (.iand, 1) := by decide +kernel
theorem dX9_shelves_18 : decode cX9_shelves 18 = .ok (.ifCond .ne 6, 3) := by decide +kernel
theorem dX9_shelves_21 : decode cX9_shelves 21 = .ok (.goto 23, 3) := by decide +kernel
theorem dX9_shelves_24 : decode cX9_shelves 24 = .ok (.aload_n 0, 1) := by decide +kernel
theorem dX9_shelves_25 : decode cX9_shelves 25 = .ok (.getfield 110, 3) := by decide +kernel
theorem dX9_shelves_28 : decode cX9_shelves 28 = .ok (.aload_n 0, 1) := by decide +kernel
theorem dX9_shelves_29 : decode cX9_shelves 29 = .ok (.getfield 233, 3) := by decide +kernel
theorem dX9_shelves_32 : decode cX9_shelves 32 = .ok (.iload_n 2, 1) := by decide +kernel
theorem dX9_shelves_33 : decode cX9_shelves 33 = .ok (.iastore, 1) := by decide +kernel
theorem dX9_shelves_34 : decode cX9_shelves 34 = .ok (.aload_n 0, 1) := by decide +kernel
theorem dX9_shelves_35 : decode cX9_shelves 35 = .ok (.dup, 1) := by decide +kernel
theorem dX9_shelves_36 : decode cX9_shelves 36 = .ok (.getfield 233, 3) := by decide +kernel
theorem dX9_shelves_39 : decode cX9_shelves 39 = .ok (.iconst 1, 1) := by decide +kernel
theorem dX9_shelves_40 : decode cX9_shelves 40 = .ok (.iadd, 1) := by decide +kernel
theorem dX9_shelves_41 : decode cX9_shelves 41 = .ok (.putfield 233, 3) := by decide +kernel
theorem dX9_shelves_44 : decode cX9_shelves 44 = .ok (.iinc 2 1, 3) := by decide +kernel
theorem dX9_shelves_47 : decode cX9_shelves 47 = .ok (.goto (-40), 3) := by decide +kernel
theorem dX9_shelves_50 : decode cX9_shelves 50 = .ok (.iconst 1, 1) := by decide +kernel
theorem dX9_shelves_51 : decode cX9_shelves 51 = .ok (.aload_n 0, 1) := by decide +kernel
theorem dX9_shelves_52 : decode cX9_shelves 52 = .ok (.getfield 233, 3) := by decide +kernel
theorem dX9_shelves_55 : decode cX9_shelves 55 = .ok (.ishl, 1) := by decide +kernel
theorem dX9_shelves_56 : decode cX9_shelves 56 = .ok (.iconst 1, 1) := by decide +kernel
theorem dX9_shelves_57 : decode cX9_shelves 57 = .ok (.isub, 1) := by decide +kernel
theorem dX9_shelves_58 : decode cX9_shelves 58 = .ok (.istore_n 2, 1) := by decide +kernel
theorem dX9_shelves_59 : decode cX9_shelves 59 = .ok (.iload_n 2, 1) := by decide +kernel
theorem dX9_shelves_60 : decode cX9_shelves 60 = .ok (.istore_n 3, 1) := by decide +kernel
theorem dX9_shelves_61 : decode cX9_shelves 61 = .ok (.iload_n 3, 1) := by decide +kernel
theorem dX9_shelves_62 : decode cX9_shelves 62 = .ok (.ifCond .lt 119, 3) := by decide +kernel
theorem dX9_shelves_65 : decode cX9_shelves 65 = .ok (.iconst (-1), 1) := by decide +kernel
theorem dX9_shelves_66 : decode cX9_shelves 66 = .ok (.istore 4, 2) := by decide +kernel
theorem dX9_shelves_68 : decode cX9_shelves 68 = .ok (.iload 4, 2) := by decide +kernel
theorem dX9_shelves_70 : decode cX9_shelves 70 = .ok (.aload_n 0, 1) := by decide +kernel
theorem dX9_shelves_71 : decode cX9_shelves 71 = .ok (.getfield 233, 3) := by decide +kernel
theorem dX9_shelves_74 : decode cX9_shelves 74 = .ok (.if_icmp .ge 101, 3) := by decide +kernel
theorem dX9_shelves_77 : decode cX9_shelves 77 = .ok (.iload_n 3, 1) := by decide +kernel
theorem dX9_shelves_78 : decode cX9_shelves 78 = .ok (.iload_n 2, 1) := by decide +kernel
theorem dX9_shelves_79 : decode cX9_shelves 79 = .ok (.if_icmp .ne 7, 3) := by decide +kernel
theorem dX9_shelves_82 : decode cX9_shelves 82 = .ok (.iconst 0, 1) := by decide +kernel
theorem dX9_shelves_83 : decode cX9_shelves 83 = .ok (.goto 4, 3) := by decide +kernel
theorem dX9_shelves_86 : decode cX9_shelves 86 = .ok (.iconst (-1), 1) := by decide +kernel
theorem dX9_shelves_87 : decode cX9_shelves 87 = .ok (.istore 5, 2) := by decide +kernel
theorem dX9_shelves_89 : decode cX9_shelves 89 = .ok (.iconst 0, 1) := by decide +kernel
theorem dX9_shelves_90 : decode cX9_shelves 90 = .ok (.istore 6, 2) := by decide +kernel
theorem dX9_shelves_92 : decode cX9_shelves 92 = .ok (.iload 6, 2) := by decide +kernel
theorem dX9_shelves_94 : decode cX9_shelves 94 = .ok (.aload_n 0, 1) := by decide +kernel
theorem dX9_shelves_95 : decode cX9_shelves 95 = .ok (.getfield 233, 3) := by decide +kernel
theorem dX9_shelves_98 : decode cX9_shelves 98 = .ok (.if_icmp .ge 55, 3) := by decide +kernel
theorem dX9_shelves_101 : decode cX9_shelves 101 = .ok (.iload_n 3, 1) := by decide +kernel
theorem dX9_shelves_102 : decode cX9_shelves 102 = .ok (.iload 6, 2) := by decide +kernel
theorem dX9_shelves_104 : decode cX9_shelves 104 = .ok (.ishr, 1) := by decide +kernel
theorem dX9_shelves_105 : decode cX9_shelves 105 = .ok (.iconst 1, 1) := by decide +kernel
theorem dX9_shelves_106 : decode cX9_shelves 106 = .ok (.iand, 1) := by decide +kernel
theorem dX9_shelves_107 : decode cX9_shelves 107 = .ok (.ifCond .ne 40, 3) := by decide +kernel
theorem dX9_shelves_110 : decode cX9_shelves 110 = .ok (.iload 5, 2) := by decide +kernel
theorem dX9_shelves_112 : decode cX9_shelves 112 = .ok (.aload_n 0, 1) := by decide +kernel
theorem dX9_shelves_113 : decode cX9_shelves 113 = .ok (.iload_n 1, 1) := by decide +kernel
theorem dX9_shelves_114 : decode cX9_shelves 114 = .ok (.iload_n 3, 1) := by decide +kernel
theorem dX9_shelves_115 : decode cX9_shelves 115 = .ok (.iload 4, 2) := by decide +kernel
theorem dX9_shelves_117 : decode cX9_shelves 117 = .ok (.iload 6, 2) := by decide +kernel
theorem dX9_shelves_119 : decode cX9_shelves 119 = .ok (.invokevirtual 236, 3) := by decide +kernel
theorem dX9_shelves_122 : decode cX9_shelves 122 = .ok (.aload_n 0, 1) := by decide +kernel
theorem dX9_shelves_123 : decode cX9_shelves 123 = .ok (.getfield 113, 3) := by decide +kernel
theorem dX9_shelves_126 : decode cX9_shelves 126 = .ok (.bipush 9, 2) := by decide +kernel
theorem dX9_shelves_128 : decode cX9_shelves 128 = .ok (.iload_n 3, 1) := by decide +kernel
theorem dX9_shelves_129 : decode cX9_shelves 129 = .ok (.iconst 1, 1) := by decide +kernel
theorem dX9_shelves_130 : decode cX9_shelves 130 = .ok (.iload 6, 2) := by decide +kernel
theorem dX9_shelves_132 : decode cX9_shelves 132 = .ok (.ishl, 1) := by decide +kernel
theorem dX9_shelves_133 : decode cX9_shelves 133 = .ok (.ior, 1) := by decide +kernel
theorem dX9_shelves_134 : decode cX9_shelves 134 = .ok (.imul, 1) := by decide +kernel
theorem dX9_shelves_135 : decode cX9_shelves 135 = .ok (.iload 6, 2) := by decide +kernel
theorem dX9_shelves_137 : decode cX9_shelves 137 = .ok (.iadd, 1) := by decide +kernel
theorem dX9_shelves_138 : decode cX9_shelves 138 = .ok (.iconst 1, 1) := by decide +kernel
theorem dX9_shelves_139 : decode cX9_shelves 139 = .ok (.iadd, 1) := by decide +kernel
theorem dX9_shelves_140 : decode cX9_shelves 140 = .ok (.iaload, 1) := by decide +kernel
theorem dX9_shelves_141 : decode cX9_shelves 141 = .ok (.iadd, 1) := by decide +kernel
theorem dX9_shelves_142 : decode cX9_shelves 142 = .ok (.invokestatic 162, 3) := by decide +kernel
theorem dX9_shelves_145 : decode cX9_shelves 145 = .ok (.istore 5, 2) := by decide +kernel
theorem dX9_shelves_147 : decode cX9_shelves 147 = .ok (.iinc 6 1, 3) := by decide +kernel
theorem dX9_shelves_150 : decode cX9_shelves 150 = .ok (.goto (-58), 3) := by decide +kernel
theorem dX9_shelves_153 : decode cX9_shelves 153 = .ok (.aload_n 0, 1) := by decide +kernel
theorem dX9_shelves_154 : decode cX9_shelves 154 = .ok (.getfield 113, 3) := by decide +kernel
theorem dX9_shelves_157 : decode cX9_shelves 157 = .ok (.bipush 9, 2) := by decide +kernel
theorem dX9_shelves_159 : decode cX9_shelves 159 = .ok (.iload_n 3, 1) := by decide +kernel
theorem dX9_shelves_160 : decode cX9_shelves 160 = .ok (.imul, 1) := by decide +kernel
theorem dX9_shelves_161 : decode cX9_shelves 161 = .ok (.iload 4, 2) := by decide +kernel
theorem dX9_shelves_163 : decode cX9_shelves 163 = .ok (.iadd, 1) := by decide +kernel
theorem dX9_shelves_164 : decode cX9_shelves 164 = .ok (.iconst 1, 1) := by decide +kernel
theorem dX9_shelves_165 : decode cX9_shelves 165 = .ok (.iadd, 1) := by decide +kernel
theorem dX9_shelves_166 : decode cX9_shelves 166 = .ok (.iload 5, 2) := by decide +kernel
theorem dX9_shelves_168 : decode cX9_shelves 168 = .ok (.iastore, 1) := by decide +kernel
theorem dX9_shelves_169 : decode cX9_shelves 169 = .ok (.iinc 4 1, 3) := by decide +kernel
theorem dX9_shelves_172 : decode cX9_shelves 172 = .ok (.goto (-104), 3) := by decide +kernel
theorem dX9_shelves_175 : decode cX9_shelves 175 = .ok (.iinc 3 (-1), 3) := by decide +kernel
theorem dX9_shelves_178 : decode cX9_shelves 178 = .ok (.goto (-117), 3) := by decide +kernel
theorem dX9_shelves_181 : decode cX9_shelves 181 = .ok (.iconst 0, 1) := by decide +kernel
theorem dX9_shelves_182 : decode cX9_shelves 182 = .ok (.istore_n 3, 1) := by decide +kernel
theorem dX9_shelves_183 : decode cX9_shelves 183 = .ok (.iconst (-1), 1) := by decide +kernel
theorem dX9_shelves_184 : decode cX9_shelves 184 = .ok (.istore 4, 2) := by decide +kernel
theorem dX9_shelves_186 : decode cX9_shelves 186 = .ok (.iconst 0, 1) := by decide +kernel
theorem dX9_shelves_187 : decode cX9_shelves 187 = .ok (.istore 5, 2) := by decide +kernel
theorem dX9_shelves_189 : decode cX9_shelves 189 = .ok (.iload 5, 2) := by decide +kernel
theorem dX9_shelves_191 : decode cX9_shelves 191 = .ok (.aload_n 0, 1) := by decide +kernel
theorem dX9_shelves_192 : decode cX9_shelves 192 = .ok (.getfield 233, 3) := by decide +kernel
theorem dX9_shelves_195 : decode cX9_shelves 195 = .ok (.if_icmp .ge 100, 3) := by decide +kernel
theorem dX9_shelves_198 : decode cX9_shelves 198 = .ok (.iconst 0, 1) := by decide +kernel
theorem dX9_shelves_199 : decode cX9_shelves 199 = .ok (.istore 6, 2) := by decide +kernel
theorem dX9_shelves_201 : decode cX9_shelves 201 = .ok (.iload_n 3, 1) := by decide +kernel
theorem dX9_shelves_202 : decode cX9_shelves 202 = .ok (.iload 6, 2) := by decide +kernel
theorem dX9_shelves_204 : decode cX9_shelves 204 = .ok (.ishr, 1) := by decide +kernel
theorem dX9_shelves_205 : decode cX9_shelves 205 = .ok (.iconst 1, 1) := by decide +kernel
theorem dX9_shelves_206 : decode cX9_shelves 206 = .ok (.iand, 1) := by decide +kernel
theorem dX9_shelves_207 : decode cX9_shelves 207 = .ok (.iconst 1, 1) := by decide +kernel
theorem dX9_shelves_208 : decode cX9_shelves 208 = .ok (.if_icmp .eq 50, 3) := by decide +kernel
theorem dX9_shelves_211 : decode cX9_shelves 211 = .ok (.aload_n 0, 1) := by decide +kernel
theorem dX9_shelves_212 : decode cX9_shelves 212 = .ok (.iload_n 1, 1) := by decide +kernel
theorem dX9_shelves_213 : decode cX9_shelves 213 = .ok (.iload_n 3, 1) := by decide +kernel
theorem dX9_shelves_214 : decode cX9_shelves 214 = .ok (.iload 4, 2) := by decide +kernel
theorem dX9_shelves_216 : decode cX9_shelves 216 = .ok (.iload 6, 2) := by decide +kernel
theorem dX9_shelves_218 : decode cX9_shelves 218 = .ok (.invokevirtual 236, 3) := by decide +kernel
theorem dX9_shelves_221 : decode cX9_shelves 221 = .ok (.aload_n 0, 1) := by decide +kernel
theorem dX9_shelves_222 : decode cX9_shelves 222 = .ok (.getfield 113, 3) := by decide +kernel
theorem dX9_shelves_225 : decode cX9_shelves 225 = .ok (.bipush 9, 2) := by decide +kernel
theorem dX9_shelves_227 : decode cX9_shelves 227 = .ok (.iload_n 3, 1) := by decide +kernel
theorem dX9_shelves_228 : decode cX9_shelves 228 = .ok (.iconst 1, 1) := by decide +kernel
theorem dX9_shelves_229 : decode cX9_shelves 229 = .ok (.iload 6, 2) := by decide +kernel
theorem dX9_shelves_231 : decode cX9_shelves 231 = .ok (.ishl, 1) := by decide +kernel
theorem dX9_shelves_232 : decode cX9_shelves 232 = .ok (.ior, 1) := by decide +kernel
theorem dX9_shelves_233 : decode cX9_shelves 233 = .ok (.imul, 1) := by decide +kernel
theorem dX9_shelves_234 : decode cX9_shelves 234 = .ok (.iload 6, 2) := by decide +kernel
theorem dX9_shelves_236 : decode cX9_shelves 236 = .ok (.iadd, 1) := by decide +kernel
theorem dX9_shelves_237 : decode cX9_shelves 237 = .ok (.iconst 1, 1) := by decide +kernel
theorem dX9_shelves_238 : decode cX9_shelves 238 = .ok (.iadd, 1) := by decide +kernel
theorem dX9_shelves_239 : decode cX9_shelves 239 = .ok (.iaload, 1) := by decide +kernel
theorem dX9_shelves_240 : decode cX9_shelves 240 = .ok (.iadd, 1) := by decide +kernel
theorem dX9_shelves_241 : decode cX9_shelves 241 = .ok (.aload_n 0, 1) := by decide +kernel
theorem dX9_shelves_242 : decode cX9_shelves 242 = .ok (.getfield 113, 3) := by decide +kernel
theorem dX9_shelves_245 : decode cX9_shelves 245 = .ok (.bipush 9, 2) := by decide +kernel
theorem dX9_shelves_247 : decode cX9_shelves 247 = .ok (.iload_n 3, 1) := by decide +kernel
theorem dX9_shelves_248 : decode cX9_shelves 248 = .ok (.imul, 1) := by decide +kernel
theorem dX9_shelves_249 : decode cX9_shelves 249 = .ok (.iload 4, 2) := by decide +kernel
theorem dX9_shelves_251 : decode cX9_shelves 251 = .ok (.iadd, 1) := by decide +kernel
theorem dX9_shelves_252 : decode cX9_shelves 252 = .ok (.iconst 1, 1) := by decide +kernel
theorem dX9_shelves_253 : decode cX9_shelves 253 = .ok (.iadd, 1) := by decide +kernel
theorem dX9_shelves_254 : decode cX9_shelves 254 = .ok (.iaload, 1) := by decide +kernel
theorem dX9_shelves_255 : decode cX9_shelves 255 = .ok (.if_icmp .eq 9, 3) := by decide +kernel
theorem dX9_shelves_258 : decode cX9_shelves 258 = .ok (.iinc 6 1, 3) := by decide +kernel
theorem dX9_shelves_261 : decode cX9_shelves 261 = .ok (.goto (-60), 3) := by decide +kernel
theorem dX9_shelves_264 : decode cX9_shelves 264 = .ok (.aload_n 0, 1) := by decide +kernel
theorem dX9_shelves_265 : decode cX9_shelves 265 = .ok (.getfield 116, 3) := by decide +kernel
theorem dX9_shelves_268 : decode cX9_shelves 268 = .ok (.iload 5, 2) := by decide +kernel
theorem dX9_shelves_270 : decode cX9_shelves 270 = .ok (.aload_n 0, 1) := by decide +kernel
theorem dX9_shelves_271 : decode cX9_shelves 271 = .ok (.getfield 110, 3) := by decide +kernel
theorem dX9_shelves_274 : decode cX9_shelves 274 = .ok (.iload 6, 2) := by decide +kernel
theorem dX9_shelves_276 : decode cX9_shelves 276 = .ok (.iaload, 1) := by decide +kernel
theorem dX9_shelves_277 : decode cX9_shelves 277 = .ok (.iastore, 1) := by decide +kernel
theorem dX9_shelves_278 : decode cX9_shelves 278 = .ok (.iload_n 3, 1) := by decide +kernel
theorem dX9_shelves_279 : decode cX9_shelves 279 = .ok (.iconst 1, 1) := by decide +kernel
theorem dX9_shelves_280 : decode cX9_shelves 280 = .ok (.iload 6, 2) := by decide +kernel
theorem dX9_shelves_282 : decode cX9_shelves 282 = .ok (.ishl, 1) := by decide +kernel
theorem dX9_shelves_283 : decode cX9_shelves 283 = .ok (.ior, 1) := by decide +kernel
theorem dX9_shelves_284 : decode cX9_shelves 284 = .ok (.istore_n 3, 1) := by decide +kernel
theorem dX9_shelves_285 : decode cX9_shelves 285 = .ok (.iload 6, 2) := by decide +kernel
theorem dX9_shelves_287 : decode cX9_shelves 287 = .ok (.istore 4, 2) := by decide +kernel
theorem dX9_shelves_289 : decode cX9_shelves 289 = .ok (.iinc 5 1, 3) := by decide +kernel
theorem dX9_shelves_292 : decode cX9_shelves 292 = .ok (.goto (-103), 3) := by decide +kernel
theorem dX9_shelves_295 : decode cX9_shelves 295 = .ok (.aload_n 0, 1) := by decide +kernel
theorem dX9_shelves_296 : decode cX9_shelves 296 = .ok (.getfield 113, 3) := by decide +kernel
theorem dX9_shelves_299 : decode cX9_shelves 299 = .ok (.iconst 0, 1) := by decide +kernel
theorem dX9_shelves_300 : decode cX9_shelves 300 = .ok (.iaload, 1) := by decide +kernel
theorem dX9_shelves_301 : decode cX9_shelves 301 = .ok (.ireturn, 1) := by decide +kernel
theorem dX9_shelf_0 : decode cX9_shelf 0 = .ok (.aload_n 0, 1) := by decide +kernel
theorem dX9_shelf_1 : decode cX9_shelf 1 = .ok (.iload_n 1, 1) := by decide +kernel
theorem dX9_shelf_2 : decode cX9_shelf 2 = .ok (.invokevirtual 239, 3) := by decide +kernel
theorem dX9_shelf_5 : decode cX9_shelf 5 = .ok (.istore_n 2, 1) := by decide +kernel
theorem dX9_shelf_6 : decode cX9_shelf 6 = .ok (.iload_n 2, 1) := by decide +kernel
theorem dX9_shelf_7 : decode cX9_shelf 7 = .ok (.ifCond .eq 11, 3) := by decide +kernel
theorem dX9_shelf_10 : decode cX9_shelf 10 = .ok (.aload_n 0, 1) := by decide +kernel
theorem dX9_shelf_11 : decode cX9_shelf 11 = .ok (.iload_n 2, 1) := by decide +kernel
theorem dX9_shelf_12 : decode cX9_shelf 12 = .ok (.invokevirtual 130, 3) := by decide +kernel
theorem dX9_shelf_15 : decode cX9_shelf 15 = .ok (.goto 8, 3) := by decide +kernel
theorem dX9_shelf_18 : decode cX9_shelf 18 = .ok (.aload_n 0, 1) := by decide +kernel
theorem dX9_shelf_19 : decode cX9_shelf 19 = .ok (.iload_n 1, 1) := by decide +kernel
theorem dX9_shelf_20 : decode cX9_shelf 20 = .ok (.invokevirtual 242, 3) := by decide +kernel
theorem dX9_shelf_23 : decode cX9_shelf 23 = .ok (.ireturn, 1) := by decide +kernel
theorem dX9_row_0 : decode cX9_row 0 = .ok (.aload_n 0, 1) := by decide +kernel
theorem dX9_row_1 : decode cX9_row 1 = .ok (.iload_n 1, 1) := by decide +kernel
theorem dX9_row_2 : decode cX9_row 2 = .ok (.invokevirtual 239, 3) := by decide +kernel
theorem dX9_row_5 : decode cX9_row 5 = .ok (.istore_n 3, 1) := by decide +kernel
theorem dX9_row_6 : decode cX9_row 6 = .ok (.iload_n 3, 1) := by decide +kernel
theorem dX9_row_7 : decode cX9_row 7 = .ok (.ifCond .eq 9, 3) := by decide +kernel
theorem dX9_row_10 : decode cX9_row 10 = .ok (.aload_n 0, 1) := by decide +kernel
theorem dX9_row_11 : decode cX9_row 11 = .ok (.iload_n 3, 1) := by decide +kernel
theorem dX9_row_12 : decode cX9_row 12 = .ok (.invokevirtual 130, 3) := by decide +kernel
theorem dX9_row_15 : decode cX9_row 15 = .ok (.ireturn, 1) := by decide +kernel
theorem dX9_row_16 : decode cX9_row 16 = .ok (.aload_n 0, 1) := by decide +kernel
theorem dX9_row_17 : decode cX9_row 17 = .ok (.iload_n 1, 1) := by decide +kernel
theorem dX9_row_18 : decode cX9_row 18 = .ok (.invokevirtual 242, 3) := by decide +kernel
theorem dX9_row_21 : decode cX9_row 21 = .ok (.istore 4, 2) := by decide +kernel
theorem dX9_row_23 : decode cX9_row 23 = .ok (.iload_n 2, 1) := by decide +kernel
theorem dX9_row_24 : decode cX9_row 24 = .ok (.aload_n 0, 1) := by decide +kernel
theorem dX9_row_25 : decode cX9_row 25 = .ok (.getfield 233, 3) := by decide +kernel
theorem dX9_row_28 : decode cX9_row 28 = .ok (.invokestatic 126, 3) := by decide +kernel
theorem dX9_row_31 : decode cX9_row 31 = .ok (.ifCond .eq 12, 3) := by decide +kernel
theorem dX9_row_34 : decode cX9_row 34 = .ok (.aload_n 0, 1) := by decide +kernel
theorem dX9_row_35 : decode cX9_row 35 = .ok (.getfield 116, 3) := by decide +kernel
theorem dX9_row_38 : decode cX9_row 38 = .ok (.iload_n 2, 1) := by decide +kernel
theorem dX9_row_39 : decode cX9_row 39 = .ok (.iaload, 1) := by decide +kernel
theorem dX9_row_40 : decode cX9_row 40 = .ok (.goto 5, 3) := by decide +kernel
theorem dX9_row_43 : decode cX9_row 43 = .ok (.bipush (-9), 2) := by decide +kernel
theorem dX9_row_45 : decode cX9_row 45 = .ok (.ireturn, 1) := by decide +kernel
theorem dX9_quarrel_0 : decode cX9_quarrel 0 = .ok (.aload_n 0, 1) := by decide +kernel
theorem dX9_quarrel_1 : decode cX9_quarrel 1 = .ok (.iload_n 1, 1) := by decide +kernel
theorem dX9_quarrel_2 : decode cX9_quarrel 2 = .ok (.invokevirtual 239, 3) := by decide +kernel
theorem dX9_quarrel_5 : decode cX9_quarrel 5 = .ok (.istore_n 2, 1) := by decide +kernel
theorem dX9_quarrel_6 : decode cX9_quarrel 6 = .ok (.iload_n 2, 1) := by decide +kernel
theorem dX9_quarrel_7 : decode cX9_quarrel 7 = .ok (.ifCond .eq 9, 3) := by decide +kernel
theorem dX9_quarrel_10 : decode cX9_quarrel 10 = .ok (.aload_n 0, 1) := by decide +kernel
theorem dX9_quarrel_11 : decode cX9_quarrel 11 = .ok (.iload_n 2, 1) := by decide +kernel
theorem dX9_quarrel_12 : decode cX9_quarrel 12 = .ok (.invokevirtual 130, 3) := by decide +kernel
theorem dX9_quarrel_15 : decode cX9_quarrel 15 = .ok (.ireturn, 1) := by decide +kernel
theorem dX9_quarrel_16 : decode cX9_quarrel 16 = .ok (.iconst 0, 1) := by decide +kernel
theorem dX9_quarrel_17 : decode cX9_quarrel 17 = .ok (.istore_n 3, 1) := by decide +kernel
theorem dX9_quarrel_18 : decode cX9_quarrel 18 = .ok (.iconst 0, 1) := by decide +kernel
theorem dX9_quarrel_19 : decode cX9_quarrel 19 = .ok (.istore 4, 2) := by decide +kernel
theorem dX9_quarrel_21 : decode cX9_quarrel 21 = .ok (.iload 4, 2) := by decide +kernel
theorem dX9_quarrel_23 : decode cX9_quarrel 23 = .ok (.aload_n 0, 1) := by decide +kernel
theorem dX9_quarrel_24 : decode cX9_quarrel 24 = .ok (.getfield 227, 3) := by decide +kernel
theorem dX9_quarrel_27 : decode cX9_quarrel 27 = .ok (.if_icmp .ge 60, 3) := by decide +kernel
theorem dX9_quarrel_30 : decode cX9_quarrel 30 = .ok (.iload_n 1, 1) := by decide +kernel
theorem dX9_quarrel_31 : decode cX9_quarrel 31 = .ok (.aload_n 0, 1) := by decide +kernel
theorem dX9_quarrel_32 : decode cX9_quarrel 32 = .ok (.getfield 101, 3) := by decide +kernel
theorem dX9_quarrel_35 : decode cX9_quarrel 35 = .ok (.iload 4, 2) := by decide +kernel
theorem dX9_quarrel_37 : decode cX9_quarrel 37 = .ok (.iaload, 1) := by decide +kernel
theorem dX9_quarrel_38 : decode cX9_quarrel 38 = .ok (.ishr, 1) := by decide +kernel
theorem dX9_quarrel_39 : decode cX9_quarrel 39 = .ok (.iconst 1, 1) := by decide +kernel
theorem dX9_quarrel_40 : decode cX9_quarrel 40 = .ok (.iand, 1) := by decide +kernel
theorem dX9_quarrel_41 : decode cX9_quarrel 41 = .ok (.iconst 1, 1) := by decide +kernel
theorem dX9_quarrel_42 : decode cX9_quarrel 42 = .ok (.if_icmp .ne 39, 3) := by decide +kernel
theorem dX9_quarrel_45 : decode cX9_quarrel 45 = .ok (.aload_n 0, 1) := by decide +kernel
theorem dX9_quarrel_46 : decode cX9_quarrel 46 = .ok (.getfield 98, 3) := by decide +kernel
theorem dX9_quarrel_49 : decode cX9_quarrel 49 = .ok (.iload 4, 2) := by decide +kernel
theorem dX9_quarrel_51 : decode cX9_quarrel 51 = .ok (.iaload, 1) := by decide +kernel
theorem dX9_quarrel_52 : decode cX9_quarrel 52 = .ok (.iconst 1, 1) := by decide +kernel
theorem dX9_quarrel_53 : decode cX9_quarrel 53 = .ok (.if_icmp .gt 18, 3) := by decide +kernel
theorem dX9_quarrel_56 : decode cX9_quarrel 56 = .ok (.iload_n 1, 1) := by decide +kernel
theorem dX9_quarrel_57 : decode cX9_quarrel 57 = .ok (.aload_n 0, 1) := by decide +kernel
theorem dX9_quarrel_58 : decode cX9_quarrel 58 = .ok (.getfield 104, 3) := by decide +kernel
theorem dX9_quarrel_61 : decode cX9_quarrel 61 = .ok (.iload 4, 2) := by decide +kernel
theorem dX9_quarrel_63 : decode cX9_quarrel 63 = .ok (.iaload, 1) := by decide +kernel
theorem dX9_quarrel_64 : decode cX9_quarrel 64 = .ok (.ishr, 1) := by decide +kernel
theorem dX9_quarrel_65 : decode cX9_quarrel 65 = .ok (.iconst 1, 1) := by decide +kernel
theorem dX9_quarrel_66 : decode cX9_quarrel 66 = .ok (.iand, 1) := by decide +kernel
theorem dX9_quarrel_67 : decode cX9_quarrel 67 = .ok (.iconst 1, 1) := by decide +kernel
theorem dX9_quarrel_68 : decode cX9_quarrel 68 = .ok (.if_icmp .ne 13, 3) := by decide +kernel
theorem dX9_quarrel_71 : decode cX9_quarrel 71 = .ok (.iload_n 3, 1) := by decide +kernel
theorem dX9_quarrel_72 : decode cX9_quarrel 72 = .ok (.aload_n 0, 1) := by decide +kernel
theorem dX9_quarrel_73 : decode cX9_quarrel 73 = .ok (.getfield 107, 3) := by decide +kernel
theorem dX9_quarrel_76 : decode cX9_quarrel 76 = .ok (.iload 4, 2) := by decide +kernel
theorem dX9_quarrel_78 : decode cX9_quarrel 78 = .ok (.iaload, 1) := by decide +kernel
theorem dX9_quarrel_79 : decode cX9_quarrel 79 = .ok (.iadd, 1) := by decide +kernel
theorem dX9_quarrel_80 : decode cX9_quarrel 80 = .ok (.istore_n 3, 1) := by decide +kernel
theorem dX9_quarrel_81 : decode cX9_quarrel 81 = .ok (.iinc 4 1, 3) := by decide +kernel
theorem dX9_quarrel_84 : decode cX9_quarrel 84 = .ok (.goto (-63), 3) := by decide +kernel
theorem dX9_quarrel_87 : decode cX9_quarrel 87 = .ok (.iload_n 3, 1) := by decide +kernel
theorem dX9_quarrel_88 : decode cX9_quarrel 88 = .ok (.aload_n 0, 1) := by decide +kernel
theorem dX9_quarrel_89 : decode cX9_quarrel 89 = .ok (.iload_n 1, 1) := by decide +kernel
theorem dX9_quarrel_90 : decode cX9_quarrel 90 = .ok (.invokevirtual 242, 3) := by decide +kernel
theorem dX9_quarrel_93 : decode cX9_quarrel 93 = .ok (.isub, 1) := by decide +kernel
theorem dX9_quarrel_94 : decode cX9_quarrel 94 = .ok (.ireturn, 1) := by decide +kernel
theorem dX9_part_0 : decode cX9_part 0 = .ok (.iload_n 1, 1) := by decide +kernel
theorem dX9_part_1 : decode cX9_part 1 = .ok (.bipush 10, 2) := by decide +kernel
theorem dX9_part_3 : decode cX9_part 3 = .ok (.invokestatic 126, 3) := by decide +kernel
theorem dX9_part_6 : decode cX9_part 6 = .ok (.ifCond .eq 12, 3) := by decide +kernel
theorem dX9_part_9 : decode cX9_part 9 = .ok (.iload_n 2, 1) := by decide +kernel
theorem dX9_part_10 : decode cX9_part 10 = .ok (.iconst 0, 1) := by decide +kernel
theorem dX9_part_11 : decode cX9_part 11 = .ok (.iconst 5, 1) := by decide +kernel
theorem dX9_part_12 : decode cX9_part 12 = .ok (.invokestatic 137, 3) := by decide +kernel
theorem dX9_part_15 : decode cX9_part 15 = .ok (.goto 4, 3) := by decide +kernel
theorem dX9_part_18 : decode cX9_part 18 = .ok (.iconst (-1), 1) := by decide +kernel
theorem dX9_part_19 : decode cX9_part 19 = .ok (.istore_n 3, 1) := by decide +kernel
theorem dX9_part_20 : decode cX9_part 20 = .ok (.iload_n 3, 1) := by decide +kernel
theorem dX9_part_21 : decode cX9_part 21 = .ok (.ifCond .eq 9, 3) := by decide +kernel
theorem dX9_part_24 : decode cX9_part 24 = .ok (.aload_n 0, 1) := by decide +kernel
theorem dX9_part_25 : decode cX9_part 25 = .ok (.iload_n 3, 1) := by decide +kernel
theorem dX9_part_26 : decode cX9_part 26 = .ok (.invokevirtual 130, 3) := by decide +kernel
theorem dX9_part_29 : decode cX9_part 29 = .ok (.ireturn, 1) := by decide +kernel
theorem dX9_part_30 : decode cX9_part 30 = .ok (.aload_n 0, 1) := by decide +kernel
theorem dX9_part_31 : decode cX9_part 31 = .ok (.getfield 119, 3) := by decide +kernel
theorem dX9_part_34 : decode cX9_part 34 = .ok (.iload_n 1, 1) := by decide +kernel
theorem dX9_part_35 : decode cX9_part 35 = .ok (.iaload, 1) := by decide +kernel
theorem dX9_part_36 : decode cX9_part 36 = .ok (.istore 4, 2) := by decide +kernel
theorem dX9_part_38 : decode cX9_part 38 = .ok (.aload_n 0, 1) := by decide +kernel
theorem dX9_part_39 : decode cX9_part 39 = .ok (.getfield 119, 3) := by decide +kernel
theorem dX9_part_42 : decode cX9_part 42 = .ok (.iload_n 1, 1) := by decide +kernel
theorem dX9_part_43 : decode cX9_part 43 = .ok (.iload_n 2, 1) := by decide +kernel
theorem dX9_part_44 : decode cX9_part 44 = .ok (.iastore, 1) := by decide +kernel
theorem dX9_part_45 : decode cX9_part 45 = .ok (.iload 4, 2) := by decide +kernel
theorem dX9_part_47 : decode cX9_part 47 = .ok (.ireturn, 1) := by decide +kernel
theorem dX9_clash_0 : decode cX9_clash 0 = .ok (.iload_n 1, 1) := by decide +kernel
theorem dX9_clash_1 : decode cX9_clash 1 = .ok (.ifCond .lt 7, 3) := by decide +kernel
theorem dX9_clash_4 : decode cX9_clash 4 = .ok (.iload_n 2, 1) := by decide +kernel
theorem dX9_clash_5 : decode cX9_clash 5 = .ok (.ifCond .ge 10, 3) := by decide +kernel
theorem dX9_clash_8 : decode cX9_clash 8 = .ok (.aload_n 0, 1) := by decide +kernel
theorem dX9_clash_9 : decode cX9_clash 9 = .ok (.bipush (-4), 2) := by decide +kernel
theorem dX9_clash_11 : decode cX9_clash 11 = .ok (.invokevirtual 130, 3) := by decide +kernel
theorem dX9_clash_14 : decode cX9_clash 14 = .ok (.ireturn, 1) := by decide +kernel
theorem dX9_clash_15 : decode cX9_clash 15 = .ok (.iload_n 1, 1) := by decide +kernel
theorem dX9_clash_16 : decode cX9_clash 16 = .ok (.bipush 6, 2) := by decide +kernel
theorem dX9_clash_18 : decode cX9_clash 18 = .ok (.if_icmp .ge 9, 3) := by decide +kernel
theorem dX9_clash_21 : decode cX9_clash 21 = .ok (.iload_n 2, 1) := by decide +kernel
theorem dX9_clash_22 : decode cX9_clash 22 = .ok (.bipush 6, 2) := by decide +kernel
theorem dX9_clash_24 : decode cX9_clash 24 = .ok (.if_icmp .lt 10, 3) := by decide +kernel
theorem dX9_clash_27 : decode cX9_clash 27 = .ok (.aload_n 0, 1) := by decide +kernel
theorem dX9_clash_28 : decode cX9_clash 28 = .ok (.bipush (-6), 2) := by decide +kernel
theorem dX9_clash_30 : decode cX9_clash 30 = .ok (.invokevirtual 130, 3) := by decide +kernel
theorem dX9_clash_33 : decode cX9_clash 33 = .ok (.ireturn, 1) := by decide +kernel
theorem dX9_clash_34 : decode cX9_clash 34 = .ok (.iload_n 1, 1) := by decide +kernel
theorem dX9_clash_35 : decode cX9_clash 35 = .ok (.iload_n 2, 1) := by decide +kernel
theorem dX9_clash_36 : decode cX9_clash 36 = .ok (.if_icmp .ne 10, 3) := by decide +kernel
theorem dX9_clash_39 : decode cX9_clash 39 = .ok (.aload_n 0, 1) := by decide +kernel
theorem dX9_clash_40 : decode cX9_clash 40 = .ok (.bipush (-3), 2) := by decide +kernel
theorem dX9_clash_42 : decode cX9_clash 42 = .ok (.invokevirtual 130, 3) := by decide +kernel
theorem dX9_clash_45 : decode cX9_clash 45 = .ok (.ireturn, 1) := by decide +kernel
theorem dX9_clash_46 : decode cX9_clash 46 = .ok (.aload_n 0, 1) := by decide +kernel
theorem dX9_clash_47 : decode cX9_clash 47 = .ok (.getfield 122, 3) := by decide +kernel
theorem dX9_clash_50 : decode cX9_clash 50 = .ok (.bipush 6, 2) := by decide +kernel
theorem dX9_clash_52 : decode cX9_clash 52 = .ok (.iload_n 1, 1) := by decide +kernel
theorem dX9_clash_53 : decode cX9_clash 53 = .ok (.imul, 1) := by decide +kernel
theorem dX9_clash_54 : decode cX9_clash 54 = .ok (.iload_n 2, 1) := by decide +kernel
theorem dX9_clash_55 : decode cX9_clash 55 = .ok (.iadd, 1) := by decide +kernel
theorem dX9_clash_56 : decode cX9_clash 56 = .ok (.baload, 1) := by decide +kernel
theorem dX9_clash_57 : decode cX9_clash 57 = .ok (.iload_n 3, 1) := by decide +kernel
theorem dX9_clash_58 : decode cX9_clash 58 = .ok (.if_icmp .ne 5, 3) := by decide +kernel
theorem dX9_clash_61 : decode cX9_clash 61 = .ok (.iconst 0, 1) := by decide +kernel
theorem dX9_clash_62 : decode cX9_clash 62 = .ok (.ireturn, 1) := by decide +kernel
theorem dX9_clash_63 : decode cX9_clash 63 = .ok (.aload_n 0, 1) := by decide +kernel
theorem dX9_clash_64 : decode cX9_clash 64 = .ok (.getfield 122, 3) := by decide +kernel
theorem dX9_clash_67 : decode cX9_clash 67 = .ok (.bipush 6, 2) := by decide +kernel
theorem dX9_clash_69 : decode cX9_clash 69 = .ok (.iload_n 1, 1) := by decide +kernel
theorem dX9_clash_70 : decode cX9_clash 70 = .ok (.imul, 1) := by decide +kernel
theorem dX9_clash_71 : decode cX9_clash 71 = .ok (.iload_n 2, 1) := by decide +kernel
theorem dX9_clash_72 : decode cX9_clash 72 = .ok (.iadd, 1) := by decide +kernel
theorem dX9_clash_73 : decode cX9_clash 73 = .ok (.iload_n 3, 1) := by decide +kernel
theorem dX9_clash_74 : decode cX9_clash 74 = .ok (.bastore, 1) := by decide +kernel
theorem dX9_clash_75 : decode cX9_clash 75 = .ok (.aload_n 0, 1) := by decide +kernel
theorem dX9_clash_76 : decode cX9_clash 76 = .ok (.getfield 122, 3) := by decide +kernel
theorem dX9_clash_79 : decode cX9_clash 79 = .ok (.bipush 6, 2) := by decide +kernel
theorem dX9_clash_81 : decode cX9_clash 81 = .ok (.iload_n 2, 1) := by decide +kernel
theorem dX9_clash_82 : decode cX9_clash 82 = .ok (.imul, 1) := by decide +kernel
theorem dX9_clash_83 : decode cX9_clash 83 = .ok (.iload_n 1, 1) := by decide +kernel
theorem dX9_clash_84 : decode cX9_clash 84 = .ok (.iadd, 1) := by decide +kernel
theorem dX9_clash_85 : decode cX9_clash 85 = .ok (.iload_n 3, 1) := by decide +kernel
theorem dX9_clash_86 : decode cX9_clash 86 = .ok (.bastore, 1) := by decide +kernel
theorem dX9_clash_87 : decode cX9_clash 87 = .ok (.iconst 1, 1) := by decide +kernel
theorem dX9_clash_88 : decode cX9_clash 88 = .ok (.ireturn, 1) := by decide +kernel
theorem dX9_isFake_0 : decode cX9_isFake 0 = .ok (.iconst 0, 1) := by decide +kernel
theorem dX9_isFake_1 : decode cX9_isFake 1 = .ok (.istore_n 2, 1) := by decide +kernel
theorem dX9_isFake_2 : decode cX9_isFake 2 = .ok (.iconst 0, 1) := by decide +kernel
theorem dX9_isFake_3 : decode cX9_isFake 3 = .ok (.istore_n 3, 1) := by decide +kernel
theorem dX9_isFake_4 : decode cX9_isFake 4 = .ok (.iload_n 3, 1) := by decide +kernel
theorem dX9_isFake_5 : decode cX9_isFake 5 = .ok (.bipush 10, 2) := by decide +kernel
theorem dX9_isFake_7 : decode cX9_isFake 7 = .ok (.if_icmp .ge 78, 3) := by decide +kernel
theorem dX9_isFake_10 : decode cX9_isFake 10 = .ok (.iconst 0, 1) := by decide +kernel
theorem dX9_isFake_11 : decode cX9_isFake 11 = .ok (.istore 4, 2) := by decide +kernel
theorem dX9_isFake_13 : decode cX9_isFake 13 = .ok (.iload 4, 2) := by decide +kernel
theorem dX9_isFake_15 : decode cX9_isFake 15 = .ok (.iload_n 3, 1) := by decide +kernel
theorem dX9_isFake_16 : decode cX9_isFake 16 = .ok (.if_icmp .ge 63, 3) := by decide +kernel
theorem dX9_isFake_19 : decode cX9_isFake 19 = .ok (.iload_n 2, 1) := by decide +kernel
theorem dX9_isFake_20 : decode cX9_isFake 20 = .ok (.ifCond .ne 47, 3) := by decide +kernel
theorem dX9_isFake_23 : decode cX9_isFake 23 = .ok (.iload_n 1, 1) := by decide +kernel
theorem dX9_isFake_24 : decode cX9_isFake 24 = .ok (.iload_n 3, 1) := by decide +kernel
theorem dX9_isFake_25 : decode cX9_isFake 25 = .ok (.ishr, 1) := by decide +kernel
theorem dX9_isFake_26 : decode cX9_isFake 26 = .ok (.iconst 1, 1) := by decide +kernel
theorem dX9_isFake_27 : decode cX9_isFake 27 = .ok (.iand, 1) := by decide +kernel
theorem dX9_isFake_28 : decode cX9_isFake 28 = .ok (.iconst 1, 1) := by decide +kernel
theorem dX9_isFake_29 : decode cX9_isFake 29 = .ok (.if_icmp .ne 42, 3) := by decide +kernel
theorem dX9_isFake_32 : decode cX9_isFake 32 = .ok (.iload_n 1, 1) := by decide +kernel
theorem dX9_isFake_33 : decode cX9_isFake 33 = .ok (.iload 4, 2) := by decide +kernel
theorem dX9_isFake_35 : decode cX9_isFake 35 = .ok (.ishr, 1) := by decide +kernel
theorem dX9_isFake_36 : decode cX9_isFake 36 = .ok (.iconst 1, 1) := by decide +kernel
theorem dX9_isFake_37 : decode cX9_isFake 37 = .ok (.iand, 1) := by decide +kernel
theorem dX9_isFake_38 : decode cX9_isFake 38 = .ok (.iconst 1, 1) := by decide +kernel
theorem dX9_isFake_39 : decode cX9_isFake 39 = .ok (.if_icmp .ne 32, 3) := by decide +kernel
theorem dX9_isFake_42 : decode cX9_isFake 42 = .ok (.aload_n 0, 1) := by decide +kernel
theorem dX9_isFake_43 : decode cX9_isFake 43 = .ok (.getfield 122, 3) := by decide +kernel
theorem dX9_isFake_46 : decode cX9_isFake 46 = .ok (.bipush 6, 2) := by decide +kernel
theorem dX9_isFake_48 : decode cX9_isFake 48 = .ok (.aload_n 0, 1) := by decide +kernel
theorem dX9_isFake_49 : decode cX9_isFake 49 = .ok (.getfield 119, 3) := by decide +kernel
theorem dX9_isFake_52 : decode cX9_isFake 52 = .ok (.iload_n 3, 1) := by decide +kernel
theorem dX9_isFake_53 : decode cX9_isFake 53 = .ok (.iaload, 1) := by decide +kernel
theorem dX9_isFake_54 : decode cX9_isFake 54 = .ok (.imul, 1) := by decide +kernel
theorem dX9_isFake_55 : decode cX9_isFake 55 = .ok (.aload_n 0, 1) := by decide +kernel
theorem dX9_isFake_56 : decode cX9_isFake 56 = .ok (.getfield 119, 3) := by decide +kernel
theorem dX9_isFake_59 : decode cX9_isFake 59 = .ok (.iload 4, 2) := by decide +kernel
theorem dX9_isFake_61 : decode cX9_isFake 61 = .ok (.iaload, 1) := by decide +kernel
theorem dX9_isFake_62 : decode cX9_isFake 62 = .ok (.iadd, 1) := by decide +kernel
theorem dX9_isFake_63 : decode cX9_isFake 63 = .ok (.baload, 1) := by decide +kernel
theorem dX9_isFake_64 : decode cX9_isFake 64 = .ok (.ifCond .eq 7, 3) := by decide +kernel
theorem dX9_isFake_67 : decode cX9_isFake 67 = .ok (.iconst 1, 1) := by decide +kernel
theorem dX9_isFake_68 : decode cX9_isFake 68 = .ok (.goto 4, 3) := by decide +kernel
theorem dX9_isFake_71 : decode cX9_isFake 71 = .ok (.iconst 0, 1) := by decide +kernel
theorem dX9_isFake_72 : decode cX9_isFake 72 = .ok (.istore_n 2, 1) := by decide +kernel
theorem dX9_isFake_73 : decode cX9_isFake 73 = .ok (.iinc 4 1, 3) := by decide +kernel
theorem dX9_isFake_76 : decode cX9_isFake 76 = .ok (.goto (-63), 3) := by decide +kernel
theorem dX9_isFake_79 : decode cX9_isFake 79 = .ok (.iinc 3 1, 3) := by decide +kernel
theorem dX9_isFake_82 : decode cX9_isFake 82 = .ok (.goto (-78), 3) := by decide +kernel
theorem dX9_isFake_85 : decode cX9_isFake 85 = .ok (.iload_n 2, 1) := by decide +kernel
theorem dX9_isFake_86 : decode cX9_isFake 86 = .ok (.ireturn, 1) := by decide +kernel
theorem dX9_isBeast_0 : decode cX9_isBeast 0 = .ok (.iload_n 0, 1) := by decide +kernel
theorem dX9_isBeast_1 : decode cX9_isBeast 1 = .ok (.ifCond .lt 14, 3) := by decide +kernel
theorem dX9_isBeast_4 : decode cX9_isBeast 4 = .ok (.iload_n 0, 1) := by decide +kernel
theorem dX9_isBeast_5 : decode cX9_isBeast 5 = .ok (.sipush 1024, 3) := by decide +kernel
theorem dX9_isBeast_8 : decode cX9_isBeast 8 = .ok (.if_icmp .ge 7, 3) := by decide +kernel
theorem dX9_isBeast_11 : decode cX9_isBeast 11 = .ok (.iconst 1, 1) := by decide +kernel
theorem dX9_isBeast_12 : decode cX9_isBeast 12 = .ok (.goto 4, 3) := by decide +kernel
theorem dX9_isBeast_15 : decode cX9_isBeast 15 = .ok (.iconst 0, 1) := by decide +kernel
theorem dX9_isBeast_16 : decode cX9_isBeast 16 = .ok (.ireturn, 1) := by decide +kernel
theorem dX9_fake_0 : decode cX9_fake 0 = .ok (.iload_n 1, 1) := by decide +kernel
theorem dX9_fake_1 : decode cX9_fake 1 = .ok (.invokestatic 245, 3) := by decide +kernel
theorem dX9_fake_4 : decode cX9_fake 4 = .ok (.ifCond .eq 19, 3) := by decide +kernel
theorem dX9_fake_7 : decode cX9_fake 7 = .ok (.aload_n 0, 1) := by decide +kernel
theorem dX9_fake_8 : decode cX9_fake 8 = .ok (.iload_n 1, 1) := by decide +kernel
theorem dX9_fake_9 : decode cX9_fake 9 = .ok (.invokevirtual 249, 3) := by decide +kernel
theorem dX9_fake_12 : decode cX9_fake 12 = .ok (.ifCond .eq 7, 3) := by decide +kernel
theorem dX9_fake_15 : decode cX9_fake 15 = .ok (.iconst 1, 1) := by decide +kernel
theorem dX9_fake_16 : decode cX9_fake 16 = .ok (.goto 12, 3) := by decide +kernel
theorem dX9_fake_19 : decode cX9_fake 19 = .ok (.iconst 0, 1) := by decide +kernel
theorem dX9_fake_20 : decode cX9_fake 20 = .ok (.goto 8, 3) := by decide +kernel
theorem dX9_fake_23 : decode cX9_fake 23 = .ok (.aload_n 0, 1) := by decide +kernel
theorem dX9_fake_24 : decode cX9_fake 24 = .ok (.iconst (-1), 1) := by decide +kernel
theorem dX9_fake_25 : decode cX9_fake 25 = .ok (.invokevirtual 130, 3) := by decide +kernel
theorem dX9_fake_28 : decode cX9_fake 28 = .ok (.ireturn, 1) := by decide +kernel
theorem dX9_least_0 : decode cX9_least 0 = .ok (.iload_n 1, 1) := by decide +kernel
theorem dX9_least_1 : decode cX9_least 1 = .ok (.invokestatic 245, 3) := by decide +kernel
theorem dX9_least_4 : decode cX9_least 4 = .ok (.ifCond .ne 9, 3) := by decide +kernel
theorem dX9_least_7 : decode cX9_least 7 = .ok (.aload_n 0, 1) := by decide +kernel
theorem dX9_least_8 : decode cX9_least 8 = .ok (.iconst (-1), 1) := by decide +kernel
theorem dX9_least_9 : decode cX9_least 9 = .ok (.invokevirtual 130, 3) := by decide +kernel
theorem dX9_least_12 : decode cX9_least 12 = .ok (.ireturn, 1) := by decide +kernel
theorem dX9_least_13 : decode cX9_least 13 = .ok (.iload_n 1, 1) := by decide +kernel
theorem dX9_least_14 : decode cX9_least 14 = .ok (.istore_n 2, 1) := by decide +kernel
theorem dX9_least_15 : decode cX9_least 15 = .ok (.iconst 0, 1) := by decide +kernel
theorem dX9_least_16 : decode cX9_least 16 = .ok (.istore_n 3, 1) := by decide +kernel
theorem dX9_least_17 : decode cX9_least 17 = .ok (.iload_n 3, 1) := by decide +kernel
theorem dX9_least_18 : decode cX9_least 18 = .ok (.sipush 1024, 3) := by decide +kernel
theorem dX9_least_21 : decode cX9_least 21 = .ok (.if_icmp .ge 42, 3) := by decide +kernel
theorem dX9_least_24 : decode cX9_least 24 = .ok (.iload_n 3, 1) := by decide +kernel
theorem dX9_least_25 : decode cX9_least 25 = .ok (.iload_n 1, 1) := by decide +kernel
theorem dX9_least_26 : decode cX9_least 26 = .ok (.iconst (-1), 1) := by decide +kernel
theorem dX9_least_27 : decode cX9_least 27 = .ok (.ixor, 1) := by decide +kernel
theorem dX9_least_28 : decode cX9_least 28 = .ok (.iand, 1) := by decide +kernel
theorem dX9_least_29 : decode cX9_least 29 = .ok (.ifCond .ne 28, 3) := by decide +kernel
theorem dX9_least_32 : decode cX9_least 32 = .ok (.iload_n 3, 1) := by decide +kernel
theorem dX9_least_33 : decode cX9_least 33 = .ok (.invokestatic 159, 3) := by decide +kernel
theorem dX9_least_36 : decode cX9_least 36 = .ok (.iload_n 2, 1) := by decide +kernel
theorem dX9_least_37 : decode cX9_least 37 = .ok (.invokestatic 159, 3) := by decide +kernel
theorem dX9_least_40 : decode cX9_least 40 = .ok (.if_icmp .ge 17, 3) := by decide +kernel
theorem dX9_least_43 : decode cX9_least 43 = .ok (.aload_n 0, 1) := by decide +kernel
theorem dX9_least_44 : decode cX9_least 44 = .ok (.iload_n 1, 1) := by decide +kernel
theorem dX9_least_45 : decode cX9_least 45 = .ok (.iload_n 3, 1) := by decide +kernel
theorem dX9_least_46 : decode cX9_least 46 = .ok (.iconst (-1), 1) := by decide +kernel
theorem dX9_least_47 : decode cX9_least 47 = .ok (.ixor, 1) := by decide +kernel
theorem dX9_least_48 : decode cX9_least 48 = .ok (.iand, 1) := by decide +kernel
theorem dX9_least_49 : decode cX9_least 49 = .ok (.invokevirtual 249, 3) := by decide +kernel
theorem dX9_least_52 : decode cX9_least 52 = .ok (.ifCond .ne 5, 3) := by decide +kernel
theorem dX9_least_55 : decode cX9_least 55 = .ok (.iload_n 3, 1) := by decide +kernel
theorem dX9_least_56 : decode cX9_least 56 = .ok (.istore_n 2, 1) := by decide +kernel
theorem dX9_least_57 : decode cX9_least 57 = .ok (.iinc 3 1, 3) := by decide +kernel
theorem dX9_least_60 : decode cX9_least 60 = .ok (.goto (-43), 3) := by decide +kernel
theorem dX9_least_63 : decode cX9_least 63 = .ok (.aload_n 0, 1) := by decide +kernel
theorem dX9_least_64 : decode cX9_least 64 = .ok (.iload_n 1, 1) := by decide +kernel
theorem dX9_least_65 : decode cX9_least 65 = .ok (.invokevirtual 249, 3) := by decide +kernel
theorem dX9_least_68 : decode cX9_least 68 = .ok (.ifCond .eq 7, 3) := by decide +kernel
theorem dX9_least_71 : decode cX9_least 71 = .ok (.iload_n 2, 1) := by decide +kernel
theorem dX9_least_72 : decode cX9_least 72 = .ok (.goto 4, 3) := by decide +kernel
theorem dX9_least_75 : decode cX9_least 75 = .ok (.iconst 0, 1) := by decide +kernel
theorem dX9_least_76 : decode cX9_least 76 = .ok (.ireturn, 1) := by decide +kernel
theorem dX9_count_0 : decode cX9_count 0 = .ok (.iload_n 1, 1) := by decide +kernel
theorem dX9_count_1 : decode cX9_count 1 = .ok (.bipush 10, 2) := by decide +kernel
theorem dX9_count_3 : decode cX9_count 3 = .ok (.if_icmp .le 19, 3) := by decide +kernel
theorem dX9_count_6 : decode cX9_count 6 = .ok (.iload_n 1, 1) := by decide +kernel
theorem dX9_count_7 : decode cX9_count 7 = .ok (.bipush 17, 2) := by decide +kernel
theorem dX9_count_9 : decode cX9_count 9 = .ok (.if_icmp .ge 13, 3) := by decide +kernel
theorem dX9_count_12 : decode cX9_count 12 = .ok (.aload_n 0, 1) := by decide +kernel
theorem dX9_count_13 : decode cX9_count 13 = .ok (.getfield 7, 3) := by decide +kernel
theorem dX9_count_16 : decode cX9_count 16 = .ok (.iload_n 1, 1) := by decide +kernel
theorem dX9_count_17 : decode cX9_count 17 = .ok (.bipush 10, 2) := by decide +kernel
theorem dX9_count_19 : decode cX9_count 19 = .ok (.isub, 1) := by decide +kernel
theorem dX9_count_20 : decode cX9_count 20 = .ok (.iaload, 1) := by decide +kernel
theorem dX9_count_21 : decode cX9_count 21 = .ok (.ireturn, 1) := by decide +kernel
theorem dX9_count_22 : decode cX9_count 22 = .ok (.iload_n 1, 1) := by decide +kernel
theorem dX9_count_23 : decode cX9_count 23 = .ok (.iconst 4, 1) := by decide +kernel
theorem dX9_count_24 : decode cX9_count 24 = .ok (.invokestatic 126, 3) := by decide +kernel
theorem dX9_count_27 : decode cX9_count 27 = .ok (.ifCond .eq 10, 3) := by decide +kernel
theorem dX9_count_30 : decode cX9_count 30 = .ok (.aload_n 0, 1) := by decide +kernel
theorem dX9_count_31 : decode cX9_count 31 = .ok (.getfield 19, 3) := by decide +kernel
theorem dX9_count_34 : decode cX9_count 34 = .ok (.iload_n 1, 1) := by decide +kernel
theorem dX9_count_35 : decode cX9_count 35 = .ok (.iaload, 1) := by decide +kernel
theorem dX9_count_36 : decode cX9_count 36 = .ok (.ireturn, 1) := by decide +kernel
theorem dX9_count_37 : decode cX9_count 37 = .ok (.iconst 0, 1) := by decide +kernel
theorem dX9_count_38 : decode cX9_count 38 = .ok (.istore_n 2, 1) := by decide +kernel
theorem dX9_count_39 : decode cX9_count 39 = .ok (.iload_n 1, 1) := by decide +kernel
theorem dX9_count_40 : decode cX9_count 40 = .ok (.tableswitch 186 4 9 #[40, 45, 50, 55, 60, 114], 40) := by decide +kernel
theorem dX9_count_80 : decode cX9_count 80 = .ok (.aload_n 0, 1) := by decide +kernel
theorem dX9_count_81 : decode cX9_count 81 = .ok (.getfield 198, 3) := by decide +kernel
theorem dX9_count_84 : decode cX9_count 84 = .ok (.ireturn, 1) := by decide +kernel
theorem dX9_count_85 : decode cX9_count 85 = .ok (.aload_n 0, 1) := by decide +kernel
theorem dX9_count_86 : decode cX9_count 86 = .ok (.getfield 202, 3) := by decide +kernel
theorem dX9_count_89 : decode cX9_count 89 = .ok (.ireturn, 1) := by decide +kernel
theorem dX9_count_90 : decode cX9_count 90 = .ok (.aload_n 0, 1) := by decide +kernel
theorem dX9_count_91 : decode cX9_count 91 = .ok (.getfield 227, 3) := by decide +kernel
theorem dX9_count_94 : decode cX9_count 94 = .ok (.ireturn, 1) := by decide +kernel
theorem dX9_count_95 : decode cX9_count 95 = .ok (.aload_n 0, 1) := by decide +kernel
theorem dX9_count_96 : decode cX9_count 96 = .ok (.getfield 142, 3) := by decide +kernel
theorem dX9_count_99 : decode cX9_count 99 = .ok (.ireturn, 1) := by decide +kernel
theorem dX9_count_100 : decode cX9_count 100 = .ok (.iconst 0, 1) := by decide +kernel
theorem dX9_count_101 : decode cX9_count 101 = .ok (.istore_n 3, 1) := by decide +kernel
theorem dX9_count_102 : decode cX9_count 102 = .ok (.iload_n 3, 1) := by decide +kernel
theorem dX9_count_103 : decode cX9_count 103 = .ok (.bipush 6, 2) := by decide +kernel
theorem dX9_count_105 : decode cX9_count 105 = .ok (.if_icmp .ge 47, 3) := by decide +kernel
theorem dX9_count_108 : decode cX9_count 108 = .ok (.iconst 0, 1) := by decide +kernel
theorem dX9_count_109 : decode cX9_count 109 = .ok (.istore 4, 2) := by decide +kernel
theorem dX9_count_111 : decode cX9_count 111 = .ok (.iload 4, 2) := by decide +kernel
theorem dX9_count_113 : decode cX9_count 113 = .ok (.iload_n 3, 1) := by decide +kernel
theorem dX9_count_114 : decode cX9_count 114 = .ok (.if_icmp .ge 32, 3) := by decide +kernel
theorem dX9_count_117 : decode cX9_count 117 = .ok (.iload_n 2, 1) := by decide +kernel
theorem dX9_count_118 : decode cX9_count 118 = .ok (.aload_n 0, 1) := by decide +kernel
theorem dX9_count_119 : decode cX9_count 119 = .ok (.getfield 122, 3) := by decide +kernel
theorem dX9_count_122 : decode cX9_count 122 = .ok (.bipush 6, 2) := by decide +kernel
theorem dX9_count_124 : decode cX9_count 124 = .ok (.iload_n 3, 1) := by decide +kernel
theorem dX9_count_125 : decode cX9_count 125 = .ok (.imul, 1) := by decide +kernel
theorem dX9_count_126 : decode cX9_count 126 = .ok (.iload 4, 2) := by decide +kernel
theorem dX9_count_128 : decode cX9_count 128 = .ok (.iadd, 1) := by decide +kernel
theorem dX9_count_129 : decode cX9_count 129 = .ok (.baload, 1) := by decide +kernel
theorem dX9_count_130 : decode cX9_count 130 = .ok (.ifCond .eq 7, 3) := by decide +kernel
theorem dX9_count_133 : decode cX9_count 133 = .ok (.iconst 1, 1) := by decide +kernel
theorem dX9_count_134 : decode cX9_count 134 = .ok (.goto 4, 3) := by decide +kernel
theorem dX9_count_137 : decode cX9_count 137 = .ok (.iconst 0, 1) := by decide +kernel
theorem dX9_count_138 : decode cX9_count 138 = .ok (.iadd, 1) := by decide +kernel
theorem dX9_count_139 : decode cX9_count 139 = .ok (.istore_n 2, 1) := by decide +kernel
theorem dX9_count_140 : decode cX9_count 140 = .ok (.iinc 4 1, 3) := by decide +kernel
theorem dX9_count_143 : decode cX9_count 143 = .ok (.goto (-32), 3) := by decide +kernel
theorem dX9_count_146 : decode cX9_count 146 = .ok (.iinc 3 1, 3) := by decide +kernel
theorem dX9_count_149 : decode cX9_count 149 = .ok (.goto (-47), 3) := by decide +kernel
theorem dX9_count_152 : decode cX9_count 152 = .ok (.iload_n 2, 1) := by decide +kernel
theorem dX9_count_153 : decode cX9_count 153 = .ok (.ireturn, 1) := by decide +kernel
theorem dX9_count_154 : decode cX9_count 154 = .ok (.iconst 0, 1) := by decide +kernel
theorem dX9_count_155 : decode cX9_count 155 = .ok (.istore_n 3, 1) := by decide +kernel
theorem dX9_count_156 : decode cX9_count 156 = .ok (.iload_n 3, 1) := by decide +kernel
theorem dX9_count_157 : decode cX9_count 157 = .ok (.aload_n 0, 1) := by decide +kernel
theorem dX9_count_158 : decode cX9_count 158 = .ok (.getfield 198, 3) := by decide +kernel
theorem dX9_count_161 : decode cX9_count 161 = .ok (.if_icmp .ge 28, 3) := by decide +kernel
theorem dX9_count_164 : decode cX9_count 164 = .ok (.iload_n 2, 1) := by decide +kernel
theorem dX9_count_165 : decode cX9_count 165 = .ok (.aload_n 0, 1) := by decide +kernel
theorem dX9_count_166 : decode cX9_count 166 = .ok (.getfield 71, 3) := by decide +kernel
theorem dX9_count_169 : decode cX9_count 169 = .ok (.iload_n 3, 1) := by decide +kernel
theorem dX9_count_170 : decode cX9_count 170 = .ok (.iaload, 1) := by decide +kernel
theorem dX9_count_171 : decode cX9_count 171 = .ok (.ldc 201, 2) := by decide +kernel
theorem dX9_count_173 : decode cX9_count 173 = .ok (.if_icmp .ge 7, 3) := by decide +kernel
theorem dX9_count_176 : decode cX9_count 176 = .ok (.iconst 1, 1) := by decide +kernel
theorem dX9_count_177 : decode cX9_count 177 = .ok (.goto 4, 3) := by decide +kernel
theorem dX9_count_180 : decode cX9_count 180 = .ok (.iconst 0, 1) := by decide +kernel
theorem dX9_count_181 : decode cX9_count 181 = .ok (.iadd, 1) := by decide +kernel
theorem dX9_count_182 : decode cX9_count 182 = .ok (.istore_n 2, 1) := by decide +kernel
theorem dX9_count_183 : decode cX9_count 183 = .ok (.iinc 3 1, 3) := by decide +kernel
theorem dX9_count_186 : decode cX9_count 186 = .ok (.goto (-30), 3) := by decide +kernel
theorem dX9_count_189 : decode cX9_count 189 = .ok (.iconst 0, 1) := by decide +kernel
theorem dX9_count_190 : decode cX9_count 190 = .ok (.istore_n 3, 1) := by decide +kernel
theorem dX9_count_191 : decode cX9_count 191 = .ok (.iload_n 3, 1) := by decide +kernel
theorem dX9_count_192 : decode cX9_count 192 = .ok (.aload_n 0, 1) := by decide +kernel
theorem dX9_count_193 : decode cX9_count 193 = .ok (.getfield 202, 3) := by decide +kernel
theorem dX9_count_196 : decode cX9_count 196 = .ok (.if_icmp .ge 28, 3) := by decide +kernel
theorem dX9_count_199 : decode cX9_count 199 = .ok (.iload_n 2, 1) := by decide +kernel
theorem dX9_count_200 : decode cX9_count 200 = .ok (.aload_n 0, 1) := by decide +kernel
theorem dX9_count_201 : decode cX9_count 201 = .ok (.getfield 89, 3) := by decide +kernel
theorem dX9_count_204 : decode cX9_count 204 = .ok (.iload_n 3, 1) := by decide +kernel
theorem dX9_count_205 : decode cX9_count 205 = .ok (.iaload, 1) := by decide +kernel
theorem dX9_count_206 : decode cX9_count 206 = .ok (.ldc 201, 2) := by decide +kernel
theorem dX9_count_208 : decode cX9_count 208 = .ok (.if_icmp .ge 7, 3) := by decide +kernel
theorem dX9_count_211 : decode cX9_count 211 = .ok (.iconst 1, 1) := by decide +kernel
theorem dX9_count_212 : decode cX9_count 212 = .ok (.goto 4, 3) := by decide +kernel
theorem dX9_count_215 : decode cX9_count 215 = .ok (.iconst 0, 1) := by decide +kernel
theorem dX9_count_216 : decode cX9_count 216 = .ok (.iadd, 1) := by decide +kernel
theorem dX9_count_217 : decode cX9_count 217 = .ok (.istore_n 2, 1) := by decide +kernel
theorem dX9_count_218 : decode cX9_count 218 = .ok (.iinc 3 1, 3) := by decide +kernel
theorem dX9_count_221 : decode cX9_count 221 = .ok (.goto (-30), 3) := by decide +kernel
theorem dX9_count_224 : decode cX9_count 224 = .ok (.iload_n 2, 1) := by decide +kernel
theorem dX9_count_225 : decode cX9_count 225 = .ok (.ireturn, 1) := by decide +kernel
theorem dX9_count_226 : decode cX9_count 226 = .ok (.bipush (-9), 2) := by decide +kernel
theorem dX9_count_228 : decode cX9_count 228 = .ok (.ireturn, 1) := by decide +kernel
theorem dJ6_bitCount_0f7a4_0 : decode cJ6_bitCount_0f7a4 0 = .ok (.iload_n 0, 1) := by decide +kernel
theorem dJ6_bitCount_0f7a4_1 : decode cJ6_bitCount_0f7a4 1 = .ok (.iload_n 0, 1) := by decide +kernel
theorem dJ6_bitCount_0f7a4_2 : decode cJ6_bitCount_0f7a4 2 = .ok (.iconst 1, 1) := by decide +kernel
theorem dJ6_bitCount_0f7a4_3 : decode cJ6_bitCount_0f7a4 3 = .ok (.iushr, 1) := by decide +kernel
theorem dJ6_bitCount_0f7a4_4 : decode cJ6_bitCount_0f7a4 4 = .ok (.ldc_w 265, 3) := by decide +kernel
theorem dJ6_bitCount_0f7a4_7 : decode cJ6_bitCount_0f7a4 7 = .ok (.iand, 1) := by decide +kernel
theorem dJ6_bitCount_0f7a4_8 : decode cJ6_bitCount_0f7a4 8 = .ok (.isub, 1) := by decide +kernel
theorem dJ6_bitCount_0f7a4_9 : decode cJ6_bitCount_0f7a4 9 = .ok (.istore_n 0, 1) := by decide +kernel
theorem dJ6_bitCount_0f7a4_10 : decode cJ6_bitCount_0f7a4 10 = .ok (.iload_n 0, 1) := by decide +kernel
theorem dJ6_bitCount_0f7a4_11 : decode cJ6_bitCount_0f7a4 11 = .ok (.ldc_w 266, 3) := by decide +kernel
theorem dJ6_bitCount_0f7a4_14 : decode cJ6_bitCount_0f7a4 14 = .ok (.iand, 1) := by decide +kernel
theorem dJ6_bitCount_0f7a4_15 : decode cJ6_bitCount_0f7a4 15 = .ok (.iload_n 0, 1) := by decide +kernel
theorem dJ6_bitCount_0f7a4_16 : decode cJ6_bitCount_0f7a4 16 = .ok (.iconst 2, 1) := by decide +kernel
theorem dJ6_bitCount_0f7a4_17 : decode cJ6_bitCount_0f7a4 17 = .ok (.iushr, 1) := by decide +kernel
theorem dJ6_bitCount_0f7a4_18 : decode cJ6_bitCount_0f7a4 18 = .ok (.ldc_w 266, 3) := by decide +kernel
theorem dJ6_bitCount_0f7a4_21 : decode cJ6_bitCount_0f7a4 21 = .ok (.iand, 1) := by decide +kernel
theorem dJ6_bitCount_0f7a4_22 : decode cJ6_bitCount_0f7a4 22 = .ok (.iadd, 1) := by decide +kernel
theorem dJ6_bitCount_0f7a4_23 : decode cJ6_bitCount_0f7a4 23 = .ok (.istore_n 0, 1) := by decide +kernel
theorem dJ6_bitCount_0f7a4_24 : decode cJ6_bitCount_0f7a4 24 = .ok (.iload_n 0, 1) := by decide +kernel
theorem dJ6_bitCount_0f7a4_25 : decode cJ6_bitCount_0f7a4 25 = .ok (.iload_n 0, 1) := by decide +kernel
theorem dJ6_bitCount_0f7a4_26 : decode cJ6_bitCount_0f7a4 26 = .ok (.iconst 4, 1) := by decide +kernel
theorem dJ6_bitCount_0f7a4_27 : decode cJ6_bitCount_0f7a4 27 = .ok (.iushr, 1) := by decide +kernel
theorem dJ6_bitCount_0f7a4_28 : decode cJ6_bitCount_0f7a4 28 = .ok (.iadd, 1) := by decide +kernel
theorem dJ6_bitCount_0f7a4_29 : decode cJ6_bitCount_0f7a4 29 = .ok (.ldc_w 267, 3) := by decide +kernel
theorem dJ6_bitCount_0f7a4_32 : decode cJ6_bitCount_0f7a4 32 = .ok (.iand, 1) := by decide +kernel
theorem dJ6_bitCount_0f7a4_33 : decode cJ6_bitCount_0f7a4 33 = .ok (.istore_n 0, 1) := by decide +kernel
theorem dJ6_bitCount_0f7a4_34 : decode cJ6_bitCount_0f7a4 34 = .ok (.iload_n 0, 1) := by decide +kernel
theorem dJ6_bitCount_0f7a4_35 : decode cJ6_bitCount_0f7a4 35 = .ok (.iload_n 0, 1) := by decide +kernel
theorem dJ6_bitCount_0f7a4_36 : decode cJ6_bitCount_0f7a4 36 = .ok (.bipush 8, 2) := by decide +kernel
theorem dJ6_bitCount_0f7a4_38 : decode cJ6_bitCount_0f7a4 38 = .ok (.iushr, 1) := by decide +kernel
theorem dJ6_bitCount_0f7a4_39 : decode cJ6_bitCount_0f7a4 39 = .ok (.iadd, 1) := by decide +kernel
theorem dJ6_bitCount_0f7a4_40 : decode cJ6_bitCount_0f7a4 40 = .ok (.istore_n 0, 1) := by decide +kernel
theorem dJ6_bitCount_0f7a4_41 : decode cJ6_bitCount_0f7a4 41 = .ok (.iload_n 0, 1) := by decide +kernel
theorem dJ6_bitCount_0f7a4_42 : decode cJ6_bitCount_0f7a4 42 = .ok (.iload_n 0, 1) := by decide +kernel
theorem dJ6_bitCount_0f7a4_43 : decode cJ6_bitCount_0f7a4 43 = .ok (.bipush 16, 2) := by decide +kernel
theorem dJ6_bitCount_0f7a4_45 : decode cJ6_bitCount_0f7a4 45 = .ok (.iushr, 1) := by decide +kernel
theorem dJ6_bitCount_0f7a4_46 : decode cJ6_bitCount_0f7a4 46 = .ok (.iadd, 1) := by decide +kernel
theorem dJ6_bitCount_0f7a4_47 : decode cJ6_bitCount_0f7a4 47 = .ok (.istore_n 0, 1) := by decide +kernel
theorem dJ6_bitCount_0f7a4_48 : decode cJ6_bitCount_0f7a4 48 = .ok (.iload_n 0, 1) := by decide +kernel
theorem dJ6_bitCount_0f7a4_49 : decode cJ6_bitCount_0f7a4 49 = .ok (.bipush 63, 2) := by decide +kernel
theorem dJ6_bitCount_0f7a4_51 : decode cJ6_bitCount_0f7a4 51 = .ok (.iand, 1) := by decide +kernel
theorem dJ6_bitCount_0f7a4_52 : decode cJ6_bitCount_0f7a4 52 = .ok (.ireturn, 1) := by decide +kernel
theorem dJ9_abs_0f7a4_0 : decode cJ9_abs_0f7a4 0 = .ok (.iload_n 0, 1) := by decide +kernel
theorem dJ9_abs_0f7a4_1 : decode cJ9_abs_0f7a4 1 = .ok (.ifCond .ge 8, 3) := by decide +kernel
theorem dJ9_abs_0f7a4_4 : decode cJ9_abs_0f7a4 4 = .ok (.iload_n 0, 1) := by decide +kernel
theorem dJ9_abs_0f7a4_5 : decode cJ9_abs_0f7a4 5 = .ok (.ineg, 1) := by decide +kernel
theorem dJ9_abs_0f7a4_6 : decode cJ9_abs_0f7a4 6 = .ok (.goto 4, 3) := by decide +kernel
theorem dJ9_abs_0f7a4_9 : decode cJ9_abs_0f7a4 9 = .ok (.iload_n 0, 1) := by decide +kernel
theorem dJ9_abs_0f7a4_10 : decode cJ9_abs_0f7a4 10 = .ok (.ireturn, 1) := by decide +kernel
theorem dJ9_max_7cf53_0 : decode cJ9_max_7cf53 0 = .ok (.iload_n 0, 1) := by decide +kernel
theorem dJ9_max_7cf53_1 : decode cJ9_max_7cf53 1 = .ok (.iload_n 1, 1) := by decide +kernel
theorem dJ9_max_7cf53_2 : decode cJ9_max_7cf53 2 = .ok (.if_icmp .lt 7, 3) := by decide +kernel
theorem dJ9_max_7cf53_5 : decode cJ9_max_7cf53 5 = .ok (.iload_n 0, 1) := by decide +kernel
theorem dJ9_max_7cf53_6 : decode cJ9_max_7cf53 6 = .ok (.goto 4, 3) := by decide +kernel
theorem dJ9_max_7cf53_9 : decode cJ9_max_7cf53 9 = .ok (.iload_n 1, 1) := by decide +kernel
theorem dJ9_max_7cf53_10 : decode cJ9_max_7cf53 10 = .ok (.ireturn, 1) := by decide +kernel
theorem dJ9_min_7cf53_0 : decode cJ9_min_7cf53 0 = .ok (.iload_n 0, 1) := by decide +kernel
theorem dJ9_min_7cf53_1 : decode cJ9_min_7cf53 1 = .ok (.iload_n 1, 1) := by decide +kernel
theorem dJ9_min_7cf53_2 : decode cJ9_min_7cf53 2 = .ok (.if_icmp .gt 7, 3) := by decide +kernel
theorem dJ9_min_7cf53_5 : decode cJ9_min_7cf53 5 = .ok (.iload_n 0, 1) := by decide +kernel
theorem dJ9_min_7cf53_6 : decode cJ9_min_7cf53 6 = .ok (.goto 4, 3) := by decide +kernel
theorem dJ9_min_7cf53_9 : decode cJ9_min_7cf53 9 = .ok (.iload_n 1, 1) := by decide +kernel
theorem dJ9_min_7cf53_10 : decode cJ9_min_7cf53 10 = .ok (.ireturn, 1) := by decide +kernel
theorem dL_law_0 : decode cL_law 0 = .ok (.new 7, 3) := by decide +kernel
theorem dL_law_3 : decode cL_law 3 = .ok (.dup, 1) := by decide +kernel
theorem dL_law_4 : decode cL_law 4 = .ok (.invokespecial 9, 3) := by decide +kernel
theorem dL_law_7 : decode cL_law 7 = .ok (.astore_n 1, 1) := by decide +kernel
theorem dL_law_8 : decode cL_law 8 = .ok (.new 10, 3) := by decide +kernel
theorem dL_law_11 : decode cL_law 11 = .ok (.dup, 1) := by decide +kernel
theorem dL_law_12 : decode cL_law 12 = .ok (.invokespecial 12, 3) := by decide +kernel
theorem dL_law_15 : decode cL_law 15 = .ok (.astore_n 2, 1) := by decide +kernel
theorem dL_law_16 : decode cL_law 16 = .ok (.iconst 0, 1) := by decide +kernel
theorem dL_law_17 : decode cL_law 17 = .ok (.istore_n 3, 1) := by decide +kernel
theorem dL_law_18 : decode cL_law 18 = .ok (.iload_n 3, 1) := by decide +kernel
theorem dL_law_19 : decode cL_law 19 = .ok (.aload_n 0, 1) := by decide +kernel
theorem dL_law_20 : decode cL_law 20 = .ok (.arraylength, 1) := by decide +kernel
theorem dL_law_21 : decode cL_law 21 = .ok (.bipush 6, 2) := by decide +kernel
theorem dL_law_23 : decode cL_law 23 = .ok (.isub, 1) := by decide +kernel
theorem dL_law_24 : decode cL_law 24 = .ok (.if_icmp .gt 1325, 3) := by decide +kernel
theorem dL_law_27 : decode cL_law 27 = .ok (.aload_n 0, 1) := by decide +kernel
theorem dL_law_28 : decode cL_law 28 = .ok (.iload_n 3, 1) := by decide +kernel
theorem dL_law_29 : decode cL_law 29 = .ok (.iaload, 1) := by decide +kernel
theorem dL_law_30 : decode cL_law 30 = .ok (.bipush 31, 2) := by decide +kernel
theorem dL_law_32 : decode cL_law 32 = .ok (.iand, 1) := by decide +kernel
theorem dL_law_33 : decode cL_law 33 = .ok (.tableswitch 1310 0 28 #[131, 164, 187, 220, 283, 316, 369, 422, 455, 498, 531, 574, 627, 670, 723, 786, 845, 888, 921, 974, 1017, 1070, 1093, 1126, 1149, 1182, 1241, 1264, 1287], 131) := by decide +kernel
theorem dL_law_164 : decode cL_law 164 = .ok (.aload_n 1, 1) := by decide +kernel
theorem dL_law_165 : decode cL_law 165 = .ok (.aload_n 0, 1) := by decide +kernel
theorem dL_law_166 : decode cL_law 166 = .ok (.iload_n 3, 1) := by decide +kernel
theorem dL_law_167 : decode cL_law 167 = .ok (.iconst 1, 1) := by decide +kernel
theorem dL_law_168 : decode cL_law 168 = .ok (.iadd, 1) := by decide +kernel
theorem dL_law_169 : decode cL_law 169 = .ok (.iaload, 1) := by decide +kernel
theorem dL_law_170 : decode cL_law 170 = .ok (.aload_n 0, 1) := by decide +kernel
theorem dL_law_171 : decode cL_law 171 = .ok (.iload_n 3, 1) := by decide +kernel
theorem dL_law_172 : decode cL_law 172 = .ok (.iconst 2, 1) := by decide +kernel
theorem dL_law_173 : decode cL_law 173 = .ok (.iadd, 1) := by decide +kernel
theorem dL_law_174 : decode cL_law 174 = .ok (.iaload, 1) := by decide +kernel
theorem dL_law_175 : decode cL_law 175 = .ok (.invokevirtual 13, 3) := by decide +kernel
theorem dL_law_178 : decode cL_law 178 = .ok (.aload_n 2, 1) := by decide +kernel
theorem dL_law_179 : decode cL_law 179 = .ok (.aload_n 0, 1) := by decide +kernel
theorem dL_law_180 : decode cL_law 180 = .ok (.iload_n 3, 1) := by decide +kernel
theorem dL_law_181 : decode cL_law 181 = .ok (.iconst 1, 1) := by decide +kernel
theorem dL_law_182 : decode cL_law 182 = .ok (.iadd, 1) := by decide +kernel
theorem dL_law_183 : decode cL_law 183 = .ok (.iaload, 1) := by decide +kernel
theorem dL_law_184 : decode cL_law 184 = .ok (.aload_n 0, 1) := by decide +kernel
theorem dL_law_185 : decode cL_law 185 = .ok (.iload_n 3, 1) := by decide +kernel
theorem dL_law_186 : decode cL_law 186 = .ok (.iconst 2, 1) := by decide +kernel
theorem dL_law_187 : decode cL_law 187 = .ok (.iadd, 1) := by decide +kernel
theorem dL_law_188 : decode cL_law 188 = .ok (.iaload, 1) := by decide +kernel
theorem dL_law_189 : decode cL_law 189 = .ok (.invokevirtual 17, 3) := by decide +kernel
theorem dL_law_192 : decode cL_law 192 = .ok (.if_icmp .eq 1151, 3) := by decide +kernel
theorem dL_law_195 : decode cL_law 195 = .ok (.iconst 0, 1) := by decide +kernel
theorem dL_law_196 : decode cL_law 196 = .ok (.ireturn, 1) := by decide +kernel
theorem dL_law_197 : decode cL_law 197 = .ok (.aload_n 1, 1) := by decide +kernel
theorem dL_law_198 : decode cL_law 198 = .ok (.aload_n 0, 1) := by decide +kernel
theorem dL_law_199 : decode cL_law 199 = .ok (.iload_n 3, 1) := by decide +kernel
theorem dL_law_200 : decode cL_law 200 = .ok (.iconst 1, 1) := by decide +kernel
theorem dL_law_201 : decode cL_law 201 = .ok (.iadd, 1) := by decide +kernel
theorem dL_law_202 : decode cL_law 202 = .ok (.iaload, 1) := by decide +kernel
theorem dL_law_203 : decode cL_law 203 = .ok (.invokevirtual 18, 3) := by decide +kernel
theorem dL_law_206 : decode cL_law 206 = .ok (.aload_n 2, 1) := by decide +kernel
theorem dL_law_207 : decode cL_law 207 = .ok (.aload_n 0, 1) := by decide +kernel
theorem dL_law_208 : decode cL_law 208 = .ok (.iload_n 3, 1) := by decide +kernel
theorem dL_law_209 : decode cL_law 209 = .ok (.iconst 1, 1) := by decide +kernel
theorem dL_law_210 : decode cL_law 210 = .ok (.iadd, 1) := by decide +kernel
theorem dL_law_211 : decode cL_law 211 = .ok (.iaload, 1) := by decide +kernel
theorem dL_law_212 : decode cL_law 212 = .ok (.invokevirtual 22, 3) := by decide +kernel
theorem dL_law_215 : decode cL_law 215 = .ok (.if_icmp .eq 1128, 3) := by decide +kernel
theorem dL_law_218 : decode cL_law 218 = .ok (.iconst 0, 1) := by decide +kernel
theorem dL_law_219 : decode cL_law 219 = .ok (.ireturn, 1) := by decide +kernel
theorem dL_law_220 : decode cL_law 220 = .ok (.aload_n 1, 1) := by decide +kernel
theorem dL_law_221 : decode cL_law 221 = .ok (.aload_n 0, 1) := by decide +kernel
theorem dL_law_222 : decode cL_law 222 = .ok (.iload_n 3, 1) := by decide +kernel
theorem dL_law_223 : decode cL_law 223 = .ok (.iconst 1, 1) := by decide +kernel
theorem dL_law_224 : decode cL_law 224 = .ok (.iadd, 1) := by decide +kernel
theorem dL_law_225 : decode cL_law 225 = .ok (.iaload, 1) := by decide +kernel
theorem dL_law_226 : decode cL_law 226 = .ok (.aload_n 0, 1) := by decide +kernel
theorem dL_law_227 : decode cL_law 227 = .ok (.iload_n 3, 1) := by decide +kernel
theorem dL_law_228 : decode cL_law 228 = .ok (.iconst 2, 1) := by decide +kernel
theorem dL_law_229 : decode cL_law 229 = .ok (.iadd, 1) := by decide +kernel
theorem dL_law_230 : decode cL_law 230 = .ok (.iaload, 1) := by decide +kernel
theorem dL_law_231 : decode cL_law 231 = .ok (.invokevirtual 23, 3) := by decide +kernel
theorem dL_law_234 : decode cL_law 234 = .ok (.aload_n 2, 1) := by decide +kernel
theorem dL_law_235 : decode cL_law 235 = .ok (.aload_n 0, 1) := by decide +kernel
theorem dL_law_236 : decode cL_law 236 = .ok (.iload_n 3, 1) := by decide +kernel
theorem dL_law_237 : decode cL_law 237 = .ok (.iconst 1, 1) := by decide +kernel
theorem dL_law_238 : decode cL_law 238 = .ok (.iadd, 1) := by decide +kernel
theorem dL_law_239 : decode cL_law 239 = .ok (.iaload, 1) := by decide +kernel
theorem dL_law_240 : decode cL_law 240 = .ok (.aload_n 0, 1) := by decide +kernel
theorem dL_law_241 : decode cL_law 241 = .ok (.iload_n 3, 1) := by decide +kernel
theorem dL_law_242 : decode cL_law 242 = .ok (.iconst 2, 1) := by decide +kernel
theorem dL_law_243 : decode cL_law 243 = .ok (.iadd, 1) := by decide +kernel
theorem dL_law_244 : decode cL_law 244 = .ok (.iaload, 1) := by decide +kernel
theorem dL_law_245 : decode cL_law 245 = .ok (.invokevirtual 26, 3) := by decide +kernel
theorem dL_law_248 : decode cL_law 248 = .ok (.if_icmp .eq 1095, 3) := by decide +kernel
theorem dL_law_251 : decode cL_law 251 = .ok (.iconst 0, 1) := by decide +kernel
theorem dL_law_252 : decode cL_law 252 = .ok (.ireturn, 1) := by decide +kernel
theorem dL_law_253 : decode cL_law 253 = .ok (.aload_n 1, 1) := by decide +kernel
theorem dL_law_254 : decode cL_law 254 = .ok (.aload_n 0, 1) := by decide +kernel
theorem dL_law_255 : decode cL_law 255 = .ok (.iload_n 3, 1) := by decide +kernel
theorem dL_law_256 : decode cL_law 256 = .ok (.iconst 1, 1) := by decide +kernel
theorem dL_law_257 : decode cL_law 257 = .ok (.iadd, 1) := by decide +kernel
theorem dL_law_258 : decode cL_law 258 = .ok (.iaload, 1) := by decide +kernel
theorem dL_law_259 : decode cL_law 259 = .ok (.aload_n 0, 1) := by decide +kernel
theorem dL_law_260 : decode cL_law 260 = .ok (.iload_n 3, 1) := by decide +kernel
theorem dL_law_261 : decode cL_law 261 = .ok (.iconst 2, 1) := by decide +kernel
theorem dL_law_262 : decode cL_law 262 = .ok (.iadd, 1) := by decide +kernel
theorem dL_law_263 : decode cL_law 263 = .ok (.iaload, 1) := by decide +kernel
theorem dL_law_264 : decode cL_law 264 = .ok (.aload_n 0, 1) := by decide +kernel
theorem dL_law_265 : decode cL_law 265 = .ok (.iload_n 3, 1) := by decide +kernel
theorem dL_law_266 : decode cL_law 266 = .ok (.iconst 3, 1) := by decide +kernel
theorem dL_law_267 : decode cL_law 267 = .ok (.iadd, 1) := by decide +kernel
theorem dL_law_268 : decode cL_law 268 = .ok (.iaload, 1) := by decide +kernel
theorem dL_law_269 : decode cL_law 269 = .ok (.aload_n 0, 1) := by decide +kernel
theorem dL_law_270 : decode cL_law 270 = .ok (.iload_n 3, 1) := by decide +kernel
theorem dL_law_271 : decode cL_law 271 = .ok (.iconst 4, 1) := by decide +kernel
theorem dL_law_272 : decode cL_law 272 = .ok (.iadd, 1) := by decide +kernel
theorem dL_law_273 : decode cL_law 273 = .ok (.iaload, 1) := by decide +kernel
theorem dL_law_274 : decode cL_law 274 = .ok (.aload_n 0, 1) := by decide +kernel
theorem dL_law_275 : decode cL_law 275 = .ok (.iload_n 3, 1) := by decide +kernel
theorem dL_law_276 : decode cL_law 276 = .ok (.iconst 5, 1) := by decide +kernel
theorem dL_law_277 : decode cL_law 277 = .ok (.iadd, 1) := by decide +kernel
theorem dL_law_278 : decode cL_law 278 = .ok (.iaload, 1) := by decide +kernel
theorem dL_law_279 : decode cL_law 279 = .ok (.invokevirtual 27, 3) := by decide +kernel
theorem dL_law_282 : decode cL_law 282 = .ok (.aload_n 2, 1) := by decide +kernel
theorem dL_law_283 : decode cL_law 283 = .ok (.aload_n 0, 1) := by decide +kernel
theorem dL_law_284 : decode cL_law 284 = .ok (.iload_n 3, 1) := by decide +kernel
theorem dL_law_285 : decode cL_law 285 = .ok (.iconst 1, 1) := by decide +kernel
theorem dL_law_286 : decode cL_law 286 = .ok (.iadd, 1) := by decide +kernel
theorem dL_law_287 : decode cL_law 287 = .ok (.iaload, 1) := by decide +kernel
theorem dL_law_288 : decode cL_law 288 = .ok (.aload_n 0, 1) := by decide +kernel
theorem dL_law_289 : decode cL_law 289 = .ok (.iload_n 3, 1) := by decide +kernel
theorem dL_law_290 : decode cL_law 290 = .ok (.iconst 2, 1) := by decide +kernel
theorem dL_law_291 : decode cL_law 291 = .ok (.iadd, 1) := by decide +kernel
theorem dL_law_292 : decode cL_law 292 = .ok (.iaload, 1) := by decide +kernel
theorem dL_law_293 : decode cL_law 293 = .ok (.aload_n 0, 1) := by decide +kernel
theorem dL_law_294 : decode cL_law 294 = .ok (.iload_n 3, 1) := by decide +kernel
theorem dL_law_295 : decode cL_law 295 = .ok (.iconst 3, 1) := by decide +kernel
theorem dL_law_296 : decode cL_law 296 = .ok (.iadd, 1) := by decide +kernel
theorem dL_law_297 : decode cL_law 297 = .ok (.iaload, 1) := by decide +kernel
theorem dL_law_298 : decode cL_law 298 = .ok (.aload_n 0, 1) := by decide +kernel
theorem dL_law_299 : decode cL_law 299 = .ok (.iload_n 3, 1) := by decide +kernel
theorem dL_law_300 : decode cL_law 300 = .ok (.iconst 4, 1) := by decide +kernel
theorem dL_law_301 : decode cL_law 301 = .ok (.iadd, 1) := by decide +kernel
theorem dL_law_302 : decode cL_law 302 = .ok (.iaload, 1) := by decide +kernel
theorem dL_law_303 : decode cL_law 303 = .ok (.aload_n 0, 1) := by decide +kernel
theorem dL_law_304 : decode cL_law 304 = .ok (.iload_n 3, 1) := by decide +kernel
theorem dL_law_305 : decode cL_law 305 = .ok (.iconst 5, 1) := by decide +kernel
theorem dL_law_306 : decode cL_law 306 = .ok (.iadd, 1) := by decide +kernel
theorem dL_law_307 : decode cL_law 307 = .ok (.iaload, 1) := by decide +kernel
theorem dL_law_308 : decode cL_law 308 = .ok (.invokevirtual 31, 3) := by decide +kernel
theorem dL_law_311 : decode cL_law 311 = .ok (.if_icmp .eq 1032, 3) := by decide +kernel
theorem dL_law_314 : decode cL_law 314 = .ok (.iconst 0, 1) := by decide +kernel
theorem dL_law_315 : decode cL_law 315 = .ok (.ireturn, 1) := by decide +kernel
theorem dL_law_316 : decode cL_law 316 = .ok (.aload_n 1, 1) := by decide +kernel
theorem dL_law_317 : decode cL_law 317 = .ok (.aload_n 0, 1) := by decide +kernel
theorem dL_law_318 : decode cL_law 318 = .ok (.iload_n 3, 1) := by decide +kernel
theorem dL_law_319 : decode cL_law 319 = .ok (.iconst 1, 1) := by decide +kernel
theorem dL_law_320 : decode cL_law 320 = .ok (.iadd, 1) := by decide +kernel
theorem dL_law_321 : decode cL_law 321 = .ok (.iaload, 1) := by decide +kernel
theorem dL_law_322 : decode cL_law 322 = .ok (.aload_n 0, 1) := by decide +kernel
theorem dL_law_323 : decode cL_law 323 = .ok (.iload_n 3, 1) := by decide +kernel
theorem dL_law_324 : decode cL_law 324 = .ok (.iconst 2, 1) := by decide +kernel
theorem dL_law_325 : decode cL_law 325 = .ok (.iadd, 1) := by decide +kernel
theorem dL_law_326 : decode cL_law 326 = .ok (.iaload, 1) := by decide +kernel
theorem dL_law_327 : decode cL_law 327 = .ok (.invokevirtual 32, 3) := by decide +kernel
theorem dL_law_330 : decode cL_law 330 = .ok (.aload_n 2, 1) := by decide +kernel
theorem dL_law_331 : decode cL_law 331 = .ok (.aload_n 0, 1) := by decide +kernel
theorem dL_law_332 : decode cL_law 332 = .ok (.iload_n 3, 1) := by decide +kernel
theorem dL_law_333 : decode cL_law 333 = .ok (.iconst 1, 1) := by decide +kernel
theorem dL_law_334 : decode cL_law 334 = .ok (.iadd, 1) := by decide +kernel
theorem dL_law_335 : decode cL_law 335 = .ok (.iaload, 1) := by decide +kernel
theorem dL_law_336 : decode cL_law 336 = .ok (.aload_n 0, 1) := by decide +kernel
theorem dL_law_337 : decode cL_law 337 = .ok (.iload_n 3, 1) := by decide +kernel
theorem dL_law_338 : decode cL_law 338 = .ok (.iconst 2, 1) := by decide +kernel
theorem dL_law_339 : decode cL_law 339 = .ok (.iadd, 1) := by decide +kernel
theorem dL_law_340 : decode cL_law 340 = .ok (.iaload, 1) := by decide +kernel
theorem dL_law_341 : decode cL_law 341 = .ok (.invokevirtual 35, 3) := by decide +kernel
theorem dL_law_344 : decode cL_law 344 = .ok (.if_icmp .eq 999, 3) := by decide +kernel
theorem dL_law_347 : decode cL_law 347 = .ok (.iconst 0, 1) := by decide +kernel
theorem dL_law_348 : decode cL_law 348 = .ok (.ireturn, 1) := by decide +kernel
theorem dL_law_349 : decode cL_law 349 = .ok (.aload_n 1, 1) := by decide +kernel
theorem dL_law_350 : decode cL_law 350 = .ok (.aload_n 0, 1) := by decide +kernel
theorem dL_law_351 : decode cL_law 351 = .ok (.iload_n 3, 1) := by decide +kernel
theorem dL_law_352 : decode cL_law 352 = .ok (.iconst 1, 1) := by decide +kernel
theorem dL_law_353 : decode cL_law 353 = .ok (.iadd, 1) := by decide +kernel
theorem dL_law_354 : decode cL_law 354 = .ok (.iaload, 1) := by decide +kernel
theorem dL_law_355 : decode cL_law 355 = .ok (.aload_n 0, 1) := by decide +kernel
theorem dL_law_356 : decode cL_law 356 = .ok (.iload_n 3, 1) := by decide +kernel
theorem dL_law_357 : decode cL_law 357 = .ok (.iconst 2, 1) := by decide +kernel
theorem dL_law_358 : decode cL_law 358 = .ok (.iadd, 1) := by decide +kernel
theorem dL_law_359 : decode cL_law 359 = .ok (.iaload, 1) := by decide +kernel
theorem dL_law_360 : decode cL_law 360 = .ok (.aload_n 0, 1) := by decide +kernel
theorem dL_law_361 : decode cL_law 361 = .ok (.iload_n 3, 1) := by decide +kernel
theorem dL_law_362 : decode cL_law 362 = .ok (.iconst 3, 1) := by decide +kernel
theorem dL_law_363 : decode cL_law 363 = .ok (.iadd, 1) := by decide +kernel
theorem dL_law_364 : decode cL_law 364 = .ok (.iaload, 1) := by decide +kernel
theorem dL_law_365 : decode cL_law 365 = .ok (.aload_n 0, 1) := by decide +kernel
theorem dL_law_366 : decode cL_law 366 = .ok (.iload_n 3, 1) := by decide +kernel
theorem dL_law_367 : decode cL_law 367 = .ok (.iconst 4, 1) := by decide +kernel
theorem dL_law_368 : decode cL_law 368 = .ok (.iadd, 1) := by decide +kernel
theorem dL_law_369 : decode cL_law 369 = .ok (.iaload, 1) := by decide +kernel
theorem dL_law_370 : decode cL_law 370 = .ok (.invokevirtual 36, 3) := by decide +kernel
theorem dL_law_373 : decode cL_law 373 = .ok (.aload_n 2, 1) := by decide +kernel
theorem dL_law_374 : decode cL_law 374 = .ok (.aload_n 0, 1) := by decide +kernel
theorem dL_law_375 : decode cL_law 375 = .ok (.iload_n 3, 1) := by decide +kernel
theorem dL_law_376 : decode cL_law 376 = .ok (.iconst 1, 1) := by decide +kernel
theorem dL_law_377 : decode cL_law 377 = .ok (.iadd, 1) := by decide +kernel
theorem dL_law_378 : decode cL_law 378 = .ok (.iaload, 1) := by decide +kernel
theorem dL_law_379 : decode cL_law 379 = .ok (.aload_n 0, 1) := by decide +kernel
theorem dL_law_380 : decode cL_law 380 = .ok (.iload_n 3, 1) := by decide +kernel
theorem dL_law_381 : decode cL_law 381 = .ok (.iconst 2, 1) := by decide +kernel
theorem dL_law_382 : decode cL_law 382 = .ok (.iadd, 1) := by decide +kernel
theorem dL_law_383 : decode cL_law 383 = .ok (.iaload, 1) := by decide +kernel
theorem dL_law_384 : decode cL_law 384 = .ok (.aload_n 0, 1) := by decide +kernel
theorem dL_law_385 : decode cL_law 385 = .ok (.iload_n 3, 1) := by decide +kernel
theorem dL_law_386 : decode cL_law 386 = .ok (.iconst 3, 1) := by decide +kernel
theorem dL_law_387 : decode cL_law 387 = .ok (.iadd, 1) := by decide +kernel
theorem dL_law_388 : decode cL_law 388 = .ok (.iaload, 1) := by decide +kernel
theorem dL_law_389 : decode cL_law 389 = .ok (.aload_n 0, 1) := by decide +kernel
theorem dL_law_390 : decode cL_law 390 = .ok (.iload_n 3, 1) := by decide +kernel
theorem dL_law_391 : decode cL_law 391 = .ok (.iconst 4, 1) := by decide +kernel
theorem dL_law_392 : decode cL_law 392 = .ok (.iadd, 1) := by decide +kernel
theorem dL_law_393 : decode cL_law 393 = .ok (.iaload, 1) := by decide +kernel
theorem dL_law_394 : decode cL_law 394 = .ok (.invokevirtual 40, 3) := by decide +kernel
theorem dL_law_397 : decode cL_law 397 = .ok (.if_icmp .eq 946, 3) := by decide +kernel
theorem dL_law_400 : decode cL_law 400 = .ok (.iconst 0, 1) := by decide +kernel
theorem dL_law_401 : decode cL_law 401 = .ok (.ireturn, 1) := by decide +kernel
theorem dL_law_402 : decode cL_law 402 = .ok (.aload_n 1, 1) := by decide +kernel
theorem dL_law_403 : decode cL_law 403 = .ok (.aload_n 0, 1) := by decide +kernel
theorem dL_law_404 : decode cL_law 404 = .ok (.iload_n 3, 1) := by decide +kernel
theorem dL_law_405 : decode cL_law 405 = .ok (.iconst 1, 1) := by decide +kernel
theorem dL_law_406 : decode cL_law 406 = .ok (.iadd, 1) := by decide +kernel
theorem dL_law_407 : decode cL_law 407 = .ok (.iaload, 1) := by decide +kernel
theorem dL_law_408 : decode cL_law 408 = .ok (.aload_n 0, 1) := by decide +kernel
theorem dL_law_409 : decode cL_law 409 = .ok (.iload_n 3, 1) := by decide +kernel
theorem dL_law_410 : decode cL_law 410 = .ok (.iconst 2, 1) := by decide +kernel
theorem dL_law_411 : decode cL_law 411 = .ok (.iadd, 1) := by decide +kernel
theorem dL_law_412 : decode cL_law 412 = .ok (.iaload, 1) := by decide +kernel
theorem dL_law_413 : decode cL_law 413 = .ok (.aload_n 0, 1) := by decide +kernel
theorem dL_law_414 : decode cL_law 414 = .ok (.iload_n 3, 1) := by decide +kernel
theorem dL_law_415 : decode cL_law 415 = .ok (.iconst 3, 1) := by decide +kernel
theorem dL_law_416 : decode cL_law 416 = .ok (.iadd, 1) := by decide +kernel
theorem dL_law_417 : decode cL_law 417 = .ok (.iaload, 1) := by decide +kernel
theorem dL_law_418 : decode cL_law 418 = .ok (.aload_n 0, 1) := by decide +kernel
theorem dL_law_419 : decode cL_law 419 = .ok (.iload_n 3, 1) := by decide +kernel
theorem dL_law_420 : decode cL_law 420 = .ok (.iconst 4, 1) := by decide +kernel
theorem dL_law_421 : decode cL_law 421 = .ok (.iadd, 1) := by decide +kernel
theorem dL_law_422 : decode cL_law 422 = .ok (.iaload, 1) := by decide +kernel
theorem dL_law_423 : decode cL_law 423 = .ok (.invokevirtual 41, 3) := by decide +kernel
theorem dL_law_426 : decode cL_law 426 = .ok (.aload_n 2, 1) := by decide +kernel
theorem dL_law_427 : decode cL_law 427 = .ok (.aload_n 0, 1) := by decide +kernel
theorem dL_law_428 : decode cL_law 428 = .ok (.iload_n 3, 1) := by decide +kernel
theorem dL_law_429 : decode cL_law 429 = .ok (.iconst 1, 1) := by decide +kernel
theorem dL_law_430 : decode cL_law 430 = .ok (.iadd, 1) := by decide +kernel
theorem dL_law_431 : decode cL_law 431 = .ok (.iaload, 1) := by decide +kernel
theorem dL_law_432 : decode cL_law 432 = .ok (.aload_n 0, 1) := by decide +kernel
theorem dL_law_433 : decode cL_law 433 = .ok (.iload_n 3, 1) := by decide +kernel
theorem dL_law_434 : decode cL_law 434 = .ok (.iconst 2, 1) := by decide +kernel
theorem dL_law_435 : decode cL_law 435 = .ok (.iadd, 1) := by decide +kernel
theorem dL_law_436 : decode cL_law 436 = .ok (.iaload, 1) := by decide +kernel
theorem dL_law_437 : decode cL_law 437 = .ok (.aload_n 0, 1) := by decide +kernel
theorem dL_law_438 : decode cL_law 438 = .ok (.iload_n 3, 1) := by decide +kernel
theorem dL_law_439 : decode cL_law 439 = .ok (.iconst 3, 1) := by decide +kernel
theorem dL_law_440 : decode cL_law 440 = .ok (.iadd, 1) := by decide +kernel
theorem dL_law_441 : decode cL_law 441 = .ok (.iaload, 1) := by decide +kernel
theorem dL_law_442 : decode cL_law 442 = .ok (.aload_n 0, 1) := by decide +kernel
theorem dL_law_443 : decode cL_law 443 = .ok (.iload_n 3, 1) := by decide +kernel
theorem dL_law_444 : decode cL_law 444 = .ok (.iconst 4, 1) := by decide +kernel
theorem dL_law_445 : decode cL_law 445 = .ok (.iadd, 1) := by decide +kernel
theorem dL_law_446 : decode cL_law 446 = .ok (.iaload, 1) := by decide +kernel
theorem dL_law_447 : decode cL_law 447 = .ok (.invokevirtual 44, 3) := by decide +kernel
theorem dL_law_450 : decode cL_law 450 = .ok (.if_icmp .eq 893, 3) := by decide +kernel
theorem dL_law_453 : decode cL_law 453 = .ok (.iconst 0, 1) := by decide +kernel
theorem dL_law_454 : decode cL_law 454 = .ok (.ireturn, 1) := by decide +kernel
theorem dL_law_455 : decode cL_law 455 = .ok (.aload_n 1, 1) := by decide +kernel
theorem dL_law_456 : decode cL_law 456 = .ok (.aload_n 0, 1) := by decide +kernel
theorem dL_law_457 : decode cL_law 457 = .ok (.iload_n 3, 1) := by decide +kernel
theorem dL_law_458 : decode cL_law 458 = .ok (.iconst 1, 1) := by decide +kernel
theorem dL_law_459 : decode cL_law 459 = .ok (.iadd, 1) := by decide +kernel
theorem dL_law_460 : decode cL_law 460 = .ok (.iaload, 1) := by decide +kernel
theorem dL_law_461 : decode cL_law 461 = .ok (.aload_n 0, 1) := by decide +kernel
theorem dL_law_462 : decode cL_law 462 = .ok (.iload_n 3, 1) := by decide +kernel
theorem dL_law_463 : decode cL_law 463 = .ok (.iconst 2, 1) := by decide +kernel
theorem dL_law_464 : decode cL_law 464 = .ok (.iadd, 1) := by decide +kernel
theorem dL_law_465 : decode cL_law 465 = .ok (.iaload, 1) := by decide +kernel
theorem dL_law_466 : decode cL_law 466 = .ok (.invokevirtual 45, 3) := by decide +kernel
theorem dL_law_469 : decode cL_law 469 = .ok (.aload_n 2, 1) := by decide +kernel
theorem dL_law_470 : decode cL_law 470 = .ok (.aload_n 0, 1) := by decide +kernel
theorem dL_law_471 : decode cL_law 471 = .ok (.iload_n 3, 1) := by decide +kernel
theorem dL_law_472 : decode cL_law 472 = .ok (.iconst 1, 1) := by decide +kernel
theorem dL_law_473 : decode cL_law 473 = .ok (.iadd, 1) := by decide +kernel
theorem dL_law_474 : decode cL_law 474 = .ok (.iaload, 1) := by decide +kernel
theorem dL_law_475 : decode cL_law 475 = .ok (.aload_n 0, 1) := by decide +kernel
theorem dL_law_476 : decode cL_law 476 = .ok (.iload_n 3, 1) := by decide +kernel
theorem dL_law_477 : decode cL_law 477 = .ok (.iconst 2, 1) := by decide +kernel
theorem dL_law_478 : decode cL_law 478 = .ok (.iadd, 1) := by decide +kernel
theorem dL_law_479 : decode cL_law 479 = .ok (.iaload, 1) := by decide +kernel
theorem dL_law_480 : decode cL_law 480 = .ok (.invokevirtual 48, 3) := by decide +kernel
theorem dL_law_483 : decode cL_law 483 = .ok (.if_icmp .eq 860, 3) := by decide +kernel
theorem dL_law_486 : decode cL_law 486 = .ok (.iconst 0, 1) := by decide +kernel
theorem dL_law_487 : decode cL_law 487 = .ok (.ireturn, 1) := by decide +kernel
theorem dL_law_488 : decode cL_law 488 = .ok (.aload_n 1, 1) := by decide +kernel
theorem dL_law_489 : decode cL_law 489 = .ok (.aload_n 0, 1) := by decide +kernel
theorem dL_law_490 : decode cL_law 490 = .ok (.iload_n 3, 1) := by decide +kernel
theorem dL_law_491 : decode cL_law 491 = .ok (.iconst 1, 1) := by decide +kernel
theorem dL_law_492 : decode cL_law 492 = .ok (.iadd, 1) := by decide +kernel
theorem dL_law_493 : decode cL_law 493 = .ok (.iaload, 1) := by decide +kernel
theorem dL_law_494 : decode cL_law 494 = .ok (.aload_n 0, 1) := by decide +kernel
theorem dL_law_495 : decode cL_law 495 = .ok (.iload_n 3, 1) := by decide +kernel
theorem dL_law_496 : decode cL_law 496 = .ok (.iconst 2, 1) := by decide +kernel
theorem dL_law_497 : decode cL_law 497 = .ok (.iadd, 1) := by decide +kernel
theorem dL_law_498 : decode cL_law 498 = .ok (.iaload, 1) := by decide +kernel
theorem dL_law_499 : decode cL_law 499 = .ok (.aload_n 0, 1) := by decide +kernel
theorem dL_law_500 : decode cL_law 500 = .ok (.iload_n 3, 1) := by decide +kernel
theorem dL_law_501 : decode cL_law 501 = .ok (.iconst 3, 1) := by decide +kernel
theorem dL_law_502 : decode cL_law 502 = .ok (.iadd, 1) := by decide +kernel
theorem dL_law_503 : decode cL_law 503 = .ok (.iaload, 1) := by decide +kernel
theorem dL_law_504 : decode cL_law 504 = .ok (.invokevirtual 49, 3) := by decide +kernel
theorem dL_law_507 : decode cL_law 507 = .ok (.aload_n 2, 1) := by decide +kernel
theorem dL_law_508 : decode cL_law 508 = .ok (.aload_n 0, 1) := by decide +kernel
theorem dL_law_509 : decode cL_law 509 = .ok (.iload_n 3, 1) := by decide +kernel
theorem dL_law_510 : decode cL_law 510 = .ok (.iconst 1, 1) := by decide +kernel
theorem dL_law_511 : decode cL_law 511 = .ok (.iadd, 1) := by decide +kernel
theorem dL_law_512 : decode cL_law 512 = .ok (.iaload, 1) := by decide +kernel
theorem dL_law_513 : decode cL_law 513 = .ok (.aload_n 0, 1) := by decide +kernel
theorem dL_law_514 : decode cL_law 514 = .ok (.iload_n 3, 1) := by decide +kernel
theorem dL_law_515 : decode cL_law 515 = .ok (.iconst 2, 1) := by decide +kernel
theorem dL_law_516 : decode cL_law 516 = .ok (.iadd, 1) := by decide +kernel
theorem dL_law_517 : decode cL_law 517 = .ok (.iaload, 1) := by decide +kernel
theorem dL_law_518 : decode cL_law 518 = .ok (.aload_n 0, 1) := by decide +kernel
theorem dL_law_519 : decode cL_law 519 = .ok (.iload_n 3, 1) := by decide +kernel
theorem dL_law_520 : decode cL_law 520 = .ok (.iconst 3, 1) := by decide +kernel
theorem dL_law_521 : decode cL_law 521 = .ok (.iadd, 1) := by decide +kernel
theorem dL_law_522 : decode cL_law 522 = .ok (.iaload, 1) := by decide +kernel
theorem dL_law_523 : decode cL_law 523 = .ok (.invokevirtual 53, 3) := by decide +kernel
theorem dL_law_526 : decode cL_law 526 = .ok (.if_icmp .eq 817, 3) := by decide +kernel
theorem dL_law_529 : decode cL_law 529 = .ok (.iconst 0, 1) := by decide +kernel
end
section
theorem dL_law_530 : decode cL_law 530 = .ok (.ireturn, 1) := by decide +kernel
theorem dL_law_531 : decode cL_law 531 = .ok (.aload_n 1, 1) := by decide +kernel
theorem dL_law_532 : decode cL_law 532 = .ok (.aload_n 0, 1) := by decide +kernel
theorem dL_law_533 : decode cL_law 533 = .ok (.iload_n 3, 1) := by decide +kernel
theorem dL_law_534 : decode cL_law 534 = .ok (.iconst 1, 1) := by decide +kernel
theorem dL_law_535 : decode cL_law 535 = .ok (.iadd, 1) := by decide +kernel
theorem dL_law_536 : decode cL_law 536 = .ok (.iaload, 1) := by decide +kernel
theorem dL_law_537 : decode cL_law 537 = .ok (.aload_n 0, 1) := by decide +kernel
theorem dL_law_538 : decode cL_law 538 = .ok (.iload_n 3, 1) := by decide +kernel
theorem dL_law_539 : decode cL_law 539 = .ok (.iconst 2, 1) := by decide +kernel
theorem dL_law_540 : decode cL_law 540 = .ok (.iadd, 1) := by decide +kernel
theorem dL_law_541 : decode cL_law 541 = .ok (.iaload, 1) := by decide +kernel
theorem dL_law_542 : decode cL_law 542 = .ok (.invokevirtual 54, 3) := by decide +kernel
theorem dL_law_545 : decode cL_law 545 = .ok (.aload_n 2, 1) := by decide +kernel
theorem dL_law_546 : decode cL_law 546 = .ok (.aload_n 0, 1) := by decide +kernel
theorem dL_law_547 : decode cL_law 547 = .ok (.iload_n 3, 1) := by decide +kernel
theorem dL_law_548 : decode cL_law 548 = .ok (.iconst 1, 1) := by decide +kernel
theorem dL_law_549 : decode cL_law 549 = .ok (.iadd, 1) := by decide +kernel
theorem dL_law_550 : decode cL_law 550 = .ok (.iaload, 1) := by decide +kernel
theorem dL_law_551 : decode cL_law 551 = .ok (.aload_n 0, 1) := by decide +kernel
theorem dL_law_552 : decode cL_law 552 = .ok (.iload_n 3, 1) := by decide +kernel
theorem dL_law_553 : decode cL_law 553 = .ok (.iconst 2, 1) := by decide +kernel
theorem dL_law_554 : decode cL_law 554 = .ok (.iadd, 1) := by decide +kernel
theorem dL_law_555 : decode cL_law 555 = .ok (.iaload, 1) := by decide +kernel
theorem dL_law_556 : decode cL_law 556 = .ok (.invokevirtual 57, 3) := by decide +kernel
theorem dL_law_559 : decode cL_law 559 = .ok (.if_icmp .eq 784, 3) := by decide +kernel
theorem dL_law_562 : decode cL_law 562 = .ok (.iconst 0, 1) := by decide +kernel
theorem dL_law_563 : decode cL_law 563 = .ok (.ireturn, 1) := by decide +kernel
theorem dL_law_564 : decode cL_law 564 = .ok (.aload_n 1, 1) := by decide +kernel
theorem dL_law_565 : decode cL_law 565 = .ok (.aload_n 0, 1) := by decide +kernel
theorem dL_law_566 : decode cL_law 566 = .ok (.iload_n 3, 1) := by decide +kernel
theorem dL_law_567 : decode cL_law 567 = .ok (.iconst 1, 1) := by decide +kernel
theorem dL_law_568 : decode cL_law 568 = .ok (.iadd, 1) := by decide +kernel
theorem dL_law_569 : decode cL_law 569 = .ok (.iaload, 1) := by decide +kernel
theorem dL_law_570 : decode cL_law 570 = .ok (.aload_n 0, 1) := by decide +kernel
theorem dL_law_571 : decode cL_law 571 = .ok (.iload_n 3, 1) := by decide +kernel
theorem dL_law_572 : decode cL_law 572 = .ok (.iconst 2, 1) := by decide +kernel
theorem dL_law_573 : decode cL_law 573 = .ok (.iadd, 1) := by decide +kernel
theorem dL_law_574 : decode cL_law 574 = .ok (.iaload, 1) := by decide +kernel
theorem dL_law_575 : decode cL_law 575 = .ok (.aload_n 0, 1) := by decide +kernel
theorem dL_law_576 : decode cL_law 576 = .ok (.iload_n 3, 1) := by decide +kernel
theorem dL_law_577 : decode cL_law 577 = .ok (.iconst 3, 1) := by decide +kernel
theorem dL_law_578 : decode cL_law 578 = .ok (.iadd, 1) := by decide +kernel
theorem dL_law_579 : decode cL_law 579 = .ok (.iaload, 1) := by decide +kernel
theorem dL_law_580 : decode cL_law 580 = .ok (.invokevirtual 58, 3) := by decide +kernel
theorem dL_law_583 : decode cL_law 583 = .ok (.aload_n 2, 1) := by decide +kernel
theorem dL_law_584 : decode cL_law 584 = .ok (.aload_n 0, 1) := by decide +kernel
theorem dL_law_585 : decode cL_law 585 = .ok (.iload_n 3, 1) := by decide +kernel
theorem dL_law_586 : decode cL_law 586 = .ok (.iconst 1, 1) := by decide +kernel
theorem dL_law_587 : decode cL_law 587 = .ok (.iadd, 1) := by decide +kernel
theorem dL_law_588 : decode cL_law 588 = .ok (.iaload, 1) := by decide +kernel
theorem dL_law_589 : decode cL_law 589 = .ok (.aload_n 0, 1) := by decide +kernel
theorem dL_law_590 : decode cL_law 590 = .ok (.iload_n 3, 1) := by decide +kernel
theorem dL_law_591 : decode cL_law 591 = .ok (.iconst 2, 1) := by decide +kernel
theorem dL_law_592 : decode cL_law 592 = .ok (.iadd, 1) := by decide +kernel
theorem dL_law_593 : decode cL_law 593 = .ok (.iaload, 1) := by decide +kernel
theorem dL_law_594 : decode cL_law 594 = .ok (.aload_n 0, 1) := by decide +kernel
theorem dL_law_595 : decode cL_law 595 = .ok (.iload_n 3, 1) := by decide +kernel
theorem dL_law_596 : decode cL_law 596 = .ok (.iconst 3, 1) := by decide +kernel
theorem dL_law_597 : decode cL_law 597 = .ok (.iadd, 1) := by decide +kernel
theorem dL_law_598 : decode cL_law 598 = .ok (.iaload, 1) := by decide +kernel
theorem dL_law_599 : decode cL_law 599 = .ok (.invokevirtual 61, 3) := by decide +kernel
theorem dL_law_602 : decode cL_law 602 = .ok (.if_icmp .eq 741, 3) := by decide +kernel
theorem dL_law_605 : decode cL_law 605 = .ok (.iconst 0, 1) := by decide +kernel
theorem dL_law_606 : decode cL_law 606 = .ok (.ireturn, 1) := by decide +kernel
theorem dL_law_607 : decode cL_law 607 = .ok (.aload_n 1, 1) := by decide +kernel
theorem dL_law_608 : decode cL_law 608 = .ok (.aload_n 0, 1) := by decide +kernel
theorem dL_law_609 : decode cL_law 609 = .ok (.iload_n 3, 1) := by decide +kernel
theorem dL_law_610 : decode cL_law 610 = .ok (.iconst 1, 1) := by decide +kernel
theorem dL_law_611 : decode cL_law 611 = .ok (.iadd, 1) := by decide +kernel
theorem dL_law_612 : decode cL_law 612 = .ok (.iaload, 1) := by decide +kernel
theorem dL_law_613 : decode cL_law 613 = .ok (.aload_n 0, 1) := by decide +kernel
theorem dL_law_614 : decode cL_law 614 = .ok (.iload_n 3, 1) := by decide +kernel
theorem dL_law_615 : decode cL_law 615 = .ok (.iconst 2, 1) := by decide +kernel
theorem dL_law_616 : decode cL_law 616 = .ok (.iadd, 1) := by decide +kernel
theorem dL_law_617 : decode cL_law 617 = .ok (.iaload, 1) := by decide +kernel
theorem dL_law_618 : decode cL_law 618 = .ok (.aload_n 0, 1) := by decide +kernel
theorem dL_law_619 : decode cL_law 619 = .ok (.iload_n 3, 1) := by decide +kernel
theorem dL_law_620 : decode cL_law 620 = .ok (.iconst 3, 1) := by decide +kernel
theorem dL_law_621 : decode cL_law 621 = .ok (.iadd, 1) := by decide +kernel
theorem dL_law_622 : decode cL_law 622 = .ok (.iaload, 1) := by decide +kernel
theorem dL_law_623 : decode cL_law 623 = .ok (.aload_n 0, 1) := by decide +kernel
theorem dL_law_624 : decode cL_law 624 = .ok (.iload_n 3, 1) := by decide +kernel
theorem dL_law_625 : decode cL_law 625 = .ok (.iconst 4, 1) := by decide +kernel
theorem dL_law_626 : decode cL_law 626 = .ok (.iadd, 1) := by decide +kernel
theorem dL_law_627 : decode cL_law 627 = .ok (.iaload, 1) := by decide +kernel
theorem dL_law_628 : decode cL_law 628 = .ok (.invokevirtual 62, 3) := by decide +kernel
theorem dL_law_631 : decode cL_law 631 = .ok (.aload_n 2, 1) := by decide +kernel
theorem dL_law_632 : decode cL_law 632 = .ok (.aload_n 0, 1) := by decide +kernel
theorem dL_law_633 : decode cL_law 633 = .ok (.iload_n 3, 1) := by decide +kernel
theorem dL_law_634 : decode cL_law 634 = .ok (.iconst 1, 1) := by decide +kernel
theorem dL_law_635 : decode cL_law 635 = .ok (.iadd, 1) := by decide +kernel
theorem dL_law_636 : decode cL_law 636 = .ok (.iaload, 1) := by decide +kernel
theorem dL_law_637 : decode cL_law 637 = .ok (.aload_n 0, 1) := by decide +kernel
theorem dL_law_638 : decode cL_law 638 = .ok (.iload_n 3, 1) := by decide +kernel
theorem dL_law_639 : decode cL_law 639 = .ok (.iconst 2, 1) := by decide +kernel
theorem dL_law_640 : decode cL_law 640 = .ok (.iadd, 1) := by decide +kernel
theorem dL_law_641 : decode cL_law 641 = .ok (.iaload, 1) := by decide +kernel
theorem dL_law_642 : decode cL_law 642 = .ok (.aload_n 0, 1) := by decide +kernel
theorem dL_law_643 : decode cL_law 643 = .ok (.iload_n 3, 1) := by decide +kernel
theorem dL_law_644 : decode cL_law 644 = .ok (.iconst 3, 1) := by decide +kernel
theorem dL_law_645 : decode cL_law 645 = .ok (.iadd, 1) := by decide +kernel
theorem dL_law_646 : decode cL_law 646 = .ok (.iaload, 1) := by decide +kernel
theorem dL_law_647 : decode cL_law 647 = .ok (.aload_n 0, 1) := by decide +kernel
theorem dL_law_648 : decode cL_law 648 = .ok (.iload_n 3, 1) := by decide +kernel
theorem dL_law_649 : decode cL_law 649 = .ok (.iconst 4, 1) := by decide +kernel
theorem dL_law_650 : decode cL_law 650 = .ok (.iadd, 1) := by decide +kernel
theorem dL_law_651 : decode cL_law 651 = .ok (.iaload, 1) := by decide +kernel
theorem dL_law_652 : decode cL_law 652 = .ok (.invokevirtual 65, 3) := by decide +kernel
theorem dL_law_655 : decode cL_law 655 = .ok (.if_icmp .eq 688, 3) := by decide +kernel
theorem dL_law_658 : decode cL_law 658 = .ok (.iconst 0, 1) := by decide +kernel
theorem dL_law_659 : decode cL_law 659 = .ok (.ireturn, 1) := by decide +kernel
theorem dL_law_660 : decode cL_law 660 = .ok (.aload_n 1, 1) := by decide +kernel
theorem dL_law_661 : decode cL_law 661 = .ok (.aload_n 0, 1) := by decide +kernel
theorem dL_law_662 : decode cL_law 662 = .ok (.iload_n 3, 1) := by decide +kernel
theorem dL_law_663 : decode cL_law 663 = .ok (.iconst 1, 1) := by decide +kernel
theorem dL_law_664 : decode cL_law 664 = .ok (.iadd, 1) := by decide +kernel
theorem dL_law_665 : decode cL_law 665 = .ok (.iaload, 1) := by decide +kernel
theorem dL_law_666 : decode cL_law 666 = .ok (.aload_n 0, 1) := by decide +kernel
theorem dL_law_667 : decode cL_law 667 = .ok (.iload_n 3, 1) := by decide +kernel
theorem dL_law_668 : decode cL_law 668 = .ok (.iconst 2, 1) := by decide +kernel
theorem dL_law_669 : decode cL_law 669 = .ok (.iadd, 1) := by decide +kernel
theorem dL_law_670 : decode cL_law 670 = .ok (.iaload, 1) := by decide +kernel
theorem dL_law_671 : decode cL_law 671 = .ok (.aload_n 0, 1) := by decide +kernel
theorem dL_law_672 : decode cL_law 672 = .ok (.iload_n 3, 1) := by decide +kernel
theorem dL_law_673 : decode cL_law 673 = .ok (.iconst 3, 1) := by decide +kernel
theorem dL_law_674 : decode cL_law 674 = .ok (.iadd, 1) := by decide +kernel
theorem dL_law_675 : decode cL_law 675 = .ok (.iaload, 1) := by decide +kernel
theorem dL_law_676 : decode cL_law 676 = .ok (.invokevirtual 66, 3) := by decide +kernel
theorem dL_law_679 : decode cL_law 679 = .ok (.aload_n 2, 1) := by decide +kernel
theorem dL_law_680 : decode cL_law 680 = .ok (.aload_n 0, 1) := by decide +kernel
theorem dL_law_681 : decode cL_law 681 = .ok (.iload_n 3, 1) := by decide +kernel
theorem dL_law_682 : decode cL_law 682 = .ok (.iconst 1, 1) := by decide +kernel
theorem dL_law_683 : decode cL_law 683 = .ok (.iadd, 1) := by decide +kernel
theorem dL_law_684 : decode cL_law 684 = .ok (.iaload, 1) := by decide +kernel
theorem dL_law_685 : decode cL_law 685 = .ok (.aload_n 0, 1) := by decide +kernel
theorem dL_law_686 : decode cL_law 686 = .ok (.iload_n 3, 1) := by decide +kernel
theorem dL_law_687 : decode cL_law 687 = .ok (.iconst 2, 1) := by decide +kernel
theorem dL_law_688 : decode cL_law 688 = .ok (.iadd, 1) := by decide +kernel
theorem dL_law_689 : decode cL_law 689 = .ok (.iaload, 1) := by decide +kernel
theorem dL_law_690 : decode cL_law 690 = .ok (.aload_n 0, 1) := by decide +kernel
theorem dL_law_691 : decode cL_law 691 = .ok (.iload_n 3, 1) := by decide +kernel
theorem dL_law_692 : decode cL_law 692 = .ok (.iconst 3, 1) := by decide +kernel
theorem dL_law_693 : decode cL_law 693 = .ok (.iadd, 1) := by decide +kernel
theorem dL_law_694 : decode cL_law 694 = .ok (.iaload, 1) := by decide +kernel
theorem dL_law_695 : decode cL_law 695 = .ok (.invokevirtual 69, 3) := by decide +kernel
theorem dL_law_698 : decode cL_law 698 = .ok (.if_icmp .eq 645, 3) := by decide +kernel
theorem dL_law_701 : decode cL_law 701 = .ok (.iconst 0, 1) := by decide +kernel
theorem dL_law_702 : decode cL_law 702 = .ok (.ireturn, 1) := by decide +kernel
theorem dL_law_703 : decode cL_law 703 = .ok (.aload_n 1, 1) := by decide +kernel
theorem dL_law_704 : decode cL_law 704 = .ok (.aload_n 0, 1) := by decide +kernel
theorem dL_law_705 : decode cL_law 705 = .ok (.iload_n 3, 1) := by decide +kernel
theorem dL_law_706 : decode cL_law 706 = .ok (.iconst 1, 1) := by decide +kernel
theorem dL_law_707 : decode cL_law 707 = .ok (.iadd, 1) := by decide +kernel
theorem dL_law_708 : decode cL_law 708 = .ok (.iaload, 1) := by decide +kernel
theorem dL_law_709 : decode cL_law 709 = .ok (.aload_n 0, 1) := by decide +kernel
theorem dL_law_710 : decode cL_law 710 = .ok (.iload_n 3, 1) := by decide +kernel
theorem dL_law_711 : decode cL_law 711 = .ok (.iconst 2, 1) := by decide +kernel
theorem dL_law_712 : decode cL_law 712 = .ok (.iadd, 1) := by decide +kernel
theorem dL_law_713 : decode cL_law 713 = .ok (.iaload, 1) := by decide +kernel
theorem dL_law_714 : decode cL_law 714 = .ok (.aload_n 0, 1) := by decide +kernel
theorem dL_law_715 : decode cL_law 715 = .ok (.iload_n 3, 1) := by decide +kernel
theorem dL_law_716 : decode cL_law 716 = .ok (.iconst 3, 1) := by decide +kernel
theorem dL_law_717 : decode cL_law 717 = .ok (.iadd, 1) := by decide +kernel
theorem dL_law_718 : decode cL_law 718 = .ok (.iaload, 1) := by decide +kernel
theorem dL_law_719 : decode cL_law 719 = .ok (.aload_n 0, 1) := by decide +kernel
theorem dL_law_720 : decode cL_law 720 = .ok (.iload_n 3, 1) := by decide +kernel
theorem dL_law_721 : decode cL_law 721 = .ok (.iconst 4, 1) := by decide +kernel
theorem dL_law_722 : decode cL_law 722 = .ok (.iadd, 1) := by decide +kernel
theorem dL_law_723 : decode cL_law 723 = .ok (.iaload, 1) := by decide +kernel
theorem dL_law_724 : decode cL_law 724 = .ok (.invokevirtual 70, 3) := by decide +kernel
theorem dL_law_727 : decode cL_law 727 = .ok (.aload_n 2, 1) := by decide +kernel
theorem dL_law_728 : decode cL_law 728 = .ok (.aload_n 0, 1) := by decide +kernel
theorem dL_law_729 : decode cL_law 729 = .ok (.iload_n 3, 1) := by decide +kernel
theorem dL_law_730 : decode cL_law 730 = .ok (.iconst 1, 1) := by decide +kernel
theorem dL_law_731 : decode cL_law 731 = .ok (.iadd, 1) := by decide +kernel
theorem dL_law_732 : decode cL_law 732 = .ok (.iaload, 1) := by decide +kernel
theorem dL_law_733 : decode cL_law 733 = .ok (.aload_n 0, 1) := by decide +kernel
theorem dL_law_734 : decode cL_law 734 = .ok (.iload_n 3, 1) := by decide +kernel
theorem dL_law_735 : decode cL_law 735 = .ok (.iconst 2, 1) := by decide +kernel
theorem dL_law_736 : decode cL_law 736 = .ok (.iadd, 1) := by decide +kernel
theorem dL_law_737 : decode cL_law 737 = .ok (.iaload, 1) := by decide +kernel
theorem dL_law_738 : decode cL_law 738 = .ok (.aload_n 0, 1) := by decide +kernel
theorem dL_law_739 : decode cL_law 739 = .ok (.iload_n 3, 1) := by decide +kernel
theorem dL_law_740 : decode cL_law 740 = .ok (.iconst 3, 1) := by decide +kernel
theorem dL_law_741 : decode cL_law 741 = .ok (.iadd, 1) := by decide +kernel
theorem dL_law_742 : decode cL_law 742 = .ok (.iaload, 1) := by decide +kernel
theorem dL_law_743 : decode cL_law 743 = .ok (.aload_n 0, 1) := by decide +kernel
theorem dL_law_744 : decode cL_law 744 = .ok (.iload_n 3, 1) := by decide +kernel
theorem dL_law_745 : decode cL_law 745 = .ok (.iconst 4, 1) := by decide +kernel
theorem dL_law_746 : decode cL_law 746 = .ok (.iadd, 1) := by decide +kernel
theorem dL_law_747 : decode cL_law 747 = .ok (.iaload, 1) := by decide +kernel
theorem dL_law_748 : decode cL_law 748 = .ok (.invokevirtual 73, 3) := by decide +kernel
theorem dL_law_751 : decode cL_law 751 = .ok (.if_icmp .eq 592, 3) := by decide +kernel
theorem dL_law_754 : decode cL_law 754 = .ok (.iconst 0, 1) := by decide +kernel
theorem dL_law_755 : decode cL_law 755 = .ok (.ireturn, 1) := by decide +kernel
theorem dL_law_756 : decode cL_law 756 = .ok (.aload_n 1, 1) := by decide +kernel
theorem dL_law_757 : decode cL_law 757 = .ok (.aload_n 0, 1) := by decide +kernel
theorem dL_law_758 : decode cL_law 758 = .ok (.iload_n 3, 1) := by decide +kernel
theorem dL_law_759 : decode cL_law 759 = .ok (.iconst 1, 1) := by decide +kernel
theorem dL_law_760 : decode cL_law 760 = .ok (.iadd, 1) := by decide +kernel
theorem dL_law_761 : decode cL_law 761 = .ok (.iaload, 1) := by decide +kernel
theorem dL_law_762 : decode cL_law 762 = .ok (.aload_n 0, 1) := by decide +kernel
theorem dL_law_763 : decode cL_law 763 = .ok (.iload_n 3, 1) := by decide +kernel
theorem dL_law_764 : decode cL_law 764 = .ok (.iconst 2, 1) := by decide +kernel
theorem dL_law_765 : decode cL_law 765 = .ok (.iadd, 1) := by decide +kernel
theorem dL_law_766 : decode cL_law 766 = .ok (.iaload, 1) := by decide +kernel
theorem dL_law_767 : decode cL_law 767 = .ok (.aload_n 0, 1) := by decide +kernel
theorem dL_law_768 : decode cL_law 768 = .ok (.iload_n 3, 1) := by decide +kernel
theorem dL_law_769 : decode cL_law 769 = .ok (.iconst 3, 1) := by decide +kernel
theorem dL_law_770 : decode cL_law 770 = .ok (.iadd, 1) := by decide +kernel
theorem dL_law_771 : decode cL_law 771 = .ok (.iaload, 1) := by decide +kernel
theorem dL_law_772 : decode cL_law 772 = .ok (.aload_n 0, 1) := by decide +kernel
theorem dL_law_773 : decode cL_law 773 = .ok (.iload_n 3, 1) := by decide +kernel
theorem dL_law_774 : decode cL_law 774 = .ok (.iconst 4, 1) := by decide +kernel
theorem dL_law_775 : decode cL_law 775 = .ok (.iadd, 1) := by decide +kernel
theorem dL_law_776 : decode cL_law 776 = .ok (.iaload, 1) := by decide +kernel
theorem dL_law_777 : decode cL_law 777 = .ok (.aload_n 0, 1) := by decide +kernel
theorem dL_law_778 : decode cL_law 778 = .ok (.iload_n 3, 1) := by decide +kernel
theorem dL_law_779 : decode cL_law 779 = .ok (.iconst 5, 1) := by decide +kernel
theorem dL_law_780 : decode cL_law 780 = .ok (.iadd, 1) := by decide +kernel
theorem dL_law_781 : decode cL_law 781 = .ok (.iaload, 1) := by decide +kernel
theorem dL_law_782 : decode cL_law 782 = .ok (.invokevirtual 74, 3) := by decide +kernel
theorem dL_law_785 : decode cL_law 785 = .ok (.aload_n 2, 1) := by decide +kernel
theorem dL_law_786 : decode cL_law 786 = .ok (.aload_n 0, 1) := by decide +kernel
theorem dL_law_787 : decode cL_law 787 = .ok (.iload_n 3, 1) := by decide +kernel
theorem dL_law_788 : decode cL_law 788 = .ok (.iconst 1, 1) := by decide +kernel
theorem dL_law_789 : decode cL_law 789 = .ok (.iadd, 1) := by decide +kernel
theorem dL_law_790 : decode cL_law 790 = .ok (.iaload, 1) := by decide +kernel
theorem dL_law_791 : decode cL_law 791 = .ok (.aload_n 0, 1) := by decide +kernel
theorem dL_law_792 : decode cL_law 792 = .ok (.iload_n 3, 1) := by decide +kernel
theorem dL_law_793 : decode cL_law 793 = .ok (.iconst 2, 1) := by decide +kernel
theorem dL_law_794 : decode cL_law 794 = .ok (.iadd, 1) := by decide +kernel
theorem dL_law_795 : decode cL_law 795 = .ok (.iaload, 1) := by decide +kernel
theorem dL_law_796 : decode cL_law 796 = .ok (.aload_n 0, 1) := by decide +kernel
theorem dL_law_797 : decode cL_law 797 = .ok (.iload_n 3, 1) := by decide +kernel
theorem dL_law_798 : decode cL_law 798 = .ok (.iconst 3, 1) := by decide +kernel
theorem dL_law_799 : decode cL_law 799 = .ok (.iadd, 1) := by decide +kernel
theorem dL_law_800 : decode cL_law 800 = .ok (.iaload, 1) := by decide +kernel
theorem dL_law_801 : decode cL_law 801 = .ok (.aload_n 0, 1) := by decide +kernel
theorem dL_law_802 : decode cL_law 802 = .ok (.iload_n 3, 1) := by decide +kernel
theorem dL_law_803 : decode cL_law 803 = .ok (.iconst 4, 1) := by decide +kernel
theorem dL_law_804 : decode cL_law 804 = .ok (.iadd, 1) := by decide +kernel
theorem dL_law_805 : decode cL_law 805 = .ok (.iaload, 1) := by decide +kernel
theorem dL_law_806 : decode cL_law 806 = .ok (.aload_n 0, 1) := by decide +kernel
theorem dL_law_807 : decode cL_law 807 = .ok (.iload_n 3, 1) := by decide +kernel
theorem dL_law_808 : decode cL_law 808 = .ok (.iconst 5, 1) := by decide +kernel
theorem dL_law_809 : decode cL_law 809 = .ok (.iadd, 1) := by decide +kernel
theorem dL_law_810 : decode cL_law 810 = .ok (.iaload, 1) := by decide +kernel
theorem dL_law_811 : decode cL_law 811 = .ok (.invokevirtual 77, 3) := by decide +kernel
theorem dL_law_814 : decode cL_law 814 = .ok (.if_icmp .eq 529, 3) := by decide +kernel
theorem dL_law_817 : decode cL_law 817 = .ok (.iconst 0, 1) := by decide +kernel
theorem dL_law_818 : decode cL_law 818 = .ok (.ireturn, 1) := by decide +kernel
theorem dL_law_819 : decode cL_law 819 = .ok (.aload_n 1, 1) := by decide +kernel
theorem dL_law_820 : decode cL_law 820 = .ok (.aload_n 0, 1) := by decide +kernel
theorem dL_law_821 : decode cL_law 821 = .ok (.iload_n 3, 1) := by decide +kernel
theorem dL_law_822 : decode cL_law 822 = .ok (.iconst 1, 1) := by decide +kernel
theorem dL_law_823 : decode cL_law 823 = .ok (.iadd, 1) := by decide +kernel
theorem dL_law_824 : decode cL_law 824 = .ok (.iaload, 1) := by decide +kernel
theorem dL_law_825 : decode cL_law 825 = .ok (.ifCond .eq 7, 3) := by decide +kernel
theorem dL_law_828 : decode cL_law 828 = .ok (.iconst 1, 1) := by decide +kernel
theorem dL_law_829 : decode cL_law 829 = .ok (.goto 4, 3) := by decide +kernel
theorem dL_law_832 : decode cL_law 832 = .ok (.iconst 0, 1) := by decide +kernel
theorem dL_law_833 : decode cL_law 833 = .ok (.aload_n 0, 1) := by decide +kernel
theorem dL_law_834 : decode cL_law 834 = .ok (.iload_n 3, 1) := by decide +kernel
theorem dL_law_835 : decode cL_law 835 = .ok (.iconst 2, 1) := by decide +kernel
theorem dL_law_836 : decode cL_law 836 = .ok (.iadd, 1) := by decide +kernel
theorem dL_law_837 : decode cL_law 837 = .ok (.iaload, 1) := by decide +kernel
theorem dL_law_838 : decode cL_law 838 = .ok (.aload_n 0, 1) := by decide +kernel
theorem dL_law_839 : decode cL_law 839 = .ok (.iload_n 3, 1) := by decide +kernel
theorem dL_law_840 : decode cL_law 840 = .ok (.iconst 3, 1) := by decide +kernel
theorem dL_law_841 : decode cL_law 841 = .ok (.iadd, 1) := by decide +kernel
theorem dL_law_842 : decode cL_law 842 = .ok (.iaload, 1) := by decide +kernel
theorem dL_law_843 : decode cL_law 843 = .ok (.invokevirtual 78, 3) := by decide +kernel
theorem dL_law_846 : decode cL_law 846 = .ok (.aload_n 2, 1) := by decide +kernel
theorem dL_law_847 : decode cL_law 847 = .ok (.aload_n 0, 1) := by decide +kernel
theorem dL_law_848 : decode cL_law 848 = .ok (.iload_n 3, 1) := by decide +kernel
theorem dL_law_849 : decode cL_law 849 = .ok (.iconst 1, 1) := by decide +kernel
theorem dL_law_850 : decode cL_law 850 = .ok (.iadd, 1) := by decide +kernel
theorem dL_law_851 : decode cL_law 851 = .ok (.iaload, 1) := by decide +kernel
theorem dL_law_852 : decode cL_law 852 = .ok (.ifCond .eq 7, 3) := by decide +kernel
theorem dL_law_855 : decode cL_law 855 = .ok (.iconst 1, 1) := by decide +kernel
theorem dL_law_856 : decode cL_law 856 = .ok (.goto 4, 3) := by decide +kernel
theorem dL_law_859 : decode cL_law 859 = .ok (.iconst 0, 1) := by decide +kernel
theorem dL_law_860 : decode cL_law 860 = .ok (.aload_n 0, 1) := by decide +kernel
theorem dL_law_861 : decode cL_law 861 = .ok (.iload_n 3, 1) := by decide +kernel
theorem dL_law_862 : decode cL_law 862 = .ok (.iconst 2, 1) := by decide +kernel
theorem dL_law_863 : decode cL_law 863 = .ok (.iadd, 1) := by decide +kernel
theorem dL_law_864 : decode cL_law 864 = .ok (.iaload, 1) := by decide +kernel
theorem dL_law_865 : decode cL_law 865 = .ok (.aload_n 0, 1) := by decide +kernel
theorem dL_law_866 : decode cL_law 866 = .ok (.iload_n 3, 1) := by decide +kernel
theorem dL_law_867 : decode cL_law 867 = .ok (.iconst 3, 1) := by decide +kernel
theorem dL_law_868 : decode cL_law 868 = .ok (.iadd, 1) := by decide +kernel
theorem dL_law_869 : decode cL_law 869 = .ok (.iaload, 1) := by decide +kernel
theorem dL_law_870 : decode cL_law 870 = .ok (.invokevirtual 82, 3) := by decide +kernel
theorem dL_law_873 : decode cL_law 873 = .ok (.if_icmp .eq 470, 3) := by decide +kernel
theorem dL_law_876 : decode cL_law 876 = .ok (.iconst 0, 1) := by decide +kernel
theorem dL_law_877 : decode cL_law 877 = .ok (.ireturn, 1) := by decide +kernel
theorem dL_law_878 : decode cL_law 878 = .ok (.aload_n 1, 1) := by decide +kernel
theorem dL_law_879 : decode cL_law 879 = .ok (.aload_n 0, 1) := by decide +kernel
theorem dL_law_880 : decode cL_law 880 = .ok (.iload_n 3, 1) := by decide +kernel
theorem dL_law_881 : decode cL_law 881 = .ok (.iconst 1, 1) := by decide +kernel
theorem dL_law_882 : decode cL_law 882 = .ok (.iadd, 1) := by decide +kernel
theorem dL_law_883 : decode cL_law 883 = .ok (.iaload, 1) := by decide +kernel
theorem dL_law_884 : decode cL_law 884 = .ok (.aload_n 0, 1) := by decide +kernel
theorem dL_law_885 : decode cL_law 885 = .ok (.iload_n 3, 1) := by decide +kernel
theorem dL_law_886 : decode cL_law 886 = .ok (.iconst 2, 1) := by decide +kernel
theorem dL_law_887 : decode cL_law 887 = .ok (.iadd, 1) := by decide +kernel
theorem dL_law_888 : decode cL_law 888 = .ok (.iaload, 1) := by decide +kernel
theorem dL_law_889 : decode cL_law 889 = .ok (.aload_n 0, 1) := by decide +kernel
theorem dL_law_890 : decode cL_law 890 = .ok (.iload_n 3, 1) := by decide +kernel
theorem dL_law_891 : decode cL_law 891 = .ok (.iconst 3, 1) := by decide +kernel
theorem dL_law_892 : decode cL_law 892 = .ok (.iadd, 1) := by decide +kernel
theorem dL_law_893 : decode cL_law 893 = .ok (.iaload, 1) := by decide +kernel
theorem dL_law_894 : decode cL_law 894 = .ok (.invokevirtual 83, 3) := by decide +kernel
theorem dL_law_897 : decode cL_law 897 = .ok (.aload_n 2, 1) := by decide +kernel
theorem dL_law_898 : decode cL_law 898 = .ok (.aload_n 0, 1) := by decide +kernel
theorem dL_law_899 : decode cL_law 899 = .ok (.iload_n 3, 1) := by decide +kernel
theorem dL_law_900 : decode cL_law 900 = .ok (.iconst 1, 1) := by decide +kernel
theorem dL_law_901 : decode cL_law 901 = .ok (.iadd, 1) := by decide +kernel
theorem dL_law_902 : decode cL_law 902 = .ok (.iaload, 1) := by decide +kernel
theorem dL_law_903 : decode cL_law 903 = .ok (.aload_n 0, 1) := by decide +kernel
theorem dL_law_904 : decode cL_law 904 = .ok (.iload_n 3, 1) := by decide +kernel
theorem dL_law_905 : decode cL_law 905 = .ok (.iconst 2, 1) := by decide +kernel
theorem dL_law_906 : decode cL_law 906 = .ok (.iadd, 1) := by decide +kernel
theorem dL_law_907 : decode cL_law 907 = .ok (.iaload, 1) := by decide +kernel
theorem dL_law_908 : decode cL_law 908 = .ok (.aload_n 0, 1) := by decide +kernel
theorem dL_law_909 : decode cL_law 909 = .ok (.iload_n 3, 1) := by decide +kernel
theorem dL_law_910 : decode cL_law 910 = .ok (.iconst 3, 1) := by decide +kernel
theorem dL_law_911 : decode cL_law 911 = .ok (.iadd, 1) := by decide +kernel
theorem dL_law_912 : decode cL_law 912 = .ok (.iaload, 1) := by decide +kernel
theorem dL_law_913 : decode cL_law 913 = .ok (.invokevirtual 86, 3) := by decide +kernel
theorem dL_law_916 : decode cL_law 916 = .ok (.if_icmp .eq 427, 3) := by decide +kernel
theorem dL_law_919 : decode cL_law 919 = .ok (.iconst 0, 1) := by decide +kernel
theorem dL_law_920 : decode cL_law 920 = .ok (.ireturn, 1) := by decide +kernel
theorem dL_law_921 : decode cL_law 921 = .ok (.aload_n 1, 1) := by decide +kernel
theorem dL_law_922 : decode cL_law 922 = .ok (.aload_n 0, 1) := by decide +kernel
theorem dL_law_923 : decode cL_law 923 = .ok (.iload_n 3, 1) := by decide +kernel
theorem dL_law_924 : decode cL_law 924 = .ok (.iconst 1, 1) := by decide +kernel
theorem dL_law_925 : decode cL_law 925 = .ok (.iadd, 1) := by decide +kernel
theorem dL_law_926 : decode cL_law 926 = .ok (.iaload, 1) := by decide +kernel
theorem dL_law_927 : decode cL_law 927 = .ok (.aload_n 0, 1) := by decide +kernel
theorem dL_law_928 : decode cL_law 928 = .ok (.iload_n 3, 1) := by decide +kernel
theorem dL_law_929 : decode cL_law 929 = .ok (.iconst 2, 1) := by decide +kernel
theorem dL_law_930 : decode cL_law 930 = .ok (.iadd, 1) := by decide +kernel
theorem dL_law_931 : decode cL_law 931 = .ok (.iaload, 1) := by decide +kernel
theorem dL_law_932 : decode cL_law 932 = .ok (.invokevirtual 87, 3) := by decide +kernel
theorem dL_law_935 : decode cL_law 935 = .ok (.aload_n 2, 1) := by decide +kernel
theorem dL_law_936 : decode cL_law 936 = .ok (.aload_n 0, 1) := by decide +kernel
theorem dL_law_937 : decode cL_law 937 = .ok (.iload_n 3, 1) := by decide +kernel
theorem dL_law_938 : decode cL_law 938 = .ok (.iconst 1, 1) := by decide +kernel
theorem dL_law_939 : decode cL_law 939 = .ok (.iadd, 1) := by decide +kernel
theorem dL_law_940 : decode cL_law 940 = .ok (.iaload, 1) := by decide +kernel
theorem dL_law_941 : decode cL_law 941 = .ok (.aload_n 0, 1) := by decide +kernel
theorem dL_law_942 : decode cL_law 942 = .ok (.iload_n 3, 1) := by decide +kernel
theorem dL_law_943 : decode cL_law 943 = .ok (.iconst 2, 1) := by decide +kernel
theorem dL_law_944 : decode cL_law 944 = .ok (.iadd, 1) := by decide +kernel
theorem dL_law_945 : decode cL_law 945 = .ok (.iaload, 1) := by decide +kernel
theorem dL_law_946 : decode cL_law 946 = .ok (.invokevirtual 90, 3) := by decide +kernel
theorem dL_law_949 : decode cL_law 949 = .ok (.if_icmp .eq 394, 3) := by decide +kernel
theorem dL_law_952 : decode cL_law 952 = .ok (.iconst 0, 1) := by decide +kernel
theorem dL_law_953 : decode cL_law 953 = .ok (.ireturn, 1) := by decide +kernel
theorem dL_law_954 : decode cL_law 954 = .ok (.aload_n 1, 1) := by decide +kernel
theorem dL_law_955 : decode cL_law 955 = .ok (.aload_n 0, 1) := by decide +kernel
theorem dL_law_956 : decode cL_law 956 = .ok (.iload_n 3, 1) := by decide +kernel
theorem dL_law_957 : decode cL_law 957 = .ok (.iconst 1, 1) := by decide +kernel
theorem dL_law_958 : decode cL_law 958 = .ok (.iadd, 1) := by decide +kernel
theorem dL_law_959 : decode cL_law 959 = .ok (.iaload, 1) := by decide +kernel
theorem dL_law_960 : decode cL_law 960 = .ok (.aload_n 0, 1) := by decide +kernel
theorem dL_law_961 : decode cL_law 961 = .ok (.iload_n 3, 1) := by decide +kernel
theorem dL_law_962 : decode cL_law 962 = .ok (.iconst 2, 1) := by decide +kernel
theorem dL_law_963 : decode cL_law 963 = .ok (.iadd, 1) := by decide +kernel
theorem dL_law_964 : decode cL_law 964 = .ok (.iaload, 1) := by decide +kernel
theorem dL_law_965 : decode cL_law 965 = .ok (.aload_n 0, 1) := by decide +kernel
theorem dL_law_966 : decode cL_law 966 = .ok (.iload_n 3, 1) := by decide +kernel
theorem dL_law_967 : decode cL_law 967 = .ok (.iconst 3, 1) := by decide +kernel
theorem dL_law_968 : decode cL_law 968 = .ok (.iadd, 1) := by decide +kernel
theorem dL_law_969 : decode cL_law 969 = .ok (.iaload, 1) := by decide +kernel
theorem dL_law_970 : decode cL_law 970 = .ok (.aload_n 0, 1) := by decide +kernel
theorem dL_law_971 : decode cL_law 971 = .ok (.iload_n 3, 1) := by decide +kernel
theorem dL_law_972 : decode cL_law 972 = .ok (.iconst 4, 1) := by decide +kernel
theorem dL_law_973 : decode cL_law 973 = .ok (.iadd, 1) := by decide +kernel
theorem dL_law_974 : decode cL_law 974 = .ok (.iaload, 1) := by decide +kernel
theorem dL_law_975 : decode cL_law 975 = .ok (.invokevirtual 91, 3) := by decide +kernel
theorem dL_law_978 : decode cL_law 978 = .ok (.aload_n 2, 1) := by decide +kernel
theorem dL_law_979 : decode cL_law 979 = .ok (.aload_n 0, 1) := by decide +kernel
theorem dL_law_980 : decode cL_law 980 = .ok (.iload_n 3, 1) := by decide +kernel
theorem dL_law_981 : decode cL_law 981 = .ok (.iconst 1, 1) := by decide +kernel
theorem dL_law_982 : decode cL_law 982 = .ok (.iadd, 1) := by decide +kernel
theorem dL_law_983 : decode cL_law 983 = .ok (.iaload, 1) := by decide +kernel
theorem dL_law_984 : decode cL_law 984 = .ok (.aload_n 0, 1) := by decide +kernel
theorem dL_law_985 : decode cL_law 985 = .ok (.iload_n 3, 1) := by decide +kernel
theorem dL_law_986 : decode cL_law 986 = .ok (.iconst 2, 1) := by decide +kernel
theorem dL_law_987 : decode cL_law 987 = .ok (.iadd, 1) := by decide +kernel
theorem dL_law_988 : decode cL_law 988 = .ok (.iaload, 1) := by decide +kernel
theorem dL_law_989 : decode cL_law 989 = .ok (.aload_n 0, 1) := by decide +kernel
theorem dL_law_990 : decode cL_law 990 = .ok (.iload_n 3, 1) := by decide +kernel
theorem dL_law_991 : decode cL_law 991 = .ok (.iconst 3, 1) := by decide +kernel
theorem dL_law_992 : decode cL_law 992 = .ok (.iadd, 1) := by decide +kernel
theorem dL_law_993 : decode cL_law 993 = .ok (.iaload, 1) := by decide +kernel
theorem dL_law_994 : decode cL_law 994 = .ok (.aload_n 0, 1) := by decide +kernel
theorem dL_law_995 : decode cL_law 995 = .ok (.iload_n 3, 1) := by decide +kernel
theorem dL_law_996 : decode cL_law 996 = .ok (.iconst 4, 1) := by decide +kernel
theorem dL_law_997 : decode cL_law 997 = .ok (.iadd, 1) := by decide +kernel
theorem dL_law_998 : decode cL_law 998 = .ok (.iaload, 1) := by decide +kernel
theorem dL_law_999 : decode cL_law 999 = .ok (.invokevirtual 94, 3) := by decide +kernel
theorem dL_law_1002 : decode cL_law 1002 = .ok (.if_icmp .eq 341, 3) := by decide +kernel
theorem dL_law_1005 : decode cL_law 1005 = .ok (.iconst 0, 1) := by decide +kernel
theorem dL_law_1006 : decode cL_law 1006 = .ok (.ireturn, 1) := by decide +kernel
theorem dL_law_1007 : decode cL_law 1007 = .ok (.aload_n 1, 1) := by decide +kernel
theorem dL_law_1008 : decode cL_law 1008 = .ok (.aload_n 0, 1) := by decide +kernel
theorem dL_law_1009 : decode cL_law 1009 = .ok (.iload_n 3, 1) := by decide +kernel
theorem dL_law_1010 : decode cL_law 1010 = .ok (.iconst 1, 1) := by decide +kernel
theorem dL_law_1011 : decode cL_law 1011 = .ok (.iadd, 1) := by decide +kernel
theorem dL_law_1012 : decode cL_law 1012 = .ok (.iaload, 1) := by decide +kernel
theorem dL_law_1013 : decode cL_law 1013 = .ok (.aload_n 0, 1) := by decide +kernel
theorem dL_law_1014 : decode cL_law 1014 = .ok (.iload_n 3, 1) := by decide +kernel
theorem dL_law_1015 : decode cL_law 1015 = .ok (.iconst 2, 1) := by decide +kernel
theorem dL_law_1016 : decode cL_law 1016 = .ok (.iadd, 1) := by decide +kernel
theorem dL_law_1017 : decode cL_law 1017 = .ok (.iaload, 1) := by decide +kernel
theorem dL_law_1018 : decode cL_law 1018 = .ok (.aload_n 0, 1) := by decide +kernel
theorem dL_law_1019 : decode cL_law 1019 = .ok (.iload_n 3, 1) := by decide +kernel
theorem dL_law_1020 : decode cL_law 1020 = .ok (.iconst 3, 1) := by decide +kernel
theorem dL_law_1021 : decode cL_law 1021 = .ok (.iadd, 1) := by decide +kernel
theorem dL_law_1022 : decode cL_law 1022 = .ok (.iaload, 1) := by decide +kernel
theorem dL_law_1023 : decode cL_law 1023 = .ok (.invokevirtual 95, 3) := by decide +kernel
theorem dL_law_1026 : decode cL_law 1026 = .ok (.aload_n 2, 1) := by decide +kernel
theorem dL_law_1027 : decode cL_law 1027 = .ok (.aload_n 0, 1) := by decide +kernel
theorem dL_law_1028 : decode cL_law 1028 = .ok (.iload_n 3, 1) := by decide +kernel
theorem dL_law_1029 : decode cL_law 1029 = .ok (.iconst 1, 1) := by decide +kernel
theorem dL_law_1030 : decode cL_law 1030 = .ok (.iadd, 1) := by decide +kernel
theorem dL_law_1031 : decode cL_law 1031 = .ok (.iaload, 1) := by decide +kernel
theorem dL_law_1032 : decode cL_law 1032 = .ok (.aload_n 0, 1) := by decide +kernel
theorem dL_law_1033 : decode cL_law 1033 = .ok (.iload_n 3, 1) := by decide +kernel
theorem dL_law_1034 : decode cL_law 1034 = .ok (.iconst 2, 1) := by decide +kernel
theorem dL_law_1035 : decode cL_law 1035 = .ok (.iadd, 1) := by decide +kernel
theorem dL_law_1036 : decode cL_law 1036 = .ok (.iaload, 1) := by decide +kernel
theorem dL_law_1037 : decode cL_law 1037 = .ok (.aload_n 0, 1) := by decide +kernel
theorem dL_law_1038 : decode cL_law 1038 = .ok (.iload_n 3, 1) := by decide +kernel
theorem dL_law_1039 : decode cL_law 1039 = .ok (.iconst 3, 1) := by decide +kernel
theorem dL_law_1040 : decode cL_law 1040 = .ok (.iadd, 1) := by decide +kernel
theorem dL_law_1041 : decode cL_law 1041 = .ok (.iaload, 1) := by decide +kernel
theorem dL_law_1042 : decode cL_law 1042 = .ok (.invokevirtual 98, 3) := by decide +kernel
theorem dL_law_1045 : decode cL_law 1045 = .ok (.if_icmp .eq 298, 3) := by decide +kernel
theorem dL_law_1048 : decode cL_law 1048 = .ok (.iconst 0, 1) := by decide +kernel
theorem dL_law_1049 : decode cL_law 1049 = .ok (.ireturn, 1) := by decide +kernel
theorem dL_law_1050 : decode cL_law 1050 = .ok (.aload_n 1, 1) := by decide +kernel
theorem dL_law_1051 : decode cL_law 1051 = .ok (.aload_n 0, 1) := by decide +kernel
theorem dL_law_1052 : decode cL_law 1052 = .ok (.iload_n 3, 1) := by decide +kernel
theorem dL_law_1053 : decode cL_law 1053 = .ok (.iconst 1, 1) := by decide +kernel
theorem dL_law_1054 : decode cL_law 1054 = .ok (.iadd, 1) := by decide +kernel
theorem dL_law_1055 : decode cL_law 1055 = .ok (.iaload, 1) := by decide +kernel
theorem dL_law_1056 : decode cL_law 1056 = .ok (.aload_n 0, 1) := by decide +kernel
theorem dL_law_1057 : decode cL_law 1057 = .ok (.iload_n 3, 1) := by decide +kernel
theorem dL_law_1058 : decode cL_law 1058 = .ok (.iconst 2, 1) := by decide +kernel
theorem dL_law_1059 : decode cL_law 1059 = .ok (.iadd, 1) := by decide +kernel
theorem dL_law_1060 : decode cL_law 1060 = .ok (.iaload, 1) := by decide +kernel
theorem dL_law_1061 : decode cL_law 1061 = .ok (.aload_n 0, 1) := by decide +kernel
theorem dL_law_1062 : decode cL_law 1062 = .ok (.iload_n 3, 1) := by decide +kernel
theorem dL_law_1063 : decode cL_law 1063 = .ok (.iconst 3, 1) := by decide +kernel
theorem dL_law_1064 : decode cL_law 1064 = .ok (.iadd, 1) := by decide +kernel
theorem dL_law_1065 : decode cL_law 1065 = .ok (.iaload, 1) := by decide +kernel
theorem dL_law_1066 : decode cL_law 1066 = .ok (.aload_n 0, 1) := by decide +kernel
theorem dL_law_1067 : decode cL_law 1067 = .ok (.iload_n 3, 1) := by decide +kernel
theorem dL_law_1068 : decode cL_law 1068 = .ok (.iconst 4, 1) := by decide +kernel
theorem dL_law_1069 : decode cL_law 1069 = .ok (.iadd, 1) := by decide +kernel
theorem dL_law_1070 : decode cL_law 1070 = .ok (.iaload, 1) := by decide +kernel
theorem dL_law_1071 : decode cL_law 1071 = .ok (.invokevirtual 99, 3) := by decide +kernel
theorem dL_law_1074 : decode cL_law 1074 = .ok (.aload_n 2, 1) := by decide +kernel
theorem dL_law_1075 : decode cL_law 1075 = .ok (.aload_n 0, 1) := by decide +kernel
theorem dL_law_1076 : decode cL_law 1076 = .ok (.iload_n 3, 1) := by decide +kernel
theorem dL_law_1077 : decode cL_law 1077 = .ok (.iconst 1, 1) := by decide +kernel
theorem dL_law_1078 : decode cL_law 1078 = .ok (.iadd, 1) := by decide +kernel
theorem dL_law_1079 : decode cL_law 1079 = .ok (.iaload, 1) := by decide +kernel
theorem dL_law_1080 : decode cL_law 1080 = .ok (.aload_n 0, 1) := by decide +kernel
theorem dL_law_1081 : decode cL_law 1081 = .ok (.iload_n 3, 1) := by decide +kernel
theorem dL_law_1082 : decode cL_law 1082 = .ok (.iconst 2, 1) := by decide +kernel
theorem dL_law_1083 : decode cL_law 1083 = .ok (.iadd, 1) := by decide +kernel
theorem dL_law_1084 : decode cL_law 1084 = .ok (.iaload, 1) := by decide +kernel
theorem dL_law_1085 : decode cL_law 1085 = .ok (.aload_n 0, 1) := by decide +kernel
theorem dL_law_1086 : decode cL_law 1086 = .ok (.iload_n 3, 1) := by decide +kernel
theorem dL_law_1087 : decode cL_law 1087 = .ok (.iconst 3, 1) := by decide +kernel
theorem dL_law_1088 : decode cL_law 1088 = .ok (.iadd, 1) := by decide +kernel
theorem dL_law_1089 : decode cL_law 1089 = .ok (.iaload, 1) := by decide +kernel
theorem dL_law_1090 : decode cL_law 1090 = .ok (.aload_n 0, 1) := by decide +kernel
theorem dL_law_1091 : decode cL_law 1091 = .ok (.iload_n 3, 1) := by decide +kernel
theorem dL_law_1092 : decode cL_law 1092 = .ok (.iconst 4, 1) := by decide +kernel
theorem dL_law_1093 : decode cL_law 1093 = .ok (.iadd, 1) := by decide +kernel
theorem dL_law_1094 : decode cL_law 1094 = .ok (.iaload, 1) := by decide +kernel
theorem dL_law_1095 : decode cL_law 1095 = .ok (.invokevirtual 102, 3) := by decide +kernel
theorem dL_law_1098 : decode cL_law 1098 = .ok (.if_icmp .eq 245, 3) := by decide +kernel
theorem dL_law_1101 : decode cL_law 1101 = .ok (.iconst 0, 1) := by decide +kernel
theorem dL_law_1102 : decode cL_law 1102 = .ok (.ireturn, 1) := by decide +kernel
theorem dL_law_1103 : decode cL_law 1103 = .ok (.aload_n 1, 1) := by decide +kernel
theorem dL_law_1104 : decode cL_law 1104 = .ok (.aload_n 0, 1) := by decide +kernel
theorem dL_law_1105 : decode cL_law 1105 = .ok (.iload_n 3, 1) := by decide +kernel
theorem dL_law_1106 : decode cL_law 1106 = .ok (.iconst 1, 1) := by decide +kernel
theorem dL_law_1107 : decode cL_law 1107 = .ok (.iadd, 1) := by decide +kernel
theorem dL_law_1108 : decode cL_law 1108 = .ok (.iaload, 1) := by decide +kernel
theorem dL_law_1109 : decode cL_law 1109 = .ok (.invokevirtual 103, 3) := by decide +kernel
theorem dL_law_1112 : decode cL_law 1112 = .ok (.aload_n 2, 1) := by decide +kernel
theorem dL_law_1113 : decode cL_law 1113 = .ok (.aload_n 0, 1) := by decide +kernel
theorem dL_law_1114 : decode cL_law 1114 = .ok (.iload_n 3, 1) := by decide +kernel
theorem dL_law_1115 : decode cL_law 1115 = .ok (.iconst 1, 1) := by decide +kernel
theorem dL_law_1116 : decode cL_law 1116 = .ok (.iadd, 1) := by decide +kernel
theorem dL_law_1117 : decode cL_law 1117 = .ok (.iaload, 1) := by decide +kernel
theorem dL_law_1118 : decode cL_law 1118 = .ok (.invokevirtual 106, 3) := by decide +kernel
theorem dL_law_1121 : decode cL_law 1121 = .ok (.if_icmp .eq 222, 3) := by decide +kernel
theorem dL_law_1124 : decode cL_law 1124 = .ok (.iconst 0, 1) := by decide +kernel
theorem dL_law_1125 : decode cL_law 1125 = .ok (.ireturn, 1) := by decide +kernel
theorem dL_law_1126 : decode cL_law 1126 = .ok (.aload_n 1, 1) := by decide +kernel
theorem dL_law_1127 : decode cL_law 1127 = .ok (.aload_n 0, 1) := by decide +kernel
theorem dL_law_1128 : decode cL_law 1128 = .ok (.iload_n 3, 1) := by decide +kernel
theorem dL_law_1129 : decode cL_law 1129 = .ok (.iconst 1, 1) := by decide +kernel
theorem dL_law_1130 : decode cL_law 1130 = .ok (.iadd, 1) := by decide +kernel
theorem dL_law_1131 : decode cL_law 1131 = .ok (.iaload, 1) := by decide +kernel
theorem dL_law_1132 : decode cL_law 1132 = .ok (.aload_n 0, 1) := by decide +kernel
theorem dL_law_1133 : decode cL_law 1133 = .ok (.iload_n 3, 1) := by decide +kernel
theorem dL_law_1134 : decode cL_law 1134 = .ok (.iconst 2, 1) := by decide +kernel
theorem dL_law_1135 : decode cL_law 1135 = .ok (.iadd, 1) := by decide +kernel
theorem dL_law_1136 : decode cL_law 1136 = .ok (.iaload, 1) := by decide +kernel
theorem dL_law_1137 : decode cL_law 1137 = .ok (.invokevirtual 107, 3) := by decide +kernel
theorem dL_law_1140 : decode cL_law 1140 = .ok (.aload_n 2, 1) := by decide +kernel
theorem dL_law_1141 : decode cL_law 1141 = .ok (.aload_n 0, 1) := by decide +kernel
theorem dL_law_1142 : decode cL_law 1142 = .ok (.iload_n 3, 1) := by decide +kernel
theorem dL_law_1143 : decode cL_law 1143 = .ok (.iconst 1, 1) := by decide +kernel
theorem dL_law_1144 : decode cL_law 1144 = .ok (.iadd, 1) := by decide +kernel
theorem dL_law_1145 : decode cL_law 1145 = .ok (.iaload, 1) := by decide +kernel
theorem dL_law_1146 : decode cL_law 1146 = .ok (.aload_n 0, 1) := by decide +kernel
theorem dL_law_1147 : decode cL_law 1147 = .ok (.iload_n 3, 1) := by decide +kernel
theorem dL_law_1148 : decode cL_law 1148 = .ok (.iconst 2, 1) := by decide +kernel
theorem dL_law_1149 : decode cL_law 1149 = .ok (.iadd, 1) := by decide +kernel
theorem dL_law_1150 : decode cL_law 1150 = .ok (.iaload, 1) := by decide +kernel
theorem dL_law_1151 : decode cL_law 1151 = .ok (.invokevirtual 110, 3) := by decide +kernel
theorem dL_law_1154 : decode cL_law 1154 = .ok (.if_icmp .eq 189, 3) := by decide +kernel
theorem dL_law_1157 : decode cL_law 1157 = .ok (.iconst 0, 1) := by decide +kernel
theorem dL_law_1158 : decode cL_law 1158 = .ok (.ireturn, 1) := by decide +kernel
theorem dL_law_1159 : decode cL_law 1159 = .ok (.aload_n 1, 1) := by decide +kernel
theorem dL_law_1160 : decode cL_law 1160 = .ok (.aload_n 0, 1) := by decide +kernel
theorem dL_law_1161 : decode cL_law 1161 = .ok (.iload_n 3, 1) := by decide +kernel
theorem dL_law_1162 : decode cL_law 1162 = .ok (.iconst 1, 1) := by decide +kernel
theorem dL_law_1163 : decode cL_law 1163 = .ok (.iadd, 1) := by decide +kernel
theorem dL_law_1164 : decode cL_law 1164 = .ok (.iaload, 1) := by decide +kernel
theorem dL_law_1165 : decode cL_law 1165 = .ok (.invokevirtual 111, 3) := by decide +kernel
theorem dL_law_1168 : decode cL_law 1168 = .ok (.aload_n 2, 1) := by decide +kernel
theorem dL_law_1169 : decode cL_law 1169 = .ok (.aload_n 0, 1) := by decide +kernel
theorem dL_law_1170 : decode cL_law 1170 = .ok (.iload_n 3, 1) := by decide +kernel
theorem dL_law_1171 : decode cL_law 1171 = .ok (.iconst 1, 1) := by decide +kernel
theorem dL_law_1172 : decode cL_law 1172 = .ok (.iadd, 1) := by decide +kernel
theorem dL_law_1173 : decode cL_law 1173 = .ok (.iaload, 1) := by decide +kernel
theorem dL_law_1174 : decode cL_law 1174 = .ok (.invokevirtual 114, 3) := by decide +kernel
theorem dL_law_1177 : decode cL_law 1177 = .ok (.if_icmp .eq 166, 3) := by decide +kernel
theorem dL_law_1180 : decode cL_law 1180 = .ok (.iconst 0, 1) := by decide +kernel
theorem dL_law_1181 : decode cL_law 1181 = .ok (.ireturn, 1) := by decide +kernel
theorem dL_law_1182 : decode cL_law 1182 = .ok (.aload_n 1, 1) := by decide +kernel
theorem dL_law_1183 : decode cL_law 1183 = .ok (.aload_n 0, 1) := by decide +kernel
theorem dL_law_1184 : decode cL_law 1184 = .ok (.iload_n 3, 1) := by decide +kernel
theorem dL_law_1185 : decode cL_law 1185 = .ok (.iconst 1, 1) := by decide +kernel
theorem dL_law_1186 : decode cL_law 1186 = .ok (.iadd, 1) := by decide +kernel
theorem dL_law_1187 : decode cL_law 1187 = .ok (.iaload, 1) := by decide +kernel
theorem dL_law_1188 : decode cL_law 1188 = .ok (.aload_n 0, 1) := by decide +kernel
theorem dL_law_1189 : decode cL_law 1189 = .ok (.iload_n 3, 1) := by decide +kernel
theorem dL_law_1190 : decode cL_law 1190 = .ok (.iconst 2, 1) := by decide +kernel
theorem dL_law_1191 : decode cL_law 1191 = .ok (.iadd, 1) := by decide +kernel
theorem dL_law_1192 : decode cL_law 1192 = .ok (.iaload, 1) := by decide +kernel
theorem dL_law_1193 : decode cL_law 1193 = .ok (.invokevirtual 115, 3) := by decide +kernel
theorem dL_law_1196 : decode cL_law 1196 = .ok (.aload_n 2, 1) := by decide +kernel
theorem dL_law_1197 : decode cL_law 1197 = .ok (.aload_n 0, 1) := by decide +kernel
theorem dL_law_1198 : decode cL_law 1198 = .ok (.iload_n 3, 1) := by decide +kernel
theorem dL_law_1199 : decode cL_law 1199 = .ok (.iconst 1, 1) := by decide +kernel
theorem dL_law_1200 : decode cL_law 1200 = .ok (.iadd, 1) := by decide +kernel
theorem dL_law_1201 : decode cL_law 1201 = .ok (.iaload, 1) := by decide +kernel
theorem dL_law_1202 : decode cL_law 1202 = .ok (.aload_n 0, 1) := by decide +kernel
theorem dL_law_1203 : decode cL_law 1203 = .ok (.iload_n 3, 1) := by decide +kernel
theorem dL_law_1204 : decode cL_law 1204 = .ok (.iconst 2, 1) := by decide +kernel
theorem dL_law_1205 : decode cL_law 1205 = .ok (.iadd, 1) := by decide +kernel
theorem dL_law_1206 : decode cL_law 1206 = .ok (.iaload, 1) := by decide +kernel
theorem dL_law_1207 : decode cL_law 1207 = .ok (.invokevirtual 118, 3) := by decide +kernel
theorem dL_law_1210 : decode cL_law 1210 = .ok (.if_icmp .eq 133, 3) := by decide +kernel
theorem dL_law_1213 : decode cL_law 1213 = .ok (.iconst 0, 1) := by decide +kernel
theorem dL_law_1214 : decode cL_law 1214 = .ok (.ireturn, 1) := by decide +kernel
theorem dL_law_1215 : decode cL_law 1215 = .ok (.aload_n 1, 1) := by decide +kernel
theorem dL_law_1216 : decode cL_law 1216 = .ok (.aload_n 0, 1) := by decide +kernel
theorem dL_law_1217 : decode cL_law 1217 = .ok (.iload_n 3, 1) := by decide +kernel
theorem dL_law_1218 : decode cL_law 1218 = .ok (.iconst 1, 1) := by decide +kernel
theorem dL_law_1219 : decode cL_law 1219 = .ok (.iadd, 1) := by decide +kernel
theorem dL_law_1220 : decode cL_law 1220 = .ok (.iaload, 1) := by decide +kernel
theorem dL_law_1221 : decode cL_law 1221 = .ok (.aload_n 0, 1) := by decide +kernel
theorem dL_law_1222 : decode cL_law 1222 = .ok (.iload_n 3, 1) := by decide +kernel
theorem dL_law_1223 : decode cL_law 1223 = .ok (.iconst 2, 1) := by decide +kernel
theorem dL_law_1224 : decode cL_law 1224 = .ok (.iadd, 1) := by decide +kernel
theorem dL_law_1225 : decode cL_law 1225 = .ok (.iaload, 1) := by decide +kernel
theorem dL_law_1226 : decode cL_law 1226 = .ok (.aload_n 0, 1) := by decide +kernel
theorem dL_law_1227 : decode cL_law 1227 = .ok (.iload_n 3, 1) := by decide +kernel
theorem dL_law_1228 : decode cL_law 1228 = .ok (.iconst 3, 1) := by decide +kernel
theorem dL_law_1229 : decode cL_law 1229 = .ok (.iadd, 1) := by decide +kernel
theorem dL_law_1230 : decode cL_law 1230 = .ok (.iaload, 1) := by decide +kernel
theorem dL_law_1231 : decode cL_law 1231 = .ok (.ifCond .eq 7, 3) := by decide +kernel
theorem dL_law_1234 : decode cL_law 1234 = .ok (.iconst 1, 1) := by decide +kernel
theorem dL_law_1235 : decode cL_law 1235 = .ok (.goto 4, 3) := by decide +kernel
theorem dL_law_1238 : decode cL_law 1238 = .ok (.iconst 0, 1) := by decide +kernel
theorem dL_law_1239 : decode cL_law 1239 = .ok (.invokevirtual 119, 3) := by decide +kernel
theorem dL_law_1242 : decode cL_law 1242 = .ok (.aload_n 2, 1) := by decide +kernel
theorem dL_law_1243 : decode cL_law 1243 = .ok (.aload_n 0, 1) := by decide +kernel
theorem dL_law_1244 : decode cL_law 1244 = .ok (.iload_n 3, 1) := by decide +kernel
theorem dL_law_1245 : decode cL_law 1245 = .ok (.iconst 1, 1) := by decide +kernel
theorem dL_law_1246 : decode cL_law 1246 = .ok (.iadd, 1) := by decide +kernel
theorem dL_law_1247 : decode cL_law 1247 = .ok (.iaload, 1) := by decide +kernel
theorem dL_law_1248 : decode cL_law 1248 = .ok (.aload_n 0, 1) := by decide +kernel
theorem dL_law_1249 : decode cL_law 1249 = .ok (.iload_n 3, 1) := by decide +kernel
theorem dL_law_1250 : decode cL_law 1250 = .ok (.iconst 2, 1) := by decide +kernel
theorem dL_law_1251 : decode cL_law 1251 = .ok (.iadd, 1) := by decide +kernel
theorem dL_law_1252 : decode cL_law 1252 = .ok (.iaload, 1) := by decide +kernel
theorem dL_law_1253 : decode cL_law 1253 = .ok (.aload_n 0, 1) := by decide +kernel
theorem dL_law_1254 : decode cL_law 1254 = .ok (.iload_n 3, 1) := by decide +kernel
theorem dL_law_1255 : decode cL_law 1255 = .ok (.iconst 3, 1) := by decide +kernel
theorem dL_law_1256 : decode cL_law 1256 = .ok (.iadd, 1) := by decide +kernel
theorem dL_law_1257 : decode cL_law 1257 = .ok (.iaload, 1) := by decide +kernel
theorem dL_law_1258 : decode cL_law 1258 = .ok (.ifCond .eq 7, 3) := by decide +kernel
theorem dL_law_1261 : decode cL_law 1261 = .ok (.iconst 1, 1) := by decide +kernel
theorem dL_law_1262 : decode cL_law 1262 = .ok (.goto 4, 3) := by decide +kernel
theorem dL_law_1265 : decode cL_law 1265 = .ok (.iconst 0, 1) := by decide +kernel
theorem dL_law_1266 : decode cL_law 1266 = .ok (.invokevirtual 123, 3) := by decide +kernel
theorem dL_law_1269 : decode cL_law 1269 = .ok (.if_icmp .eq 74, 3) := by decide +kernel
theorem dL_law_1272 : decode cL_law 1272 = .ok (.iconst 0, 1) := by decide +kernel
theorem dL_law_1273 : decode cL_law 1273 = .ok (.ireturn, 1) := by decide +kernel
theorem dL_law_1274 : decode cL_law 1274 = .ok (.aload_n 1, 1) := by decide +kernel
theorem dL_law_1275 : decode cL_law 1275 = .ok (.aload_n 0, 1) := by decide +kernel
theorem dL_law_1276 : decode cL_law 1276 = .ok (.iload_n 3, 1) := by decide +kernel
theorem dL_law_1277 : decode cL_law 1277 = .ok (.iconst 1, 1) := by decide +kernel
theorem dL_law_1278 : decode cL_law 1278 = .ok (.iadd, 1) := by decide +kernel
theorem dL_law_1279 : decode cL_law 1279 = .ok (.iaload, 1) := by decide +kernel
theorem dL_law_1280 : decode cL_law 1280 = .ok (.invokevirtual 124, 3) := by decide +kernel
theorem dL_law_1283 : decode cL_law 1283 = .ok (.aload_n 2, 1) := by decide +kernel
theorem dL_law_1284 : decode cL_law 1284 = .ok (.aload_n 0, 1) := by decide +kernel
theorem dL_law_1285 : decode cL_law 1285 = .ok (.iload_n 3, 1) := by decide +kernel
theorem dL_law_1286 : decode cL_law 1286 = .ok (.iconst 1, 1) := by decide +kernel
theorem dL_law_1287 : decode cL_law 1287 = .ok (.iadd, 1) := by decide +kernel
theorem dL_law_1288 : decode cL_law 1288 = .ok (.iaload, 1) := by decide +kernel
theorem dL_law_1289 : decode cL_law 1289 = .ok (.invokevirtual 127, 3) := by decide +kernel
theorem dL_law_1292 : decode cL_law 1292 = .ok (.if_icmp .eq 51, 3) := by decide +kernel
theorem dL_law_1295 : decode cL_law 1295 = .ok (.iconst 0, 1) := by decide +kernel
theorem dL_law_1296 : decode cL_law 1296 = .ok (.ireturn, 1) := by decide +kernel
theorem dL_law_1297 : decode cL_law 1297 = .ok (.aload_n 1, 1) := by decide +kernel
theorem dL_law_1298 : decode cL_law 1298 = .ok (.aload_n 0, 1) := by decide +kernel
theorem dL_law_1299 : decode cL_law 1299 = .ok (.iload_n 3, 1) := by decide +kernel
theorem dL_law_1300 : decode cL_law 1300 = .ok (.iconst 1, 1) := by decide +kernel
theorem dL_law_1301 : decode cL_law 1301 = .ok (.iadd, 1) := by decide +kernel
theorem dL_law_1302 : decode cL_law 1302 = .ok (.iaload, 1) := by decide +kernel
theorem dL_law_1303 : decode cL_law 1303 = .ok (.invokevirtual 128, 3) := by decide +kernel
theorem dL_law_1306 : decode cL_law 1306 = .ok (.aload_n 2, 1) := by decide +kernel
theorem dL_law_1307 : decode cL_law 1307 = .ok (.aload_n 0, 1) := by decide +kernel
theorem dL_law_1308 : decode cL_law 1308 = .ok (.iload_n 3, 1) := by decide +kernel
theorem dL_law_1309 : decode cL_law 1309 = .ok (.iconst 1, 1) := by decide +kernel
theorem dL_law_1310 : decode cL_law 1310 = .ok (.iadd, 1) := by decide +kernel
theorem dL_law_1311 : decode cL_law 1311 = .ok (.iaload, 1) := by decide +kernel
theorem dL_law_1312 : decode cL_law 1312 = .ok (.invokevirtual 131, 3) := by decide +kernel
theorem dL_law_1315 : decode cL_law 1315 = .ok (.if_icmp .eq 28, 3) := by decide +kernel
theorem dL_law_1318 : decode cL_law 1318 = .ok (.iconst 0, 1) := by decide +kernel
theorem dL_law_1319 : decode cL_law 1319 = .ok (.ireturn, 1) := by decide +kernel
theorem dL_law_1320 : decode cL_law 1320 = .ok (.aload_n 1, 1) := by decide +kernel
theorem dL_law_1321 : decode cL_law 1321 = .ok (.aload_n 0, 1) := by decide +kernel
theorem dL_law_1322 : decode cL_law 1322 = .ok (.iload_n 3, 1) := by decide +kernel
theorem dL_law_1323 : decode cL_law 1323 = .ok (.iconst 1, 1) := by decide +kernel
theorem dL_law_1324 : decode cL_law 1324 = .ok (.iadd, 1) := by decide +kernel
theorem dL_law_1325 : decode cL_law 1325 = .ok (.iaload, 1) := by decide +kernel
theorem dL_law_1326 : decode cL_law 1326 = .ok (.invokevirtual 132, 3) := by decide +kernel
theorem dL_law_1329 : decode cL_law 1329 = .ok (.aload_n 2, 1) := by decide +kernel
theorem dL_law_1330 : decode cL_law 1330 = .ok (.aload_n 0, 1) := by decide +kernel
theorem dL_law_1331 : decode cL_law 1331 = .ok (.iload_n 3, 1) := by decide +kernel
theorem dL_law_1332 : decode cL_law 1332 = .ok (.iconst 1, 1) := by decide +kernel
theorem dL_law_1333 : decode cL_law 1333 = .ok (.iadd, 1) := by decide +kernel
theorem dL_law_1334 : decode cL_law 1334 = .ok (.iaload, 1) := by decide +kernel
theorem dL_law_1335 : decode cL_law 1335 = .ok (.invokevirtual 135, 3) := by decide +kernel
theorem dL_law_1338 : decode cL_law 1338 = .ok (.if_icmp .eq 5, 3) := by decide +kernel
theorem dL_law_1341 : decode cL_law 1341 = .ok (.iconst 0, 1) := by decide +kernel
theorem dL_law_1342 : decode cL_law 1342 = .ok (.ireturn, 1) := by decide +kernel
theorem dL_law_1343 : decode cL_law 1343 = .ok (.iinc 3 6, 3) := by decide +kernel
theorem dL_law_1346 : decode cL_law 1346 = .ok (.goto (-1328), 3) := by decide +kernel
theorem dL_law_1349 : decode cL_law 1349 = .ok (.iconst 1, 1) := by decide +kernel
theorem dL_law_1350 : decode cL_law 1350 = .ok (.ireturn, 1) := by decide +kernel
end
section

/-- the tables' words that stay when the tables warm -/
def xT : List Cond := lw_tbl.filter goodWord
theorem xin {w : Cond} (i : Nat) (hi : tables_1[i]? = some w) (hg : goodWord w = true) : w ∈ xT := List.mem_filter.mpr ⟨List.mem_append_right _ (List.mem_of_getElem? hi), hg⟩
theorem xins {w : Cond} (i : Nat) (hi : (k2_sels lw_privs)[i]? = some w) (hg : goodWord w = true) : w ∈ xT := List.mem_filter.mpr ⟨List.mem_append_left _ (List.mem_of_getElem? hi), hg⟩
/-- base, the classes' numbers and slots, the array classes' numbers -/
abbrev xG : Type := Nat × va_G × (Nat → ClassId)
def xc (G : xG) (c : va_E) : va_E := match c with
  | .inl a => .inl (G.2.2 a.1, a.2)
  | .inr o => .inr o
def xW (G : xG) (h : List va_E) : va_W := h.mapIdx fun i c => (G.1 + i, xc G c)
theorem xW_get {G : xG} {h : List va_E} {i : Nat} {c : va_E} (e : h[i]? = some c) : (xW G h)[i]? = some (G.1 + i, xc G c) := by
  simp [xW, List.getElem?_mapIdx, e]
theorem xW_at {G : xG} {h : List va_E} {i : Nat} {q : Nat × va_E} (e : (xW G h)[i]? = some q) : ∃ c, h[i]? = some c ∧ q = (G.1 + i, xc G c) := by
  simp only [xW, List.getElem?_mapIdx, Option.map_eq_some_iff] at e
  obtain ⟨c, h1, h2⟩ := e
  exact ⟨c, h1, h2.symm⟩
theorem xW_set (G : xG) (h : List va_E) (i : Nat) (c : va_E) : xW G (h.set i c) = (xW G h).set i (G.1 + i, xc G c) := by
  apply List.ext_getElem?
  intro j
  simp only [xW, List.getElem?_mapIdx, List.getElem?_set, List.length_mapIdx]
  by_cases hj : i = j
  · subst hj
    by_cases hl : i < h.length <;> simp [hl]
  · simp [hj]
theorem xW_push (G : xG) (h : List va_E) (c : va_E) : xW G (h ++ [c]) = xW G h ++ [(G.1 + h.length, xc G c)] := by
  simp [xW, List.mapIdx_append]
theorem xW_D (G : xG) (h : List va_E) : va_D (fun q => G.1 ≤ q) (xW G h) := by
  refine ⟨fun i j p q hi hj e => ?_, fun k q hk => ?_⟩
  · obtain ⟨_, -, rfl⟩ := xW_at hi
    obtain ⟨_, -, rfl⟩ := xW_at hj
    simp at e
    exact e
  · obtain ⟨_, -, rfl⟩ := xW_at hk
    exact Nat.le_add_right _ _
def xtys (G : xG) : List (ClassId × FieldType) := [(G.2.2 0, .int), (G.2.2 1, .long), (G.2.2 2, .boolean), (G.2.2 3, .object RX4)]
/-- what is known of the tables at every state of the run -/
def xK (G : xG) (U : State) : Prop := (∀ w ∈ xT, ∀ a : Array Value, w.before a U = true) ∧ (∀ own i y host, Cond.methodLinkNest own i y host ∈ tables_1 → va_Nw (.methodLinkNest own i y host) U) ∧ va_K G.2.1 vwCl (xtys G) U ∧ va_AO RX4 U
theorem xK.warm {G : xG} {s U : State} (hW : s.WarmedH U.vm) (h : xK G s) : xK G U :=
  ⟨fun w hw a => word_at (args := #[]) hW (good_of_word (List.mem_filter.mp hw).2) (h.1 w hw #[]), fun own i y host hw => va_Nw.warmM hW (h.2.1 own i y host hw), h.2.2.1.moved hW.alike, h.2.2.2.moved hW.alike⟩
theorem xK.same {G : xG} {s U : State} (e : s.vm = U.vm) (h : xK G s) : xK G U := h.warm (by rw [← e]; exact State.WarmedH.refl s)
/-- the heap holds the abstract heap, from the base on -/
def xH (G : xG) (h : List va_E) (H : Heap) : Prop := va_P G.2.1 vwCl (xW G h) H ∧ H.size = G.1 + h.length
abbrev xA (G : xG) : Nat → Prop := fun q => G.1 ≤ q
theorem xH.set {G : xG} {h : List va_E} {H H1 : Heap} {i : Nat} {c0 c : va_E} (hH : xH G h H) (hc : h[i]? = some c0) (hz : H1.size = H.size) (ho : ∀ q, q ≠ G.1 + i → H1[q]? = H[q]?) (ha : va_at G.2.1 vwCl (G.1 + i, xc G c) H1) : xH G (h.set i c) H1 := by
  refine ⟨?_, by rw [hz, hH.2, List.length_set]⟩
  rw [xW_set]
  exact hH.1.set (xW_D G h) (xW_get hc) ha ho
theorem xH.push {G : xG} {h : List va_E} {H H1 : Heap} {c : va_E} (hH : xH G h H) (hz : H1.size = H.size + 1) (ho : ∀ q, q < H.size → H1[q]? = H[q]?) (ha : va_at G.2.1 vwCl (H.size, xc G c) H1) : xH G (h ++ [c]) H1 := by
  refine ⟨?_, by rw [hz, hH.2]; simp [Nat.add_assoc]⟩
  rw [xW_push]
  refine (hH.1.kept (fun k q hk => ho q.1 ((hH.1 k q hk).lt))).app (fun k q hk => ?_)
  have hk0 : k < 1 := (List.getElem?_eq_some_iff.mp hk).1
  rw [show k = 0 by omega] at hk
  cases hk
  rw [← hH.2]
  exact ha
theorem xS_put {G : xG} {H0 H H1 : Heap} {locs : List Loc} {a k : Nat} (h : va_S (xA G) H0 H locs) (z : H1.size = H.size) (oq : ∀ q : Nat, q ≠ a → H1[q]? = H[q]?) (ha : G.1 ≤ a) : va_S (xA G) H0 H1 (locs ++ [⟨a, k⟩]) := h.put z oq ha
theorem xS_push {G : xG} {H0 H H1 : Heap} {locs : List Loc} (h : va_S (xA G) H0 H locs) (hz : H1.size = H.size + 1) (ho : ∀ q, q < H.size → H1[q]? = H[q]?) : va_S (xA G) H0 H1 locs :=
  ⟨Nat.le_trans h.1 (by omega), fun q h1 h2 => (ho q (Nat.lt_of_lt_of_le h1 h.1)).trans (h.2.1 q h1 h2), h.2.2⟩
/-- what holds of a method's frame all along its walk -/
def xC (G : xG) (y : MethodName) (cc : ByteArray) (nL : Nat) (ret : Option FieldType) (E : Array Value → State → Prop) (p : Program) (s : State) (m : MethodId) (args : Array Value) (meth : Method) (c : Code) : Prop :=
  p.tables.exec = Jvm.exec ∧ c.code = cc ∧ c.maxLocals = nL ∧ meth.sig.returnType = ret ∧ meth.locks = false ∧ meth.name = y.name ∧ s.vm.findClass y.cls = some m.cls ∧ xK G s ∧ E args s ∧ G.1 ≤ s.heap.size
/-- the abstract walk: whatever machine, whatever frames below -/
def AW (l : Launch) (G : xG) (y : MethodName) (cc : ByteArray) (nL : Nat) (ret : Option FieldType) (R : Room) (E : Array Value → State → Prop) (QF : List Frame → Array Value → State → State → Prop) (k n pc : Nat) (lv : List (Nat × Value)) (st : List Value) (h : List va_E) : Prop :=
  ∀ (p : Program) (e : Env) (s : State) (m : MethodId) (args : Array Value) (below : List Frame) (meth : Method) (c : Code) (H : Heap) (locs : List Loc) (ls : Array Slot),
    xC G y cc nL ret E p s m args meth c → xH G h H → va_S (xA G) s.heap H locs → lv_has ls nL lv → W p l e R s m args below meth c H locs k n (QF below args s) (F0 m pc ls st)
/-- a class's rows -/
def xCl (ci : Nat) (C : String) (T : u_T) (N : Nat) (ty : Nat → FieldType) : Prop := vwCl[ci]? = some (C, T, N) ∧ (∀ w ∈ u_ws C T N, w ∈ xT) ∧ (∀ k, k < N → parseFieldDescriptor (T k).2.2.1 = some (ty k)) ∧ (∀ a, a < N → ∀ b, b < N → a ≠ b → (T a).2.1 ≠ (T b).2.1)
def xFl (own : String) (idx ci k : Nat) (C : String) (T : u_T) (N : Nat) (ty : Nat → FieldType) : Prop := xCl ci C T N ty ∧ k < N ∧ Cond.fieldLink own idx (T k).1 (T k).2.1 (T k).2.2.1 ∈ xT
def xNw (own : String) (idx ci : Nat) (C : String) (T : u_T) (N : Nat) (ty : Nat → FieldType) : Prop := xCl ci C T N ty ∧ Cond.classLink own idx C ∈ xT ∧ Cond.instantiable C N ∈ xT ∧ Cond.initialized C ∈ xT

section AX
variable {l : Launch} {G : xG} {y : MethodName} {cc : ByteArray} {nL : Nat} {ret : Option FieldType} {R : Room} {E : Array Value → State → Prop} {QF : List Frame → Array Value → State → State → Prop} {k n pc : Nat} {lv : List (Nat × Value)} {st : List Value} {h : List va_E}
theorem aw_iconst {z : Int} (v : Int32) (hd : decode cc pc = .ok (.iconst z, 1)) (hv : Int32.ofInt z = v) (kk : AW l G y cc nL ret R E QF k n (pc + 1) lv (.int v :: st) h) : AW l G y cc nL ret R E QF k n pc lv st h := by
  intro p ev s m args below meth c H locs ls Cx hH hS hl
  obtain ⟨hx, hb, hml, hr, hlk, hnm, hown, hK, hE, hB⟩ := id Cx
  exact lv_iconst hx hb hd hv (kk p ev s m args below meth c H locs ls Cx hH hS hl)
theorem aw_bipush {z : Int} (v : Int32) (hd : decode cc pc = .ok (.bipush z, 2)) (hv : (Int8.ofInt z).toInt32 = v) (kk : AW l G y cc nL ret R E QF k n (pc + 2) lv (.int v :: st) h) : AW l G y cc nL ret R E QF k n pc lv st h := by
  intro p ev s m args below meth c H locs ls Cx hH hS hl
  obtain ⟨hx, hb, hml, hr, hlk, hnm, hown, hK, hE, hB⟩ := id Cx
  exact lv_bipush hx hb hd hv (kk p ev s m args below meth c H locs ls Cx hH hS hl)
theorem aw_sipush {z : Int} (v : Int32) (hd : decode cc pc = .ok (.sipush z, 3)) (hv : (Int16.ofInt z).toInt32 = v) (kk : AW l G y cc nL ret R E QF k n (pc + 3) lv (.int v :: st) h) : AW l G y cc nL ret R E QF k n pc lv st h := by
  intro p ev s m args below meth c H locs ls Cx hH hS hl
  obtain ⟨hx, hb, hml, hr, hlk, hnm, hown, hK, hE, hB⟩ := id Cx
  exact lv_sipush hx hb hd hv (kk p ev s m args below meth c H locs ls Cx hH hS hl)
theorem aw_lconst {z : Fin 2} (v : Int64) (hd : decode cc pc = .ok (.lconst z, 1)) (hv : Int64.ofNat (z : Nat) = v) (kk : AW l G y cc nL ret R E QF k n (pc + 1) lv (.long v :: st) h) : AW l G y cc nL ret R E QF k n pc lv st h := by
  intro p ev s m args below meth c H locs ls Cx hH hS hl
  obtain ⟨hx, hb, hml, hr, hlk, hnm, hown, hK, hE, hB⟩ := id Cx
  exact lv_lconst hx hb hd hv (kk p ev s m args below meth c H locs ls Cx hH hS hl)
theorem aw_ldc {idx : Nat} (v : Int32) (hw : Cond.constant y.cls idx v ∈ xT) (hd : decode cc pc = .ok (.ldc idx, 2)) (kk : AW l G y cc nL ret R E QF k n (pc + 2) lv (.int v :: st) h) : AW l G y cc nL ret R E QF k n pc lv st h := by
  intro p ev s m args below meth c H locs ls Cx hH hS hl
  obtain ⟨hx, hb, hml, hr, hlk, hnm, hown, hK, hE, hB⟩ := id Cx
  have hts : ∀ w ∈ xT, w.before args s = true := fun w hw => hK.1 w hw args
  exact lv_ldc hx hb hown (hts _ hw) hd (kk p ev s m args below meth c H locs ls Cx hH hS hl)
theorem aw_ldcw {idx : Nat} (v : Int32) (hw : Cond.constant y.cls idx v ∈ xT) (hd : decode cc pc = .ok (.ldc_w idx, 3)) (kk : AW l G y cc nL ret R E QF k n (pc + 3) lv (.int v :: st) h) : AW l G y cc nL ret R E QF k n pc lv st h := by
  intro p ev s m args below meth c H locs ls Cx hH hS hl
  obtain ⟨hx, hb, hml, hr, hlk, hnm, hown, hK, hE, hB⟩ := id Cx
  have hts : ∀ w ∈ xT, w.before args s = true := fun w hw => hK.1 w hw args
  exact lv_ldcw hx hb hown (hts _ hw) hd (kk p ev s m args below meth c H locs ls Cx hH hS hl)
theorem aw_null (hd : decode cc pc = .ok (.aconst_null, 1)) (kk : AW l G y cc nL ret R E QF k n (pc + 1) lv (.null :: st) h) : AW l G y cc nL ret R E QF k n pc lv st h := by
  intro p ev s m args below meth c H locs ls Cx hH hS hl
  obtain ⟨hx, hb, hml, hr, hlk, hnm, hown, hK, hE, hB⟩ := id Cx
  exact lv_null hx hb hd (kk p ev s m args below meth c H locs ls Cx hH hS hl)
theorem aw_iload_n {z : Fin 4} {i : Nat} {x : Int32} (j : Nat) (hd : decode cc pc = .ok (.iload_n z, 1)) (hz : (z : Nat) = i) (hj : lv[j]? = some (i, .int x)) (kk : AW l G y cc nL ret R E QF k n (pc + 1) lv (.int x :: st) h) : AW l G y cc nL ret R E QF k n pc lv st h := by
  intro p ev s m args below meth c H locs ls Cx hH hS hl
  obtain ⟨hx, hb, hml, hr, hlk, hnm, hown, hK, hE, hB⟩ := id Cx
  exact lv_iload_n hx hb hd hz (lv_at hl j hj) (kk p ev s m args below meth c H locs ls Cx hH hS hl)
theorem aw_iload {i : Nat} {x : Int32} (j : Nat) (hd : decode cc pc = .ok (.iload i, 2)) (hj : lv[j]? = some (i, .int x)) (kk : AW l G y cc nL ret R E QF k n (pc + 2) lv (.int x :: st) h) : AW l G y cc nL ret R E QF k n pc lv st h := by
  intro p ev s m args below meth c H locs ls Cx hH hS hl
  obtain ⟨hx, hb, hml, hr, hlk, hnm, hown, hK, hE, hB⟩ := id Cx
  exact lv_iload hx hb hd (lv_at hl j hj) (kk p ev s m args below meth c H locs ls Cx hH hS hl)
theorem aw_aload_n {z : Fin 4} {i : Nat} {x : Nat} (j : Nat) (hd : decode cc pc = .ok (.aload_n z, 1)) (hz : (z : Nat) = i) (hj : lv[j]? = some (i, .ref x)) (kk : AW l G y cc nL ret R E QF k n (pc + 1) lv (.ref x :: st) h) : AW l G y cc nL ret R E QF k n pc lv st h := by
  intro p ev s m args below meth c H locs ls Cx hH hS hl
  obtain ⟨hx, hb, hml, hr, hlk, hnm, hown, hK, hE, hB⟩ := id Cx
  exact lv_aload_n hx hb hd hz (lv_at hl j hj) (kk p ev s m args below meth c H locs ls Cx hH hS hl)
theorem aw_aload {i : Nat} {x : Nat} (j : Nat) (hd : decode cc pc = .ok (.aload i, 2)) (hj : lv[j]? = some (i, .ref x)) (kk : AW l G y cc nL ret R E QF k n (pc + 2) lv (.ref x :: st) h) : AW l G y cc nL ret R E QF k n pc lv st h := by
  intro p ev s m args below meth c H locs ls Cx hH hS hl
  obtain ⟨hx, hb, hml, hr, hlk, hnm, hown, hK, hE, hB⟩ := id Cx
  exact lv_aload hx hb hd (lv_at hl j hj) (kk p ev s m args below meth c H locs ls Cx hH hS hl)
theorem aw_istore_n {z : Fin 4} {i : Nat} {x : Int32} (lv1 : List (Nat × Value)) (hd : decode cc pc = .ok (.istore_n z, 1)) (hz : (z : Nat) = i) (hn : i < nL) (he : (i, Value.int x) :: lv.filter (fun q => !(q.1 == i) && !(q.1 + 1 == i && q.2.category == 2)) = lv1) (kk : AW l G y cc nL ret R E QF k n (pc + 1) lv1 st h) : AW l G y cc nL ret R E QF k n pc lv (Value.int x :: st) h := by
  intro p ev s m args below meth c H locs ls Cx hH hS hl
  obtain ⟨hx, hb, hml, hr, hlk, hnm, hown, hK, hE, hB⟩ := id Cx
  exact lv_istore_n (lv' := lv1) hx hb hd hz hl hn he (fun ls hl => kk p ev s m args below meth c H locs ls Cx hH hS hl)
theorem aw_istore {i : Nat} {x : Int32} (lv1 : List (Nat × Value)) (hd : decode cc pc = .ok (.istore i, 2)) (hn : i < nL) (he : (i, Value.int x) :: lv.filter (fun q => !(q.1 == i) && !(q.1 + 1 == i && q.2.category == 2)) = lv1) (kk : AW l G y cc nL ret R E QF k n (pc + 2) lv1 st h) : AW l G y cc nL ret R E QF k n pc lv (Value.int x :: st) h := by
  intro p ev s m args below meth c H locs ls Cx hH hS hl
  obtain ⟨hx, hb, hml, hr, hlk, hnm, hown, hK, hE, hB⟩ := id Cx
  exact lv_istore (lv' := lv1) hx hb hd hl hn he (fun ls hl => kk p ev s m args below meth c H locs ls Cx hH hS hl)
theorem aw_astore_n {z : Fin 4} {i : Nat} {x : Nat} (lv1 : List (Nat × Value)) (hd : decode cc pc = .ok (.astore_n z, 1)) (hz : (z : Nat) = i) (hn : i < nL) (he : (i, Value.ref x) :: lv.filter (fun q => !(q.1 == i) && !(q.1 + 1 == i && q.2.category == 2)) = lv1) (kk : AW l G y cc nL ret R E QF k n (pc + 1) lv1 st h) : AW l G y cc nL ret R E QF k n pc lv (Value.ref x :: st) h := by
  intro p ev s m args below meth c H locs ls Cx hH hS hl
  obtain ⟨hx, hb, hml, hr, hlk, hnm, hown, hK, hE, hB⟩ := id Cx
  exact lv_astore_n (lv' := lv1) hx hb hd hz hl hn he (fun ls hl => kk p ev s m args below meth c H locs ls Cx hH hS hl)
theorem aw_astore {i : Nat} {x : Nat} (lv1 : List (Nat × Value)) (hd : decode cc pc = .ok (.astore i, 2)) (hn : i < nL) (he : (i, Value.ref x) :: lv.filter (fun q => !(q.1 == i) && !(q.1 + 1 == i && q.2.category == 2)) = lv1) (kk : AW l G y cc nL ret R E QF k n (pc + 2) lv1 st h) : AW l G y cc nL ret R E QF k n pc lv (Value.ref x :: st) h := by
  intro p ev s m args below meth c H locs ls Cx hH hS hl
  obtain ⟨hx, hb, hml, hr, hlk, hnm, hown, hK, hE, hB⟩ := id Cx
  exact lv_astore (lv' := lv1) hx hb hd hl hn he (fun ls hl => kk p ev s m args below meth c H locs ls Cx hH hS hl)
theorem aw_iinc {i j : Nat} {z : Int} {x : Int32} (v : Int32) (lv1 : List (Nat × Value)) (hd : decode cc pc = .ok (.iinc i z, 3)) (hj : lv[j]? = some (i, .int x)) (hv : x + Int32.ofInt z = v) (hn : i < nL) (he : (i, Value.int v) :: lv.filter (fun q => !(q.1 == i) && !(q.1 + 1 == i && q.2.category == 2)) = lv1) (kk : AW l G y cc nL ret R E QF k n (pc + 3) lv1 st h) : AW l G y cc nL ret R E QF k n pc lv st h := by
  intro p ev s m args below meth c H locs ls Cx hH hS hl
  obtain ⟨hx, hb, hml, hr, hlk, hnm, hown, hK, hE, hB⟩ := id Cx
  exact lv_iinc (v := v) (lv' := lv1) hx hb hd hl hj hv hn he (fun ls hl => kk p ev s m args below meth c H locs ls Cx hH hS hl)
theorem aw_iadd {x z : Int32} (hd : decode cc pc = .ok (.iadd, 1)) (kk : AW l G y cc nL ret R E QF k n (pc + 1) lv (.int (x + z) :: st) h) : AW l G y cc nL ret R E QF k n pc lv (.int z :: .int x :: st) h := by
  intro p ev s m args below meth c H locs ls Cx hH hS hl
  obtain ⟨hx, hb, hml, hr, hlk, hnm, hown, hK, hE, hB⟩ := id Cx
  exact lv_iadd hx hb hd (kk p ev s m args below meth c H locs ls Cx hH hS hl)
theorem aw_isub {x z : Int32} (hd : decode cc pc = .ok (.isub, 1)) (kk : AW l G y cc nL ret R E QF k n (pc + 1) lv (.int (x - z) :: st) h) : AW l G y cc nL ret R E QF k n pc lv (.int z :: .int x :: st) h := by
  intro p ev s m args below meth c H locs ls Cx hH hS hl
  obtain ⟨hx, hb, hml, hr, hlk, hnm, hown, hK, hE, hB⟩ := id Cx
  exact lv_isub hx hb hd (kk p ev s m args below meth c H locs ls Cx hH hS hl)
theorem aw_imul {x z : Int32} (hd : decode cc pc = .ok (.imul, 1)) (kk : AW l G y cc nL ret R E QF k n (pc + 1) lv (.int (x * z) :: st) h) : AW l G y cc nL ret R E QF k n pc lv (.int z :: .int x :: st) h := by
  intro p ev s m args below meth c H locs ls Cx hH hS hl
  obtain ⟨hx, hb, hml, hr, hlk, hnm, hown, hK, hE, hB⟩ := id Cx
  exact lv_imul hx hb hd (kk p ev s m args below meth c H locs ls Cx hH hS hl)
theorem aw_iand {x z : Int32} (hd : decode cc pc = .ok (.iand, 1)) (kk : AW l G y cc nL ret R E QF k n (pc + 1) lv (.int (x &&& z) :: st) h) : AW l G y cc nL ret R E QF k n pc lv (.int z :: .int x :: st) h := by
  intro p ev s m args below meth c H locs ls Cx hH hS hl
  obtain ⟨hx, hb, hml, hr, hlk, hnm, hown, hK, hE, hB⟩ := id Cx
  exact lv_iand hx hb hd (kk p ev s m args below meth c H locs ls Cx hH hS hl)
theorem aw_ior {x z : Int32} (hd : decode cc pc = .ok (.ior, 1)) (kk : AW l G y cc nL ret R E QF k n (pc + 1) lv (.int (x ||| z) :: st) h) : AW l G y cc nL ret R E QF k n pc lv (.int z :: .int x :: st) h := by
  intro p ev s m args below meth c H locs ls Cx hH hS hl
  obtain ⟨hx, hb, hml, hr, hlk, hnm, hown, hK, hE, hB⟩ := id Cx
  exact lv_ior hx hb hd (kk p ev s m args below meth c H locs ls Cx hH hS hl)
theorem aw_ixor {x z : Int32} (hd : decode cc pc = .ok (.ixor, 1)) (kk : AW l G y cc nL ret R E QF k n (pc + 1) lv (.int (x ^^^ z) :: st) h) : AW l G y cc nL ret R E QF k n pc lv (.int z :: .int x :: st) h := by
  intro p ev s m args below meth c H locs ls Cx hH hS hl
  obtain ⟨hx, hb, hml, hr, hlk, hnm, hown, hK, hE, hB⟩ := id Cx
  exact lv_ixor hx hb hd (kk p ev s m args below meth c H locs ls Cx hH hS hl)
theorem aw_ishl {x z : Int32} (hd : decode cc pc = .ok (.ishl, 1)) (kk : AW l G y cc nL ret R E QF k n (pc + 1) lv (.int (x <<< (z &&& 31)) :: st) h) : AW l G y cc nL ret R E QF k n pc lv (.int z :: .int x :: st) h := by
  intro p ev s m args below meth c H locs ls Cx hH hS hl
  obtain ⟨hx, hb, hml, hr, hlk, hnm, hown, hK, hE, hB⟩ := id Cx
  exact lv_ishl hx hb hd (kk p ev s m args below meth c H locs ls Cx hH hS hl)
theorem aw_ishr {x z : Int32} (hd : decode cc pc = .ok (.ishr, 1)) (kk : AW l G y cc nL ret R E QF k n (pc + 1) lv (.int (x >>> (z &&& 31)) :: st) h) : AW l G y cc nL ret R E QF k n pc lv (.int z :: .int x :: st) h := by
  intro p ev s m args below meth c H locs ls Cx hH hS hl
  obtain ⟨hx, hb, hml, hr, hlk, hnm, hown, hK, hE, hB⟩ := id Cx
  exact lv_ishr hx hb hd (kk p ev s m args below meth c H locs ls Cx hH hS hl)
theorem aw_iushr {x z : Int32} (v : Int32) (hd : decode cc pc = .ok (.iushr, 1)) (hv : (x.toUInt32 >>> (z.toUInt32 &&& Int32.toUInt32 31)).toInt32 = v) (kk : AW l G y cc nL ret R E QF k n (pc + 1) lv (.int v :: st) h) : AW l G y cc nL ret R E QF k n pc lv (.int z :: .int x :: st) h := by
  intro p ev s m args below meth c H locs ls Cx hH hS hl
  obtain ⟨hx, hb, hml, hr, hlk, hnm, hown, hK, hE, hB⟩ := id Cx
  exact lv_iushr hx hb hd hv (kk p ev s m args below meth c H locs ls Cx hH hS hl)
theorem aw_idiv {x z : Int32} (hd : decode cc pc = .ok (.idiv, 1)) (hne : ¬ z = 0) (kk : AW l G y cc nL ret R E QF k n (pc + 1) lv (.int (x / z) :: st) h) : AW l G y cc nL ret R E QF k n pc lv (.int z :: .int x :: st) h := by
  intro p ev s m args below meth c H locs ls Cx hH hS hl
  obtain ⟨hx, hb, hml, hr, hlk, hnm, hown, hK, hE, hB⟩ := id Cx
  exact lv_idiv hx hb hd hne (kk p ev s m args below meth c H locs ls Cx hH hS hl)
theorem aw_irem {x z : Int32} (hd : decode cc pc = .ok (.irem, 1)) (hne : ¬ z = 0) (kk : AW l G y cc nL ret R E QF k n (pc + 1) lv (.int (x - x / z * z) :: st) h) : AW l G y cc nL ret R E QF k n pc lv (.int z :: .int x :: st) h := by
  intro p ev s m args below meth c H locs ls Cx hH hS hl
  obtain ⟨hx, hb, hml, hr, hlk, hnm, hown, hK, hE, hB⟩ := id Cx
  exact lv_irem hx hb hd hne (kk p ev s m args below meth c H locs ls Cx hH hS hl)
theorem aw_ineg {x : Int32} (hd : decode cc pc = .ok (.ineg, 1)) (kk : AW l G y cc nL ret R E QF k n (pc + 1) lv (.int (-x) :: st) h) : AW l G y cc nL ret R E QF k n pc lv (.int x :: st) h := by
  intro p ev s m args below meth c H locs ls Cx hH hS hl
  obtain ⟨hx, hb, hml, hr, hlk, hnm, hown, hK, hE, hB⟩ := id Cx
  exact lv_ineg hx hb hd (kk p ev s m args below meth c H locs ls Cx hH hS hl)
theorem aw_land {x z : Int64} (hd : decode cc pc = .ok (.land, 1)) (kk : AW l G y cc nL ret R E QF k n (pc + 1) lv (.long (x &&& z) :: st) h) : AW l G y cc nL ret R E QF k n pc lv (.long z :: .long x :: st) h := by
  intro p ev s m args below meth c H locs ls Cx hH hS hl
  obtain ⟨hx, hb, hml, hr, hlk, hnm, hown, hK, hE, hB⟩ := id Cx
  exact lv_land hx hb hd (kk p ev s m args below meth c H locs ls Cx hH hS hl)
theorem aw_lor {x z : Int64} (hd : decode cc pc = .ok (.lor, 1)) (kk : AW l G y cc nL ret R E QF k n (pc + 1) lv (.long (x ||| z) :: st) h) : AW l G y cc nL ret R E QF k n pc lv (.long z :: .long x :: st) h := by
  intro p ev s m args below meth c H locs ls Cx hH hS hl
  obtain ⟨hx, hb, hml, hr, hlk, hnm, hown, hK, hE, hB⟩ := id Cx
  exact lv_lor hx hb hd (kk p ev s m args below meth c H locs ls Cx hH hS hl)
theorem aw_lshl {x : Int64} {z : Int32} (v : Int64) (hd : decode cc pc = .ok (.lshl, 1)) (hv : x <<< (z.toInt64 &&& 63) = v) (kk : AW l G y cc nL ret R E QF k n (pc + 1) lv (.long v :: st) h) : AW l G y cc nL ret R E QF k n pc lv (.int z :: .long x :: st) h := by
  intro p ev s m args below meth c H locs ls Cx hH hS hl
  obtain ⟨hx, hb, hml, hr, hlk, hnm, hown, hK, hE, hB⟩ := id Cx
  exact lv_lshl hx hb hd hv (kk p ev s m args below meth c H locs ls Cx hH hS hl)
theorem aw_lshr {x : Int64} {z : Int32} (v : Int64) (hd : decode cc pc = .ok (.lshr, 1)) (hv : x >>> (z.toInt64 &&& 63) = v) (kk : AW l G y cc nL ret R E QF k n (pc + 1) lv (.long v :: st) h) : AW l G y cc nL ret R E QF k n pc lv (.int z :: .long x :: st) h := by
  intro p ev s m args below meth c H locs ls Cx hH hS hl
  obtain ⟨hx, hb, hml, hr, hlk, hnm, hown, hK, hE, hB⟩ := id Cx
  exact lv_lshr hx hb hd hv (kk p ev s m args below meth c H locs ls Cx hH hS hl)
theorem aw_lcmp {x z : Int64} (hd : decode cc pc = .ok (.lcmp, 1)) (kk : AW l G y cc nL ret R E QF k n (pc + 1) lv (.int (lg_cmp x z) :: st) h) : AW l G y cc nL ret R E QF k n pc lv (.long z :: .long x :: st) h := by
  intro p ev s m args below meth c H locs ls Cx hH hS hl
  obtain ⟨hx, hb, hml, hr, hlk, hnm, hown, hK, hE, hB⟩ := id Cx
  exact W.lcmp hx hb hd (kk p ev s m args below meth c H locs ls Cx hH hS hl)
theorem aw_dup {v : Value} (hd : decode cc pc = .ok (.dup, 1)) (hc : v.category = 1) (kk : AW l G y cc nL ret R E QF k n (pc + 1) lv (v :: v :: st) h) : AW l G y cc nL ret R E QF k n pc lv (v :: st) h := by
  intro p ev s m args below meth c H locs ls Cx hH hS hl
  obtain ⟨hx, hb, hml, hr, hlk, hnm, hown, hK, hE, hB⟩ := id Cx
  exact lv_dup hx hb hd hc (kk p ev s m args below meth c H locs ls Cx hH hS hl)
theorem aw_dup2 {v w : Value} (hd : decode cc pc = .ok (.dup2, 1)) (hc : v.category = 1) (hc2 : w.category = 1) (kk : AW l G y cc nL ret R E QF k n (pc + 1) lv (v :: w :: v :: w :: st) h) : AW l G y cc nL ret R E QF k n pc lv (v :: w :: st) h := by
  intro p ev s m args below meth c H locs ls Cx hH hS hl
  obtain ⟨hx, hb, hml, hr, hlk, hnm, hown, hK, hE, hB⟩ := id Cx
  exact lv_dup2_11 hx hb hd hc hc2 (kk p ev s m args below meth c H locs ls Cx hH hS hl)
theorem aw_pop {v : Value} (hd : decode cc pc = .ok (.pop, 1)) (hc : v.category = 1) (kk : AW l G y cc nL ret R E QF k n (pc + 1) lv st h) : AW l G y cc nL ret R E QF k n pc lv (v :: st) h := by
  intro p ev s m args below meth c H locs ls Cx hH hS hl
  obtain ⟨hx, hb, hml, hr, hlk, hnm, hown, hK, hE, hB⟩ := id Cx
  exact lv_pop hx hb hd hc (kk p ev s m args below meth c H locs ls Cx hH hS hl)
theorem aw_if_eq {x : Int32} {off : Int} (tgt : Nat) (hd : decode cc pc = .ok (.ifCond .eq off, 3)) (ht : (pc : Int) + off = (tgt : Int)) (k1 : x = 0 → AW l G y cc nL ret R E QF k n tgt lv st h) (k2 : ¬ x = 0 → AW l G y cc nL ret R E QF k n (pc + 3) lv st h) : AW l G y cc nL ret R E QF k n pc lv (.int x :: st) h := by
  intro p ev s m args below meth c H locs ls Cx hH hS hl
  obtain ⟨hx, hb, hml, hr, hlk, hnm, hown, hK, hE, hB⟩ := id Cx
  exact lv_if_eq (tgt := tgt) hx hb hd ht (fun hc => k1 hc p ev s m args below meth c H locs ls Cx hH hS hl) (fun hc => k2 hc p ev s m args below meth c H locs ls Cx hH hS hl)
theorem aw_icmp_eq {x z : Int32} {off : Int} (tgt : Nat) (hd : decode cc pc = .ok (.if_icmp .eq off, 3)) (ht : (pc : Int) + off = (tgt : Int)) (k1 : x = z → AW l G y cc nL ret R E QF k n tgt lv st h) (k2 : ¬ x = z → AW l G y cc nL ret R E QF k n (pc + 3) lv st h) : AW l G y cc nL ret R E QF k n pc lv (.int z :: .int x :: st) h := by
  intro p ev s m args below meth c H locs ls Cx hH hS hl
  obtain ⟨hx, hb, hml, hr, hlk, hnm, hown, hK, hE, hB⟩ := id Cx
  exact lv_icmp_eq (tgt := tgt) hx hb hd ht (fun hc => k1 hc p ev s m args below meth c H locs ls Cx hH hS hl) (fun hc => k2 hc p ev s m args below meth c H locs ls Cx hH hS hl)
theorem aw_if_ne {x : Int32} {off : Int} (tgt : Nat) (hd : decode cc pc = .ok (.ifCond .ne off, 3)) (ht : (pc : Int) + off = (tgt : Int)) (k1 : ¬ x = 0 → AW l G y cc nL ret R E QF k n tgt lv st h) (k2 : x = 0 → AW l G y cc nL ret R E QF k n (pc + 3) lv st h) : AW l G y cc nL ret R E QF k n pc lv (.int x :: st) h := by
  intro p ev s m args below meth c H locs ls Cx hH hS hl
  obtain ⟨hx, hb, hml, hr, hlk, hnm, hown, hK, hE, hB⟩ := id Cx
  exact lv_if_ne (tgt := tgt) hx hb hd ht (fun hc => k1 hc p ev s m args below meth c H locs ls Cx hH hS hl) (fun hc => k2 hc p ev s m args below meth c H locs ls Cx hH hS hl)
theorem aw_icmp_ne {x z : Int32} {off : Int} (tgt : Nat) (hd : decode cc pc = .ok (.if_icmp .ne off, 3)) (ht : (pc : Int) + off = (tgt : Int)) (k1 : ¬ x = z → AW l G y cc nL ret R E QF k n tgt lv st h) (k2 : x = z → AW l G y cc nL ret R E QF k n (pc + 3) lv st h) : AW l G y cc nL ret R E QF k n pc lv (.int z :: .int x :: st) h := by
  intro p ev s m args below meth c H locs ls Cx hH hS hl
  obtain ⟨hx, hb, hml, hr, hlk, hnm, hown, hK, hE, hB⟩ := id Cx
  exact lv_icmp_ne (tgt := tgt) hx hb hd ht (fun hc => k1 hc p ev s m args below meth c H locs ls Cx hH hS hl) (fun hc => k2 hc p ev s m args below meth c H locs ls Cx hH hS hl)
theorem aw_if_lt {x : Int32} {off : Int} (tgt : Nat) (hd : decode cc pc = .ok (.ifCond .lt off, 3)) (ht : (pc : Int) + off = (tgt : Int)) (k1 : x < 0 → AW l G y cc nL ret R E QF k n tgt lv st h) (k2 : ¬ x < 0 → AW l G y cc nL ret R E QF k n (pc + 3) lv st h) : AW l G y cc nL ret R E QF k n pc lv (.int x :: st) h := by
  intro p ev s m args below meth c H locs ls Cx hH hS hl
  obtain ⟨hx, hb, hml, hr, hlk, hnm, hown, hK, hE, hB⟩ := id Cx
  exact lv_if_lt (tgt := tgt) hx hb hd ht (fun hc => k1 hc p ev s m args below meth c H locs ls Cx hH hS hl) (fun hc => k2 hc p ev s m args below meth c H locs ls Cx hH hS hl)
theorem aw_icmp_lt {x z : Int32} {off : Int} (tgt : Nat) (hd : decode cc pc = .ok (.if_icmp .lt off, 3)) (ht : (pc : Int) + off = (tgt : Int)) (k1 : x < z → AW l G y cc nL ret R E QF k n tgt lv st h) (k2 : ¬ x < z → AW l G y cc nL ret R E QF k n (pc + 3) lv st h) : AW l G y cc nL ret R E QF k n pc lv (.int z :: .int x :: st) h := by
  intro p ev s m args below meth c H locs ls Cx hH hS hl
  obtain ⟨hx, hb, hml, hr, hlk, hnm, hown, hK, hE, hB⟩ := id Cx
  exact lv_icmp_lt (tgt := tgt) hx hb hd ht (fun hc => k1 hc p ev s m args below meth c H locs ls Cx hH hS hl) (fun hc => k2 hc p ev s m args below meth c H locs ls Cx hH hS hl)
theorem aw_if_ge {x : Int32} {off : Int} (tgt : Nat) (hd : decode cc pc = .ok (.ifCond .ge off, 3)) (ht : (pc : Int) + off = (tgt : Int)) (k1 : 0 ≤ x → AW l G y cc nL ret R E QF k n tgt lv st h) (k2 : ¬ 0 ≤ x → AW l G y cc nL ret R E QF k n (pc + 3) lv st h) : AW l G y cc nL ret R E QF k n pc lv (.int x :: st) h := by
  intro p ev s m args below meth c H locs ls Cx hH hS hl
  obtain ⟨hx, hb, hml, hr, hlk, hnm, hown, hK, hE, hB⟩ := id Cx
  exact lv_if_ge (tgt := tgt) hx hb hd ht (fun hc => k1 hc p ev s m args below meth c H locs ls Cx hH hS hl) (fun hc => k2 hc p ev s m args below meth c H locs ls Cx hH hS hl)
theorem aw_icmp_ge {x z : Int32} {off : Int} (tgt : Nat) (hd : decode cc pc = .ok (.if_icmp .ge off, 3)) (ht : (pc : Int) + off = (tgt : Int)) (k1 : z ≤ x → AW l G y cc nL ret R E QF k n tgt lv st h) (k2 : ¬ z ≤ x → AW l G y cc nL ret R E QF k n (pc + 3) lv st h) : AW l G y cc nL ret R E QF k n pc lv (.int z :: .int x :: st) h := by
  intro p ev s m args below meth c H locs ls Cx hH hS hl
  obtain ⟨hx, hb, hml, hr, hlk, hnm, hown, hK, hE, hB⟩ := id Cx
  exact lv_icmp_ge (tgt := tgt) hx hb hd ht (fun hc => k1 hc p ev s m args below meth c H locs ls Cx hH hS hl) (fun hc => k2 hc p ev s m args below meth c H locs ls Cx hH hS hl)
theorem aw_if_gt {x : Int32} {off : Int} (tgt : Nat) (hd : decode cc pc = .ok (.ifCond .gt off, 3)) (ht : (pc : Int) + off = (tgt : Int)) (k1 : 0 < x → AW l G y cc nL ret R E QF k n tgt lv st h) (k2 : ¬ 0 < x → AW l G y cc nL ret R E QF k n (pc + 3) lv st h) : AW l G y cc nL ret R E QF k n pc lv (.int x :: st) h := by
  intro p ev s m args below meth c H locs ls Cx hH hS hl
  obtain ⟨hx, hb, hml, hr, hlk, hnm, hown, hK, hE, hB⟩ := id Cx
  exact lv_if_gt (tgt := tgt) hx hb hd ht (fun hc => k1 hc p ev s m args below meth c H locs ls Cx hH hS hl) (fun hc => k2 hc p ev s m args below meth c H locs ls Cx hH hS hl)
theorem aw_icmp_gt {x z : Int32} {off : Int} (tgt : Nat) (hd : decode cc pc = .ok (.if_icmp .gt off, 3)) (ht : (pc : Int) + off = (tgt : Int)) (k1 : z < x → AW l G y cc nL ret R E QF k n tgt lv st h) (k2 : ¬ z < x → AW l G y cc nL ret R E QF k n (pc + 3) lv st h) : AW l G y cc nL ret R E QF k n pc lv (.int z :: .int x :: st) h := by
  intro p ev s m args below meth c H locs ls Cx hH hS hl
  obtain ⟨hx, hb, hml, hr, hlk, hnm, hown, hK, hE, hB⟩ := id Cx
  exact lv_icmp_gt (tgt := tgt) hx hb hd ht (fun hc => k1 hc p ev s m args below meth c H locs ls Cx hH hS hl) (fun hc => k2 hc p ev s m args below meth c H locs ls Cx hH hS hl)
theorem aw_if_le {x : Int32} {off : Int} (tgt : Nat) (hd : decode cc pc = .ok (.ifCond .le off, 3)) (ht : (pc : Int) + off = (tgt : Int)) (k1 : x ≤ 0 → AW l G y cc nL ret R E QF k n tgt lv st h) (k2 : ¬ x ≤ 0 → AW l G y cc nL ret R E QF k n (pc + 3) lv st h) : AW l G y cc nL ret R E QF k n pc lv (.int x :: st) h := by
  intro p ev s m args below meth c H locs ls Cx hH hS hl
  obtain ⟨hx, hb, hml, hr, hlk, hnm, hown, hK, hE, hB⟩ := id Cx
  exact lv_if_le (tgt := tgt) hx hb hd ht (fun hc => k1 hc p ev s m args below meth c H locs ls Cx hH hS hl) (fun hc => k2 hc p ev s m args below meth c H locs ls Cx hH hS hl)
theorem aw_icmp_le {x z : Int32} {off : Int} (tgt : Nat) (hd : decode cc pc = .ok (.if_icmp .le off, 3)) (ht : (pc : Int) + off = (tgt : Int)) (k1 : x ≤ z → AW l G y cc nL ret R E QF k n tgt lv st h) (k2 : ¬ x ≤ z → AW l G y cc nL ret R E QF k n (pc + 3) lv st h) : AW l G y cc nL ret R E QF k n pc lv (.int z :: .int x :: st) h := by
  intro p ev s m args below meth c H locs ls Cx hH hS hl
  obtain ⟨hx, hb, hml, hr, hlk, hnm, hown, hK, hE, hB⟩ := id Cx
  exact lv_icmp_le (tgt := tgt) hx hb hd ht (fun hc => k1 hc p ev s m args below meth c H locs ls Cx hH hS hl) (fun hc => k2 hc p ev s m args below meth c H locs ls Cx hH hS hl)
theorem aw_goto {off : Int} (tgt : Nat) (hd : decode cc pc = .ok (.goto off, 3)) (ht : (pc : Int) + off = (tgt : Int)) (kk : AW l G y cc nL ret R E QF k n tgt lv st h) : AW l G y cc nL ret R E QF k n pc lv st h := by
  intro p ev s m args below meth c H locs ls Cx hH hS hl
  obtain ⟨hx, hb, hml, hr, hlk, hnm, hown, hK, hE, hB⟩ := id Cx
  exact lv_goto (tgt := tgt) hx hb hd ht (kk p ev s m args below meth c H locs ls Cx hH hS hl)
theorem aw_nonnull {x : Nat} {off : Int} (tgt : Nat) (hd : decode cc pc = .ok (.ifnonnull off, 3)) (ht : (pc : Int) + off = (tgt : Int)) (kk : AW l G y cc nL ret R E QF k n tgt lv st h) : AW l G y cc nL ret R E QF k n pc lv (.ref x :: st) h := by
  intro p ev s m args below meth c H locs ls Cx hH hS hl
  obtain ⟨hx, hb, hml, hr, hlk, hnm, hown, hK, hE, hB⟩ := id Cx
  exact lv_ifnonnull (tgt := tgt) hx hb hd ht (kk p ev s m args below meth c H locs ls Cx hH hS hl)
theorem aw_nonnullN {off : Int} (hd : decode cc pc = .ok (.ifnonnull off, 3)) (kk : AW l G y cc nL ret R E QF k n (pc + 3) lv st h) : AW l G y cc nL ret R E QF k n pc lv (.null :: st) h := by
  intro p ev s m args below meth c H locs ls Cx hH hS hl
  obtain ⟨hx, hb, hml, hr, hlk, hnm, hown, hK, hE, hB⟩ := id Cx
  exact lv_ifnonnullN hx hb hd (kk p ev s m args below meth c H locs ls Cx hH hS hl)
theorem aw_tableOut {dflt lo hi : Int} {offs : Array Int} {len : Nat} {x : Int32} (tgt : Nat) (hd : decode cc pc = .ok (.tableswitch dflt lo hi offs, len)) (h0 : x.toInt < lo ∨ hi < x.toInt) (ht : (pc : Int) + dflt = (tgt : Int)) (kk : AW l G y cc nL ret R E QF k n tgt lv st h) : AW l G y cc nL ret R E QF k n pc lv (.int x :: st) h := by
  intro p ev s m args below meth c H locs ls Cx hH hS hl
  obtain ⟨hx, hb, hml, hr, hlk, hnm, hown, hK, hE, hB⟩ := id Cx
  exact lv_tableOut (tgt := tgt) hx hb hd h0 ht (kk p ev s m args below meth c H locs ls Cx hH hS hl)
theorem aw_tableIn {dflt lo hi : Int} {offs : Array Int} {len : Nat} {x : Int32} {off : Int} (tgt : Nat) (hd : decode cc pc = .ok (.tableswitch dflt lo hi offs, len)) (h1 : ¬ x.toInt < lo) (h2 : ¬ hi < x.toInt) (ho : offs[(x.toInt - lo).toNat]? = some off) (ht : (pc : Int) + off = (tgt : Int)) (kk : AW l G y cc nL ret R E QF k n tgt lv st h) : AW l G y cc nL ret R E QF k n pc lv (.int x :: st) h := by
  intro p ev s m args below meth c H locs ls Cx hH hS hl
  obtain ⟨hx, hb, hml, hr, hlk, hnm, hown, hK, hE, hB⟩ := id Cx
  exact lv_tableIn (tgt := tgt) hx hb hd h1 h2 ho ht (kk p ev s m args below meth c H locs ls Cx hH hS hl)
theorem aw_get {idx ci f : Nat} {C : String} {T : u_T} {N : Nat} {ty : Nat → FieldType} (F : xFl y.cls idx ci f C T N ty) (hd : decode cc pc = .ok (.getfield idx, 3)) {i : Nat} {fs : List Value} {v : Value} (hc : h[i]? = some (.inr (ci, fs))) (hv : fs[f]? = some v) (kk : AW l G y cc nL ret R E QF k n (pc + 3) lv (v :: st) h) : AW l G y cc nL ret R E QF k n pc lv (.ref (G.1 + i) :: st) h := by
  intro p ev s m args below meth c H locs ls Cx hH hS hl
  obtain ⟨hx, hb, hml, hr, hlk, hnm, hown, hK, hE, hB⟩ := id Cx
  have hts : ∀ w ∈ xT, w.before args s = true := fun w hw => hK.1 w hw args
  exact va_get (D := G.2.1) hx hb hts F.1.2.1 hown hK.2.2.1 hH.1 i (xW_get hc) F.1.1 f F.2.1 (hts _ F.2.2) (fun _ h9 => h9) hv hd (kk p ev s m args below meth c H locs ls Cx hH hS hl)
theorem aw_put {idx ci f : Nat} {C : String} {T : u_T} {N : Nat} {ty : Nat → FieldType} (F : xFl y.cls idx ci f C T N ty) (hd : decode cc pc = .ok (.putfield idx, 3)) {i : Nat} {fs : List Value} {v : Value} (hc : h[i]? = some (.inr (ci, fs))) (hfin : (T f).2.2.2 = false) (hn : narrow (ty f) v = v) (hfit : fits (ty f) v = true) (hlen : f < fs.length) (kk : AW l G y cc nL ret R E QF k n (pc + 3) lv st (h.set i (.inr (ci, fs.set f v)))) : AW l G y cc nL ret R E QF k n pc lv (v :: .ref (G.1 + i) :: st) h := by
  intro p ev s m args below meth c H locs ls Cx hH hS hl
  obtain ⟨hx, hb, hml, hr, hlk, hnm, hown, hK, hE, hB⟩ := id Cx
  have hts : ∀ w ∈ xT, w.before args s = true := fun w hw => hK.1 w hw args
  have hty := F.1.2.2.1 f F.2.1
  have hap := va_apart (own := y.cls) hts F.1.2.1 ty F.1.2.2.1 F.1.2.2.2 hK.2.2.1 F.1.1
  obtain ⟨r, h1, cell, q1, q2, q3, q4⟩ := hH.1 i _ (xW_get hc)
  have hr' : r = (C, T, N) := Option.some.inj (h1.symm.trans F.1.1)
  subst hr'
  obtain ⟨hSl, hfc, kC, hkC, hkind⟩ := hK.2.2.1.1 ci _ F.1.1
  obtain ⟨cf, kf, fi, fd, hi, hsl⟩ := hSl f F.2.1
  have hlay := hts _ (F.1.2.1 _ (u_in_lay F.2.1))
  unfold u_lay at hlay
  have hst := (u_facts hfc hkC (u_lays hts F.1.2.1 F.2.1) hi).1
  rw [if_neg (by rw [hfin]; decide)] at hlay
  have h6 := u_store hfc hkC hkind hlay hi hty hn hfit
  refine W.putK hx hb (f := fd) ⟨hown, hts _ F.2.2, ⟨_, _, _, hi⟩, hst⟩ (by rw [q2]; exact h6) q1 q3 (by rw [hsl]; exact k2_hasslot (q4 f F.2.1)) rfl rfl hd fun H' e1 e2 e3 => ?_
  rw [hsl] at e1 ⊢
  refine kk p ev s m args below meth c H' _ ls Cx (hH.set hc e2 e3 ⟨_, F.1.1, t_OB.to (V := updV (vp_V fs) f v) ⟨_, e1, q2, q3, t_set q4 hap F.2.1 v⟩ (fun j _ => vp_updV_set hlen v j)⟩) (xS_put hS e2 e3 (Nat.le_add_right _ _)) hl
theorem aw_putF {idx ci f : Nat} {C : String} {T : u_T} {N : Nat} {ty : Nat → FieldType} (F : xFl y.cls idx ci f C T N ty) (hd : decode cc pc = .ok (.putfield idx, 3)) {i : Nat} {fs : List Value} {v : Value} (hc : h[i]? = some (.inr (ci, fs))) (hfin : (T f).2.2.2 = true) (hin : y.name = "<init>") (hdecl : (T f).1 = y.cls) (hn : narrow (ty f) v = v) (hfit : fits (ty f) v = true) (hlen : f < fs.length) (kk : AW l G y cc nL ret R E QF k n (pc + 3) lv st (h.set i (.inr (ci, fs.set f v)))) : AW l G y cc nL ret R E QF k n pc lv (v :: .ref (G.1 + i) :: st) h := by
  intro p ev s m args below meth c H locs ls Cx hH hS hl
  obtain ⟨hx, hb, hml, hr, hlk, hnm, hown, hK, hE, hB⟩ := id Cx
  have hts : ∀ w ∈ xT, w.before args s = true := fun w hw => hK.1 w hw args
  have hty := F.1.2.2.1 f F.2.1
  have hap := va_apart (own := y.cls) hts F.1.2.1 ty F.1.2.2.1 F.1.2.2.2 hK.2.2.1 F.1.1
  obtain ⟨r, h1, cell, q1, q2, q3, q4⟩ := hH.1 i _ (xW_get hc)
  have hr' : r = (C, T, N) := Option.some.inj (h1.symm.trans F.1.1)
  subst hr'
  obtain ⟨hSl, hfc, kC, hkC, hkind⟩ := hK.2.2.1.1 ci _ F.1.1
  obtain ⟨cf, kf, fi, fd, hi, hsl⟩ := hSl f F.2.1
  have hlay := hts _ (F.1.2.1 _ (u_in_lay F.2.1))
  unfold u_lay at hlay
  have hst := (u_facts hfc hkC (u_lays hts F.1.2.1 F.2.1) hi).1
  rw [if_pos hfin] at hlay
  have hcf : m.cls = cf := by
    obtain ⟨_, _, c', _, _, _, -, -, hf', -, -, -, hown2, -⟩ := Cond.laysFinal_spec hlay
    have e1 : c' = cf := by have := hi.symm.trans hf'; simp at this; exact this.1.symm
    rw [hdecl] at hown2
    rw [← e1]; exact Option.some.inj (hown.symm.trans hown2)
  have h6 := u_fits hfc hkC hkind (Or.inr hlay) hi hty hn hfit
  refine W.putFinK hx hb hown (hts _ F.2.2) hi hst hcf (hnm.trans hin) (by rw [q2]; exact h6) q1 q3 (by rw [hsl]; exact k2_hasslot (q4 f F.2.1)) rfl rfl hd fun H' e1 e2 e3 => ?_
  rw [hsl] at e1 ⊢
  refine kk p ev s m args below meth c H' _ ls Cx (hH.set hc e2 e3 ⟨_, F.1.1, t_OB.to (V := updV (vp_V fs) f v) ⟨_, e1, q2, q3, t_set q4 hap F.2.1 v⟩ (fun j _ => vp_updV_set hlen v j)⟩) (xS_put hS e2 e3 (Nat.le_add_right _ _)) hl
theorem aw_iald {i : Nat} {N : Nat} {j : Int32} (x : Nat) (hj : j = nI x) (hx0 : x < N) (hN : N < 2 ^ 31) {f : Nat → Int32} (hd : decode cc pc = .ok (.iaload, 1)) (hc : h[i]? = some (.inl (0, N, .inl f))) (kk : AW l G y cc nL ret R E QF k n (pc + 1) lv (.int (f x) :: st) h) : AW l G y cc nL ret R E QF k n pc lv (.int j :: .ref (G.1 + i) :: st) h := by
  intro p ev s m args below meth c H locs ls Cx hH hS hl
  obtain ⟨hx, hb, hml, hr, hlk, hnm, hown, hK, hE, hB⟩ := id Cx
  subst hj
  have hin : vp_in (nI x) N := vp_in_nI hx0 hN
  have hcl : (nI x).toNatClampNeg = x := nI_clamp (Nat.lt_trans hx0 hN)
  exact va_iald (D := G.2.1) hx hb hK.2.2.1 hH.1 i 0 (xW_get hc) rfl hin hd (by rw [hcl]; exact (kk p ev s m args below meth c H locs ls Cx hH hS hl))
theorem aw_zald {i : Nat} {N : Nat} {j : Int32} (x : Nat) (hj : j = nI x) (hx0 : x < N) (hN : N < 2 ^ 31) {f : Nat → Int32} (hd : decode cc pc = .ok (.baload, 1)) (hc : h[i]? = some (.inl (2, N, .inl f))) (kk : AW l G y cc nL ret R E QF k n (pc + 1) lv (.int (f x) :: st) h) : AW l G y cc nL ret R E QF k n pc lv (.int j :: .ref (G.1 + i) :: st) h := by
  intro p ev s m args below meth c H locs ls Cx hH hS hl
  obtain ⟨hx, hb, hml, hr, hlk, hnm, hown, hK, hE, hB⟩ := id Cx
  subst hj
  have hin : vp_in (nI x) N := vp_in_nI hx0 hN
  have hcl : (nI x).toNatClampNeg = x := nI_clamp (Nat.lt_trans hx0 hN)
  exact va_zald (D := G.2.1) hx hb hK.2.2.1 hH.1 i 2 (xW_get hc) rfl hin hd (by rw [hcl]; exact (kk p ev s m args below meth c H locs ls Cx hH hS hl))
theorem aw_lald {i : Nat} {N : Nat} {j : Int32} (x : Nat) (hj : j = nI x) (hx0 : x < N) (hN : N < 2 ^ 31) {f : Nat → Int64} (hd : decode cc pc = .ok (.laload, 1)) (hc : h[i]? = some (.inl (1, N, .inr (.inl f)))) (kk : AW l G y cc nL ret R E QF k n (pc + 1) lv (.long (f x) :: st) h) : AW l G y cc nL ret R E QF k n pc lv (.int j :: .ref (G.1 + i) :: st) h := by
  intro p ev s m args below meth c H locs ls Cx hH hS hl
  obtain ⟨hx, hb, hml, hr, hlk, hnm, hown, hK, hE, hB⟩ := id Cx
  subst hj
  have hin : vp_in (nI x) N := vp_in_nI hx0 hN
  have hcl : (nI x).toNatClampNeg = x := nI_clamp (Nat.lt_trans hx0 hN)
  exact va_lald (D := G.2.1) hx hb hK.2.2.1 hH.1 i 1 (xW_get hc) rfl hin hd (by rw [hcl]; exact (kk p ev s m args below meth c H locs ls Cx hH hS hl))
theorem aw_aald {i : Nat} {N : Nat} {j : Int32} (x : Nat) (hj : j = nI x) (hx0 : x < N) (hN : N < 2 ^ 31) {f : Nat → Option Nat} (hd : decode cc pc = .ok (.aaload, 1)) (hc : h[i]? = some (.inl (3, N, .inr (.inr (.inr (.inr f)))))) (kk : AW l G y cc nL ret R E QF k n (pc + 1) lv (va_rf (f x) :: st) h) : AW l G y cc nL ret R E QF k n pc lv (.int j :: .ref (G.1 + i) :: st) h := by
  intro p ev s m args below meth c H locs ls Cx hH hS hl
  obtain ⟨hx, hb, hml, hr, hlk, hnm, hown, hK, hE, hB⟩ := id Cx
  subst hj
  have hin : vp_in (nI x) N := vp_in_nI hx0 hN
  have hcl : (nI x).toNatClampNeg = x := nI_clamp (Nat.lt_trans hx0 hN)
  exact va_aldq (D := G.2.1) hx hb hK.2.2.1 hH.1 i 3 (xW_get hc) rfl hin hd (by rw [hcl]; exact (kk p ev s m args below meth c H locs ls Cx hH hS hl))
theorem aw_iast {i : Nat} {N : Nat} {j : Int32} (x : Nat) (hj : j = nI x) (hx0 : x < N) (hN : N < 2 ^ 31) {f : Nat → Int32} {v : Int32} (hd : decode cc pc = .ok (.iastore, 1)) (hc : h[i]? = some (.inl (0, N, .inl f))) (kk : AW l G y cc nL ret R E QF k n (pc + 1) lv st (h.set i (.inl (0, N, .inl (upd f x v))))) : AW l G y cc nL ret R E QF k n pc lv (.int v :: .int j :: .ref (G.1 + i) :: st) h := by
  intro p ev s m args below meth c H locs ls Cx hH hS hl
  obtain ⟨hx, hb, hml, hr, hlk, hnm, hown, hK, hE, hB⟩ := id Cx
  subst hj
  have hin : vp_in (nI x) N := vp_in_nI hx0 hN
  have hcl : (nI x).toNatClampNeg = x := nI_clamp (Nat.lt_trans hx0 hN)
  refine W.iast hx hb (hH.1 i _ (xW_get hc)) ((hK.2.2.1.2 0 _ rfl).1 N (fun j => .int (f j))) (fun q => by cases q) (by show ¬ (nI x < 0 ∨ (arrV _ _ _).slots.size ≤ _); rw [arrV_size]; exact hin) rfl rfl hd fun H1 e1 z oq => ?_
  refine kk p ev s m args below meth c H1 _ ls Cx (hH.set hc z oq ?_) (xS_put hS z oq (Nat.le_add_right _ _)) hl
  show H1[_]? = some (vp_cell _ _)
  rw [e1, hcl]
  rw [vp_cell_i, vp_cell_i, arrV_store]
  congr 2
  funext q
  by_cases hq : q = x
  · subst hq
    simp [updV, upd]
  · simp [updV, upd, hq]
theorem aw_last {i : Nat} {N : Nat} {j : Int32} (x : Nat) (hj : j = nI x) (hx0 : x < N) (hN : N < 2 ^ 31) {f : Nat → Int64} {v : Int64} (hd : decode cc pc = .ok (.lastore, 1)) (hc : h[i]? = some (.inl (1, N, .inr (.inl f)))) (kk : AW l G y cc nL ret R E QF k n (pc + 1) lv st (h.set i (.inl (1, N, .inr (.inl (vp_updL f x v)))))) : AW l G y cc nL ret R E QF k n pc lv (.long v :: .int j :: .ref (G.1 + i) :: st) h := by
  intro p ev s m args below meth c H locs ls Cx hH hS hl
  obtain ⟨hx, hb, hml, hr, hlk, hnm, hown, hK, hE, hB⟩ := id Cx
  subst hj
  have hin : vp_in (nI x) N := vp_in_nI hx0 hN
  have hcl : (nI x).toNatClampNeg = x := nI_clamp (Nat.lt_trans hx0 hN)
  refine W.last hx hb (hH.1 i _ (xW_get hc)) ((hK.2.2.1.2 1 _ rfl).1 N (fun j => .long (f j))) (fun q => by cases q) (by show ¬ (nI x < 0 ∨ (arrV _ _ _).slots.size ≤ _); rw [arrV_size]; exact hin) rfl rfl hd fun H1 e1 z oq => ?_
  refine kk p ev s m args below meth c H1 _ ls Cx (hH.set hc z oq ?_) (xS_put hS z oq (Nat.le_add_right _ _)) hl
  show H1[_]? = some (vp_cell _ _)
  rw [e1, hcl]
  rw [vp_cell_l, vp_cell_l, arrV_store]
  congr 2
  funext q
  by_cases hq : q = x
  · subst hq
    simp [updV, vp_updL]
  · simp [updV, vp_updL, hq]
end AX
end
section
section AY
variable {l : Launch} {G : xG} {y : MethodName} {cc : ByteArray} {nL : Nat} {ret : Option FieldType} {R : Room} {E : Array Value → State → Prop} {QF : List Frame → Array Value → State → State → Prop} {k n pc : Nat} {lv : List (Nat × Value)} {st : List Value} {h : List va_E}
theorem aw_widen {k1 n1 : Nat} (h1 : k ≤ k1) (h2 : n ≤ n1) (kk : AW l G y cc nL ret R E QF k1 n1 pc lv st h) : AW l G y cc nL ret R E QF k n pc lv st h := by
  intro p ev s m args below meth c H locs ls Cx hH hS hl
  exact W.widen h1 h2 (kk p ev s m args below meth c H locs ls Cx hH hS hl)
/-- fewer locals are known, or in another order -/
theorem aw_lv (lv1 : List (Nat × Value)) (is : List Nat) (he : is.filterMap (fun i => lv[i]?) = lv1) (kk : AW l G y cc nL ret R E QF k n pc lv1 st h) : AW l G y cc nL ret R E QF k n pc lv st h := by
  intro p ev s m args below meth c H locs ls Cx hH hS hl
  exact kk p ev s m args below meth c H locs ls Cx hH hS (lv_sub hl is he)
theorem aw_zast {i : Nat} {N : Nat} {j : Int32} (x : Nat) (hj : j = nI x) (hx0 : x < N) (hN : N < 2 ^ 31) {f : Nat → Int32} {v : Int32} (hd : decode cc pc = .ok (.bastore, 1)) (hc : h[i]? = some (.inl (2, N, .inl f))) (kk : AW l G y cc nL ret R E QF k n (pc + 1) lv st (h.set i (.inl (2, N, .inl (upd f x (vp_nar .boolean v)))))) : AW l G y cc nL ret R E QF k n pc lv (.int v :: .int j :: .ref (G.1 + i) :: st) h := by
  intro p ev s m args below meth c H locs ls Cx hH hS hl
  obtain ⟨hx, hb, hml, hr, hlk, hnm, hown, hK, hE, hB⟩ := id Cx
  subst hj
  have hin : vp_in (nI x) N := vp_in_nI hx0 hN
  have hcl : (nI x).toNatClampNeg = x := nI_clamp (Nat.lt_trans hx0 hN)
  refine W.zast hx hb (hH.1 i _ (xW_get hc)) ((hK.2.2.1.2 2 _ rfl).1 N (fun j => .int (f j))) (fun q => by cases q) (by show ¬ (nI x < 0 ∨ (arrV _ _ _).slots.size ≤ _); rw [arrV_size]; exact hin) rfl rfl hd fun H1 e1 z oq => ?_
  refine kk p ev s m args below meth c H1 _ ls Cx (hH.set hc z oq ?_) (xS_put hS z oq (Nat.le_add_right _ _)) hl
  show H1[_]? = some (vp_cell _ _)
  rw [e1, hcl]
  rw [vp_cell_i, vp_cell_i, arrV_store]
  congr 2
  funext q
  by_cases hq : q = x
  · subst hq
    simp [updV, upd, vp_nar]
    try rfl
  · simp [updV, upd, hq]
theorem aw_aast {i iv ci : Nat} {N : Nat} {j : Int32} {fs : List Value} {r : vw_C} (x : Nat) (hj : j = nI x) (hx0 : x < N) (hN : N < 2 ^ 31) {f : Nat → Option Nat} (hd : decode cc pc = .ok (.aastore, 1)) (hc : h[i]? = some (.inl (3, N, .inr (.inr (.inr (.inr f)))))) (hv : h[iv]? = some (.inr (ci, fs))) (hci : vwCl[ci]? = some r) (hr1 : r.1 = RX4) (kk : AW l G y cc nL ret R E QF k n (pc + 1) lv st (h.set i (.inl (3, N, .inr (.inr (.inr (.inr (va_up f x (some (G.1 + iv)))))))))) : AW l G y cc nL ret R E QF k n pc lv (.ref (G.1 + iv) :: .int j :: .ref (G.1 + i) :: st) h := by
  intro p ev s m args below meth c H locs ls Cx hH hS hl
  obtain ⟨hx, hb, hml, hr, hlk, hnm, hown, hK, hE, hB⟩ := id Cx
  subst hj
  have hcl : (nI x).toNatClampNeg = x := nI_clamp (Nat.lt_trans hx0 hN)
  obtain ⟨r', hr', cellV, g1, g2, g3, -⟩ := hH.1 iv _ (xW_get hv)
  have hcls := (hK.2.2.1.1 ci r hci).2
  obtain ⟨kA, comp, k1, k2, k3, -⟩ := (hK.2.2.1.2 3 _ rfl).2
  have hcomp : comp = G.2.1.1 ci := by rw [hr1] at hcls; exact Option.some.inj (k3.symm.trans hcls.1)
  subst hcomp
  obtain ⟨kC, hkC, -⟩ := hcls.2
  refine W.aast hx hb (hH.1 i _ (xW_get hc)) (fun q h => by cases h) (fun h => by cases h) k1 k2 rfl hkC ⟨nI_pos (Nat.lt_trans hx0 hN), by show _ < (arrV _ _ _).slots.size; rw [arrV_size, hcl]; exact hx0⟩ g1 (fun q h => by rw [g3] at h; cases h) (by rw [g2]; exact hkC) (by rw [g2]; exact va_assign hcls) rfl rfl hd fun H1 e1 z oq => ?_
  refine kk p ev s m args below meth c H1 _ ls Cx (hH.set hc z oq ?_) (xS_put hS z oq (Nat.le_add_right _ _)) hl
  show H1[_]? = some (vp_cell _ _)
  rw [e1, hcl]
  rw [vp_cell_q, vp_cell_q, arrV_store]
  congr 2
  funext q
  by_cases hq : q = x
  · subst hq
    simp [updV, va_up, va_rf]
  · simp [updV, va_up, hq]
theorem aw_alen {i ki : Nat} {x : vp_A} {ty : FieldType} (v : Int32) (hd : decode cc pc = .ok (.arraylength, 1)) (hc : h[i]? = some (.inl (ki, x))) (hk : (xtys G)[ki]? = some (G.2.2 ki, ty)) (hv : Int32.ofNat x.1 = v) (kk : AW l G y cc nL ret R E QF k n (pc + 1) lv (.int v :: st) h) : AW l G y cc nL ret R E QF k n pc lv (.ref (G.1 + i) :: st) h := by
  intro p ev s m args below meth c H locs ls Cx hH hS hl
  obtain ⟨hx, hb, hml, hr, hlk, hnm, hown, hK, hE, hB⟩ := id Cx
  exact va_alen (D := G.2.1) hx hb hK.2.2.1 hH.1 i ki (xW_get hc) hk hv hd (kk p ev s m args below meth c H locs ls Cx hH hS hl)
theorem aw_new {idx ci : Nat} {C : String} {T : u_T} {N : Nat} {ty : Nat → FieldType} (F : xNw y.cls idx ci C T N ty) (hd : decode cc pc = .ok (.new idx, 3)) (fs : List Value) (hfs : ∀ j, j < N → defaultValue (ty j) = vp_V fs j) (h1 : k + 1 ≤ R.cells) (h2 : n + N ≤ R.slots) (kk : AW l G y cc nL ret R E QF (k + 1) (n + N) (pc + 3) lv (.ref (G.1 + h.length) :: st) (h ++ [.inr (ci, fs)])) : AW l G y cc nL ret R E QF k n pc lv st h := by
  intro p ev s m args below meth c H locs ls Cx hH hS hl
  obtain ⟨hx, hb, hml, hr, hlk, hnm, hown, hK, hE, hB⟩ := id Cx
  have hts : ∀ w ∈ xT, w.before args s = true := fun w hw => hK.1 w hw args
  have hKn := hK.2.2.1.1 ci _ F.1.1
  refine W.newcK hx hb hown (hts _ F.2.1) (hts _ F.2.2.1) (hts _ F.2.2.2) rfl hd h1 h2 hKn.2.1 hH.2 fun H1 kC hkC e1 z1 o1 => ?_
  refine kk p ev s m args below meth c H1 locs ls Cx (hH.push (by rw [z1, hH.2]) (fun q hq => o1 q (by rw [← hH.2]; exact hq)) ?_) (xS_push hS (by rw [z1, hH.2]) (fun q hq => o1 q (by rw [← hH.2]; exact hq))) hl
  exact ⟨_, F.1.1, by rw [hH.2]; exact (u_born ty hts F.1.2.1 hKn hkC e1 F.1.2.2.1).to hfs⟩
theorem aw_newa {at_ : ArrayType} {ty : FieldType} {ki : Nat} {j : Int32} (N : Nat) (a0 : vp_A) (hw : Cond.arrayClass ty ∈ xT) (hd : decode cc pc = .ok (.newarray at_, 2)) (hty : newarray.typeOf at_ = ty) (hk : (xtys G)[ki]? = some (G.2.2 ki, ty)) (ha : ∀ cA : ClassId, vp_cell cA a0 = arrV cA N (fun _ => defaultValue ty)) (hj : j = nI N) (hN : N < 2 ^ 31) (hby : N * componentBytes ty ≤ 536870912) (h1 : k + 1 ≤ R.cells) (h2 : n + N ≤ R.slots) (kk : AW l G y cc nL ret R E QF (k + 1) (n + N) (pc + 2) lv (.ref (G.1 + h.length) :: st) (h ++ [.inl (ki, a0)])) : AW l G y cc nL ret R E QF k n pc lv (.int j :: st) h := by
  intro p ev s m args below meth c H locs ls Cx hH hS hl
  obtain ⟨hx, hb, hml, hr, hlk, hnm, hown, hK, hE, hB⟩ := id Cx
  subst hty
  subst hj
  have hcl : (nI N).toNatClampNeg = N := nI_clamp hN
  refine va_newaK hx hb (hK.1 _ hw args) rfl hd rfl (nI_pos hN) hcl hby h1 h2 hH.2 fun H1 cA e1 z1 o1 hAr hNm => ?_
  refine kk p ev s m args below meth c H1 locs ls Cx (hH.push (by rw [z1, hH.2]) (fun q hq => o1 q (by rw [← hH.2]; exact hq)) ?_) (xS_push hS (by rw [z1, hH.2]) (fun q hq => o1 q (by rw [← hH.2]; exact hq))) hl
  have hcA : cA = G.2.2 ki := by
    have hz := (hK.2.2.1.2 ki _ hk).2
    cases at_ <;> exact Option.some.inj (hNm.symm.trans hz)
  show H1[H.size]? = some (vp_cell _ _)
  rw [hH.2, e1, hcA, ha]
theorem aw_anewa {idx : Nat} {j : Int32} (N : Nat) (hw : Cond.classLink y.cls idx RX4 ∈ xT) (hd : decode cc pc = .ok (.anewarray idx, 3)) (hj : j = nI N) (hN : N < 2 ^ 31) (hby : N * 4 ≤ 536870912) (h1 : k + 1 ≤ R.cells) (h2 : n + N ≤ R.slots) (kk : AW l G y cc nL ret R E QF (k + 1) (n + N) (pc + 3) lv (.ref (G.1 + h.length) :: st) (h ++ [.inl (3, N, .inr (.inr (.inr (.inr (fun _ => none)))))])) : AW l G y cc nL ret R E QF k n pc lv (.int j :: st) h := by
  intro p ev s m args below meth c H locs ls Cx hH hS hl
  obtain ⟨hx, hb, hml, hr, hlk, hnm, hown, hK, hE, hB⟩ := id Cx
  subst hj
  have hcl : (nI N).toNatClampNeg = N := nI_clamp hN
  refine W.anew hx hb hown (hK.1 _ hw args) hK.2.2.2.use rfl hd rfl (nI_pos hN) (by rw [hcl]; exact hby) h1 (by rw [hcl]; exact h2) fun cA kA comp q1 q2 q3 q4 => ?_
  have hcA : cA = G.2.2 3 := by
    obtain ⟨_, _, -, -, -, hz⟩ := (hK.2.2.1.2 3 _ rfl).2
    exact Option.some.inj (q1.symm.trans hz)
  rw [hcl, hH.2]
  refine kk p ev s m args below meth c _ locs ls Cx (hH.push (by simp) (fun q hq => by rw [Array.getElem?_push, if_neg (Nat.ne_of_lt hq)]) ?_) (xS_push hS (by simp) (fun q hq => by rw [Array.getElem?_push, if_neg (Nat.ne_of_lt hq)])) hl
  show (H.push _)[H.size]? = some (vp_cell _ _)
  rw [vp_cell_q, Array.getElem?_push, if_pos rfl, hcA]
  congr 2
  simp only [arrV, va_rf]
  congr 1
  apply Array.ext
  · simp
  · intro i h1 h2
    simp
theorem aw_objInit {idx i : Nat} (h1 : Cond.methodLink y.cls idx objectInit ∈ xT) (h2 : Cond.instanceMethod objectInit ∈ xT) (h3 : Cond.code objectInit ⟨#[0xb1]⟩ 1 none ∈ xT) (hd : decode cc pc = .ok (.invokespecial idx, 3)) (hst : (st.map fun v => v.category).sum ≤ 8) (hf : 1 ≤ R.frames) (hlo : 20 ≤ R.locals) (kk : AW l G y cc nL ret R E QF k n (pc + 3) lv st h) : AW l G y cc nL ret R E QF k n pc lv (.ref i :: st) h := by
  intro p ev s m args below meth c H locs ls Cx hH hS hl
  obtain ⟨hx, hb, hml, hr, hlk, hnm, hown, hK, hE, hB⟩ := id Cx
  refine W.objInit hx hb hown (hK.1 _ h1 args) (hK.1 _ h2 args) (hK.1 _ h3 args) rfl (by rw [hml]; exact hl.1) rfl hd hf (by simp only [JFrame.monitorRoom]; omega) ?_
  exact kk p ev s m args below meth c H locs ls Cx hH hS hl
end AY
end
section
/-- the room of a method that may stand d frames high -/
def xR (d mc ms : Nat) : Room := { frames := d, cells := mc, slots := ms, locals := 40 * d }
def xQc (G : xG) (post : Option Value → List va_E → Prop) : Array Value → State → Outcome → State → Prop := fun _ st oc t => ∃ (v : Option Value) (h1 : List va_E), oc = .returned v ∧ post v h1 ∧ xH G h1 t.heap ∧ va_F (xA G) st t
def xQ (G : xG) (mc ms : Nat) (post : Option Value → List va_E → Prop) : List Frame → Array Value → State → State → Prop := fun below args s => MQ below (xQc G post) args s mc ms (xA G)
def xPc (G : xG) (av : List Value) (h : List va_E) : Array Value → State → Prop := va_Pc av (fun U => xK G U ∧ xH G h U.heap)
/-- a method's CONTRACT: from the heap h, with the arguments av, it returns, post holds of the answer and the new heap; at most mc new cells of ms slots, d frames -/
def CM (l : Launch) (G : xG) (y : MethodName) (cc : ByteArray) (nL : Nat) (ret : Option FieldType) (d mc ms : Nat) (av : List Value) (h : List va_E) (post : Option Value → List va_E → Prop) : Prop :=
  Met l y [.code y cc nL ret] (xR d mc ms) (xPc G av h) (xQc G post) mc ms (xA G)
theorem xPc_blind (G : xG) (av : List Value) (h : List va_E) : FrameBlind (xPc G av h) := by
  intro a U g mk q
  obtain ⟨q0, q1, q2⟩ := q
  exact ⟨q0, xK.same (s := U) (U := U.calling g mk a) rfl q1, q2⟩
theorem cm_of {l : Launch} {G : xG} {y : MethodName} {cc : ByteArray} {nL : Nat} {ret : Option FieldType} {d mc ms : Nat} {av : List Value} {h : List va_E} {post : Option Value → List va_E → Prop} (hy : plainName y.cls = true) (hl : (lg_sl av).length ≤ nL) (lv : List (Nat × Value)) (hlv : lv_args 0 av = lv)
    (W0 : AW l G y cc nL ret (xR d mc ms) (fun _ _ => True) (xQ G mc ms post) 0 0 0 lv [] h) : CM l G y cc nL ret d mc ms av h post := by
  refine Met.ofW (cc := cc) (maxL := nL) (ret := ret) hy rfl ?_
  intro p ev s m args below meth c s₁ B hml hv
  obtain ⟨rfl, hK, hH⟩ := hv
  have hown : s.vm.findClass y.cls = some m.cls := findClass_of_methodNamed B.named
  rw [lg_entry_eq]
  subst hlv
  exact W0 p ev s m _ below meth c s.heap [] _ ⟨B.exec, B.bytes, hml, B.returns, B.notSynchronized, (name_of_methodNamed B.named B.method).1, hown, hK, trivial, by rw [hH.2]; exact Nat.le_add_right _ _⟩ hH va_S.rf (lv_entry av hl)
/-- a weaker end -/
theorem CM.post {l : Launch} {G : xG} {y : MethodName} {cc : ByteArray} {nL : Nat} {ret : Option FieldType} {d mc ms : Nat} {av : List Value} {h : List va_E} {p1 p2 : Option Value → List va_E → Prop} (hM : CM l G y cc nL ret d mc ms av h p1) (hp : ∀ v h1, p1 v h1 → p2 v h1) : CM l G y cc nL ret d mc ms av h p2 := by
  intro p e ha hc hk s m args below hf happ hP htr
  obtain ⟨k, o, h1, h2, h3, ⟨v, hh, q1, q2, q3⟩, q4⟩ := hM p e ha hc hk s m args below hf happ hP htr
  exact ⟨k, o, h1, h2, h3, ⟨v, hh, q1, hp v hh q2, q3⟩, q4⟩
section AZ
variable {l : Launch} {G : xG} {y : MethodName} {cc : ByteArray} {nL : Nat} {ret : Option FieldType} {R : Room} {E : Array Value → State → Prop} {QF : List Frame → Array Value → State → State → Prop} {k n pc : Nat} {lv : List (Nat × Value)} {st : List Value} {h : List va_E} {mc ms : Nat} {post : Option Value → List va_E → Prop}
theorem aw_iret {v : Int32} (hret : ret = some .int) (hd : decode cc pc = .ok (.ireturn, 1)) (h1 : k ≤ mc) (h2 : n ≤ ms) (hp : post (some (.int v)) h) : AW l G y cc nL ret R E (xQ G mc ms post) k n pc lv [.int v] h := by
  intro p ev s m args below meth c H locs ls Cx hH hS hl
  obtain ⟨hx, hb, hml, hr, hlk, hnm, hown, hK, hE, hB⟩ := id Cx
  refine W.widen h1 h2 ?_
  exact W.iret hx hb (hr.trans hret) (fun t ht hW => ⟨_, h, rfl, hp, by rw [ht]; exact hH, hS.F ht⟩) hS.2.2 hd hlk
theorem aw_zret {v : Int32} (hret : ret = some .boolean) (hv : narrow .boolean (.int v) = .int v) (hd : decode cc pc = .ok (.ireturn, 1)) (h1 : k ≤ mc) (h2 : n ≤ ms) (hp : post (some (.int v)) h) : AW l G y cc nL ret R E (xQ G mc ms post) k n pc lv [.int v] h := by
  intro p ev s m args below meth c H locs ls Cx hH hS hl
  obtain ⟨hx, hb, hml, hr, hlk, hnm, hown, hK, hE, hB⟩ := id Cx
  refine W.widen h1 h2 ?_
  exact W.zret hx hb (hr.trans hret) hv (fun t ht hW => ⟨_, h, rfl, hp, by rw [ht]; exact hH, hS.F ht⟩) hS.2.2 hd hlk
theorem aw_vret (hret : ret = none) (hd : decode cc pc = .ok (.return_, 1)) (h1 : k ≤ mc) (h2 : n ≤ ms) (hp : post none h) : AW l G y cc nL ret R E (xQ G mc ms post) k n pc lv [] h := by
  intro p ev s m args below meth c H locs ls Cx hH hS hl
  obtain ⟨hx, hb, hml, hr, hlk, hnm, hown, hK, hE, hB⟩ := id Cx
  refine W.widen h1 h2 ?_
  exact W.vret hx hb (hr.trans hret) (fun t ht hW => ⟨_, h, rfl, hp, by rw [ht]; exact hH, hS.F ht⟩) hS.2.2 hd hlk
theorem aw_aret {a : Nat} {C : String} (hret : ret = some (.object C)) (hd : decode cc pc = .ok (.areturn, 1)) (h1 : k ≤ mc) (h2 : n ≤ ms) (hp : post (some (.ref a)) h) : AW l G y cc nL ret R E (xQ G mc ms post) k n pc lv [.ref a] h := by
  intro p ev s m args below meth c H locs ls Cx hH hS hl
  obtain ⟨hx, hb, hml, hr, hlk, hnm, hown, hK, hE, hB⟩ := id Cx
  refine W.widen h1 h2 ?_
  exact W.aret hx hb (hr.trans hret) (Or.inl ⟨_, rfl⟩) (Or.inr ⟨_, rfl⟩) (fun t ht hW => ⟨_, h, rfl, hp, by rw [ht]; exact hH, hS.F ht⟩) hS.2.2 hd hlk
/-- behind a call -/
theorem aw_run {p : Program} {ev : Env} {s : State} {m : MethodId} {args : Array Value} {below : List Frame} {meth : Method} {c : Code} {H : Heap} {locs : List Loc} {ls : Array Slot} {st0 rest : List Value} {mc' ms' : Nat} {Q : State → Prop} {a : Array Value}
    (hr : va_Run p l ev R s m args below meth c H locs k n mc' ms' (F0 m pc ls st0) rest (xQc G post a) (xA G)) (hS : va_S (xA G) s.heap H locs)
    (kk : ∀ (v : Option Value) (h1 : List va_E), post v h1 → ∀ (H1 : Heap) (locs1 : List Loc), xH G h1 H1 → va_S (xA G) s.heap H1 locs1 → W p l ev R s m args below meth c H1 locs1 (k + mc') (n + ms') Q (F0 m (pc + 3) ls (v.toList ++ rest))) : W p l ev R s m args below meth c H locs k n Q (F0 m pc ls st0) := by
  intro T hT X
  obtain ⟨v, st₀, t, T', L, e0, X', hL, e1, e2, ⟨v', h', e3, hp, hH', hF⟩, hst⟩ := hr T hT X
  cases e3
  have hS1 : va_S (xA G) s.heap T'.heap (locs ++ L) := by
    refine ⟨?_, fun q hq hA => ?_, fun q hq => ?_⟩
    · rw [e1]; exact Nat.le_trans hS.1 (by rw [← e0]; exact hF.1)
    · rw [e1, hF.2 q (by rw [e0]; exact Nat.lt_of_lt_of_le hq hS.1) hA, e0]; exact hS.2.1 q hq hA
    · rcases List.mem_append.mp hq with hq | hq
      · exact hS.2.2 q hq
      · exact hL q hq
  obtain ⟨t2, a1, b1⟩ := kk v h' hp T'.heap (locs ++ L) (by rw [e1]; exact hH') hS1 T' rfl X'
  exact ⟨t2, hst t2 a1, b1⟩
/-- a method's rows for its callers -/
def xMd (y : MethodName) (cc : ByteArray) (nL : Nat) (ret : Option FieldType) (np : Nat) : Prop := Cond.code y cc nL ret ∈ xT ∧ Cond.initialized y.cls ∈ xT ∧ (y.cls ≠ "java/lang/invoke/MethodHandle" ∧ y.cls ≠ "java/lang/invoke/VarHandle" ∧ (parseMethodDescriptor y.desc).map (fun d => d.parameters.length) = some np) ∧ nL ≤ 21
theorem xMd.good {y : MethodName} {cc : ByteArray} {nL : Nat} {ret : Option FieldType} {np : Nat} (h : xMd y cc nL ret np) : GoodIn xT [.code y cc nL ret] := by
  intro w hw
  rw [List.mem_singleton.mp hw]
  exact ⟨h.1, good_of_word (List.mem_filter.mp h.1).2⟩
theorem xPre {p : Program} {s : State} {m : MethodId} {args : Array Value} {meth : Method} {c : Code} {H : Heap} {av : List Value} (Cx : xC G y cc nL ret E p s m args meth c) (hH : xH G h H) : PreS s H (xPc G av h) av :=
  ⟨xPc_blind G av h, fun U hU hW => ⟨rfl, Cx.2.2.2.2.2.2.2.1.warm hW, by rw [hU]; exact hH⟩⟩
theorem aw_callS {idx : Nat} {y' : MethodName} {cc' : ByteArray} {nL' : Nat} {ret' : Option FieldType} {np d' mc' ms' : Nat} {post' : Option Value → List va_E → Prop} {st0 : List Value} (As rest : List Value) (Lk : Cond.methodLink y.cls idx y' ∈ xT) (Ls : Cond.static y' ∈ xT) (Lm : xMd y' cc' nL' ret' np) (hd : decode cc pc = .ok (.invokestatic idx, 3)) (hM : CM l G y' cc' nL' ret' d' mc' ms' As h post') (hn : As.length = np) (hst : (rest.map fun v => v.category).sum ≤ 8) (hR : d' + 1 ≤ R.frames ∧ 8 + (nL' + 11) + 40 * d' ≤ R.locals) (hk : k + mc' ≤ R.cells ∧ n + ms' ≤ R.slots) (he : st0 = As.reverse ++ rest)
    (kk : ∀ (v : Option Value) (h1 : List va_E), post' v h1 → AW l G y cc nL ret R E QF (k + mc') (n + ms') (pc + 3) lv (v.toList ++ rest) h1) : AW l G y cc nL ret R E QF k n pc lv st0 h := by
  intro p ev s m args below meth c H locs ls Cx hH hS hl
  obtain ⟨hx, hb, hml, hr, hlk, hnm, hown, hK, hE, hB⟩ := id Cx
  have hts : ∀ w ∈ xT, w.before args s = true := fun w hw => hK.1 w hw args
  refine aw_run (va_runS (As := As) (rest := rest) ⟨hx, hb, hml, hown, hts⟩ hM ⟨callB_of np hts Lm.good rfl rfl rfl (hts _ Lm.2.1) (hts _ Lk) Lm.2.2.1 hR, hts _ Ls⟩ (xPre Cx hH) rfl hn hl.1 he (by simp only [JFrame.monitorRoom]; omega) hd hk) hS ?_
  intro v h1 hp H1 locs1 hH1 hS1
  exact kk v h1 hp p ev s m args below meth c H1 locs1 ls Cx hH1 hS1 hl
theorem aw_callV {idx i ci : Nat} {fs : List Value} {r : vw_C} {y' : MethodName} {cc' : ByteArray} {nL' : Nat} {ret' : Option FieldType} {np d' mc' ms' : Nat} {post' : Option Value → List va_E → Prop} {st0 : List Value} (As rest : List Value) (Lk : Cond.methodLink y.cls idx y' ∈ xT) (Ls : Cond.instanceMethod y' ∈ xT ∧ Cond.selects y'.cls y' y' ∈ xT) (Lm : xMd y' cc' nL' ret' np) (hd : decode cc pc = .ok (.invokevirtual idx, 3)) (hM : CM l G y' cc' nL' ret' d' mc' ms' (.ref (G.1 + i) :: As) h post') (hc : h[i]? = some (.inr (ci, fs))) (hci : vwCl[ci]? = some r) (hr1 : r.1 = y'.cls) (hn : As.length = np) (hst : (rest.map fun v => v.category).sum ≤ 8) (hR : d' + 1 ≤ R.frames ∧ 8 + (nL' + 11) + 40 * d' ≤ R.locals) (hk : k + mc' ≤ R.cells ∧ n + ms' ≤ R.slots) (he : st0 = As.reverse ++ .ref (G.1 + i) :: rest)
    (kk : ∀ (v : Option Value) (h1 : List va_E), post' v h1 → AW l G y cc nL ret R E QF (k + mc') (n + ms') (pc + 3) lv (v.toList ++ rest) h1) : AW l G y cc nL ret R E QF k n pc lv st0 h := by
  intro p ev s m args below meth c H locs ls Cx hH hS hl
  obtain ⟨hx, hb, hml, hr, hlk, hnm, hown, hK, hE, hB⟩ := id Cx
  have hts : ∀ w ∈ xT, w.before args s = true := fun w hw => hK.1 w hw args
  have hrc : ∃ cell : Cell, H[G.1 + i]? = some cell ∧ cell.vm.isStatics = false ∧ s.vm.findClass y'.cls = some cell.cls := by
    rw [← hr1]
    exact va_recv hK.2.2.1 hH.1 hci (xW_get hc)
  refine aw_run (va_runV (C := y'.cls) (As := As) (rest := rest) ⟨hx, hb, hml, hown, hts⟩ hM ⟨callB_of np hts Lm.good rfl rfl rfl (hts _ Lm.2.1) (hts _ Lk) Lm.2.2.1 hR, hts _ Ls.1, hts _ Ls.2⟩ ⟨(xPre Cx hH).1, hrc, (xPre Cx hH).2⟩ rfl hn hl.1 he (by simp only [JFrame.monitorRoom]; omega) hd hk) hS ?_
  intro v h1 hp H1 locs1 hH1 hS1
  exact kk v h1 hp p ev s m args below meth c H1 locs1 ls Cx hH1 hS1 hl
theorem aw_callI {idx i : Nat} {y' : MethodName} {cc' : ByteArray} {nL' : Nat} {np d' mc' ms' : Nat} {post' : Option Value → List va_E → Prop} {st0 : List Value} (As rest : List Value) (Lk : Cond.methodLink y.cls idx y' ∈ xT) (Ls : y'.name = "<init>" ∧ Cond.instanceMethod y' ∈ xT) (Lm : xMd y' cc' nL' none np) (hd : decode cc pc = .ok (.invokespecial idx, 3)) (hM : CM l G y' cc' nL' none d' mc' ms' (.ref i :: As) h post') (hn : As.length = np) (hst : (rest.map fun v => v.category).sum ≤ 8) (hR : d' + 1 ≤ R.frames ∧ 8 + (nL' + 11) + 40 * d' ≤ R.locals) (hk : k + mc' ≤ R.cells ∧ n + ms' ≤ R.slots) (he : st0 = As.reverse ++ .ref i :: rest)
    (kk : ∀ (v : Option Value) (h1 : List va_E), post' v h1 → AW l G y cc nL ret R E QF (k + mc') (n + ms') (pc + 3) lv (v.toList ++ rest) h1) : AW l G y cc nL ret R E QF k n pc lv st0 h := by
  intro p ev s m args below meth c H locs ls Cx hH hS hl
  obtain ⟨hx, hb, hml, hr, hlk, hnm, hown, hK, hE, hB⟩ := id Cx
  have hts : ∀ w ∈ xT, w.before args s = true := fun w hw => hK.1 w hw args
  refine aw_run (va_runI (As := As) (rest := rest) ⟨hx, hb, hml, hown, hts⟩ hM ⟨callB_of np hts Lm.good rfl rfl rfl (hts _ Lm.2.1) (hts _ Lk) Lm.2.2.1 hR, Ls.1, hts _ Ls.2⟩ (xPre Cx hH) rfl hn hl.1 he (by simp only [JFrame.monitorRoom]; omega) hd hk) hS ?_
  intro v h1 hp H1 locs1 hH1 hS1
  exact kk v h1 hp p ev s m args below meth c H1 locs1 ls Cx hH1 hS1 hl
/-- a private constructor of a nest mate -/
theorem aw_callN {idx i : Nat} {host : String} {y' : MethodName} {cc' : ByteArray} {nL' : Nat} {np d' mc' ms' : Nat} {post' : Option Value → List va_E → Prop} {st0 : List Value} (As rest : List Value) (Lk : Cond.methodLinkNest y.cls idx y' host ∈ tables_1) (Ls : y'.name = "<init>" ∧ Cond.instanceMethod y' ∈ xT) (Lm : xMd y' cc' nL' none np) (hd : decode cc pc = .ok (.invokespecial idx, 3)) (hM : CM l G y' cc' nL' none d' mc' ms' (.ref i :: As) h post') (hn : As.length = np) (hst : (rest.map fun v => v.category).sum ≤ 8) (hR : d' + 1 ≤ R.frames ∧ 8 + (nL' + 11) + 40 * d' ≤ R.locals) (hk : k + mc' ≤ R.cells ∧ n + ms' ≤ R.slots) (he : st0 = As.reverse ++ .ref i :: rest)
    (kk : ∀ (v : Option Value) (h1 : List va_E), post' v h1 → AW l G y cc nL ret R E QF (k + mc') (n + ms') (pc + 3) lv (v.toList ++ rest) h1) : AW l G y cc nL ret R E QF k n pc lv st0 h := by
  intro p ev s m args below meth c H locs ls Cx hH hS hl
  obtain ⟨hx, hb, hml, hr, hlk, hnm, hown, hK, hE, hB⟩ := id Cx
  have hts : ∀ w ∈ xT, w.before args s = true := fun w hw => hK.1 w hw args
  refine aw_run (va_runIN (As := As) (rest := rest) ⟨hx, hb, hml, hown, hts⟩ hM ⟨va_cnB np hts Lm.good rfl rfl rfl (hK.2.1 _ _ _ _ Lk) (hts _ Lm.2.1) Lm.2.2.1 hR, Ls.1, hts _ Ls.2⟩ (xPre Cx hH) rfl hn hl.1 he (by simp only [JFrame.monitorRoom]; omega) hd hk) hS ?_
  intro v h1 hp H1 locs1 hH1 hS1
  exact kk v h1 hp p ev s m args below meth c H1 locs1 ls Cx hH1 hS1 hl
end AZ
end
section
theorem clX0 : xCl 0 RX0 TX0 3 tyX0 := ⟨rfl, by decide +kernel, tyX0_ok, nmX0⟩
theorem clX1 : xCl 1 RX1 TX1 14 tyX1 := ⟨rfl, by decide +kernel, tyX1_ok, nmX1⟩
theorem clX2 : xCl 2 RX2 TX2 5 tyX2 := ⟨rfl, by decide +kernel, tyX2_ok, nmX2⟩
theorem clX3 : xCl 3 RX3 TX3 7 tyX3 := ⟨rfl, by decide +kernel, tyX3_ok, nmX3⟩
theorem clX4 : xCl 4 RX4 TX4 5 tyX4 := ⟨rfl, by decide +kernel, tyX4_ok, nmX4⟩
theorem clX5 : xCl 5 RX5 TX5 9 tyX5 := ⟨rfl, by decide +kernel, tyX5_ok, nmX5⟩
theorem clX6 : xCl 6 RX6 TX6 5 tyX6 := ⟨rfl, by decide +kernel, tyX6_ok, nmX6⟩
theorem clX7 : xCl 7 RX7 TX7 14 tyX7 := ⟨rfl, by decide +kernel, tyX7_ok, nmX7⟩
theorem clX8 : xCl 8 RX8 TX8 10 tyX8 := ⟨rfl, by decide +kernel, tyX8_ok, nmX8⟩
theorem clX9 : xCl 9 RX9 TX9 46 tyX9 := ⟨rfl, by decide +kernel, tyX9_ok, nmX9⟩
theorem fX8_9 : xFl RX8 9 8 8 RX8 TX8 10 tyX8 := ⟨clX8, by decide, xin 232 (by decide +kernel) rfl⟩
theorem fX8_13 : xFl RX8 13 8 9 RX8 TX8 10 tyX8 := ⟨clX8, by decide, xin 233 (by decide +kernel) rfl⟩
theorem fX8_20 : xFl RX8 20 8 0 RX8 TX8 10 tyX8 := ⟨clX8, by decide, xin 224 (by decide +kernel) rfl⟩
theorem fX8_26 : xFl RX8 26 8 1 RX8 TX8 10 tyX8 := ⟨clX8, by decide, xin 225 (by decide +kernel) rfl⟩
theorem fX8_34 : xFl RX8 34 8 2 RX8 TX8 10 tyX8 := ⟨clX8, by decide, xin 226 (by decide +kernel) rfl⟩
theorem fX8_38 : xFl RX8 38 8 3 RX8 TX8 10 tyX8 := ⟨clX8, by decide, xin 227 (by decide +kernel) rfl⟩
theorem fX8_44 : xFl RX8 44 8 4 RX8 TX8 10 tyX8 := ⟨clX8, by decide, xin 228 (by decide +kernel) rfl⟩
theorem fX8_51 : xFl RX8 51 8 5 RX8 TX8 10 tyX8 := ⟨clX8, by decide, xin 229 (by decide +kernel) rfl⟩
theorem fX8_58 : xFl RX8 58 8 6 RX8 TX8 10 tyX8 := ⟨clX8, by decide, xin 230 (by decide +kernel) rfl⟩
theorem fX8_62 : xFl RX8 62 8 7 RX8 TX8 10 tyX8 := ⟨clX8, by decide, xin 231 (by decide +kernel) rfl⟩
theorem fX8_78 : xFl RX8 78 1 1 RX1 TX1 14 tyX1 := ⟨clX1, by decide, xin 29 (by decide +kernel) rfl⟩
theorem fX8_91 : xFl RX8 91 1 3 RX1 TX1 14 tyX1 := ⟨clX1, by decide, xin 34 (by decide +kernel) rfl⟩
theorem fX8_113 : xFl RX8 113 1 10 RX1 TX1 14 tyX1 := ⟨clX1, by decide, xin 42 (by decide +kernel) rfl⟩
theorem fX8_128 : xFl RX8 128 4 2 RX4 TX4 5 tyX4 := ⟨clX4, by decide, xin 93 (by decide +kernel) rfl⟩
theorem fX8_131 : xFl RX8 131 4 0 RX4 TX4 5 tyX4 := ⟨clX4, by decide, xin 87 (by decide +kernel) rfl⟩
theorem fX8_134 : xFl RX8 134 4 3 RX4 TX4 5 tyX4 := ⟨clX4, by decide, xin 96 (by decide +kernel) rfl⟩
theorem fX8_137 : xFl RX8 137 4 1 RX4 TX4 5 tyX4 := ⟨clX4, by decide, xin 90 (by decide +kernel) rfl⟩
theorem fX8_148 : xFl RX8 148 1 2 RX1 TX1 14 tyX1 := ⟨clX1, by decide, xin 31 (by decide +kernel) rfl⟩
theorem fX8_160 : xFl RX8 160 5 7 RX5 TX5 9 tyX5 := ⟨clX5, by decide, xin 132 (by decide +kernel) rfl⟩
theorem fX8_165 : xFl RX8 165 5 5 RX5 TX5 9 tyX5 := ⟨clX5, by decide, xin 127 (by decide +kernel) rfl⟩
theorem fX8_169 : xFl RX8 169 5 4 RX5 TX5 9 tyX5 := ⟨clX5, by decide, xin 125 (by decide +kernel) rfl⟩
theorem fX8_187 : xFl RX8 187 2 2 RX2 TX2 5 tyX2 := ⟨clX2, by decide, xin 163 (by decide +kernel) rfl⟩
theorem fX8_190 : xFl RX8 190 2 3 RX2 TX2 5 tyX2 := ⟨clX2, by decide, xin 165 (by decide +kernel) rfl⟩
theorem fX8_193 : xFl RX8 193 2 4 RX2 TX2 5 tyX2 := ⟨clX2, by decide, xin 167 (by decide +kernel) rfl⟩
theorem fX8_204 : xFl RX8 204 6 4 RX6 TX6 5 tyX6 := ⟨clX6, by decide, xin 195 (by decide +kernel) rfl⟩
theorem fX8_215 : xFl RX8 215 7 11 RX7 TX7 14 tyX7 := ⟨clX7, by decide, xin 591 (by decide +kernel) rfl⟩
theorem fX8_218 : xFl RX8 218 7 9 RX7 TX7 14 tyX7 := ⟨clX7, by decide, xin 587 (by decide +kernel) rfl⟩
theorem fX8_221 : xFl RX8 221 7 8 RX7 TX7 14 tyX7 := ⟨clX7, by decide, xin 585 (by decide +kernel) rfl⟩
theorem fX8_224 : xFl RX8 224 7 10 RX7 TX7 14 tyX7 := ⟨clX7, by decide, xin 589 (by decide +kernel) rfl⟩
theorem fX8_240 : xFl RX8 240 0 2 RX0 TX0 3 tyX0 := ⟨clX0, by decide, xin 216 (by decide +kernel) rfl⟩
theorem fX8_243 : xFl RX8 243 5 8 RX5 TX5 9 tyX5 := ⟨clX5, by decide, xin 134 (by decide +kernel) rfl⟩
theorem fX8_256 : xFl RX8 256 4 4 RX4 TX4 5 tyX4 := ⟨clX4, by decide, xin 98 (by decide +kernel) rfl⟩
theorem fX8_259 : xFl RX8 259 1 13 RX1 TX1 14 tyX1 := ⟨clX1, by decide, xin 46 (by decide +kernel) rfl⟩
theorem fX0_9 : xFl RX0 9 0 0 RX0 TX0 3 tyX0 := ⟨clX0, by decide, xin 213 (by decide +kernel) rfl⟩
theorem fX0_15 : xFl RX0 15 0 1 RX0 TX0 3 tyX0 := ⟨clX0, by decide, xin 214 (by decide +kernel) rfl⟩
theorem fX0_18 : xFl RX0 18 0 2 RX0 TX0 3 tyX0 := ⟨clX0, by decide, xin 215 (by decide +kernel) rfl⟩
theorem fX1_9 : xFl RX1 9 1 0 RX1 TX1 14 tyX1 := ⟨clX1, by decide, xin 27 (by decide +kernel) rfl⟩
theorem fX1_15 : xFl RX1 15 1 1 RX1 TX1 14 tyX1 := ⟨clX1, by decide, xin 28 (by decide +kernel) rfl⟩
theorem fX1_18 : xFl RX1 18 1 2 RX1 TX1 14 tyX1 := ⟨clX1, by decide, xin 30 (by decide +kernel) rfl⟩
theorem fX1_21 : xFl RX1 21 1 3 RX1 TX1 14 tyX1 := ⟨clX1, by decide, xin 32 (by decide +kernel) rfl⟩
theorem fX1_24 : xFl RX1 24 1 4 RX1 TX1 14 tyX1 := ⟨clX1, by decide, xin 35 (by decide +kernel) rfl⟩
theorem fX1_27 : xFl RX1 27 1 5 RX1 TX1 14 tyX1 := ⟨clX1, by decide, xin 36 (by decide +kernel) rfl⟩
theorem fX1_30 : xFl RX1 30 1 6 RX1 TX1 14 tyX1 := ⟨clX1, by decide, xin 37 (by decide +kernel) rfl⟩
theorem fX1_33 : xFl RX1 33 1 7 RX1 TX1 14 tyX1 := ⟨clX1, by decide, xin 38 (by decide +kernel) rfl⟩
theorem fX1_36 : xFl RX1 36 1 8 RX1 TX1 14 tyX1 := ⟨clX1, by decide, xin 39 (by decide +kernel) rfl⟩
theorem fX1_39 : xFl RX1 39 1 9 RX1 TX1 14 tyX1 := ⟨clX1, by decide, xin 40 (by decide +kernel) rfl⟩
theorem fX1_43 : xFl RX1 43 1 10 RX1 TX1 14 tyX1 := ⟨clX1, by decide, xin 41 (by decide +kernel) rfl⟩
theorem fX1_47 : xFl RX1 47 1 11 RX1 TX1 14 tyX1 := ⟨clX1, by decide, xin 43 (by decide +kernel) rfl⟩
theorem fX1_50 : xFl RX1 50 1 12 RX1 TX1 14 tyX1 := ⟨clX1, by decide, xin 44 (by decide +kernel) rfl⟩
theorem fX1_53 : xFl RX1 53 1 13 RX1 TX1 14 tyX1 := ⟨clX1, by decide, xin 45 (by decide +kernel) rfl⟩
theorem fX2_9 : xFl RX2 9 2 0 RX2 TX2 5 tyX2 := ⟨clX2, by decide, xin 160 (by decide +kernel) rfl⟩
theorem fX2_15 : xFl RX2 15 2 1 RX2 TX2 5 tyX2 := ⟨clX2, by decide, xin 161 (by decide +kernel) rfl⟩
theorem fX2_19 : xFl RX2 19 2 2 RX2 TX2 5 tyX2 := ⟨clX2, by decide, xin 162 (by decide +kernel) rfl⟩
theorem fX2_22 : xFl RX2 22 2 3 RX2 TX2 5 tyX2 := ⟨clX2, by decide, xin 164 (by decide +kernel) rfl⟩
theorem fX2_25 : xFl RX2 25 2 4 RX2 TX2 5 tyX2 := ⟨clX2, by decide, xin 166 (by decide +kernel) rfl⟩
theorem fX2_29 : xFl RX2 29 5 7 RX5 TX5 9 tyX5 := ⟨clX5, by decide, xin 131 (by decide +kernel) rfl⟩
theorem fX2_34 : xFl RX2 34 5 6 RX5 TX5 9 tyX5 := ⟨clX5, by decide, xin 129 (by decide +kernel) rfl⟩
theorem fX2_37 : xFl RX2 37 5 2 RX5 TX5 9 tyX5 := ⟨clX5, by decide, xin 121 (by decide +kernel) rfl⟩
theorem fX2_44 : xFl RX2 44 5 3 RX5 TX5 9 tyX5 := ⟨clX5, by decide, xin 123 (by decide +kernel) rfl⟩
theorem fX2_47 : xFl RX2 47 5 1 RX5 TX5 9 tyX5 := ⟨clX5, by decide, xin 119 (by decide +kernel) rfl⟩
theorem fX3_9 : xFl RX3 9 3 0 RX3 TX3 7 tyX3 := ⟨clX3, by decide, xin 370 (by decide +kernel) rfl⟩
theorem fX3_15 : xFl RX3 15 3 1 RX3 TX3 7 tyX3 := ⟨clX3, by decide, xin 371 (by decide +kernel) rfl⟩
theorem fX3_18 : xFl RX3 18 3 2 RX3 TX3 7 tyX3 := ⟨clX3, by decide, xin 372 (by decide +kernel) rfl⟩
theorem fX3_21 : xFl RX3 21 3 3 RX3 TX3 7 tyX3 := ⟨clX3, by decide, xin 373 (by decide +kernel) rfl⟩
theorem fX3_24 : xFl RX3 24 3 4 RX3 TX3 7 tyX3 := ⟨clX3, by decide, xin 374 (by decide +kernel) rfl⟩
theorem fX3_27 : xFl RX3 27 3 5 RX3 TX3 7 tyX3 := ⟨clX3, by decide, xin 375 (by decide +kernel) rfl⟩
theorem fX3_31 : xFl RX3 31 3 6 RX3 TX3 7 tyX3 := ⟨clX3, by decide, xin 376 (by decide +kernel) rfl⟩
theorem fX3_34 : xFl RX3 34 1 3 RX1 TX1 14 tyX1 := ⟨clX1, by decide, xin 33 (by decide +kernel) rfl⟩
theorem fX3_46 : xFl RX3 46 4 2 RX4 TX4 5 tyX4 := ⟨clX4, by decide, xin 92 (by decide +kernel) rfl⟩
theorem fX3_80 : xFl RX3 80 4 0 RX4 TX4 5 tyX4 := ⟨clX4, by decide, xin 86 (by decide +kernel) rfl⟩
theorem fX3_86 : xFl RX3 86 4 1 RX4 TX4 5 tyX4 := ⟨clX4, by decide, xin 89 (by decide +kernel) rfl⟩
theorem fX3_93 : xFl RX3 93 4 3 RX4 TX4 5 tyX4 := ⟨clX4, by decide, xin 95 (by decide +kernel) rfl⟩
theorem fX4_9 : xFl RX4 9 4 0 RX4 TX4 5 tyX4 := ⟨clX4, by decide, xin 85 (by decide +kernel) rfl⟩
theorem fX4_15 : xFl RX4 15 4 1 RX4 TX4 5 tyX4 := ⟨clX4, by decide, xin 88 (by decide +kernel) rfl⟩
theorem fX4_19 : xFl RX4 19 4 2 RX4 TX4 5 tyX4 := ⟨clX4, by decide, xin 91 (by decide +kernel) rfl⟩
theorem fX4_23 : xFl RX4 23 4 3 RX4 TX4 5 tyX4 := ⟨clX4, by decide, xin 94 (by decide +kernel) rfl⟩
theorem fX4_26 : xFl RX4 26 4 4 RX4 TX4 5 tyX4 := ⟨clX4, by decide, xin 97 (by decide +kernel) rfl⟩
theorem fX5_9 : xFl RX5 9 5 0 RX5 TX5 9 tyX5 := ⟨clX5, by decide, xin 117 (by decide +kernel) rfl⟩
theorem fX5_15 : xFl RX5 15 5 1 RX5 TX5 9 tyX5 := ⟨clX5, by decide, xin 118 (by decide +kernel) rfl⟩
theorem fX5_18 : xFl RX5 18 5 2 RX5 TX5 9 tyX5 := ⟨clX5, by decide, xin 120 (by decide +kernel) rfl⟩
theorem fX5_21 : xFl RX5 21 5 3 RX5 TX5 9 tyX5 := ⟨clX5, by decide, xin 122 (by decide +kernel) rfl⟩
theorem fX5_24 : xFl RX5 24 5 4 RX5 TX5 9 tyX5 := ⟨clX5, by decide, xin 124 (by decide +kernel) rfl⟩
theorem fX5_27 : xFl RX5 27 5 5 RX5 TX5 9 tyX5 := ⟨clX5, by decide, xin 126 (by decide +kernel) rfl⟩
theorem fX5_30 : xFl RX5 30 5 6 RX5 TX5 9 tyX5 := ⟨clX5, by decide, xin 128 (by decide +kernel) rfl⟩
theorem fX5_33 : xFl RX5 33 5 7 RX5 TX5 9 tyX5 := ⟨clX5, by decide, xin 130 (by decide +kernel) rfl⟩
theorem fX5_37 : xFl RX5 37 5 8 RX5 TX5 9 tyX5 := ⟨clX5, by decide, xin 133 (by decide +kernel) rfl⟩
theorem fX6_9 : xFl RX6 9 6 0 RX6 TX6 5 tyX6 := ⟨clX6, by decide, xin 185 (by decide +kernel) rfl⟩
theorem fX6_15 : xFl RX6 15 6 1 RX6 TX6 5 tyX6 := ⟨clX6, by decide, xin 187 (by decide +kernel) rfl⟩
theorem fX6_18 : xFl RX6 18 6 2 RX6 TX6 5 tyX6 := ⟨clX6, by decide, xin 189 (by decide +kernel) rfl⟩
theorem fX6_21 : xFl RX6 21 6 3 RX6 TX6 5 tyX6 := ⟨clX6, by decide, xin 191 (by decide +kernel) rfl⟩
theorem fX6_24 : xFl RX6 24 6 4 RX6 TX6 5 tyX6 := ⟨clX6, by decide, xin 193 (by decide +kernel) rfl⟩
theorem fX7_9 : xFl RX7 9 7 0 RX7 TX7 14 tyX7 := ⟨clX7, by decide, xin 576 (by decide +kernel) rfl⟩
theorem fX7_15 : xFl RX7 15 7 1 RX7 TX7 14 tyX7 := ⟨clX7, by decide, xin 577 (by decide +kernel) rfl⟩
theorem fX7_18 : xFl RX7 18 7 2 RX7 TX7 14 tyX7 := ⟨clX7, by decide, xin 578 (by decide +kernel) rfl⟩
theorem fX7_21 : xFl RX7 21 7 3 RX7 TX7 14 tyX7 := ⟨clX7, by decide, xin 579 (by decide +kernel) rfl⟩
theorem fX7_24 : xFl RX7 24 7 4 RX7 TX7 14 tyX7 := ⟨clX7, by decide, xin 580 (by decide +kernel) rfl⟩
theorem fX7_27 : xFl RX7 27 7 5 RX7 TX7 14 tyX7 := ⟨clX7, by decide, xin 581 (by decide +kernel) rfl⟩
theorem fX7_30 : xFl RX7 30 7 6 RX7 TX7 14 tyX7 := ⟨clX7, by decide, xin 582 (by decide +kernel) rfl⟩
theorem fX7_33 : xFl RX7 33 7 7 RX7 TX7 14 tyX7 := ⟨clX7, by decide, xin 583 (by decide +kernel) rfl⟩
theorem fX7_36 : xFl RX7 36 7 8 RX7 TX7 14 tyX7 := ⟨clX7, by decide, xin 584 (by decide +kernel) rfl⟩
theorem fX7_39 : xFl RX7 39 7 9 RX7 TX7 14 tyX7 := ⟨clX7, by decide, xin 586 (by decide +kernel) rfl⟩
theorem fX7_43 : xFl RX7 43 7 10 RX7 TX7 14 tyX7 := ⟨clX7, by decide, xin 588 (by decide +kernel) rfl⟩
theorem fX7_46 : xFl RX7 46 7 11 RX7 TX7 14 tyX7 := ⟨clX7, by decide, xin 590 (by decide +kernel) rfl⟩
theorem fX7_49 : xFl RX7 49 7 12 RX7 TX7 14 tyX7 := ⟨clX7, by decide, xin 592 (by decide +kernel) rfl⟩
theorem fX7_52 : xFl RX7 52 7 13 RX7 TX7 14 tyX7 := ⟨clX7, by decide, xin 593 (by decide +kernel) rfl⟩
theorem fX7_55 : xFl RX7 55 6 4 RX6 TX6 5 tyX6 := ⟨clX6, by decide, xin 194 (by decide +kernel) rfl⟩
theorem fX7_67 : xFl RX7 67 6 1 RX6 TX6 5 tyX6 := ⟨clX6, by decide, xin 188 (by decide +kernel) rfl⟩
theorem fX7_70 : xFl RX7 70 6 2 RX6 TX6 5 tyX6 := ⟨clX6, by decide, xin 190 (by decide +kernel) rfl⟩
theorem fX7_73 : xFl RX7 73 6 3 RX6 TX6 5 tyX6 := ⟨clX6, by decide, xin 192 (by decide +kernel) rfl⟩
theorem fX7_76 : xFl RX7 76 6 0 RX6 TX6 5 tyX6 := ⟨clX6, by decide, xin 186 (by decide +kernel) rfl⟩
theorem fX9_7 : xFl RX9 7 9 0 RX9 TX9 46 tyX9 := ⟨clX9, by decide, xin 716 (by decide +kernel) rfl⟩
theorem fX9_13 : xFl RX9 13 9 1 RX9 TX9 46 tyX9 := ⟨clX9, by decide, xin 717 (by decide +kernel) rfl⟩
theorem fX9_16 : xFl RX9 16 9 2 RX9 TX9 46 tyX9 := ⟨clX9, by decide, xin 718 (by decide +kernel) rfl⟩
theorem fX9_19 : xFl RX9 19 9 3 RX9 TX9 46 tyX9 := ⟨clX9, by decide, xin 719 (by decide +kernel) rfl⟩
theorem fX9_22 : xFl RX9 22 9 4 RX9 TX9 46 tyX9 := ⟨clX9, by decide, xin 720 (by decide +kernel) rfl⟩
theorem fX9_25 : xFl RX9 25 9 5 RX9 TX9 46 tyX9 := ⟨clX9, by decide, xin 721 (by decide +kernel) rfl⟩
theorem fX9_28 : xFl RX9 28 9 6 RX9 TX9 46 tyX9 := ⟨clX9, by decide, xin 722 (by decide +kernel) rfl⟩
theorem fX9_31 : xFl RX9 31 9 7 RX9 TX9 46 tyX9 := ⟨clX9, by decide, xin 723 (by decide +kernel) rfl⟩
theorem fX9_34 : xFl RX9 34 9 8 RX9 TX9 46 tyX9 := ⟨clX9, by decide, xin 724 (by decide +kernel) rfl⟩
theorem fX9_37 : xFl RX9 37 9 9 RX9 TX9 46 tyX9 := ⟨clX9, by decide, xin 725 (by decide +kernel) rfl⟩
theorem fX9_40 : xFl RX9 40 9 10 RX9 TX9 46 tyX9 := ⟨clX9, by decide, xin 726 (by decide +kernel) rfl⟩
theorem fX9_44 : xFl RX9 44 9 11 RX9 TX9 46 tyX9 := ⟨clX9, by decide, xin 727 (by decide +kernel) rfl⟩
theorem fX9_47 : xFl RX9 47 9 13 RX9 TX9 46 tyX9 := ⟨clX9, by decide, xin 729 (by decide +kernel) rfl⟩
theorem fX9_50 : xFl RX9 50 9 14 RX9 TX9 46 tyX9 := ⟨clX9, by decide, xin 730 (by decide +kernel) rfl⟩
theorem fX9_53 : xFl RX9 53 9 15 RX9 TX9 46 tyX9 := ⟨clX9, by decide, xin 731 (by decide +kernel) rfl⟩
theorem fX9_56 : xFl RX9 56 9 16 RX9 TX9 46 tyX9 := ⟨clX9, by decide, xin 732 (by decide +kernel) rfl⟩
theorem fX9_59 : xFl RX9 59 9 19 RX9 TX9 46 tyX9 := ⟨clX9, by decide, xin 735 (by decide +kernel) rfl⟩
theorem fX9_62 : xFl RX9 62 9 20 RX9 TX9 46 tyX9 := ⟨clX9, by decide, xin 736 (by decide +kernel) rfl⟩
theorem fX9_65 : xFl RX9 65 9 21 RX9 TX9 46 tyX9 := ⟨clX9, by decide, xin 737 (by decide +kernel) rfl⟩
theorem fX9_68 : xFl RX9 68 9 22 RX9 TX9 46 tyX9 := ⟨clX9, by decide, xin 738 (by decide +kernel) rfl⟩
theorem fX9_71 : xFl RX9 71 9 23 RX9 TX9 46 tyX9 := ⟨clX9, by decide, xin 739 (by decide +kernel) rfl⟩
theorem fX9_74 : xFl RX9 74 9 24 RX9 TX9 46 tyX9 := ⟨clX9, by decide, xin 740 (by decide +kernel) rfl⟩
theorem fX9_77 : xFl RX9 77 9 25 RX9 TX9 46 tyX9 := ⟨clX9, by decide, xin 741 (by decide +kernel) rfl⟩
theorem fX9_80 : xFl RX9 80 9 26 RX9 TX9 46 tyX9 := ⟨clX9, by decide, xin 742 (by decide +kernel) rfl⟩
theorem fX9_83 : xFl RX9 83 9 27 RX9 TX9 46 tyX9 := ⟨clX9, by decide, xin 743 (by decide +kernel) rfl⟩
theorem fX9_86 : xFl RX9 86 9 28 RX9 TX9 46 tyX9 := ⟨clX9, by decide, xin 744 (by decide +kernel) rfl⟩
theorem fX9_89 : xFl RX9 89 9 29 RX9 TX9 46 tyX9 := ⟨clX9, by decide, xin 745 (by decide +kernel) rfl⟩
theorem fX9_92 : xFl RX9 92 9 30 RX9 TX9 46 tyX9 := ⟨clX9, by decide, xin 746 (by decide +kernel) rfl⟩
theorem fX9_95 : xFl RX9 95 9 31 RX9 TX9 46 tyX9 := ⟨clX9, by decide, xin 747 (by decide +kernel) rfl⟩
theorem fX9_98 : xFl RX9 98 9 36 RX9 TX9 46 tyX9 := ⟨clX9, by decide, xin 752 (by decide +kernel) rfl⟩
theorem fX9_101 : xFl RX9 101 9 37 RX9 TX9 46 tyX9 := ⟨clX9, by decide, xin 753 (by decide +kernel) rfl⟩
theorem fX9_104 : xFl RX9 104 9 38 RX9 TX9 46 tyX9 := ⟨clX9, by decide, xin 754 (by decide +kernel) rfl⟩
theorem fX9_107 : xFl RX9 107 9 39 RX9 TX9 46 tyX9 := ⟨clX9, by decide, xin 755 (by decide +kernel) rfl⟩
theorem fX9_110 : xFl RX9 110 9 40 RX9 TX9 46 tyX9 := ⟨clX9, by decide, xin 756 (by decide +kernel) rfl⟩
theorem fX9_113 : xFl RX9 113 9 41 RX9 TX9 46 tyX9 := ⟨clX9, by decide, xin 757 (by decide +kernel) rfl⟩
theorem fX9_116 : xFl RX9 116 9 42 RX9 TX9 46 tyX9 := ⟨clX9, by decide, xin 758 (by decide +kernel) rfl⟩
theorem fX9_119 : xFl RX9 119 9 44 RX9 TX9 46 tyX9 := ⟨clX9, by decide, xin 760 (by decide +kernel) rfl⟩
theorem fX9_122 : xFl RX9 122 9 45 RX9 TX9 46 tyX9 := ⟨clX9, by decide, xin 761 (by decide +kernel) rfl⟩
theorem fX9_142 : xFl RX9 142 9 12 RX9 TX9 46 tyX9 := ⟨clX9, by decide, xin 728 (by decide +kernel) rfl⟩
theorem fX9_198 : xFl RX9 198 9 17 RX9 TX9 46 tyX9 := ⟨clX9, by decide, xin 733 (by decide +kernel) rfl⟩
theorem fX9_202 : xFl RX9 202 9 18 RX9 TX9 46 tyX9 := ⟨clX9, by decide, xin 734 (by decide +kernel) rfl⟩
theorem fX9_211 : xFl RX9 211 9 32 RX9 TX9 46 tyX9 := ⟨clX9, by decide, xin 748 (by decide +kernel) rfl⟩
theorem fX9_214 : xFl RX9 214 9 33 RX9 TX9 46 tyX9 := ⟨clX9, by decide, xin 749 (by decide +kernel) rfl⟩
theorem fX9_217 : xFl RX9 217 9 34 RX9 TX9 46 tyX9 := ⟨clX9, by decide, xin 750 (by decide +kernel) rfl⟩
theorem fX9_227 : xFl RX9 227 9 35 RX9 TX9 46 tyX9 := ⟨clX9, by decide, xin 751 (by decide +kernel) rfl⟩
theorem fX9_233 : xFl RX9 233 9 43 RX9 TX9 46 tyX9 := ⟨clX9, by decide, xin 759 (by decide +kernel) rfl⟩
theorem nX8_17 : xNw RX8 17 1 RX1 TX1 14 tyX1 := ⟨clX1, xin 21 (by decide +kernel) rfl, xin 22 (by decide +kernel) rfl, xin 2 (by decide +kernel) rfl⟩
theorem nlX8_17 : Cond.classLink RX8 17 RX1 ∈ xT := xin 21 (by decide +kernel) rfl
theorem nX8_24 : xNw RX8 24 4 RX4 TX4 5 tyX4 := ⟨clX4, xin 78 (by decide +kernel) rfl, xin 80 (by decide +kernel) rfl, xin 3 (by decide +kernel) rfl⟩
theorem nlX8_24 : Cond.classLink RX8 24 RX4 ∈ xT := xin 78 (by decide +kernel) rfl
theorem nX8_31 : xNw RX8 31 5 RX5 TX5 9 tyX5 := ⟨clX5, xin 111 (by decide +kernel) rfl, xin 112 (by decide +kernel) rfl, xin 4 (by decide +kernel) rfl⟩
theorem nlX8_31 : Cond.classLink RX8 31 RX5 ∈ xT := xin 111 (by decide +kernel) rfl
theorem nX8_41 : xNw RX8 41 2 RX2 TX2 5 tyX2 := ⟨clX2, xin 154 (by decide +kernel) rfl, xin 155 (by decide +kernel) rfl, xin 5 (by decide +kernel) rfl⟩
theorem nlX8_41 : Cond.classLink RX8 41 RX2 ∈ xT := xin 154 (by decide +kernel) rfl
theorem nX8_48 : xNw RX8 48 6 RX6 TX6 5 tyX6 := ⟨clX6, xin 179 (by decide +kernel) rfl, xin 180 (by decide +kernel) rfl, xin 6 (by decide +kernel) rfl⟩
theorem nlX8_48 : Cond.classLink RX8 48 RX6 ∈ xT := xin 179 (by decide +kernel) rfl
theorem nX8_55 : xNw RX8 55 0 RX0 TX0 3 tyX0 := ⟨clX0, xin 207 (by decide +kernel) rfl, xin 208 (by decide +kernel) rfl, xin 7 (by decide +kernel) rfl⟩
theorem nlX8_55 : Cond.classLink RX8 55 RX0 ∈ xT := xin 207 (by decide +kernel) rfl
theorem nX8_216 : xNw RX8 216 7 RX7 TX7 14 tyX7 := ⟨clX7, xin 570 (by decide +kernel) rfl, xin 571 (by decide +kernel) rfl, xin 12 (by decide +kernel) rfl⟩
theorem nlX8_216 : Cond.classLink RX8 216 RX7 ∈ xT := xin 570 (by decide +kernel) rfl
theorem nX8_260 : xNw RX8 260 3 RX3 TX3 7 tyX3 := ⟨clX3, xin 364 (by decide +kernel) rfl, xin 365 (by decide +kernel) rfl, xin 11 (by decide +kernel) rfl⟩
theorem nlX8_260 : Cond.classLink RX8 260 RX3 ∈ xT := xin 364 (by decide +kernel) rfl
theorem nL_7 : xNw RL 7 8 RX8 TX8 10 tyX8 := ⟨clX8, xin 13 (by decide +kernel) rfl, xin 14 (by decide +kernel) rfl, xin 1 (by decide +kernel) rfl⟩
theorem nlL_7 : Cond.classLink RL 7 RX8 ∈ xT := xin 13 (by decide +kernel) rfl
theorem nL_10 : xNw RL 10 9 RX9 TX9 46 tyX9 := ⟨clX9, xin 710 (by decide +kernel) rfl, xin 711 (by decide +kernel) rfl, xin 8 (by decide +kernel) rfl⟩
theorem nlL_10 : Cond.classLink RL 10 RX9 ∈ xT := xin 710 (by decide +kernel) rfl
theorem kX8_168 : Cond.constant RX8 168 (80001) ∈ xT := xin 495 (by decide +kernel) rfl
theorem kX8_172 : Cond.constant RX8 172 (80000) ∈ xT := xin 481 (by decide +kernel) rfl
theorem kX3_99 : Cond.constant RX3 99 (1000000) ∈ xT := xin 431 (by decide +kernel) rfl
theorem kX5_40 : Cond.constant RX5 40 (80001) ∈ xT := xin 486 (by decide +kernel) rfl
theorem kX9_141 : Cond.constant RX9 141 (1048576) ∈ xT := xin 885 (by decide +kernel) rfl
theorem kX9_173 : Cond.constant RX9 173 (1000000) ∈ xT := xin 942 (by decide +kernel) rfl
theorem kX9_194 : Cond.constant RX9 194 (80000) ∈ xT := xin 975 (by decide +kernel) rfl
theorem kX9_201 : Cond.constant RX9 201 (1000000000) ∈ xT := xin 976 (by decide +kernel) rfl
theorem kJ6_265 : Cond.constant RJ6 265 (1431655765) ∈ xT := xin 350 (by decide +kernel) rfl
theorem kJ6_266 : Cond.constant RJ6 266 (858993459) ∈ xT := xin 351 (by decide +kernel) rfl
theorem kJ6_267 : Cond.constant RJ6 267 (252645135) ∈ xT := xin 352 (by decide +kernel) rfl
set_option maxRecDepth 20000 in
theorem mX8_init : xMd yX8_init cX8_init 2 none 0 := ⟨xin 17 rfl rfl, xin 1 (by decide +kernel) rfl, ⟨by decide, by decide, by decide +kernel⟩, by decide⟩
theorem vX8_init : yX8_init.name = "<init>" ∧ Cond.instanceMethod yX8_init ∈ xT := ⟨rfl, xin 16 (by decide +kernel) rfl⟩
set_option maxRecDepth 20000 in
theorem mX1_init : xMd yX1_init cX1_init 2 none 0 := ⟨xin 25 rfl rfl, xin 2 (by decide +kernel) rfl, ⟨by decide, by decide, by decide +kernel⟩, by decide⟩
theorem vX1_init : yX1_init.name = "<init>" ∧ Cond.instanceMethod yX1_init ∈ xT := ⟨rfl, xin 24 (by decide +kernel) rfl⟩
set_option maxRecDepth 20000 in
theorem mX4_init : xMd yX4_init cX4_init 1 none 0 := ⟨xin 83 rfl rfl, xin 3 (by decide +kernel) rfl, ⟨by decide, by decide, by decide +kernel⟩, by decide⟩
theorem vX4_init : yX4_init.name = "<init>" ∧ Cond.instanceMethod yX4_init ∈ xT := ⟨rfl, xin 82 (by decide +kernel) rfl⟩
set_option maxRecDepth 20000 in
theorem mX5_init : xMd yX5_init cX5_init 1 none 0 := ⟨xin 115 rfl rfl, xin 4 (by decide +kernel) rfl, ⟨by decide, by decide, by decide +kernel⟩, by decide⟩
theorem vX5_init : yX5_init.name = "<init>" ∧ Cond.instanceMethod yX5_init ∈ xT := ⟨rfl, xin 114 (by decide +kernel) rfl⟩
set_option maxRecDepth 20000 in
theorem mX2_init : xMd yX2_init cX2_init 1 none 0 := ⟨xin 158 rfl rfl, xin 5 (by decide +kernel) rfl, ⟨by decide, by decide, by decide +kernel⟩, by decide⟩
theorem vX2_init : yX2_init.name = "<init>" ∧ Cond.instanceMethod yX2_init ∈ xT := ⟨rfl, xin 157 (by decide +kernel) rfl⟩
set_option maxRecDepth 20000 in
theorem mX6_init : xMd yX6_init cX6_init 1 none 0 := ⟨xin 183 rfl rfl, xin 6 (by decide +kernel) rfl, ⟨by decide, by decide, by decide +kernel⟩, by decide⟩
theorem vX6_init : yX6_init.name = "<init>" ∧ Cond.instanceMethod yX6_init ∈ xT := ⟨rfl, xin 182 (by decide +kernel) rfl⟩
set_option maxRecDepth 20000 in
theorem mX0_init : xMd yX0_init cX0_init 1 none 0 := ⟨xin 211 rfl rfl, xin 7 (by decide +kernel) rfl, ⟨by decide, by decide, by decide +kernel⟩, by decide⟩
theorem vX0_init : yX0_init.name = "<init>" ∧ Cond.instanceMethod yX0_init ∈ xT := ⟨rfl, xin 210 (by decide +kernel) rfl⟩
set_option maxRecDepth 20000 in
theorem mX8_means : xMd yX8_means cX8_means 3 (some .int) 2 := ⟨xin 258 rfl rfl, xin 1 (by decide +kernel) rfl, ⟨by decide, by decide, by decide +kernel⟩, by decide⟩
theorem vX8_means : Cond.instanceMethod yX8_means ∈ xT ∧ Cond.selects yX8_means.cls yX8_means yX8_means ∈ xT := ⟨xin 256 (by decide +kernel) rfl, xin 257 (by decide +kernel) rfl⟩
set_option maxRecDepth 20000 in
theorem mX8_isWord : xMd yX8_isWord cX8_isWord 1 (some .boolean) 1 := ⟨xin 261 rfl rfl, xin 1 (by decide +kernel) rfl, ⟨by decide, by decide, by decide +kernel⟩, by decide⟩
theorem sX8_isWord : Cond.static yX8_isWord ∈ xT := xin 260 (by decide +kernel) rfl
set_option maxRecDepth 20000 in
theorem mX8_refuse : xMd yX8_refuse cX8_refuse 2 (some .int) 1 := ⟨xin 265 rfl rfl, xin 1 (by decide +kernel) rfl, ⟨by decide, by decide, by decide +kernel⟩, by decide⟩
theorem vX8_refuse : Cond.instanceMethod yX8_refuse ∈ xT ∧ Cond.selects yX8_refuse.cls yX8_refuse yX8_refuse ∈ xT := ⟨xin 264 (by decide +kernel) rfl, xins 0 (by decide +kernel) rfl⟩
set_option maxRecDepth 20000 in
theorem mX1_tellMeaning : xMd yX1_tellMeaning cX1_tellMeaning 5 (some .int) 2 := ⟨xin 269 rfl rfl, xin 2 (by decide +kernel) rfl, ⟨by decide, by decide, by decide +kernel⟩, by decide⟩
theorem vX1_tellMeaning : Cond.instanceMethod yX1_tellMeaning ∈ xT ∧ Cond.selects yX1_tellMeaning.cls yX1_tellMeaning yX1_tellMeaning ∈ xT := ⟨xin 267 (by decide +kernel) rfl, xin 268 (by decide +kernel) rfl⟩
set_option maxRecDepth 20000 in
theorem mX1_sensesOf : xMd yX1_sensesOf cX1_sensesOf 4 (some .int) 1 := ⟨xin 273 rfl rfl, xin 2 (by decide +kernel) rfl, ⟨by decide, by decide, by decide +kernel⟩, by decide⟩
theorem vX1_sensesOf : Cond.instanceMethod yX1_sensesOf ∈ xT ∧ Cond.selects yX1_sensesOf.cls yX1_sensesOf yX1_sensesOf ∈ xT := ⟨xin 272 (by decide +kernel) rfl, xins 1 (by decide +kernel) rfl⟩
set_option maxRecDepth 20000 in
theorem mX8_sense : xMd yX8_sense cX8_sense 2 (some .int) 1 := ⟨xin 277 rfl rfl, xin 1 (by decide +kernel) rfl, ⟨by decide, by decide, by decide +kernel⟩, by decide⟩
theorem vX8_sense : Cond.instanceMethod yX8_sense ∈ xT ∧ Cond.selects yX8_sense.cls yX8_sense yX8_sense ∈ xT := ⟨xin 275 (by decide +kernel) rfl, xin 276 (by decide +kernel) rfl⟩
set_option maxRecDepth 20000 in
theorem mX8_year : xMd yX8_year cX8_year 3 (some .int) 2 := ⟨xin 281 rfl rfl, xin 1 (by decide +kernel) rfl, ⟨by decide, by decide, by decide +kernel⟩, by decide⟩
theorem vX8_year : Cond.instanceMethod yX8_year ∈ xT ∧ Cond.selects yX8_year.cls yX8_year yX8_year ∈ xT := ⟨xin 279 (by decide +kernel) rfl, xin 280 (by decide +kernel) rfl⟩
set_option maxRecDepth 20000 in
theorem mX8_isCatalogue : xMd yX8_isCatalogue cX8_isCatalogue 1 (some .boolean) 1 := ⟨xin 284 rfl rfl, xin 1 (by decide +kernel) rfl, ⟨by decide, by decide, by decide +kernel⟩, by decide⟩
theorem sX8_isCatalogue : Cond.static yX8_isCatalogue ∈ xT := xin 283 (by decide +kernel) rfl
set_option maxRecDepth 20000 in
theorem mX1_tellYear : xMd yX1_tellYear cX1_tellYear 4 (some .int) 2 := ⟨xin 288 rfl rfl, xin 2 (by decide +kernel) rfl, ⟨by decide, by decide, by decide +kernel⟩, by decide⟩
theorem vX1_tellYear : Cond.instanceMethod yX1_tellYear ∈ xT ∧ Cond.selects yX1_tellYear.cls yX1_tellYear yX1_tellYear ∈ xT := ⟨xin 286 (by decide +kernel) rfl, xin 287 (by decide +kernel) rfl⟩
set_option maxRecDepth 20000 in
theorem mX8_entry : xMd yX8_entry cX8_entry 6 (some .int) 5 := ⟨xin 292 rfl rfl, xin 1 (by decide +kernel) rfl, ⟨by decide, by decide, by decide +kernel⟩, by decide⟩
theorem vX8_entry : Cond.instanceMethod yX8_entry ∈ xT ∧ Cond.selects yX8_entry.cls yX8_entry yX8_entry ∈ xT := ⟨xin 290 (by decide +kernel) rfl, xin 291 (by decide +kernel) rfl⟩
set_option maxRecDepth 20000 in
theorem mX8_hasOtherBits : xMd yX8_hasOtherBits cX8_hasOtherBits 2 (some .boolean) 2 := ⟨xin 295 rfl rfl, xin 1 (by decide +kernel) rfl, ⟨by decide, by decide, by decide +kernel⟩, by decide⟩
theorem sX8_hasOtherBits : Cond.static yX8_hasOtherBits ∈ xT := xin 294 (by decide +kernel) rfl
set_option maxRecDepth 20000 in
theorem mX1_addEntry : xMd yX1_addEntry cX1_addEntry 8 (some .int) 5 := ⟨xin 299 rfl rfl, xin 2 (by decide +kernel) rfl, ⟨by decide, by decide, by decide +kernel⟩, by decide⟩
theorem vX1_addEntry : Cond.instanceMethod yX1_addEntry ∈ xT ∧ Cond.selects yX1_addEntry.cls yX1_addEntry yX1_addEntry ∈ xT := ⟨xin 297 (by decide +kernel) rfl, xin 298 (by decide +kernel) rfl⟩
set_option maxRecDepth 20000 in
theorem mX8_set : xMd yX8_set cX8_set 3 (some .int) 2 := ⟨xin 303 rfl rfl, xin 1 (by decide +kernel) rfl, ⟨by decide, by decide, by decide +kernel⟩, by decide⟩
theorem vX8_set : Cond.instanceMethod yX8_set ∈ xT ∧ Cond.selects yX8_set.cls yX8_set yX8_set ∈ xT := ⟨xin 301 (by decide +kernel) rfl, xin 302 (by decide +kernel) rfl⟩
set_option maxRecDepth 20000 in
theorem mX1_tellSpare : xMd yX1_tellSpare cX1_tellSpare 3 (some .int) 1 := ⟨xin 307 rfl rfl, xin 2 (by decide +kernel) rfl, ⟨by decide, by decide, by decide +kernel⟩, by decide⟩
theorem vX1_tellSpare : Cond.instanceMethod yX1_tellSpare ∈ xT ∧ Cond.selects yX1_tellSpare.cls yX1_tellSpare yX1_tellSpare ∈ xT := ⟨xin 305 (by decide +kernel) rfl, xin 306 (by decide +kernel) rfl⟩
set_option maxRecDepth 20000 in
theorem mX1_tellFade : xMd yX1_tellFade cX1_tellFade 3 (some .int) 1 := ⟨xin 311 rfl rfl, xin 2 (by decide +kernel) rfl, ⟨by decide, by decide, by decide +kernel⟩, by decide⟩
theorem vX1_tellFade : Cond.instanceMethod yX1_tellFade ∈ xT ∧ Cond.selects yX1_tellFade.cls yX1_tellFade yX1_tellFade ∈ xT := ⟨xin 309 (by decide +kernel) rfl, xin 310 (by decide +kernel) rfl⟩
set_option maxRecDepth 20000 in
theorem mX8_bar : xMd yX8_bar cX8_bar 7 (some .int) 4 := ⟨xin 315 rfl rfl, xin 1 (by decide +kernel) rfl, ⟨by decide, by decide, by decide +kernel⟩, by decide⟩
theorem vX8_bar : Cond.instanceMethod yX8_bar ∈ xT ∧ Cond.selects yX8_bar.cls yX8_bar yX8_bar ∈ xT := ⟨xin 313 (by decide +kernel) rfl, xin 314 (by decide +kernel) rfl⟩
set_option maxRecDepth 20000 in
theorem mX8_areTwo : xMd yX8_areTwo cX8_areTwo 2 (some .boolean) 2 := ⟨xin 318 rfl rfl, xin 1 (by decide +kernel) rfl, ⟨by decide, by decide, by decide +kernel⟩, by decide⟩
theorem sX8_areTwo : Cond.static yX8_areTwo ∈ xT := xin 317 (by decide +kernel) rfl
set_option maxRecDepth 20000 in
theorem mX8_isEntry : xMd yX8_isEntry cX8_isEntry 3 (some .boolean) 2 := ⟨xin 322 rfl rfl, xin 1 (by decide +kernel) rfl, ⟨by decide, by decide, by decide +kernel⟩, by decide⟩
theorem vX8_isEntry : Cond.instanceMethod yX8_isEntry ∈ xT ∧ Cond.selects yX8_isEntry.cls yX8_isEntry yX8_isEntry ∈ xT := ⟨xin 321 (by decide +kernel) rfl, xins 2 (by decide +kernel) rfl⟩
set_option maxRecDepth 20000 in
theorem mX1_isBarTold : xMd yX1_isBarTold cX1_isBarTold 3 (some .boolean) 2 := ⟨xin 326 rfl rfl, xin 2 (by decide +kernel) rfl, ⟨by decide, by decide, by decide +kernel⟩, by decide⟩
theorem vX1_isBarTold : Cond.instanceMethod yX1_isBarTold ∈ xT ∧ Cond.selects yX1_isBarTold.cls yX1_isBarTold yX1_isBarTold ∈ xT := ⟨xin 324 (by decide +kernel) rfl, xin 325 (by decide +kernel) rfl⟩
set_option maxRecDepth 20000 in
theorem mX1_tellBar : xMd yX1_tellBar cX1_tellBar 3 none 2 := ⟨xin 330 rfl rfl, xin 2 (by decide +kernel) rfl, ⟨by decide, by decide, by decide +kernel⟩, by decide⟩
theorem vX1_tellBar : Cond.instanceMethod yX1_tellBar ∈ xT ∧ Cond.selects yX1_tellBar.cls yX1_tellBar yX1_tellBar ∈ xT := ⟨xin 328 (by decide +kernel) rfl, xin 329 (by decide +kernel) rfl⟩
set_option maxRecDepth 20000 in
theorem mX8_like : xMd yX8_like cX8_like 5 (some .int) 4 := ⟨xin 334 rfl rfl, xin 1 (by decide +kernel) rfl, ⟨by decide, by decide, by decide +kernel⟩, by decide⟩
theorem vX8_like : Cond.instanceMethod yX8_like ∈ xT ∧ Cond.selects yX8_like.cls yX8_like yX8_like ∈ xT := ⟨xin 332 (by decide +kernel) rfl, xin 333 (by decide +kernel) rfl⟩
set_option maxRecDepth 20000 in
theorem mX1_likeness : xMd yX1_likeness cX1_likeness 6 (some .int) 2 := ⟨xin 338 rfl rfl, xin 2 (by decide +kernel) rfl, ⟨by decide, by decide, by decide +kernel⟩, by decide⟩
theorem vX1_likeness : Cond.instanceMethod yX1_likeness ∈ xT ∧ Cond.selects yX1_likeness.cls yX1_likeness yX1_likeness ∈ xT := ⟨xin 336 (by decide +kernel) rfl, xin 337 (by decide +kernel) rfl⟩
set_option maxRecDepth 20000 in
theorem mJ9_abs_0f7a4 : xMd yJ9_abs_0f7a4 cJ9_abs_0f7a4 1 (some .int) 1 := ⟨xin 341 rfl rfl, xin 9 (by decide +kernel) rfl, ⟨by decide, by decide, by decide +kernel⟩, by decide⟩
theorem sJ9_abs_0f7a4 : Cond.static yJ9_abs_0f7a4 ∈ xT := xin 340 (by decide +kernel) rfl
set_option maxRecDepth 20000 in
theorem mX1_fadesAsItMay : xMd yX1_fadesAsItMay cX1_fadesAsItMay 8 (some .boolean) 2 := ⟨xin 346 rfl rfl, xin 2 (by decide +kernel) rfl, ⟨by decide, by decide, by decide +kernel⟩, by decide⟩
theorem vX1_fadesAsItMay : Cond.instanceMethod yX1_fadesAsItMay ∈ xT ∧ Cond.selects yX1_fadesAsItMay.cls yX1_fadesAsItMay yX1_fadesAsItMay ∈ xT := ⟨xin 345 (by decide +kernel) rfl, xins 3 (by decide +kernel) rfl⟩
set_option maxRecDepth 20000 in
theorem mJ6_bitCount_0f7a4 : xMd yJ6_bitCount_0f7a4 cJ6_bitCount_0f7a4 1 (some .int) 1 := ⟨xin 349 rfl rfl, xin 10 (by decide +kernel) rfl, ⟨by decide, by decide, by decide +kernel⟩, by decide⟩
theorem sJ6_bitCount_0f7a4 : Cond.static yJ6_bitCount_0f7a4 ∈ xT := xin 348 (by decide +kernel) rfl
set_option maxRecDepth 20000 in
theorem mJ9_max_7cf53 : xMd yJ9_max_7cf53 cJ9_max_7cf53 2 (some .int) 2 := ⟨xin 355 rfl rfl, xin 9 (by decide +kernel) rfl, ⟨by decide, by decide, by decide +kernel⟩, by decide⟩
theorem sJ9_max_7cf53 : Cond.static yJ9_max_7cf53 ∈ xT := xin 354 (by decide +kernel) rfl
set_option maxRecDepth 20000 in
theorem mX8_join : xMd yX8_join cX8_join 3 (some .int) 2 := ⟨xin 359 rfl rfl, xin 1 (by decide +kernel) rfl, ⟨by decide, by decide, by decide +kernel⟩, by decide⟩
theorem vX8_join : Cond.instanceMethod yX8_join ∈ xT ∧ Cond.selects yX8_join.cls yX8_join yX8_join ∈ xT := ⟨xin 357 (by decide +kernel) rfl, xin 358 (by decide +kernel) rfl⟩
set_option maxRecDepth 20000 in
theorem mX8_bestJoining : xMd yX8_bestJoining cX8_bestJoining 4 (some (.object RX4)) 2 := ⟨xin 363 rfl rfl, xin 1 (by decide +kernel) rfl, ⟨by decide, by decide, by decide +kernel⟩, by decide⟩
theorem vX8_bestJoining : Cond.instanceMethod yX8_bestJoining ∈ xT ∧ Cond.selects yX8_bestJoining.cls yX8_bestJoining yX8_bestJoining ∈ xT := ⟨xin 362 (by decide +kernel) rfl, xins 4 (by decide +kernel) rfl⟩
set_option maxRecDepth 20000 in
theorem mX3_init : xMd yX3_init cX3_init 1 none 0 := ⟨xin 368 rfl rfl, xin 11 (by decide +kernel) rfl, ⟨by decide, by decide, by decide +kernel⟩, by decide⟩
theorem vX3_init : yX3_init.name = "<init>" ∧ Cond.instanceMethod yX3_init ∈ xT := ⟨rfl, xin 367 (by decide +kernel) rfl⟩
set_option maxRecDepth 20000 in
theorem mX3_solve : xMd yX3_solve cX3_solve 5 none 4 := ⟨xin 395 rfl rfl, xin 11 (by decide +kernel) rfl, ⟨by decide, by decide, by decide +kernel⟩, by decide⟩
theorem vX3_solve : Cond.instanceMethod yX3_solve ∈ xT ∧ Cond.selects yX3_solve.cls yX3_solve yX3_solve ∈ xT := ⟨xin 393 (by decide +kernel) rfl, xin 394 (by decide +kernel) rfl⟩
set_option maxRecDepth 20000 in
theorem mX3_readLikes : xMd yX3_readLikes cX3_readLikes 8 none 3 := ⟨xin 399 rfl rfl, xin 11 (by decide +kernel) rfl, ⟨by decide, by decide, by decide +kernel⟩, by decide⟩
theorem vX3_readLikes : Cond.instanceMethod yX3_readLikes ∈ xT ∧ Cond.selects yX3_readLikes.cls yX3_readLikes yX3_readLikes ∈ xT := ⟨xin 398 (by decide +kernel) rfl, xins 5 (by decide +kernel) rfl⟩
set_option maxRecDepth 20000 in
theorem mX3_weighStates : xMd yX3_weighStates cX3_weighStates 4 none 0 := ⟨xin 404 rfl rfl, xin 11 (by decide +kernel) rfl, ⟨by decide, by decide, by decide +kernel⟩, by decide⟩
theorem vX3_weighStates : Cond.instanceMethod yX3_weighStates ∈ xT ∧ Cond.selects yX3_weighStates.cls yX3_weighStates yX3_weighStates ∈ xT := ⟨xin 403 (by decide +kernel) rfl, xins 6 (by decide +kernel) rfl⟩
set_option maxRecDepth 20000 in
theorem mX3_weighState : xMd yX3_weighState cX3_weighState 5 (some .int) 2 := ⟨xin 409 rfl rfl, xin 11 (by decide +kernel) rfl, ⟨by decide, by decide, by decide +kernel⟩, by decide⟩
theorem vX3_weighState : Cond.instanceMethod yX3_weighState ∈ xT ∧ Cond.selects yX3_weighState.cls yX3_weighState yX3_weighState ∈ xT := ⟨xin 408 (by decide +kernel) rfl, xins 7 (by decide +kernel) rfl⟩
set_option maxRecDepth 20000 in
theorem mX3_valueOf : xMd yX3_valueOf cX3_valueOf 5 (some .int) 3 := ⟨xin 413 rfl rfl, xin 11 (by decide +kernel) rfl, ⟨by decide, by decide, by decide +kernel⟩, by decide⟩
theorem vX3_valueOf : Cond.instanceMethod yX3_valueOf ∈ xT ∧ Cond.selects yX3_valueOf.cls yX3_valueOf yX3_valueOf ∈ xT := ⟨xin 412 (by decide +kernel) rfl, xins 8 (by decide +kernel) rfl⟩
set_option maxRecDepth 20000 in
theorem mX3_tellFirst : xMd yX3_tellFirst cX3_tellFirst 6 none 1 := ⟨xin 418 rfl rfl, xin 11 (by decide +kernel) rfl, ⟨by decide, by decide, by decide +kernel⟩, by decide⟩
theorem vX3_tellFirst : Cond.instanceMethod yX3_tellFirst ∈ xT ∧ Cond.selects yX3_tellFirst.cls yX3_tellFirst yX3_tellFirst ∈ xT := ⟨xin 417 (by decide +kernel) rfl, xins 9 (by decide +kernel) rfl⟩
set_option maxRecDepth 20000 in
theorem mX3_tellWays : xMd yX3_tellWays cX3_tellWays 6 none 1 := ⟨xin 422 rfl rfl, xin 11 (by decide +kernel) rfl, ⟨by decide, by decide, by decide +kernel⟩, by decide⟩
theorem vX3_tellWays : Cond.instanceMethod yX3_tellWays ∈ xT ∧ Cond.selects yX3_tellWays.cls yX3_tellWays yX3_tellWays ∈ xT := ⟨xin 421 (by decide +kernel) rfl, xins 10 (by decide +kernel) rfl⟩
set_option maxRecDepth 20000 in
theorem mX3_passOn : xMd yX3_passOn cX3_passOn 6 (some .int) 2 := ⟨xin 426 rfl rfl, xin 11 (by decide +kernel) rfl, ⟨by decide, by decide, by decide +kernel⟩, by decide⟩
theorem vX3_passOn : Cond.instanceMethod yX3_passOn ∈ xT ∧ Cond.selects yX3_passOn.cls yX3_passOn yX3_passOn ∈ xT := ⟨xin 425 (by decide +kernel) rfl, xins 11 (by decide +kernel) rfl⟩
set_option maxRecDepth 20000 in
theorem mX3_addWays : xMd yX3_addWays cX3_addWays 3 none 2 := ⟨xin 430 rfl rfl, xin 11 (by decide +kernel) rfl, ⟨by decide, by decide, by decide +kernel⟩, by decide⟩
theorem vX3_addWays : Cond.instanceMethod yX3_addWays ∈ xT ∧ Cond.selects yX3_addWays.cls yX3_addWays yX3_addWays ∈ xT := ⟨xin 429 (by decide +kernel) rfl, xins 12 (by decide +kernel) rfl⟩
set_option maxRecDepth 20000 in
theorem mJ9_min_7cf53 : xMd yJ9_min_7cf53 cJ9_min_7cf53 2 (some .int) 2 := ⟨xin 434 rfl rfl, xin 9 (by decide +kernel) rfl, ⟨by decide, by decide, by decide +kernel⟩, by decide⟩
theorem sJ9_min_7cf53 : Cond.static yJ9_min_7cf53 ∈ xT := xin 433 (by decide +kernel) rfl
set_option maxRecDepth 20000 in
theorem mX3_sumWays : xMd yX3_sumWays cX3_sumWays 4 (some .int) 1 := ⟨xin 438 rfl rfl, xin 11 (by decide +kernel) rfl, ⟨by decide, by decide, by decide +kernel⟩, by decide⟩
theorem vX3_sumWays : Cond.instanceMethod yX3_sumWays ∈ xT ∧ Cond.selects yX3_sumWays.cls yX3_sumWays yX3_sumWays ∈ xT := ⟨xin 437 (by decide +kernel) rfl, xins 13 (by decide +kernel) rfl⟩
set_option maxRecDepth 20000 in
theorem mX8_joined : xMd yX8_joined cX8_joined 4 (some .int) 3 := ⟨xin 442 rfl rfl, xin 1 (by decide +kernel) rfl, ⟨by decide, by decide, by decide +kernel⟩, by decide⟩
theorem vX8_joined : Cond.instanceMethod yX8_joined ∈ xT ∧ Cond.selects yX8_joined.cls yX8_joined yX8_joined ∈ xT := ⟨xin 440 (by decide +kernel) rfl, xin 441 (by decide +kernel) rfl⟩
set_option maxRecDepth 20000 in
theorem mX8_bests : xMd yX8_bests cX8_bests 3 (some .int) 2 := ⟨xin 446 rfl rfl, xin 1 (by decide +kernel) rfl, ⟨by decide, by decide, by decide +kernel⟩, by decide⟩
theorem vX8_bests : Cond.instanceMethod yX8_bests ∈ xT ∧ Cond.selects yX8_bests.cls yX8_bests yX8_bests ∈ xT := ⟨xin 444 (by decide +kernel) rfl, xin 445 (by decide +kernel) rfl⟩
set_option maxRecDepth 20000 in
theorem mX8_sure : xMd yX8_sure cX8_sure 4 (some .int) 3 := ⟨xin 450 rfl rfl, xin 1 (by decide +kernel) rfl, ⟨by decide, by decide, by decide +kernel⟩, by decide⟩
theorem vX8_sure : Cond.instanceMethod yX8_sure ∈ xT ∧ Cond.selects yX8_sure.cls yX8_sure yX8_sure ∈ xT := ⟨xin 448 (by decide +kernel) rfl, xin 449 (by decide +kernel) rfl⟩
set_option maxRecDepth 20000 in
theorem mX8_chain : xMd yX8_chain cX8_chain 5 (some .int) 4 := ⟨xin 454 rfl rfl, xin 1 (by decide +kernel) rfl, ⟨by decide, by decide, by decide +kernel⟩, by decide⟩
theorem vX8_chain : Cond.instanceMethod yX8_chain ∈ xT ∧ Cond.selects yX8_chain.cls yX8_chain yX8_chain ∈ xT := ⟨xin 452 (by decide +kernel) rfl, xin 453 (by decide +kernel) rfl⟩
set_option maxRecDepth 20000 in
theorem mX8_isWay : xMd yX8_isWay cX8_isWay 5 (some .boolean) 2 := ⟨xin 457 rfl rfl, xin 1 (by decide +kernel) rfl, ⟨by decide, by decide, by decide +kernel⟩, by decide⟩
theorem sX8_isWay : Cond.static yX8_isWay ∈ xT := xin 456 (by decide +kernel) rfl
set_option maxRecDepth 20000 in
theorem mX8_followChain : xMd yX8_followChain cX8_followChain 14 (some .int) 4 := ⟨xin 461 rfl rfl, xin 1 (by decide +kernel) rfl, ⟨by decide, by decide, by decide +kernel⟩, by decide⟩
theorem vX8_followChain : Cond.instanceMethod yX8_followChain ∈ xT ∧ Cond.selects yX8_followChain.cls yX8_followChain yX8_followChain ∈ xT := ⟨xin 460 (by decide +kernel) rfl, xins 14 (by decide +kernel) rfl⟩
set_option maxRecDepth 20000 in
theorem mX8_copied : xMd yX8_copied cX8_copied 6 (some .int) 3 := ⟨xin 466 rfl rfl, xin 1 (by decide +kernel) rfl, ⟨by decide, by decide, by decide +kernel⟩, by decide⟩
theorem vX8_copied : Cond.instanceMethod yX8_copied ∈ xT ∧ Cond.selects yX8_copied.cls yX8_copied yX8_copied ∈ xT := ⟨xin 464 (by decide +kernel) rfl, xin 465 (by decide +kernel) rfl⟩
set_option maxRecDepth 20000 in
theorem mX1_isSameText : xMd yX1_isSameText cX1_isSameText 3 (some .boolean) 2 := ⟨xin 470 rfl rfl, xin 2 (by decide +kernel) rfl, ⟨by decide, by decide, by decide +kernel⟩, by decide⟩
theorem vX1_isSameText : Cond.instanceMethod yX1_isSameText ∈ xT ∧ Cond.selects yX1_isSameText.cls yX1_isSameText yX1_isSameText ∈ xT := ⟨xin 468 (by decide +kernel) rfl, xin 469 (by decide +kernel) rfl⟩
set_option maxRecDepth 20000 in
theorem mX8_sight : xMd yX8_sight cX8_sight 6 (some .int) 4 := ⟨xin 474 rfl rfl, xin 1 (by decide +kernel) rfl, ⟨by decide, by decide, by decide +kernel⟩, by decide⟩
theorem vX8_sight : Cond.instanceMethod yX8_sight ∈ xT ∧ Cond.selects yX8_sight.cls yX8_sight yX8_sight ∈ xT := ⟨xin 472 (by decide +kernel) rfl, xin 473 (by decide +kernel) rfl⟩
set_option maxRecDepth 20000 in
theorem mX8_isThing : xMd yX8_isThing cX8_isThing 1 (some .boolean) 1 := ⟨xin 477 rfl rfl, xin 1 (by decide +kernel) rfl, ⟨by decide, by decide, by decide +kernel⟩, by decide⟩
theorem sX8_isThing : Cond.static yX8_isThing ∈ xT := xin 476 (by decide +kernel) rfl
set_option maxRecDepth 20000 in
theorem mX8_daysRefusal : xMd yX8_daysRefusal cX8_daysRefusal 2 (some .int) 2 := ⟨xin 480 rfl rfl, xin 1 (by decide +kernel) rfl, ⟨by decide, by decide, by decide +kernel⟩, by decide⟩
theorem sX8_daysRefusal : Cond.static yX8_daysRefusal ∈ xT := xin 479 (by decide +kernel) rfl
set_option maxRecDepth 20000 in
theorem mX5_addRecord : xMd yX5_addRecord cX5_addRecord 8 (some .int) 5 := ⟨xin 485 rfl rfl, xin 4 (by decide +kernel) rfl, ⟨by decide, by decide, by decide +kernel⟩, by decide⟩
theorem vX5_addRecord : Cond.instanceMethod yX5_addRecord ∈ xT ∧ Cond.selects yX5_addRecord.cls yX5_addRecord yX5_addRecord ∈ xT := ⟨xin 483 (by decide +kernel) rfl, xin 484 (by decide +kernel) rfl⟩
set_option maxRecDepth 20000 in
theorem mX8_move : xMd yX8_move cX8_move 7 (some .int) 5 := ⟨xin 490 rfl rfl, xin 1 (by decide +kernel) rfl, ⟨by decide, by decide, by decide +kernel⟩, by decide⟩
theorem vX8_move : Cond.instanceMethod yX8_move ∈ xT ∧ Cond.selects yX8_move.cls yX8_move yX8_move ∈ xT := ⟨xin 488 (by decide +kernel) rfl, xin 489 (by decide +kernel) rfl⟩
set_option maxRecDepth 20000 in
theorem mX8_withdraw : xMd yX8_withdraw cX8_withdraw 5 (some .int) 3 := ⟨xin 494 rfl rfl, xin 1 (by decide +kernel) rfl, ⟨by decide, by decide, by decide +kernel⟩, by decide⟩
theorem vX8_withdraw : Cond.instanceMethod yX8_withdraw ∈ xT ∧ Cond.selects yX8_withdraw.cls yX8_withdraw yX8_withdraw ∈ xT := ⟨xin 492 (by decide +kernel) rfl, xin 493 (by decide +kernel) rfl⟩
set_option maxRecDepth 20000 in
theorem mX5_takeBack : xMd yX5_takeBack cX5_takeBack 3 none 2 := ⟨xin 499 rfl rfl, xin 4 (by decide +kernel) rfl, ⟨by decide, by decide, by decide +kernel⟩, by decide⟩
theorem vX5_takeBack : Cond.instanceMethod yX5_takeBack ∈ xT ∧ Cond.selects yX5_takeBack.cls yX5_takeBack yX5_takeBack ∈ xT := ⟨xin 497 (by decide +kernel) rfl, xin 498 (by decide +kernel) rfl⟩
set_option maxRecDepth 20000 in
theorem mX8_where : xMd yX8_where cX8_where 5 (some .int) 3 := ⟨xin 503 rfl rfl, xin 1 (by decide +kernel) rfl, ⟨by decide, by decide, by decide +kernel⟩, by decide⟩
theorem vX8_where : Cond.instanceMethod yX8_where ∈ xT ∧ Cond.selects yX8_where.cls yX8_where yX8_where ∈ xT := ⟨xin 501 (by decide +kernel) rfl, xin 502 (by decide +kernel) rfl⟩
set_option maxRecDepth 20000 in
theorem mX5_lastPlace : xMd yX5_lastPlace cX5_lastPlace 7 (some .int) 3 := ⟨xin 507 rfl rfl, xin 4 (by decide +kernel) rfl, ⟨by decide, by decide, by decide +kernel⟩, by decide⟩
theorem vX5_lastPlace : Cond.instanceMethod yX5_lastPlace ∈ xT ∧ Cond.selects yX5_lastPlace.cls yX5_lastPlace yX5_lastPlace ∈ xT := ⟨xin 505 (by decide +kernel) rfl, xin 506 (by decide +kernel) rfl⟩
set_option maxRecDepth 20000 in
theorem mX5_counts : xMd yX5_counts cX5_counts 4 (some .boolean) 3 := ⟨xin 511 rfl rfl, xin 4 (by decide +kernel) rfl, ⟨by decide, by decide, by decide +kernel⟩, by decide⟩
theorem vX5_counts : Cond.instanceMethod yX5_counts ∈ xT ∧ Cond.selects yX5_counts.cls yX5_counts yX5_counts ∈ xT := ⟨xin 509 (by decide +kernel) rfl, xin 510 (by decide +kernel) rfl⟩
set_option maxRecDepth 20000 in
theorem mX8_quarrels : xMd yX8_quarrels cX8_quarrels 4 (some .int) 2 := ⟨xin 515 rfl rfl, xin 1 (by decide +kernel) rfl, ⟨by decide, by decide, by decide +kernel⟩, by decide⟩
theorem vX8_quarrels : Cond.instanceMethod yX8_quarrels ∈ xT ∧ Cond.selects yX8_quarrels.cls yX8_quarrels yX8_quarrels ∈ xT := ⟨xin 513 (by decide +kernel) rfl, xin 514 (by decide +kernel) rfl⟩
set_option maxRecDepth 20000 in
theorem mX5_quarrelDays : xMd yX5_quarrelDays cX5_quarrelDays 9 (some .int) 2 := ⟨xin 519 rfl rfl, xin 4 (by decide +kernel) rfl, ⟨by decide, by decide, by decide +kernel⟩, by decide⟩
theorem vX5_quarrelDays : Cond.instanceMethod yX5_quarrelDays ∈ xT ∧ Cond.selects yX5_quarrelDays.cls yX5_quarrelDays yX5_quarrelDays ∈ xT := ⟨xin 517 (by decide +kernel) rfl, xin 518 (by decide +kernel) rfl⟩
set_option maxRecDepth 20000 in
theorem mX8_holds : xMd yX8_holds cX8_holds 6 (some .int) 4 := ⟨xin 523 rfl rfl, xin 1 (by decide +kernel) rfl, ⟨by decide, by decide, by decide +kernel⟩, by decide⟩
theorem vX8_holds : Cond.instanceMethod yX8_holds ∈ xT ∧ Cond.selects yX8_holds.cls yX8_holds yX8_holds ∈ xT := ⟨xin 521 (by decide +kernel) rfl, xin 522 (by decide +kernel) rfl⟩
set_option maxRecDepth 20000 in
theorem mX2_replay : xMd yX2_replay cX2_replay 7 none 4 := ⟨xin 527 rfl rfl, xin 5 (by decide +kernel) rfl, ⟨by decide, by decide, by decide +kernel⟩, by decide⟩
theorem vX2_replay : Cond.instanceMethod yX2_replay ∈ xT ∧ Cond.selects yX2_replay.cls yX2_replay yX2_replay ∈ xT := ⟨xin 525 (by decide +kernel) rfl, xin 526 (by decide +kernel) rfl⟩
set_option maxRecDepth 20000 in
theorem mX2_follow : xMd yX2_follow cX2_follow 3 none 2 := ⟨xin 532 rfl rfl, xin 5 (by decide +kernel) rfl, ⟨by decide, by decide, by decide +kernel⟩, by decide⟩
theorem vX2_follow : Cond.instanceMethod yX2_follow ∈ xT ∧ Cond.selects yX2_follow.cls yX2_follow yX2_follow ∈ xT := ⟨xin 531 (by decide +kernel) rfl, xins 15 (by decide +kernel) rfl⟩
set_option maxRecDepth 20000 in
theorem mX8_since : xMd yX8_since cX8_since 5 (some .int) 3 := ⟨xin 536 rfl rfl, xin 1 (by decide +kernel) rfl, ⟨by decide, by decide, by decide +kernel⟩, by decide⟩
theorem vX8_since : Cond.instanceMethod yX8_since ∈ xT ∧ Cond.selects yX8_since.cls yX8_since yX8_since ∈ xT := ⟨xin 534 (by decide +kernel) rfl, xin 535 (by decide +kernel) rfl⟩
set_option maxRecDepth 20000 in
theorem mX2_heldSince : xMd yX2_heldSince cX2_heldSince 9 (some .int) 4 := ⟨xin 540 rfl rfl, xin 5 (by decide +kernel) rfl, ⟨by decide, by decide, by decide +kernel⟩, by decide⟩
theorem vX2_heldSince : Cond.instanceMethod yX2_heldSince ∈ xT ∧ Cond.selects yX2_heldSince.cls yX2_heldSince yX2_heldSince ∈ xT := ⟨xin 538 (by decide +kernel) rfl, xin 539 (by decide +kernel) rfl⟩
set_option maxRecDepth 20000 in
theorem mX5_lastChange : xMd yX5_lastChange cX5_lastChange 5 (some .int) 2 := ⟨xin 545 rfl rfl, xin 4 (by decide +kernel) rfl, ⟨by decide, by decide, by decide +kernel⟩, by decide⟩
theorem vX5_lastChange : Cond.instanceMethod yX5_lastChange ∈ xT ∧ Cond.selects yX5_lastChange.cls yX5_lastChange yX5_lastChange ∈ xT := ⟨xin 543 (by decide +kernel) rfl, xin 544 (by decide +kernel) rfl⟩
set_option maxRecDepth 20000 in
theorem mX8_visitor : xMd yX8_visitor cX8_visitor 5 (some .int) 4 := ⟨xin 550 rfl rfl, xin 1 (by decide +kernel) rfl, ⟨by decide, by decide, by decide +kernel⟩, by decide⟩
theorem vX8_visitor : Cond.instanceMethod yX8_visitor ∈ xT ∧ Cond.selects yX8_visitor.cls yX8_visitor yX8_visitor ∈ xT := ⟨xin 548 (by decide +kernel) rfl, xin 549 (by decide +kernel) rfl⟩
set_option maxRecDepth 20000 in
theorem mX8_needsTwo : xMd yX8_needsTwo cX8_needsTwo 1 (some .boolean) 1 := ⟨xin 553 rfl rfl, xin 1 (by decide +kernel) rfl, ⟨by decide, by decide, by decide +kernel⟩, by decide⟩
theorem sX8_needsTwo : Cond.static yX8_needsTwo ∈ xT := xin 552 (by decide +kernel) rfl
set_option maxRecDepth 20000 in
theorem mX6_addSaying : xMd yX6_addSaying cX6_addSaying 6 (some .int) 4 := ⟨xin 557 rfl rfl, xin 6 (by decide +kernel) rfl, ⟨by decide, by decide, by decide +kernel⟩, by decide⟩
theorem vX6_addSaying : Cond.instanceMethod yX6_addSaying ∈ xT ∧ Cond.selects yX6_addSaying.cls yX6_addSaying yX6_addSaying ∈ xT := ⟨xin 555 (by decide +kernel) rfl, xin 556 (by decide +kernel) rfl⟩
set_option maxRecDepth 20000 in
theorem mX8_shelf : xMd yX8_shelf cX8_shelf 3 (some .int) 1 := ⟨xin 561 rfl rfl, xin 1 (by decide +kernel) rfl, ⟨by decide, by decide, by decide +kernel⟩, by decide⟩
theorem vX8_shelf : Cond.instanceMethod yX8_shelf ∈ xT ∧ Cond.selects yX8_shelf.cls yX8_shelf yX8_shelf ∈ xT := ⟨xin 559 (by decide +kernel) rfl, xin 560 (by decide +kernel) rfl⟩
set_option maxRecDepth 20000 in
theorem mX8_shelfRefusal : xMd yX8_shelfRefusal cX8_shelfRefusal 1 (some .int) 1 := ⟨xin 564 rfl rfl, xin 1 (by decide +kernel) rfl, ⟨by decide, by decide, by decide +kernel⟩, by decide⟩
theorem sX8_shelfRefusal : Cond.static yX8_shelfRefusal ∈ xT := xin 563 (by decide +kernel) rfl
set_option maxRecDepth 20000 in
theorem mX8_bestRow : xMd yX8_bestRow cX8_bestRow 2 (some (.object RX7)) 1 := ⟨xin 569 rfl rfl, xin 1 (by decide +kernel) rfl, ⟨by decide, by decide, by decide +kernel⟩, by decide⟩
theorem vX8_bestRow : Cond.instanceMethod yX8_bestRow ∈ xT ∧ Cond.selects yX8_bestRow.cls yX8_bestRow yX8_bestRow ∈ xT := ⟨xin 568 (by decide +kernel) rfl, xins 16 (by decide +kernel) rfl⟩
set_option maxRecDepth 20000 in
theorem mX7_init : xMd yX7_init cX7_init 1 none 0 := ⟨xin 574 rfl rfl, xin 12 (by decide +kernel) rfl, ⟨by decide, by decide, by decide +kernel⟩, by decide⟩
theorem vX7_init : yX7_init.name = "<init>" ∧ Cond.instanceMethod yX7_init ∈ xT := ⟨rfl, xin 573 (by decide +kernel) rfl⟩
set_option maxRecDepth 20000 in
theorem mX7_rebuild : xMd yX7_rebuild cX7_rebuild 4 none 2 := ⟨xin 626 rfl rfl, xin 12 (by decide +kernel) rfl, ⟨by decide, by decide, by decide +kernel⟩, by decide⟩
theorem vX7_rebuild : Cond.instanceMethod yX7_rebuild ∈ xT ∧ Cond.selects yX7_rebuild.cls yX7_rebuild yX7_rebuild ∈ xT := ⟨xin 624 (by decide +kernel) rfl, xin 625 (by decide +kernel) rfl⟩
set_option maxRecDepth 20000 in
theorem mX7_readThings : xMd yX7_readThings cX7_readThings 3 none 1 := ⟨xin 630 rfl rfl, xin 12 (by decide +kernel) rfl, ⟨by decide, by decide, by decide +kernel⟩, by decide⟩
theorem vX7_readThings : Cond.instanceMethod yX7_readThings ∈ xT ∧ Cond.selects yX7_readThings.cls yX7_readThings yX7_readThings ∈ xT := ⟨xin 629 (by decide +kernel) rfl, xins 17 (by decide +kernel) rfl⟩
set_option maxRecDepth 20000 in
theorem mX7_clearTrust : xMd yX7_clearTrust cX7_clearTrust 2 none 0 := ⟨xin 634 rfl rfl, xin 12 (by decide +kernel) rfl, ⟨by decide, by decide, by decide +kernel⟩, by decide⟩
theorem vX7_clearTrust : Cond.instanceMethod yX7_clearTrust ∈ xT ∧ Cond.selects yX7_clearTrust.cls yX7_clearTrust yX7_clearTrust ∈ xT := ⟨xin 633 (by decide +kernel) rfl, xins 18 (by decide +kernel) rfl⟩
set_option maxRecDepth 20000 in
theorem mX7_addTrust : xMd yX7_addTrust cX7_addTrust 5 none 4 := ⟨xin 638 rfl rfl, xin 12 (by decide +kernel) rfl, ⟨by decide, by decide, by decide +kernel⟩, by decide⟩
theorem vX7_addTrust : Cond.instanceMethod yX7_addTrust ∈ xT ∧ Cond.selects yX7_addTrust.cls yX7_addTrust yX7_addTrust ∈ xT := ⟨xin 637 (by decide +kernel) rfl, xins 19 (by decide +kernel) rfl⟩
set_option maxRecDepth 20000 in
theorem mX7_weighStates : xMd yX7_weighStates cX7_weighStates 4 none 0 := ⟨xin 642 rfl rfl, xin 12 (by decide +kernel) rfl, ⟨by decide, by decide, by decide +kernel⟩, by decide⟩
theorem vX7_weighStates : Cond.instanceMethod yX7_weighStates ∈ xT ∧ Cond.selects yX7_weighStates.cls yX7_weighStates yX7_weighStates ∈ xT := ⟨xin 641 (by decide +kernel) rfl, xins 20 (by decide +kernel) rfl⟩
set_option maxRecDepth 20000 in
theorem mX7_readGains : xMd yX7_readGains cX7_readGains 6 none 1 := ⟨xin 646 rfl rfl, xin 12 (by decide +kernel) rfl, ⟨by decide, by decide, by decide +kernel⟩, by decide⟩
theorem vX7_readGains : Cond.instanceMethod yX7_readGains ∈ xT ∧ Cond.selects yX7_readGains.cls yX7_readGains yX7_readGains ∈ xT := ⟨xin 645 (by decide +kernel) rfl, xins 21 (by decide +kernel) rfl⟩
set_option maxRecDepth 20000 in
theorem mX7_weighState : xMd yX7_weighState cX7_weighState 5 (some .int) 2 := ⟨xin 650 rfl rfl, xin 12 (by decide +kernel) rfl, ⟨by decide, by decide, by decide +kernel⟩, by decide⟩
theorem vX7_weighState : Cond.instanceMethod yX7_weighState ∈ xT ∧ Cond.selects yX7_weighState.cls yX7_weighState yX7_weighState ∈ xT := ⟨xin 649 (by decide +kernel) rfl, xins 22 (by decide +kernel) rfl⟩
set_option maxRecDepth 20000 in
theorem mX7_valueOf : xMd yX7_valueOf cX7_valueOf 5 (some .int) 3 := ⟨xin 654 rfl rfl, xin 12 (by decide +kernel) rfl, ⟨by decide, by decide, by decide +kernel⟩, by decide⟩
theorem vX7_valueOf : Cond.instanceMethod yX7_valueOf ∈ xT ∧ Cond.selects yX7_valueOf.cls yX7_valueOf yX7_valueOf ∈ xT := ⟨xin 653 (by decide +kernel) rfl, xins 23 (by decide +kernel) rfl⟩
set_option maxRecDepth 20000 in
theorem mX7_tellRow : xMd yX7_tellRow cX7_tellRow 5 none 0 := ⟨xin 659 rfl rfl, xin 12 (by decide +kernel) rfl, ⟨by decide, by decide, by decide +kernel⟩, by decide⟩
theorem vX7_tellRow : Cond.instanceMethod yX7_tellRow ∈ xT ∧ Cond.selects yX7_tellRow.cls yX7_tellRow yX7_tellRow ∈ xT := ⟨xin 658 (by decide +kernel) rfl, xins 24 (by decide +kernel) rfl⟩
set_option maxRecDepth 20000 in
theorem mX7_firstBest : xMd yX7_firstBest cX7_firstBest 5 (some .int) 2 := ⟨xin 663 rfl rfl, xin 12 (by decide +kernel) rfl, ⟨by decide, by decide, by decide +kernel⟩, by decide⟩
theorem vX7_firstBest : Cond.instanceMethod yX7_firstBest ∈ xT ∧ Cond.selects yX7_firstBest.cls yX7_firstBest yX7_firstBest ∈ xT := ⟨xin 662 (by decide +kernel) rfl, xins 25 (by decide +kernel) rfl⟩
set_option maxRecDepth 20000 in
theorem mX8_row : xMd yX8_row cX8_row 5 (some .int) 2 := ⟨xin 667 rfl rfl, xin 1 (by decide +kernel) rfl, ⟨by decide, by decide, by decide +kernel⟩, by decide⟩
theorem vX8_row : Cond.instanceMethod yX8_row ∈ xT ∧ Cond.selects yX8_row.cls yX8_row yX8_row ∈ xT := ⟨xin 665 (by decide +kernel) rfl, xin 666 (by decide +kernel) rfl⟩
set_option maxRecDepth 20000 in
theorem mX8_quarrel : xMd yX8_quarrel cX8_quarrel 4 (some .int) 1 := ⟨xin 671 rfl rfl, xin 1 (by decide +kernel) rfl, ⟨by decide, by decide, by decide +kernel⟩, by decide⟩
theorem vX8_quarrel : Cond.instanceMethod yX8_quarrel ∈ xT ∧ Cond.selects yX8_quarrel.cls yX8_quarrel yX8_quarrel ∈ xT := ⟨xin 669 (by decide +kernel) rfl, xin 670 (by decide +kernel) rfl⟩
set_option maxRecDepth 20000 in
theorem mX8_part : xMd yX8_part cX8_part 3 (some .int) 2 := ⟨xin 675 rfl rfl, xin 1 (by decide +kernel) rfl, ⟨by decide, by decide, by decide +kernel⟩, by decide⟩
theorem vX8_part : Cond.instanceMethod yX8_part ∈ xT ∧ Cond.selects yX8_part.cls yX8_part yX8_part ∈ xT := ⟨xin 673 (by decide +kernel) rfl, xin 674 (by decide +kernel) rfl⟩
set_option maxRecDepth 20000 in
theorem mX0_tellKind : xMd yX0_tellKind cX0_tellKind 4 (some .int) 2 := ⟨xin 679 rfl rfl, xin 7 (by decide +kernel) rfl, ⟨by decide, by decide, by decide +kernel⟩, by decide⟩
theorem vX0_tellKind : Cond.instanceMethod yX0_tellKind ∈ xT ∧ Cond.selects yX0_tellKind.cls yX0_tellKind yX0_tellKind ∈ xT := ⟨xin 677 (by decide +kernel) rfl, xin 678 (by decide +kernel) rfl⟩
set_option maxRecDepth 20000 in
theorem mX8_clash : xMd yX8_clash cX8_clash 4 (some .int) 3 := ⟨xin 683 rfl rfl, xin 1 (by decide +kernel) rfl, ⟨by decide, by decide, by decide +kernel⟩, by decide⟩
theorem vX8_clash : Cond.instanceMethod yX8_clash ∈ xT ∧ Cond.selects yX8_clash.cls yX8_clash yX8_clash ∈ xT := ⟨xin 681 (by decide +kernel) rfl, xin 682 (by decide +kernel) rfl⟩
set_option maxRecDepth 20000 in
theorem mX0_tellClash : xMd yX0_tellClash cX0_tellClash 5 (some .boolean) 3 := ⟨xin 687 rfl rfl, xin 7 (by decide +kernel) rfl, ⟨by decide, by decide, by decide +kernel⟩, by decide⟩
theorem vX0_tellClash : Cond.instanceMethod yX0_tellClash ∈ xT ∧ Cond.selects yX0_tellClash.cls yX0_tellClash yX0_tellClash ∈ xT := ⟨xin 685 (by decide +kernel) rfl, xin 686 (by decide +kernel) rfl⟩
set_option maxRecDepth 20000 in
theorem mX8_fake : xMd yX8_fake cX8_fake 2 (some .int) 1 := ⟨xin 691 rfl rfl, xin 1 (by decide +kernel) rfl, ⟨by decide, by decide, by decide +kernel⟩, by decide⟩
theorem vX8_fake : Cond.instanceMethod yX8_fake ∈ xT ∧ Cond.selects yX8_fake.cls yX8_fake yX8_fake ∈ xT := ⟨xin 689 (by decide +kernel) rfl, xin 690 (by decide +kernel) rfl⟩
set_option maxRecDepth 20000 in
theorem mX0_isFake : xMd yX0_isFake cX0_isFake 5 (some .boolean) 1 := ⟨xin 695 rfl rfl, xin 7 (by decide +kernel) rfl, ⟨by decide, by decide, by decide +kernel⟩, by decide⟩
theorem vX0_isFake : Cond.instanceMethod yX0_isFake ∈ xT ∧ Cond.selects yX0_isFake.cls yX0_isFake yX0_isFake ∈ xT := ⟨xin 693 (by decide +kernel) rfl, xin 694 (by decide +kernel) rfl⟩
set_option maxRecDepth 20000 in
theorem mX8_least : xMd yX8_least cX8_least 2 (some .int) 1 := ⟨xin 699 rfl rfl, xin 1 (by decide +kernel) rfl, ⟨by decide, by decide, by decide +kernel⟩, by decide⟩
theorem vX8_least : Cond.instanceMethod yX8_least ∈ xT ∧ Cond.selects yX8_least.cls yX8_least yX8_least ∈ xT := ⟨xin 697 (by decide +kernel) rfl, xin 698 (by decide +kernel) rfl⟩
set_option maxRecDepth 20000 in
theorem mX0_leastWithout : xMd yX0_leastWithout cX0_leastWithout 5 (some .int) 1 := ⟨xin 703 rfl rfl, xin 7 (by decide +kernel) rfl, ⟨by decide, by decide, by decide +kernel⟩, by decide⟩
theorem vX0_leastWithout : Cond.instanceMethod yX0_leastWithout ∈ xT ∧ Cond.selects yX0_leastWithout.cls yX0_leastWithout yX0_leastWithout ∈ xT := ⟨xin 701 (by decide +kernel) rfl, xin 702 (by decide +kernel) rfl⟩
set_option maxRecDepth 20000 in
theorem mX8_count : xMd yX8_count cX8_count 2 (some .int) 1 := ⟨xin 709 rfl rfl, xin 1 (by decide +kernel) rfl, ⟨by decide, by decide, by decide +kernel⟩, by decide⟩
theorem vX8_count : Cond.instanceMethod yX8_count ∈ xT ∧ Cond.selects yX8_count.cls yX8_count yX8_count ∈ xT := ⟨xin 707 (by decide +kernel) rfl, xin 708 (by decide +kernel) rfl⟩
set_option maxRecDepth 20000 in
theorem mX9_init : xMd yX9_init cX9_init 2 none 0 := ⟨xin 714 rfl rfl, xin 8 (by decide +kernel) rfl, ⟨by decide, by decide, by decide +kernel⟩, by decide⟩
theorem vX9_init : yX9_init.name = "<init>" ∧ Cond.instanceMethod yX9_init ∈ xT := ⟨rfl, xin 713 (by decide +kernel) rfl⟩
set_option maxRecDepth 20000 in
theorem mX9_means : xMd yX9_means cX9_means 4 (some .int) 2 := ⟨xin 858 rfl rfl, xin 8 (by decide +kernel) rfl, ⟨by decide, by decide, by decide +kernel⟩, by decide⟩
theorem vX9_means : Cond.instanceMethod yX9_means ∈ xT ∧ Cond.selects yX9_means.cls yX9_means yX9_means ∈ xT := ⟨xin 856 (by decide +kernel) rfl, xin 857 (by decide +kernel) rfl⟩
set_option maxRecDepth 20000 in
theorem mX9_isIn : xMd yX9_isIn cX9_isIn 2 (some .boolean) 2 := ⟨xin 861 rfl rfl, xin 8 (by decide +kernel) rfl, ⟨by decide, by decide, by decide +kernel⟩, by decide⟩
theorem sX9_isIn : Cond.static yX9_isIn ∈ xT := xin 860 (by decide +kernel) rfl
set_option maxRecDepth 20000 in
theorem mX9_refuse : xMd yX9_refuse cX9_refuse 2 (some .int) 1 := ⟨xin 865 rfl rfl, xin 8 (by decide +kernel) rfl, ⟨by decide, by decide, by decide +kernel⟩, by decide⟩
theorem vX9_refuse : Cond.instanceMethod yX9_refuse ∈ xT ∧ Cond.selects yX9_refuse.cls yX9_refuse yX9_refuse ∈ xT := ⟨xin 864 (by decide +kernel) rfl, xins 26 (by decide +kernel) rfl⟩
set_option maxRecDepth 20000 in
theorem mX9_sense : xMd yX9_sense cX9_sense 2 (some .int) 1 := ⟨xin 869 rfl rfl, xin 8 (by decide +kernel) rfl, ⟨by decide, by decide, by decide +kernel⟩, by decide⟩
theorem vX9_sense : Cond.instanceMethod yX9_sense ∈ xT ∧ Cond.selects yX9_sense.cls yX9_sense yX9_sense ∈ xT := ⟨xin 867 (by decide +kernel) rfl, xin 868 (by decide +kernel) rfl⟩
set_option maxRecDepth 20000 in
theorem mX9_senseOf : xMd yX9_senseOf cX9_senseOf 3 (some .int) 1 := ⟨xin 873 rfl rfl, xin 8 (by decide +kernel) rfl, ⟨by decide, by decide, by decide +kernel⟩, by decide⟩
theorem vX9_senseOf : Cond.instanceMethod yX9_senseOf ∈ xT ∧ Cond.selects yX9_senseOf.cls yX9_senseOf yX9_senseOf ∈ xT := ⟨xin 872 (by decide +kernel) rfl, xins 27 (by decide +kernel) rfl⟩
set_option maxRecDepth 20000 in
theorem mX9_year : xMd yX9_year cX9_year 5 (some .int) 2 := ⟨xin 877 rfl rfl, xin 8 (by decide +kernel) rfl, ⟨by decide, by decide, by decide +kernel⟩, by decide⟩
theorem vX9_year : Cond.instanceMethod yX9_year ∈ xT ∧ Cond.selects yX9_year.cls yX9_year yX9_year ∈ xT := ⟨xin 875 (by decide +kernel) rfl, xin 876 (by decide +kernel) rfl⟩
set_option maxRecDepth 20000 in
theorem mX9_wrong : xMd yX9_wrong cX9_wrong 3 (some .int) 3 := ⟨xin 880 rfl rfl, xin 8 (by decide +kernel) rfl, ⟨by decide, by decide, by decide +kernel⟩, by decide⟩
theorem sX9_wrong : Cond.static yX9_wrong ∈ xT := xin 879 (by decide +kernel) rfl
set_option maxRecDepth 20000 in
theorem mX9_entry : xMd yX9_entry cX9_entry 7 (some .int) 5 := ⟨xin 884 rfl rfl, xin 8 (by decide +kernel) rfl, ⟨by decide, by decide, by decide +kernel⟩, by decide⟩
theorem vX9_entry : Cond.instanceMethod yX9_entry ∈ xT ∧ Cond.selects yX9_entry.cls yX9_entry yX9_entry ∈ xT := ⟨xin 882 (by decide +kernel) rfl, xin 883 (by decide +kernel) rfl⟩
set_option maxRecDepth 20000 in
theorem mX9_set : xMd yX9_set cX9_set 5 (some .int) 2 := ⟨xin 889 rfl rfl, xin 8 (by decide +kernel) rfl, ⟨by decide, by decide, by decide +kernel⟩, by decide⟩
theorem vX9_set : Cond.instanceMethod yX9_set ∈ xT ∧ Cond.selects yX9_set.cls yX9_set yX9_set ∈ xT := ⟨xin 887 (by decide +kernel) rfl, xin 888 (by decide +kernel) rfl⟩
set_option maxRecDepth 20000 in
theorem mX9_bar : xMd yX9_bar cX9_bar 5 (some .int) 4 := ⟨xin 893 rfl rfl, xin 8 (by decide +kernel) rfl, ⟨by decide, by decide, by decide +kernel⟩, by decide⟩
theorem vX9_bar : Cond.instanceMethod yX9_bar ∈ xT ∧ Cond.selects yX9_bar.cls yX9_bar yX9_bar ∈ xT := ⟨xin 891 (by decide +kernel) rfl, xin 892 (by decide +kernel) rfl⟩
set_option maxRecDepth 20000 in
theorem mX9_isEntry : xMd yX9_isEntry cX9_isEntry 3 (some .boolean) 2 := ⟨xin 897 rfl rfl, xin 8 (by decide +kernel) rfl, ⟨by decide, by decide, by decide +kernel⟩, by decide⟩
theorem vX9_isEntry : Cond.instanceMethod yX9_isEntry ∈ xT ∧ Cond.selects yX9_isEntry.cls yX9_isEntry yX9_isEntry ∈ xT := ⟨xin 896 (by decide +kernel) rfl, xins 28 (by decide +kernel) rfl⟩
set_option maxRecDepth 20000 in
theorem mX9_isBarred : xMd yX9_isBarred cX9_isBarred 5 (some .boolean) 2 := ⟨xin 901 rfl rfl, xin 8 (by decide +kernel) rfl, ⟨by decide, by decide, by decide +kernel⟩, by decide⟩
theorem vX9_isBarred : Cond.instanceMethod yX9_isBarred ∈ xT ∧ Cond.selects yX9_isBarred.cls yX9_isBarred yX9_isBarred ∈ xT := ⟨xin 900 (by decide +kernel) rfl, xins 29 (by decide +kernel) rfl⟩
set_option maxRecDepth 20000 in
theorem mX9_like : xMd yX9_like cX9_like 5 (some .int) 4 := ⟨xin 905 rfl rfl, xin 8 (by decide +kernel) rfl, ⟨by decide, by decide, by decide +kernel⟩, by decide⟩
theorem vX9_like : Cond.instanceMethod yX9_like ∈ xT ∧ Cond.selects yX9_like.cls yX9_like yX9_like ∈ xT := ⟨xin 903 (by decide +kernel) rfl, xin 904 (by decide +kernel) rfl⟩
set_option maxRecDepth 20000 in
theorem mX9_likeOf : xMd yX9_likeOf cX9_likeOf 12 (some .int) 4 := ⟨xin 909 rfl rfl, xin 8 (by decide +kernel) rfl, ⟨by decide, by decide, by decide +kernel⟩, by decide⟩
theorem vX9_likeOf : Cond.instanceMethod yX9_likeOf ∈ xT ∧ Cond.selects yX9_likeOf.cls yX9_likeOf yX9_likeOf ∈ xT := ⟨xin 908 (by decide +kernel) rfl, xins 30 (by decide +kernel) rfl⟩
set_option maxRecDepth 20000 in
theorem mX9_senses : xMd yX9_senses cX9_senses 4 (some .int) 1 := ⟨xin 914 rfl rfl, xin 8 (by decide +kernel) rfl, ⟨by decide, by decide, by decide +kernel⟩, by decide⟩
theorem vX9_senses : Cond.instanceMethod yX9_senses ∈ xT ∧ Cond.selects yX9_senses.cls yX9_senses yX9_senses ∈ xT := ⟨xin 913 (by decide +kernel) rfl, xins 31 (by decide +kernel) rfl⟩
set_option maxRecDepth 20000 in
theorem mX9_bitsOf : xMd yX9_bitsOf cX9_bitsOf 3 (some .int) 1 := ⟨xin 917 rfl rfl, xin 8 (by decide +kernel) rfl, ⟨by decide, by decide, by decide +kernel⟩, by decide⟩
theorem sX9_bitsOf : Cond.static yX9_bitsOf ∈ xT := xin 916 (by decide +kernel) rfl
set_option maxRecDepth 20000 in
theorem mX9_join : xMd yX9_join cX9_join 3 (some .int) 2 := ⟨xin 922 rfl rfl, xin 8 (by decide +kernel) rfl, ⟨by decide, by decide, by decide +kernel⟩, by decide⟩
theorem vX9_join : Cond.instanceMethod yX9_join ∈ xT ∧ Cond.selects yX9_join.cls yX9_join yX9_join ∈ xT := ⟨xin 920 (by decide +kernel) rfl, xin 921 (by decide +kernel) rfl⟩
set_option maxRecDepth 20000 in
theorem mX9_areBooks : xMd yX9_areBooks cX9_areBooks 3 (some .boolean) 2 := ⟨xin 926 rfl rfl, xin 8 (by decide +kernel) rfl, ⟨by decide, by decide, by decide +kernel⟩, by decide⟩
theorem vX9_areBooks : Cond.instanceMethod yX9_areBooks ∈ xT ∧ Cond.selects yX9_areBooks.cls yX9_areBooks yX9_areBooks ∈ xT := ⟨xin 925 (by decide +kernel) rfl, xins 32 (by decide +kernel) rfl⟩
set_option maxRecDepth 20000 in
theorem mX9_joins : xMd yX9_joins cX9_joins 8 (some .int) 2 := ⟨xin 930 rfl rfl, xin 8 (by decide +kernel) rfl, ⟨by decide, by decide, by decide +kernel⟩, by decide⟩
theorem vX9_joins : Cond.instanceMethod yX9_joins ∈ xT ∧ Cond.selects yX9_joins.cls yX9_joins yX9_joins ∈ xT := ⟨xin 929 (by decide +kernel) rfl, xins 33 (by decide +kernel) rfl⟩
set_option maxRecDepth 20000 in
theorem mX9_measure : xMd yX9_measure cX9_measure 5 none 2 := ⟨xin 934 rfl rfl, xin 8 (by decide +kernel) rfl, ⟨by decide, by decide, by decide +kernel⟩, by decide⟩
theorem vX9_measure : Cond.instanceMethod yX9_measure ∈ xT ∧ Cond.selects yX9_measure.cls yX9_measure yX9_measure ∈ xT := ⟨xin 933 (by decide +kernel) rfl, xins 34 (by decide +kernel) rfl⟩
set_option maxRecDepth 20000 in
theorem mX9_finds : xMd yX9_finds cX9_finds 11 (some .int) 2 := ⟨xin 938 rfl rfl, xin 8 (by decide +kernel) rfl, ⟨by decide, by decide, by decide +kernel⟩, by decide⟩
theorem vX9_finds : Cond.instanceMethod yX9_finds ∈ xT ∧ Cond.selects yX9_finds.cls yX9_finds yX9_finds ∈ xT := ⟨xin 937 (by decide +kernel) rfl, xins 35 (by decide +kernel) rfl⟩
set_option maxRecDepth 20000 in
theorem mX9_at : xMd yX9_at cX9_at 2 (some .int) 2 := ⟨xin 941 rfl rfl, xin 8 (by decide +kernel) rfl, ⟨by decide, by decide, by decide +kernel⟩, by decide⟩
theorem sX9_at : Cond.static yX9_at ∈ xT := xin 940 (by decide +kernel) rfl
set_option maxRecDepth 20000 in
theorem mX9_joined : xMd yX9_joined cX9_joined 5 (some .int) 3 := ⟨xin 947 rfl rfl, xin 8 (by decide +kernel) rfl, ⟨by decide, by decide, by decide +kernel⟩, by decide⟩
theorem vX9_joined : Cond.instanceMethod yX9_joined ∈ xT ∧ Cond.selects yX9_joined.cls yX9_joined yX9_joined ∈ xT := ⟨xin 945 (by decide +kernel) rfl, xin 946 (by decide +kernel) rfl⟩
set_option maxRecDepth 20000 in
theorem mX9_bests : xMd yX9_bests cX9_bests 4 (some .int) 2 := ⟨xin 951 rfl rfl, xin 8 (by decide +kernel) rfl, ⟨by decide, by decide, by decide +kernel⟩, by decide⟩
theorem vX9_bests : Cond.instanceMethod yX9_bests ∈ xT ∧ Cond.selects yX9_bests.cls yX9_bests yX9_bests ∈ xT := ⟨xin 949 (by decide +kernel) rfl, xin 950 (by decide +kernel) rfl⟩
set_option maxRecDepth 20000 in
theorem mX9_sure : xMd yX9_sure cX9_sure 4 (some .int) 3 := ⟨xin 955 rfl rfl, xin 8 (by decide +kernel) rfl, ⟨by decide, by decide, by decide +kernel⟩, by decide⟩
theorem vX9_sure : Cond.instanceMethod yX9_sure ∈ xT ∧ Cond.selects yX9_sure.cls yX9_sure yX9_sure ∈ xT := ⟨xin 953 (by decide +kernel) rfl, xin 954 (by decide +kernel) rfl⟩
set_option maxRecDepth 20000 in
theorem mX9_isSure : xMd yX9_isSure cX9_isSure 6 (some .boolean) 3 := ⟨xin 959 rfl rfl, xin 8 (by decide +kernel) rfl, ⟨by decide, by decide, by decide +kernel⟩, by decide⟩
theorem vX9_isSure : Cond.instanceMethod yX9_isSure ∈ xT ∧ Cond.selects yX9_isSure.cls yX9_isSure yX9_isSure ∈ xT := ⟨xin 958 (by decide +kernel) rfl, xins 36 (by decide +kernel) rfl⟩
set_option maxRecDepth 20000 in
theorem mX9_chain : xMd yX9_chain cX9_chain 15 (some .int) 4 := ⟨xin 963 rfl rfl, xin 8 (by decide +kernel) rfl, ⟨by decide, by decide, by decide +kernel⟩, by decide⟩
theorem vX9_chain : Cond.instanceMethod yX9_chain ∈ xT ∧ Cond.selects yX9_chain.cls yX9_chain yX9_chain ∈ xT := ⟨xin 961 (by decide +kernel) rfl, xin 962 (by decide +kernel) rfl⟩
set_option maxRecDepth 20000 in
theorem mX9_copied : xMd yX9_copied cX9_copied 6 (some .int) 3 := ⟨xin 967 rfl rfl, xin 8 (by decide +kernel) rfl, ⟨by decide, by decide, by decide +kernel⟩, by decide⟩
theorem vX9_copied : Cond.instanceMethod yX9_copied ∈ xT ∧ Cond.selects yX9_copied.cls yX9_copied yX9_copied ∈ xT := ⟨xin 965 (by decide +kernel) rfl, xin 966 (by decide +kernel) rfl⟩
set_option maxRecDepth 20000 in
theorem mX9_sight : xMd yX9_sight cX9_sight 6 (some .int) 4 := ⟨xin 971 rfl rfl, xin 8 (by decide +kernel) rfl, ⟨by decide, by decide, by decide +kernel⟩, by decide⟩
theorem vX9_sight : Cond.instanceMethod yX9_sight ∈ xT ∧ Cond.selects yX9_sight.cls yX9_sight yX9_sight ∈ xT := ⟨xin 969 (by decide +kernel) rfl, xin 970 (by decide +kernel) rfl⟩
set_option maxRecDepth 20000 in
theorem mX9_wrongDays : xMd yX9_wrongDays cX9_wrongDays 2 (some .int) 2 := ⟨xin 974 rfl rfl, xin 8 (by decide +kernel) rfl, ⟨by decide, by decide, by decide +kernel⟩, by decide⟩
theorem sX9_wrongDays : Cond.static yX9_wrongDays ∈ xT := xin 973 (by decide +kernel) rfl
set_option maxRecDepth 20000 in
theorem mX9_move : xMd yX9_move cX9_move 7 (some .int) 5 := ⟨xin 980 rfl rfl, xin 8 (by decide +kernel) rfl, ⟨by decide, by decide, by decide +kernel⟩, by decide⟩
theorem vX9_move : Cond.instanceMethod yX9_move ∈ xT ∧ Cond.selects yX9_move.cls yX9_move yX9_move ∈ xT := ⟨xin 978 (by decide +kernel) rfl, xin 979 (by decide +kernel) rfl⟩
set_option maxRecDepth 20000 in
theorem mX9_withdraw : xMd yX9_withdraw cX9_withdraw 5 (some .int) 3 := ⟨xin 984 rfl rfl, xin 8 (by decide +kernel) rfl, ⟨by decide, by decide, by decide +kernel⟩, by decide⟩
theorem vX9_withdraw : Cond.instanceMethod yX9_withdraw ∈ xT ∧ Cond.selects yX9_withdraw.cls yX9_withdraw yX9_withdraw ∈ xT := ⟨xin 982 (by decide +kernel) rfl, xin 983 (by decide +kernel) rfl⟩
set_option maxRecDepth 20000 in
theorem mX9_where : xMd yX9_where cX9_where 7 (some .int) 3 := ⟨xin 988 rfl rfl, xin 8 (by decide +kernel) rfl, ⟨by decide, by decide, by decide +kernel⟩, by decide⟩
theorem vX9_where : Cond.instanceMethod yX9_where ∈ xT ∧ Cond.selects yX9_where.cls yX9_where yX9_where ∈ xT := ⟨xin 986 (by decide +kernel) rfl, xin 987 (by decide +kernel) rfl⟩
set_option maxRecDepth 20000 in
theorem mX9_isSight : xMd yX9_isSight cX9_isSight 4 (some .boolean) 3 := ⟨xin 992 rfl rfl, xin 8 (by decide +kernel) rfl, ⟨by decide, by decide, by decide +kernel⟩, by decide⟩
theorem vX9_isSight : Cond.instanceMethod yX9_isSight ∈ xT ∧ Cond.selects yX9_isSight.cls yX9_isSight yX9_isSight ∈ xT := ⟨xin 991 (by decide +kernel) rfl, xins 37 (by decide +kernel) rfl⟩
set_option maxRecDepth 20000 in
theorem mX9_quarrels : xMd yX9_quarrels cX9_quarrels 9 (some .int) 2 := ⟨xin 996 rfl rfl, xin 8 (by decide +kernel) rfl, ⟨by decide, by decide, by decide +kernel⟩, by decide⟩
theorem vX9_quarrels : Cond.instanceMethod yX9_quarrels ∈ xT ∧ Cond.selects yX9_quarrels.cls yX9_quarrels yX9_quarrels ∈ xT := ⟨xin 994 (by decide +kernel) rfl, xin 995 (by decide +kernel) rfl⟩
set_option maxRecDepth 20000 in
theorem mX9_holds : xMd yX9_holds cX9_holds 6 (some .int) 4 := ⟨xin 1000 rfl rfl, xin 8 (by decide +kernel) rfl, ⟨by decide, by decide, by decide +kernel⟩, by decide⟩
theorem vX9_holds : Cond.instanceMethod yX9_holds ∈ xT ∧ Cond.selects yX9_holds.cls yX9_holds yX9_holds ∈ xT := ⟨xin 998 (by decide +kernel) rfl, xin 999 (by decide +kernel) rfl⟩
set_option maxRecDepth 20000 in
theorem mX9_goes : xMd yX9_goes cX9_goes 9 none 3 := ⟨xin 1004 rfl rfl, xin 8 (by decide +kernel) rfl, ⟨by decide, by decide, by decide +kernel⟩, by decide⟩
theorem vX9_goes : Cond.instanceMethod yX9_goes ∈ xT ∧ Cond.selects yX9_goes.cls yX9_goes yX9_goes ∈ xT := ⟨xin 1003 (by decide +kernel) rfl, xins 38 (by decide +kernel) rfl⟩
set_option maxRecDepth 20000 in
theorem mX9_isMove : xMd yX9_isMove cX9_isMove 4 (some .boolean) 3 := ⟨xin 1008 rfl rfl, xin 8 (by decide +kernel) rfl, ⟨by decide, by decide, by decide +kernel⟩, by decide⟩
theorem vX9_isMove : Cond.instanceMethod yX9_isMove ∈ xT ∧ Cond.selects yX9_isMove.cls yX9_isMove yX9_isMove ∈ xT := ⟨xin 1007 (by decide +kernel) rfl, xins 39 (by decide +kernel) rfl⟩
set_option maxRecDepth 20000 in
theorem mX9_since : xMd yX9_since cX9_since 7 (some .int) 3 := ⟨xin 1012 rfl rfl, xin 8 (by decide +kernel) rfl, ⟨by decide, by decide, by decide +kernel⟩, by decide⟩
theorem vX9_since : Cond.instanceMethod yX9_since ∈ xT ∧ Cond.selects yX9_since.cls yX9_since yX9_since ∈ xT := ⟨xin 1010 (by decide +kernel) rfl, xin 1011 (by decide +kernel) rfl⟩
set_option maxRecDepth 20000 in
theorem mX9_changed : xMd yX9_changed cX9_changed 5 (some .int) 2 := ⟨xin 1016 rfl rfl, xin 8 (by decide +kernel) rfl, ⟨by decide, by decide, by decide +kernel⟩, by decide⟩
theorem vX9_changed : Cond.instanceMethod yX9_changed ∈ xT ∧ Cond.selects yX9_changed.cls yX9_changed yX9_changed ∈ xT := ⟨xin 1015 (by decide +kernel) rfl, xins 40 (by decide +kernel) rfl⟩
set_option maxRecDepth 20000 in
theorem mX9_visitor : xMd yX9_visitor cX9_visitor 5 (some .int) 4 := ⟨xin 1020 rfl rfl, xin 8 (by decide +kernel) rfl, ⟨by decide, by decide, by decide +kernel⟩, by decide⟩
theorem vX9_visitor : Cond.instanceMethod yX9_visitor ∈ xT ∧ Cond.selects yX9_visitor.cls yX9_visitor yX9_visitor ∈ xT := ⟨xin 1018 (by decide +kernel) rfl, xin 1019 (by decide +kernel) rfl⟩
set_option maxRecDepth 20000 in
theorem mX9_shelf : xMd yX9_shelf cX9_shelf 3 (some .int) 1 := ⟨xin 1024 rfl rfl, xin 8 (by decide +kernel) rfl, ⟨by decide, by decide, by decide +kernel⟩, by decide⟩
theorem vX9_shelf : Cond.instanceMethod yX9_shelf ∈ xT ∧ Cond.selects yX9_shelf.cls yX9_shelf yX9_shelf ∈ xT := ⟨xin 1022 (by decide +kernel) rfl, xin 1023 (by decide +kernel) rfl⟩
set_option maxRecDepth 20000 in
theorem mX9_wrongShelf : xMd yX9_wrongShelf cX9_wrongShelf 2 (some .int) 1 := ⟨xin 1028 rfl rfl, xin 8 (by decide +kernel) rfl, ⟨by decide, by decide, by decide +kernel⟩, by decide⟩
theorem vX9_wrongShelf : Cond.instanceMethod yX9_wrongShelf ∈ xT ∧ Cond.selects yX9_wrongShelf.cls yX9_wrongShelf yX9_wrongShelf ∈ xT := ⟨xin 1027 (by decide +kernel) rfl, xins 41 (by decide +kernel) rfl⟩
set_option maxRecDepth 20000 in
theorem mX9_shelves : xMd yX9_shelves cX9_shelves 7 (some .int) 1 := ⟨xin 1032 rfl rfl, xin 8 (by decide +kernel) rfl, ⟨by decide, by decide, by decide +kernel⟩, by decide⟩
theorem vX9_shelves : Cond.instanceMethod yX9_shelves ∈ xT ∧ Cond.selects yX9_shelves.cls yX9_shelves yX9_shelves ∈ xT := ⟨xin 1031 (by decide +kernel) rfl, xins 42 (by decide +kernel) rfl⟩
set_option maxRecDepth 20000 in
theorem mX9_wins : xMd yX9_wins cX9_wins 10 (some .int) 4 := ⟨xin 1036 rfl rfl, xin 8 (by decide +kernel) rfl, ⟨by decide, by decide, by decide +kernel⟩, by decide⟩
theorem vX9_wins : Cond.instanceMethod yX9_wins ∈ xT ∧ Cond.selects yX9_wins.cls yX9_wins yX9_wins ∈ xT := ⟨xin 1035 (by decide +kernel) rfl, xins 43 (by decide +kernel) rfl⟩
set_option maxRecDepth 20000 in
theorem mX9_stands : xMd yX9_stands cX9_stands 5 (some .boolean) 2 := ⟨xin 1040 rfl rfl, xin 8 (by decide +kernel) rfl, ⟨by decide, by decide, by decide +kernel⟩, by decide⟩
theorem vX9_stands : Cond.instanceMethod yX9_stands ∈ xT ∧ Cond.selects yX9_stands.cls yX9_stands yX9_stands ∈ xT := ⟨xin 1039 (by decide +kernel) rfl, xins 44 (by decide +kernel) rfl⟩
set_option maxRecDepth 20000 in
theorem mX9_row : xMd yX9_row cX9_row 5 (some .int) 2 := ⟨xin 1044 rfl rfl, xin 8 (by decide +kernel) rfl, ⟨by decide, by decide, by decide +kernel⟩, by decide⟩
theorem vX9_row : Cond.instanceMethod yX9_row ∈ xT ∧ Cond.selects yX9_row.cls yX9_row yX9_row ∈ xT := ⟨xin 1042 (by decide +kernel) rfl, xin 1043 (by decide +kernel) rfl⟩
set_option maxRecDepth 20000 in
theorem mX9_quarrel : xMd yX9_quarrel cX9_quarrel 5 (some .int) 1 := ⟨xin 1048 rfl rfl, xin 8 (by decide +kernel) rfl, ⟨by decide, by decide, by decide +kernel⟩, by decide⟩
theorem vX9_quarrel : Cond.instanceMethod yX9_quarrel ∈ xT ∧ Cond.selects yX9_quarrel.cls yX9_quarrel yX9_quarrel ∈ xT := ⟨xin 1046 (by decide +kernel) rfl, xin 1047 (by decide +kernel) rfl⟩
set_option maxRecDepth 20000 in
theorem mX9_part : xMd yX9_part cX9_part 5 (some .int) 2 := ⟨xin 1052 rfl rfl, xin 8 (by decide +kernel) rfl, ⟨by decide, by decide, by decide +kernel⟩, by decide⟩
theorem vX9_part : Cond.instanceMethod yX9_part ∈ xT ∧ Cond.selects yX9_part.cls yX9_part yX9_part ∈ xT := ⟨xin 1050 (by decide +kernel) rfl, xin 1051 (by decide +kernel) rfl⟩
set_option maxRecDepth 20000 in
theorem mX9_clash : xMd yX9_clash cX9_clash 4 (some .int) 3 := ⟨xin 1056 rfl rfl, xin 8 (by decide +kernel) rfl, ⟨by decide, by decide, by decide +kernel⟩, by decide⟩
theorem vX9_clash : Cond.instanceMethod yX9_clash ∈ xT ∧ Cond.selects yX9_clash.cls yX9_clash yX9_clash ∈ xT := ⟨xin 1054 (by decide +kernel) rfl, xin 1055 (by decide +kernel) rfl⟩
set_option maxRecDepth 20000 in
theorem mX9_fake : xMd yX9_fake cX9_fake 2 (some .int) 1 := ⟨xin 1060 rfl rfl, xin 8 (by decide +kernel) rfl, ⟨by decide, by decide, by decide +kernel⟩, by decide⟩
theorem vX9_fake : Cond.instanceMethod yX9_fake ∈ xT ∧ Cond.selects yX9_fake.cls yX9_fake yX9_fake ∈ xT := ⟨xin 1058 (by decide +kernel) rfl, xin 1059 (by decide +kernel) rfl⟩
set_option maxRecDepth 20000 in
theorem mX9_isBeast : xMd yX9_isBeast cX9_isBeast 1 (some .boolean) 1 := ⟨xin 1063 rfl rfl, xin 8 (by decide +kernel) rfl, ⟨by decide, by decide, by decide +kernel⟩, by decide⟩
theorem sX9_isBeast : Cond.static yX9_isBeast ∈ xT := xin 1062 (by decide +kernel) rfl
set_option maxRecDepth 20000 in
theorem mX9_isFake : xMd yX9_isFake cX9_isFake 5 (some .boolean) 1 := ⟨xin 1067 rfl rfl, xin 8 (by decide +kernel) rfl, ⟨by decide, by decide, by decide +kernel⟩, by decide⟩
theorem vX9_isFake : Cond.instanceMethod yX9_isFake ∈ xT ∧ Cond.selects yX9_isFake.cls yX9_isFake yX9_isFake ∈ xT := ⟨xin 1066 (by decide +kernel) rfl, xins 45 (by decide +kernel) rfl⟩
set_option maxRecDepth 20000 in
theorem mX9_least : xMd yX9_least cX9_least 4 (some .int) 1 := ⟨xin 1071 rfl rfl, xin 8 (by decide +kernel) rfl, ⟨by decide, by decide, by decide +kernel⟩, by decide⟩
theorem vX9_least : Cond.instanceMethod yX9_least ∈ xT ∧ Cond.selects yX9_least.cls yX9_least yX9_least ∈ xT := ⟨xin 1069 (by decide +kernel) rfl, xin 1070 (by decide +kernel) rfl⟩
set_option maxRecDepth 20000 in
theorem mX9_count : xMd yX9_count cX9_count 5 (some .int) 1 := ⟨xin 1075 rfl rfl, xin 8 (by decide +kernel) rfl, ⟨by decide, by decide, by decide +kernel⟩, by decide⟩
theorem vX9_count : Cond.instanceMethod yX9_count ∈ xT ∧ Cond.selects yX9_count.cls yX9_count yX9_count ∈ xT := ⟨xin 1073 (by decide +kernel) rfl, xin 1074 (by decide +kernel) rfl⟩
theorem lX8_3 : Cond.methodLink RX8 3 objectInit ∈ xT := xin 18 (by decide +kernel) rfl
theorem lX8_19 : Cond.methodLink RX8 19 yX1_init ∈ xT := xin 23 (by decide +kernel) rfl
theorem lX8_66 : Cond.methodLink RX8 66 yX8_isWord ∈ xT := xin 259 (by decide +kernel) rfl
theorem lX8_70 : Cond.methodLink RX8 70 yX8_refuse ∈ xT := xin 262 (by decide +kernel) rfl
theorem lX8_74 : Cond.methodLink RX8 74 yX1_tellMeaning ∈ xT := xin 266 (by decide +kernel) rfl
theorem lX8_81 : Cond.methodLink RX8 81 yX8_isCatalogue ∈ xT := xin 282 (by decide +kernel) rfl
theorem lX8_84 : Cond.methodLink RX8 84 yX1_tellYear ∈ xT := xin 285 (by decide +kernel) rfl
theorem lX8_87 : Cond.methodLink RX8 87 yX8_hasOtherBits ∈ xT := xin 293 (by decide +kernel) rfl
theorem lX8_94 : Cond.methodLink RX8 94 yX1_addEntry ∈ xT := xin 296 (by decide +kernel) rfl
theorem lX8_98 : Cond.methodLink RX8 98 yX1_tellSpare ∈ xT := xin 304 (by decide +kernel) rfl
theorem lX8_101 : Cond.methodLink RX8 101 yX1_tellFade ∈ xT := xin 308 (by decide +kernel) rfl
theorem lX8_104 : Cond.methodLink RX8 104 yX8_areTwo ∈ xT := xin 316 (by decide +kernel) rfl
theorem lX8_107 : Cond.methodLink RX8 107 yX8_isEntry ∈ xT := xin 319 (by decide +kernel) rfl
theorem lX8_110 : Cond.methodLink RX8 110 yX1_isBarTold ∈ xT := xin 323 (by decide +kernel) rfl
theorem lX8_117 : Cond.methodLink RX8 117 yX1_tellBar ∈ xT := xin 327 (by decide +kernel) rfl
theorem lX8_121 : Cond.methodLink RX8 121 yX1_likeness ∈ xT := xin 335 (by decide +kernel) rfl
theorem lX8_124 : Cond.methodLink RX8 124 yX8_bestJoining ∈ xT := xin 360 (by decide +kernel) rfl
theorem lX8_141 : Cond.methodLink RX8 141 yX8_isWay ∈ xT := xin 455 (by decide +kernel) rfl
theorem lX8_144 : Cond.methodLink RX8 144 yX8_followChain ∈ xT := xin 458 (by decide +kernel) rfl
theorem lX8_151 : Cond.methodLink RX8 151 yX1_isSameText ∈ xT := xin 467 (by decide +kernel) rfl
theorem lX8_154 : Cond.methodLink RX8 154 yX8_isThing ∈ xT := xin 475 (by decide +kernel) rfl
theorem lX8_157 : Cond.methodLink RX8 157 yX8_daysRefusal ∈ xT := xin 478 (by decide +kernel) rfl
theorem lX8_162 : Cond.methodLink RX8 162 yX5_addRecord ∈ xT := xin 482 (by decide +kernel) rfl
theorem lX8_173 : Cond.methodLink RX8 173 yX5_takeBack ∈ xT := xin 496 (by decide +kernel) rfl
theorem lX8_176 : Cond.methodLink RX8 176 yX5_lastPlace ∈ xT := xin 504 (by decide +kernel) rfl
theorem lX8_180 : Cond.methodLink RX8 180 yX5_quarrelDays ∈ xT := xin 516 (by decide +kernel) rfl
theorem lX8_183 : Cond.methodLink RX8 183 yX2_replay ∈ xT := xin 524 (by decide +kernel) rfl
theorem lX8_197 : Cond.methodLink RX8 197 yX2_heldSince ∈ xT := xin 537 (by decide +kernel) rfl
theorem lX8_201 : Cond.methodLink RX8 201 yX8_needsTwo ∈ xT := xin 551 (by decide +kernel) rfl
theorem lX8_205 : Cond.methodLink RX8 205 yX6_addSaying ∈ xT := xin 554 (by decide +kernel) rfl
theorem lX8_208 : Cond.methodLink RX8 208 yX8_shelfRefusal ∈ xT := xin 562 (by decide +kernel) rfl
theorem lX8_211 : Cond.methodLink RX8 211 yX8_bestRow ∈ xT := xin 566 (by decide +kernel) rfl
theorem lX8_227 : Cond.methodLink RX8 227 yX0_tellKind ∈ xT := xin 676 (by decide +kernel) rfl
theorem lX8_230 : Cond.methodLink RX8 230 yX0_tellClash ∈ xT := xin 684 (by decide +kernel) rfl
theorem lX8_234 : Cond.methodLink RX8 234 yX0_isFake ∈ xT := xin 692 (by decide +kernel) rfl
theorem lX8_237 : Cond.methodLink RX8 237 yX0_leastWithout ∈ xT := xin 700 (by decide +kernel) rfl
theorem lX8_246 : Cond.methodLink RX8 246 yJ6_bitCount_0f7a4 ∈ xT := xin 565 (by decide +kernel) rfl
theorem lX8_251 : Cond.methodLink RX8 251 yJ9_max_7cf53 ∈ xT := xin 462 (by decide +kernel) rfl
theorem lX8_263 : Cond.methodLink RX8 263 yX3_solve ∈ xT := xin 392 (by decide +kernel) rfl
theorem lX8_268 : Cond.methodLink RX8 268 yX7_rebuild ∈ xT := xin 623 (by decide +kernel) rfl
theorem lX0_3 : Cond.methodLink RX0 3 objectInit ∈ xT := xin 212 (by decide +kernel) rfl
theorem lX0_22 : Cond.methodLink RX0 22 yJ6_bitCount_0f7a4 ∈ xT := xin 704 (by decide +kernel) rfl
theorem lX0_28 : Cond.methodLink RX0 28 yX0_isFake ∈ xT := xin 705 (by decide +kernel) rfl
theorem lX1_3 : Cond.methodLink RX1 3 objectInit ∈ xT := xin 26 (by decide +kernel) rfl
theorem lX1_56 : Cond.methodLink RX1 56 yX1_sensesOf ∈ xT := xin 270 (by decide +kernel) rfl
theorem lX1_60 : Cond.methodLink RX1 60 yJ9_abs_0f7a4 ∈ xT := xin 339 (by decide +kernel) rfl
theorem lX1_65 : Cond.methodLink RX1 65 yX1_isBarTold ∈ xT := xin 342 (by decide +kernel) rfl
theorem lX1_69 : Cond.methodLink RX1 69 yX1_fadesAsItMay ∈ xT := xin 343 (by decide +kernel) rfl
theorem lX1_72 : Cond.methodLink RX1 72 yJ6_bitCount_0f7a4 ∈ xT := xin 347 (by decide +kernel) rfl
theorem lX1_77 : Cond.methodLink RX1 77 yJ9_max_7cf53 ∈ xT := xin 353 (by decide +kernel) rfl
theorem lX2_3 : Cond.methodLink RX2 3 objectInit ∈ xT := xin 159 (by decide +kernel) rfl
theorem lX2_40 : Cond.methodLink RX2 40 yX5_counts ∈ xT := xin 528 (by decide +kernel) rfl
theorem lX2_50 : Cond.methodLink RX2 50 yX2_follow ∈ xT := xin 529 (by decide +kernel) rfl
theorem lX2_54 : Cond.methodLink RX2 54 yX2_replay ∈ xT := xin 541 (by decide +kernel) rfl
theorem lX2_58 : Cond.methodLink RX2 58 yX5_lastChange ∈ xT := xin 542 (by decide +kernel) rfl
theorem lX3_3 : Cond.methodLink RX3 3 objectInit ∈ xT := xin 369 (by decide +kernel) rfl
theorem lX3_39 : Cond.methodLink RX3 39 yX3_readLikes ∈ xT := xin 396 (by decide +kernel) rfl
theorem lX3_43 : Cond.methodLink RX3 43 yX3_weighStates ∈ xT := xin 401 (by decide +kernel) rfl
theorem lX3_51 : Cond.methodLink RX3 51 yX3_tellFirst ∈ xT := xin 415 (by decide +kernel) rfl
theorem lX3_55 : Cond.methodLink RX3 55 yX3_tellWays ∈ xT := xin 419 (by decide +kernel) rfl
theorem lX3_58 : Cond.methodLink RX3 58 yX1_likeness ∈ xT := xin 400 (by decide +kernel) rfl
theorem lX3_62 : Cond.methodLink RX3 62 yJ6_bitCount_0f7a4 ∈ xT := xin 405 (by decide +kernel) rfl
theorem lX3_68 : Cond.methodLink RX3 68 yX3_weighState ∈ xT := xin 406 (by decide +kernel) rfl
theorem lX3_71 : Cond.methodLink RX3 71 yX3_valueOf ∈ xT := xin 410 (by decide +kernel) rfl
theorem lX3_75 : Cond.methodLink RX3 75 yJ9_max_7cf53 ∈ xT := xin 414 (by decide +kernel) rfl
theorem lX3_83 : Cond.methodLink RX3 83 yX3_passOn ∈ xT := xin 423 (by decide +kernel) rfl
theorem lX3_90 : Cond.methodLink RX3 90 yX3_sumWays ∈ xT := xin 435 (by decide +kernel) rfl
theorem lX3_95 : Cond.methodLink RX3 95 yX3_addWays ∈ xT := xin 427 (by decide +kernel) rfl
theorem lX3_100 : Cond.methodLink RX3 100 yJ9_min_7cf53 ∈ xT := xin 432 (by decide +kernel) rfl
theorem lX4_3 : Cond.methodLink RX4 3 objectInit ∈ xT := xin 84 (by decide +kernel) rfl
theorem lX5_3 : Cond.methodLink RX5 3 objectInit ∈ xT := xin 116 (by decide +kernel) rfl
theorem lX5_41 : Cond.methodLink RX5 41 yX5_counts ∈ xT := xin 508 (by decide +kernel) rfl
theorem lX5_45 : Cond.methodLink RX5 45 yJ9_max_7cf53 ∈ xT := xin 546 (by decide +kernel) rfl
theorem lX6_3 : Cond.methodLink RX6 3 objectInit ∈ xT := xin 184 (by decide +kernel) rfl
theorem lX7_3 : Cond.methodLink RX7 3 objectInit ∈ xT := xin 575 (by decide +kernel) rfl
theorem lX7_60 : Cond.methodLink RX7 60 yX7_readThings ∈ xT := xin 627 (by decide +kernel) rfl
theorem lX7_64 : Cond.methodLink RX7 64 yX7_clearTrust ∈ xT := xin 631 (by decide +kernel) rfl
theorem lX7_79 : Cond.methodLink RX7 79 yX7_addTrust ∈ xT := xin 635 (by decide +kernel) rfl
theorem lX7_83 : Cond.methodLink RX7 83 yX7_weighStates ∈ xT := xin 639 (by decide +kernel) rfl
theorem lX7_86 : Cond.methodLink RX7 86 yX7_tellRow ∈ xT := xin 656 (by decide +kernel) rfl
theorem lX7_89 : Cond.methodLink RX7 89 yX7_readGains ∈ xT := xin 643 (by decide +kernel) rfl
theorem lX7_92 : Cond.methodLink RX7 92 yX7_weighState ∈ xT := xin 647 (by decide +kernel) rfl
theorem lX7_96 : Cond.methodLink RX7 96 yX7_valueOf ∈ xT := xin 651 (by decide +kernel) rfl
theorem lX7_100 : Cond.methodLink RX7 100 yJ9_max_7cf53 ∈ xT := xin 655 (by decide +kernel) rfl
theorem lX7_105 : Cond.methodLink RX7 105 yX7_firstBest ∈ xT := xin 660 (by decide +kernel) rfl
theorem lL_9 : Cond.methodLink RL 9 yX8_init ∈ xT := xin 15 (by decide +kernel) rfl
theorem lL_12 : Cond.methodLink RL 12 yX9_init ∈ xT := xin 712 (by decide +kernel) rfl
theorem lL_13 : Cond.methodLink RL 13 yX8_means ∈ xT := xin 255 (by decide +kernel) rfl
theorem lL_17 : Cond.methodLink RL 17 yX9_means ∈ xT := xin 855 (by decide +kernel) rfl
theorem lL_18 : Cond.methodLink RL 18 yX8_sense ∈ xT := xin 274 (by decide +kernel) rfl
theorem lL_22 : Cond.methodLink RL 22 yX9_sense ∈ xT := xin 866 (by decide +kernel) rfl
theorem lL_23 : Cond.methodLink RL 23 yX8_year ∈ xT := xin 278 (by decide +kernel) rfl
theorem lL_26 : Cond.methodLink RL 26 yX9_year ∈ xT := xin 874 (by decide +kernel) rfl
theorem lL_27 : Cond.methodLink RL 27 yX8_entry ∈ xT := xin 289 (by decide +kernel) rfl
theorem lL_31 : Cond.methodLink RL 31 yX9_entry ∈ xT := xin 881 (by decide +kernel) rfl
theorem lL_32 : Cond.methodLink RL 32 yX8_set ∈ xT := xin 300 (by decide +kernel) rfl
theorem lL_35 : Cond.methodLink RL 35 yX9_set ∈ xT := xin 886 (by decide +kernel) rfl
theorem lL_36 : Cond.methodLink RL 36 yX8_bar ∈ xT := xin 312 (by decide +kernel) rfl
theorem lL_40 : Cond.methodLink RL 40 yX9_bar ∈ xT := xin 890 (by decide +kernel) rfl
theorem lL_41 : Cond.methodLink RL 41 yX8_like ∈ xT := xin 331 (by decide +kernel) rfl
theorem lL_44 : Cond.methodLink RL 44 yX9_like ∈ xT := xin 902 (by decide +kernel) rfl
theorem lL_45 : Cond.methodLink RL 45 yX8_join ∈ xT := xin 356 (by decide +kernel) rfl
theorem lL_48 : Cond.methodLink RL 48 yX9_join ∈ xT := xin 919 (by decide +kernel) rfl
theorem lL_49 : Cond.methodLink RL 49 yX8_joined ∈ xT := xin 439 (by decide +kernel) rfl
theorem lL_53 : Cond.methodLink RL 53 yX9_joined ∈ xT := xin 944 (by decide +kernel) rfl
theorem lL_54 : Cond.methodLink RL 54 yX8_bests ∈ xT := xin 443 (by decide +kernel) rfl
theorem lL_57 : Cond.methodLink RL 57 yX9_bests ∈ xT := xin 948 (by decide +kernel) rfl
theorem lL_58 : Cond.methodLink RL 58 yX8_sure ∈ xT := xin 447 (by decide +kernel) rfl
theorem lL_61 : Cond.methodLink RL 61 yX9_sure ∈ xT := xin 952 (by decide +kernel) rfl
theorem lL_62 : Cond.methodLink RL 62 yX8_chain ∈ xT := xin 451 (by decide +kernel) rfl
theorem lL_65 : Cond.methodLink RL 65 yX9_chain ∈ xT := xin 960 (by decide +kernel) rfl
theorem lL_66 : Cond.methodLink RL 66 yX8_copied ∈ xT := xin 463 (by decide +kernel) rfl
theorem lL_69 : Cond.methodLink RL 69 yX9_copied ∈ xT := xin 964 (by decide +kernel) rfl
theorem lL_70 : Cond.methodLink RL 70 yX8_sight ∈ xT := xin 471 (by decide +kernel) rfl
theorem lL_73 : Cond.methodLink RL 73 yX9_sight ∈ xT := xin 968 (by decide +kernel) rfl
theorem lL_74 : Cond.methodLink RL 74 yX8_move ∈ xT := xin 487 (by decide +kernel) rfl
theorem lL_77 : Cond.methodLink RL 77 yX9_move ∈ xT := xin 977 (by decide +kernel) rfl
theorem lL_78 : Cond.methodLink RL 78 yX8_withdraw ∈ xT := xin 491 (by decide +kernel) rfl
theorem lL_82 : Cond.methodLink RL 82 yX9_withdraw ∈ xT := xin 981 (by decide +kernel) rfl
theorem lL_83 : Cond.methodLink RL 83 yX8_where ∈ xT := xin 500 (by decide +kernel) rfl
theorem lL_86 : Cond.methodLink RL 86 yX9_where ∈ xT := xin 985 (by decide +kernel) rfl
theorem lL_87 : Cond.methodLink RL 87 yX8_quarrels ∈ xT := xin 512 (by decide +kernel) rfl
theorem lL_90 : Cond.methodLink RL 90 yX9_quarrels ∈ xT := xin 993 (by decide +kernel) rfl
theorem lL_91 : Cond.methodLink RL 91 yX8_holds ∈ xT := xin 520 (by decide +kernel) rfl
theorem lL_94 : Cond.methodLink RL 94 yX9_holds ∈ xT := xin 997 (by decide +kernel) rfl
theorem lL_95 : Cond.methodLink RL 95 yX8_since ∈ xT := xin 533 (by decide +kernel) rfl
theorem lL_98 : Cond.methodLink RL 98 yX9_since ∈ xT := xin 1009 (by decide +kernel) rfl
theorem lL_99 : Cond.methodLink RL 99 yX8_visitor ∈ xT := xin 547 (by decide +kernel) rfl
theorem lL_102 : Cond.methodLink RL 102 yX9_visitor ∈ xT := xin 1017 (by decide +kernel) rfl
theorem lL_103 : Cond.methodLink RL 103 yX8_shelf ∈ xT := xin 558 (by decide +kernel) rfl
theorem lL_106 : Cond.methodLink RL 106 yX9_shelf ∈ xT := xin 1021 (by decide +kernel) rfl
theorem lL_107 : Cond.methodLink RL 107 yX8_row ∈ xT := xin 664 (by decide +kernel) rfl
theorem lL_110 : Cond.methodLink RL 110 yX9_row ∈ xT := xin 1041 (by decide +kernel) rfl
theorem lL_111 : Cond.methodLink RL 111 yX8_quarrel ∈ xT := xin 668 (by decide +kernel) rfl
theorem lL_114 : Cond.methodLink RL 114 yX9_quarrel ∈ xT := xin 1045 (by decide +kernel) rfl
theorem lL_115 : Cond.methodLink RL 115 yX8_part ∈ xT := xin 672 (by decide +kernel) rfl
theorem lL_118 : Cond.methodLink RL 118 yX9_part ∈ xT := xin 1049 (by decide +kernel) rfl
theorem lL_119 : Cond.methodLink RL 119 yX8_clash ∈ xT := xin 680 (by decide +kernel) rfl
theorem lL_123 : Cond.methodLink RL 123 yX9_clash ∈ xT := xin 1053 (by decide +kernel) rfl
theorem lL_124 : Cond.methodLink RL 124 yX8_fake ∈ xT := xin 688 (by decide +kernel) rfl
theorem lL_127 : Cond.methodLink RL 127 yX9_fake ∈ xT := xin 1057 (by decide +kernel) rfl
theorem lL_128 : Cond.methodLink RL 128 yX8_least ∈ xT := xin 696 (by decide +kernel) rfl
theorem lL_131 : Cond.methodLink RL 131 yX9_least ∈ xT := xin 1068 (by decide +kernel) rfl
theorem lL_132 : Cond.methodLink RL 132 yX8_count ∈ xT := xin 706 (by decide +kernel) rfl
theorem lL_135 : Cond.methodLink RL 135 yX9_count ∈ xT := xin 1072 (by decide +kernel) rfl
theorem lX9_1 : Cond.methodLink RX9 1 objectInit ∈ xT := xin 715 (by decide +kernel) rfl
theorem lX9_126 : Cond.methodLink RX9 126 yX9_isIn ∈ xT := xin 859 (by decide +kernel) rfl
theorem lX9_130 : Cond.methodLink RX9 130 yX9_refuse ∈ xT := xin 862 (by decide +kernel) rfl
theorem lX9_134 : Cond.methodLink RX9 134 yX9_senseOf ∈ xT := xin 870 (by decide +kernel) rfl
theorem lX9_137 : Cond.methodLink RX9 137 yX9_wrong ∈ xT := xin 878 (by decide +kernel) rfl
theorem lX9_145 : Cond.methodLink RX9 145 yX9_isEntry ∈ xT := xin 894 (by decide +kernel) rfl
theorem lX9_148 : Cond.methodLink RX9 148 yX9_isBarred ∈ xT := xin 898 (by decide +kernel) rfl
theorem lX9_151 : Cond.methodLink RX9 151 yJ9_abs_0f7a4 ∈ xT := xin 910 (by decide +kernel) rfl
theorem lX9_156 : Cond.methodLink RX9 156 yX9_senses ∈ xT := xin 911 (by decide +kernel) rfl
theorem lX9_159 : Cond.methodLink RX9 159 yX9_bitsOf ∈ xT := xin 915 (by decide +kernel) rfl
theorem lX9_162 : Cond.methodLink RX9 162 yJ9_max_7cf53 ∈ xT := xin 918 (by decide +kernel) rfl
theorem lX9_166 : Cond.methodLink RX9 166 yX9_likeOf ∈ xT := xin 906 (by decide +kernel) rfl
theorem lX9_170 : Cond.methodLink RX9 170 yX9_at ∈ xT := xin 939 (by decide +kernel) rfl
theorem lX9_174 : Cond.methodLink RX9 174 yJ9_min_7cf53 ∈ xT := xin 943 (by decide +kernel) rfl
theorem lX9_177 : Cond.methodLink RX9 177 yX9_measure ∈ xT := xin 931 (by decide +kernel) rfl
theorem lX9_181 : Cond.methodLink RX9 181 yX9_finds ∈ xT := xin 935 (by decide +kernel) rfl
theorem lX9_184 : Cond.methodLink RX9 184 yX9_areBooks ∈ xT := xin 923 (by decide +kernel) rfl
theorem lX9_187 : Cond.methodLink RX9 187 yX9_joins ∈ xT := xin 927 (by decide +kernel) rfl
theorem lX9_190 : Cond.methodLink RX9 190 yX9_isSure ∈ xT := xin 956 (by decide +kernel) rfl
theorem lX9_195 : Cond.methodLink RX9 195 yX9_wrongDays ∈ xT := xin 972 (by decide +kernel) rfl
theorem lX9_205 : Cond.methodLink RX9 205 yX9_isSight ∈ xT := xin 989 (by decide +kernel) rfl
theorem lX9_208 : Cond.methodLink RX9 208 yX9_isMove ∈ xT := xin 1005 (by decide +kernel) rfl
theorem lX9_220 : Cond.methodLink RX9 220 yX9_goes ∈ xT := xin 1001 (by decide +kernel) rfl
theorem lX9_224 : Cond.methodLink RX9 224 yX9_changed ∈ xT := xin 1013 (by decide +kernel) rfl
theorem lX9_230 : Cond.methodLink RX9 230 yX9_stands ∈ xT := xin 1037 (by decide +kernel) rfl
theorem lX9_236 : Cond.methodLink RX9 236 yX9_wins ∈ xT := xin 1033 (by decide +kernel) rfl
theorem lX9_239 : Cond.methodLink RX9 239 yX9_wrongShelf ∈ xT := xin 1025 (by decide +kernel) rfl
theorem lX9_242 : Cond.methodLink RX9 242 yX9_shelves ∈ xT := xin 1029 (by decide +kernel) rfl
theorem lX9_245 : Cond.methodLink RX9 245 yX9_isBeast ∈ xT := xin 1061 (by decide +kernel) rfl
theorem lX9_249 : Cond.methodLink RX9 249 yX9_isFake ∈ xT := xin 1064 (by decide +kernel) rfl
theorem lX8_30 : Cond.methodLinkNest RX8 30 yX4_init RX8 ∈ tables_1 := List.mem_of_getElem? (i := 81) (by decide +kernel)
theorem lX8_33 : Cond.methodLinkNest RX8 33 yX5_init RX8 ∈ tables_1 := List.mem_of_getElem? (i := 113) (by decide +kernel)
theorem lX8_43 : Cond.methodLinkNest RX8 43 yX2_init RX8 ∈ tables_1 := List.mem_of_getElem? (i := 156) (by decide +kernel)
theorem lX8_50 : Cond.methodLinkNest RX8 50 yX6_init RX8 ∈ tables_1 := List.mem_of_getElem? (i := 181) (by decide +kernel)
theorem lX8_57 : Cond.methodLinkNest RX8 57 yX0_init RX8 ∈ tables_1 := List.mem_of_getElem? (i := 209) (by decide +kernel)
theorem lX8_262 : Cond.methodLinkNest RX8 262 yX3_init RX8 ∈ tables_1 := List.mem_of_getElem? (i := 366) (by decide +kernel)
theorem lX8_267 : Cond.methodLinkNest RX8 267 yX7_init RX8 ∈ tables_1 := List.mem_of_getElem? (i := 572) (by decide +kernel)
theorem oi_i : Cond.instanceMethod objectInit ∈ xT := xin 19 (by decide +kernel) rfl
set_option maxRecDepth 20000 in
theorem oi_c : Cond.code objectInit ⟨#[0xb1]⟩ 1 none ∈ xT := xin 20 rfl rfl
theorem ac_i : Cond.arrayClass .int ∈ xT := xin 76 (by decide +kernel) rfl
theorem ac_l : Cond.arrayClass .long ∈ xT := xin 77 (by decide +kernel) rfl
theorem ac_z : Cond.arrayClass .boolean ∈ xT := xin 110 (by decide +kernel) rfl
end
section
/-- a contract with one answer and one heap behind it -/
def CD (l : Launch) (G : xG) (y : MethodName) (cc : ByteArray) (nL : Nat) (ret : Option FieldType) (d mc ms : Nat) (av : List Value) (h : List va_E) (r : Option Value) (h1 : List va_E) : Prop :=
  CM l G y cc nL ret d mc ms av h (fun v h2 => v = r ∧ h2 = h1)
theorem gn {h : List va_E} {i j : Nat} {c c1 : va_E} (hij : i ≠ j) (e : h[i]? = some c) : (h.set j c1)[i]? = some c := by
  rw [List.getElem?_set_ne (Ne.symm hij)]; exact e
theorem gs {h : List va_E} {i : Nat} {c c1 : va_E} (e : h[i]? = some c) : (h.set i c1)[i]? = some c1 := by
  have hl : i < h.length := (List.getElem?_eq_some_iff.mp e).1
  rw [List.getElem?_set_self hl]
theorem ga {h : List va_E} {i : Nat} {c c1 : va_E} (e : h[i]? = some c) : (h ++ [c1])[i]? = some c := by
  have hl : i < h.length := (List.getElem?_eq_some_iff.mp e).1
  rw [List.getElem?_append_left hl]; exact e
theorem gp {h : List va_E} {i : Nat} {c1 : va_E} (e : h.length = i) : (h ++ [c1])[i]? = some c1 := by
  subst e; simp
theorem nv_add {x z : Int32} {a b : Nat} (h1 : x = nI a) (h2 : z = nI b) : x + z = nI (a + b) := by rw [h1, h2, nI_add]
theorem nv_mul {x z : Int32} {a b : Nat} (h1 : x = nI a) (h2 : z = nI b) : x * z = nI (a * b) := by rw [h1, h2, pk_mul]
theorem nv_sub {x z : Int32} {a b : Nat} (h1 : x = nI a) (h2 : z = nI b) (h : b ≤ a) : x - z = nI (a - b) := by rw [h1, h2, pk_sub h]
theorem nv_inc {x : Int32} {a : Nat} (h1 : x = nI a) : x + Int32.ofInt 1 = nI (a + 1) := by rw [h1]; exact nI_1 a
theorem nv_lt {x z : Int32} {a b : Nat} (h1 : x = nI a) (h2 : z = nI b) (ha : a < 2 ^ 31) (hb : b < 2 ^ 31) : x < z ↔ a < b := by rw [h1, h2]; exact nI_ltI ha hb
theorem nv_le {x z : Int32} {a b : Nat} (h1 : x = nI a) (h2 : z = nI b) (ha : a < 2 ^ 31) (hb : b < 2 ^ 31) : x ≤ z ↔ a ≤ b := by rw [h1, h2]; exact nI_leI ha hb
theorem nv_eq {x z : Int32} {a b : Nat} (h1 : x = nI a) (h2 : z = nI b) (ha : a < 2 ^ 31) (hb : b < 2 ^ 31) : x = z ↔ a = b := by rw [h1, h2]; exact nI_eq ha hb
theorem i_lt (a b : Int32) : a < b ↔ a.toInt < b.toInt := Int32.lt_iff_toInt_lt
theorem i_le (a b : Int32) : a ≤ b ↔ a.toInt ≤ b.toInt := Int32.le_iff_toInt_le
theorem i_eq (a b : Int32) : a = b ↔ a.toInt = b.toInt := Int32.toInt_inj.symm
/-- an int that isn't below 0 and lies below a bound is a number -/
theorem i_nat {x : Int32} {N : Nat} (h0 : 0 ≤ x.toInt) (h1 : x.toInt < N) : ∃ a : Nat, a < N ∧ x = nI a := by
  refine ⟨x.toInt.toNat, by omega, ?_⟩
  rw [i_eq, nI_toInt (by have := Int32.toInt_lt x; omega)]
  omega
theorem i_toNat {x : Int32} {a : Nat} (h : x = nI a) (ha : a < 2 ^ 31) : x.toInt = (a : Int) := by rw [h]; exact nI_toInt ha
section AV
variable {l : Launch} {G : xG} {y : MethodName} {cc : ByteArray} {nL : Nat} {ret : Option FieldType} {R : Room} {E : Array Value → State → Prop} {QF : List Frame → Array Value → State → State → Prop} {k n pc : Nat} {lv : List (Nat × Value)} {st : List Value} {h : List va_E} {mc ms : Nat} {post : Option Value → List va_E → Prop}
/-- a computed number gets a name -/
theorem aw_top {x : Int32} (kk : ∀ v, v = x → AW l G y cc nL ret R E QF k n pc lv (.int v :: st) h) : AW l G y cc nL ret R E QF k n pc lv (.int x :: st) h := kk x rfl
theorem aw_toe {x : Int32} (v : Int32) (e : x = v) (kk : AW l G y cc nL ret R E QF k n pc lv (.int v :: st) h) : AW l G y cc nL ret R E QF k n pc lv (.int x :: st) h := e ▸ kk
theorem aw_heap {h1 : List va_E} (e : h = h1) (kk : AW l G y cc nL ret R E QF k n pc lv st h1) : AW l G y cc nL ret R E QF k n pc lv st h := e ▸ kk
theorem aw_dS {idx : Nat} {y' : MethodName} {cc' : ByteArray} {nL' : Nat} {ret' : Option FieldType} {np d' mc' ms' : Nat} {r : Value} {h1 : List va_E} {st0 : List Value} (As rest : List Value) (Lk : Cond.methodLink y.cls idx y' ∈ xT) (Ls : Cond.static y' ∈ xT) (Lm : xMd y' cc' nL' ret' np) (hd : decode cc pc = .ok (.invokestatic idx, 3)) (hM : CD l G y' cc' nL' ret' d' mc' ms' As h (some r) h1) (hn : As.length = np) (hst : (rest.map fun v => v.category).sum ≤ 8) (hR : d' + 1 ≤ R.frames ∧ 8 + (nL' + 11) + 40 * d' ≤ R.locals) (hk : k + mc' ≤ R.cells ∧ n + ms' ≤ R.slots) (he : st0 = As.reverse ++ rest)
    (kk : AW l G y cc nL ret R E QF (k + mc') (n + ms') (pc + 3) lv (r :: rest) h1) : AW l G y cc nL ret R E QF k n pc lv st0 h := by
  refine aw_callS As rest Lk Ls Lm hd hM hn hst hR hk he ?_
  rintro v h2 ⟨rfl, rfl⟩
  exact kk
theorem aw_dV {idx i ci : Nat} {fs : List Value} {q : vw_C} {y' : MethodName} {cc' : ByteArray} {nL' : Nat} {ret' : Option FieldType} {np d' mc' ms' : Nat} {r : Value} {h1 : List va_E} {st0 : List Value} (As rest : List Value) (Lk : Cond.methodLink y.cls idx y' ∈ xT) (Ls : Cond.instanceMethod y' ∈ xT ∧ Cond.selects y'.cls y' y' ∈ xT) (Lm : xMd y' cc' nL' ret' np) (hd : decode cc pc = .ok (.invokevirtual idx, 3)) (hM : CD l G y' cc' nL' ret' d' mc' ms' (.ref (G.1 + i) :: As) h (some r) h1) (hc : h[i]? = some (.inr (ci, fs))) (hci : vwCl[ci]? = some q) (hr1 : q.1 = y'.cls) (hn : As.length = np) (hst : (rest.map fun v => v.category).sum ≤ 8) (hR : d' + 1 ≤ R.frames ∧ 8 + (nL' + 11) + 40 * d' ≤ R.locals) (hk : k + mc' ≤ R.cells ∧ n + ms' ≤ R.slots) (he : st0 = As.reverse ++ .ref (G.1 + i) :: rest)
    (kk : AW l G y cc nL ret R E QF (k + mc') (n + ms') (pc + 3) lv (r :: rest) h1) : AW l G y cc nL ret R E QF k n pc lv st0 h := by
  refine aw_callV As rest Lk Ls Lm hd hM hc hci hr1 hn hst hR hk he ?_
  rintro v h2 ⟨rfl, rfl⟩
  exact kk
theorem aw_dW {idx i ci : Nat} {fs : List Value} {q : vw_C} {y' : MethodName} {cc' : ByteArray} {nL' : Nat} {ret' : Option FieldType} {np d' mc' ms' : Nat} {h1 : List va_E} {st0 : List Value} (As rest : List Value) (Lk : Cond.methodLink y.cls idx y' ∈ xT) (Ls : Cond.instanceMethod y' ∈ xT ∧ Cond.selects y'.cls y' y' ∈ xT) (Lm : xMd y' cc' nL' ret' np) (hd : decode cc pc = .ok (.invokevirtual idx, 3)) (hM : CD l G y' cc' nL' ret' d' mc' ms' (.ref (G.1 + i) :: As) h none h1) (hc : h[i]? = some (.inr (ci, fs))) (hci : vwCl[ci]? = some q) (hr1 : q.1 = y'.cls) (hn : As.length = np) (hst : (rest.map fun v => v.category).sum ≤ 8) (hR : d' + 1 ≤ R.frames ∧ 8 + (nL' + 11) + 40 * d' ≤ R.locals) (hk : k + mc' ≤ R.cells ∧ n + ms' ≤ R.slots) (he : st0 = As.reverse ++ .ref (G.1 + i) :: rest)
    (kk : AW l G y cc nL ret R E QF (k + mc') (n + ms') (pc + 3) lv rest h1) : AW l G y cc nL ret R E QF k n pc lv st0 h := by
  refine aw_callV As rest Lk Ls Lm hd hM hc hci hr1 hn hst hR hk he ?_
  rintro v h2 ⟨rfl, rfl⟩
  exact kk
theorem aw_dI {idx i : Nat} {y' : MethodName} {cc' : ByteArray} {nL' : Nat} {np d' mc' ms' : Nat} {h1 : List va_E} {st0 : List Value} (As rest : List Value) (Lk : Cond.methodLink y.cls idx y' ∈ xT) (Ls : y'.name = "<init>" ∧ Cond.instanceMethod y' ∈ xT) (Lm : xMd y' cc' nL' none np) (hd : decode cc pc = .ok (.invokespecial idx, 3)) (hM : CD l G y' cc' nL' none d' mc' ms' (.ref i :: As) h none h1) (hn : As.length = np) (hst : (rest.map fun v => v.category).sum ≤ 8) (hR : d' + 1 ≤ R.frames ∧ 8 + (nL' + 11) + 40 * d' ≤ R.locals) (hk : k + mc' ≤ R.cells ∧ n + ms' ≤ R.slots) (he : st0 = As.reverse ++ .ref i :: rest)
    (kk : AW l G y cc nL ret R E QF (k + mc') (n + ms') (pc + 3) lv rest h1) : AW l G y cc nL ret R E QF k n pc lv st0 h := by
  refine aw_callI As rest Lk Ls Lm hd hM hn hst hR hk he ?_
  rintro v h2 ⟨rfl, rfl⟩
  exact kk
theorem aw_dN {idx i : Nat} {host : String} {y' : MethodName} {cc' : ByteArray} {nL' : Nat} {np d' mc' ms' : Nat} {h1 : List va_E} {st0 : List Value} (As rest : List Value) (Lk : Cond.methodLinkNest y.cls idx y' host ∈ tables_1) (Ls : y'.name = "<init>" ∧ Cond.instanceMethod y' ∈ xT) (Lm : xMd y' cc' nL' none np) (hd : decode cc pc = .ok (.invokespecial idx, 3)) (hM : CD l G y' cc' nL' none d' mc' ms' (.ref i :: As) h none h1) (hn : As.length = np) (hst : (rest.map fun v => v.category).sum ≤ 8) (hR : d' + 1 ≤ R.frames ∧ 8 + (nL' + 11) + 40 * d' ≤ R.locals) (hk : k + mc' ≤ R.cells ∧ n + ms' ≤ R.slots) (he : st0 = As.reverse ++ .ref i :: rest)
    (kk : AW l G y cc nL ret R E QF (k + mc') (n + ms') (pc + 3) lv rest h1) : AW l G y cc nL ret R E QF k n pc lv st0 h := by
  refine aw_callN As rest Lk Ls Lm hd hM hn hst hR hk he ?_
  rintro v h2 ⟨rfl, rfl⟩
  exact kk
end AV
end
section
set_option maxHeartbeats 4000000 in
theorem X8_isWord_t {l : Launch} {G : xG} {h : List va_E} {w : Int32} (hw : 0 ≤ w.toInt ∧ w.toInt < 20) : CD l G yX8_isWord cX8_isWord 1 (some .boolean) 0 0 0 [.int w] h (some (.int 1)) h := by
  refine cm_of rfl (Nat.le_of_ble_eq_true rfl) [(0, .int w)] rfl ?_
  refine aw_iload_n 0 dX8_isWord_0 rfl rfl ?_
  refine aw_if_lt 14 dX8_isWord_1 (by decide) (fun c1 => absurd c1 (by simp only [i_lt, (show (0 : Int32).toInt = 0 from rfl)]; omega)) (fun c1 => ?_)
  refine aw_iload_n 0 dX8_isWord_4 rfl rfl ?_
  refine aw_bipush (20) dX8_isWord_5 (by decide) ?_
  refine aw_icmp_ge 14 dX8_isWord_7 (by decide) (fun c7 => absurd c7 (by simp only [i_le, (show (20 : Int32).toInt = 20 from rfl)]; omega)) (fun c7 => ?_)
  refine aw_iconst (1) dX8_isWord_10 (by decide) ?_
  refine aw_goto 15 dX8_isWord_11 (by decide) ?_
  exact aw_zret rfl rfl dX8_isWord_15 (by decide) (by decide) ⟨rfl, rfl⟩
set_option maxHeartbeats 4000000 in
theorem X8_isWord_f {l : Launch} {G : xG} {h : List va_E} {w : Int32} (hw : ¬ (0 ≤ w.toInt ∧ w.toInt < 20)) : CD l G yX8_isWord cX8_isWord 1 (some .boolean) 0 0 0 [.int w] h (some (.int 0)) h := by
  refine cm_of rfl (Nat.le_of_ble_eq_true rfl) [(0, .int w)] rfl ?_
  refine aw_iload_n 0 dX8_isWord_0 rfl rfl ?_
  refine aw_if_lt 14 dX8_isWord_1 (by decide) (fun c1 => ?_) (fun c1 => ?_)
  · refine aw_iconst (0) dX8_isWord_14 (by decide) ?_
    exact aw_zret rfl rfl dX8_isWord_15 (by decide) (by decide) ⟨rfl, rfl⟩
  · refine aw_iload_n 0 dX8_isWord_4 rfl rfl ?_
    refine aw_bipush (20) dX8_isWord_5 (by decide) ?_
    refine aw_icmp_ge 14 dX8_isWord_7 (by decide) (fun c7 => ?_) (fun c7 => ?_)
    · refine aw_iconst (0) dX8_isWord_14 (by decide) ?_
      exact aw_zret rfl rfl dX8_isWord_15 (by decide) (by decide) ⟨rfl, rfl⟩
    · refine aw_iconst (1) dX8_isWord_10 (by decide) ?_
      refine aw_goto 15 dX8_isWord_11 (by decide) ?_
      exact aw_zret rfl rfl dX8_isWord_15 (by decide) (by decide) ⟨absurd (by simp only [i_lt, i_le, (show (0 : Int32).toInt = 0 from rfl), (show (20 : Int32).toInt = 20 from rfl)] at *; omega) hw, rfl⟩
set_option maxHeartbeats 4000000 in
theorem X8_isCatalogue_t {l : Launch} {G : xG} {h : List va_E} {w : Int32} (hw : 0 ≤ w.toInt ∧ w.toInt < 4) : CD l G yX8_isCatalogue cX8_isCatalogue 1 (some .boolean) 0 0 0 [.int w] h (some (.int 1)) h := by
  refine cm_of rfl (Nat.le_of_ble_eq_true rfl) [(0, .int w)] rfl ?_
  refine aw_iload_n 0 dX8_isCatalogue_0 rfl rfl ?_
  refine aw_if_lt 13 dX8_isCatalogue_1 (by decide) (fun c1 => absurd c1 (by simp only [i_lt, (show (0 : Int32).toInt = 0 from rfl)]; omega)) (fun c1 => ?_)
  refine aw_iload_n 0 dX8_isCatalogue_4 rfl rfl ?_
  refine aw_iconst (4) dX8_isCatalogue_5 (by decide) ?_
  refine aw_icmp_ge 13 dX8_isCatalogue_6 (by decide) (fun c6 => absurd c6 (by simp only [i_le, (show (4 : Int32).toInt = 4 from rfl)]; omega)) (fun c6 => ?_)
  refine aw_iconst (1) dX8_isCatalogue_9 (by decide) ?_
  refine aw_goto 14 dX8_isCatalogue_10 (by decide) ?_
  exact aw_zret rfl rfl dX8_isCatalogue_14 (by decide) (by decide) ⟨rfl, rfl⟩
set_option maxHeartbeats 4000000 in
theorem X8_isCatalogue_f {l : Launch} {G : xG} {h : List va_E} {w : Int32} (hw : ¬ (0 ≤ w.toInt ∧ w.toInt < 4)) : CD l G yX8_isCatalogue cX8_isCatalogue 1 (some .boolean) 0 0 0 [.int w] h (some (.int 0)) h := by
  refine cm_of rfl (Nat.le_of_ble_eq_true rfl) [(0, .int w)] rfl ?_
  refine aw_iload_n 0 dX8_isCatalogue_0 rfl rfl ?_
  refine aw_if_lt 13 dX8_isCatalogue_1 (by decide) (fun c1 => ?_) (fun c1 => ?_)
  · refine aw_iconst (0) dX8_isCatalogue_13 (by decide) ?_
    exact aw_zret rfl rfl dX8_isCatalogue_14 (by decide) (by decide) ⟨rfl, rfl⟩
  · refine aw_iload_n 0 dX8_isCatalogue_4 rfl rfl ?_
    refine aw_iconst (4) dX8_isCatalogue_5 (by decide) ?_
    refine aw_icmp_ge 13 dX8_isCatalogue_6 (by decide) (fun c6 => ?_) (fun c6 => ?_)
    · refine aw_iconst (0) dX8_isCatalogue_13 (by decide) ?_
      exact aw_zret rfl rfl dX8_isCatalogue_14 (by decide) (by decide) ⟨rfl, rfl⟩
    · refine aw_iconst (1) dX8_isCatalogue_9 (by decide) ?_
      refine aw_goto 14 dX8_isCatalogue_10 (by decide) ?_
      exact aw_zret rfl rfl dX8_isCatalogue_14 (by decide) (by decide) ⟨absurd (by simp only [i_lt, i_le, (show (0 : Int32).toInt = 0 from rfl), (show (4 : Int32).toInt = 4 from rfl)] at *; omega) hw, rfl⟩
set_option maxHeartbeats 4000000 in
theorem X8_isThing_t {l : Launch} {G : xG} {h : List va_E} {w : Int32} (hw : 0 ≤ w.toInt ∧ w.toInt < 12) : CD l G yX8_isThing cX8_isThing 1 (some .boolean) 0 0 0 [.int w] h (some (.int 1)) h := by
  refine cm_of rfl (Nat.le_of_ble_eq_true rfl) [(0, .int w)] rfl ?_
  refine aw_iload_n 0 dX8_isThing_0 rfl rfl ?_
  refine aw_if_lt 14 dX8_isThing_1 (by decide) (fun c1 => absurd c1 (by simp only [i_lt, (show (0 : Int32).toInt = 0 from rfl)]; omega)) (fun c1 => ?_)
  refine aw_iload_n 0 dX8_isThing_4 rfl rfl ?_
  refine aw_bipush (12) dX8_isThing_5 (by decide) ?_
  refine aw_icmp_ge 14 dX8_isThing_7 (by decide) (fun c7 => absurd c7 (by simp only [i_le, (show (12 : Int32).toInt = 12 from rfl)]; omega)) (fun c7 => ?_)
  refine aw_iconst (1) dX8_isThing_10 (by decide) ?_
  refine aw_goto 15 dX8_isThing_11 (by decide) ?_
  exact aw_zret rfl rfl dX8_isThing_15 (by decide) (by decide) ⟨rfl, rfl⟩
set_option maxHeartbeats 4000000 in
theorem X8_isThing_f {l : Launch} {G : xG} {h : List va_E} {w : Int32} (hw : ¬ (0 ≤ w.toInt ∧ w.toInt < 12)) : CD l G yX8_isThing cX8_isThing 1 (some .boolean) 0 0 0 [.int w] h (some (.int 0)) h := by
  refine cm_of rfl (Nat.le_of_ble_eq_true rfl) [(0, .int w)] rfl ?_
  refine aw_iload_n 0 dX8_isThing_0 rfl rfl ?_
  refine aw_if_lt 14 dX8_isThing_1 (by decide) (fun c1 => ?_) (fun c1 => ?_)
  · refine aw_iconst (0) dX8_isThing_14 (by decide) ?_
    exact aw_zret rfl rfl dX8_isThing_15 (by decide) (by decide) ⟨rfl, rfl⟩
  · refine aw_iload_n 0 dX8_isThing_4 rfl rfl ?_
    refine aw_bipush (12) dX8_isThing_5 (by decide) ?_
    refine aw_icmp_ge 14 dX8_isThing_7 (by decide) (fun c7 => ?_) (fun c7 => ?_)
    · refine aw_iconst (0) dX8_isThing_14 (by decide) ?_
      exact aw_zret rfl rfl dX8_isThing_15 (by decide) (by decide) ⟨rfl, rfl⟩
    · refine aw_iconst (1) dX8_isThing_10 (by decide) ?_
      refine aw_goto 15 dX8_isThing_11 (by decide) ?_
      exact aw_zret rfl rfl dX8_isThing_15 (by decide) (by decide) ⟨absurd (by simp only [i_lt, i_le, (show (0 : Int32).toInt = 0 from rfl), (show (12 : Int32).toInt = 12 from rfl)] at *; omega) hw, rfl⟩
end
