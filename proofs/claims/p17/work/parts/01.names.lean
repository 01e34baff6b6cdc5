-- ===== PART A: goes FIRST, ahead of the names: the tables' words, and 'selects' of the private methods out of them =====
/-- a private method of a class that the tables say can be made, by its rows of tables_1 -/
def lw_okq (q : MethodName × Nat) : Prop := (q.1.cls ≠ "java/lang/invoke/MethodHandle" ∧ q.1.cls ≠ "java/lang/invoke/VarHandle") ∧ Cond.instantiable q.1.cls q.2 ∈ tables_1 ∧ Cond.privateMethod q.1 ∈ tables_1 ∧ Cond.instanceMethod q.1 ∈ tables_1
theorem lw_p0 : lw_okq (⟨"GraphScribe$ClassText", "isClassRight", "(I)Z"⟩, 3) := ⟨⟨by decide +kernel, by decide +kernel⟩, List.mem_of_getElem? (i := 216) (by decide +kernel), List.mem_of_getElem? (i := 240) (by decide +kernel), List.mem_of_getElem? (i := 241) (by decide +kernel)⟩
theorem lw_p1 : lw_okq (⟨"GraphScribe$ClassText", "isNameRight", "(I)Z"⟩, 3) := ⟨⟨by decide +kernel, by decide +kernel⟩, List.mem_of_getElem? (i := 216) (by decide +kernel), List.mem_of_getElem? (i := 248) (by decide +kernel), List.mem_of_getElem? (i := 249) (by decide +kernel)⟩
theorem lw_p2 : lw_okq (⟨"GraphScribe$Schema", "letterOn", "(II)V"⟩, 9) := ⟨⟨by decide +kernel, by decide +kernel⟩, List.mem_of_getElem? (i := 111) (by decide +kernel), List.mem_of_getElem? (i := 269) (by decide +kernel), List.mem_of_getElem? (i := 270) (by decide +kernel)⟩
theorem lw_p3 : lw_okq (⟨"GraphScribe$ClassText", "skips", "(I)Z"⟩, 3) := ⟨⟨by decide +kernel, by decide +kernel⟩, List.mem_of_getElem? (i := 216) (by decide +kernel), List.mem_of_getElem? (i := 273) (by decide +kernel), List.mem_of_getElem? (i := 274) (by decide +kernel)⟩
theorem lw_p4 : lw_okq (⟨"GraphScribe$ClassText", "isFieldRight", "(II)Z"⟩, 3) := ⟨⟨by decide +kernel, by decide +kernel⟩, List.mem_of_getElem? (i := 216) (by decide +kernel), List.mem_of_getElem? (i := 277) (by decide +kernel), List.mem_of_getElem? (i := 278) (by decide +kernel)⟩
theorem lw_p5 : lw_okq (⟨"GraphScribe$Schema", "isField", "(II)Z"⟩, 9) := ⟨⟨by decide +kernel, by decide +kernel⟩, List.mem_of_getElem? (i := 111) (by decide +kernel), List.mem_of_getElem? (i := 300) (by decide +kernel), List.mem_of_getElem? (i := 301) (by decide +kernel)⟩
theorem lw_p6 : lw_okq (⟨"GraphScribe$Schema", "hasTwin", "(III)Z"⟩, 9) := ⟨⟨by decide +kernel, by decide +kernel⟩, List.mem_of_getElem? (i := 111) (by decide +kernel), List.mem_of_getElem? (i := 324) (by decide +kernel), List.mem_of_getElem? (i := 325) (by decide +kernel)⟩
theorem lw_p7 : lw_okq (⟨"GraphScribe$Schema", "isTwin", "(II)Z"⟩, 9) := ⟨⟨by decide +kernel, by decide +kernel⟩, List.mem_of_getElem? (i := 111) (by decide +kernel), List.mem_of_getElem? (i := 328) (by decide +kernel), List.mem_of_getElem? (i := 329) (by decide +kernel)⟩
theorem lw_p8 : lw_okq (⟨"GraphScribe$Schema", "isFieldNameFree", "(II)Z"⟩, 9) := ⟨⟨by decide +kernel, by decide +kernel⟩, List.mem_of_getElem? (i := 111) (by decide +kernel), List.mem_of_getElem? (i := 332) (by decide +kernel), List.mem_of_getElem? (i := 333) (by decide +kernel)⟩
theorem lw_p9 : lw_okq (⟨"GraphScribe$Schema", "isWord", "(ILjava/lang/String;)Z"⟩, 9) := ⟨⟨by decide +kernel, by decide +kernel⟩, List.mem_of_getElem? (i := 111) (by decide +kernel), List.mem_of_getElem? (i := 337) (by decide +kernel), List.mem_of_getElem? (i := 338) (by decide +kernel)⟩
theorem lw_p10 : lw_okq (⟨"GraphScribe", "shapeIn", "(LGraphScribe$Heap;II)I"⟩, 10) := ⟨⟨by decide +kernel, by decide +kernel⟩, List.mem_of_getElem? (i := 21) (by decide +kernel), List.mem_of_getElem? (i := 420) (by decide +kernel), List.mem_of_getElem? (i := 421) (by decide +kernel)⟩
theorem lw_p11 : lw_okq (⟨"GraphScribe$Heap", "hasField", "(II)Z"⟩, 4) := ⟨⟨by decide +kernel, by decide +kernel⟩, List.mem_of_getElem? (i := 145) (by decide +kernel), List.mem_of_getElem? (i := 441) (by decide +kernel), List.mem_of_getElem? (i := 442) (by decide +kernel)⟩
theorem lw_p12 : lw_okq (⟨"GraphScribe$Heap", "hasCell", "(III)Z"⟩, 4) := ⟨⟨by decide +kernel, by decide +kernel⟩, List.mem_of_getElem? (i := 145) (by decide +kernel), List.mem_of_getElem? (i := 477) (by decide +kernel), List.mem_of_getElem? (i := 478) (by decide +kernel)⟩
theorem lw_p13 : lw_okq (⟨"GraphScribe$Writer", "element", "(IIIII)V"⟩, 13) := ⟨⟨by decide +kernel, by decide +kernel⟩, List.mem_of_getElem? (i := 489) (by decide +kernel), List.mem_of_getElem? (i := 535) (by decide +kernel), List.mem_of_getElem? (i := 536) (by decide +kernel)⟩
theorem lw_p14 : lw_okq (⟨"GraphScribe$Writer", "reference", "(III)V"⟩, 13) := ⟨⟨by decide +kernel, by decide +kernel⟩, List.mem_of_getElem? (i := 489) (by decide +kernel), List.mem_of_getElem? (i := 544) (by decide +kernel), List.mem_of_getElem? (i := 545) (by decide +kernel)⟩
theorem lw_p15 : lw_okq (⟨"GraphScribe$Writer", "nameOf", "(III)I"⟩, 13) := ⟨⟨by decide +kernel, by decide +kernel⟩, List.mem_of_getElem? (i := 489) (by decide +kernel), List.mem_of_getElem? (i := 548) (by decide +kernel), List.mem_of_getElem? (i := 549) (by decide +kernel)⟩
def lw_privs_1 : List (MethodName × Nat) := [(⟨"GraphScribe$ClassText", "isClassRight", "(I)Z"⟩, 3), (⟨"GraphScribe$ClassText", "isNameRight", "(I)Z"⟩, 3), (⟨"GraphScribe$Schema", "letterOn", "(II)V"⟩, 9), (⟨"GraphScribe$ClassText", "skips", "(I)Z"⟩, 3), (⟨"GraphScribe$ClassText", "isFieldRight", "(II)Z"⟩, 3), (⟨"GraphScribe$Schema", "isField", "(II)Z"⟩, 9), (⟨"GraphScribe$Schema", "hasTwin", "(III)Z"⟩, 9), (⟨"GraphScribe$Schema", "isTwin", "(II)Z"⟩, 9), (⟨"GraphScribe$Schema", "isFieldNameFree", "(II)Z"⟩, 9), (⟨"GraphScribe$Schema", "isWord", "(ILjava/lang/String;)Z"⟩, 9), (⟨"GraphScribe", "shapeIn", "(LGraphScribe$Heap;II)I"⟩, 10), (⟨"GraphScribe$Heap", "hasField", "(II)Z"⟩, 4), (⟨"GraphScribe$Heap", "hasCell", "(III)Z"⟩, 4), (⟨"GraphScribe$Writer", "element", "(IIIII)V"⟩, 13), (⟨"GraphScribe$Writer", "reference", "(III)V"⟩, 13), (⟨"GraphScribe$Writer", "nameOf", "(III)I"⟩, 13)]
theorem lw_r1 : ∀ q ∈ lw_privs_1, lw_okq q := List.forall_mem_cons.mpr ⟨lw_p0, List.forall_mem_cons.mpr ⟨lw_p1, List.forall_mem_cons.mpr ⟨lw_p2, List.forall_mem_cons.mpr ⟨lw_p3, List.forall_mem_cons.mpr ⟨lw_p4, List.forall_mem_cons.mpr ⟨lw_p5, List.forall_mem_cons.mpr ⟨lw_p6, List.forall_mem_cons.mpr ⟨lw_p7, List.forall_mem_cons.mpr ⟨lw_p8, List.forall_mem_cons.mpr ⟨lw_p9, List.forall_mem_cons.mpr ⟨lw_p10, List.forall_mem_cons.mpr ⟨lw_p11, List.forall_mem_cons.mpr ⟨lw_p12, List.forall_mem_cons.mpr ⟨lw_p13, List.forall_mem_cons.mpr ⟨lw_p14, List.forall_mem_cons.mpr ⟨lw_p15, fun _ h => absurd h List.not_mem_nil⟩⟩⟩⟩⟩⟩⟩⟩⟩⟩⟩⟩⟩⟩⟩⟩
theorem lw_p16 : lw_okq (⟨"GraphScribe$Writer", "number", "(I)V"⟩, 13) := ⟨⟨by decide +kernel, by decide +kernel⟩, List.mem_of_getElem? (i := 489) (by decide +kernel), List.mem_of_getElem? (i := 569) (by decide +kernel), List.mem_of_getElem? (i := 570) (by decide +kernel)⟩
theorem lw_p17 : lw_okq (⟨"GraphScribe$Writer", "way", "(III)V"⟩, 13) := ⟨⟨by decide +kernel, by decide +kernel⟩, List.mem_of_getElem? (i := 489) (by decide +kernel), List.mem_of_getElem? (i := 577) (by decide +kernel), List.mem_of_getElem? (i := 578) (by decide +kernel)⟩
theorem lw_p18 : lw_okq (⟨"GraphScribe$Writer", "ancestryOfItself", "(II)I"⟩, 13) := ⟨⟨by decide +kernel, by decide +kernel⟩, List.mem_of_getElem? (i := 489) (by decide +kernel), List.mem_of_getElem? (i := 581) (by decide +kernel), List.mem_of_getElem? (i := 582) (by decide +kernel)⟩
theorem lw_p19 : lw_okq (⟨"GraphScribe$Writer", "ancestry", "([III)I"⟩, 13) := ⟨⟨by decide +kernel, by decide +kernel⟩, List.mem_of_getElem? (i := 489) (by decide +kernel), List.mem_of_getElem? (i := 594) (by decide +kernel), List.mem_of_getElem? (i := 595) (by decide +kernel)⟩
theorem lw_p20 : lw_okq (⟨"GraphScribe$Writer", "step", "(I)V"⟩, 13) := ⟨⟨by decide +kernel, by decide +kernel⟩, List.mem_of_getElem? (i := 489) (by decide +kernel), List.mem_of_getElem? (i := 600) (by decide +kernel), List.mem_of_getElem? (i := 601) (by decide +kernel)⟩
theorem lw_p21 : lw_okq (⟨"GraphScribe$Writer", "rankAmongItems", "(I)I"⟩, 13) := ⟨⟨by decide +kernel, by decide +kernel⟩, List.mem_of_getElem? (i := 489) (by decide +kernel), List.mem_of_getElem? (i := 607) (by decide +kernel), List.mem_of_getElem? (i := 608) (by decide +kernel)⟩
theorem lw_p22 : lw_okq (⟨"GraphScribe$Writer", "path", "(I)V"⟩, 13) := ⟨⟨by decide +kernel, by decide +kernel⟩, List.mem_of_getElem? (i := 489) (by decide +kernel), List.mem_of_getElem? (i := 615) (by decide +kernel), List.mem_of_getElem? (i := 616) (by decide +kernel)⟩
theorem lw_p23 : lw_okq (⟨"GraphScribe$Writer", "startTag", "(II)V"⟩, 13) := ⟨⟨by decide +kernel, by decide +kernel⟩, List.mem_of_getElem? (i := 489) (by decide +kernel), List.mem_of_getElem? (i := 620) (by decide +kernel), List.mem_of_getElem? (i := 621) (by decide +kernel)⟩
theorem lw_p24 : lw_okq (⟨"GraphScribe$Writer", "single", "(IIZ)V"⟩, 13) := ⟨⟨by decide +kernel, by decide +kernel⟩, List.mem_of_getElem? (i := 489) (by decide +kernel), List.mem_of_getElem? (i := 638) (by decide +kernel), List.mem_of_getElem? (i := 639) (by decide +kernel)⟩
theorem lw_p25 : lw_okq (⟨"GraphScribe$Writer", "escaped", "(IZ)V"⟩, 13) := ⟨⟨by decide +kernel, by decide +kernel⟩, List.mem_of_getElem? (i := 489) (by decide +kernel), List.mem_of_getElem? (i := 643) (by decide +kernel), List.mem_of_getElem? (i := 644) (by decide +kernel)⟩
theorem lw_p26 : lw_okq (⟨"GraphScribe$Writer", "hasContent", "(I)Z"⟩, 13) := ⟨⟨by decide +kernel, by decide +kernel⟩, List.mem_of_getElem? (i := 489) (by decide +kernel), List.mem_of_getElem? (i := 651) (by decide +kernel), List.mem_of_getElem? (i := 652) (by decide +kernel)⟩
theorem lw_p27 : lw_okq (⟨"GraphScribe$Writer", "hasElement", "(III)Z"⟩, 13) := ⟨⟨by decide +kernel, by decide +kernel⟩, List.mem_of_getElem? (i := 489) (by decide +kernel), List.mem_of_getElem? (i := 655) (by decide +kernel), List.mem_of_getElem? (i := 656) (by decide +kernel)⟩
theorem lw_p28 : lw_okq (⟨"GraphScribe$Writer", "content", "(III)V"⟩, 13) := ⟨⟨by decide +kernel, by decide +kernel⟩, List.mem_of_getElem? (i := 489) (by decide +kernel), List.mem_of_getElem? (i := 661) (by decide +kernel), List.mem_of_getElem? (i := 662) (by decide +kernel)⟩
theorem lw_p29 : lw_okq (⟨"GraphScribe$Writer", "items", "(III)V"⟩, 13) := ⟨⟨by decide +kernel, by decide +kernel⟩, List.mem_of_getElem? (i := 489) (by decide +kernel), List.mem_of_getElem? (i := 666) (by decide +kernel), List.mem_of_getElem? (i := 667) (by decide +kernel)⟩
theorem lw_p30 : lw_okq (⟨"GraphScribe$Writer", "endTag", "(I)V"⟩, 13) := ⟨⟨by decide +kernel, by decide +kernel⟩, List.mem_of_getElem? (i := 489) (by decide +kernel), List.mem_of_getElem? (i := 670) (by decide +kernel), List.mem_of_getElem? (i := 671) (by decide +kernel)⟩
theorem lw_p31 : lw_okq (⟨"GraphScribe$XmlText", "skipBlanks", "()V"⟩, 7) := ⟨⟨by decide +kernel, by decide +kernel⟩, List.mem_of_getElem? (i := 714) (by decide +kernel), List.mem_of_getElem? (i := 755) (by decide +kernel), List.mem_of_getElem? (i := 756) (by decide +kernel)⟩
def lw_privs_2 : List (MethodName × Nat) := [(⟨"GraphScribe$Writer", "number", "(I)V"⟩, 13), (⟨"GraphScribe$Writer", "way", "(III)V"⟩, 13), (⟨"GraphScribe$Writer", "ancestryOfItself", "(II)I"⟩, 13), (⟨"GraphScribe$Writer", "ancestry", "([III)I"⟩, 13), (⟨"GraphScribe$Writer", "step", "(I)V"⟩, 13), (⟨"GraphScribe$Writer", "rankAmongItems", "(I)I"⟩, 13), (⟨"GraphScribe$Writer", "path", "(I)V"⟩, 13), (⟨"GraphScribe$Writer", "startTag", "(II)V"⟩, 13), (⟨"GraphScribe$Writer", "single", "(IIZ)V"⟩, 13), (⟨"GraphScribe$Writer", "escaped", "(IZ)V"⟩, 13), (⟨"GraphScribe$Writer", "hasContent", "(I)Z"⟩, 13), (⟨"GraphScribe$Writer", "hasElement", "(III)Z"⟩, 13), (⟨"GraphScribe$Writer", "content", "(III)V"⟩, 13), (⟨"GraphScribe$Writer", "items", "(III)V"⟩, 13), (⟨"GraphScribe$Writer", "endTag", "(I)V"⟩, 13), (⟨"GraphScribe$XmlText", "skipBlanks", "()V"⟩, 7)]
theorem lw_r2 : ∀ q ∈ lw_privs_2, lw_okq q := List.forall_mem_cons.mpr ⟨lw_p16, List.forall_mem_cons.mpr ⟨lw_p17, List.forall_mem_cons.mpr ⟨lw_p18, List.forall_mem_cons.mpr ⟨lw_p19, List.forall_mem_cons.mpr ⟨lw_p20, List.forall_mem_cons.mpr ⟨lw_p21, List.forall_mem_cons.mpr ⟨lw_p22, List.forall_mem_cons.mpr ⟨lw_p23, List.forall_mem_cons.mpr ⟨lw_p24, List.forall_mem_cons.mpr ⟨lw_p25, List.forall_mem_cons.mpr ⟨lw_p26, List.forall_mem_cons.mpr ⟨lw_p27, List.forall_mem_cons.mpr ⟨lw_p28, List.forall_mem_cons.mpr ⟨lw_p29, List.forall_mem_cons.mpr ⟨lw_p30, List.forall_mem_cons.mpr ⟨lw_p31, fun _ h => absurd h List.not_mem_nil⟩⟩⟩⟩⟩⟩⟩⟩⟩⟩⟩⟩⟩⟩⟩⟩
theorem lw_p32 : lw_okq (⟨"GraphScribe$XmlText", "startTag", "()V"⟩, 7) := ⟨⟨by decide +kernel, by decide +kernel⟩, List.mem_of_getElem? (i := 714) (by decide +kernel), List.mem_of_getElem? (i := 764) (by decide +kernel), List.mem_of_getElem? (i := 765) (by decide +kernel)⟩
theorem lw_p33 : lw_okq (⟨"GraphScribe$XmlText", "skipName", "()V"⟩, 7) := ⟨⟨by decide +kernel, by decide +kernel⟩, List.mem_of_getElem? (i := 714) (by decide +kernel), List.mem_of_getElem? (i := 768) (by decide +kernel), List.mem_of_getElem? (i := 769) (by decide +kernel)⟩
theorem lw_p34 : lw_okq (⟨"GraphScribe$Tree", "has", "(I)Z"⟩, 18) := ⟨⟨by decide +kernel, by decide +kernel⟩, List.mem_of_getElem? (i := 46) (by decide +kernel), List.mem_of_getElem? (i := 784) (by decide +kernel), List.mem_of_getElem? (i := 785) (by decide +kernel)⟩
theorem lw_p35 : lw_okq (⟨"GraphScribe$XmlText", "skipsToName", "()Z"⟩, 7) := ⟨⟨by decide +kernel, by decide +kernel⟩, List.mem_of_getElem? (i := 714) (by decide +kernel), List.mem_of_getElem? (i := 788) (by decide +kernel), List.mem_of_getElem? (i := 789) (by decide +kernel)⟩
theorem lw_p36 : lw_okq (⟨"GraphScribe$XmlText", "attribute", "(I)V"⟩, 7) := ⟨⟨by decide +kernel, by decide +kernel⟩, List.mem_of_getElem? (i := 714) (by decide +kernel), List.mem_of_getElem? (i := 792) (by decide +kernel), List.mem_of_getElem? (i := 793) (by decide +kernel)⟩
theorem lw_p37 : lw_okq (⟨"GraphScribe$Tree", "isSpelt", "(IILGraphScribe$Signs;II)Z"⟩, 18) := ⟨⟨by decide +kernel, by decide +kernel⟩, List.mem_of_getElem? (i := 46) (by decide +kernel), List.mem_of_getElem? (i := 808) (by decide +kernel), List.mem_of_getElem? (i := 809) (by decide +kernel)⟩
theorem lw_p38 : lw_okq (⟨"GraphScribe$XmlText", "skipsToValue", "()Z"⟩, 7) := ⟨⟨by decide +kernel, by decide +kernel⟩, List.mem_of_getElem? (i := 714) (by decide +kernel), List.mem_of_getElem? (i := 813) (by decide +kernel), List.mem_of_getElem? (i := 814) (by decide +kernel)⟩
theorem lw_p39 : lw_okq (⟨"GraphScribe$XmlText", "endsValue", "(I)Z"⟩, 7) := ⟨⟨by decide +kernel, by decide +kernel⟩, List.mem_of_getElem? (i := 714) (by decide +kernel), List.mem_of_getElem? (i := 817) (by decide +kernel), List.mem_of_getElem? (i := 818) (by decide +kernel)⟩
theorem lw_p40 : lw_okq (⟨"GraphScribe$XmlText", "decoded", "()I"⟩, 7) := ⟨⟨by decide +kernel, by decide +kernel⟩, List.mem_of_getElem? (i := 714) (by decide +kernel), List.mem_of_getElem? (i := 821) (by decide +kernel), List.mem_of_getElem? (i := 822) (by decide +kernel)⟩
theorem lw_p41 : lw_okq (⟨"GraphScribe$XmlText", "numbered", "()I"⟩, 7) := ⟨⟨by decide +kernel, by decide +kernel⟩, List.mem_of_getElem? (i := 714) (by decide +kernel), List.mem_of_getElem? (i := 825) (by decide +kernel), List.mem_of_getElem? (i := 826) (by decide +kernel)⟩
theorem lw_p42 : lw_okq (⟨"GraphScribe$XmlText", "named", "()I"⟩, 7) := ⟨⟨by decide +kernel, by decide +kernel⟩, List.mem_of_getElem? (i := 714) (by decide +kernel), List.mem_of_getElem? (i := 833) (by decide +kernel), List.mem_of_getElem? (i := 834) (by decide +kernel)⟩
theorem lw_p43 : lw_okq (⟨"GraphScribe$XmlText", "comes", "(Ljava/lang/String;)Z"⟩, 7) := ⟨⟨by decide +kernel, by decide +kernel⟩, List.mem_of_getElem? (i := 714) (by decide +kernel), List.mem_of_getElem? (i := 838) (by decide +kernel), List.mem_of_getElem? (i := 839) (by decide +kernel)⟩
theorem lw_p44 : lw_okq (⟨"GraphScribe$XmlText", "textSign", "()V"⟩, 7) := ⟨⟨by decide +kernel, by decide +kernel⟩, List.mem_of_getElem? (i := 714) (by decide +kernel), List.mem_of_getElem? (i := 858) (by decide +kernel), List.mem_of_getElem? (i := 859) (by decide +kernel)⟩
theorem lw_p45 : lw_okq (⟨"GraphScribe$XmlText", "endTag", "()V"⟩, 7) := ⟨⟨by decide +kernel, by decide +kernel⟩, List.mem_of_getElem? (i := 714) (by decide +kernel), List.mem_of_getElem? (i := 868) (by decide +kernel), List.mem_of_getElem? (i := 869) (by decide +kernel)⟩
theorem lw_p46 : lw_okq (⟨"GraphScribe$XmlText", "comment", "()V"⟩, 7) := ⟨⟨by decide +kernel, by decide +kernel⟩, List.mem_of_getElem? (i := 714) (by decide +kernel), List.mem_of_getElem? (i := 881) (by decide +kernel), List.mem_of_getElem? (i := 882) (by decide +kernel)⟩
theorem lw_p47 : lw_okq (⟨"GraphScribe$XmlText", "cdata", "()V"⟩, 7) := ⟨⟨by decide +kernel, by decide +kernel⟩, List.mem_of_getElem? (i := 714) (by decide +kernel), List.mem_of_getElem? (i := 887) (by decide +kernel), List.mem_of_getElem? (i := 888) (by decide +kernel)⟩
def lw_privs_3 : List (MethodName × Nat) := [(⟨"GraphScribe$XmlText", "startTag", "()V"⟩, 7), (⟨"GraphScribe$XmlText", "skipName", "()V"⟩, 7), (⟨"GraphScribe$Tree", "has", "(I)Z"⟩, 18), (⟨"GraphScribe$XmlText", "skipsToName", "()Z"⟩, 7), (⟨"GraphScribe$XmlText", "attribute", "(I)V"⟩, 7), (⟨"GraphScribe$Tree", "isSpelt", "(IILGraphScribe$Signs;II)Z"⟩, 18), (⟨"GraphScribe$XmlText", "skipsToValue", "()Z"⟩, 7), (⟨"GraphScribe$XmlText", "endsValue", "(I)Z"⟩, 7), (⟨"GraphScribe$XmlText", "decoded", "()I"⟩, 7), (⟨"GraphScribe$XmlText", "numbered", "()I"⟩, 7), (⟨"GraphScribe$XmlText", "named", "()I"⟩, 7), (⟨"GraphScribe$XmlText", "comes", "(Ljava/lang/String;)Z"⟩, 7), (⟨"GraphScribe$XmlText", "textSign", "()V"⟩, 7), (⟨"GraphScribe$XmlText", "endTag", "()V"⟩, 7), (⟨"GraphScribe$XmlText", "comment", "()V"⟩, 7), (⟨"GraphScribe$XmlText", "cdata", "()V"⟩, 7)]
theorem lw_r3 : ∀ q ∈ lw_privs_3, lw_okq q := List.forall_mem_cons.mpr ⟨lw_p32, List.forall_mem_cons.mpr ⟨lw_p33, List.forall_mem_cons.mpr ⟨lw_p34, List.forall_mem_cons.mpr ⟨lw_p35, List.forall_mem_cons.mpr ⟨lw_p36, List.forall_mem_cons.mpr ⟨lw_p37, List.forall_mem_cons.mpr ⟨lw_p38, List.forall_mem_cons.mpr ⟨lw_p39, List.forall_mem_cons.mpr ⟨lw_p40, List.forall_mem_cons.mpr ⟨lw_p41, List.forall_mem_cons.mpr ⟨lw_p42, List.forall_mem_cons.mpr ⟨lw_p43, List.forall_mem_cons.mpr ⟨lw_p44, List.forall_mem_cons.mpr ⟨lw_p45, List.forall_mem_cons.mpr ⟨lw_p46, List.forall_mem_cons.mpr ⟨lw_p47, fun _ h => absurd h List.not_mem_nil⟩⟩⟩⟩⟩⟩⟩⟩⟩⟩⟩⟩⟩⟩⟩⟩
theorem lw_p48 : lw_okq (⟨"GraphScribe$Meaning", "isPlaced", "(I)Z"⟩, 12) := ⟨⟨by decide +kernel, by decide +kernel⟩, List.mem_of_getElem? (i := 896) (by decide +kernel), List.mem_of_getElem? (i := 964) (by decide +kernel), List.mem_of_getElem? (i := 965) (by decide +kernel)⟩
theorem lw_p49 : lw_okq (⟨"GraphScribe$Meaning", "begins", "(II)Z"⟩, 12) := ⟨⟨by decide +kernel, by decide +kernel⟩, List.mem_of_getElem? (i := 896) (by decide +kernel), List.mem_of_getElem? (i := 986) (by decide +kernel), List.mem_of_getElem? (i := 987) (by decide +kernel)⟩
theorem lw_p50 : lw_okq (⟨"GraphScribe$Meaning", "takesRole", "(IIII)V"⟩, 12) := ⟨⟨by decide +kernel, by decide +kernel⟩, List.mem_of_getElem? (i := 896) (by decide +kernel), List.mem_of_getElem? (i := 992) (by decide +kernel), List.mem_of_getElem? (i := 993) (by decide +kernel)⟩
theorem lw_p51 : lw_okq (⟨"GraphScribe$Meaning", "isPlacedInObject", "(II)Z"⟩, 12) := ⟨⟨by decide +kernel, by decide +kernel⟩, List.mem_of_getElem? (i := 896) (by decide +kernel), List.mem_of_getElem? (i := 996) (by decide +kernel), List.mem_of_getElem? (i := 997) (by decide +kernel)⟩
theorem lw_p52 : lw_okq (⟨"GraphScribe$Meaning", "isPlacedInList", "(III)Z"⟩, 12) := ⟨⟨by decide +kernel, by decide +kernel⟩, List.mem_of_getElem? (i := 896) (by decide +kernel), List.mem_of_getElem? (i := 1008) (by decide +kernel), List.mem_of_getElem? (i := 1009) (by decide +kernel)⟩
theorem lw_p53 : lw_okq (⟨"GraphScribe$Meaning", "isPlacedAsTarget", "(III)Z"⟩, 12) := ⟨⟨by decide +kernel, by decide +kernel⟩, List.mem_of_getElem? (i := 896) (by decide +kernel), List.mem_of_getElem? (i := 1024) (by decide +kernel), List.mem_of_getElem? (i := 1025) (by decide +kernel)⟩
theorem lw_p54 : lw_okq (⟨"GraphScribe$Tree", "hasAttribute", "(I)Z"⟩, 18) := ⟨⟨by decide +kernel, by decide +kernel⟩, List.mem_of_getElem? (i := 46) (by decide +kernel), List.mem_of_getElem? (i := 1033) (by decide +kernel), List.mem_of_getElem? (i := 1034) (by decide +kernel)⟩
theorem lw_p55 : lw_okq (⟨"GraphScribe$Meaning", "isSound", "(I)Z"⟩, 12) := ⟨⟨by decide +kernel, by decide +kernel⟩, List.mem_of_getElem? (i := 896) (by decide +kernel), List.mem_of_getElem? (i := 1042) (by decide +kernel), List.mem_of_getElem? (i := 1043) (by decide +kernel)⟩
theorem lw_p56 : lw_okq (⟨"GraphScribe$Meaning", "areAttributesSound", "(I)Z"⟩, 12) := ⟨⟨by decide +kernel, by decide +kernel⟩, List.mem_of_getElem? (i := 896) (by decide +kernel), List.mem_of_getElem? (i := 1050) (by decide +kernel), List.mem_of_getElem? (i := 1051) (by decide +kernel)⟩
theorem lw_p57 : lw_okq (⟨"GraphScribe$Meaning", "isIdSound", "(II)Z"⟩, 12) := ⟨⟨by decide +kernel, by decide +kernel⟩, List.mem_of_getElem? (i := 896) (by decide +kernel), List.mem_of_getElem? (i := 1066) (by decide +kernel), List.mem_of_getElem? (i := 1067) (by decide +kernel)⟩
theorem lw_p58 : lw_okq (⟨"GraphScribe$Meaning", "idAt", "(II)I"⟩, 12) := ⟨⟨by decide +kernel, by decide +kernel⟩, List.mem_of_getElem? (i := 896) (by decide +kernel), List.mem_of_getElem? (i := 1070) (by decide +kernel), List.mem_of_getElem? (i := 1071) (by decide +kernel)⟩
theorem lw_p59 : lw_okq (⟨"GraphScribe$Meaning", "elementWithId", "(I)I"⟩, 12) := ⟨⟨by decide +kernel, by decide +kernel⟩, List.mem_of_getElem? (i := 896) (by decide +kernel), List.mem_of_getElem? (i := 1076) (by decide +kernel), List.mem_of_getElem? (i := 1077) (by decide +kernel)⟩
theorem lw_p60 : lw_okq (⟨"GraphScribe$Meaning", "fills", "(IIII)Z"⟩, 12) := ⟨⟨by decide +kernel, by decide +kernel⟩, List.mem_of_getElem? (i := 896) (by decide +kernel), List.mem_of_getElem? (i := 1080) (by decide +kernel), List.mem_of_getElem? (i := 1081) (by decide +kernel)⟩
theorem lw_p61 : lw_okq (⟨"GraphScribe$Meaning", "fillsNumber", "(IIII)Z"⟩, 12) := ⟨⟨by decide +kernel, by decide +kernel⟩, List.mem_of_getElem? (i := 896) (by decide +kernel), List.mem_of_getElem? (i := 1084) (by decide +kernel), List.mem_of_getElem? (i := 1085) (by decide +kernel)⟩
theorem lw_p62 : lw_okq (⟨"GraphScribe$Meaning", "leads", "(I)Z"⟩, 12) := ⟨⟨by decide +kernel, by decide +kernel⟩, List.mem_of_getElem? (i := 896) (by decide +kernel), List.mem_of_getElem? (i := 1104) (by decide +kernel), List.mem_of_getElem? (i := 1105) (by decide +kernel)⟩
theorem lw_p63 : lw_okq (⟨"GraphScribe$Way", "down", "(III)I"⟩, 2) := ⟨⟨by decide +kernel, by decide +kernel⟩, List.mem_of_getElem? (i := 907) (by decide +kernel), List.mem_of_getElem? (i := 1113) (by decide +kernel), List.mem_of_getElem? (i := 1114) (by decide +kernel)⟩
def lw_privs_4 : List (MethodName × Nat) := [(⟨"GraphScribe$Meaning", "isPlaced", "(I)Z"⟩, 12), (⟨"GraphScribe$Meaning", "begins", "(II)Z"⟩, 12), (⟨"GraphScribe$Meaning", "takesRole", "(IIII)V"⟩, 12), (⟨"GraphScribe$Meaning", "isPlacedInObject", "(II)Z"⟩, 12), (⟨"GraphScribe$Meaning", "isPlacedInList", "(III)Z"⟩, 12), (⟨"GraphScribe$Meaning", "isPlacedAsTarget", "(III)Z"⟩, 12), (⟨"GraphScribe$Tree", "hasAttribute", "(I)Z"⟩, 18), (⟨"GraphScribe$Meaning", "isSound", "(I)Z"⟩, 12), (⟨"GraphScribe$Meaning", "areAttributesSound", "(I)Z"⟩, 12), (⟨"GraphScribe$Meaning", "isIdSound", "(II)Z"⟩, 12), (⟨"GraphScribe$Meaning", "idAt", "(II)I"⟩, 12), (⟨"GraphScribe$Meaning", "elementWithId", "(I)I"⟩, 12), (⟨"GraphScribe$Meaning", "fills", "(IIII)Z"⟩, 12), (⟨"GraphScribe$Meaning", "fillsNumber", "(IIII)Z"⟩, 12), (⟨"GraphScribe$Meaning", "leads", "(I)Z"⟩, 12), (⟨"GraphScribe$Way", "down", "(III)I"⟩, 2)]
theorem lw_r4 : ∀ q ∈ lw_privs_4, lw_okq q := List.forall_mem_cons.mpr ⟨lw_p48, List.forall_mem_cons.mpr ⟨lw_p49, List.forall_mem_cons.mpr ⟨lw_p50, List.forall_mem_cons.mpr ⟨lw_p51, List.forall_mem_cons.mpr ⟨lw_p52, List.forall_mem_cons.mpr ⟨lw_p53, List.forall_mem_cons.mpr ⟨lw_p54, List.forall_mem_cons.mpr ⟨lw_p55, List.forall_mem_cons.mpr ⟨lw_p56, List.forall_mem_cons.mpr ⟨lw_p57, List.forall_mem_cons.mpr ⟨lw_p58, List.forall_mem_cons.mpr ⟨lw_p59, List.forall_mem_cons.mpr ⟨lw_p60, List.forall_mem_cons.mpr ⟨lw_p61, List.forall_mem_cons.mpr ⟨lw_p62, List.forall_mem_cons.mpr ⟨lw_p63, fun _ h => absurd h List.not_mem_nil⟩⟩⟩⟩⟩⟩⟩⟩⟩⟩⟩⟩⟩⟩⟩⟩
theorem lw_p64 : lw_okq (⟨"GraphScribe$Way", "placeOf", "(III)I"⟩, 2) := ⟨⟨by decide +kernel, by decide +kernel⟩, List.mem_of_getElem? (i := 907) (by decide +kernel), List.mem_of_getElem? (i := 1117) (by decide +kernel), List.mem_of_getElem? (i := 1118) (by decide +kernel)⟩
theorem lw_p65 : lw_okq (⟨"GraphScribe$Way", "rank", "(II)I"⟩, 2) := ⟨⟨by decide +kernel, by decide +kernel⟩, List.mem_of_getElem? (i := 907) (by decide +kernel), List.mem_of_getElem? (i := 1121) (by decide +kernel), List.mem_of_getElem? (i := 1122) (by decide +kernel)⟩
theorem lw_p66 : lw_okq (⟨"GraphScribe$Way", "goesUp", "(II)Z"⟩, 2) := ⟨⟨by decide +kernel, by decide +kernel⟩, List.mem_of_getElem? (i := 907) (by decide +kernel), List.mem_of_getElem? (i := 1130) (by decide +kernel), List.mem_of_getElem? (i := 1131) (by decide +kernel)⟩
theorem lw_p67 : lw_okq (⟨"GraphScribe$Likeness", "pairs", "(II)Z"⟩, 7) := ⟨⟨by decide +kernel, by decide +kernel⟩, List.mem_of_getElem? (i := 1148) (by decide +kernel), List.mem_of_getElem? (i := 1183) (by decide +kernel), List.mem_of_getElem? (i := 1184) (by decide +kernel)⟩
theorem lw_p68 : lw_okq (⟨"GraphScribe$Likeness", "areFieldsAlike", "(II)Z"⟩, 7) := ⟨⟨by decide +kernel, by decide +kernel⟩, List.mem_of_getElem? (i := 1148) (by decide +kernel), List.mem_of_getElem? (i := 1189) (by decide +kernel), List.mem_of_getElem? (i := 1190) (by decide +kernel)⟩
theorem lw_p69 : lw_okq (⟨"GraphScribe$Likeness", "areTextsAlike", "(III)Z"⟩, 7) := ⟨⟨by decide +kernel, by decide +kernel⟩, List.mem_of_getElem? (i := 1148) (by decide +kernel), List.mem_of_getElem? (i := 1196) (by decide +kernel), List.mem_of_getElem? (i := 1197) (by decide +kernel)⟩
theorem lw_p70 : lw_okq (⟨"GraphScribe$Likeness", "areListsAlike", "(III)Z"⟩, 7) := ⟨⟨by decide +kernel, by decide +kernel⟩, List.mem_of_getElem? (i := 1148) (by decide +kernel), List.mem_of_getElem? (i := 1201) (by decide +kernel), List.mem_of_getElem? (i := 1202) (by decide +kernel)⟩
theorem lw_p71 : lw_okq (⟨"GraphScribe", "heapAt", "(I)LGraphScribe$Heap;"⟩, 10) := ⟨⟨by decide +kernel, by decide +kernel⟩, List.mem_of_getElem? (i := 21) (by decide +kernel), List.mem_of_getElem? (i := 1212) (by decide +kernel), List.mem_of_getElem? (i := 1213) (by decide +kernel)⟩
theorem lw_p72 : lw_okq (⟨"GraphScribeModel", "oneClass", "(I)V"⟩, 72) := ⟨⟨by decide +kernel, by decide +kernel⟩, List.mem_of_getElem? (i := 1230) (by decide +kernel), List.mem_of_getElem? (i := 1467) (by decide +kernel), List.mem_of_getElem? (i := 1468) (by decide +kernel)⟩
theorem lw_p73 : lw_okq (⟨"GraphScribeModel", "name", "(III)V"⟩, 72) := ⟨⟨by decide +kernel, by decide +kernel⟩, List.mem_of_getElem? (i := 1230) (by decide +kernel), List.mem_of_getElem? (i := 1471) (by decide +kernel), List.mem_of_getElem? (i := 1472) (by decide +kernel)⟩
theorem lw_p74 : lw_okq (⟨"GraphScribeModel", "nameAt", "(II)I"⟩, 72) := ⟨⟨by decide +kernel, by decide +kernel⟩, List.mem_of_getElem? (i := 1230) (by decide +kernel), List.mem_of_getElem? (i := 1475) (by decide +kernel), List.mem_of_getElem? (i := 1476) (by decide +kernel)⟩
theorem lw_p75 : lw_okq (⟨"GraphScribeModel", "signAt", "(I)I"⟩, 72) := ⟨⟨by decide +kernel, by decide +kernel⟩, List.mem_of_getElem? (i := 1230) (by decide +kernel), List.mem_of_getElem? (i := 1479) (by decide +kernel), List.mem_of_getElem? (i := 1480) (by decide +kernel)⟩
theorem lw_p76 : lw_okq (⟨"GraphScribeModel", "areAlike", "(II)Z"⟩, 72) := ⟨⟨by decide +kernel, by decide +kernel⟩, List.mem_of_getElem? (i := 1230) (by decide +kernel), List.mem_of_getElem? (i := 1489) (by decide +kernel), List.mem_of_getElem? (i := 1490) (by decide +kernel)⟩
theorem lw_p77 : lw_okq (⟨"GraphScribeModel", "eat", "(I)V"⟩, 72) := ⟨⟨by decide +kernel, by decide +kernel⟩, List.mem_of_getElem? (i := 1230) (by decide +kernel), List.mem_of_getElem? (i := 1493) (by decide +kernel), List.mem_of_getElem? (i := 1494) (by decide +kernel)⟩
theorem lw_p78 : lw_okq (⟨"GraphScribeModel", "want", "(Z)V"⟩, 72) := ⟨⟨by decide +kernel, by decide +kernel⟩, List.mem_of_getElem? (i := 1230) (by decide +kernel), List.mem_of_getElem? (i := 1497) (by decide +kernel), List.mem_of_getElem? (i := 1498) (by decide +kernel)⟩
theorem lw_p79 : lw_okq (⟨"GraphScribeModel", "field", "(II)V"⟩, 72) := ⟨⟨by decide +kernel, by decide +kernel⟩, List.mem_of_getElem? (i := 1230) (by decide +kernel), List.mem_of_getElem? (i := 1501) (by decide +kernel), List.mem_of_getElem? (i := 1502) (by decide +kernel)⟩
def lw_privs_5 : List (MethodName × Nat) := [(⟨"GraphScribe$Way", "placeOf", "(III)I"⟩, 2), (⟨"GraphScribe$Way", "rank", "(II)I"⟩, 2), (⟨"GraphScribe$Way", "goesUp", "(II)Z"⟩, 2), (⟨"GraphScribe$Likeness", "pairs", "(II)Z"⟩, 7), (⟨"GraphScribe$Likeness", "areFieldsAlike", "(II)Z"⟩, 7), (⟨"GraphScribe$Likeness", "areTextsAlike", "(III)Z"⟩, 7), (⟨"GraphScribe$Likeness", "areListsAlike", "(III)Z"⟩, 7), (⟨"GraphScribe", "heapAt", "(I)LGraphScribe$Heap;"⟩, 10), (⟨"GraphScribeModel", "oneClass", "(I)V"⟩, 72), (⟨"GraphScribeModel", "name", "(III)V"⟩, 72), (⟨"GraphScribeModel", "nameAt", "(II)I"⟩, 72), (⟨"GraphScribeModel", "signAt", "(I)I"⟩, 72), (⟨"GraphScribeModel", "areAlike", "(II)Z"⟩, 72), (⟨"GraphScribeModel", "eat", "(I)V"⟩, 72), (⟨"GraphScribeModel", "want", "(Z)V"⟩, 72), (⟨"GraphScribeModel", "field", "(II)V"⟩, 72)]
theorem lw_r5 : ∀ q ∈ lw_privs_5, lw_okq q := List.forall_mem_cons.mpr ⟨lw_p64, List.forall_mem_cons.mpr ⟨lw_p65, List.forall_mem_cons.mpr ⟨lw_p66, List.forall_mem_cons.mpr ⟨lw_p67, List.forall_mem_cons.mpr ⟨lw_p68, List.forall_mem_cons.mpr ⟨lw_p69, List.forall_mem_cons.mpr ⟨lw_p70, List.forall_mem_cons.mpr ⟨lw_p71, List.forall_mem_cons.mpr ⟨lw_p72, List.forall_mem_cons.mpr ⟨lw_p73, List.forall_mem_cons.mpr ⟨lw_p74, List.forall_mem_cons.mpr ⟨lw_p75, List.forall_mem_cons.mpr ⟨lw_p76, List.forall_mem_cons.mpr ⟨lw_p77, List.forall_mem_cons.mpr ⟨lw_p78, List.forall_mem_cons.mpr ⟨lw_p79, fun _ h => absurd h List.not_mem_nil⟩⟩⟩⟩⟩⟩⟩⟩⟩⟩⟩⟩⟩⟩⟩⟩
theorem lw_p80 : lw_okq (⟨"GraphScribeModel", "isWord", "(II)Z"⟩, 72) := ⟨⟨by decide +kernel, by decide +kernel⟩, List.mem_of_getElem? (i := 1230) (by decide +kernel), List.mem_of_getElem? (i := 1505) (by decide +kernel), List.mem_of_getElem? (i := 1506) (by decide +kernel)⟩
theorem lw_p81 : lw_okq (⟨"GraphScribeModel", "isMixed", "(I)Z"⟩, 72) := ⟨⟨by decide +kernel, by decide +kernel⟩, List.mem_of_getElem? (i := 1230) (by decide +kernel), List.mem_of_getElem? (i := 1512) (by decide +kernel), List.mem_of_getElem? (i := 1513) (by decide +kernel)⟩
theorem lw_p82 : lw_okq (⟨"GraphScribeModel", "object", "(II)I"⟩, 72) := ⟨⟨by decide +kernel, by decide +kernel⟩, List.mem_of_getElem? (i := 1230) (by decide +kernel), List.mem_of_getElem? (i := 1520) (by decide +kernel), List.mem_of_getElem? (i := 1521) (by decide +kernel)⟩
theorem lw_p83 : lw_okq (⟨"GraphScribeModel", "kindAt", "(III)I"⟩, 72) := ⟨⟨by decide +kernel, by decide +kernel⟩, List.mem_of_getElem? (i := 1230) (by decide +kernel), List.mem_of_getElem? (i := 1528) (by decide +kernel), List.mem_of_getElem? (i := 1529) (by decide +kernel)⟩
theorem lw_p84 : lw_okq (⟨"GraphScribeModel", "isObject", "(II)Z"⟩, 72) := ⟨⟨by decide +kernel, by decide +kernel⟩, List.mem_of_getElem? (i := 1230) (by decide +kernel), List.mem_of_getElem? (i := 1532) (by decide +kernel), List.mem_of_getElem? (i := 1533) (by decide +kernel)⟩
theorem lw_p85 : lw_okq (⟨"GraphScribeModel", "begin", "(IIIZI)V"⟩, 72) := ⟨⟨by decide +kernel, by decide +kernel⟩, List.mem_of_getElem? (i := 1230) (by decide +kernel), List.mem_of_getElem? (i := 1552) (by decide +kernel), List.mem_of_getElem? (i := 1553) (by decide +kernel)⟩
theorem lw_p86 : lw_okq (⟨"GraphScribeModel", "element", "(II)I"⟩, 72) := ⟨⟨by decide +kernel, by decide +kernel⟩, List.mem_of_getElem? (i := 1230) (by decide +kernel), List.mem_of_getElem? (i := 1556) (by decide +kernel), List.mem_of_getElem? (i := 1557) (by decide +kernel)⟩
theorem lw_p87 : lw_okq (⟨"GraphScribeModel", "sameName", "(II)Z"⟩, 72) := ⟨⟨by decide +kernel, by decide +kernel⟩, List.mem_of_getElem? (i := 1230) (by decide +kernel), List.mem_of_getElem? (i := 1560) (by decide +kernel), List.mem_of_getElem? (i := 1561) (by decide +kernel)⟩
theorem lw_p88 : lw_okq (⟨"GraphScribeModel", "put", "(I)V"⟩, 72) := ⟨⟨by decide +kernel, by decide +kernel⟩, List.mem_of_getElem? (i := 1230) (by decide +kernel), List.mem_of_getElem? (i := 1564) (by decide +kernel), List.mem_of_getElem? (i := 1565) (by decide +kernel)⟩
theorem lw_p89 : lw_okq (⟨"GraphScribeModel", "putName", "(I)V"⟩, 72) := ⟨⟨by decide +kernel, by decide +kernel⟩, List.mem_of_getElem? (i := 1230) (by decide +kernel), List.mem_of_getElem? (i := 1568) (by decide +kernel), List.mem_of_getElem? (i := 1569) (by decide +kernel)⟩
theorem lw_p90 : lw_okq (⟨"GraphScribeModel", "putAttribute", "(IIII)V"⟩, 72) := ⟨⟨by decide +kernel, by decide +kernel⟩, List.mem_of_getElem? (i := 1230) (by decide +kernel), List.mem_of_getElem? (i := 1572) (by decide +kernel), List.mem_of_getElem? (i := 1573) (by decide +kernel)⟩
theorem lw_p91 : lw_okq (⟨"GraphScribeModel", "putWord", "(IIII)V"⟩, 72) := ⟨⟨by decide +kernel, by decide +kernel⟩, List.mem_of_getElem? (i := 1230) (by decide +kernel), List.mem_of_getElem? (i := 1576) (by decide +kernel), List.mem_of_getElem? (i := 1577) (by decide +kernel)⟩
theorem lw_p92 : lw_okq (⟨"GraphScribeModel", "putNumber", "(I)V"⟩, 72) := ⟨⟨by decide +kernel, by decide +kernel⟩, List.mem_of_getElem? (i := 1230) (by decide +kernel), List.mem_of_getElem? (i := 1580) (by decide +kernel), List.mem_of_getElem? (i := 1581) (by decide +kernel)⟩
theorem lw_p93 : lw_okq (⟨"GraphScribeModel", "putValue", "(IIIZ)V"⟩, 72) := ⟨⟨by decide +kernel, by decide +kernel⟩, List.mem_of_getElem? (i := 1230) (by decide +kernel), List.mem_of_getElem? (i := 1586) (by decide +kernel), List.mem_of_getElem? (i := 1587) (by decide +kernel)⟩
theorem lw_p94 : lw_okq (⟨"GraphScribeModel", "putText", "(IZ)V"⟩, 72) := ⟨⟨by decide +kernel, by decide +kernel⟩, List.mem_of_getElem? (i := 1230) (by decide +kernel), List.mem_of_getElem? (i := 1590) (by decide +kernel), List.mem_of_getElem? (i := 1591) (by decide +kernel)⟩
theorem lw_p95 : lw_okq (⟨"GraphScribeModel", "hasContent", "(II)Z"⟩, 72) := ⟨⟨by decide +kernel, by decide +kernel⟩, List.mem_of_getElem? (i := 1230) (by decide +kernel), List.mem_of_getElem? (i := 1594) (by decide +kernel), List.mem_of_getElem? (i := 1595) (by decide +kernel)⟩
def lw_privs_6 : List (MethodName × Nat) := [(⟨"GraphScribeModel", "isWord", "(II)Z"⟩, 72), (⟨"GraphScribeModel", "isMixed", "(I)Z"⟩, 72), (⟨"GraphScribeModel", "object", "(II)I"⟩, 72), (⟨"GraphScribeModel", "kindAt", "(III)I"⟩, 72), (⟨"GraphScribeModel", "isObject", "(II)Z"⟩, 72), (⟨"GraphScribeModel", "begin", "(IIIZI)V"⟩, 72), (⟨"GraphScribeModel", "element", "(II)I"⟩, 72), (⟨"GraphScribeModel", "sameName", "(II)Z"⟩, 72), (⟨"GraphScribeModel", "put", "(I)V"⟩, 72), (⟨"GraphScribeModel", "putName", "(I)V"⟩, 72), (⟨"GraphScribeModel", "putAttribute", "(IIII)V"⟩, 72), (⟨"GraphScribeModel", "putWord", "(IIII)V"⟩, 72), (⟨"GraphScribeModel", "putNumber", "(I)V"⟩, 72), (⟨"GraphScribeModel", "putValue", "(IIIZ)V"⟩, 72), (⟨"GraphScribeModel", "putText", "(IZ)V"⟩, 72), (⟨"GraphScribeModel", "hasContent", "(II)Z"⟩, 72)]
theorem lw_r6 : ∀ q ∈ lw_privs_6, lw_okq q := List.forall_mem_cons.mpr ⟨lw_p80, List.forall_mem_cons.mpr ⟨lw_p81, List.forall_mem_cons.mpr ⟨lw_p82, List.forall_mem_cons.mpr ⟨lw_p83, List.forall_mem_cons.mpr ⟨lw_p84, List.forall_mem_cons.mpr ⟨lw_p85, List.forall_mem_cons.mpr ⟨lw_p86, List.forall_mem_cons.mpr ⟨lw_p87, List.forall_mem_cons.mpr ⟨lw_p88, List.forall_mem_cons.mpr ⟨lw_p89, List.forall_mem_cons.mpr ⟨lw_p90, List.forall_mem_cons.mpr ⟨lw_p91, List.forall_mem_cons.mpr ⟨lw_p92, List.forall_mem_cons.mpr ⟨lw_p93, List.forall_mem_cons.mpr ⟨lw_p94, List.forall_mem_cons.mpr ⟨lw_p95, fun _ h => absurd h List.not_mem_nil⟩⟩⟩⟩⟩⟩⟩⟩⟩⟩⟩⟩⟩⟩⟩⟩
theorem lw_p96 : lw_okq (⟨"GraphScribeModel", "goesOn", "(I)Z"⟩, 72) := ⟨⟨by decide +kernel, by decide +kernel⟩, List.mem_of_getElem? (i := 1230) (by decide +kernel), List.mem_of_getElem? (i := 1598) (by decide +kernel), List.mem_of_getElem? (i := 1599) (by decide +kernel)⟩
theorem lw_p97 : lw_okq (⟨"GraphScribeModel", "end", "(I)V"⟩, 72) := ⟨⟨by decide +kernel, by decide +kernel⟩, List.mem_of_getElem? (i := 1230) (by decide +kernel), List.mem_of_getElem? (i := 1602) (by decide +kernel), List.mem_of_getElem? (i := 1603) (by decide +kernel)⟩
theorem lw_p98 : lw_okq (⟨"GraphScribeModel", "lists", "(IIII)Z"⟩, 72) := ⟨⟨by decide +kernel, by decide +kernel⟩, List.mem_of_getElem? (i := 1230) (by decide +kernel), List.mem_of_getElem? (i := 1606) (by decide +kernel), List.mem_of_getElem? (i := 1607) (by decide +kernel)⟩
theorem lw_p99 : lw_okq (⟨"GraphScribeModel", "child", "(IIIZI)Z"⟩, 72) := ⟨⟨by decide +kernel, by decide +kernel⟩, List.mem_of_getElem? (i := 1230) (by decide +kernel), List.mem_of_getElem? (i := 1610) (by decide +kernel), List.mem_of_getElem? (i := 1611) (by decide +kernel)⟩
theorem lw_p100 : lw_okq (⟨"GraphScribeModel", "refer", "(IIII)V"⟩, 72) := ⟨⟨by decide +kernel, by decide +kernel⟩, List.mem_of_getElem? (i := 1230) (by decide +kernel), List.mem_of_getElem? (i := 1614) (by decide +kernel), List.mem_of_getElem? (i := 1615) (by decide +kernel)⟩
theorem lw_p101 : lw_okq (⟨"GraphScribeModel", "putWay", "(III)V"⟩, 72) := ⟨⟨by decide +kernel, by decide +kernel⟩, List.mem_of_getElem? (i := 1230) (by decide +kernel), List.mem_of_getElem? (i := 1618) (by decide +kernel), List.mem_of_getElem? (i := 1619) (by decide +kernel)⟩
theorem lw_p102 : lw_okq (⟨"GraphScribeModel", "putSteps", "(IIZ)V"⟩, 72) := ⟨⟨by decide +kernel, by decide +kernel⟩, List.mem_of_getElem? (i := 1230) (by decide +kernel), List.mem_of_getElem? (i := 1622) (by decide +kernel), List.mem_of_getElem? (i := 1623) (by decide +kernel)⟩
theorem lw_p103 : lw_okq (⟨"GraphScribeModel", "isAround", "(II)Z"⟩, 72) := ⟨⟨by decide +kernel, by decide +kernel⟩, List.mem_of_getElem? (i := 1230) (by decide +kernel), List.mem_of_getElem? (i := 1626) (by decide +kernel), List.mem_of_getElem? (i := 1627) (by decide +kernel)⟩
theorem lw_p104 : lw_okq (⟨"GraphScribeModel", "putStep", "(I)V"⟩, 72) := ⟨⟨by decide +kernel, by decide +kernel⟩, List.mem_of_getElem? (i := 1230) (by decide +kernel), List.mem_of_getElem? (i := 1630) (by decide +kernel), List.mem_of_getElem? (i := 1631) (by decide +kernel)⟩
theorem lw_p105 : lw_okq (⟨"GraphScribeModel", "parse", "()V"⟩, 72) := ⟨⟨by decide +kernel, by decide +kernel⟩, List.mem_of_getElem? (i := 1230) (by decide +kernel), List.mem_of_getElem? (i := 1650) (by decide +kernel), List.mem_of_getElem? (i := 1651) (by decide +kernel)⟩
theorem lw_p106 : lw_okq (⟨"GraphScribeModel", "blanksFrom", "(I)I"⟩, 72) := ⟨⟨by decide +kernel, by decide +kernel⟩, List.mem_of_getElem? (i := 1230) (by decide +kernel), List.mem_of_getElem? (i := 1654) (by decide +kernel), List.mem_of_getElem? (i := 1655) (by decide +kernel)⟩
theorem lw_p107 : lw_okq (⟨"GraphScribeModel", "docAt", "(I)I"⟩, 72) := ⟨⟨by decide +kernel, by decide +kernel⟩, List.mem_of_getElem? (i := 1230) (by decide +kernel), List.mem_of_getElem? (i := 1658) (by decide +kernel), List.mem_of_getElem? (i := 1659) (by decide +kernel)⟩
theorem lw_p108 : lw_okq (⟨"GraphScribeModel", "fail", "(I)V"⟩, 72) := ⟨⟨by decide +kernel, by decide +kernel⟩, List.mem_of_getElem? (i := 1230) (by decide +kernel), List.mem_of_getElem? (i := 1662) (by decide +kernel), List.mem_of_getElem? (i := 1663) (by decide +kernel)⟩
theorem lw_p109 : lw_okq (⟨"GraphScribeModel", "reference", "(II)I"⟩, 72) := ⟨⟨by decide +kernel, by decide +kernel⟩, List.mem_of_getElem? (i := 1230) (by decide +kernel), List.mem_of_getElem? (i := 1666) (by decide +kernel), List.mem_of_getElem? (i := 1667) (by decide +kernel)⟩
theorem lw_p110 : lw_okq (⟨"GraphScribeModel", "keep", "(II)V"⟩, 72) := ⟨⟨by decide +kernel, by decide +kernel⟩, List.mem_of_getElem? (i := 1230) (by decide +kernel), List.mem_of_getElem? (i := 1673) (by decide +kernel), List.mem_of_getElem? (i := 1674) (by decide +kernel)⟩
theorem lw_p111 : lw_okq (⟨"GraphScribeModel", "endTag", "(II)I"⟩, 72) := ⟨⟨by decide +kernel, by decide +kernel⟩, List.mem_of_getElem? (i := 1230) (by decide +kernel), List.mem_of_getElem? (i := 1683) (by decide +kernel), List.mem_of_getElem? (i := 1684) (by decide +kernel)⟩
def lw_privs_7 : List (MethodName × Nat) := [(⟨"GraphScribeModel", "goesOn", "(I)Z"⟩, 72), (⟨"GraphScribeModel", "end", "(I)V"⟩, 72), (⟨"GraphScribeModel", "lists", "(IIII)Z"⟩, 72), (⟨"GraphScribeModel", "child", "(IIIZI)Z"⟩, 72), (⟨"GraphScribeModel", "refer", "(IIII)V"⟩, 72), (⟨"GraphScribeModel", "putWay", "(III)V"⟩, 72), (⟨"GraphScribeModel", "putSteps", "(IIZ)V"⟩, 72), (⟨"GraphScribeModel", "isAround", "(II)Z"⟩, 72), (⟨"GraphScribeModel", "putStep", "(I)V"⟩, 72), (⟨"GraphScribeModel", "parse", "()V"⟩, 72), (⟨"GraphScribeModel", "blanksFrom", "(I)I"⟩, 72), (⟨"GraphScribeModel", "docAt", "(I)I"⟩, 72), (⟨"GraphScribeModel", "fail", "(I)V"⟩, 72), (⟨"GraphScribeModel", "reference", "(II)I"⟩, 72), (⟨"GraphScribeModel", "keep", "(II)V"⟩, 72), (⟨"GraphScribeModel", "endTag", "(II)I"⟩, 72)]
theorem lw_r7 : ∀ q ∈ lw_privs_7, lw_okq q := List.forall_mem_cons.mpr ⟨lw_p96, List.forall_mem_cons.mpr ⟨lw_p97, List.forall_mem_cons.mpr ⟨lw_p98, List.forall_mem_cons.mpr ⟨lw_p99, List.forall_mem_cons.mpr ⟨lw_p100, List.forall_mem_cons.mpr ⟨lw_p101, List.forall_mem_cons.mpr ⟨lw_p102, List.forall_mem_cons.mpr ⟨lw_p103, List.forall_mem_cons.mpr ⟨lw_p104, List.forall_mem_cons.mpr ⟨lw_p105, List.forall_mem_cons.mpr ⟨lw_p106, List.forall_mem_cons.mpr ⟨lw_p107, List.forall_mem_cons.mpr ⟨lw_p108, List.forall_mem_cons.mpr ⟨lw_p109, List.forall_mem_cons.mpr ⟨lw_p110, List.forall_mem_cons.mpr ⟨lw_p111, fun _ h => absurd h List.not_mem_nil⟩⟩⟩⟩⟩⟩⟩⟩⟩⟩⟩⟩⟩⟩⟩⟩
theorem lw_p112 : lw_okq (⟨"GraphScribeModel", "nameEnd", "(I)I"⟩, 72) := ⟨⟨by decide +kernel, by decide +kernel⟩, List.mem_of_getElem? (i := 1230) (by decide +kernel), List.mem_of_getElem? (i := 1687) (by decide +kernel), List.mem_of_getElem? (i := 1688) (by decide +kernel)⟩
theorem lw_p113 : lw_okq (⟨"GraphScribeModel", "sameNames", "(IIII)Z"⟩, 72) := ⟨⟨by decide +kernel, by decide +kernel⟩, List.mem_of_getElem? (i := 1230) (by decide +kernel), List.mem_of_getElem? (i := 1697) (by decide +kernel), List.mem_of_getElem? (i := 1698) (by decide +kernel)⟩
theorem lw_p114 : lw_okq (⟨"GraphScribeModel", "section", "(IIZ)I"⟩, 72) := ⟨⟨by decide +kernel, by decide +kernel⟩, List.mem_of_getElem? (i := 1230) (by decide +kernel), List.mem_of_getElem? (i := 1701) (by decide +kernel), List.mem_of_getElem? (i := 1702) (by decide +kernel)⟩
theorem lw_p115 : lw_okq (⟨"GraphScribeModel", "beginTag", "(III)I"⟩, 72) := ⟨⟨by decide +kernel, by decide +kernel⟩, List.mem_of_getElem? (i := 1230) (by decide +kernel), List.mem_of_getElem? (i := 1708) (by decide +kernel), List.mem_of_getElem? (i := 1709) (by decide +kernel)⟩
theorem lw_p116 : lw_okq (⟨"GraphScribeModel", "attribute", "(II)I"⟩, 72) := ⟨⟨by decide +kernel, by decide +kernel⟩, List.mem_of_getElem? (i := 1230) (by decide +kernel), List.mem_of_getElem? (i := 1712) (by decide +kernel), List.mem_of_getElem? (i := 1713) (by decide +kernel)⟩
theorem lw_p117 : lw_okq (⟨"GraphScribeModel", "meaningless", "()I"⟩, 72) := ⟨⟨by decide +kernel, by decide +kernel⟩, List.mem_of_getElem? (i := 1230) (by decide +kernel), List.mem_of_getElem? (i := 1716) (by decide +kernel), List.mem_of_getElem? (i := 1717) (by decide +kernel)⟩
theorem lw_p118 : lw_okq (⟨"GraphScribeModel", "hasMeaning", "(I)Z"⟩, 72) := ⟨⟨by decide +kernel, by decide +kernel⟩, List.mem_of_getElem? (i := 1230) (by decide +kernel), List.mem_of_getElem? (i := 1720) (by decide +kernel), List.mem_of_getElem? (i := 1721) (by decide +kernel)⟩
theorem lw_p119 : lw_okq (⟨"GraphScribeModel", "isObjectElement", "(IZ)Z"⟩, 72) := ⟨⟨by decide +kernel, by decide +kernel⟩, List.mem_of_getElem? (i := 1230) (by decide +kernel), List.mem_of_getElem? (i := 1724) (by decide +kernel), List.mem_of_getElem? (i := 1725) (by decide +kernel)⟩
theorem lw_p120 : lw_okq (⟨"GraphScribeModel", "isKey", "(II)Z"⟩, 72) := ⟨⟨by decide +kernel, by decide +kernel⟩, List.mem_of_getElem? (i := 1230) (by decide +kernel), List.mem_of_getElem? (i := 1728) (by decide +kernel), List.mem_of_getElem? (i := 1729) (by decide +kernel)⟩
theorem lw_p121 : lw_okq (⟨"GraphScribeModel", "hasChild", "(I)Z"⟩, 72) := ⟨⟨by decide +kernel, by decide +kernel⟩, List.mem_of_getElem? (i := 1230) (by decide +kernel), List.mem_of_getElem? (i := 1735) (by decide +kernel), List.mem_of_getElem? (i := 1736) (by decide +kernel)⟩
theorem lw_p122 : lw_okq (⟨"GraphScribeModel", "textSize", "(I)I"⟩, 72) := ⟨⟨by decide +kernel, by decide +kernel⟩, List.mem_of_getElem? (i := 1230) (by decide +kernel), List.mem_of_getElem? (i := 1739) (by decide +kernel), List.mem_of_getElem? (i := 1740) (by decide +kernel)⟩
theorem lw_p123 : lw_okq (⟨"GraphScribeModel", "classNamed", "(II)I"⟩, 72) := ⟨⟨by decide +kernel, by decide +kernel⟩, List.mem_of_getElem? (i := 1230) (by decide +kernel), List.mem_of_getElem? (i := 1743) (by decide +kernel), List.mem_of_getElem? (i := 1744) (by decide +kernel)⟩
theorem lw_p124 : lw_okq (⟨"GraphScribeModel", "isNamed", "(III)Z"⟩, 72) := ⟨⟨by decide +kernel, by decide +kernel⟩, List.mem_of_getElem? (i := 1230) (by decide +kernel), List.mem_of_getElem? (i := 1747) (by decide +kernel), List.mem_of_getElem? (i := 1748) (by decide +kernel)⟩
theorem lw_p125 : lw_okq (⟨"GraphScribeModel", "writtenSign", "(II)I"⟩, 72) := ⟨⟨by decide +kernel, by decide +kernel⟩, List.mem_of_getElem? (i := 1230) (by decide +kernel), List.mem_of_getElem? (i := 1751) (by decide +kernel), List.mem_of_getElem? (i := 1752) (by decide +kernel)⟩
theorem lw_p126 : lw_okq (⟨"GraphScribeModel", "classOfValue", "(I)I"⟩, 72) := ⟨⟨by decide +kernel, by decide +kernel⟩, List.mem_of_getElem? (i := 1230) (by decide +kernel), List.mem_of_getElem? (i := 1755) (by decide +kernel), List.mem_of_getElem? (i := 1756) (by decide +kernel)⟩
theorem lw_p127 : lw_okq (⟨"GraphScribeModel", "isBlankWithin", "(I)Z"⟩, 72) := ⟨⟨by decide +kernel, by decide +kernel⟩, List.mem_of_getElem? (i := 1230) (by decide +kernel), List.mem_of_getElem? (i := 1759) (by decide +kernel), List.mem_of_getElem? (i := 1760) (by decide +kernel)⟩
def lw_privs_8 : List (MethodName × Nat) := [(⟨"GraphScribeModel", "nameEnd", "(I)I"⟩, 72), (⟨"GraphScribeModel", "sameNames", "(IIII)Z"⟩, 72), (⟨"GraphScribeModel", "section", "(IIZ)I"⟩, 72), (⟨"GraphScribeModel", "beginTag", "(III)I"⟩, 72), (⟨"GraphScribeModel", "attribute", "(II)I"⟩, 72), (⟨"GraphScribeModel", "meaningless", "()I"⟩, 72), (⟨"GraphScribeModel", "hasMeaning", "(I)Z"⟩, 72), (⟨"GraphScribeModel", "isObjectElement", "(IZ)Z"⟩, 72), (⟨"GraphScribeModel", "isKey", "(II)Z"⟩, 72), (⟨"GraphScribeModel", "hasChild", "(I)Z"⟩, 72), (⟨"GraphScribeModel", "textSize", "(I)I"⟩, 72), (⟨"GraphScribeModel", "classNamed", "(II)I"⟩, 72), (⟨"GraphScribeModel", "isNamed", "(III)Z"⟩, 72), (⟨"GraphScribeModel", "writtenSign", "(II)I"⟩, 72), (⟨"GraphScribeModel", "classOfValue", "(I)I"⟩, 72), (⟨"GraphScribeModel", "isBlankWithin", "(I)Z"⟩, 72)]
theorem lw_r8 : ∀ q ∈ lw_privs_8, lw_okq q := List.forall_mem_cons.mpr ⟨lw_p112, List.forall_mem_cons.mpr ⟨lw_p113, List.forall_mem_cons.mpr ⟨lw_p114, List.forall_mem_cons.mpr ⟨lw_p115, List.forall_mem_cons.mpr ⟨lw_p116, List.forall_mem_cons.mpr ⟨lw_p117, List.forall_mem_cons.mpr ⟨lw_p118, List.forall_mem_cons.mpr ⟨lw_p119, List.forall_mem_cons.mpr ⟨lw_p120, List.forall_mem_cons.mpr ⟨lw_p121, List.forall_mem_cons.mpr ⟨lw_p122, List.forall_mem_cons.mpr ⟨lw_p123, List.forall_mem_cons.mpr ⟨lw_p124, List.forall_mem_cons.mpr ⟨lw_p125, List.forall_mem_cons.mpr ⟨lw_p126, List.forall_mem_cons.mpr ⟨lw_p127, fun _ h => absurd h List.not_mem_nil⟩⟩⟩⟩⟩⟩⟩⟩⟩⟩⟩⟩⟩⟩⟩⟩
theorem lw_p128 : lw_okq (⟨"GraphScribeModel", "fieldNamed", "(IIIZ)I"⟩, 72) := ⟨⟨by decide +kernel, by decide +kernel⟩, List.mem_of_getElem? (i := 1230) (by decide +kernel), List.mem_of_getElem? (i := 1763) (by decide +kernel), List.mem_of_getElem? (i := 1764) (by decide +kernel)⟩
theorem lw_p129 : lw_okq (⟨"GraphScribeModel", "pieceOfValue", "(I)V"⟩, 72) := ⟨⟨by decide +kernel, by decide +kernel⟩, List.mem_of_getElem? (i := 1230) (by decide +kernel), List.mem_of_getElem? (i := 1767) (by decide +kernel), List.mem_of_getElem? (i := 1768) (by decide +kernel)⟩
theorem lw_p130 : lw_okq (⟨"GraphScribeModel", "becomes", "(II)Z"⟩, 72) := ⟨⟨by decide +kernel, by decide +kernel⟩, List.mem_of_getElem? (i := 1230) (by decide +kernel), List.mem_of_getElem? (i := 1771) (by decide +kernel), List.mem_of_getElem? (i := 1772) (by decide +kernel)⟩
theorem lw_p131 : lw_okq (⟨"GraphScribeModel", "isId", "(II)Z"⟩, 72) := ⟨⟨by decide +kernel, by decide +kernel⟩, List.mem_of_getElem? (i := 1230) (by decide +kernel), List.mem_of_getElem? (i := 1778) (by decide +kernel), List.mem_of_getElem? (i := 1779) (by decide +kernel)⟩
theorem lw_p132 : lw_okq (⟨"GraphScribeModel", "isListed", "(III)Z"⟩, 72) := ⟨⟨by decide +kernel, by decide +kernel⟩, List.mem_of_getElem? (i := 1230) (by decide +kernel), List.mem_of_getElem? (i := 1782) (by decide +kernel), List.mem_of_getElem? (i := 1783) (by decide +kernel)⟩
theorem lw_p133 : lw_okq (⟨"GraphScribeModel", "implicitOf", "(I)I"⟩, 72) := ⟨⟨by decide +kernel, by decide +kernel⟩, List.mem_of_getElem? (i := 1230) (by decide +kernel), List.mem_of_getElem? (i := 1786) (by decide +kernel), List.mem_of_getElem? (i := 1787) (by decide +kernel)⟩
theorem lw_p134 : lw_okq (⟨"GraphScribeModel", "pieceOfText", "(I)V"⟩, 72) := ⟨⟨by decide +kernel, by decide +kernel⟩, List.mem_of_getElem? (i := 1230) (by decide +kernel), List.mem_of_getElem? (i := 1790) (by decide +kernel), List.mem_of_getElem? (i := 1791) (by decide +kernel)⟩
theorem lw_p135 : lw_okq (⟨"GraphScribeModel", "leads", "(I)Z"⟩, 72) := ⟨⟨by decide +kernel, by decide +kernel⟩, List.mem_of_getElem? (i := 1230) (by decide +kernel), List.mem_of_getElem? (i := 1794) (by decide +kernel), List.mem_of_getElem? (i := 1795) (by decide +kernel)⟩
theorem lw_p136 : lw_okq (⟨"GraphScribeModel", "target", "(I)I"⟩, 72) := ⟨⟨by decide +kernel, by decide +kernel⟩, List.mem_of_getElem? (i := 1230) (by decide +kernel), List.mem_of_getElem? (i := 1798) (by decide +kernel), List.mem_of_getElem? (i := 1799) (by decide +kernel)⟩
theorem lw_p137 : lw_okq (⟨"GraphScribeModel", "pieceAt", "(I)I"⟩, 72) := ⟨⟨by decide +kernel, by decide +kernel⟩, List.mem_of_getElem? (i := 1230) (by decide +kernel), List.mem_of_getElem? (i := 1802) (by decide +kernel), List.mem_of_getElem? (i := 1803) (by decide +kernel)⟩
theorem lw_p138 : lw_okq (⟨"GraphScribeModel", "withId", "()I"⟩, 72) := ⟨⟨by decide +kernel, by decide +kernel⟩, List.mem_of_getElem? (i := 1230) (by decide +kernel), List.mem_of_getElem? (i := 1806) (by decide +kernel), List.mem_of_getElem? (i := 1807) (by decide +kernel)⟩
theorem lw_p139 : lw_okq (⟨"GraphScribeModel", "steps", "(II)I"⟩, 72) := ⟨⟨by decide +kernel, by decide +kernel⟩, List.mem_of_getElem? (i := 1230) (by decide +kernel), List.mem_of_getElem? (i := 1810) (by decide +kernel), List.mem_of_getElem? (i := 1811) (by decide +kernel)⟩
theorem lw_p140 : lw_okq (⟨"GraphScribeModel", "childAt", "(IIII)I"⟩, 72) := ⟨⟨by decide +kernel, by decide +kernel⟩, List.mem_of_getElem? (i := 1230) (by decide +kernel), List.mem_of_getElem? (i := 1814) (by decide +kernel), List.mem_of_getElem? (i := 1815) (by decide +kernel)⟩
theorem lw_p141 : lw_okq (⟨"GraphScribeModel", "way", "(I)I"⟩, 72) := ⟨⟨by decide +kernel, by decide +kernel⟩, List.mem_of_getElem? (i := 1230) (by decide +kernel), List.mem_of_getElem? (i := 1818) (by decide +kernel), List.mem_of_getElem? (i := 1819) (by decide +kernel)⟩
theorem lw_p142 : lw_okq (⟨"GraphScribeModel", "pair", "(II)Z"⟩, 72) := ⟨⟨by decide +kernel, by decide +kernel⟩, List.mem_of_getElem? (i := 1230) (by decide +kernel), List.mem_of_getElem? (i := 1826) (by decide +kernel), List.mem_of_getElem? (i := 1827) (by decide +kernel)⟩
theorem lw_p143 : lw_okq (⟨"GraphScribeModel", "areSame", "(II)Z"⟩, 72) := ⟨⟨by decide +kernel, by decide +kernel⟩, List.mem_of_getElem? (i := 1230) (by decide +kernel), List.mem_of_getElem? (i := 1830) (by decide +kernel), List.mem_of_getElem? (i := 1831) (by decide +kernel)⟩
def lw_privs_9 : List (MethodName × Nat) := [(⟨"GraphScribeModel", "fieldNamed", "(IIIZ)I"⟩, 72), (⟨"GraphScribeModel", "pieceOfValue", "(I)V"⟩, 72), (⟨"GraphScribeModel", "becomes", "(II)Z"⟩, 72), (⟨"GraphScribeModel", "isId", "(II)Z"⟩, 72), (⟨"GraphScribeModel", "isListed", "(III)Z"⟩, 72), (⟨"GraphScribeModel", "implicitOf", "(I)I"⟩, 72), (⟨"GraphScribeModel", "pieceOfText", "(I)V"⟩, 72), (⟨"GraphScribeModel", "leads", "(I)Z"⟩, 72), (⟨"GraphScribeModel", "target", "(I)I"⟩, 72), (⟨"GraphScribeModel", "pieceAt", "(I)I"⟩, 72), (⟨"GraphScribeModel", "withId", "()I"⟩, 72), (⟨"GraphScribeModel", "steps", "(II)I"⟩, 72), (⟨"GraphScribeModel", "childAt", "(IIII)I"⟩, 72), (⟨"GraphScribeModel", "way", "(I)I"⟩, 72), (⟨"GraphScribeModel", "pair", "(II)Z"⟩, 72), (⟨"GraphScribeModel", "areSame", "(II)Z"⟩, 72)]
theorem lw_r9 : ∀ q ∈ lw_privs_9, lw_okq q := List.forall_mem_cons.mpr ⟨lw_p128, List.forall_mem_cons.mpr ⟨lw_p129, List.forall_mem_cons.mpr ⟨lw_p130, List.forall_mem_cons.mpr ⟨lw_p131, List.forall_mem_cons.mpr ⟨lw_p132, List.forall_mem_cons.mpr ⟨lw_p133, List.forall_mem_cons.mpr ⟨lw_p134, List.forall_mem_cons.mpr ⟨lw_p135, List.forall_mem_cons.mpr ⟨lw_p136, List.forall_mem_cons.mpr ⟨lw_p137, List.forall_mem_cons.mpr ⟨lw_p138, List.forall_mem_cons.mpr ⟨lw_p139, List.forall_mem_cons.mpr ⟨lw_p140, List.forall_mem_cons.mpr ⟨lw_p141, List.forall_mem_cons.mpr ⟨lw_p142, List.forall_mem_cons.mpr ⟨lw_p143, fun _ h => absurd h List.not_mem_nil⟩⟩⟩⟩⟩⟩⟩⟩⟩⟩⟩⟩⟩⟩⟩⟩
def lw_privs : List (MethodName × Nat) := lw_privs_1 ++ (lw_privs_2 ++ (lw_privs_3 ++ (lw_privs_4 ++ (lw_privs_5 ++ (lw_privs_6 ++ (lw_privs_7 ++ (lw_privs_8 ++ (lw_privs_9))))))))
def lw_tbl : List Cond := k2_sels lw_privs ++ tables_1
theorem lw_privs_ok : ∀ q ∈ lw_privs, lw_okq q := by
  show ∀ q ∈ lw_privs_1 ++ (lw_privs_2 ++ (lw_privs_3 ++ (lw_privs_4 ++ (lw_privs_5 ++ (lw_privs_6 ++ (lw_privs_7 ++ (lw_privs_8 ++ (lw_privs_9)))))))), lw_okq q
  exact List.forall_mem_append.mpr ⟨lw_r1, List.forall_mem_append.mpr ⟨lw_r2, List.forall_mem_append.mpr ⟨lw_r3, List.forall_mem_append.mpr ⟨lw_r4, List.forall_mem_append.mpr ⟨lw_r5, List.forall_mem_append.mpr ⟨lw_r6, List.forall_mem_append.mpr ⟨lw_r7, List.forall_mem_append.mpr ⟨lw_r8, lw_r9⟩⟩⟩⟩⟩⟩⟩⟩
def RX0 : String := "GraphScribe$ClassText"
def TX0 : u_T := fun k => match k with
  | 0 => ("GraphScribe$ClassText", "text", "LGraphScribe$Signs;", true)
  | 1 => ("GraphScribe$ClassText", "schema", "LGraphScribe$Schema;", true)
  | _ => ("GraphScribe$ClassText", "place", "I", false)
def tyX0 : Nat → FieldType := fun k => match k with
  | 0 => .object "GraphScribe$Signs"
  | 1 => .object "GraphScribe$Schema"
  | _ => .int
theorem nmX0 : ∀ a, a < 3 → ∀ b, b < 3 → a ≠ b → (TX0 a).2.1 ≠ (TX0 b).2.1 := by decide +kernel
theorem tyX0_ok : ∀ k, k < 3 → parseFieldDescriptor (TX0 k).2.2.1 = some (tyX0 k) := by decide +kernel
abbrev cX0_init : ByteArray := prog_2_method_1_code
def yX0_init : MethodName := ⟨RX0, "<init>", "(LGraphScribe$Signs;LGraphScribe$Schema;)V"⟩
abbrev cX0_firstWrong : ByteArray := prog_2_method_2_code
def yX0_firstWrong : MethodName := ⟨RX0, "firstWrong", "()I"⟩
abbrev cX0_isClassRight : ByteArray := prog_2_method_3_code
def yX0_isClassRight : MethodName := ⟨RX0, "isClassRight", "(I)Z"⟩
abbrev cX0_isFieldRight : ByteArray := prog_2_method_4_code
def yX0_isFieldRight : MethodName := ⟨RX0, "isFieldRight", "(II)Z"⟩
abbrev cX0_isNameRight : ByteArray := prog_2_method_5_code
def yX0_isNameRight : MethodName := ⟨RX0, "isNameRight", "(I)Z"⟩
abbrev cX0_skips : ByteArray := prog_2_method_6_code
def yX0_skips : MethodName := ⟨RX0, "skips", "(I)Z"⟩
abbrev cX0_isNameSign : ByteArray := prog_2_method_7_code
def yX0_isNameSign : MethodName := ⟨RX0, "isNameSign", "(I)Z"⟩
abbrev cX0_shapeOf : ByteArray := prog_2_method_8_code
def yX0_shapeOf : MethodName := ⟨RX0, "shapeOf", "(I)I"⟩
def RX1 : String := "GraphScribe$Heap"
def TX1 : u_T := fun k => match k with
  | 0 => ("GraphScribe$Heap", "classes", "[I", true)
  | 1 => ("GraphScribe$Heap", "heads", "[I", true)
  | 2 => ("GraphScribe$Heap", "cells", "[I", true)
  | _ => ("GraphScribe$Heap", "size", "I", false)
def tyX1 : Nat → FieldType := fun k => match k with
  | 0 => .array .int
  | 1 => .array .int
  | 2 => .array .int
  | _ => .int
theorem nmX1 : ∀ a, a < 4 → ∀ b, b < 4 → a ≠ b → (TX1 a).2.1 ≠ (TX1 b).2.1 := by decide +kernel
theorem tyX1_ok : ∀ k, k < 4 → parseFieldDescriptor (TX1 k).2.2.1 = some (tyX1 k) := by decide +kernel
abbrev cX1_init : ByteArray := prog_3_method_1_code
def yX1_init : MethodName := ⟨RX1, "<init>", "()V"⟩
abbrev cX1_size : ByteArray := prog_3_method_2_code
def yX1_size : MethodName := ⟨RX1, "size", "()I"⟩
abbrev cX1_has : ByteArray := prog_3_method_3_code
def yX1_has : MethodName := ⟨RX1, "has", "(I)Z"⟩
abbrev cX1_clear : ByteArray := prog_3_method_4_code
def yX1_clear : MethodName := ⟨RX1, "clear", "()V"⟩
abbrev cX1_born : ByteArray := prog_3_method_5_code
def yX1_born : MethodName := ⟨RX1, "born", "(II)I"⟩
abbrev cX1_classOf : ByteArray := prog_3_method_6_code
def yX1_classOf : MethodName := ⟨RX1, "classOf", "(I)I"⟩
abbrev cX1_hasField : ByteArray := prog_3_method_7_code
def yX1_hasField : MethodName := ⟨RX1, "hasField", "(II)Z"⟩
abbrev cX1_head : ByteArray := prog_3_method_8_code
def yX1_head : MethodName := ⟨RX1, "head", "(II)I"⟩
abbrev cX1_putHead : ByteArray := prog_3_method_9_code
def yX1_putHead : MethodName := ⟨RX1, "putHead", "(III)V"⟩
abbrev cX1_hasCell : ByteArray := prog_3_method_10_code
def yX1_hasCell : MethodName := ⟨RX1, "hasCell", "(III)Z"⟩
abbrev cX1_cell : ByteArray := prog_3_method_11_code
def yX1_cell : MethodName := ⟨RX1, "cell", "(III)I"⟩
abbrev cX1_putCell : ByteArray := prog_3_method_12_code
def yX1_putCell : MethodName := ⟨RX1, "putCell", "(IIII)V"⟩
abbrev cX1_append : ByteArray := prog_3_method_13_code
def yX1_append : MethodName := ⟨RX1, "append", "(III)I"⟩
abbrev cX1_putText : ByteArray := prog_3_method_14_code
def yX1_putText : MethodName := ⟨RX1, "putText", "(IILGraphScribe$Signs;II)V"⟩
def RX2 : String := "GraphScribe$Likeness"
def TX2 : u_T := fun k => match k with
  | 0 => ("GraphScribe$Likeness", "schema", "LGraphScribe$Schema;", true)
  | 1 => ("GraphScribe$Likeness", "heap", "LGraphScribe$Heap;", true)
  | 2 => ("GraphScribe$Likeness", "other", "LGraphScribe$Heap;", true)
  | 3 => ("GraphScribe$Likeness", "partners", "[I", true)
  | 4 => ("GraphScribe$Likeness", "partnersBack", "[I", true)
  | 5 => ("GraphScribe$Likeness", "queue", "[I", true)
  | _ => ("GraphScribe$Likeness", "queued", "I", false)
def tyX2 : Nat → FieldType := fun k => match k with
  | 0 => .object "GraphScribe$Schema"
  | 1 => .object "GraphScribe$Heap"
  | 2 => .object "GraphScribe$Heap"
  | 3 => .array .int
  | 4 => .array .int
  | 5 => .array .int
  | _ => .int
theorem nmX2 : ∀ a, a < 7 → ∀ b, b < 7 → a ≠ b → (TX2 a).2.1 ≠ (TX2 b).2.1 := by decide +kernel
theorem tyX2_ok : ∀ k, k < 7 → parseFieldDescriptor (TX2 k).2.2.1 = some (tyX2 k) := by decide +kernel
abbrev cX2_init : ByteArray := prog_4_method_1_code
def yX2_init : MethodName := ⟨RX2, "<init>", "(LGraphScribe$Schema;LGraphScribe$Heap;LGraphScribe$Heap;)V"⟩
abbrev cX2_holdsFrom : ByteArray := prog_4_method_2_code
def yX2_holdsFrom : MethodName := ⟨RX2, "holdsFrom", "(II)Z"⟩
abbrev cX2_pairs : ByteArray := prog_4_method_3_code
def yX2_pairs : MethodName := ⟨RX2, "pairs", "(II)Z"⟩
abbrev cX2_areFieldsAlike : ByteArray := prog_4_method_4_code
def yX2_areFieldsAlike : MethodName := ⟨RX2, "areFieldsAlike", "(II)Z"⟩
abbrev cX2_areTextsAlike : ByteArray := prog_4_method_5_code
def yX2_areTextsAlike : MethodName := ⟨RX2, "areTextsAlike", "(III)Z"⟩
abbrev cX2_areListsAlike : ByteArray := prog_4_method_6_code
def yX2_areListsAlike : MethodName := ⟨RX2, "areListsAlike", "(III)Z"⟩
def RX3 : String := "GraphScribe$Meaning"
def TX3 : u_T := fun k => match k with
  | 0 => ("GraphScribe$Meaning", "schema", "LGraphScribe$Schema;", true)
  | 1 => ("GraphScribe$Meaning", "tree", "LGraphScribe$Tree;", true)
  | 2 => ("GraphScribe$Meaning", "names", "LGraphScribe$Signs;", true)
  | 3 => ("GraphScribe$Meaning", "values", "LGraphScribe$Signs;", true)
  | 4 => ("GraphScribe$Meaning", "heap", "LGraphScribe$Heap;", true)
  | 5 => ("GraphScribe$Meaning", "way", "LGraphScribe$Way;", true)
  | 6 => ("GraphScribe$Meaning", "roles", "[I", true)
  | 7 => ("GraphScribe$Meaning", "objects", "[I", true)
  | 8 => ("GraphScribe$Meaning", "fields", "[I", true)
  | 9 => ("GraphScribe$Meaning", "places", "[I", true)
  | 10 => ("GraphScribe$Meaning", "ids", "[I", true)
  | _ => ("GraphScribe$Meaning", "filled", "[I", true)
def tyX3 : Nat → FieldType := fun k => match k with
  | 0 => .object "GraphScribe$Schema"
  | 1 => .object "GraphScribe$Tree"
  | 2 => .object "GraphScribe$Signs"
  | 3 => .object "GraphScribe$Signs"
  | 4 => .object "GraphScribe$Heap"
  | 5 => .object "GraphScribe$Way"
  | 6 => .array .int
  | 7 => .array .int
  | 8 => .array .int
  | 9 => .array .int
  | 10 => .array .int
  | _ => .array .int
theorem nmX3 : ∀ a, a < 12 → ∀ b, b < 12 → a ≠ b → (TX3 a).2.1 ≠ (TX3 b).2.1 := by decide +kernel
theorem tyX3_ok : ∀ k, k < 12 → parseFieldDescriptor (TX3 k).2.2.1 = some (tyX3 k) := by decide +kernel
abbrev cX3_init : ByteArray := prog_5_method_1_code
def yX3_init : MethodName := ⟨RX3, "<init>", "(LGraphScribe$Schema;LGraphScribe$Tree;LGraphScribe$Heap;)V"⟩
abbrev cX3_firstWrong : ByteArray := prog_5_method_2_code
def yX3_firstWrong : MethodName := ⟨RX3, "firstWrong", "()I"⟩
abbrev cX3_isPlaced : ByteArray := prog_5_method_3_code
def yX3_isPlaced : MethodName := ⟨RX3, "isPlaced", "(I)Z"⟩
abbrev cX3_begins : ByteArray := prog_5_method_4_code
def yX3_begins : MethodName := ⟨RX3, "begins", "(II)Z"⟩
abbrev cX3_takesRole : ByteArray := prog_5_method_5_code
def yX3_takesRole : MethodName := ⟨RX3, "takesRole", "(IIII)V"⟩
abbrev cX3_isPlacedInObject : ByteArray := prog_5_method_6_code
def yX3_isPlacedInObject : MethodName := ⟨RX3, "isPlacedInObject", "(II)Z"⟩
abbrev cX3_isPlacedAsTarget : ByteArray := prog_5_method_7_code
def yX3_isPlacedAsTarget : MethodName := ⟨RX3, "isPlacedAsTarget", "(III)Z"⟩
abbrev cX3_isPlacedInList : ByteArray := prog_5_method_8_code
def yX3_isPlacedInList : MethodName := ⟨RX3, "isPlacedInList", "(III)Z"⟩
abbrev cX3_isSound : ByteArray := prog_5_method_9_code
def yX3_isSound : MethodName := ⟨RX3, "isSound", "(I)Z"⟩
abbrev cX3_areAttributesSound : ByteArray := prog_5_method_10_code
def yX3_areAttributesSound : MethodName := ⟨RX3, "areAttributesSound", "(I)Z"⟩
abbrev cX3_isIdSound : ByteArray := prog_5_method_11_code
def yX3_isIdSound : MethodName := ⟨RX3, "isIdSound", "(II)Z"⟩
abbrev cX3_idAt : ByteArray := prog_5_method_12_code
def yX3_idAt : MethodName := ⟨RX3, "idAt", "(II)I"⟩
abbrev cX3_elementWithId : ByteArray := prog_5_method_13_code
def yX3_elementWithId : MethodName := ⟨RX3, "elementWithId", "(I)I"⟩
abbrev cX3_fills : ByteArray := prog_5_method_14_code
def yX3_fills : MethodName := ⟨RX3, "fills", "(IIII)Z"⟩
abbrev cX3_fillsNumber : ByteArray := prog_5_method_15_code
def yX3_fillsNumber : MethodName := ⟨RX3, "fillsNumber", "(IIII)Z"⟩
abbrev cX3_leads : ByteArray := prog_5_method_16_code
def yX3_leads : MethodName := ⟨RX3, "leads", "(I)Z"⟩
def RX4 : String := "GraphScribe$Schema"
def TX4 : u_T := fun k => match k with
  | 0 => ("GraphScribe$Schema", "letters", "[C", true)
  | 1 => ("GraphScribe$Schema", "lengths", "[I", true)
  | 2 => ("GraphScribe$Schema", "shapes", "[I", true)
  | 3 => ("GraphScribe$Schema", "attributes", "[Z", true)
  | 4 => ("GraphScribe$Schema", "fieldCounts", "[I", true)
  | 5 => ("GraphScribe$Schema", "implicits", "[I", true)
  | 6 => ("GraphScribe$Schema", "references", "[I", true)
  | 7 => ("GraphScribe$Schema", "forbidden", "[Z", true)
  | _ => ("GraphScribe$Schema", "size", "I", false)
def tyX4 : Nat → FieldType := fun k => match k with
  | 0 => .array .char
  | 1 => .array .int
  | 2 => .array .int
  | 3 => .array .boolean
  | 4 => .array .int
  | 5 => .array .int
  | 6 => .array .int
  | 7 => .array .boolean
  | _ => .int
theorem nmX4 : ∀ a, a < 9 → ∀ b, b < 9 → a ≠ b → (TX4 a).2.1 ≠ (TX4 b).2.1 := by decide +kernel
theorem tyX4_ok : ∀ k, k < 9 → parseFieldDescriptor (TX4 k).2.2.1 = some (tyX4 k) := by decide +kernel
abbrev cX4_init : ByteArray := prog_6_method_1_code
def yX4_init : MethodName := ⟨RX4, "<init>", "()V"⟩
abbrev cX4_fieldName : ByteArray := prog_6_method_2_code
def yX4_fieldName : MethodName := ⟨RX4, "fieldName", "(II)I"⟩
abbrev cX4_isFieldName : ByteArray := prog_6_method_3_code
def yX4_isFieldName : MethodName := ⟨RX4, "isFieldName", "(I)Z"⟩
abbrev cX4_size : ByteArray := prog_6_method_4_code
def yX4_size : MethodName := ⟨RX4, "size", "()I"⟩
abbrev cX4_isClass : ByteArray := prog_6_method_5_code
def yX4_isClass : MethodName := ⟨RX4, "isClass", "(I)Z"⟩
abbrev cX4_fieldCount : ByteArray := prog_6_method_6_code
def yX4_fieldCount : MethodName := ⟨RX4, "fieldCount", "(I)I"⟩
abbrev cX4_isField : ByteArray := prog_6_method_7_code
def yX4_isField : MethodName := ⟨RX4, "isField", "(II)Z"⟩
abbrev cX4_shape : ByteArray := prog_6_method_8_code
def yX4_shape : MethodName := ⟨RX4, "shape", "(II)I"⟩
abbrev cX4_isAttribute : ByteArray := prog_6_method_9_code
def yX4_isAttribute : MethodName := ⟨RX4, "isAttribute", "(II)Z"⟩
abbrev cX4_implicit : ByteArray := prog_6_method_10_code
def yX4_implicit : MethodName := ⟨RX4, "implicit", "(I)I"⟩
abbrev cX4_isExplicitList : ByteArray := prog_6_method_11_code
def yX4_isExplicitList : MethodName := ⟨RX4, "isExplicitList", "(II)Z"⟩
abbrev cX4_references : ByteArray := prog_6_method_12_code
def yX4_references : MethodName := ⟨RX4, "references", "(I)I"⟩
abbrev cX4_isForbidden : ByteArray := prog_6_method_13_code
def yX4_isForbidden : MethodName := ⟨RX4, "isForbidden", "(I)Z"⟩
abbrev cX4_putForbidden : ByteArray := prog_6_method_14_code
def yX4_putForbidden : MethodName := ⟨RX4, "putForbidden", "(IZ)V"⟩
abbrev cX4_forbiddenSize : ByteArray := prog_6_method_15_code
def yX4_forbiddenSize : MethodName := ⟨RX4, "forbiddenSize", "()I"⟩
abbrev cX4_clear : ByteArray := prog_6_method_16_code
def yX4_clear : MethodName := ⟨RX4, "clear", "()V"⟩
abbrev cX4_beginClass : ByteArray := prog_6_method_17_code
def yX4_beginClass : MethodName := ⟨RX4, "beginClass", "()V"⟩
abbrev cX4_beginField : ByteArray := prog_6_method_18_code
def yX4_beginField : MethodName := ⟨RX4, "beginField", "()V"⟩
abbrev cX4_putShape : ByteArray := prog_6_method_19_code
def yX4_putShape : MethodName := ⟨RX4, "putShape", "(III)V"⟩
abbrev cX4_putAttribute : ByteArray := prog_6_method_20_code
def yX4_putAttribute : MethodName := ⟨RX4, "putAttribute", "(II)V"⟩
abbrev cX4_putImplicit : ByteArray := prog_6_method_21_code
def yX4_putImplicit : MethodName := ⟨RX4, "putImplicit", "(II)V"⟩
abbrev cX4_spellOn : ByteArray := prog_6_method_22_code
def yX4_spellOn : MethodName := ⟨RX4, "spellOn", "(II)V"⟩
abbrev cX4_letterOn : ByteArray := prog_6_method_23_code
def yX4_letterOn : MethodName := ⟨RX4, "letterOn", "(II)V"⟩
abbrev cX4_spellTo : ByteArray := prog_6_method_24_code
def yX4_spellTo : MethodName := ⟨RX4, "spellTo", "(LGraphScribe$Signs;I)V"⟩
abbrev cX4_spells : ByteArray := prog_6_method_25_code
def yX4_spells : MethodName := ⟨RX4, "spells", "(ILGraphScribe$Signs;II)Z"⟩
abbrev cX4_readableClass : ByteArray := prog_6_method_26_code
def yX4_readableClass : MethodName := ⟨RX4, "readableClass", "(LGraphScribe$Signs;II)I"⟩
abbrev cX4_fieldNamed : ByteArray := prog_6_method_27_code
def yX4_fieldNamed : MethodName := ⟨RX4, "fieldNamed", "(IZLGraphScribe$Signs;II)I"⟩
abbrev cX4_obeysNameRules : ByteArray := prog_6_method_28_code
def yX4_obeysNameRules : MethodName := ⟨RX4, "obeysNameRules", "()Z"⟩
abbrev cX4_isFieldNameFree : ByteArray := prog_6_method_29_code
def yX4_isFieldNameFree : MethodName := ⟨RX4, "isFieldNameFree", "(II)Z"⟩
abbrev cX4_hasTwin : ByteArray := prog_6_method_30_code
def yX4_hasTwin : MethodName := ⟨RX4, "hasTwin", "(III)Z"⟩
abbrev cX4_isTwin : ByteArray := prog_6_method_31_code
def yX4_isTwin : MethodName := ⟨RX4, "isTwin", "(II)Z"⟩
abbrev cX4_isWord : ByteArray := prog_6_method_32_code
def yX4_isWord : MethodName := ⟨RX4, "isWord", "(ILjava/lang/String;)Z"⟩
def RX5 : String := "GraphScribe$Signs"
def TX5 : u_T := fun k => match k with
  | 0 => ("GraphScribe$Signs", "row", "[C", false)
  | 1 => ("GraphScribe$Signs", "length", "I", false)
  | _ => ("GraphScribe$Signs", "overflowed", "Z", false)
def tyX5 : Nat → FieldType := fun k => match k with
  | 0 => .array .char
  | 1 => .int
  | _ => .boolean
theorem nmX5 : ∀ a, a < 3 → ∀ b, b < 3 → a ≠ b → (TX5 a).2.1 ≠ (TX5 b).2.1 := by decide +kernel
theorem tyX5_ok : ∀ k, k < 3 → parseFieldDescriptor (TX5 k).2.2.1 = some (tyX5 k) := by decide +kernel
abbrev cX5_init : ByteArray := prog_7_method_1_code
def yX5_init : MethodName := ⟨RX5, "<init>", "()V"⟩
abbrev cX5_length : ByteArray := prog_7_method_2_code
def yX5_length : MethodName := ⟨RX5, "length", "()I"⟩
abbrev cX5_has : ByteArray := prog_7_method_3_code
def yX5_has : MethodName := ⟨RX5, "has", "(I)Z"⟩
abbrev cX5_at : ByteArray := prog_7_method_4_code
def yX5_at : MethodName := ⟨RX5, "at", "(I)I"⟩
abbrev cX5_hasOverflowed : ByteArray := prog_7_method_5_code
def yX5_hasOverflowed : MethodName := ⟨RX5, "hasOverflowed", "()Z"⟩
abbrev cX5_clear : ByteArray := prog_7_method_6_code
def yX5_clear : MethodName := ⟨RX5, "clear", "()V"⟩
abbrev cX5_put : ByteArray := prog_7_method_7_code
def yX5_put : MethodName := ⟨RX5, "put", "(I)Z"⟩
abbrev cX5_spell : ByteArray := prog_7_method_8_code
def yX5_spell : MethodName := ⟨RX5, "spell", "(Ljava/lang/String;)V"⟩
abbrev cX5_become : ByteArray := prog_7_method_9_code
def yX5_become : MethodName := ⟨RX5, "become", "(LGraphScribe$Signs;)V"⟩
abbrev cX5_isAt : ByteArray := prog_7_method_10_code
def yX5_isAt : MethodName := ⟨RX5, "isAt", "(IILjava/lang/String;)Z"⟩
def RX6 : String := "GraphScribe$Tree"
def TX6 : u_T := fun k => match k with
  | 0 => ("GraphScribe$Tree", "values", "LGraphScribe$Signs;", true)
  | 1 => ("GraphScribe$Tree", "text", "LGraphScribe$Signs;", false)
  | 2 => ("GraphScribe$Tree", "begins", "[I", true)
  | 3 => ("GraphScribe$Tree", "nameFroms", "[I", true)
  | 4 => ("GraphScribe$Tree", "nameTos", "[I", true)
  | 5 => ("GraphScribe$Tree", "parents", "[I", true)
  | 6 => ("GraphScribe$Tree", "kidCounts", "[I", true)
  | 7 => ("GraphScribe$Tree", "firstAttributes", "[I", true)
  | 8 => ("GraphScribe$Tree", "attributeCounts", "[I", true)
  | 9 => ("GraphScribe$Tree", "textFroms", "[I", true)
  | 10 => ("GraphScribe$Tree", "textTos", "[I", true)
  | 11 => ("GraphScribe$Tree", "solids", "[Z", true)
  | 12 => ("GraphScribe$Tree", "keyFroms", "[I", true)
  | 13 => ("GraphScribe$Tree", "keyTos", "[I", true)
  | 14 => ("GraphScribe$Tree", "valueFroms", "[I", true)
  | 15 => ("GraphScribe$Tree", "valueTos", "[I", true)
  | 16 => ("GraphScribe$Tree", "size", "I", false)
  | _ => ("GraphScribe$Tree", "attributeSize", "I", false)
def tyX6 : Nat → FieldType := fun k => match k with
  | 0 => .object "GraphScribe$Signs"
  | 1 => .object "GraphScribe$Signs"
  | 2 => .array .int
  | 3 => .array .int
  | 4 => .array .int
  | 5 => .array .int
  | 6 => .array .int
  | 7 => .array .int
  | 8 => .array .int
  | 9 => .array .int
  | 10 => .array .int
  | 11 => .array .boolean
  | 12 => .array .int
  | 13 => .array .int
  | 14 => .array .int
  | 15 => .array .int
  | 16 => .int
  | _ => .int
theorem nmX6 : ∀ a, a < 18 → ∀ b, b < 18 → a ≠ b → (TX6 a).2.1 ≠ (TX6 b).2.1 := by decide +kernel
theorem tyX6_ok : ∀ k, k < 18 → parseFieldDescriptor (TX6 k).2.2.1 = some (tyX6 k) := by decide +kernel
abbrev cX6_init : ByteArray := prog_8_method_1_code
def yX6_init : MethodName := ⟨RX6, "<init>", "()V"⟩
abbrev cX6_restart : ByteArray := prog_8_method_2_code
def yX6_restart : MethodName := ⟨RX6, "restart", "(LGraphScribe$Signs;)V"⟩
abbrev cX6_names : ByteArray := prog_8_method_3_code
def yX6_names : MethodName := ⟨RX6, "names", "()LGraphScribe$Signs;"⟩
abbrev cX6_values : ByteArray := prog_8_method_4_code
def yX6_values : MethodName := ⟨RX6, "values", "()LGraphScribe$Signs;"⟩
abbrev cX6_size : ByteArray := prog_8_method_5_code
def yX6_size : MethodName := ⟨RX6, "size", "()I"⟩
abbrev cX6_has : ByteArray := prog_8_method_6_code
def yX6_has : MethodName := ⟨RX6, "has", "(I)Z"⟩
abbrev cX6_hasAttribute : ByteArray := prog_8_method_7_code
def yX6_hasAttribute : MethodName := ⟨RX6, "hasAttribute", "(I)Z"⟩
abbrev cX6_begin : ByteArray := prog_8_method_8_code
def yX6_begin : MethodName := ⟨RX6, "begin", "(III)I"⟩
abbrev cX6_addAttribute : ByteArray := prog_8_method_9_code
def yX6_addAttribute : MethodName := ⟨RX6, "addAttribute", "(III)V"⟩
abbrev cX6_beginText : ByteArray := prog_8_method_10_code
def yX6_beginText : MethodName := ⟨RX6, "beginText", "(I)V"⟩
abbrev cX6_addText : ByteArray := prog_8_method_11_code
def yX6_addText : MethodName := ⟨RX6, "addText", "(II)V"⟩
abbrev cX6_beginOf : ByteArray := prog_8_method_12_code
def yX6_beginOf : MethodName := ⟨RX6, "beginOf", "(I)I"⟩
abbrev cX6_nameFrom : ByteArray := prog_8_method_13_code
def yX6_nameFrom : MethodName := ⟨RX6, "nameFrom", "(I)I"⟩
abbrev cX6_nameTo : ByteArray := prog_8_method_14_code
def yX6_nameTo : MethodName := ⟨RX6, "nameTo", "(I)I"⟩
abbrev cX6_parent : ByteArray := prog_8_method_15_code
def yX6_parent : MethodName := ⟨RX6, "parent", "(I)I"⟩
abbrev cX6_kidCount : ByteArray := prog_8_method_16_code
def yX6_kidCount : MethodName := ⟨RX6, "kidCount", "(I)I"⟩
abbrev cX6_firstAttribute : ByteArray := prog_8_method_17_code
def yX6_firstAttribute : MethodName := ⟨RX6, "firstAttribute", "(I)I"⟩
abbrev cX6_attributeCount : ByteArray := prog_8_method_18_code
def yX6_attributeCount : MethodName := ⟨RX6, "attributeCount", "(I)I"⟩
abbrev cX6_textFrom : ByteArray := prog_8_method_19_code
def yX6_textFrom : MethodName := ⟨RX6, "textFrom", "(I)I"⟩
abbrev cX6_textTo : ByteArray := prog_8_method_20_code
def yX6_textTo : MethodName := ⟨RX6, "textTo", "(I)I"⟩
abbrev cX6_isSolid : ByteArray := prog_8_method_21_code
def yX6_isSolid : MethodName := ⟨RX6, "isSolid", "(I)Z"⟩
abbrev cX6_keyFrom : ByteArray := prog_8_method_22_code
def yX6_keyFrom : MethodName := ⟨RX6, "keyFrom", "(I)I"⟩
abbrev cX6_keyTo : ByteArray := prog_8_method_23_code
def yX6_keyTo : MethodName := ⟨RX6, "keyTo", "(I)I"⟩
abbrev cX6_valueFrom : ByteArray := prog_8_method_24_code
def yX6_valueFrom : MethodName := ⟨RX6, "valueFrom", "(I)I"⟩
abbrev cX6_valueTo : ByteArray := prog_8_method_25_code
def yX6_valueTo : MethodName := ⟨RX6, "valueTo", "(I)I"⟩
abbrev cX6_isNamed : ByteArray := prog_8_method_26_code
def yX6_isNamed : MethodName := ⟨RX6, "isNamed", "(III)Z"⟩
abbrev cX6_hasKey : ByteArray := prog_8_method_27_code
def yX6_hasKey : MethodName := ⟨RX6, "hasKey", "(III)Z"⟩
abbrev cX6_attributeNamed : ByteArray := prog_8_method_28_code
def yX6_attributeNamed : MethodName := ⟨RX6, "attributeNamed", "(ILjava/lang/String;)I"⟩
abbrev cX6_child : ByteArray := prog_8_method_29_code
def yX6_child : MethodName := ⟨RX6, "child", "(IIII)I"⟩
abbrev cX6_isSpelt : ByteArray := prog_8_method_30_code
def yX6_isSpelt : MethodName := ⟨RX6, "isSpelt", "(IILGraphScribe$Signs;II)Z"⟩
def RX7 : String := "GraphScribe$Way"
def TX7 : u_T := fun k => match k with
  | 0 => ("GraphScribe$Way", "tree", "LGraphScribe$Tree;", true)
  | _ => ("GraphScribe$Way", "values", "LGraphScribe$Signs;", true)
def tyX7 : Nat → FieldType := fun k => match k with
  | 0 => .object "GraphScribe$Tree"
  | _ => .object "GraphScribe$Signs"
theorem nmX7 : ∀ a, a < 2 → ∀ b, b < 2 → a ≠ b → (TX7 a).2.1 ≠ (TX7 b).2.1 := by decide +kernel
theorem tyX7_ok : ∀ k, k < 2 → parseFieldDescriptor (TX7 k).2.2.1 = some (tyX7 k) := by decide +kernel
abbrev cX7_init : ByteArray := prog_9_method_1_code
def yX7_init : MethodName := ⟨RX7, "<init>", "(LGraphScribe$Tree;)V"⟩
abbrev cX7_end : ByteArray := prog_9_method_2_code
def yX7_end : MethodName := ⟨RX7, "end", "(III)I"⟩
abbrev cX7_goesUp : ByteArray := prog_9_method_3_code
def yX7_goesUp : MethodName := ⟨RX7, "goesUp", "(II)Z"⟩
abbrev cX7_down : ByteArray := prog_9_method_4_code
def yX7_down : MethodName := ⟨RX7, "down", "(III)I"⟩
abbrev cX7_rank : ByteArray := prog_9_method_5_code
def yX7_rank : MethodName := ⟨RX7, "rank", "(II)I"⟩
abbrev cX7_placeOf : ByteArray := prog_9_method_6_code
def yX7_placeOf : MethodName := ⟨RX7, "placeOf", "(III)I"⟩
def RX8 : String := "GraphScribe$Writer"
def TX8 : u_T := fun k => match k with
  | 0 => ("GraphScribe$Writer", "schema", "LGraphScribe$Schema;", true)
  | 1 => ("GraphScribe$Writer", "heap", "LGraphScribe$Heap;", true)
  | 2 => ("GraphScribe$Writer", "out", "LGraphScribe$Signs;", true)
  | 3 => ("GraphScribe$Writer", "mode", "I", true)
  | 4 => ("GraphScribe$Writer", "most", "I", true)
  | 5 => ("GraphScribe$Writer", "ids", "[I", true)
  | 6 => ("GraphScribe$Writer", "owners", "[I", true)
  | 7 => ("GraphScribe$Writer", "fields", "[I", true)
  | 8 => ("GraphScribe$Writer", "places", "[I", true)
  | 9 => ("GraphScribe$Writer", "here", "[I", true)
  | 10 => ("GraphScribe$Writer", "there", "[I", true)
  | 11 => ("GraphScribe$Writer", "begun", "I", false)
  | _ => ("GraphScribe$Writer", "tooDeep", "Z", false)
def tyX8 : Nat → FieldType := fun k => match k with
  | 0 => .object "GraphScribe$Schema"
  | 1 => .object "GraphScribe$Heap"
  | 2 => .object "GraphScribe$Signs"
  | 3 => .int
  | 4 => .int
  | 5 => .array .int
  | 6 => .array .int
  | 7 => .array .int
  | 8 => .array .int
  | 9 => .array .int
  | 10 => .array .int
  | 11 => .int
  | _ => .boolean
theorem nmX8 : ∀ a, a < 13 → ∀ b, b < 13 → a ≠ b → (TX8 a).2.1 ≠ (TX8 b).2.1 := by decide +kernel
theorem tyX8_ok : ∀ k, k < 13 → parseFieldDescriptor (TX8 k).2.2.1 = some (tyX8 k) := by decide +kernel
abbrev cX8_init : ByteArray := prog_10_method_1_code
def yX8_init : MethodName := ⟨RX8, "<init>", "(LGraphScribe$Schema;LGraphScribe$Heap;LGraphScribe$Signs;II)V"⟩
abbrev cX8_failure : ByteArray := prog_10_method_2_code
def yX8_failure : MethodName := ⟨RX8, "failure", "()I"⟩
abbrev cX8_element : ByteArray := prog_10_method_3_code
def yX8_element : MethodName := ⟨RX8, "element", "(IIIII)V"⟩
abbrev cX8_nameOf : ByteArray := prog_10_method_4_code
def yX8_nameOf : MethodName := ⟨RX8, "nameOf", "(III)I"⟩
abbrev cX8_startTag : ByteArray := prog_10_method_5_code
def yX8_startTag : MethodName := ⟨RX8, "startTag", "(II)V"⟩
abbrev cX8_endTag : ByteArray := prog_10_method_6_code
def yX8_endTag : MethodName := ⟨RX8, "endTag", "(I)V"⟩
abbrev cX8_hasContent : ByteArray := prog_10_method_7_code
def yX8_hasContent : MethodName := ⟨RX8, "hasContent", "(I)Z"⟩
abbrev cX8_hasElement : ByteArray := prog_10_method_8_code
def yX8_hasElement : MethodName := ⟨RX8, "hasElement", "(III)Z"⟩
abbrev cX8_content : ByteArray := prog_10_method_9_code
def yX8_content : MethodName := ⟨RX8, "content", "(III)V"⟩
abbrev cX8_items : ByteArray := prog_10_method_10_code
def yX8_items : MethodName := ⟨RX8, "items", "(III)V"⟩
abbrev cX8_single : ByteArray := prog_10_method_11_code
def yX8_single : MethodName := ⟨RX8, "single", "(IIZ)V"⟩
abbrev cX8_escaped : ByteArray := prog_10_method_12_code
def yX8_escaped : MethodName := ⟨RX8, "escaped", "(IZ)V"⟩
abbrev cX8_number : ByteArray := prog_10_method_13_code
def yX8_number : MethodName := ⟨RX8, "number", "(I)V"⟩
abbrev cX8_reference : ByteArray := prog_10_method_14_code
def yX8_reference : MethodName := ⟨RX8, "reference", "(III)V"⟩
abbrev cX8_path : ByteArray := prog_10_method_15_code
def yX8_path : MethodName := ⟨RX8, "path", "(I)V"⟩
abbrev cX8_way : ByteArray := prog_10_method_16_code
def yX8_way : MethodName := ⟨RX8, "way", "(III)V"⟩
abbrev cX8_ancestryOfItself : ByteArray := prog_10_method_17_code
def yX8_ancestryOfItself : MethodName := ⟨RX8, "ancestryOfItself", "(II)I"⟩
abbrev cX8_ancestry : ByteArray := prog_10_method_18_code
def yX8_ancestry : MethodName := ⟨RX8, "ancestry", "([III)I"⟩
abbrev cX8_listElement : ByteArray := prog_10_method_19_code
def yX8_listElement : MethodName := ⟨RX8, "listElement", "(II)I"⟩
abbrev cX8_step : ByteArray := prog_10_method_20_code
def yX8_step : MethodName := ⟨RX8, "step", "(I)V"⟩
abbrev cX8_rankAmongItems : ByteArray := prog_10_method_21_code
def yX8_rankAmongItems : MethodName := ⟨RX8, "rankAmongItems", "(I)I"⟩
def RX9 : String := "GraphScribe$XmlText"
def TX9 : u_T := fun k => match k with
  | 0 => ("GraphScribe$XmlText", "text", "LGraphScribe$Signs;", true)
  | 1 => ("GraphScribe$XmlText", "tree", "LGraphScribe$Tree;", true)
  | 2 => ("GraphScribe$XmlText", "values", "LGraphScribe$Signs;", true)
  | 3 => ("GraphScribe$XmlText", "place", "I", false)
  | 4 => ("GraphScribe$XmlText", "open", "I", false)
  | 5 => ("GraphScribe$XmlText", "depth", "I", false)
  | _ => ("GraphScribe$XmlText", "wrong", "I", false)
def tyX9 : Nat → FieldType := fun k => match k with
  | 0 => .object "GraphScribe$Signs"
  | 1 => .object "GraphScribe$Tree"
  | 2 => .object "GraphScribe$Signs"
  | 3 => .int
  | 4 => .int
  | 5 => .int
  | _ => .int
theorem nmX9 : ∀ a, a < 7 → ∀ b, b < 7 → a ≠ b → (TX9 a).2.1 ≠ (TX9 b).2.1 := by decide +kernel
theorem tyX9_ok : ∀ k, k < 7 → parseFieldDescriptor (TX9 k).2.2.1 = some (tyX9 k) := by decide +kernel
abbrev cX9_init : ByteArray := prog_11_method_1_code
def yX9_init : MethodName := ⟨RX9, "<init>", "(LGraphScribe$Signs;LGraphScribe$Tree;)V"⟩
abbrev cX9_firstWrong : ByteArray := prog_11_method_2_code
def yX9_firstWrong : MethodName := ⟨RX9, "firstWrong", "()I"⟩
abbrev cX9_startTag : ByteArray := prog_11_method_3_code
def yX9_startTag : MethodName := ⟨RX9, "startTag", "()V"⟩
abbrev cX9_skipsToName : ByteArray := prog_11_method_4_code
def yX9_skipsToName : MethodName := ⟨RX9, "skipsToName", "()Z"⟩
abbrev cX9_attribute : ByteArray := prog_11_method_5_code
def yX9_attribute : MethodName := ⟨RX9, "attribute", "(I)V"⟩
abbrev cX9_skipsToValue : ByteArray := prog_11_method_6_code
def yX9_skipsToValue : MethodName := ⟨RX9, "skipsToValue", "()Z"⟩
abbrev cX9_endsValue : ByteArray := prog_11_method_7_code
def yX9_endsValue : MethodName := ⟨RX9, "endsValue", "(I)Z"⟩
abbrev cX9_endTag : ByteArray := prog_11_method_8_code
def yX9_endTag : MethodName := ⟨RX9, "endTag", "()V"⟩
abbrev cX9_comment : ByteArray := prog_11_method_9_code
def yX9_comment : MethodName := ⟨RX9, "comment", "()V"⟩
abbrev cX9_cdata : ByteArray := prog_11_method_10_code
def yX9_cdata : MethodName := ⟨RX9, "cdata", "()V"⟩
abbrev cX9_textSign : ByteArray := prog_11_method_11_code
def yX9_textSign : MethodName := ⟨RX9, "textSign", "()V"⟩
abbrev cX9_decoded : ByteArray := prog_11_method_12_code
def yX9_decoded : MethodName := ⟨RX9, "decoded", "()I"⟩
abbrev cX9_named : ByteArray := prog_11_method_13_code
def yX9_named : MethodName := ⟨RX9, "named", "()I"⟩
abbrev cX9_numbered : ByteArray := prog_11_method_14_code
def yX9_numbered : MethodName := ⟨RX9, "numbered", "()I"⟩
abbrev cX9_digit : ByteArray := prog_11_method_15_code
def yX9_digit : MethodName := ⟨RX9, "digit", "(II)I"⟩
abbrev cX9_comes : ByteArray := prog_11_method_16_code
def yX9_comes : MethodName := ⟨RX9, "comes", "(Ljava/lang/String;)Z"⟩
abbrev cX9_skipBlanks : ByteArray := prog_11_method_17_code
def yX9_skipBlanks : MethodName := ⟨RX9, "skipBlanks", "()V"⟩
abbrev cX9_skipName : ByteArray := prog_11_method_18_code
def yX9_skipName : MethodName := ⟨RX9, "skipName", "()V"⟩
abbrev cX9_isNameBegin : ByteArray := prog_11_method_19_code
def yX9_isNameBegin : MethodName := ⟨RX9, "isNameBegin", "(I)Z"⟩
abbrev cX9_isNameSign : ByteArray := prog_11_method_20_code
def yX9_isNameSign : MethodName := ⟨RX9, "isNameSign", "(I)Z"⟩
def RX10 : String := "GraphScribe"
def TX10 : u_T := fun k => match k with
  | 0 => ("GraphScribe", "collected", "LGraphScribe$Signs;", true)
  | 1 => ("GraphScribe", "tree", "LGraphScribe$Tree;", true)
  | 2 => ("GraphScribe", "written", "LGraphScribe$Signs;", false)
  | 3 => ("GraphScribe", "spareSigns", "LGraphScribe$Signs;", false)
  | 4 => ("GraphScribe", "schema", "LGraphScribe$Schema;", false)
  | 5 => ("GraphScribe", "spareSchema", "LGraphScribe$Schema;", false)
  | 6 => ("GraphScribe", "heap", "LGraphScribe$Heap;", true)
  | 7 => ("GraphScribe", "readHeap", "LGraphScribe$Heap;", false)
  | 8 => ("GraphScribe", "spareHeap", "LGraphScribe$Heap;", false)
  | _ => ("GraphScribe", "depthLimit", "I", false)
def tyX10 : Nat → FieldType := fun k => match k with
  | 0 => .object "GraphScribe$Signs"
  | 1 => .object "GraphScribe$Tree"
  | 2 => .object "GraphScribe$Signs"
  | 3 => .object "GraphScribe$Signs"
  | 4 => .object "GraphScribe$Schema"
  | 5 => .object "GraphScribe$Schema"
  | 6 => .object "GraphScribe$Heap"
  | 7 => .object "GraphScribe$Heap"
  | 8 => .object "GraphScribe$Heap"
  | _ => .int
theorem nmX10 : ∀ a, a < 10 → ∀ b, b < 10 → a ≠ b → (TX10 a).2.1 ≠ (TX10 b).2.1 := by decide +kernel
theorem tyX10_ok : ∀ k, k < 10 → parseFieldDescriptor (TX10 k).2.2.1 = some (tyX10 k) := by decide +kernel
abbrev cX10_init : ByteArray := prog_1_method_1_code
def yX10_init : MethodName := ⟨RX10, "<init>", "()V"⟩
abbrev cX10_unit : ByteArray := prog_1_method_2_code
def yX10_unit : MethodName := ⟨RX10, "unit", "(I)Z"⟩
abbrev cX10_classes : ByteArray := prog_1_method_3_code
def yX10_classes : MethodName := ⟨RX10, "classes", "()I"⟩
abbrev cX10_make : ByteArray := prog_1_method_4_code
def yX10_make : MethodName := ⟨RX10, "make", "(I)I"⟩
abbrev cX10_set : ByteArray := prog_1_method_5_code
def yX10_set : MethodName := ⟨RX10, "set", "(III)Z"⟩
abbrev cX10_text : ByteArray := prog_1_method_6_code
def yX10_text : MethodName := ⟨RX10, "text", "(II)Z"⟩
abbrev cX10_add : ByteArray := prog_1_method_7_code
def yX10_add : MethodName := ⟨RX10, "add", "(III)I"⟩
abbrev cX10_limit : ByteArray := prog_1_method_8_code
def yX10_limit : MethodName := ⟨RX10, "limit", "(I)I"⟩
abbrev cX10_write : ByteArray := prog_1_method_9_code
def yX10_write : MethodName := ⟨RX10, "write", "(II)I"⟩
abbrev cX10_sign : ByteArray := prog_1_method_10_code
def yX10_sign : MethodName := ⟨RX10, "sign", "(I)I"⟩
abbrev cX10_take : ByteArray := prog_1_method_11_code
def yX10_take : MethodName := ⟨RX10, "take", "()I"⟩
abbrev cX10_forbid : ByteArray := prog_1_method_12_code
def yX10_forbid : MethodName := ⟨RX10, "forbid", "(IZ)Z"⟩
abbrev cX10_read : ByteArray := prog_1_method_13_code
def yX10_read : MethodName := ⟨RX10, "read", "()I"⟩
abbrev cX10_same : ByteArray := prog_1_method_14_code
def yX10_same : MethodName := ⟨RX10, "same", "(I)Z"⟩
abbrev cX10_kind : ByteArray := prog_1_method_15_code
def yX10_kind : MethodName := ⟨RX10, "kind", "(II)I"⟩
abbrev cX10_value : ByteArray := prog_1_method_16_code
def yX10_value : MethodName := ⟨RX10, "value", "(IIII)I"⟩
abbrev cX10_count : ByteArray := prog_1_method_17_code
def yX10_count : MethodName := ⟨RX10, "count", "(I)I"⟩
abbrev cX10_shapeIn : ByteArray := prog_1_method_18_code
def yX10_shapeIn : MethodName := ⟨RX10, "shapeIn", "(LGraphScribe$Heap;II)I"⟩
abbrev cX10_heapAt : ByteArray := prog_1_method_19_code
def yX10_heapAt : MethodName := ⟨RX10, "heapAt", "(I)LGraphScribe$Heap;"⟩
abbrev cX10_isHeap : ByteArray := prog_1_method_20_code
def yX10_isHeap : MethodName := ⟨RX10, "isHeap", "(I)Z"⟩
abbrev cX10_isSign : ByteArray := prog_1_method_21_code
def yX10_isSign : MethodName := ⟨RX10, "isSign", "(I)Z"⟩
abbrev cX10_isBlank : ByteArray := prog_1_method_22_code
def yX10_isBlank : MethodName := ⟨RX10, "isBlank", "(I)Z"⟩
abbrev cX10_isDigit : ByteArray := prog_1_method_23_code
def yX10_isDigit : MethodName := ⟨RX10, "isDigit", "(I)Z"⟩
abbrev cX10_isLetter : ByteArray := prog_1_method_24_code
def yX10_isLetter : MethodName := ⟨RX10, "isLetter", "(I)Z"⟩
abbrev cX10_isFieldText : ByteArray := prog_1_method_25_code
def yX10_isFieldText : MethodName := ⟨RX10, "isFieldText", "(LGraphScribe$Signs;II)Z"⟩
def RX11 : String := "GraphScribeModel"
def TX11 : u_T := fun k => match k with
  | 0 => ("GraphScribeModel", "collected", "I", false)
  | 1 => ("GraphScribeModel", "text", "[I", true)
  | 2 => ("GraphScribeModel", "classCount", "I", false)
  | 3 => ("GraphScribeModel", "fieldCounts", "[I", true)
  | 4 => ("GraphScribeModel", "sizes", "[I", true)
  | 5 => ("GraphScribeModel", "names", "[I", true)
  | 6 => ("GraphScribeModel", "kinds", "[I", true)
  | 7 => ("GraphScribeModel", "marks", "[Z", true)
  | 8 => ("GraphScribeModel", "forbidden", "[Z", true)
  | 9 => ("GraphScribeModel", "newFieldCounts", "[I", true)
  | 10 => ("GraphScribeModel", "newSizes", "[I", true)
  | 11 => ("GraphScribeModel", "newNames", "[I", true)
  | 12 => ("GraphScribeModel", "newKinds", "[I", true)
  | 13 => ("GraphScribeModel", "newMarks", "[Z", true)
  | 14 => ("GraphScribeModel", "counts", "[I", true)
  | 15 => ("GraphScribeModel", "kindOf", "[I", true)
  | 16 => ("GraphScribeModel", "values", "[I", true)
  | 17 => ("GraphScribeModel", "parts", "[I", true)
  | 18 => ("GraphScribeModel", "hasRead", "Z", false)
  | 19 => ("GraphScribeModel", "most", "I", false)
  | 20 => ("GraphScribeModel", "written", "I", false)
  | 21 => ("GraphScribeModel", "page", "[I", true)
  | 22 => ("GraphScribeModel", "at", "I", false)
  | 23 => ("GraphScribeModel", "wrong", "Z", false)
  | 24 => ("GraphScribeModel", "broken", "Z", false)
  | 25 => ("GraphScribeModel", "elements", "I", false)
  | 26 => ("GraphScribeModel", "parents", "[I", true)
  | 27 => ("GraphScribeModel", "elementNames", "[I", true)
  | 28 => ("GraphScribeModel", "ranks", "[I", true)
  | 29 => ("GraphScribeModel", "begunAs", "[I", true)
  | 30 => ("GraphScribeModel", "begun", "I", false)
  | 31 => ("GraphScribeModel", "ids", "[I", true)
  | 32 => ("GraphScribeModel", "open", "I", false)
  | 33 => ("GraphScribeModel", "openObjects", "[I", true)
  | 34 => ("GraphScribeModel", "openElements", "[I", true)
  | 35 => ("GraphScribeModel", "openNames", "[I", true)
  | 36 => ("GraphScribeModel", "openFields", "[I", true)
  | 37 => ("GraphScribeModel", "openItems", "[I", true)
  | 38 => ("GraphScribeModel", "openLists", "[I", true)
  | 39 => ("GraphScribeModel", "drafted", "I", false)
  | 40 => ("GraphScribeModel", "draft", "[I", true)
  | 41 => ("GraphScribeModel", "length", "I", false)
  | 42 => ("GraphScribeModel", "doc", "[I", true)
  | 43 => ("GraphScribeModel", "read", "I", false)
  | 44 => ("GraphScribeModel", "starts", "[I", true)
  | 45 => ("GraphScribeModel", "nameFrom", "[I", true)
  | 46 => ("GraphScribeModel", "nameSize", "[I", true)
  | 47 => ("GraphScribeModel", "around", "[I", true)
  | 48 => ("GraphScribeModel", "order", "[I", true)
  | 49 => ("GraphScribeModel", "attributeFrom", "[I", true)
  | 50 => ("GraphScribeModel", "attributeCount", "[I", true)
  | 51 => ("GraphScribeModel", "attributes", "I", false)
  | 52 => ("GraphScribeModel", "keyFrom", "[I", true)
  | 53 => ("GraphScribeModel", "keySize", "[I", true)
  | 54 => ("GraphScribeModel", "valueFrom", "[I", true)
  | 55 => ("GraphScribeModel", "valueSize", "[I", true)
  | 56 => ("GraphScribeModel", "decoded", "I", false)
  | 57 => ("GraphScribeModel", "signs", "[I", true)
  | 58 => ("GraphScribeModel", "owners", "[I", true)
  | 59 => ("GraphScribeModel", "bad", "I", false)
  | 60 => ("GraphScribeModel", "opened", "Z", false)
  | 61 => ("GraphScribeModel", "roles", "[I", true)
  | 62 => ("GraphScribeModel", "objectOf", "[I", true)
  | 63 => ("GraphScribeModel", "fieldOf", "[I", true)
  | 64 => ("GraphScribeModel", "itemOf", "[I", true)
  | 65 => ("GraphScribeModel", "idOf", "[I", true)
  | 66 => ("GraphScribeModel", "seen", "[I", true)
  | 67 => ("GraphScribeModel", "piece", "I", false)
  | 68 => ("GraphScribeModel", "pieces", "[I", true)
  | 69 => ("GraphScribeModel", "pairA", "[I", true)
  | 70 => ("GraphScribeModel", "pairB", "[I", true)
  | _ => ("GraphScribeModel", "pairs", "I", false)
def tyX11 : Nat → FieldType := fun k => match k with
  | 0 => .int
  | 1 => .array .int
  | 2 => .int
  | 3 => .array .int
  | 4 => .array .int
  | 5 => .array .int
  | 6 => .array .int
  | 7 => .array .boolean
  | 8 => .array .boolean
  | 9 => .array .int
  | 10 => .array .int
  | 11 => .array .int
  | 12 => .array .int
  | 13 => .array .boolean
  | 14 => .array .int
  | 15 => .array .int
  | 16 => .array .int
  | 17 => .array .int
  | 18 => .boolean
  | 19 => .int
  | 20 => .int
  | 21 => .array .int
  | 22 => .int
  | 23 => .boolean
  | 24 => .boolean
  | 25 => .int
  | 26 => .array .int
  | 27 => .array .int
  | 28 => .array .int
  | 29 => .array .int
  | 30 => .int
  | 31 => .array .int
  | 32 => .int
  | 33 => .array .int
  | 34 => .array .int
  | 35 => .array .int
  | 36 => .array .int
  | 37 => .array .int
  | 38 => .array .int
  | 39 => .int
  | 40 => .array .int
  | 41 => .int
  | 42 => .array .int
  | 43 => .int
  | 44 => .array .int
  | 45 => .array .int
  | 46 => .array .int
  | 47 => .array .int
  | 48 => .array .int
  | 49 => .array .int
  | 50 => .array .int
  | 51 => .int
  | 52 => .array .int
  | 53 => .array .int
  | 54 => .array .int
  | 55 => .array .int
  | 56 => .int
  | 57 => .array .int
  | 58 => .array .int
  | 59 => .int
  | 60 => .boolean
  | 61 => .array .int
  | 62 => .array .int
  | 63 => .array .int
  | 64 => .array .int
  | 65 => .array .int
  | 66 => .array .int
  | 67 => .int
  | 68 => .array .int
  | 69 => .array .int
  | 70 => .array .int
  | _ => .int
theorem nmX11 : ∀ a, a < 72 → ∀ b, b < 72 → a ≠ b → (TX11 a).2.1 ≠ (TX11 b).2.1 := by decide +kernel
theorem tyX11_ok : ∀ k, k < 72 → parseFieldDescriptor (TX11 k).2.2.1 = some (tyX11 k) := by decide +kernel
abbrev cX11_init : ByteArray := prog_13_method_1_code
def yX11_init : MethodName := ⟨RX11, "<init>", "()V"⟩
abbrev cX11_in : ByteArray := prog_13_method_2_code
def yX11_in : MethodName := ⟨RX11, "in", "(III)Z"⟩
abbrev cX11_isDigit : ByteArray := prog_13_method_3_code
def yX11_isDigit : MethodName := ⟨RX11, "isDigit", "(I)Z"⟩
abbrev cX11_isLetter : ByteArray := prog_13_method_4_code
def yX11_isLetter : MethodName := ⟨RX11, "isLetter", "(I)Z"⟩
abbrev cX11_isBlank : ByteArray := prog_13_method_5_code
def yX11_isBlank : MethodName := ⟨RX11, "isBlank", "(I)Z"⟩
abbrev cX11_unit : ByteArray := prog_13_method_6_code
def yX11_unit : MethodName := ⟨RX11, "unit", "(I)Z"⟩
abbrev cX11_signAt : ByteArray := prog_13_method_7_code
def yX11_signAt : MethodName := ⟨RX11, "signAt", "(I)I"⟩
abbrev cX11_nameAt : ByteArray := prog_13_method_8_code
def yX11_nameAt : MethodName := ⟨RX11, "nameAt", "(II)I"⟩
abbrev cX11_areAlike : ByteArray := prog_13_method_9_code
def yX11_areAlike : MethodName := ⟨RX11, "areAlike", "(II)Z"⟩
abbrev cX11_letterOf : ByteArray := prog_13_method_10_code
def yX11_letterOf : MethodName := ⟨RX11, "letterOf", "(II)I"⟩
abbrev cX11_isWord : ByteArray := prog_13_method_11_code
def yX11_isWord : MethodName := ⟨RX11, "isWord", "(II)Z"⟩
abbrev cX11_want : ByteArray := prog_13_method_12_code
def yX11_want : MethodName := ⟨RX11, "want", "(Z)V"⟩
abbrev cX11_name : ByteArray := prog_13_method_13_code
def yX11_name : MethodName := ⟨RX11, "name", "(III)V"⟩
abbrev cX11_eat : ByteArray := prog_13_method_14_code
def yX11_eat : MethodName := ⟨RX11, "eat", "(I)V"⟩
abbrev cX11_field : ByteArray := prog_13_method_15_code
def yX11_field : MethodName := ⟨RX11, "field", "(II)V"⟩
abbrev cX11_oneClass : ByteArray := prog_13_method_16_code
def yX11_oneClass : MethodName := ⟨RX11, "oneClass", "(I)V"⟩
abbrev cX11_isMixed : ByteArray := prog_13_method_17_code
def yX11_isMixed : MethodName := ⟨RX11, "isMixed", "(I)Z"⟩
abbrev cX11_classes : ByteArray := prog_13_method_18_code
def yX11_classes : MethodName := ⟨RX11, "classes", "()I"⟩
abbrev cX11_object : ByteArray := prog_13_method_19_code
def yX11_object : MethodName := ⟨RX11, "object", "(II)I"⟩
abbrev cX11_isObject : ByteArray := prog_13_method_20_code
def yX11_isObject : MethodName := ⟨RX11, "isObject", "(II)Z"⟩
abbrev cX11_kindAt : ByteArray := prog_13_method_21_code
def yX11_kindAt : MethodName := ⟨RX11, "kindAt", "(III)I"⟩
abbrev cX11_make : ByteArray := prog_13_method_22_code
def yX11_make : MethodName := ⟨RX11, "make", "(I)I"⟩
abbrev cX11_set : ByteArray := prog_13_method_23_code
def yX11_set : MethodName := ⟨RX11, "set", "(III)Z"⟩
abbrev cX11_text : ByteArray := prog_13_method_24_code
def yX11_text : MethodName := ⟨RX11, "text", "(II)Z"⟩
abbrev cX11_add : ByteArray := prog_13_method_25_code
def yX11_add : MethodName := ⟨RX11, "add", "(III)I"⟩
abbrev cX11_limit : ByteArray := prog_13_method_26_code
def yX11_limit : MethodName := ⟨RX11, "limit", "(I)I"⟩
abbrev cX11_put : ByteArray := prog_13_method_27_code
def yX11_put : MethodName := ⟨RX11, "put", "(I)V"⟩
abbrev cX11_putName : ByteArray := prog_13_method_28_code
def yX11_putName : MethodName := ⟨RX11, "putName", "(I)V"⟩
abbrev cX11_putNumber : ByteArray := prog_13_method_29_code
def yX11_putNumber : MethodName := ⟨RX11, "putNumber", "(I)V"⟩
abbrev cX11_putWord : ByteArray := prog_13_method_30_code
def yX11_putWord : MethodName := ⟨RX11, "putWord", "(IIII)V"⟩
abbrev cX11_putText : ByteArray := prog_13_method_31_code
def yX11_putText : MethodName := ⟨RX11, "putText", "(IZ)V"⟩
abbrev cX11_putValue : ByteArray := prog_13_method_32_code
def yX11_putValue : MethodName := ⟨RX11, "putValue", "(IIIZ)V"⟩
abbrev cX11_sameName : ByteArray := prog_13_method_33_code
def yX11_sameName : MethodName := ⟨RX11, "sameName", "(II)Z"⟩
abbrev cX11_element : ByteArray := prog_13_method_34_code
def yX11_element : MethodName := ⟨RX11, "element", "(II)I"⟩
abbrev cX11_putAttribute : ByteArray := prog_13_method_35_code
def yX11_putAttribute : MethodName := ⟨RX11, "putAttribute", "(IIII)V"⟩
abbrev cX11_putStep : ByteArray := prog_13_method_36_code
def yX11_putStep : MethodName := ⟨RX11, "putStep", "(I)V"⟩
abbrev cX11_isAround : ByteArray := prog_13_method_37_code
def yX11_isAround : MethodName := ⟨RX11, "isAround", "(II)Z"⟩
abbrev cX11_putSteps : ByteArray := prog_13_method_38_code
def yX11_putSteps : MethodName := ⟨RX11, "putSteps", "(IIZ)V"⟩
abbrev cX11_putWay : ByteArray := prog_13_method_39_code
def yX11_putWay : MethodName := ⟨RX11, "putWay", "(III)V"⟩
abbrev cX11_refer : ByteArray := prog_13_method_40_code
def yX11_refer : MethodName := ⟨RX11, "refer", "(IIII)V"⟩
abbrev cX11_hasContent : ByteArray := prog_13_method_41_code
def yX11_hasContent : MethodName := ⟨RX11, "hasContent", "(II)Z"⟩
abbrev cX11_begin : ByteArray := prog_13_method_42_code
def yX11_begin : MethodName := ⟨RX11, "begin", "(IIIZI)V"⟩
abbrev cX11_end : ByteArray := prog_13_method_43_code
def yX11_end : MethodName := ⟨RX11, "end", "(I)V"⟩
abbrev cX11_child : ByteArray := prog_13_method_44_code
def yX11_child : MethodName := ⟨RX11, "child", "(IIIZI)Z"⟩
abbrev cX11_goesOn : ByteArray := prog_13_method_45_code
def yX11_goesOn : MethodName := ⟨RX11, "goesOn", "(I)Z"⟩
abbrev cX11_lists : ByteArray := prog_13_method_46_code
def yX11_lists : MethodName := ⟨RX11, "lists", "(IIII)Z"⟩
abbrev cX11_write : ByteArray := prog_13_method_47_code
def yX11_write : MethodName := ⟨RX11, "write", "(II)I"⟩
abbrev cX11_sign : ByteArray := prog_13_method_48_code
def yX11_sign : MethodName := ⟨RX11, "sign", "(I)I"⟩
abbrev cX11_take : ByteArray := prog_13_method_49_code
def yX11_take : MethodName := ⟨RX11, "take", "()I"⟩
abbrev cX11_forbid : ByteArray := prog_13_method_50_code
def yX11_forbid : MethodName := ⟨RX11, "forbid", "(IZ)Z"⟩
abbrev cX11_docAt : ByteArray := prog_13_method_51_code
def yX11_docAt : MethodName := ⟨RX11, "docAt", "(I)I"⟩
abbrev cX11_fail : ByteArray := prog_13_method_52_code
def yX11_fail : MethodName := ⟨RX11, "fail", "(I)V"⟩
abbrev cX11_beginsName : ByteArray := prog_13_method_53_code
def yX11_beginsName : MethodName := ⟨RX11, "beginsName", "(I)Z"⟩
abbrev cX11_inName : ByteArray := prog_13_method_54_code
def yX11_inName : MethodName := ⟨RX11, "inName", "(I)Z"⟩
abbrev cX11_blanksFrom : ByteArray := prog_13_method_55_code
def yX11_blanksFrom : MethodName := ⟨RX11, "blanksFrom", "(I)I"⟩
abbrev cX11_nameEnd : ByteArray := prog_13_method_56_code
def yX11_nameEnd : MethodName := ⟨RX11, "nameEnd", "(I)I"⟩
abbrev cX11_keep : ByteArray := prog_13_method_57_code
def yX11_keep : MethodName := ⟨RX11, "keep", "(II)V"⟩
abbrev cX11_entitySign : ByteArray := prog_13_method_58_code
def yX11_entitySign : MethodName := ⟨RX11, "entitySign", "(II)I"⟩
abbrev cX11_entity : ByteArray := prog_13_method_59_code
def yX11_entity : MethodName := ⟨RX11, "entity", "(I)I"⟩
abbrev cX11_figure : ByteArray := prog_13_method_60_code
def yX11_figure : MethodName := ⟨RX11, "figure", "(IZ)I"⟩
abbrev cX11_reference : ByteArray := prog_13_method_61_code
def yX11_reference : MethodName := ⟨RX11, "reference", "(II)I"⟩
abbrev cX11_sameNames : ByteArray := prog_13_method_62_code
def yX11_sameNames : MethodName := ⟨RX11, "sameNames", "(IIII)Z"⟩
abbrev cX11_attribute : ByteArray := prog_13_method_63_code
def yX11_attribute : MethodName := ⟨RX11, "attribute", "(II)I"⟩
abbrev cX11_beginTag : ByteArray := prog_13_method_64_code
def yX11_beginTag : MethodName := ⟨RX11, "beginTag", "(III)I"⟩
abbrev cX11_endTag : ByteArray := prog_13_method_65_code
def yX11_endTag : MethodName := ⟨RX11, "endTag", "(II)I"⟩
abbrev cX11_openerSign : ByteArray := prog_13_method_66_code
def yX11_openerSign : MethodName := ⟨RX11, "openerSign", "(II)I"⟩
abbrev cX11_section : ByteArray := prog_13_method_67_code
def yX11_section : MethodName := ⟨RX11, "section", "(IIZ)I"⟩
abbrev cX11_parse : ByteArray := prog_13_method_68_code
def yX11_parse : MethodName := ⟨RX11, "parse", "()V"⟩
abbrev cX11_hasChild : ByteArray := prog_13_method_69_code
def yX11_hasChild : MethodName := ⟨RX11, "hasChild", "(I)Z"⟩
abbrev cX11_textSize : ByteArray := prog_13_method_70_code
def yX11_textSize : MethodName := ⟨RX11, "textSize", "(I)I"⟩
abbrev cX11_isBlankWithin : ByteArray := prog_13_method_71_code
def yX11_isBlankWithin : MethodName := ⟨RX11, "isBlankWithin", "(I)Z"⟩
abbrev cX11_writtenSign : ByteArray := prog_13_method_72_code
def yX11_writtenSign : MethodName := ⟨RX11, "writtenSign", "(II)I"⟩
abbrev cX11_isNamed : ByteArray := prog_13_method_73_code
def yX11_isNamed : MethodName := ⟨RX11, "isNamed", "(III)Z"⟩
abbrev cX11_classNamed : ByteArray := prog_13_method_74_code
def yX11_classNamed : MethodName := ⟨RX11, "classNamed", "(II)I"⟩
abbrev cX11_fieldNamed : ByteArray := prog_13_method_75_code
def yX11_fieldNamed : MethodName := ⟨RX11, "fieldNamed", "(IIIZ)I"⟩
abbrev cX11_implicitOf : ByteArray := prog_13_method_76_code
def yX11_implicitOf : MethodName := ⟨RX11, "implicitOf", "(I)I"⟩
abbrev cX11_wordSign : ByteArray := prog_13_method_77_code
def yX11_wordSign : MethodName := ⟨RX11, "wordSign", "(II)I"⟩
abbrev cX11_isKey : ByteArray := prog_13_method_78_code
def yX11_isKey : MethodName := ⟨RX11, "isKey", "(II)Z"⟩
abbrev cX11_pieceOfText : ByteArray := prog_13_method_79_code
def yX11_pieceOfText : MethodName := ⟨RX11, "pieceOfText", "(I)V"⟩
abbrev cX11_pieceOfValue : ByteArray := prog_13_method_80_code
def yX11_pieceOfValue : MethodName := ⟨RX11, "pieceOfValue", "(I)V"⟩
abbrev cX11_becomes : ByteArray := prog_13_method_81_code
def yX11_becomes : MethodName := ⟨RX11, "becomes", "(II)Z"⟩
abbrev cX11_isId : ByteArray := prog_13_method_82_code
def yX11_isId : MethodName := ⟨RX11, "isId", "(II)Z"⟩
abbrev cX11_isObjectElement : ByteArray := prog_13_method_83_code
def yX11_isObjectElement : MethodName := ⟨RX11, "isObjectElement", "(IZ)Z"⟩
abbrev cX11_classOfValue : ByteArray := prog_13_method_84_code
def yX11_classOfValue : MethodName := ⟨RX11, "classOfValue", "(I)I"⟩
abbrev cX11_isListed : ByteArray := prog_13_method_85_code
def yX11_isListed : MethodName := ⟨RX11, "isListed", "(III)Z"⟩
abbrev cX11_hasMeaning : ByteArray := prog_13_method_86_code
def yX11_hasMeaning : MethodName := ⟨RX11, "hasMeaning", "(I)Z"⟩
abbrev cX11_childAt : ByteArray := prog_13_method_87_code
def yX11_childAt : MethodName := ⟨RX11, "childAt", "(IIII)I"⟩
abbrev cX11_pieceAt : ByteArray := prog_13_method_88_code
def yX11_pieceAt : MethodName := ⟨RX11, "pieceAt", "(I)I"⟩
abbrev cX11_steps : ByteArray := prog_13_method_89_code
def yX11_steps : MethodName := ⟨RX11, "steps", "(II)I"⟩
abbrev cX11_way : ByteArray := prog_13_method_90_code
def yX11_way : MethodName := ⟨RX11, "way", "(I)I"⟩
abbrev cX11_withId : ByteArray := prog_13_method_91_code
def yX11_withId : MethodName := ⟨RX11, "withId", "()I"⟩
abbrev cX11_target : ByteArray := prog_13_method_92_code
def yX11_target : MethodName := ⟨RX11, "target", "(I)I"⟩
abbrev cX11_leads : ByteArray := prog_13_method_93_code
def yX11_leads : MethodName := ⟨RX11, "leads", "(I)Z"⟩
abbrev cX11_meaningless : ByteArray := prog_13_method_94_code
def yX11_meaningless : MethodName := ⟨RX11, "meaningless", "()I"⟩
abbrev cX11_read : ByteArray := prog_13_method_95_code
def yX11_read : MethodName := ⟨RX11, "read", "()I"⟩
abbrev cX11_pair : ByteArray := prog_13_method_96_code
def yX11_pair : MethodName := ⟨RX11, "pair", "(II)Z"⟩
abbrev cX11_areSame : ByteArray := prog_13_method_97_code
def yX11_areSame : MethodName := ⟨RX11, "areSame", "(II)Z"⟩
abbrev cX11_same : ByteArray := prog_13_method_98_code
def yX11_same : MethodName := ⟨RX11, "same", "(I)Z"⟩
abbrev cX11_kind : ByteArray := prog_13_method_99_code
def yX11_kind : MethodName := ⟨RX11, "kind", "(II)I"⟩
abbrev cX11_value : ByteArray := prog_13_method_100_code
def yX11_value : MethodName := ⟨RX11, "value", "(IIII)I"⟩
abbrev cX11_count : ByteArray := prog_13_method_101_code
def yX11_count : MethodName := ⟨RX11, "count", "(I)I"⟩
def RJ9 : String := "java/lang/Math"
def yJ9_abs_067f4 : MethodName := ⟨RJ9, "abs", "(J)J"⟩
def yJ9_max_7cf53 : MethodName := ⟨RJ9, "max", "(II)I"⟩
def yJ9_min_7cf53 : MethodName := ⟨RJ9, "min", "(II)I"⟩
def RJ0 : String := "java/lang/String"
abbrev cJ0_length_8abf5 : ByteArray := prog_15_method_54_code
def yJ0_length_8abf5 : MethodName := ⟨RJ0, "length", "()I"⟩
abbrev cJ0_charAt_5068e : ByteArray := prog_15_method_56_code
def yJ0_charAt_5068e : MethodName := ⟨RJ0, "charAt", "(I)C"⟩
abbrev cJ0_coder_7d493 : ByteArray := prog_15_method_152_code
def yJ0_coder_7d493 : MethodName := ⟨RJ0, "coder", "()B"⟩
abbrev cJ0_isLatin1_aae02 : ByteArray := prog_15_method_154_code
def yJ0_isLatin1_aae02 : MethodName := ⟨RJ0, "isLatin1", "()Z"⟩
abbrev cJ0_checkIndex_df160 : ByteArray := prog_15_method_155_code
def yJ0_checkIndex_df160 : MethodName := ⟨RJ0, "checkIndex", "(II)V"⟩
def RJ1 : String := "java/lang/StringLatin1"
abbrev cJ1_charAt_3b067 : ByteArray := prog_16_method_2_code
def yJ1_charAt_3b067 : MethodName := ⟨RJ1, "charAt", "([BI)C"⟩
def RJ7 : String := "java/util/Arrays"
abbrev cJ7_fill_53178 : ByteArray := prog_19_method_103_code
def yJ7_fill_53178 : MethodName := ⟨RJ7, "fill", "([II)V"⟩
def RJ3 : String := "jdk/internal/util/Preconditions"
abbrev cJ3_checkIndex_8e157 : ByteArray := prog_20_method_11_code
def yJ3_checkIndex_8e157 : MethodName := ⟨RJ3, "checkIndex", "(IILjava/util/function/BiFunction;)I"⟩
def RL : String := "GraphScribeLaw"
abbrev cL_law : ByteArray := code
abbrev vwCl : List vw_C := [(RX0, TX0, 3), (RX1, TX1, 4), (RX2, TX2, 7), (RX3, TX3, 12), (RX4, TX4, 9), (RX5, TX5, 3), (RX6, TX6, 18), (RX7, TX7, 2), (RX8, TX8, 13), (RX9, TX9, 7), (RX10, TX10, 10), (RX11, TX11, 72)]

