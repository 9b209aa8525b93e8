section
-- ===== PART A: goes FIRST, ahead of the names: the tables' words, and 'selects' of the private methods out of them =====
/-- a private method of a class that the tables say can be made, by its rows of tables_1 -/
def lw_okq (q : MethodName × Nat) : Prop := (q.1.cls ≠ "java/lang/invoke/MethodHandle" ∧ q.1.cls ≠ "java/lang/invoke/VarHandle") ∧ Cond.instantiable q.1.cls q.2 ∈ tables_1 ∧ Cond.privateMethod q.1 ∈ tables_1 ∧ Cond.instanceMethod q.1 ∈ tables_1
theorem lw_p0 : lw_okq (⟨"RecordMatch", "standingBook", "(I)LRecordMatch$Book;"⟩, 11) := ⟨⟨by decide +kernel, by decide +kernel⟩, List.mem_of_getElem? (i := 19) (by decide +kernel), List.mem_of_getElem? (i := 200) (by decide +kernel), List.mem_of_getElem? (i := 201) (by decide +kernel)⟩
theorem lw_p1 : lw_okq (⟨"RecordMatch", "bookOf", "(I)LRecordMatch$Book;"⟩, 11) := ⟨⟨by decide +kernel, by decide +kernel⟩, List.mem_of_getElem? (i := 19) (by decide +kernel), List.mem_of_getElem? (i := 204) (by decide +kernel), List.mem_of_getElem? (i := 205) (by decide +kernel)⟩
theorem lw_p2 : lw_okq (⟨"RecordMatch", "textOf", "(I)LRecordMatch$Text;"⟩, 11) := ⟨⟨by decide +kernel, by decide +kernel⟩, List.mem_of_getElem? (i := 19) (by decide +kernel), List.mem_of_getElem? (i := 245) (by decide +kernel), List.mem_of_getElem? (i := 246) (by decide +kernel)⟩
theorem lw_p3 : lw_okq (⟨"RecordMatch$BookNumber", "read", "(LRecordMatch$Text;)V"⟩, 3) := ⟨⟨by decide +kernel, by decide +kernel⟩, List.mem_of_getElem? (i := 54) (by decide +kernel), List.mem_of_getElem? (i := 273) (by decide +kernel), List.mem_of_getElem? (i := 274) (by decide +kernel)⟩
theorem lw_p4 : lw_okq (⟨"RecordMatch$BookNumber", "valueOf", "(C)I"⟩, 3) := ⟨⟨by decide +kernel, by decide +kernel⟩, List.mem_of_getElem? (i := 54) (by decide +kernel), List.mem_of_getElem? (i := 277) (by decide +kernel), List.mem_of_getElem? (i := 278) (by decide +kernel)⟩
theorem lw_p5 : lw_okq (⟨"RecordMatch$BookNumber", "isShortRight", "()Z"⟩, 3) := ⟨⟨by decide +kernel, by decide +kernel⟩, List.mem_of_getElem? (i := 54) (by decide +kernel), List.mem_of_getElem? (i := 287) (by decide +kernel), List.mem_of_getElem? (i := 288) (by decide +kernel)⟩
theorem lw_p6 : lw_okq (⟨"RecordMatch$BookNumber", "formOfShort", "()J"⟩, 3) := ⟨⟨by decide +kernel, by decide +kernel⟩, List.mem_of_getElem? (i := 54) (by decide +kernel), List.mem_of_getElem? (i := 291) (by decide +kernel), List.mem_of_getElem? (i := 292) (by decide +kernel)⟩
theorem lw_p7 : lw_okq (⟨"RecordMatch$BookNumber", "isLongRight", "()Z"⟩, 3) := ⟨⟨by decide +kernel, by decide +kernel⟩, List.mem_of_getElem? (i := 54) (by decide +kernel), List.mem_of_getElem? (i := 297) (by decide +kernel), List.mem_of_getElem? (i := 298) (by decide +kernel)⟩
theorem lw_p8 : lw_okq (⟨"RecordMatch$BookNumber", "formOfLong", "()J"⟩, 3) := ⟨⟨by decide +kernel, by decide +kernel⟩, List.mem_of_getElem? (i := 54) (by decide +kernel), List.mem_of_getElem? (i := 301) (by decide +kernel), List.mem_of_getElem? (i := 302) (by decide +kernel)⟩
theorem lw_p9 : lw_okq (⟨"RecordMatch", "collectKeys", "(LRecordMatch$Book;)V"⟩, 11) := ⟨⟨by decide +kernel, by decide +kernel⟩, List.mem_of_getElem? (i := 19) (by decide +kernel), List.mem_of_getElem? (i := 321) (by decide +kernel), List.mem_of_getElem? (i := 322) (by decide +kernel)⟩
theorem lw_p10 : lw_okq (⟨"RecordMatch$Words", "packed", "(I)I"⟩, 4) := ⟨⟨by decide +kernel, by decide +kernel⟩, List.mem_of_getElem? (i := 33) (by decide +kernel), List.mem_of_getElem? (i := 345) (by decide +kernel), List.mem_of_getElem? (i := 346) (by decide +kernel)⟩
theorem lw_p11 : lw_okq (⟨"RecordMatch", "clearMarks", "()V"⟩, 11) := ⟨⟨by decide +kernel, by decide +kernel⟩, List.mem_of_getElem? (i := 19) (by decide +kernel), List.mem_of_getElem? (i := 357) (by decide +kernel), List.mem_of_getElem? (i := 358) (by decide +kernel)⟩
theorem lw_p12 : lw_okq (⟨"RecordMatch", "listMarked", "()V"⟩, 11) := ⟨⟨by decide +kernel, by decide +kernel⟩, List.mem_of_getElem? (i := 19) (by decide +kernel), List.mem_of_getElem? (i := 363) (by decide +kernel), List.mem_of_getElem? (i := 364) (by decide +kernel)⟩
theorem lw_p13 : lw_okq (⟨"RecordMatch", "firstTextOf", "(LRecordMatch$Book;I)LRecordMatch$Text;"⟩, 11) := ⟨⟨by decide +kernel, by decide +kernel⟩, List.mem_of_getElem? (i := 19) (by decide +kernel), List.mem_of_getElem? (i := 416) (by decide +kernel), List.mem_of_getElem? (i := 417) (by decide +kernel)⟩
theorem lw_p14 : lw_okq (⟨"RecordMatch$Likeness", "compareTitles", "(LRecordMatch$Text;LRecordMatch$Text;)V"⟩, 7) := ⟨⟨by decide +kernel, by decide +kernel⟩, List.mem_of_getElem? (i := 91) (by decide +kernel), List.mem_of_getElem? (i := 424) (by decide +kernel), List.mem_of_getElem? (i := 425) (by decide +kernel)⟩
theorem lw_p15 : lw_okq (⟨"RecordMatch$Words", "hasAmongFirst", "(ILRecordMatch$Words;I)Z"⟩, 4) := ⟨⟨by decide +kernel, by decide +kernel⟩, List.mem_of_getElem? (i := 33) (by decide +kernel), List.mem_of_getElem? (i := 433) (by decide +kernel), List.mem_of_getElem? (i := 434) (by decide +kernel)⟩
def lw_privs_1 : List (MethodName × Nat) := [(⟨"RecordMatch", "standingBook", "(I)LRecordMatch$Book;"⟩, 11), (⟨"RecordMatch", "bookOf", "(I)LRecordMatch$Book;"⟩, 11), (⟨"RecordMatch", "textOf", "(I)LRecordMatch$Text;"⟩, 11), (⟨"RecordMatch$BookNumber", "read", "(LRecordMatch$Text;)V"⟩, 3), (⟨"RecordMatch$BookNumber", "valueOf", "(C)I"⟩, 3), (⟨"RecordMatch$BookNumber", "isShortRight", "()Z"⟩, 3), (⟨"RecordMatch$BookNumber", "formOfShort", "()J"⟩, 3), (⟨"RecordMatch$BookNumber", "isLongRight", "()Z"⟩, 3), (⟨"RecordMatch$BookNumber", "formOfLong", "()J"⟩, 3), (⟨"RecordMatch", "collectKeys", "(LRecordMatch$Book;)V"⟩, 11), (⟨"RecordMatch$Words", "packed", "(I)I"⟩, 4), (⟨"RecordMatch", "clearMarks", "()V"⟩, 11), (⟨"RecordMatch", "listMarked", "()V"⟩, 11), (⟨"RecordMatch", "firstTextOf", "(LRecordMatch$Book;I)LRecordMatch$Text;"⟩, 11), (⟨"RecordMatch$Likeness", "compareTitles", "(LRecordMatch$Text;LRecordMatch$Text;)V"⟩, 7), (⟨"RecordMatch$Words", "hasAmongFirst", "(ILRecordMatch$Words;I)Z"⟩, 4)]
theorem lw_r1 : ∀ q ∈ lw_privs_1, lw_okq q := List.forall_mem_cons.mpr ⟨lw_p0, List.forall_mem_cons.mpr ⟨lw_p1, List.forall_mem_cons.mpr ⟨lw_p2, List.forall_mem_cons.mpr ⟨lw_p3, List.forall_mem_cons.mpr ⟨lw_p4, List.forall_mem_cons.mpr ⟨lw_p5, List.forall_mem_cons.mpr ⟨lw_p6, List.forall_mem_cons.mpr ⟨lw_p7, List.forall_mem_cons.mpr ⟨lw_p8, List.forall_mem_cons.mpr ⟨lw_p9, List.forall_mem_cons.mpr ⟨lw_p10, List.forall_mem_cons.mpr ⟨lw_p11, List.forall_mem_cons.mpr ⟨lw_p12, List.forall_mem_cons.mpr ⟨lw_p13, List.forall_mem_cons.mpr ⟨lw_p14, List.forall_mem_cons.mpr ⟨lw_p15, fun _ h => absurd h List.not_mem_nil⟩⟩⟩⟩⟩⟩⟩⟩⟩⟩⟩⟩⟩⟩⟩⟩
theorem lw_p16 : lw_okq (⟨"RecordMatch$Words", "sameWord", "(ILRecordMatch$Words;I)Z"⟩, 4) := ⟨⟨by decide +kernel, by decide +kernel⟩, List.mem_of_getElem? (i := 33) (by decide +kernel), List.mem_of_getElem? (i := 437) (by decide +kernel), List.mem_of_getElem? (i := 438) (by decide +kernel)⟩
theorem lw_p17 : lw_okq (⟨"RecordMatch$Likeness", "add", "(III)V"⟩, 7) := ⟨⟨by decide +kernel, by decide +kernel⟩, List.mem_of_getElem? (i := 91) (by decide +kernel), List.mem_of_getElem? (i := 445) (by decide +kernel), List.mem_of_getElem? (i := 446) (by decide +kernel)⟩
theorem lw_p18 : lw_okq (⟨"RecordMatch$Likeness", "compareYears", "(II)V"⟩, 7) := ⟨⟨by decide +kernel, by decide +kernel⟩, List.mem_of_getElem? (i := 91) (by decide +kernel), List.mem_of_getElem? (i := 454) (by decide +kernel), List.mem_of_getElem? (i := 455) (by decide +kernel)⟩
theorem lw_p19 : lw_okq (⟨"RecordMatch$Likeness", "compareBookNumbers", "(LRecordMatch$Text;LRecordMatch$Text;)V"⟩, 7) := ⟨⟨by decide +kernel, by decide +kernel⟩, List.mem_of_getElem? (i := 91) (by decide +kernel), List.mem_of_getElem? (i := 464) (by decide +kernel), List.mem_of_getElem? (i := 465) (by decide +kernel)⟩
theorem lw_p20 : lw_okq (⟨"RecordMatch$Likeness", "comparePublishers", "(LRecordMatch$Text;LRecordMatch$Text;)V"⟩, 7) := ⟨⟨by decide +kernel, by decide +kernel⟩, List.mem_of_getElem? (i := 91) (by decide +kernel), List.mem_of_getElem? (i := 470) (by decide +kernel), List.mem_of_getElem? (i := 471) (by decide +kernel)⟩
theorem lw_p21 : lw_okq (⟨"RecordMatch$Likeness", "comparePages", "(II)V"⟩, 7) := ⟨⟨by decide +kernel, by decide +kernel⟩, List.mem_of_getElem? (i := 91) (by decide +kernel), List.mem_of_getElem? (i := 478) (by decide +kernel), List.mem_of_getElem? (i := 479) (by decide +kernel)⟩
theorem lw_p22 : lw_okq (⟨"java/lang/Throwable", "fillInStackTrace", "(I)Ljava/lang/Throwable;"⟩, 6) := ⟨⟨by decide +kernel, by decide +kernel⟩, List.mem_of_getElem? (i := 526) (by decide +kernel), List.mem_of_getElem? (i := 524) (by decide +kernel), List.mem_of_getElem? (i := 525) (by decide +kernel)⟩
theorem lw_p23 : lw_okq (⟨"RecordMatch$Likeness", "commonDivisor", "()J"⟩, 7) := ⟨⟨by decide +kernel, by decide +kernel⟩, List.mem_of_getElem? (i := 91) (by decide +kernel), List.mem_of_getElem? (i := 560) (by decide +kernel), List.mem_of_getElem? (i := 561) (by decide +kernel)⟩
theorem lw_p24 : lw_okq (⟨"RecordMatch", "countHolders", "(J)I"⟩, 11) := ⟨⟨by decide +kernel, by decide +kernel⟩, List.mem_of_getElem? (i := 19) (by decide +kernel), List.mem_of_getElem? (i := 609) (by decide +kernel), List.mem_of_getElem? (i := 610) (by decide +kernel)⟩
theorem lw_p25 : lw_okq (⟨"RecordMatchModel", "isTop", "(I)Z"⟩, 25) := ⟨⟨by decide +kernel, by decide +kernel⟩, List.mem_of_getElem? (i := 613) (by decide +kernel), List.mem_of_getElem? (i := 708) (by decide +kernel), List.mem_of_getElem? (i := 709) (by decide +kernel)⟩
theorem lw_p26 : lw_okq (⟨"RecordMatchModel", "isRecord", "(I)Z"⟩, 25) := ⟨⟨by decide +kernel, by decide +kernel⟩, List.mem_of_getElem? (i := 613) (by decide +kernel), List.mem_of_getElem? (i := 712) (by decide +kernel), List.mem_of_getElem? (i := 713) (by decide +kernel)⟩
theorem lw_p27 : lw_okq (⟨"RecordMatchModel", "isOf", "(II)Z"⟩, 25) := ⟨⟨by decide +kernel, by decide +kernel⟩, List.mem_of_getElem? (i := 613) (by decide +kernel), List.mem_of_getElem? (i := 724) (by decide +kernel), List.mem_of_getElem? (i := 725) (by decide +kernel)⟩
theorem lw_p28 : lw_okq (⟨"RecordMatchModel", "top", "(I)I"⟩, 25) := ⟨⟨by decide +kernel, by decide +kernel⟩, List.mem_of_getElem? (i := 613) (by decide +kernel), List.mem_of_getElem? (i := 728) (by decide +kernel), List.mem_of_getElem? (i := 729) (by decide +kernel)⟩
theorem lw_p29 : lw_okq (⟨"RecordMatchModel", "form", "(I)J"⟩, 25) := ⟨⟨by decide +kernel, by decide +kernel⟩, List.mem_of_getElem? (i := 613) (by decide +kernel), List.mem_of_getElem? (i := 732) (by decide +kernel), List.mem_of_getElem? (i := 733) (by decide +kernel)⟩
theorem lw_p30 : lw_okq (⟨"RecordMatchModel", "at", "(II)I"⟩, 25) := ⟨⟨by decide +kernel, by decide +kernel⟩, List.mem_of_getElem? (i := 613) (by decide +kernel), List.mem_of_getElem? (i := 736) (by decide +kernel), List.mem_of_getElem? (i := 737) (by decide +kernel)⟩
theorem lw_p31 : lw_okq (⟨"RecordMatchModel", "keysOf", "(I[J)I"⟩, 25) := ⟨⟨by decide +kernel, by decide +kernel⟩, List.mem_of_getElem? (i := 613) (by decide +kernel), List.mem_of_getElem? (i := 758) (by decide +kernel), List.mem_of_getElem? (i := 759) (by decide +kernel)⟩
def lw_privs_2 : List (MethodName × Nat) := [(⟨"RecordMatch$Words", "sameWord", "(ILRecordMatch$Words;I)Z"⟩, 4), (⟨"RecordMatch$Likeness", "add", "(III)V"⟩, 7), (⟨"RecordMatch$Likeness", "compareYears", "(II)V"⟩, 7), (⟨"RecordMatch$Likeness", "compareBookNumbers", "(LRecordMatch$Text;LRecordMatch$Text;)V"⟩, 7), (⟨"RecordMatch$Likeness", "comparePublishers", "(LRecordMatch$Text;LRecordMatch$Text;)V"⟩, 7), (⟨"RecordMatch$Likeness", "comparePages", "(II)V"⟩, 7), (⟨"java/lang/Throwable", "fillInStackTrace", "(I)Ljava/lang/Throwable;"⟩, 6), (⟨"RecordMatch$Likeness", "commonDivisor", "()J"⟩, 7), (⟨"RecordMatch", "countHolders", "(J)I"⟩, 11), (⟨"RecordMatchModel", "isTop", "(I)Z"⟩, 25), (⟨"RecordMatchModel", "isRecord", "(I)Z"⟩, 25), (⟨"RecordMatchModel", "isOf", "(II)Z"⟩, 25), (⟨"RecordMatchModel", "top", "(I)I"⟩, 25), (⟨"RecordMatchModel", "form", "(I)J"⟩, 25), (⟨"RecordMatchModel", "at", "(II)I"⟩, 25), (⟨"RecordMatchModel", "keysOf", "(I[J)I"⟩, 25)]
theorem lw_r2 : ∀ q ∈ lw_privs_2, lw_okq q := List.forall_mem_cons.mpr ⟨lw_p16, List.forall_mem_cons.mpr ⟨lw_p17, List.forall_mem_cons.mpr ⟨lw_p18, List.forall_mem_cons.mpr ⟨lw_p19, List.forall_mem_cons.mpr ⟨lw_p20, List.forall_mem_cons.mpr ⟨lw_p21, List.forall_mem_cons.mpr ⟨lw_p22, List.forall_mem_cons.mpr ⟨lw_p23, List.forall_mem_cons.mpr ⟨lw_p24, List.forall_mem_cons.mpr ⟨lw_p25, List.forall_mem_cons.mpr ⟨lw_p26, List.forall_mem_cons.mpr ⟨lw_p27, List.forall_mem_cons.mpr ⟨lw_p28, List.forall_mem_cons.mpr ⟨lw_p29, List.forall_mem_cons.mpr ⟨lw_p30, List.forall_mem_cons.mpr ⟨lw_p31, fun _ h => absurd h List.not_mem_nil⟩⟩⟩⟩⟩⟩⟩⟩⟩⟩⟩⟩⟩⟩⟩⟩
theorem lw_p32 : lw_okq (⟨"RecordMatchModel", "key", "(I)J"⟩, 25) := ⟨⟨by decide +kernel, by decide +kernel⟩, List.mem_of_getElem? (i := 613) (by decide +kernel), List.mem_of_getElem? (i := 762) (by decide +kernel), List.mem_of_getElem? (i := 763) (by decide +kernel)⟩
theorem lw_p33 : lw_okq (⟨"RecordMatchModel", "words", "(I[I[I)I"⟩, 25) := ⟨⟨by decide +kernel, by decide +kernel⟩, List.mem_of_getElem? (i := 613) (by decide +kernel), List.mem_of_getElem? (i := 766) (by decide +kernel), List.mem_of_getElem? (i := 767) (by decide +kernel)⟩
theorem lw_p34 : lw_okq (⟨"RecordMatchModel", "has", "(IJ)Z"⟩, 25) := ⟨⟨by decide +kernel, by decide +kernel⟩, List.mem_of_getElem? (i := 613) (by decide +kernel), List.mem_of_getElem? (i := 775) (by decide +kernel), List.mem_of_getElem? (i := 776) (by decide +kernel)⟩
theorem lw_p35 : lw_okq (⟨"RecordMatchModel", "first", "(II)I"⟩, 25) := ⟨⟨by decide +kernel, by decide +kernel⟩, List.mem_of_getElem? (i := 613) (by decide +kernel), List.mem_of_getElem? (i := 791) (by decide +kernel), List.mem_of_getElem? (i := 792) (by decide +kernel)⟩
theorem lw_p36 : lw_okq (⟨"RecordMatchModel", "likeness", "(III)V"⟩, 25) := ⟨⟨by decide +kernel, by decide +kernel⟩, List.mem_of_getElem? (i := 613) (by decide +kernel), List.mem_of_getElem? (i := 795) (by decide +kernel), List.mem_of_getElem? (i := 796) (by decide +kernel)⟩
theorem lw_p37 : lw_okq (⟨"RecordMatchModel", "number", "(I)I"⟩, 25) := ⟨⟨by decide +kernel, by decide +kernel⟩, List.mem_of_getElem? (i := 613) (by decide +kernel), List.mem_of_getElem? (i := 799) (by decide +kernel), List.mem_of_getElem? (i := 800) (by decide +kernel)⟩
theorem lw_p38 : lw_okq (⟨"RecordMatchModel", "title", "(II)V"⟩, 25) := ⟨⟨by decide +kernel, by decide +kernel⟩, List.mem_of_getElem? (i := 613) (by decide +kernel), List.mem_of_getElem? (i := 803) (by decide +kernel), List.mem_of_getElem? (i := 804) (by decide +kernel)⟩
theorem lw_p39 : lw_okq (⟨"RecordMatchModel", "sameWord", "(IIIIII)Z"⟩, 25) := ⟨⟨by decide +kernel, by decide +kernel⟩, List.mem_of_getElem? (i := 613) (by decide +kernel), List.mem_of_getElem? (i := 807) (by decide +kernel), List.mem_of_getElem? (i := 808) (by decide +kernel)⟩
theorem lw_p40 : lw_okq (⟨"RecordMatchModel", "sameWords", "(II)Z"⟩, 25) := ⟨⟨by decide +kernel, by decide +kernel⟩, List.mem_of_getElem? (i := 613) (by decide +kernel), List.mem_of_getElem? (i := 812) (by decide +kernel), List.mem_of_getElem? (i := 813) (by decide +kernel)⟩
theorem lw_p41 : lw_okq (⟨"RecordMatchModel", "beats", "(II)Z"⟩, 25) := ⟨⟨by decide +kernel, by decide +kernel⟩, List.mem_of_getElem? (i := 613) (by decide +kernel), List.mem_of_getElem? (i := 836) (by decide +kernel), List.mem_of_getElem? (i := 837) (by decide +kernel)⟩
def lw_privs_3 : List (MethodName × Nat) := [(⟨"RecordMatchModel", "key", "(I)J"⟩, 25), (⟨"RecordMatchModel", "words", "(I[I[I)I"⟩, 25), (⟨"RecordMatchModel", "has", "(IJ)Z"⟩, 25), (⟨"RecordMatchModel", "first", "(II)I"⟩, 25), (⟨"RecordMatchModel", "likeness", "(III)V"⟩, 25), (⟨"RecordMatchModel", "number", "(I)I"⟩, 25), (⟨"RecordMatchModel", "title", "(II)V"⟩, 25), (⟨"RecordMatchModel", "sameWord", "(IIIIII)Z"⟩, 25), (⟨"RecordMatchModel", "sameWords", "(II)Z"⟩, 25), (⟨"RecordMatchModel", "beats", "(II)Z"⟩, 25)]
theorem lw_r3 : ∀ q ∈ lw_privs_3, lw_okq q := List.forall_mem_cons.mpr ⟨lw_p32, List.forall_mem_cons.mpr ⟨lw_p33, List.forall_mem_cons.mpr ⟨lw_p34, List.forall_mem_cons.mpr ⟨lw_p35, List.forall_mem_cons.mpr ⟨lw_p36, List.forall_mem_cons.mpr ⟨lw_p37, List.forall_mem_cons.mpr ⟨lw_p38, List.forall_mem_cons.mpr ⟨lw_p39, List.forall_mem_cons.mpr ⟨lw_p40, List.forall_mem_cons.mpr ⟨lw_p41, fun _ h => absurd h List.not_mem_nil⟩⟩⟩⟩⟩⟩⟩⟩⟩⟩
def lw_privs : List (MethodName × Nat) := lw_privs_1 ++ (lw_privs_2 ++ (lw_privs_3))
def lw_tbl : List Cond := k2_sels lw_privs ++ tables_1
theorem lw_privs_ok : ∀ q ∈ lw_privs, lw_okq q := by
  show ∀ q ∈ lw_privs_1 ++ (lw_privs_2 ++ (lw_privs_3)), lw_okq q
  exact List.forall_mem_append.mpr ⟨lw_r1, List.forall_mem_append.mpr ⟨lw_r2, lw_r3⟩⟩
end
section
def RX0 : String := "RecordMatch$Book"
def TX0 : u_T := fun k => match k with
  | 0 => ("RecordMatch$Book", "number", "I", true)
  | 1 => ("RecordMatch$Book", "rank", "I", true)
  | 2 => ("RecordMatch$Book", "isLocked", "Z", false)
  | 3 => ("RecordMatch$Book", "marked", "Z", false)
  | 4 => ("RecordMatch$Book", "next", "LRecordMatch$Book;", false)
  | 5 => ("RecordMatch$Book", "host", "LRecordMatch$Book;", false)
  | 6 => ("RecordMatch$Book", "latest", "LRecordMatch$Book;", false)
  | _ => ("RecordMatch$Book", "earlier", "LRecordMatch$Book;", false)
def tyX0 : Nat → FieldType := fun k => match k with
  | 0 => .int
  | 1 => .int
  | 2 => .boolean
  | 3 => .boolean
  | 4 => .object "RecordMatch$Book"
  | 5 => .object "RecordMatch$Book"
  | 6 => .object "RecordMatch$Book"
  | _ => .object "RecordMatch$Book"
abbrev wsX00 : List Cond := u_ws RX0 TX0 8
theorem nmX0 : ∀ a, a < 8 → ∀ b, b < 8 → a ≠ b → (TX0 a).2.1 ≠ (TX0 b).2.1 := by decide +kernel
theorem tyX0_ok : ∀ k, k < 8 → parseFieldDescriptor (TX0 k).2.2.1 = some (tyX0 k) := by decide +kernel
abbrev cX0_init : ByteArray := prog_2_method_1_code
def yX0_init : MethodName := ⟨RX0, "<init>", "(II)V"⟩
abbrev cX0_outermost : ByteArray := prog_2_method_2_code
def yX0_outermost : MethodName := ⟨RX0, "outermost", "()LRecordMatch$Book;"⟩
abbrev cX0_leads : ByteArray := prog_2_method_3_code
def yX0_leads : MethodName := ⟨RX0, "leads", "(LRecordMatch$Book;)Z"⟩
abbrev cX0_take : ByteArray := prog_2_method_4_code
def yX0_take : MethodName := ⟨RX0, "take", "(LRecordMatch$Book;)V"⟩
abbrev cX0_giveBackLatest : ByteArray := prog_2_method_5_code
def yX0_giveBackLatest : MethodName := ⟨RX0, "giveBackLatest", "()Z"⟩
def RX1 : String := "RecordMatch$BookNumber"
def TX1 : u_T := fun k => match k with
  | 0 => ("RecordMatch$BookNumber", "values", "[I", true)
  | 1 => ("RecordMatch$BookNumber", "count", "I", false)
  | _ => ("RecordMatch$BookNumber", "crossed", "Z", false)
def tyX1 : Nat → FieldType := fun k => match k with
  | 0 => .array .int
  | 1 => .int
  | _ => .boolean
abbrev wsX10 : List Cond := u_ws RX1 TX1 3
theorem nmX1 : ∀ a, a < 3 → ∀ b, b < 3 → a ≠ b → (TX1 a).2.1 ≠ (TX1 b).2.1 := by decide +kernel
theorem tyX1_ok : ∀ k, k < 3 → parseFieldDescriptor (TX1 k).2.2.1 = some (tyX1 k) := by decide +kernel
abbrev cX1_init : ByteArray := prog_3_method_1_code
def yX1_init : MethodName := ⟨RX1, "<init>", "()V"⟩
abbrev cX1_formOf : ByteArray := prog_3_method_2_code
def yX1_formOf : MethodName := ⟨RX1, "formOf", "(LRecordMatch$Text;)J"⟩
abbrev cX1_read : ByteArray := prog_3_method_3_code
def yX1_read : MethodName := ⟨RX1, "read", "(LRecordMatch$Text;)V"⟩
abbrev cX1_valueOf : ByteArray := prog_3_method_4_code
def yX1_valueOf : MethodName := ⟨RX1, "valueOf", "(C)I"⟩
abbrev cX1_isShortRight : ByteArray := prog_3_method_5_code
def yX1_isShortRight : MethodName := ⟨RX1, "isShortRight", "()Z"⟩
abbrev cX1_isLongRight : ByteArray := prog_3_method_6_code
def yX1_isLongRight : MethodName := ⟨RX1, "isLongRight", "()Z"⟩
abbrev cX1_formOfShort : ByteArray := prog_3_method_7_code
def yX1_formOfShort : MethodName := ⟨RX1, "formOfShort", "()J"⟩
abbrev cX1_formOfLong : ByteArray := prog_3_method_8_code
def yX1_formOfLong : MethodName := ⟨RX1, "formOfLong", "()J"⟩
def RX2 : String := "RecordMatch$KeyReader"
def TX2 : u_T := fun k => match k with
  | 0 => ("RecordMatch$KeyReader", "words", "LRecordMatch$Words;", true)
  | _ => ("RecordMatch$KeyReader", "bookNumber", "LRecordMatch$BookNumber;", true)
def tyX2 : Nat → FieldType := fun k => match k with
  | 0 => .object "RecordMatch$Words"
  | _ => .object "RecordMatch$BookNumber"
abbrev wsX20 : List Cond := u_ws RX2 TX2 2
theorem nmX2 : ∀ a, a < 2 → ∀ b, b < 2 → a ≠ b → (TX2 a).2.1 ≠ (TX2 b).2.1 := by decide +kernel
theorem tyX2_ok : ∀ k, k < 2 → parseFieldDescriptor (TX2 k).2.2.1 = some (tyX2 k) := by decide +kernel
abbrev cX2_init : ByteArray := prog_4_method_1_code
def yX2_init : MethodName := ⟨RX2, "<init>", "()V"⟩
abbrev cX2_isRightNumber : ByteArray := prog_4_method_2_code
def yX2_isRightNumber : MethodName := ⟨RX2, "isRightNumber", "(LRecordMatch$Text;)Z"⟩
abbrev cX2_keyOf : ByteArray := prog_4_method_3_code
def yX2_keyOf : MethodName := ⟨RX2, "keyOf", "(LRecordMatch$Text;)J"⟩
def RX3 : String := "RecordMatch$KeyRow"
def TX3 : u_T := fun k => match k with
  | 0 => ("RecordMatch$KeyRow", "row", "[J", true)
  | _ => ("RecordMatch$KeyRow", "count", "I", false)
def tyX3 : Nat → FieldType := fun k => match k with
  | 0 => .array .long
  | _ => .int
abbrev wsX30 : List Cond := u_ws RX3 TX3 2
theorem nmX3 : ∀ a, a < 2 → ∀ b, b < 2 → a ≠ b → (TX3 a).2.1 ≠ (TX3 b).2.1 := by decide +kernel
theorem tyX3_ok : ∀ k, k < 2 → parseFieldDescriptor (TX3 k).2.2.1 = some (tyX3 k) := by decide +kernel
abbrev cX3_init : ByteArray := prog_5_method_1_code
def yX3_init : MethodName := ⟨RX3, "<init>", "()V"⟩
abbrev cX3_clear : ByteArray := prog_5_method_2_code
def yX3_clear : MethodName := ⟨RX3, "clear", "()V"⟩
abbrev cX3_add : ByteArray := prog_5_method_3_code
def yX3_add : MethodName := ⟨RX3, "add", "(J)V"⟩
abbrev cX3_holds : ByteArray := prog_5_method_4_code
def yX3_holds : MethodName := ⟨RX3, "holds", "(J)Z"⟩
abbrev cX3_has : ByteArray := prog_5_method_5_code
def yX3_has : MethodName := ⟨RX3, "has", "(I)Z"⟩
abbrev cX3_get : ByteArray := prog_5_method_6_code
def yX3_get : MethodName := ⟨RX3, "get", "(I)J"⟩
def RX4 : String := "RecordMatch$Likeness"
def TX4 : u_T := fun k => match k with
  | 0 => ("RecordMatch$Likeness", "weights", "[J", true)
  | 1 => ("RecordMatch$Likeness", "words", "LRecordMatch$Words;", true)
  | 2 => ("RecordMatch$Likeness", "otherWords", "LRecordMatch$Words;", true)
  | 3 => ("RecordMatch$Likeness", "bookNumber", "LRecordMatch$BookNumber;", true)
  | 4 => ("RecordMatch$Likeness", "sumAbove", "J", false)
  | 5 => ("RecordMatch$Likeness", "sumBelow", "J", false)
  | _ => ("RecordMatch$Likeness", "weightSum", "J", false)
def tyX4 : Nat → FieldType := fun k => match k with
  | 0 => .array .long
  | 1 => .object "RecordMatch$Words"
  | 2 => .object "RecordMatch$Words"
  | 3 => .object "RecordMatch$BookNumber"
  | 4 => .long
  | 5 => .long
  | _ => .long
abbrev wsX40 : List Cond := u_ws RX4 TX4 7
theorem nmX4 : ∀ a, a < 7 → ∀ b, b < 7 → a ≠ b → (TX4 a).2.1 ≠ (TX4 b).2.1 := by decide +kernel
theorem tyX4_ok : ∀ k, k < 7 → parseFieldDescriptor (TX4 k).2.2.1 = some (tyX4 k) := by decide +kernel
abbrev cX4_init : ByteArray := prog_6_method_1_code
def yX4_init : MethodName := ⟨RX4, "<init>", "()V"⟩
abbrev cX4_weigh : ByteArray := prog_6_method_2_code
def yX4_weigh : MethodName := ⟨RX4, "weigh", "(IJJ)V"⟩
abbrev cX4_clear : ByteArray := prog_6_method_3_code
def yX4_clear : MethodName := ⟨RX4, "clear", "()V"⟩
abbrev cX4_compare : ByteArray := prog_6_method_4_code
def yX4_compare : MethodName := ⟨RX4, "compare", "(ILRecordMatch$Text;LRecordMatch$Text;)V"⟩
abbrev cX4_hasWeight : ByteArray := prog_6_method_5_code
def yX4_hasWeight : MethodName := ⟨RX4, "hasWeight", "()Z"⟩
abbrev cX4_above : ByteArray := prog_6_method_6_code
def yX4_above : MethodName := ⟨RX4, "above", "()J"⟩
abbrev cX4_below : ByteArray := prog_6_method_7_code
def yX4_below : MethodName := ⟨RX4, "below", "()J"⟩
abbrev cX4_compareTitles : ByteArray := prog_6_method_8_code
def yX4_compareTitles : MethodName := ⟨RX4, "compareTitles", "(LRecordMatch$Text;LRecordMatch$Text;)V"⟩
abbrev cX4_compareYears : ByteArray := prog_6_method_9_code
def yX4_compareYears : MethodName := ⟨RX4, "compareYears", "(II)V"⟩
abbrev cX4_compareBookNumbers : ByteArray := prog_6_method_10_code
def yX4_compareBookNumbers : MethodName := ⟨RX4, "compareBookNumbers", "(LRecordMatch$Text;LRecordMatch$Text;)V"⟩
abbrev cX4_comparePublishers : ByteArray := prog_6_method_11_code
def yX4_comparePublishers : MethodName := ⟨RX4, "comparePublishers", "(LRecordMatch$Text;LRecordMatch$Text;)V"⟩
abbrev cX4_comparePages : ByteArray := prog_6_method_12_code
def yX4_comparePages : MethodName := ⟨RX4, "comparePages", "(II)V"⟩
abbrev cX4_add : ByteArray := prog_6_method_13_code
def yX4_add : MethodName := ⟨RX4, "add", "(III)V"⟩
abbrev cX4_commonDivisor : ByteArray := prog_6_method_14_code
def yX4_commonDivisor : MethodName := ⟨RX4, "commonDivisor", "()J"⟩
def RX5 : String := "RecordMatch$Signs"
def TX5 : u_T := fun k => match k with
  | _ => ("", "", "", false)
def tyX5 : Nat → FieldType := fun k => match k with
  | _ => .int
abbrev wsX50 : List Cond := u_ws RX5 TX5 0
theorem nmX5 : ∀ a, a < 0 → ∀ b, b < 0 → a ≠ b → (TX5 a).2.1 ≠ (TX5 b).2.1 := by decide +kernel
theorem tyX5_ok : ∀ k, k < 0 → parseFieldDescriptor (TX5 k).2.2.1 = some (tyX5 k) := by decide +kernel
abbrev cX5_isDigit : ByteArray := prog_7_method_2_code
def yX5_isDigit : MethodName := ⟨RX5, "isDigit", "(C)Z"⟩
abbrev cX5_isCross : ByteArray := prog_7_method_3_code
def yX5_isCross : MethodName := ⟨RX5, "isCross", "(C)Z"⟩
abbrev cX5_inWord : ByteArray := prog_7_method_4_code
def yX5_inWord : MethodName := ⟨RX5, "inWord", "(C)C"⟩
def RX6 : String := "RecordMatch$Text"
def TX6 : u_T := fun k => match k with
  | 0 => ("RecordMatch$Text", "number", "I", true)
  | 1 => ("RecordMatch$Text", "tag", "I", true)
  | 2 => ("RecordMatch$Text", "owner", "LRecordMatch$Book;", true)
  | 3 => ("RecordMatch$Text", "signs", "[C", true)
  | 4 => ("RecordMatch$Text", "length", "I", false)
  | _ => ("RecordMatch$Text", "next", "LRecordMatch$Text;", false)
def tyX6 : Nat → FieldType := fun k => match k with
  | 0 => .int
  | 1 => .int
  | 2 => .object "RecordMatch$Book"
  | 3 => .array .char
  | 4 => .int
  | _ => .object "RecordMatch$Text"
abbrev wsX60 : List Cond := u_ws RX6 TX6 6
theorem nmX6 : ∀ a, a < 6 → ∀ b, b < 6 → a ≠ b → (TX6 a).2.1 ≠ (TX6 b).2.1 := by decide +kernel
theorem tyX6_ok : ∀ k, k < 6 → parseFieldDescriptor (TX6 k).2.2.1 = some (tyX6 k) := by decide +kernel
abbrev cX6_init : ByteArray := prog_8_method_1_code
def yX6_init : MethodName := ⟨RX6, "<init>", "(IILRecordMatch$Book;)V"⟩
abbrev cX6_append : ByteArray := prog_8_method_2_code
def yX6_append : MethodName := ⟨RX6, "append", "(C)V"⟩
abbrev cX6_isOf : ByteArray := prog_8_method_3_code
def yX6_isOf : MethodName := ⟨RX6, "isOf", "(LRecordMatch$Book;)Z"⟩
abbrev cX6_beats : ByteArray := prog_8_method_4_code
def yX6_beats : MethodName := ⟨RX6, "beats", "(LRecordMatch$Text;)Z"⟩
abbrev cX6_lastFourDigits : ByteArray := prog_8_method_5_code
def yX6_lastFourDigits : MethodName := ⟨RX6, "lastFourDigits", "()I"⟩
def RX7 : String := "RecordMatch$Words"
def TX7 : u_T := fun k => match k with
  | 0 => ("RecordMatch$Words", "signs", "[C", true)
  | 1 => ("RecordMatch$Words", "starts", "[I", true)
  | 2 => ("RecordMatch$Words", "lengths", "[I", true)
  | _ => ("RecordMatch$Words", "count", "I", false)
def tyX7 : Nat → FieldType := fun k => match k with
  | 0 => .array .char
  | 1 => .array .int
  | 2 => .array .int
  | _ => .int
abbrev wsX70 : List Cond := u_ws RX7 TX7 4
theorem nmX7 : ∀ a, a < 4 → ∀ b, b < 4 → a ≠ b → (TX7 a).2.1 ≠ (TX7 b).2.1 := by decide +kernel
theorem tyX7_ok : ∀ k, k < 4 → parseFieldDescriptor (TX7 k).2.2.1 = some (tyX7 k) := by decide +kernel
abbrev cX7_init : ByteArray := prog_9_method_1_code
def yX7_init : MethodName := ⟨RX7, "<init>", "()V"⟩
abbrev cX7_read : ByteArray := prog_9_method_2_code
def yX7_read : MethodName := ⟨RX7, "read", "(LRecordMatch$Text;)V"⟩
abbrev cX7_countDifferent : ByteArray := prog_9_method_3_code
def yX7_countDifferent : MethodName := ⟨RX7, "countDifferent", "()I"⟩
abbrev cX7_countDifferentIn : ByteArray := prog_9_method_4_code
def yX7_countDifferentIn : MethodName := ⟨RX7, "countDifferentIn", "(LRecordMatch$Words;)I"⟩
abbrev cX7_sameRow : ByteArray := prog_9_method_5_code
def yX7_sameRow : MethodName := ⟨RX7, "sameRow", "(LRecordMatch$Words;)Z"⟩
abbrev cX7_startOfFirstLong : ByteArray := prog_9_method_6_code
def yX7_startOfFirstLong : MethodName := ⟨RX7, "startOfFirstLong", "()I"⟩
abbrev cX7_packed : ByteArray := prog_9_method_7_code
def yX7_packed : MethodName := ⟨RX7, "packed", "(I)I"⟩
abbrev cX7_hasAmongFirst : ByteArray := prog_9_method_8_code
def yX7_hasAmongFirst : MethodName := ⟨RX7, "hasAmongFirst", "(ILRecordMatch$Words;I)Z"⟩
abbrev cX7_sameWord : ByteArray := prog_9_method_9_code
def yX7_sameWord : MethodName := ⟨RX7, "sameWord", "(ILRecordMatch$Words;I)Z"⟩
def RX8 : String := "RecordMatch"
def TX8 : u_T := fun k => match k with
  | 0 => ("RecordMatch", "firstBook", "LRecordMatch$Book;", false)
  | 1 => ("RecordMatch", "lastBook", "LRecordMatch$Book;", false)
  | 2 => ("RecordMatch", "bookCount", "I", false)
  | 3 => ("RecordMatch", "firstText", "LRecordMatch$Text;", false)
  | 4 => ("RecordMatch", "lastText", "LRecordMatch$Text;", false)
  | 5 => ("RecordMatch", "textCount", "I", false)
  | 6 => ("RecordMatch", "found", "[I", true)
  | 7 => ("RecordMatch", "foundCount", "I", false)
  | 8 => ("RecordMatch", "keyReader", "LRecordMatch$KeyReader;", true)
  | 9 => ("RecordMatch", "keys", "LRecordMatch$KeyRow;", true)
  | _ => ("RecordMatch", "likeness", "LRecordMatch$Likeness;", true)
def tyX8 : Nat → FieldType := fun k => match k with
  | 0 => .object "RecordMatch$Book"
  | 1 => .object "RecordMatch$Book"
  | 2 => .int
  | 3 => .object "RecordMatch$Text"
  | 4 => .object "RecordMatch$Text"
  | 5 => .int
  | 6 => .array .int
  | 7 => .int
  | 8 => .object "RecordMatch$KeyReader"
  | 9 => .object "RecordMatch$KeyRow"
  | _ => .object "RecordMatch$Likeness"
abbrev wsX80 : List Cond := u_ws RX8 TX8 11
theorem nmX8 : ∀ a, a < 11 → ∀ b, b < 11 → a ≠ b → (TX8 a).2.1 ≠ (TX8 b).2.1 := by decide +kernel
theorem tyX8_ok : ∀ k, k < 11 → parseFieldDescriptor (TX8 k).2.2.1 = some (tyX8 k) := by decide +kernel
abbrev cX8_init : ByteArray := prog_1_method_1_code
def yX8_init : MethodName := ⟨RX8, "<init>", "()V"⟩
abbrev cX8_record : ByteArray := prog_1_method_2_code
def yX8_record : MethodName := ⟨RX8, "record", "(I)I"⟩
abbrev cX8_field : ByteArray := prog_1_method_3_code
def yX8_field : MethodName := ⟨RX8, "field", "(II)I"⟩
abbrev cX8_sign : ByteArray := prog_1_method_4_code
def yX8_sign : MethodName := ⟨RX8, "sign", "(II)V"⟩
abbrev cX8_isbn : ByteArray := prog_1_method_5_code
def yX8_isbn : MethodName := ⟨RX8, "isbn", "(II)I"⟩
abbrev cX8_weight : ByteArray := prog_1_method_6_code
def yX8_weight : MethodName := ⟨RX8, "weight", "(IJJ)I"⟩
abbrev cX8_score : ByteArray := prog_1_method_7_code
def yX8_score : MethodName := ⟨RX8, "score", "(III)J"⟩
abbrev cX8_candidates : ByteArray := prog_1_method_8_code
def yX8_candidates : MethodName := ⟨RX8, "candidates", "(I)I"⟩
abbrev cX8_at : ByteArray := prog_1_method_9_code
def yX8_at : MethodName := ⟨RX8, "at", "(I)I"⟩
abbrev cX8_merge : ByteArray := prog_1_method_10_code
def yX8_merge : MethodName := ⟨RX8, "merge", "(II)I"⟩
abbrev cX8_winner : ByteArray := prog_1_method_11_code
def yX8_winner : MethodName := ⟨RX8, "winner", "(II)I"⟩
abbrev cX8_undo : ByteArray := prog_1_method_12_code
def yX8_undo : MethodName := ⟨RX8, "undo", "(I)I"⟩
abbrev cX8_locked : ByteArray := prog_1_method_13_code
def yX8_locked : MethodName := ⟨RX8, "locked", "(IZ)I"⟩
abbrev cX8_index : ByteArray := prog_1_method_14_code
def yX8_index : MethodName := ⟨RX8, "index", "(II)I"⟩
abbrev cX8_bookOf : ByteArray := prog_1_method_15_code
def yX8_bookOf : MethodName := ⟨RX8, "bookOf", "(I)LRecordMatch$Book;"⟩
abbrev cX8_standingBook : ByteArray := prog_1_method_16_code
def yX8_standingBook : MethodName := ⟨RX8, "standingBook", "(I)LRecordMatch$Book;"⟩
abbrev cX8_textOf : ByteArray := prog_1_method_17_code
def yX8_textOf : MethodName := ⟨RX8, "textOf", "(I)LRecordMatch$Text;"⟩
abbrev cX8_firstTextOf : ByteArray := prog_1_method_18_code
def yX8_firstTextOf : MethodName := ⟨RX8, "firstTextOf", "(LRecordMatch$Book;I)LRecordMatch$Text;"⟩
abbrev cX8_collectKeys : ByteArray := prog_1_method_19_code
def yX8_collectKeys : MethodName := ⟨RX8, "collectKeys", "(LRecordMatch$Book;)V"⟩
abbrev cX8_countHolders : ByteArray := prog_1_method_20_code
def yX8_countHolders : MethodName := ⟨RX8, "countHolders", "(J)I"⟩
abbrev cX8_clearMarks : ByteArray := prog_1_method_21_code
def yX8_clearMarks : MethodName := ⟨RX8, "clearMarks", "()V"⟩
abbrev cX8_listMarked : ByteArray := prog_1_method_22_code
def yX8_listMarked : MethodName := ⟨RX8, "listMarked", "()V"⟩
def RX9 : String := "RecordMatchModel"
def TX9 : u_T := fun k => match k with
  | 0 => ("RecordMatchModel", "thrown", "I", false)
  | 1 => ("RecordMatchModel", "records", "I", false)
  | 2 => ("RecordMatchModel", "rank", "[I", true)
  | 3 => ("RecordMatchModel", "locks", "[Z", true)
  | 4 => ("RecordMatchModel", "in", "[I", true)
  | 5 => ("RecordMatchModel", "when", "[I", true)
  | 6 => ("RecordMatchModel", "merges", "I", false)
  | 7 => ("RecordMatchModel", "fields", "I", false)
  | 8 => ("RecordMatchModel", "fieldRecord", "[I", true)
  | 9 => ("RecordMatchModel", "fieldTag", "[I", true)
  | 10 => ("RecordMatchModel", "signs", "[B", true)
  | 11 => ("RecordMatchModel", "sizes", "[I", true)
  | 12 => ("RecordMatchModel", "ups", "[I", true)
  | 13 => ("RecordMatchModel", "downs", "[I", true)
  | 14 => ("RecordMatchModel", "found", "[I", true)
  | 15 => ("RecordMatchModel", "foundCount", "I", false)
  | 16 => ("RecordMatchModel", "keys", "[J", true)
  | 17 => ("RecordMatchModel", "keyCount", "I", false)
  | 18 => ("RecordMatchModel", "keys2", "[J", true)
  | 19 => ("RecordMatchModel", "wordAt", "[I", true)
  | 20 => ("RecordMatchModel", "wordSize", "[I", true)
  | 21 => ("RecordMatchModel", "wordAt2", "[I", true)
  | 22 => ("RecordMatchModel", "wordSize2", "[I", true)
  | 23 => ("RecordMatchModel", "partUp", "J", false)
  | _ => ("RecordMatchModel", "partDown", "J", false)
def tyX9 : Nat → FieldType := fun k => match k with
  | 0 => .int
  | 1 => .int
  | 2 => .array .int
  | 3 => .array .boolean
  | 4 => .array .int
  | 5 => .array .int
  | 6 => .int
  | 7 => .int
  | 8 => .array .int
  | 9 => .array .int
  | 10 => .array .byte
  | 11 => .array .int
  | 12 => .array .int
  | 13 => .array .int
  | 14 => .array .int
  | 15 => .int
  | 16 => .array .long
  | 17 => .int
  | 18 => .array .long
  | 19 => .array .int
  | 20 => .array .int
  | 21 => .array .int
  | 22 => .array .int
  | 23 => .long
  | _ => .long
abbrev wsX90 : List Cond := u_ws RX9 TX9 25
theorem nmX9 : ∀ a, a < 25 → ∀ b, b < 25 → a ≠ b → (TX9 a).2.1 ≠ (TX9 b).2.1 := by decide +kernel
theorem tyX9_ok : ∀ k, k < 25 → parseFieldDescriptor (TX9 k).2.2.1 = some (tyX9 k) := by decide +kernel
abbrev cX9_init : ByteArray := prog_11_method_1_code
def yX9_init : MethodName := ⟨RX9, "<init>", "()V"⟩
abbrev cX9_thrown : ByteArray := prog_11_method_2_code
def yX9_thrown : MethodName := ⟨RX9, "thrown", "()I"⟩
abbrev cX9_isRecord : ByteArray := prog_11_method_3_code
def yX9_isRecord : MethodName := ⟨RX9, "isRecord", "(I)Z"⟩
abbrev cX9_isTop : ByteArray := prog_11_method_4_code
def yX9_isTop : MethodName := ⟨RX9, "isTop", "(I)Z"⟩
abbrev cX9_top : ByteArray := prog_11_method_5_code
def yX9_top : MethodName := ⟨RX9, "top", "(I)I"⟩
abbrev cX9_record : ByteArray := prog_11_method_6_code
def yX9_record : MethodName := ⟨RX9, "record", "(I)I"⟩
abbrev cX9_field : ByteArray := prog_11_method_7_code
def yX9_field : MethodName := ⟨RX9, "field", "(II)I"⟩
abbrev cX9_sign : ByteArray := prog_11_method_8_code
def yX9_sign : MethodName := ⟨RX9, "sign", "(II)V"⟩
abbrev cX9_isDigit : ByteArray := prog_11_method_9_code
def yX9_isDigit : MethodName := ⟨RX9, "isDigit", "(I)Z"⟩
abbrev cX9_small : ByteArray := prog_11_method_10_code
def yX9_small : MethodName := ⟨RX9, "small", "(I)I"⟩
abbrev cX9_isWord : ByteArray := prog_11_method_11_code
def yX9_isWord : MethodName := ⟨RX9, "isWord", "(I)Z"⟩
abbrev cX9_at : ByteArray := prog_11_method_12_code
def yX9_at : MethodName := ⟨RX9, "at", "(II)I"⟩
abbrev cX9_words : ByteArray := prog_11_method_13_code
def yX9_words : MethodName := ⟨RX9, "words", "(I[I[I)I"⟩
abbrev cX9_sameWord : ByteArray := prog_11_method_14_code
def yX9_sameWord : MethodName := ⟨RX9, "sameWord", "(IIIIII)Z"⟩
abbrev cX9_number : ByteArray := prog_11_method_15_code
def yX9_number : MethodName := ⟨RX9, "number", "(I)I"⟩
abbrev cX9_form : ByteArray := prog_11_method_16_code
def yX9_form : MethodName := ⟨RX9, "form", "(I)J"⟩
abbrev cX9_isOf : ByteArray := prog_11_method_17_code
def yX9_isOf : MethodName := ⟨RX9, "isOf", "(II)Z"⟩
abbrev cX9_first : ByteArray := prog_11_method_18_code
def yX9_first : MethodName := ⟨RX9, "first", "(II)I"⟩
abbrev cX9_isbn : ByteArray := prog_11_method_19_code
def yX9_isbn : MethodName := ⟨RX9, "isbn", "(II)I"⟩
abbrev cX9_weight : ByteArray := prog_11_method_20_code
def yX9_weight : MethodName := ⟨RX9, "weight", "(IJJ)I"⟩
abbrev cX9_key : ByteArray := prog_11_method_21_code
def yX9_key : MethodName := ⟨RX9, "key", "(I)J"⟩
abbrev cX9_keysOf : ByteArray := prog_11_method_22_code
def yX9_keysOf : MethodName := ⟨RX9, "keysOf", "(I[J)I"⟩
abbrev cX9_has : ByteArray := prog_11_method_23_code
def yX9_has : MethodName := ⟨RX9, "has", "(IJ)Z"⟩
abbrev cX9_candidates : ByteArray := prog_11_method_24_code
def yX9_candidates : MethodName := ⟨RX9, "candidates", "(I)I"⟩
abbrev cX9_at_ : ByteArray := prog_11_method_25_code
def yX9_at_ : MethodName := ⟨RX9, "at", "(I)I"⟩
abbrev cX9_index : ByteArray := prog_11_method_26_code
def yX9_index : MethodName := ⟨RX9, "index", "(II)I"⟩
abbrev cX9_title : ByteArray := prog_11_method_27_code
def yX9_title : MethodName := ⟨RX9, "title", "(II)V"⟩
abbrev cX9_sameWords : ByteArray := prog_11_method_28_code
def yX9_sameWords : MethodName := ⟨RX9, "sameWords", "(II)Z"⟩
abbrev cX9_likeness : ByteArray := prog_11_method_29_code
def yX9_likeness : MethodName := ⟨RX9, "likeness", "(III)V"⟩
abbrev cX9_divisor : ByteArray := prog_11_method_30_code
def yX9_divisor : MethodName := ⟨RX9, "divisor", "(JJ)J"⟩
abbrev cX9_score : ByteArray := prog_11_method_31_code
def yX9_score : MethodName := ⟨RX9, "score", "(III)J"⟩
abbrev cX9_merge : ByteArray := prog_11_method_32_code
def yX9_merge : MethodName := ⟨RX9, "merge", "(II)I"⟩
abbrev cX9_undo : ByteArray := prog_11_method_33_code
def yX9_undo : MethodName := ⟨RX9, "undo", "(I)I"⟩
abbrev cX9_locked : ByteArray := prog_11_method_34_code
def yX9_locked : MethodName := ⟨RX9, "locked", "(IZ)I"⟩
abbrev cX9_beats : ByteArray := prog_11_method_35_code
def yX9_beats : MethodName := ⟨RX9, "beats", "(II)Z"⟩
abbrev cX9_winner : ByteArray := prog_11_method_36_code
def yX9_winner : MethodName := ⟨RX9, "winner", "(II)I"⟩
def RJx00060 : String := "java/lang/ArrayIndexOutOfBoundsException"
def TJx00060 : u_T := fun k => match k with
  | 0 => ("java/lang/Throwable", "cause", "Ljava/lang/Throwable;", false)
  | 1 => ("java/lang/Throwable", "stackTrace", "[Ljava/lang/StackTraceElement;", false)
  | 2 => ("java/lang/Throwable", "suppressedExceptions", "Ljava/util/List;", false)
  | 3 => ("java/lang/Throwable", "detailMessage", "Ljava/lang/String;", false)
  | 4 => ("java/lang/Throwable", "backtrace", "Ljava/lang/Object;", false)
  | _ => ("java/lang/Throwable", "depth", "I", false)
def tyJx00060 : Nat → FieldType := fun k => match k with
  | 0 => .object "java/lang/Throwable"
  | 1 => .array (.object "java/lang/StackTraceElement")
  | 2 => .object "java/util/List"
  | 3 => .object "java/lang/String"
  | 4 => .object "java/lang/Object"
  | _ => .int
abbrev wsJx000600 : List Cond := u_ws RJx00060 TJx00060 6
theorem nmJx00060 : ∀ a, a < 6 → ∀ b, b < 6 → a ≠ b → (TJx00060 a).2.1 ≠ (TJx00060 b).2.1 := by decide +kernel
theorem tyJx00060_ok : ∀ k, k < 6 → parseFieldDescriptor (TJx00060 k).2.2.1 = some (tyJx00060 k) := by decide +kernel
abbrev cJx00060_init_a7421 : ByteArray := prog_13_method_2_code
def yJx00060_init_a7421 : MethodName := ⟨RJx00060, "<init>", "(Ljava/lang/String;)V"⟩
def RJ9 : String := "java/lang/Math"
def TJ9 : u_T := fun k => match k with
  | _ => ("", "", "", false)
def tyJ9 : Nat → FieldType := fun k => match k with
  | _ => .int
abbrev wsJ90 : List Cond := u_ws RJ9 TJ9 0
theorem nmJ9 : ∀ a, a < 0 → ∀ b, b < 0 → a ≠ b → (TJ9 a).2.1 ≠ (TJ9 b).2.1 := by decide +kernel
theorem tyJ9_ok : ∀ k, k < 0 → parseFieldDescriptor (TJ9 k).2.2.1 = some (tyJ9 k) := by decide +kernel
abbrev cJ9_abs_0f7a4 : ByteArray := prog_16_method_59_code
def yJ9_abs_0f7a4 : MethodName := ⟨RJ9, "abs", "(I)I"⟩
abbrev cJ9_max_7cf53 : ByteArray := prog_16_method_65_code
def yJ9_max_7cf53 : MethodName := ⟨RJ9, "max", "(II)I"⟩
abbrev cJ9_max_f86c9 : ByteArray := prog_16_method_66_code
def yJ9_max_f86c9 : MethodName := ⟨RJ9, "max", "(JJ)J"⟩
abbrev cJ9_min_7cf53 : ByteArray := prog_16_method_69_code
def yJ9_min_7cf53 : MethodName := ⟨RJ9, "min", "(II)I"⟩
def RJ0 : String := "java/lang/String"
def TJ0 : u_T := fun k => match k with
  | _ => ("", "", "", false)
def tyJ0 : Nat → FieldType := fun k => match k with
  | _ => .int
abbrev wsJ00 : List Cond := u_ws RJ0 TJ0 0
theorem nmJ0 : ∀ a, a < 0 → ∀ b, b < 0 → a ≠ b → (TJ0 a).2.1 ≠ (TJ0 b).2.1 := by decide +kernel
theorem tyJ0_ok : ∀ k, k < 0 → parseFieldDescriptor (TJ0 k).2.2.1 = some (tyJ0 k) := by decide +kernel
def RL : String := "RecordMatchLaw"
abbrev cL_score : ByteArray := method_3_code
def yL_score : MethodName := ⟨RL, "score", "(LRecordMatch;III[J)I"⟩
abbrev cL_index : ByteArray := method_4_code
def yL_index : MethodName := ⟨RL, "index", "(LRecordMatch;II[J)I"⟩
abbrev cL_law : ByteArray := code
def yL_law : MethodName := ⟨RL, "law", "([I)Z"⟩
abbrev vwCl : List vw_C := [(RJx00060, TJx00060, 6), (RX0, TX0, 8), (RX1, TX1, 3), (RX2, TX2, 2), (RX3, TX3, 2), (RX4, TX4, 7), (RX6, TX6, 6), (RX7, TX7, 4), (RX8, TX8, 11), (RX9, TX9, 25)]
end
section
theorem wd_arr_boolean : Cond.arrayClass .boolean ∈ lw_tbl := by decide +kernel
theorem wd_arr_byte : Cond.arrayClass .byte ∈ lw_tbl := by decide +kernel
theorem wd_arr_char : Cond.arrayClass .char ∈ lw_tbl := by decide +kernel
theorem wd_arr_int : Cond.arrayClass .int ∈ lw_tbl := by decide +kernel
theorem wd_arr_long : Cond.arrayClass .long ∈ lw_tbl := by decide +kernel
theorem wd_c_RL_13 : Cond.classLink RL 13 "java/lang/ArithmeticException" ∈ lw_tbl := by decide +kernel
theorem wd_c_RL_22 : Cond.classLink RL 22 RX9 ∈ lw_tbl := by decide +kernel
theorem wd_c_RL_8 : Cond.classLink RL 8 RX8 ∈ lw_tbl := by decide +kernel
theorem wd_c_RX2_18 : Cond.classLink RX2 18 RX1 ∈ lw_tbl := by decide +kernel
theorem wd_c_RX2_9 : Cond.classLink RX2 9 RX7 ∈ lw_tbl := by decide +kernel
theorem wd_c_RX4_17 : Cond.classLink RX4 17 RX7 ∈ lw_tbl := by decide +kernel
theorem wd_c_RX4_27 : Cond.classLink RX4 27 RX1 ∈ lw_tbl := by decide +kernel
theorem wd_c_RX8_122 : Cond.classLink RX8 122 "java/lang/ArithmeticException" ∈ lw_tbl := by decide +kernel
theorem wd_c_RX8_13 : Cond.classLink RX8 13 RX2 ∈ lw_tbl := by decide +kernel
theorem wd_c_RX8_190 : Cond.classLink RX8 190 RJx00060 ∈ lw_tbl := by decide +kernel
theorem wd_c_RX8_20 : Cond.classLink RX8 20 RX3 ∈ lw_tbl := by decide +kernel
theorem wd_c_RX8_27 : Cond.classLink RX8 27 RX4 ∈ lw_tbl := by decide +kernel
theorem wd_c_RX8_38 : Cond.classLink RX8 38 RX0 ∈ lw_tbl := by decide +kernel
theorem wd_c_RX8_63 : Cond.classLink RX8 63 RX6 ∈ lw_tbl := by decide +kernel
theorem wd_code_Lib_Math_abs_name : Cond.code Lib.Math.abs.name Lib.Math.abs.code 1 (some .int) ∈ lw_tbl := by decide +kernel
theorem wd_code_Lib_Math_max_name : Cond.code Lib.Math.max.name Lib.Math.max.code 2 (some .int) ∈ lw_tbl := by decide +kernel
theorem wd_code_Lib_Math_min_name : Cond.code Lib.Math.min.name Lib.Math.min.code 2 (some .int) ∈ lw_tbl := by decide +kernel
theorem wd_code_Lib_MathLoose_max_long_x : Cond.code Lib.MathLoose.max_long.x Lib.MathLoose.max_long.code 4 (some .long) ∈ lw_tbl := by decide +kernel
theorem wd_code_objectInit : Cond.code objectInit ⟨#[0xb1]⟩ 1 none ∈ lw_tbl := by decide +kernel
theorem wd_code_yJ9_abs_0f7a4 : Cond.code yJ9_abs_0f7a4 cJ9_abs_0f7a4 1 (some .int) ∈ lw_tbl := by decide +kernel
theorem wd_code_yJ9_max_7cf53 : Cond.code yJ9_max_7cf53 cJ9_max_7cf53 2 (some .int) ∈ lw_tbl := by decide +kernel
theorem wd_code_yJ9_max_f86c9 : Cond.code yJ9_max_f86c9 cJ9_max_f86c9 4 (some .long) ∈ lw_tbl := by decide +kernel
theorem wd_code_yJ9_min_7cf53 : Cond.code yJ9_min_7cf53 cJ9_min_7cf53 2 (some .int) ∈ lw_tbl := by decide +kernel
theorem wd_code_yJx00060_init_a7421 : Cond.code yJx00060_init_a7421 cJx00060_init_a7421 2 none ∈ lw_tbl := by decide +kernel
theorem wd_code_yX0_giveBackLatest : Cond.code yX0_giveBackLatest cX0_giveBackLatest 2 (some .boolean) ∈ lw_tbl := by decide +kernel
theorem wd_code_yX0_init : Cond.code yX0_init cX0_init 3 none ∈ lw_tbl := by decide +kernel
theorem wd_code_yX0_leads : Cond.code yX0_leads cX0_leads 2 (some .boolean) ∈ lw_tbl := by decide +kernel
theorem wd_code_yX0_outermost : Cond.code yX0_outermost cX0_outermost 2 (some (.object "RecordMatch$Book")) ∈ lw_tbl := by decide +kernel
theorem wd_code_yX0_take : Cond.code yX0_take cX0_take 2 none ∈ lw_tbl := by decide +kernel
theorem wd_code_yX1_formOf : Cond.code yX1_formOf cX1_formOf 2 (some .long) ∈ lw_tbl := by decide +kernel
theorem wd_code_yX1_formOfLong : Cond.code yX1_formOfLong cX1_formOfLong 4 (some .long) ∈ lw_tbl := by decide +kernel
theorem wd_code_yX1_formOfShort : Cond.code yX1_formOfShort cX1_formOfShort 5 (some .long) ∈ lw_tbl := by decide +kernel
theorem wd_code_yX1_init : Cond.code yX1_init cX1_init 1 none ∈ lw_tbl := by decide +kernel
theorem wd_code_yX1_isLongRight : Cond.code yX1_isLongRight cX1_isLongRight 3 (some .boolean) ∈ lw_tbl := by decide +kernel
theorem wd_code_yX1_isShortRight : Cond.code yX1_isShortRight cX1_isShortRight 3 (some .boolean) ∈ lw_tbl := by decide +kernel
theorem wd_code_yX1_read : Cond.code yX1_read cX1_read 4 none ∈ lw_tbl := by decide +kernel
theorem wd_code_yX1_valueOf : Cond.code yX1_valueOf cX1_valueOf 2 (some .int) ∈ lw_tbl := by decide +kernel
theorem wd_code_yX2_init : Cond.code yX2_init cX2_init 1 none ∈ lw_tbl := by decide +kernel
theorem wd_code_yX2_isRightNumber : Cond.code yX2_isRightNumber cX2_isRightNumber 2 (some .boolean) ∈ lw_tbl := by decide +kernel
theorem wd_code_yX2_keyOf : Cond.code yX2_keyOf cX2_keyOf 4 (some .long) ∈ lw_tbl := by decide +kernel
theorem wd_code_yX3_add : Cond.code yX3_add cX3_add 3 none ∈ lw_tbl := by decide +kernel
theorem wd_code_yX3_clear : Cond.code yX3_clear cX3_clear 1 none ∈ lw_tbl := by decide +kernel
theorem wd_code_yX3_get : Cond.code yX3_get cX3_get 2 (some .long) ∈ lw_tbl := by decide +kernel
theorem wd_code_yX3_has : Cond.code yX3_has cX3_has 2 (some .boolean) ∈ lw_tbl := by decide +kernel
theorem wd_code_yX3_holds : Cond.code yX3_holds cX3_holds 4 (some .boolean) ∈ lw_tbl := by decide +kernel
theorem wd_code_yX3_init : Cond.code yX3_init cX3_init 1 none ∈ lw_tbl := by decide +kernel
theorem wd_code_yX4_above : Cond.code yX4_above cX4_above 1 (some .long) ∈ lw_tbl := by decide +kernel
theorem wd_code_yX4_add : Cond.code yX4_add cX4_add 4 none ∈ lw_tbl := by decide +kernel
theorem wd_code_yX4_below : Cond.code yX4_below cX4_below 1 (some .long) ∈ lw_tbl := by decide +kernel
theorem wd_code_yX4_clear : Cond.code yX4_clear cX4_clear 1 none ∈ lw_tbl := by decide +kernel
theorem wd_code_yX4_commonDivisor : Cond.code yX4_commonDivisor cX4_commonDivisor 8 (some .long) ∈ lw_tbl := by decide +kernel
theorem wd_code_yX4_compare : Cond.code yX4_compare cX4_compare 4 none ∈ lw_tbl := by decide +kernel
theorem wd_code_yX4_compareBookNumbers : Cond.code yX4_compareBookNumbers cX4_compareBookNumbers 6 none ∈ lw_tbl := by decide +kernel
theorem wd_code_yX4_comparePages : Cond.code yX4_comparePages cX4_comparePages 3 none ∈ lw_tbl := by decide +kernel
theorem wd_code_yX4_comparePublishers : Cond.code yX4_comparePublishers cX4_comparePublishers 3 none ∈ lw_tbl := by decide +kernel
theorem wd_code_yX4_compareTitles : Cond.code yX4_compareTitles cX4_compareTitles 5 none ∈ lw_tbl := by decide +kernel
theorem wd_code_yX4_compareYears : Cond.code yX4_compareYears cX4_compareYears 4 none ∈ lw_tbl := by decide +kernel
theorem wd_code_yX4_hasWeight : Cond.code yX4_hasWeight cX4_hasWeight 1 (some .boolean) ∈ lw_tbl := by decide +kernel
theorem wd_code_yX4_init : Cond.code yX4_init cX4_init 2 none ∈ lw_tbl := by decide +kernel
theorem wd_code_yX4_weigh : Cond.code yX4_weigh cX4_weigh 6 none ∈ lw_tbl := by decide +kernel
theorem wd_code_yX5_inWord : Cond.code yX5_inWord cX5_inWord 1 (some .char) ∈ lw_tbl := by decide +kernel
theorem wd_code_yX5_isCross : Cond.code yX5_isCross cX5_isCross 1 (some .boolean) ∈ lw_tbl := by decide +kernel
theorem wd_code_yX5_isDigit : Cond.code yX5_isDigit cX5_isDigit 1 (some .boolean) ∈ lw_tbl := by decide +kernel
theorem wd_code_yX6_append : Cond.code yX6_append cX6_append 2 none ∈ lw_tbl := by decide +kernel
theorem wd_code_yX6_beats : Cond.code yX6_beats cX6_beats 2 (some .boolean) ∈ lw_tbl := by decide +kernel
theorem wd_code_yX6_init : Cond.code yX6_init cX6_init 4 none ∈ lw_tbl := by decide +kernel
theorem wd_code_yX6_isOf : Cond.code yX6_isOf cX6_isOf 2 (some .boolean) ∈ lw_tbl := by decide +kernel
theorem wd_code_yX6_lastFourDigits : Cond.code yX6_lastFourDigits cX6_lastFourDigits 3 (some .int) ∈ lw_tbl := by decide +kernel
theorem wd_code_yX7_countDifferent : Cond.code yX7_countDifferent cX7_countDifferent 3 (some .int) ∈ lw_tbl := by decide +kernel
theorem wd_code_yX7_countDifferentIn : Cond.code yX7_countDifferentIn cX7_countDifferentIn 4 (some .int) ∈ lw_tbl := by decide +kernel
theorem wd_code_yX7_hasAmongFirst : Cond.code yX7_hasAmongFirst cX7_hasAmongFirst 5 (some .boolean) ∈ lw_tbl := by decide +kernel
theorem wd_code_yX7_init : Cond.code yX7_init cX7_init 1 none ∈ lw_tbl := by decide +kernel
theorem wd_code_yX7_packed : Cond.code yX7_packed cX7_packed 4 (some .int) ∈ lw_tbl := by decide +kernel
theorem wd_code_yX7_read : Cond.code yX7_read cX7_read 4 none ∈ lw_tbl := by decide +kernel
theorem wd_code_yX7_sameRow : Cond.code yX7_sameRow cX7_sameRow 3 (some .boolean) ∈ lw_tbl := by decide +kernel
theorem wd_code_yX7_sameWord : Cond.code yX7_sameWord cX7_sameWord 5 (some .boolean) ∈ lw_tbl := by decide +kernel
theorem wd_code_yX7_startOfFirstLong : Cond.code yX7_startOfFirstLong cX7_startOfFirstLong 2 (some .int) ∈ lw_tbl := by decide +kernel
theorem wd_code_yX8_at : Cond.code yX8_at cX8_at 2 (some .int) ∈ lw_tbl := by decide +kernel
theorem wd_code_yX8_bookOf : Cond.code yX8_bookOf cX8_bookOf 3 (some (.object "RecordMatch$Book")) ∈ lw_tbl := by decide +kernel
theorem wd_code_yX8_candidates : Cond.code yX8_candidates cX8_candidates 4 (some .int) ∈ lw_tbl := by decide +kernel
theorem wd_code_yX8_clearMarks : Cond.code yX8_clearMarks cX8_clearMarks 2 none ∈ lw_tbl := by decide +kernel
theorem wd_code_yX8_collectKeys : Cond.code yX8_collectKeys cX8_collectKeys 3 none ∈ lw_tbl := by decide +kernel
theorem wd_code_yX8_countHolders : Cond.code yX8_countHolders cX8_countHolders 6 (some .int) ∈ lw_tbl := by decide +kernel
theorem wd_code_yX8_field : Cond.code yX8_field cX8_field 5 (some .int) ∈ lw_tbl := by decide +kernel
theorem wd_code_yX8_firstTextOf : Cond.code yX8_firstTextOf cX8_firstTextOf 4 (some (.object "RecordMatch$Text")) ∈ lw_tbl := by decide +kernel
theorem wd_code_yX8_index : Cond.code yX8_index cX8_index 4 (some .int) ∈ lw_tbl := by decide +kernel
theorem wd_code_yX8_init : Cond.code yX8_init cX8_init 1 none ∈ lw_tbl := by decide +kernel
theorem wd_code_yX8_isbn : Cond.code yX8_isbn cX8_isbn 6 (some .int) ∈ lw_tbl := by decide +kernel
theorem wd_code_yX8_listMarked : Cond.code yX8_listMarked cX8_listMarked 2 none ∈ lw_tbl := by decide +kernel
theorem wd_code_yX8_locked : Cond.code yX8_locked cX8_locked 5 (some .int) ∈ lw_tbl := by decide +kernel
theorem wd_code_yX8_merge : Cond.code yX8_merge cX8_merge 5 (some .int) ∈ lw_tbl := by decide +kernel
theorem wd_code_yX8_record : Cond.code yX8_record cX8_record 3 (some .int) ∈ lw_tbl := by decide +kernel
theorem wd_code_yX8_score : Cond.code yX8_score cX8_score 7 (some .long) ∈ lw_tbl := by decide +kernel
theorem wd_code_yX8_sign : Cond.code yX8_sign cX8_sign 4 none ∈ lw_tbl := by decide +kernel
theorem wd_code_yX8_standingBook : Cond.code yX8_standingBook cX8_standingBook 3 (some (.object "RecordMatch$Book")) ∈ lw_tbl := by decide +kernel
theorem wd_code_yX8_textOf : Cond.code yX8_textOf cX8_textOf 3 (some (.object "RecordMatch$Text")) ∈ lw_tbl := by decide +kernel
theorem wd_code_yX8_undo : Cond.code yX8_undo cX8_undo 3 (some .int) ∈ lw_tbl := by decide +kernel
theorem wd_code_yX8_weight : Cond.code yX8_weight cX8_weight 6 (some .int) ∈ lw_tbl := by decide +kernel
theorem wd_code_yX8_winner : Cond.code yX8_winner cX8_winner 7 (some .int) ∈ lw_tbl := by decide +kernel
theorem wd_code_yX9_at : Cond.code yX9_at cX9_at 3 (some .int) ∈ lw_tbl := by decide +kernel
theorem wd_code_yX9_at_ : Cond.code yX9_at_ cX9_at_ 2 (some .int) ∈ lw_tbl := by decide +kernel
theorem wd_code_yX9_beats : Cond.code yX9_beats cX9_beats 5 (some .boolean) ∈ lw_tbl := by decide +kernel
theorem wd_code_yX9_candidates : Cond.code yX9_candidates cX9_candidates 5 (some .int) ∈ lw_tbl := by decide +kernel
theorem wd_code_yX9_divisor : Cond.code yX9_divisor cX9_divisor 10 (some .long) ∈ lw_tbl := by decide +kernel
theorem wd_code_yX9_field : Cond.code yX9_field cX9_field 3 (some .int) ∈ lw_tbl := by decide +kernel
theorem wd_code_yX9_first : Cond.code yX9_first cX9_first 4 (some .int) ∈ lw_tbl := by decide +kernel
theorem wd_code_yX9_form : Cond.code yX9_form cX9_form 16 (some .long) ∈ lw_tbl := by decide +kernel
theorem wd_code_yX9_has : Cond.code yX9_has cX9_has 7 (some .boolean) ∈ lw_tbl := by decide +kernel
theorem wd_code_yX9_index : Cond.code yX9_index cX9_index 6 (some .int) ∈ lw_tbl := by decide +kernel
theorem wd_code_yX9_init : Cond.code yX9_init cX9_init 1 none ∈ lw_tbl := by decide +kernel
theorem wd_code_yX9_isDigit : Cond.code yX9_isDigit cX9_isDigit 1 (some .boolean) ∈ lw_tbl := by decide +kernel
theorem wd_code_yX9_isOf : Cond.code yX9_isOf cX9_isOf 3 (some .boolean) ∈ lw_tbl := by decide +kernel
theorem wd_code_yX9_isRecord : Cond.code yX9_isRecord cX9_isRecord 2 (some .boolean) ∈ lw_tbl := by decide +kernel
theorem wd_code_yX9_isTop : Cond.code yX9_isTop cX9_isTop 2 (some .boolean) ∈ lw_tbl := by decide +kernel
theorem wd_code_yX9_isWord : Cond.code yX9_isWord cX9_isWord 1 (some .boolean) ∈ lw_tbl := by decide +kernel
theorem wd_code_yX9_isbn : Cond.code yX9_isbn cX9_isbn 5 (some .int) ∈ lw_tbl := by decide +kernel
theorem wd_code_yX9_key : Cond.code yX9_key cX9_key 7 (some .long) ∈ lw_tbl := by decide +kernel
theorem wd_code_yX9_keysOf : Cond.code yX9_keysOf cX9_keysOf 9 (some .int) ∈ lw_tbl := by decide +kernel
theorem wd_code_yX9_likeness : Cond.code yX9_likeness cX9_likeness 6 none ∈ lw_tbl := by decide +kernel
theorem wd_code_yX9_locked : Cond.code yX9_locked cX9_locked 4 (some .int) ∈ lw_tbl := by decide +kernel
theorem wd_code_yX9_merge : Cond.code yX9_merge cX9_merge 6 (some .int) ∈ lw_tbl := by decide +kernel
theorem wd_code_yX9_number : Cond.code yX9_number cX9_number 4 (some .int) ∈ lw_tbl := by decide +kernel
theorem wd_code_yX9_record : Cond.code yX9_record cX9_record 2 (some .int) ∈ lw_tbl := by decide +kernel
theorem wd_code_yX9_sameWord : Cond.code yX9_sameWord cX9_sameWord 9 (some .boolean) ∈ lw_tbl := by decide +kernel
theorem wd_code_yX9_sameWords : Cond.code yX9_sameWords cX9_sameWords 7 (some .boolean) ∈ lw_tbl := by decide +kernel
theorem wd_code_yX9_score : Cond.code yX9_score cX9_score 15 (some .long) ∈ lw_tbl := by decide +kernel
theorem wd_code_yX9_sign : Cond.code yX9_sign cX9_sign 3 none ∈ lw_tbl := by decide +kernel
theorem wd_code_yX9_small : Cond.code yX9_small cX9_small 1 (some .int) ∈ lw_tbl := by decide +kernel
theorem wd_code_yX9_thrown : Cond.code yX9_thrown cX9_thrown 1 (some .int) ∈ lw_tbl := by decide +kernel
theorem wd_code_yX9_title : Cond.code yX9_title cX9_title 11 none ∈ lw_tbl := by decide +kernel
theorem wd_code_yX9_top : Cond.code yX9_top cX9_top 3 (some .int) ∈ lw_tbl := by decide +kernel
theorem wd_code_yX9_undo : Cond.code yX9_undo cX9_undo 4 (some .int) ∈ lw_tbl := by decide +kernel
theorem wd_code_yX9_weight : Cond.code yX9_weight cX9_weight 6 (some .int) ∈ lw_tbl := by decide +kernel
theorem wd_code_yX9_winner : Cond.code yX9_winner cX9_winner 5 (some .int) ∈ lw_tbl := by decide +kernel
theorem wd_code_yX9_words : Cond.code yX9_words cX9_words 7 (some .int) ∈ lw_tbl := by decide +kernel
theorem wd_codew_yL_index : Cond.codeWith yL_index cL_index 5 (some .int) [(0, 10, 13, 19)] ∈ lw_tbl := by decide +kernel
theorem wd_codew_yL_score : Cond.codeWith yL_score cL_score 6 (some .int) [(0, 11, 14, 13)] ∈ lw_tbl := by decide +kernel
theorem wd_k_RL_43 : Cond.constantLong RL 43 (4294967295) ∈ lw_tbl := by decide +kernel
theorem wd_k_RX1_41 : Cond.constantLong RX1 41 (-1) ∈ lw_tbl := by decide +kernel
theorem wd_k_RX1_65 : Cond.constantLong RX1 65 (978) ∈ lw_tbl := by decide +kernel
theorem wd_k_RX1_67 : Cond.constantLong RX1 67 (10) ∈ lw_tbl := by decide +kernel
theorem wd_k_RX2_29 : Cond.constantLong RX2 29 (-1) ∈ lw_tbl := by decide +kernel
theorem wd_k_RX4_100 : Cond.constantLong RX4 100 (-1) ∈ lw_tbl := by decide +kernel
theorem wd_k_RX4_15 : Cond.constantLong RX4 15 (2520) ∈ lw_tbl := by decide +kernel
theorem wd_k_RX8_105 : Cond.constantLong RX8 105 (-1) ∈ lw_tbl := by decide +kernel
theorem wd_k_RX8_97 : Cond.constantLong RX8 97 (100) ∈ lw_tbl := by decide +kernel
theorem wd_k_RX8_99 : Cond.constantLong RX8 99 (10) ∈ lw_tbl := by decide +kernel
theorem wd_k_RX9_112 : Cond.constantLong RX9 112 (100) ∈ lw_tbl := by decide +kernel
theorem wd_k_RX9_118 : Cond.constantLong RX9 118 (256) ∈ lw_tbl := by decide +kernel
theorem wd_k_RX9_120 : Cond.constantLong RX9 120 (1125899906842624) ∈ lw_tbl := by decide +kernel
theorem wd_k_RX9_157 : Cond.constantLong RX9 157 (2) ∈ lw_tbl := by decide +kernel
theorem wd_k_RX9_169 : Cond.constantLong RX9 169 (2520) ∈ lw_tbl := by decide +kernel
theorem wd_k_RX9_95 : Cond.constantLong RX9 95 (10) ∈ lw_tbl := by decide +kernel
theorem wd_k_RX9_97 : Cond.constantLong RX9 97 (978000000000) ∈ lw_tbl := by decide +kernel
theorem wd_k_RX9_99 : Cond.constantLong RX9 99 (-1) ∈ lw_tbl := by decide +kernel
theorem wd_f_RX0_13 : Cond.fieldLink RX0 13 "RecordMatch$Book" "rank" "I" ∈ lw_tbl := by decide +kernel
theorem wd_f_RX0_16 : Cond.fieldLink RX0 16 "RecordMatch$Book" "host" "LRecordMatch$Book;" ∈ lw_tbl := by decide +kernel
theorem wd_f_RX0_20 : Cond.fieldLink RX0 20 "RecordMatch$Book" "latest" "LRecordMatch$Book;" ∈ lw_tbl := by decide +kernel
theorem wd_f_RX0_23 : Cond.fieldLink RX0 23 "RecordMatch$Book" "earlier" "LRecordMatch$Book;" ∈ lw_tbl := by decide +kernel
theorem wd_f_RX0_7 : Cond.fieldLink RX0 7 "RecordMatch$Book" "number" "I" ∈ lw_tbl := by decide +kernel
theorem wd_f_RX1_11 : Cond.fieldLink RX1 11 "RecordMatch$BookNumber" "values" "[I" ∈ lw_tbl := by decide +kernel
theorem wd_f_RX1_19 : Cond.fieldLink RX1 19 "RecordMatch$BookNumber" "count" "I" ∈ lw_tbl := by decide +kernel
theorem wd_f_RX1_31 : Cond.fieldLink RX1 31 "RecordMatch$BookNumber" "crossed" "Z" ∈ lw_tbl := by decide +kernel
theorem wd_f_RX1_43 : Cond.fieldLink RX1 43 "RecordMatch$Text" "length" "I" ∈ lw_tbl := by decide +kernel
theorem wd_f_RX1_48 : Cond.fieldLink RX1 48 "RecordMatch$Text" "signs" "[C" ∈ lw_tbl := by decide +kernel
theorem wd_f_RX2_12 : Cond.fieldLink RX2 12 "RecordMatch$KeyReader" "words" "LRecordMatch$Words;" ∈ lw_tbl := by decide +kernel
theorem wd_f_RX2_21 : Cond.fieldLink RX2 21 "RecordMatch$KeyReader" "bookNumber" "LRecordMatch$BookNumber;" ∈ lw_tbl := by decide +kernel
theorem wd_f_RX2_31 : Cond.fieldLink RX2 31 "RecordMatch$Text" "tag" "I" ∈ lw_tbl := by decide +kernel
theorem wd_f_RX3_15 : Cond.fieldLink RX3 15 "RecordMatch$KeyRow" "count" "I" ∈ lw_tbl := by decide +kernel
theorem wd_f_RX3_9 : Cond.fieldLink RX3 9 "RecordMatch$KeyRow" "row" "[J" ∈ lw_tbl := by decide +kernel
theorem wd_f_RX4_20 : Cond.fieldLink RX4 20 "RecordMatch$Likeness" "words" "LRecordMatch$Words;" ∈ lw_tbl := by decide +kernel
theorem wd_f_RX4_24 : Cond.fieldLink RX4 24 "RecordMatch$Likeness" "otherWords" "LRecordMatch$Words;" ∈ lw_tbl := by decide +kernel
theorem wd_f_RX4_30 : Cond.fieldLink RX4 30 "RecordMatch$Likeness" "bookNumber" "LRecordMatch$BookNumber;" ∈ lw_tbl := by decide +kernel
theorem wd_f_RX4_34 : Cond.fieldLink RX4 34 "RecordMatch$Likeness" "sumAbove" "J" ∈ lw_tbl := by decide +kernel
theorem wd_f_RX4_38 : Cond.fieldLink RX4 38 "RecordMatch$Likeness" "sumBelow" "J" ∈ lw_tbl := by decide +kernel
theorem wd_f_RX4_41 : Cond.fieldLink RX4 41 "RecordMatch$Likeness" "weightSum" "J" ∈ lw_tbl := by decide +kernel
theorem wd_f_RX4_9 : Cond.fieldLink RX4 9 "RecordMatch$Likeness" "weights" "[J" ∈ lw_tbl := by decide +kernel
theorem wd_f_RX6_15 : Cond.fieldLink RX6 15 "RecordMatch$Text" "tag" "I" ∈ lw_tbl := by decide +kernel
theorem wd_f_RX6_18 : Cond.fieldLink RX6 18 "RecordMatch$Text" "owner" "LRecordMatch$Book;" ∈ lw_tbl := by decide +kernel
theorem wd_f_RX6_22 : Cond.fieldLink RX6 22 "RecordMatch$Text" "signs" "[C" ∈ lw_tbl := by decide +kernel
theorem wd_f_RX6_26 : Cond.fieldLink RX6 26 "RecordMatch$Text" "length" "I" ∈ lw_tbl := by decide +kernel
theorem wd_f_RX6_35 : Cond.fieldLink RX6 35 "RecordMatch$Book" "rank" "I" ∈ lw_tbl := by decide +kernel
theorem wd_f_RX6_9 : Cond.fieldLink RX6 9 "RecordMatch$Text" "number" "I" ∈ lw_tbl := by decide +kernel
theorem wd_f_RX7_15 : Cond.fieldLink RX7 15 "RecordMatch$Words" "starts" "[I" ∈ lw_tbl := by decide +kernel
theorem wd_f_RX7_19 : Cond.fieldLink RX7 19 "RecordMatch$Words" "lengths" "[I" ∈ lw_tbl := by decide +kernel
theorem wd_f_RX7_22 : Cond.fieldLink RX7 22 "RecordMatch$Words" "count" "I" ∈ lw_tbl := by decide +kernel
theorem wd_f_RX7_26 : Cond.fieldLink RX7 26 "RecordMatch$Text" "length" "I" ∈ lw_tbl := by decide +kernel
theorem wd_f_RX7_31 : Cond.fieldLink RX7 31 "RecordMatch$Text" "signs" "[C" ∈ lw_tbl := by decide +kernel
theorem wd_f_RX7_9 : Cond.fieldLink RX7 9 "RecordMatch$Words" "signs" "[C" ∈ lw_tbl := by decide +kernel
theorem wd_f_RX8_151 : Cond.fieldLink RX8 151 "RecordMatch$Text" "owner" "LRecordMatch$Book;" ∈ lw_tbl := by decide +kernel
theorem wd_f_RX8_158 : Cond.fieldLink RX8 158 "RecordMatch$Book" "marked" "Z" ∈ lw_tbl := by decide +kernel
theorem wd_f_RX8_16 : Cond.fieldLink RX8 16 "RecordMatch" "keyReader" "LRecordMatch$KeyReader;" ∈ lw_tbl := by decide +kernel
theorem wd_f_RX8_165 : Cond.fieldLink RX8 165 "RecordMatch" "foundCount" "I" ∈ lw_tbl := by decide +kernel
theorem wd_f_RX8_168 : Cond.fieldLink RX8 168 "RecordMatch$Book" "isLocked" "Z" ∈ lw_tbl := by decide +kernel
theorem wd_f_RX8_203 : Cond.fieldLink RX8 203 "RecordMatch$Book" "host" "LRecordMatch$Book;" ∈ lw_tbl := by decide +kernel
theorem wd_f_RX8_23 : Cond.fieldLink RX8 23 "RecordMatch" "keys" "LRecordMatch$KeyRow;" ∈ lw_tbl := by decide +kernel
theorem wd_f_RX8_30 : Cond.fieldLink RX8 30 "RecordMatch" "likeness" "LRecordMatch$Likeness;" ∈ lw_tbl := by decide +kernel
theorem wd_f_RX8_34 : Cond.fieldLink RX8 34 "RecordMatch" "bookCount" "I" ∈ lw_tbl := by decide +kernel
theorem wd_f_RX8_43 : Cond.fieldLink RX8 43 "RecordMatch" "lastBook" "LRecordMatch$Book;" ∈ lw_tbl := by decide +kernel
theorem wd_f_RX8_47 : Cond.fieldLink RX8 47 "RecordMatch" "firstBook" "LRecordMatch$Book;" ∈ lw_tbl := by decide +kernel
theorem wd_f_RX8_50 : Cond.fieldLink RX8 50 "RecordMatch$Book" "next" "LRecordMatch$Book;" ∈ lw_tbl := by decide +kernel
theorem wd_f_RX8_53 : Cond.fieldLink RX8 53 "RecordMatch$Book" "number" "I" ∈ lw_tbl := by decide +kernel
theorem wd_f_RX8_60 : Cond.fieldLink RX8 60 "RecordMatch" "textCount" "I" ∈ lw_tbl := by decide +kernel
theorem wd_f_RX8_68 : Cond.fieldLink RX8 68 "RecordMatch" "lastText" "LRecordMatch$Text;" ∈ lw_tbl := by decide +kernel
theorem wd_f_RX8_72 : Cond.fieldLink RX8 72 "RecordMatch" "firstText" "LRecordMatch$Text;" ∈ lw_tbl := by decide +kernel
theorem wd_f_RX8_75 : Cond.fieldLink RX8 75 "RecordMatch$Text" "next" "LRecordMatch$Text;" ∈ lw_tbl := by decide +kernel
theorem wd_f_RX8_77 : Cond.fieldLink RX8 77 "RecordMatch$Text" "number" "I" ∈ lw_tbl := by decide +kernel
theorem wd_f_RX8_86 : Cond.fieldLink RX8 86 "RecordMatch$Text" "tag" "I" ∈ lw_tbl := by decide +kernel
theorem wd_f_RX8_9 : Cond.fieldLink RX8 9 "RecordMatch" "found" "[I" ∈ lw_tbl := by decide +kernel
theorem wd_f_RX9_129 : Cond.fieldLink RX9 129 "RecordMatchModel" "foundCount" "I" ∈ lw_tbl := by decide +kernel
theorem wd_f_RX9_13 : Cond.fieldLink RX9 13 "RecordMatchModel" "locks" "[Z" ∈ lw_tbl := by decide +kernel
theorem wd_f_RX9_132 : Cond.fieldLink RX9 132 "RecordMatchModel" "keyCount" "I" ∈ lw_tbl := by decide +kernel
theorem wd_f_RX9_143 : Cond.fieldLink RX9 143 "RecordMatchModel" "partUp" "J" ∈ lw_tbl := by decide +kernel
theorem wd_f_RX9_147 : Cond.fieldLink RX9 147 "RecordMatchModel" "partDown" "J" ∈ lw_tbl := by decide +kernel
theorem wd_f_RX9_17 : Cond.fieldLink RX9 17 "RecordMatchModel" "in" "[I" ∈ lw_tbl := by decide +kernel
theorem wd_f_RX9_175 : Cond.fieldLink RX9 175 "RecordMatchModel" "merges" "I" ∈ lw_tbl := by decide +kernel
theorem wd_f_RX9_20 : Cond.fieldLink RX9 20 "RecordMatchModel" "when" "[I" ∈ lw_tbl := by decide +kernel
theorem wd_f_RX9_23 : Cond.fieldLink RX9 23 "RecordMatchModel" "fieldRecord" "[I" ∈ lw_tbl := by decide +kernel
theorem wd_f_RX9_26 : Cond.fieldLink RX9 26 "RecordMatchModel" "fieldTag" "[I" ∈ lw_tbl := by decide +kernel
theorem wd_f_RX9_29 : Cond.fieldLink RX9 29 "RecordMatchModel" "signs" "[B" ∈ lw_tbl := by decide +kernel
theorem wd_f_RX9_33 : Cond.fieldLink RX9 33 "RecordMatchModel" "sizes" "[I" ∈ lw_tbl := by decide +kernel
theorem wd_f_RX9_36 : Cond.fieldLink RX9 36 "RecordMatchModel" "ups" "[I" ∈ lw_tbl := by decide +kernel
theorem wd_f_RX9_39 : Cond.fieldLink RX9 39 "RecordMatchModel" "downs" "[I" ∈ lw_tbl := by decide +kernel
theorem wd_f_RX9_42 : Cond.fieldLink RX9 42 "RecordMatchModel" "found" "[I" ∈ lw_tbl := by decide +kernel
theorem wd_f_RX9_45 : Cond.fieldLink RX9 45 "RecordMatchModel" "keys" "[J" ∈ lw_tbl := by decide +kernel
theorem wd_f_RX9_49 : Cond.fieldLink RX9 49 "RecordMatchModel" "keys2" "[J" ∈ lw_tbl := by decide +kernel
theorem wd_f_RX9_52 : Cond.fieldLink RX9 52 "RecordMatchModel" "wordAt" "[I" ∈ lw_tbl := by decide +kernel
theorem wd_f_RX9_55 : Cond.fieldLink RX9 55 "RecordMatchModel" "wordSize" "[I" ∈ lw_tbl := by decide +kernel
theorem wd_f_RX9_58 : Cond.fieldLink RX9 58 "RecordMatchModel" "wordAt2" "[I" ∈ lw_tbl := by decide +kernel
theorem wd_f_RX9_61 : Cond.fieldLink RX9 61 "RecordMatchModel" "wordSize2" "[I" ∈ lw_tbl := by decide +kernel
theorem wd_f_RX9_64 : Cond.fieldLink RX9 64 "RecordMatchModel" "thrown" "I" ∈ lw_tbl := by decide +kernel
theorem wd_f_RX9_68 : Cond.fieldLink RX9 68 "RecordMatchModel" "records" "I" ∈ lw_tbl := by decide +kernel
theorem wd_f_RX9_7 : Cond.fieldLink RX9 7 "RecordMatchModel" "rank" "[I" ∈ lw_tbl := by decide +kernel
theorem wd_f_RX9_78 : Cond.fieldLink RX9 78 "RecordMatchModel" "fields" "I" ∈ lw_tbl := by decide +kernel
theorem wd_init_java_lang_ArithmeticException : Cond.initialized "java/lang/ArithmeticException" ∈ lw_tbl := by decide +kernel
theorem wd_init_java_lang_Math : Cond.initialized "java/lang/Math" ∈ lw_tbl := by decide +kernel
theorem wd_init_RJx00060 : Cond.initialized RJx00060 ∈ lw_tbl := by decide +kernel
theorem wd_init_RL : Cond.initialized RL ∈ lw_tbl := by decide +kernel
theorem wd_init_RX0 : Cond.initialized RX0 ∈ lw_tbl := by decide +kernel
theorem wd_init_RX1 : Cond.initialized RX1 ∈ lw_tbl := by decide +kernel
theorem wd_init_RX2 : Cond.initialized RX2 ∈ lw_tbl := by decide +kernel
theorem wd_init_RX3 : Cond.initialized RX3 ∈ lw_tbl := by decide +kernel
theorem wd_init_RX4 : Cond.initialized RX4 ∈ lw_tbl := by decide +kernel
theorem wd_init_RX5 : Cond.initialized RX5 ∈ lw_tbl := by decide +kernel
theorem wd_init_RX6 : Cond.initialized RX6 ∈ lw_tbl := by decide +kernel
theorem wd_init_RX7 : Cond.initialized RX7 ∈ lw_tbl := by decide +kernel
theorem wd_init_RX8 : Cond.initialized RX8 ∈ lw_tbl := by decide +kernel
theorem wd_init_RX9 : Cond.initialized RX9 ∈ lw_tbl := by decide +kernel
theorem wd_i_objectInit : Cond.instanceMethod objectInit ∈ lw_tbl := by decide +kernel
theorem wd_i_yX0_giveBackLatest : Cond.instanceMethod yX0_giveBackLatest ∈ lw_tbl := by decide +kernel
theorem wd_i_yX0_init : Cond.instanceMethod yX0_init ∈ lw_tbl := by decide +kernel
theorem wd_i_yX0_leads : Cond.instanceMethod yX0_leads ∈ lw_tbl := by decide +kernel
theorem wd_i_yX0_outermost : Cond.instanceMethod yX0_outermost ∈ lw_tbl := by decide +kernel
theorem wd_i_yX0_take : Cond.instanceMethod yX0_take ∈ lw_tbl := by decide +kernel
theorem wd_i_yX1_formOf : Cond.instanceMethod yX1_formOf ∈ lw_tbl := by decide +kernel
theorem wd_i_yX1_formOfLong : Cond.instanceMethod yX1_formOfLong ∈ lw_tbl := by decide +kernel
theorem wd_i_yX1_formOfShort : Cond.instanceMethod yX1_formOfShort ∈ lw_tbl := by decide +kernel
theorem wd_i_yX1_init : Cond.instanceMethod yX1_init ∈ lw_tbl := by decide +kernel
theorem wd_i_yX1_isLongRight : Cond.instanceMethod yX1_isLongRight ∈ lw_tbl := by decide +kernel
theorem wd_i_yX1_isShortRight : Cond.instanceMethod yX1_isShortRight ∈ lw_tbl := by decide +kernel
theorem wd_i_yX1_read : Cond.instanceMethod yX1_read ∈ lw_tbl := by decide +kernel
theorem wd_i_yX1_valueOf : Cond.instanceMethod yX1_valueOf ∈ lw_tbl := by decide +kernel
theorem wd_i_yX2_init : Cond.instanceMethod yX2_init ∈ lw_tbl := by decide +kernel
theorem wd_i_yX2_isRightNumber : Cond.instanceMethod yX2_isRightNumber ∈ lw_tbl := by decide +kernel
theorem wd_i_yX2_keyOf : Cond.instanceMethod yX2_keyOf ∈ lw_tbl := by decide +kernel
theorem wd_i_yX3_add : Cond.instanceMethod yX3_add ∈ lw_tbl := by decide +kernel
theorem wd_i_yX3_clear : Cond.instanceMethod yX3_clear ∈ lw_tbl := by decide +kernel
theorem wd_i_yX3_get : Cond.instanceMethod yX3_get ∈ lw_tbl := by decide +kernel
theorem wd_i_yX3_has : Cond.instanceMethod yX3_has ∈ lw_tbl := by decide +kernel
theorem wd_i_yX3_holds : Cond.instanceMethod yX3_holds ∈ lw_tbl := by decide +kernel
theorem wd_i_yX3_init : Cond.instanceMethod yX3_init ∈ lw_tbl := by decide +kernel
theorem wd_i_yX4_above : Cond.instanceMethod yX4_above ∈ lw_tbl := by decide +kernel
theorem wd_i_yX4_add : Cond.instanceMethod yX4_add ∈ lw_tbl := by decide +kernel
theorem wd_i_yX4_below : Cond.instanceMethod yX4_below ∈ lw_tbl := by decide +kernel
theorem wd_i_yX4_clear : Cond.instanceMethod yX4_clear ∈ lw_tbl := by decide +kernel
theorem wd_i_yX4_commonDivisor : Cond.instanceMethod yX4_commonDivisor ∈ lw_tbl := by decide +kernel
theorem wd_i_yX4_compare : Cond.instanceMethod yX4_compare ∈ lw_tbl := by decide +kernel
theorem wd_i_yX4_compareBookNumbers : Cond.instanceMethod yX4_compareBookNumbers ∈ lw_tbl := by decide +kernel
theorem wd_i_yX4_comparePages : Cond.instanceMethod yX4_comparePages ∈ lw_tbl := by decide +kernel
theorem wd_i_yX4_comparePublishers : Cond.instanceMethod yX4_comparePublishers ∈ lw_tbl := by decide +kernel
theorem wd_i_yX4_compareTitles : Cond.instanceMethod yX4_compareTitles ∈ lw_tbl := by decide +kernel
theorem wd_i_yX4_compareYears : Cond.instanceMethod yX4_compareYears ∈ lw_tbl := by decide +kernel
theorem wd_i_yX4_hasWeight : Cond.instanceMethod yX4_hasWeight ∈ lw_tbl := by decide +kernel
theorem wd_i_yX4_init : Cond.instanceMethod yX4_init ∈ lw_tbl := by decide +kernel
theorem wd_i_yX4_weigh : Cond.instanceMethod yX4_weigh ∈ lw_tbl := by decide +kernel
theorem wd_i_yX6_append : Cond.instanceMethod yX6_append ∈ lw_tbl := by decide +kernel
theorem wd_i_yX6_beats : Cond.instanceMethod yX6_beats ∈ lw_tbl := by decide +kernel
theorem wd_i_yX6_init : Cond.instanceMethod yX6_init ∈ lw_tbl := by decide +kernel
theorem wd_i_yX6_isOf : Cond.instanceMethod yX6_isOf ∈ lw_tbl := by decide +kernel
theorem wd_i_yX6_lastFourDigits : Cond.instanceMethod yX6_lastFourDigits ∈ lw_tbl := by decide +kernel
theorem wd_i_yX7_countDifferent : Cond.instanceMethod yX7_countDifferent ∈ lw_tbl := by decide +kernel
theorem wd_i_yX7_countDifferentIn : Cond.instanceMethod yX7_countDifferentIn ∈ lw_tbl := by decide +kernel
theorem wd_i_yX7_hasAmongFirst : Cond.instanceMethod yX7_hasAmongFirst ∈ lw_tbl := by decide +kernel
theorem wd_i_yX7_init : Cond.instanceMethod yX7_init ∈ lw_tbl := by decide +kernel
theorem wd_i_yX7_packed : Cond.instanceMethod yX7_packed ∈ lw_tbl := by decide +kernel
theorem wd_i_yX7_read : Cond.instanceMethod yX7_read ∈ lw_tbl := by decide +kernel
theorem wd_i_yX7_sameRow : Cond.instanceMethod yX7_sameRow ∈ lw_tbl := by decide +kernel
theorem wd_i_yX7_sameWord : Cond.instanceMethod yX7_sameWord ∈ lw_tbl := by decide +kernel
theorem wd_i_yX7_startOfFirstLong : Cond.instanceMethod yX7_startOfFirstLong ∈ lw_tbl := by decide +kernel
theorem wd_i_yX8_at : Cond.instanceMethod yX8_at ∈ lw_tbl := by decide +kernel
end
section
theorem wd_i_yX8_bookOf : Cond.instanceMethod yX8_bookOf ∈ lw_tbl := by decide +kernel
theorem wd_i_yX8_candidates : Cond.instanceMethod yX8_candidates ∈ lw_tbl := by decide +kernel
theorem wd_i_yX8_clearMarks : Cond.instanceMethod yX8_clearMarks ∈ lw_tbl := by decide +kernel
theorem wd_i_yX8_collectKeys : Cond.instanceMethod yX8_collectKeys ∈ lw_tbl := by decide +kernel
theorem wd_i_yX8_countHolders : Cond.instanceMethod yX8_countHolders ∈ lw_tbl := by decide +kernel
theorem wd_i_yX8_field : Cond.instanceMethod yX8_field ∈ lw_tbl := by decide +kernel
theorem wd_i_yX8_firstTextOf : Cond.instanceMethod yX8_firstTextOf ∈ lw_tbl := by decide +kernel
theorem wd_i_yX8_index : Cond.instanceMethod yX8_index ∈ lw_tbl := by decide +kernel
theorem wd_i_yX8_init : Cond.instanceMethod yX8_init ∈ lw_tbl := by decide +kernel
theorem wd_i_yX8_isbn : Cond.instanceMethod yX8_isbn ∈ lw_tbl := by decide +kernel
theorem wd_i_yX8_listMarked : Cond.instanceMethod yX8_listMarked ∈ lw_tbl := by decide +kernel
theorem wd_i_yX8_locked : Cond.instanceMethod yX8_locked ∈ lw_tbl := by decide +kernel
theorem wd_i_yX8_merge : Cond.instanceMethod yX8_merge ∈ lw_tbl := by decide +kernel
theorem wd_i_yX8_record : Cond.instanceMethod yX8_record ∈ lw_tbl := by decide +kernel
theorem wd_i_yX8_score : Cond.instanceMethod yX8_score ∈ lw_tbl := by decide +kernel
theorem wd_i_yX8_sign : Cond.instanceMethod yX8_sign ∈ lw_tbl := by decide +kernel
theorem wd_i_yX8_standingBook : Cond.instanceMethod yX8_standingBook ∈ lw_tbl := by decide +kernel
theorem wd_i_yX8_textOf : Cond.instanceMethod yX8_textOf ∈ lw_tbl := by decide +kernel
theorem wd_i_yX8_undo : Cond.instanceMethod yX8_undo ∈ lw_tbl := by decide +kernel
theorem wd_i_yX8_weight : Cond.instanceMethod yX8_weight ∈ lw_tbl := by decide +kernel
theorem wd_i_yX8_winner : Cond.instanceMethod yX8_winner ∈ lw_tbl := by decide +kernel
theorem wd_i_yX9_at : Cond.instanceMethod yX9_at ∈ lw_tbl := by decide +kernel
theorem wd_i_yX9_at_ : Cond.instanceMethod yX9_at_ ∈ lw_tbl := by decide +kernel
theorem wd_i_yX9_beats : Cond.instanceMethod yX9_beats ∈ lw_tbl := by decide +kernel
theorem wd_i_yX9_candidates : Cond.instanceMethod yX9_candidates ∈ lw_tbl := by decide +kernel
theorem wd_i_yX9_field : Cond.instanceMethod yX9_field ∈ lw_tbl := by decide +kernel
theorem wd_i_yX9_first : Cond.instanceMethod yX9_first ∈ lw_tbl := by decide +kernel
theorem wd_i_yX9_form : Cond.instanceMethod yX9_form ∈ lw_tbl := by decide +kernel
theorem wd_i_yX9_has : Cond.instanceMethod yX9_has ∈ lw_tbl := by decide +kernel
theorem wd_i_yX9_index : Cond.instanceMethod yX9_index ∈ lw_tbl := by decide +kernel
theorem wd_i_yX9_init : Cond.instanceMethod yX9_init ∈ lw_tbl := by decide +kernel
theorem wd_i_yX9_isOf : Cond.instanceMethod yX9_isOf ∈ lw_tbl := by decide +kernel
theorem wd_i_yX9_isRecord : Cond.instanceMethod yX9_isRecord ∈ lw_tbl := by decide +kernel
theorem wd_i_yX9_isTop : Cond.instanceMethod yX9_isTop ∈ lw_tbl := by decide +kernel
theorem wd_i_yX9_isbn : Cond.instanceMethod yX9_isbn ∈ lw_tbl := by decide +kernel
theorem wd_i_yX9_key : Cond.instanceMethod yX9_key ∈ lw_tbl := by decide +kernel
theorem wd_i_yX9_keysOf : Cond.instanceMethod yX9_keysOf ∈ lw_tbl := by decide +kernel
theorem wd_i_yX9_likeness : Cond.instanceMethod yX9_likeness ∈ lw_tbl := by decide +kernel
theorem wd_i_yX9_locked : Cond.instanceMethod yX9_locked ∈ lw_tbl := by decide +kernel
theorem wd_i_yX9_merge : Cond.instanceMethod yX9_merge ∈ lw_tbl := by decide +kernel
theorem wd_i_yX9_number : Cond.instanceMethod yX9_number ∈ lw_tbl := by decide +kernel
theorem wd_i_yX9_record : Cond.instanceMethod yX9_record ∈ lw_tbl := by decide +kernel
theorem wd_i_yX9_sameWord : Cond.instanceMethod yX9_sameWord ∈ lw_tbl := by decide +kernel
theorem wd_i_yX9_sameWords : Cond.instanceMethod yX9_sameWords ∈ lw_tbl := by decide +kernel
theorem wd_i_yX9_score : Cond.instanceMethod yX9_score ∈ lw_tbl := by decide +kernel
theorem wd_i_yX9_sign : Cond.instanceMethod yX9_sign ∈ lw_tbl := by decide +kernel
theorem wd_i_yX9_thrown : Cond.instanceMethod yX9_thrown ∈ lw_tbl := by decide +kernel
theorem wd_i_yX9_title : Cond.instanceMethod yX9_title ∈ lw_tbl := by decide +kernel
theorem wd_i_yX9_top : Cond.instanceMethod yX9_top ∈ lw_tbl := by decide +kernel
theorem wd_i_yX9_undo : Cond.instanceMethod yX9_undo ∈ lw_tbl := by decide +kernel
theorem wd_i_yX9_weight : Cond.instanceMethod yX9_weight ∈ lw_tbl := by decide +kernel
theorem wd_i_yX9_winner : Cond.instanceMethod yX9_winner ∈ lw_tbl := by decide +kernel
theorem wd_i_yX9_words : Cond.instanceMethod yX9_words ∈ lw_tbl := by decide +kernel
theorem wd_inst_RJx00060 : Cond.instantiable RJx00060 6 ∈ lw_tbl := by decide +kernel
theorem wd_inst_RX0 : Cond.instantiable RX0 8 ∈ lw_tbl := by decide +kernel
theorem wd_inst_RX1 : Cond.instantiable RX1 3 ∈ lw_tbl := by decide +kernel
theorem wd_inst_RX2 : Cond.instantiable RX2 2 ∈ lw_tbl := by decide +kernel
theorem wd_inst_RX3 : Cond.instantiable RX3 2 ∈ lw_tbl := by decide +kernel
theorem wd_inst_RX4 : Cond.instantiable RX4 7 ∈ lw_tbl := by decide +kernel
theorem wd_inst_RX6 : Cond.instantiable RX6 6 ∈ lw_tbl := by decide +kernel
theorem wd_inst_RX7 : Cond.instantiable RX7 4 ∈ lw_tbl := by decide +kernel
theorem wd_inst_RX8 : Cond.instantiable RX8 11 ∈ lw_tbl := by decide +kernel
theorem wd_inst_RX9 : Cond.instantiable RX9 25 ∈ lw_tbl := by decide +kernel
theorem wd_m_RL_15 : Cond.methodLink RL 15 yX8_index ∈ lw_tbl := by decide +kernel
theorem wd_m_RL_21 : Cond.methodLink RL 21 yX8_init ∈ lw_tbl := by decide +kernel
theorem wd_m_RL_24 : Cond.methodLink RL 24 yX9_init ∈ lw_tbl := by decide +kernel
theorem wd_m_RL_25 : Cond.methodLink RL 25 yX8_record ∈ lw_tbl := by decide +kernel
theorem wd_m_RL_29 : Cond.methodLink RL 29 yX9_record ∈ lw_tbl := by decide +kernel
theorem wd_m_RL_30 : Cond.methodLink RL 30 yX8_field ∈ lw_tbl := by decide +kernel
theorem wd_m_RL_33 : Cond.methodLink RL 33 yX9_field ∈ lw_tbl := by decide +kernel
theorem wd_m_RL_34 : Cond.methodLink RL 34 yX8_sign ∈ lw_tbl := by decide +kernel
theorem wd_m_RL_38 : Cond.methodLink RL 38 yX9_sign ∈ lw_tbl := by decide +kernel
theorem wd_m_RL_39 : Cond.methodLink RL 39 yX8_isbn ∈ lw_tbl := by decide +kernel
theorem wd_m_RL_42 : Cond.methodLink RL 42 yX9_isbn ∈ lw_tbl := by decide +kernel
theorem wd_m_RL_45 : Cond.methodLink RL 45 yX8_weight ∈ lw_tbl := by decide +kernel
theorem wd_m_RL_49 : Cond.methodLink RL 49 yX9_weight ∈ lw_tbl := by decide +kernel
theorem wd_m_RL_50 : Cond.methodLink RL 50 yL_score ∈ lw_tbl := by decide +kernel
theorem wd_m_RL_55 : Cond.methodLink RL 55 yX9_score ∈ lw_tbl := by decide +kernel
theorem wd_m_RL_56 : Cond.methodLink RL 56 yX9_thrown ∈ lw_tbl := by decide +kernel
theorem wd_m_RL_60 : Cond.methodLink RL 60 yX8_candidates ∈ lw_tbl := by decide +kernel
theorem wd_m_RL_63 : Cond.methodLink RL 63 yX9_candidates ∈ lw_tbl := by decide +kernel
theorem wd_m_RL_64 : Cond.methodLink RL 64 yX8_at ∈ lw_tbl := by decide +kernel
theorem wd_m_RL_67 : Cond.methodLink RL 67 yX9_at_ ∈ lw_tbl := by decide +kernel
theorem wd_m_RL_68 : Cond.methodLink RL 68 yX8_merge ∈ lw_tbl := by decide +kernel
theorem wd_m_RL_7 : Cond.methodLink RL 7 yX8_score ∈ lw_tbl := by decide +kernel
theorem wd_m_RL_71 : Cond.methodLink RL 71 yX9_merge ∈ lw_tbl := by decide +kernel
theorem wd_m_RL_72 : Cond.methodLink RL 72 yX8_winner ∈ lw_tbl := by decide +kernel
theorem wd_m_RL_75 : Cond.methodLink RL 75 yX9_winner ∈ lw_tbl := by decide +kernel
theorem wd_m_RL_76 : Cond.methodLink RL 76 yX8_undo ∈ lw_tbl := by decide +kernel
theorem wd_m_RL_79 : Cond.methodLink RL 79 yX9_undo ∈ lw_tbl := by decide +kernel
theorem wd_m_RL_80 : Cond.methodLink RL 80 yX8_locked ∈ lw_tbl := by decide +kernel
theorem wd_m_RL_84 : Cond.methodLink RL 84 yX9_locked ∈ lw_tbl := by decide +kernel
theorem wd_m_RL_85 : Cond.methodLink RL 85 yL_index ∈ lw_tbl := by decide +kernel
theorem wd_m_RL_88 : Cond.methodLink RL 88 yX9_index ∈ lw_tbl := by decide +kernel
theorem wd_m_RX0_1 : Cond.methodLink RX0 1 objectInit ∈ lw_tbl := by decide +kernel
theorem wd_m_RX1_15 : Cond.methodLink RX1 15 yX1_read ∈ lw_tbl := by decide +kernel
theorem wd_m_RX1_23 : Cond.methodLink RX1 23 yX1_isShortRight ∈ lw_tbl := by decide +kernel
theorem wd_m_RX1_27 : Cond.methodLink RX1 27 yX1_formOfShort ∈ lw_tbl := by decide +kernel
theorem wd_m_RX1_3 : Cond.methodLink RX1 3 objectInit ∈ lw_tbl := by decide +kernel
theorem wd_m_RX1_35 : Cond.methodLink RX1 35 yX1_isLongRight ∈ lw_tbl := by decide +kernel
theorem wd_m_RX1_38 : Cond.methodLink RX1 38 yX1_formOfLong ∈ lw_tbl := by decide +kernel
theorem wd_m_RX1_52 : Cond.methodLink RX1 52 yX1_valueOf ∈ lw_tbl := by decide +kernel
theorem wd_m_RX1_56 : Cond.methodLink RX1 56 yX5_isDigit ∈ lw_tbl := by decide +kernel
theorem wd_m_RX1_62 : Cond.methodLink RX1 62 yX5_isCross ∈ lw_tbl := by decide +kernel
theorem wd_m_RX2_11 : Cond.methodLink RX2 11 yX7_init ∈ lw_tbl := by decide +kernel
theorem wd_m_RX2_20 : Cond.methodLink RX2 20 yX1_init ∈ lw_tbl := by decide +kernel
theorem wd_m_RX2_25 : Cond.methodLink RX2 25 yX1_formOf ∈ lw_tbl := by decide +kernel
theorem wd_m_RX2_3 : Cond.methodLink RX2 3 objectInit ∈ lw_tbl := by decide +kernel
theorem wd_m_RX2_37 : Cond.methodLink RX2 37 yX7_read ∈ lw_tbl := by decide +kernel
theorem wd_m_RX2_41 : Cond.methodLink RX2 41 yX7_startOfFirstLong ∈ lw_tbl := by decide +kernel
theorem wd_m_RX3_21 : Cond.methodLink RX3 21 yX3_holds ∈ lw_tbl := by decide +kernel
theorem wd_m_RX3_25 : Cond.methodLink RX3 25 yX3_has ∈ lw_tbl := by decide +kernel
theorem wd_m_RX3_3 : Cond.methodLink RX3 3 objectInit ∈ lw_tbl := by decide +kernel
theorem wd_m_RX4_102 : Cond.methodLink RX4 102 yX7_sameRow ∈ lw_tbl := by decide +kernel
theorem wd_m_RX4_106 : Cond.methodLink RX4 106 Lib.Math.min.name ∈ lw_tbl := by decide +kernel
theorem wd_m_RX4_109 : Cond.methodLink RX4 109 Lib.MathLoose.max_long.x ∈ lw_tbl := by decide +kernel
theorem wd_m_RX4_19 : Cond.methodLink RX4 19 yX7_init ∈ lw_tbl := by decide +kernel
theorem wd_m_RX4_29 : Cond.methodLink RX4 29 yX1_init ∈ lw_tbl := by decide +kernel
theorem wd_m_RX4_3 : Cond.methodLink RX4 3 objectInit ∈ lw_tbl := by decide +kernel
theorem wd_m_RX4_44 : Cond.methodLink RX4 44 yX4_compareTitles ∈ lw_tbl := by decide +kernel
theorem wd_m_RX4_48 : Cond.methodLink RX4 48 yX6_lastFourDigits ∈ lw_tbl := by decide +kernel
theorem wd_m_RX4_54 : Cond.methodLink RX4 54 yX4_compareYears ∈ lw_tbl := by decide +kernel
theorem wd_m_RX4_58 : Cond.methodLink RX4 58 yX4_compareBookNumbers ∈ lw_tbl := by decide +kernel
theorem wd_m_RX4_61 : Cond.methodLink RX4 61 yX4_comparePublishers ∈ lw_tbl := by decide +kernel
theorem wd_m_RX4_64 : Cond.methodLink RX4 64 yX4_comparePages ∈ lw_tbl := by decide +kernel
theorem wd_m_RX4_67 : Cond.methodLink RX4 67 yX4_commonDivisor ∈ lw_tbl := by decide +kernel
theorem wd_m_RX4_71 : Cond.methodLink RX4 71 yX7_read ∈ lw_tbl := by decide +kernel
theorem wd_m_RX4_75 : Cond.methodLink RX4 75 yX7_countDifferentIn ∈ lw_tbl := by decide +kernel
theorem wd_m_RX4_79 : Cond.methodLink RX4 79 yX7_countDifferent ∈ lw_tbl := by decide +kernel
theorem wd_m_RX4_82 : Cond.methodLink RX4 82 yX4_add ∈ lw_tbl := by decide +kernel
theorem wd_m_RX4_86 : Cond.methodLink RX4 86 Lib.Math.abs.name ∈ lw_tbl := by decide +kernel
theorem wd_m_RX4_92 : Cond.methodLink RX4 92 Lib.Math.max.name ∈ lw_tbl := by decide +kernel
theorem wd_m_RX4_96 : Cond.methodLink RX4 96 yX1_formOf ∈ lw_tbl := by decide +kernel
theorem wd_m_RX5_7 : Cond.methodLink RX5 7 yX5_isDigit ∈ lw_tbl := by decide +kernel
theorem wd_m_RX6_29 : Cond.methodLink RX6 29 yX0_outermost ∈ lw_tbl := by decide +kernel
theorem wd_m_RX6_3 : Cond.methodLink RX6 3 objectInit ∈ lw_tbl := by decide +kernel
theorem wd_m_RX6_38 : Cond.methodLink RX6 38 yX5_isDigit ∈ lw_tbl := by decide +kernel
theorem wd_m_RX7_3 : Cond.methodLink RX7 3 objectInit ∈ lw_tbl := by decide +kernel
theorem wd_m_RX7_32 : Cond.methodLink RX7 32 yX5_inWord ∈ lw_tbl := by decide +kernel
theorem wd_m_RX7_38 : Cond.methodLink RX7 38 yX7_hasAmongFirst ∈ lw_tbl := by decide +kernel
theorem wd_m_RX7_42 : Cond.methodLink RX7 42 yX7_sameWord ∈ lw_tbl := by decide +kernel
theorem wd_m_RX7_45 : Cond.methodLink RX7 45 yX7_packed ∈ lw_tbl := by decide +kernel
theorem wd_m_RX8_1 : Cond.methodLink RX8 1 objectInit ∈ lw_tbl := by decide +kernel
theorem wd_m_RX8_101 : Cond.methodLink RX8 101 yX4_weigh ∈ lw_tbl := by decide +kernel
theorem wd_m_RX8_107 : Cond.methodLink RX8 107 yX4_clear ∈ lw_tbl := by decide +kernel
theorem wd_m_RX8_110 : Cond.methodLink RX8 110 yX8_firstTextOf ∈ lw_tbl := by decide +kernel
theorem wd_m_RX8_114 : Cond.methodLink RX8 114 yX4_compare ∈ lw_tbl := by decide +kernel
theorem wd_m_RX8_118 : Cond.methodLink RX8 118 yX4_hasWeight ∈ lw_tbl := by decide +kernel
theorem wd_m_RX8_129 : Cond.methodLink RX8 129 yX4_above ∈ lw_tbl := by decide +kernel
theorem wd_m_RX8_133 : Cond.methodLink RX8 133 yX4_below ∈ lw_tbl := by decide +kernel
theorem wd_m_RX8_136 : Cond.methodLink RX8 136 yX8_collectKeys ∈ lw_tbl := by decide +kernel
theorem wd_m_RX8_140 : Cond.methodLink RX8 140 yX8_clearMarks ∈ lw_tbl := by decide +kernel
theorem wd_m_RX8_143 : Cond.methodLink RX8 143 yX2_keyOf ∈ lw_tbl := by decide +kernel
theorem wd_m_RX8_147 : Cond.methodLink RX8 147 yX3_holds ∈ lw_tbl := by decide +kernel
theorem wd_m_RX8_15 : Cond.methodLink RX8 15 yX2_init ∈ lw_tbl := by decide +kernel
theorem wd_m_RX8_154 : Cond.methodLink RX8 154 yX0_outermost ∈ lw_tbl := by decide +kernel
theorem wd_m_RX8_162 : Cond.methodLink RX8 162 yX8_listMarked ∈ lw_tbl := by decide +kernel
theorem wd_m_RX8_171 : Cond.methodLink RX8 171 yX0_leads ∈ lw_tbl := by decide +kernel
theorem wd_m_RX8_174 : Cond.methodLink RX8 174 yX0_take ∈ lw_tbl := by decide +kernel
theorem wd_m_RX8_177 : Cond.methodLink RX8 177 yX6_beats ∈ lw_tbl := by decide +kernel
theorem wd_m_RX8_180 : Cond.methodLink RX8 180 yX0_giveBackLatest ∈ lw_tbl := by decide +kernel
theorem wd_m_RX8_183 : Cond.methodLink RX8 183 yX8_bookOf ∈ lw_tbl := by decide +kernel
theorem wd_m_RX8_186 : Cond.methodLink RX8 186 yX3_has ∈ lw_tbl := by decide +kernel
theorem wd_m_RX8_195 : Cond.methodLink RX8 195 yX3_get ∈ lw_tbl := by decide +kernel
theorem wd_m_RX8_199 : Cond.methodLink RX8 199 yX8_countHolders ∈ lw_tbl := by decide +kernel
theorem wd_m_RX8_206 : Cond.methodLink RX8 206 yX3_clear ∈ lw_tbl := by decide +kernel
theorem wd_m_RX8_207 : Cond.methodLink RX8 207 yX3_add ∈ lw_tbl := by decide +kernel
theorem wd_m_RX8_22 : Cond.methodLink RX8 22 yX3_init ∈ lw_tbl := by decide +kernel
theorem wd_m_RX8_29 : Cond.methodLink RX8 29 yX4_init ∈ lw_tbl := by decide +kernel
theorem wd_m_RX8_40 : Cond.methodLink RX8 40 yX0_init ∈ lw_tbl := by decide +kernel
theorem wd_m_RX8_56 : Cond.methodLink RX8 56 yX8_standingBook ∈ lw_tbl := by decide +kernel
theorem wd_m_RX8_65 : Cond.methodLink RX8 65 yX6_init ∈ lw_tbl := by decide +kernel
theorem wd_m_RX8_78 : Cond.methodLink RX8 78 yX8_textOf ∈ lw_tbl := by decide +kernel
theorem wd_m_RX8_82 : Cond.methodLink RX8 82 yX6_append ∈ lw_tbl := by decide +kernel
theorem wd_m_RX8_89 : Cond.methodLink RX8 89 yX6_isOf ∈ lw_tbl := by decide +kernel
theorem wd_m_RX8_93 : Cond.methodLink RX8 93 yX2_isRightNumber ∈ lw_tbl := by decide +kernel
theorem wd_m_RX9_1 : Cond.methodLink RX9 1 objectInit ∈ lw_tbl := by decide +kernel
theorem wd_m_RX9_101 : Cond.methodLink RX9 101 yX9_top ∈ lw_tbl := by decide +kernel
theorem wd_m_RX9_104 : Cond.methodLink RX9 104 yX9_isOf ∈ lw_tbl := by decide +kernel
theorem wd_m_RX9_108 : Cond.methodLink RX9 108 yX9_form ∈ lw_tbl := by decide +kernel
theorem wd_m_RX9_114 : Cond.methodLink RX9 114 yX9_words ∈ lw_tbl := by decide +kernel
theorem wd_m_RX9_122 : Cond.methodLink RX9 122 yX9_key ∈ lw_tbl := by decide +kernel
theorem wd_m_RX9_125 : Cond.methodLink RX9 125 yX9_keysOf ∈ lw_tbl := by decide +kernel
theorem wd_m_RX9_135 : Cond.methodLink RX9 135 yX9_has ∈ lw_tbl := by decide +kernel
theorem wd_m_RX9_139 : Cond.methodLink RX9 139 yX9_sameWord ∈ lw_tbl := by decide +kernel
theorem wd_m_RX9_150 : Cond.methodLink RX9 150 yX9_number ∈ lw_tbl := by decide +kernel
theorem wd_m_RX9_153 : Cond.methodLink RX9 153 yX9_title ∈ lw_tbl := by decide +kernel
theorem wd_m_RX9_159 : Cond.methodLink RX9 159 yX9_sameWords ∈ lw_tbl := by decide +kernel
theorem wd_m_RX9_162 : Cond.methodLink RX9 162 yX9_first ∈ lw_tbl := by decide +kernel
theorem wd_m_RX9_165 : Cond.methodLink RX9 165 yX9_likeness ∈ lw_tbl := by decide +kernel
theorem wd_m_RX9_171 : Cond.methodLink RX9 171 yX9_divisor ∈ lw_tbl := by decide +kernel
theorem wd_m_RX9_178 : Cond.methodLink RX9 178 yX9_beats ∈ lw_tbl := by decide +kernel
theorem wd_m_RX9_71 : Cond.methodLink RX9 71 yX9_isRecord ∈ lw_tbl := by decide +kernel
theorem wd_m_RX9_75 : Cond.methodLink RX9 75 yX9_isTop ∈ lw_tbl := by decide +kernel
theorem wd_m_RX9_81 : Cond.methodLink RX9 81 yX9_isDigit ∈ lw_tbl := by decide +kernel
theorem wd_m_RX9_84 : Cond.methodLink RX9 84 yX9_small ∈ lw_tbl := by decide +kernel
theorem wd_m_RX9_88 : Cond.methodLink RX9 88 yX9_at ∈ lw_tbl := by decide +kernel
theorem wd_m_RX9_92 : Cond.methodLink RX9 92 yX9_isWord ∈ lw_tbl := by decide +kernel
theorem wd_s_yX0_giveBackLatest : Cond.selects RX0 yX0_giveBackLatest yX0_giveBackLatest ∈ lw_tbl := by decide +kernel
theorem wd_s_yX0_leads : Cond.selects RX0 yX0_leads yX0_leads ∈ lw_tbl := by decide +kernel
theorem wd_s_yX0_outermost : Cond.selects RX0 yX0_outermost yX0_outermost ∈ lw_tbl := by decide +kernel
theorem wd_s_yX0_take : Cond.selects RX0 yX0_take yX0_take ∈ lw_tbl := by decide +kernel
theorem wd_s_yX1_formOf : Cond.selects RX1 yX1_formOf yX1_formOf ∈ lw_tbl := by decide +kernel
theorem wd_s_yX1_formOfLong : Cond.selects RX1 yX1_formOfLong yX1_formOfLong ∈ lw_tbl := by decide +kernel
theorem wd_s_yX1_formOfShort : Cond.selects RX1 yX1_formOfShort yX1_formOfShort ∈ lw_tbl := by decide +kernel
theorem wd_s_yX1_isLongRight : Cond.selects RX1 yX1_isLongRight yX1_isLongRight ∈ lw_tbl := by decide +kernel
theorem wd_s_yX1_isShortRight : Cond.selects RX1 yX1_isShortRight yX1_isShortRight ∈ lw_tbl := by decide +kernel
theorem wd_s_yX1_read : Cond.selects RX1 yX1_read yX1_read ∈ lw_tbl := by decide +kernel
theorem wd_s_yX1_valueOf : Cond.selects RX1 yX1_valueOf yX1_valueOf ∈ lw_tbl := by decide +kernel
theorem wd_s_yX2_isRightNumber : Cond.selects RX2 yX2_isRightNumber yX2_isRightNumber ∈ lw_tbl := by decide +kernel
theorem wd_s_yX2_keyOf : Cond.selects RX2 yX2_keyOf yX2_keyOf ∈ lw_tbl := by decide +kernel
theorem wd_s_yX3_add : Cond.selects RX3 yX3_add yX3_add ∈ lw_tbl := by decide +kernel
theorem wd_s_yX3_clear : Cond.selects RX3 yX3_clear yX3_clear ∈ lw_tbl := by decide +kernel
theorem wd_s_yX3_get : Cond.selects RX3 yX3_get yX3_get ∈ lw_tbl := by decide +kernel
theorem wd_s_yX3_has : Cond.selects RX3 yX3_has yX3_has ∈ lw_tbl := by decide +kernel
theorem wd_s_yX3_holds : Cond.selects RX3 yX3_holds yX3_holds ∈ lw_tbl := by decide +kernel
theorem wd_s_yX4_above : Cond.selects RX4 yX4_above yX4_above ∈ lw_tbl := by decide +kernel
theorem wd_s_yX4_add : Cond.selects RX4 yX4_add yX4_add ∈ lw_tbl := by decide +kernel
theorem wd_s_yX4_below : Cond.selects RX4 yX4_below yX4_below ∈ lw_tbl := by decide +kernel
theorem wd_s_yX4_clear : Cond.selects RX4 yX4_clear yX4_clear ∈ lw_tbl := by decide +kernel
theorem wd_s_yX4_commonDivisor : Cond.selects RX4 yX4_commonDivisor yX4_commonDivisor ∈ lw_tbl := by decide +kernel
theorem wd_s_yX4_compare : Cond.selects RX4 yX4_compare yX4_compare ∈ lw_tbl := by decide +kernel
theorem wd_s_yX4_compareBookNumbers : Cond.selects RX4 yX4_compareBookNumbers yX4_compareBookNumbers ∈ lw_tbl := by decide +kernel
theorem wd_s_yX4_comparePages : Cond.selects RX4 yX4_comparePages yX4_comparePages ∈ lw_tbl := by decide +kernel
theorem wd_s_yX4_comparePublishers : Cond.selects RX4 yX4_comparePublishers yX4_comparePublishers ∈ lw_tbl := by decide +kernel
theorem wd_s_yX4_compareTitles : Cond.selects RX4 yX4_compareTitles yX4_compareTitles ∈ lw_tbl := by decide +kernel
theorem wd_s_yX4_compareYears : Cond.selects RX4 yX4_compareYears yX4_compareYears ∈ lw_tbl := by decide +kernel
theorem wd_s_yX4_hasWeight : Cond.selects RX4 yX4_hasWeight yX4_hasWeight ∈ lw_tbl := by decide +kernel
theorem wd_s_yX4_weigh : Cond.selects RX4 yX4_weigh yX4_weigh ∈ lw_tbl := by decide +kernel
theorem wd_s_yX6_append : Cond.selects RX6 yX6_append yX6_append ∈ lw_tbl := by decide +kernel
theorem wd_s_yX6_beats : Cond.selects RX6 yX6_beats yX6_beats ∈ lw_tbl := by decide +kernel
theorem wd_s_yX6_isOf : Cond.selects RX6 yX6_isOf yX6_isOf ∈ lw_tbl := by decide +kernel
theorem wd_s_yX6_lastFourDigits : Cond.selects RX6 yX6_lastFourDigits yX6_lastFourDigits ∈ lw_tbl := by decide +kernel
theorem wd_s_yX7_countDifferent : Cond.selects RX7 yX7_countDifferent yX7_countDifferent ∈ lw_tbl := by decide +kernel
theorem wd_s_yX7_countDifferentIn : Cond.selects RX7 yX7_countDifferentIn yX7_countDifferentIn ∈ lw_tbl := by decide +kernel
theorem wd_s_yX7_hasAmongFirst : Cond.selects RX7 yX7_hasAmongFirst yX7_hasAmongFirst ∈ lw_tbl := by decide +kernel
theorem wd_s_yX7_packed : Cond.selects RX7 yX7_packed yX7_packed ∈ lw_tbl := by decide +kernel
theorem wd_s_yX7_read : Cond.selects RX7 yX7_read yX7_read ∈ lw_tbl := by decide +kernel
theorem wd_s_yX7_sameRow : Cond.selects RX7 yX7_sameRow yX7_sameRow ∈ lw_tbl := by decide +kernel
theorem wd_s_yX7_sameWord : Cond.selects RX7 yX7_sameWord yX7_sameWord ∈ lw_tbl := by decide +kernel
theorem wd_s_yX7_startOfFirstLong : Cond.selects RX7 yX7_startOfFirstLong yX7_startOfFirstLong ∈ lw_tbl := by decide +kernel
theorem wd_s_yX8_at : Cond.selects RX8 yX8_at yX8_at ∈ lw_tbl := by decide +kernel
theorem wd_s_yX8_bookOf : Cond.selects RX8 yX8_bookOf yX8_bookOf ∈ lw_tbl := by decide +kernel
theorem wd_s_yX8_candidates : Cond.selects RX8 yX8_candidates yX8_candidates ∈ lw_tbl := by decide +kernel
theorem wd_s_yX8_clearMarks : Cond.selects RX8 yX8_clearMarks yX8_clearMarks ∈ lw_tbl := by decide +kernel
theorem wd_s_yX8_collectKeys : Cond.selects RX8 yX8_collectKeys yX8_collectKeys ∈ lw_tbl := by decide +kernel
theorem wd_s_yX8_countHolders : Cond.selects RX8 yX8_countHolders yX8_countHolders ∈ lw_tbl := by decide +kernel
theorem wd_s_yX8_field : Cond.selects RX8 yX8_field yX8_field ∈ lw_tbl := by decide +kernel
theorem wd_s_yX8_firstTextOf : Cond.selects RX8 yX8_firstTextOf yX8_firstTextOf ∈ lw_tbl := by decide +kernel
theorem wd_s_yX8_index : Cond.selects RX8 yX8_index yX8_index ∈ lw_tbl := by decide +kernel
theorem wd_s_yX8_isbn : Cond.selects RX8 yX8_isbn yX8_isbn ∈ lw_tbl := by decide +kernel
theorem wd_s_yX8_listMarked : Cond.selects RX8 yX8_listMarked yX8_listMarked ∈ lw_tbl := by decide +kernel
theorem wd_s_yX8_locked : Cond.selects RX8 yX8_locked yX8_locked ∈ lw_tbl := by decide +kernel
theorem wd_s_yX8_merge : Cond.selects RX8 yX8_merge yX8_merge ∈ lw_tbl := by decide +kernel
theorem wd_s_yX8_record : Cond.selects RX8 yX8_record yX8_record ∈ lw_tbl := by decide +kernel
theorem wd_s_yX8_score : Cond.selects RX8 yX8_score yX8_score ∈ lw_tbl := by decide +kernel
theorem wd_s_yX8_sign : Cond.selects RX8 yX8_sign yX8_sign ∈ lw_tbl := by decide +kernel
theorem wd_s_yX8_standingBook : Cond.selects RX8 yX8_standingBook yX8_standingBook ∈ lw_tbl := by decide +kernel
theorem wd_s_yX8_textOf : Cond.selects RX8 yX8_textOf yX8_textOf ∈ lw_tbl := by decide +kernel
theorem wd_s_yX8_undo : Cond.selects RX8 yX8_undo yX8_undo ∈ lw_tbl := by decide +kernel
theorem wd_s_yX8_weight : Cond.selects RX8 yX8_weight yX8_weight ∈ lw_tbl := by decide +kernel
theorem wd_s_yX8_winner : Cond.selects RX8 yX8_winner yX8_winner ∈ lw_tbl := by decide +kernel
theorem wd_s_yX9_at : Cond.selects RX9 yX9_at yX9_at ∈ lw_tbl := by decide +kernel
theorem wd_s_yX9_at_ : Cond.selects RX9 yX9_at_ yX9_at_ ∈ lw_tbl := by decide +kernel
theorem wd_s_yX9_beats : Cond.selects RX9 yX9_beats yX9_beats ∈ lw_tbl := by decide +kernel
theorem wd_s_yX9_candidates : Cond.selects RX9 yX9_candidates yX9_candidates ∈ lw_tbl := by decide +kernel
theorem wd_s_yX9_field : Cond.selects RX9 yX9_field yX9_field ∈ lw_tbl := by decide +kernel
theorem wd_s_yX9_first : Cond.selects RX9 yX9_first yX9_first ∈ lw_tbl := by decide +kernel
theorem wd_s_yX9_form : Cond.selects RX9 yX9_form yX9_form ∈ lw_tbl := by decide +kernel
theorem wd_s_yX9_has : Cond.selects RX9 yX9_has yX9_has ∈ lw_tbl := by decide +kernel
theorem wd_s_yX9_index : Cond.selects RX9 yX9_index yX9_index ∈ lw_tbl := by decide +kernel
theorem wd_s_yX9_isOf : Cond.selects RX9 yX9_isOf yX9_isOf ∈ lw_tbl := by decide +kernel
theorem wd_s_yX9_isRecord : Cond.selects RX9 yX9_isRecord yX9_isRecord ∈ lw_tbl := by decide +kernel
theorem wd_s_yX9_isTop : Cond.selects RX9 yX9_isTop yX9_isTop ∈ lw_tbl := by decide +kernel
theorem wd_s_yX9_isbn : Cond.selects RX9 yX9_isbn yX9_isbn ∈ lw_tbl := by decide +kernel
theorem wd_s_yX9_key : Cond.selects RX9 yX9_key yX9_key ∈ lw_tbl := by decide +kernel
theorem wd_s_yX9_keysOf : Cond.selects RX9 yX9_keysOf yX9_keysOf ∈ lw_tbl := by decide +kernel
theorem wd_s_yX9_likeness : Cond.selects RX9 yX9_likeness yX9_likeness ∈ lw_tbl := by decide +kernel
theorem wd_s_yX9_locked : Cond.selects RX9 yX9_locked yX9_locked ∈ lw_tbl := by decide +kernel
theorem wd_s_yX9_merge : Cond.selects RX9 yX9_merge yX9_merge ∈ lw_tbl := by decide +kernel
theorem wd_s_yX9_number : Cond.selects RX9 yX9_number yX9_number ∈ lw_tbl := by decide +kernel
theorem wd_s_yX9_record : Cond.selects RX9 yX9_record yX9_record ∈ lw_tbl := by decide +kernel
theorem wd_s_yX9_sameWord : Cond.selects RX9 yX9_sameWord yX9_sameWord ∈ lw_tbl := by decide +kernel
theorem wd_s_yX9_sameWords : Cond.selects RX9 yX9_sameWords yX9_sameWords ∈ lw_tbl := by decide +kernel
theorem wd_s_yX9_score : Cond.selects RX9 yX9_score yX9_score ∈ lw_tbl := by decide +kernel
theorem wd_s_yX9_sign : Cond.selects RX9 yX9_sign yX9_sign ∈ lw_tbl := by decide +kernel
theorem wd_s_yX9_thrown : Cond.selects RX9 yX9_thrown yX9_thrown ∈ lw_tbl := by decide +kernel
theorem wd_s_yX9_title : Cond.selects RX9 yX9_title yX9_title ∈ lw_tbl := by decide +kernel
theorem wd_s_yX9_top : Cond.selects RX9 yX9_top yX9_top ∈ lw_tbl := by decide +kernel
theorem wd_s_yX9_undo : Cond.selects RX9 yX9_undo yX9_undo ∈ lw_tbl := by decide +kernel
theorem wd_s_yX9_weight : Cond.selects RX9 yX9_weight yX9_weight ∈ lw_tbl := by decide +kernel
theorem wd_s_yX9_winner : Cond.selects RX9 yX9_winner yX9_winner ∈ lw_tbl := by decide +kernel
theorem wd_s_yX9_words : Cond.selects RX9 yX9_words yX9_words ∈ lw_tbl := by decide +kernel
theorem wd_st_Lib_Math_abs_name : Cond.static Lib.Math.abs.name ∈ lw_tbl := by decide +kernel
theorem wd_st_Lib_Math_max_name : Cond.static Lib.Math.max.name ∈ lw_tbl := by decide +kernel
theorem wd_st_Lib_Math_min_name : Cond.static Lib.Math.min.name ∈ lw_tbl := by decide +kernel
theorem wd_st_Lib_MathLoose_max_long_x : Cond.static Lib.MathLoose.max_long.x ∈ lw_tbl := by decide +kernel
theorem wd_st_yL_index : Cond.static yL_index ∈ lw_tbl := by decide +kernel
theorem wd_st_yL_score : Cond.static yL_score ∈ lw_tbl := by decide +kernel
theorem wd_st_yX5_inWord : Cond.static yX5_inWord ∈ lw_tbl := by decide +kernel
theorem wd_st_yX5_isCross : Cond.static yX5_isCross ∈ lw_tbl := by decide +kernel
theorem wd_st_yX5_isDigit : Cond.static yX5_isDigit ∈ lw_tbl := by decide +kernel
theorem wd_st_yX9_divisor : Cond.static yX9_divisor ∈ lw_tbl := by decide +kernel
theorem wd_st_yX9_isDigit : Cond.static yX9_isDigit ∈ lw_tbl := by decide +kernel
theorem wd_st_yX9_isWord : Cond.static yX9_isWord ∈ lw_tbl := by decide +kernel
theorem wd_st_yX9_small : Cond.static yX9_small ∈ lw_tbl := by decide +kernel
theorem in_X0 : ∀ w ∈ u_ws RX0 TX0 8, w ∈ lw_tbl := by decide +kernel
theorem in_X1 : ∀ w ∈ u_ws RX1 TX1 3, w ∈ lw_tbl := by decide +kernel
theorem in_X2 : ∀ w ∈ u_ws RX2 TX2 2, w ∈ lw_tbl := by decide +kernel
theorem in_X3 : ∀ w ∈ u_ws RX3 TX3 2, w ∈ lw_tbl := by decide +kernel
theorem in_X4 : ∀ w ∈ u_ws RX4 TX4 7, w ∈ lw_tbl := by decide +kernel
theorem in_X6 : ∀ w ∈ u_ws RX6 TX6 6, w ∈ lw_tbl := by decide +kernel
theorem in_X7 : ∀ w ∈ u_ws RX7 TX7 4, w ∈ lw_tbl := by decide +kernel
theorem in_X8 : ∀ w ∈ u_ws RX8 TX8 11, w ∈ lw_tbl := by decide +kernel
theorem in_X9 : ∀ w ∈ u_ws RX9 TX9 25, w ∈ lw_tbl := by decide +kernel
end
section
/-- the claim's classes, a class's number is that of its name RXi (5: a place that nothing uses) -/
abbrev mxCl : List vw_C := [(RX0, TX0, 8), (RX1, TX1, 3), (RX2, TX2, 2), (RX3, TX3, 2), (RX4, TX4, 7), (RX0, TX0, 8), (RX6, TX6, 6), (RX7, TX7, 4), (RX8, TX8, 11), (RX9, TX9, 25)]
def mx_tb : List Cond := lw_tbl.filter goodWord
theorem mx_in {w : Cond} (h : w ∈ lw_tbl) (g : goodWord w = true) : w ∈ mx_tb := List.mem_filter.mpr ⟨h, g⟩
theorem mx_good {ws : List Cond} (h : ∀ w ∈ ws, w ∈ mx_tb) : GoodIn mx_tb ws := fun w hw => ⟨h w hw, good_of_word (List.mem_filter.mp (h w hw)).2⟩
/-! The frame of this proof: one picture of ALL cells made since the law began, as a function from addresses (mx_H); a judgement mx_V over pictures; a row an instruction. -/
abbrev mx_H : Type := Nat → Option va_E
abbrev mx_G : Type := va_G × (Nat → ClassId)
def mx_ts (G : mx_G) : List (ClassId × FieldType) := [(G.2 0, .int), (G.2 1, .long), (G.2 2, .char), (G.2 3, .byte), (G.2 4, .boolean)]
def mx_A (base : Nat) : Nat → Prop := fun q => base ≤ q
def mx_R (G : mx_G) (base : Nat) (h : mx_H) (H : Heap) : Prop :=
  ∃ (L : List Nat) (f : Nat → va_E), (∀ a, h a = if a ∈ L then some (f a) else none) ∧ va_P G.1 mxCl (va_pl L f) H ∧ va_D (mx_A base) (va_pl L f)
theorem mx_R.get {G : mx_G} {base : Nat} {h : mx_H} {H : Heap} (hR : mx_R G base h H) {a : Nat} {e : va_E} (ha : h a = some e) :
    ∃ (L : List Nat) (f : Nat → va_E) (k : Nat), (∀ a, h a = if a ∈ L then some (f a) else none) ∧ va_P G.1 mxCl (va_pl L f) H ∧ va_D (mx_A base) (va_pl L f) ∧ a ∈ L ∧ f a = e ∧ (va_pl L f)[k]? = some (a, e) := by
  obtain ⟨L, f, hh, hP, hD⟩ := hR
  have hm : a ∈ L ∧ f a = e := by
    have h1 := hh a
    rw [ha] at h1
    by_cases hL : a ∈ L
    · rw [if_pos hL] at h1
      exact ⟨hL, (Option.some.inj h1).symm⟩
    · rw [if_neg hL] at h1
      cases h1
  obtain ⟨k, hk⟩ := va_pl_get (X := []) (f := f) hm.1
  refine ⟨L, f, k, hh, hP, hD, hm.1, hm.2, ?_⟩
  rw [← hm.2]
  exact hk
theorem mx_R.at {G : mx_G} {base : Nat} {h : mx_H} {H : Heap} (hR : mx_R G base h H) {a : Nat} {e : va_E} (ha : h a = some e) : va_at G.1 mxCl (a, e) H := by
  obtain ⟨L, f, k, -, hP, -, -, -, hk⟩ := hR.get ha
  exact hP k _ hk
theorem mx_R.one {G : mx_G} {base : Nat} {h : mx_H} {H : Heap} (hR : mx_R G base h H) {a : Nat} {e : va_E} (ha : h a = some e) : va_P G.1 mxCl [(a, e)] H := by
  intro k q hk
  have hz : k < 1 := (List.getElem?_eq_some_iff.mp hk).1
  rw [show k = 0 by omega] at hk
  cases hk
  exact hR.at ha
theorem mx_R.lt {G : mx_G} {base : Nat} {h : mx_H} {H : Heap} (hR : mx_R G base h H) {a : Nat} {e : va_E} (ha : h a = some e) : a < H.size := (hR.at ha).lt
theorem mx_R.ge {G : mx_G} {base : Nat} {h : mx_H} {H : Heap} (hR : mx_R G base h H) {a : Nat} {e : va_E} (ha : h a = some e) : base ≤ a := by
  obtain ⟨L, f, k, -, -, hD, -, -, hk⟩ := hR.get ha
  exact hD.2 k _ hk
theorem mx_R.set {G : mx_G} {base : Nat} {h : mx_H} {H1 : Heap} {L : List Nat} {f : Nat → va_E} {a k : Nat} {e0 e : va_E} (hh : ∀ a, h a = if a ∈ L then some (f a) else none) (hD0 : va_D (mx_A base) (va_pl L f)) (ha : a ∈ L) (hf : f a = e0) (hk : (va_pl L f)[k]? = some (a, e0))
    (hP : va_P G.1 mxCl ((va_pl L f).set k (a, e)) H1) (hD : va_D (mx_A base) ((va_pl L f).set k (a, e))) : mx_R G base (va_up h a (some e)) H1 := by
  have hs : (va_pl L f).set k (a, e) = va_pl L (va_up f a e) := va_pl_set (X := []) hD0 ha (by rw [← hf] at hk; exact hk)
  rw [hs] at hP hD
  refine ⟨L, va_up f a e, fun x => ?_, hP, hD⟩
  by_cases hx : x = a
  · subst hx
    rw [va_up_self, va_up_self, if_pos ha]
  · rw [va_up_ne _ _ hx, va_up_ne _ _ hx]
    exact hh x
theorem mx_R.push {G : mx_G} {base : Nat} {h : mx_H} {H H1 : Heap} {L : List Nat} {f : Nat → va_E} {q : Nat} {e : va_E} (hh : ∀ a, h a = if a ∈ L then some (f a) else none) (hq : q ∉ L)
    (hP : va_P G.1 mxCl (va_pl L f ++ [(q, e)]) H1) (hD : va_D (mx_A base) (va_pl L f ++ [(q, e)])) : mx_R G base (va_up h q (some e)) H1 := by
  have hs := va_pl_push (f := f) (e := e) hq
  rw [hs] at hP hD
  refine ⟨L ++ [q], va_up f q e, fun x => ?_, hP, hD⟩
  by_cases hx : x = q
  · subst hx
    rw [va_up_self, va_up_self, if_pos (List.mem_append_right _ (List.mem_singleton.mpr rfl))]
  · rw [va_up_ne _ _ hx, va_up_ne _ _ hx, hh x]
    by_cases hL : x ∈ L
    · rw [if_pos hL, if_pos (List.mem_append_left _ hL)]
    · rw [if_neg hL, if_neg (fun z => (List.mem_append.mp z).elim hL (fun y => hx (List.mem_singleton.mp y)))]
/-- locals: what is known of each place -/
def mx_L (ls : Array Slot) (nL : Nat) (lo : List (Option Value)) : Prop := ls.size = nL ∧ lv_wf ls ∧ ∀ (i : Nat) (v : Value), lo[i]? = some (some v) → ls[i]? = some (.val v)
def mx_al (lo : List (Option Value)) : List (Nat × Value) := (List.range lo.length).filterMap (fun i => match lo[i]? with
  | some (some v) => some (i, v)
  | _ => none)
theorem mx_al_mem {lo : List (Option Value)} {i : Nat} {v : Value} : (i, v) ∈ mx_al lo ↔ lo[i]? = some (some v) := by
  unfold mx_al
  rw [List.mem_filterMap]
  constructor
  · rintro ⟨j, hj, he⟩
    split at he
    · rename_i w hw
      cases he
      exact hw
    · cases he
  · intro h
    refine ⟨i, List.mem_range.mpr (List.getElem?_eq_some_iff.mp h).1, ?_⟩
    rw [h]
theorem mx_L.has {ls : Array Slot} {nL : Nat} {lo : List (Option Value)} (h : mx_L ls nL lo) : lv_has ls nL (mx_al lo) := ⟨h.1, h.2.1, fun q hq => h.2.2 q.1 q.2 (mx_al_mem.mp hq)⟩
def mx_c1 (lo : List (Option Value)) (i : Nat) : Prop := i = 0 ∨ ∀ w, lo[i - 1]? = some (some w) → w.category = 1
theorem mx_c1_0 {lo : List (Option Value)} : mx_c1 lo 0 := Or.inl rfl
theorem mx_c1_int {lo : List (Option Value)} {i : Nat} {x : Int32} (h : lo[i - 1]? = some (some (.int x))) : mx_c1 lo i := Or.inr fun w hw => by rw [h] at hw; cases hw; rfl
theorem mx_c1_ref {lo : List (Option Value)} {i : Nat} {x : Nat} (h : lo[i - 1]? = some (some (.ref x))) : mx_c1 lo i := Or.inr fun w hw => by rw [h] at hw; cases hw; rfl
theorem mx_c1_rf {lo : List (Option Value)} {i : Nat} {x : Option Nat} (h : lo[i - 1]? = some (some (va_rf x))) : mx_c1 lo i := Or.inr fun w hw => by
  rw [h] at hw
  have hw := Option.some.inj (Option.some.inj hw)
  subst hw
  cases x <;> rfl
theorem mx_c1_null {lo : List (Option Value)} {i : Nat} (h : lo[i - 1]? = some (some .null)) : mx_c1 lo i := Or.inr fun w hw => by rw [h] at hw; cases hw; rfl
theorem mx_c1_none {lo : List (Option Value)} {i : Nat} (h : lo[i - 1]? = some none) : mx_c1 lo i := Or.inr fun w hw => by rw [h] at hw; cases hw
theorem mx_L.set1 {ls' : Array Slot} {nL : Nat} {lo : List (Option Value)} {i : Nat} {v : Value} (hc : mx_c1 lo i)
    (h' : lv_has ls' nL ((i, v) :: (mx_al lo).filter (fun q => !(q.1 == i) && !(q.1 + 1 == i && q.2.category == 2)))) : mx_L ls' nL (lo.set i (some v)) := by
  refine ⟨h'.1, h'.2.1, fun j w hj => ?_⟩
  by_cases e : i = j
  · subst e
    have hl : i < lo.length := by
      have := (List.getElem?_eq_some_iff.mp hj).1
      rw [List.length_set] at this
      exact this
    rw [List.getElem?_set_self hl] at hj
    have hw : v = w := Option.some.inj (Option.some.inj hj)
    subst hw
    exact h'.2.2 (i, v) List.mem_cons_self
  · rw [List.getElem?_set_ne e] at hj
    refine h'.2.2 (j, w) (List.mem_cons_of_mem _ (List.mem_filter.mpr ⟨mx_al_mem.mpr hj, ?_⟩))
    have h1 : (j == i) = false := by
      rw [beq_eq_false_iff_ne]
      exact fun z => e z.symm
    show (!(j == i) && !(j + 1 == i && w.category == 2)) = true
    rw [h1]
    by_cases h2 : j + 1 = i
    · subst h2
      rcases hc with h3 | h3
      · omega
      · have h4 := h3 w (by rw [Nat.add_sub_cancel]; exact hj)
        rw [h4]
        simp
    · have h3 : (j + 1 == i) = false := by
        rw [beq_eq_false_iff_ne]
        exact h2
      rw [h3]
      rfl
theorem mx_L.set2 {ls' : Array Slot} {nL : Nat} {lo : List (Option Value)} {i : Nat} {v : Value} (hc : mx_c1 lo i)
    (h' : lv_has ls' nL ((i, v) :: (mx_al lo).filter (fun q => !(q.1 == i) && (!(q.1 == i + 1) && !(q.1 + 1 == i && q.2.category == 2))))) : mx_L ls' nL ((lo.set i (some v)).set (i + 1) none) := by
  refine ⟨h'.1, h'.2.1, fun j w hj => ?_⟩
  by_cases e2 : i + 1 = j
  · subst e2
    have hl : i + 1 < (lo.set i (some v)).length := by
      have := (List.getElem?_eq_some_iff.mp hj).1
      rw [List.length_set] at this
      exact this
    rw [List.getElem?_set_self hl] at hj
    cases hj
  rw [List.getElem?_set_ne e2] at hj
  by_cases e : i = j
  · subst e
    have hl : i < lo.length := by
      have := (List.getElem?_eq_some_iff.mp hj).1
      rw [List.length_set] at this
      exact this
    rw [List.getElem?_set_self hl] at hj
    have hw : v = w := Option.some.inj (Option.some.inj hj)
    subst hw
    exact h'.2.2 (i, v) List.mem_cons_self
  · rw [List.getElem?_set_ne e] at hj
    refine h'.2.2 (j, w) (List.mem_cons_of_mem _ (List.mem_filter.mpr ⟨mx_al_mem.mpr hj, ?_⟩))
    have h1 : (j == i) = false := by
      rw [beq_eq_false_iff_ne]
      exact fun z => e z.symm
    have h1' : (j == i + 1) = false := by
      rw [beq_eq_false_iff_ne]
      exact fun z => e2 z.symm
    show (!(j == i) && (!(j == i + 1) && !(j + 1 == i && w.category == 2))) = true
    rw [h1, h1']
    by_cases h2 : j + 1 = i
    · subst h2
      rcases hc with h3 | h3
      · omega
      · have h4 := h3 w (by rw [Nat.add_sub_cancel]; exact hj)
        rw [h4]
        simp
    · have h3 : (j + 1 == i) = false := by
        rw [beq_eq_false_iff_ne]
        exact h2
      rw [h3]
      rfl
/-- fewer locals are known -/
def mx_le (lo lo' : List (Option Value)) : Prop := ∀ (i : Nat) (v : Value), lo'[i]? = some (some v) → lo[i]? = some (some v)
theorem mx_le_nil {lo : List (Option Value)} : mx_le lo [] := fun i v h => by simp at h
theorem mx_le_keep {a : Option Value} {lo lo' : List (Option Value)} (h : mx_le lo lo') : mx_le (a :: lo) (a :: lo') := fun i v hi => by
  cases i with
  | zero => exact hi
  | succ i => exact h i v hi
theorem mx_le_drop {a : Option Value} {lo lo' : List (Option Value)} (h : mx_le lo lo') : mx_le (a :: lo) (none :: lo') := fun i v hi => by
  cases i with
  | zero => cases hi
  | succ i => exact h i v hi
/-- where a method's body stands -/
def mx_C (p : Program) (s : State) (m : MethodId) (args : Array Value) (meth : Method) (c : Code) (cc : ByteArray) (nL : Nat) (own : String) (G : mx_G) (base : Nat) : Prop :=
  p.tables.exec = Jvm.exec ∧ c.code = cc ∧ c.maxLocals = nL ∧ s.vm.findClass own = some m.cls ∧ (∀ w ∈ mx_tb, w.before args s = true) ∧ va_K G.1 mxCl (mx_ts G) s ∧ base ≤ s.heap.size ∧ meth.locks = false
def mx_V (p : Program) (l : Launch) (e : Env) (R : Room) (s : State) (m : MethodId) (args : Array Value) (below : List Frame) (meth : Method) (c : Code) (G : mx_G) (base nL : Nat) (Q : State → Prop) (h : mx_H) (kc ks pc : Nat) (lo : List (Option Value)) (st : List Value) : Prop :=
  ∀ (H : Heap) (locs : List Loc) (ls : Array Slot), mx_R G base h H → va_S (mx_A base) s.heap H locs → mx_L ls nL lo → W p l e R s m args below meth c H locs kc ks Q (F0 m pc ls st)
section MX
variable {p : Program} {l : Launch} {e : Env} {R : Room} {s : State} {m : MethodId} {args : Array Value} {below : List Frame} {meth : Method} {c : Code} {cc : ByteArray} {own : String} {G : mx_G} {base nL : Nat} {Q : State → Prop} {h : mx_H} {kc ks pc : Nat} {lo : List (Option Value)} {st : List Value}
theorem mx_weak {lo' : List (Option Value)} (hl : mx_le lo lo') (k : mx_V p l e R s m args below meth c G base nL Q h kc ks pc lo' st) : mx_V p l e R s m args below meth c G base nL Q h kc ks pc lo st := fun H locs ls hR hS hL => k H locs ls hR hS ⟨hL.1, hL.2.1, fun i v hi => hL.2.2 i v (hl i v hi)⟩
theorem mx_widen {k' n' : Nat} (h1 : kc ≤ k') (h2 : ks ≤ n') (k : mx_V p l e R s m args below meth c G base nL Q h k' n' pc lo st) : mx_V p l e R s m args below meth c G base nL Q h kc ks pc lo st := fun H locs ls hR hS hL => W.widen h1 h2 (k H locs ls hR hS hL)
theorem mx_iconst (C : mx_C p s m args meth c cc nL own G base) {n : Int} {v : Int32} (hv : Int32.ofInt n = v) (hd : decode cc pc = .ok (.iconst n, 1)) {pc' : Nat} (hp : pc + 1 = pc') (k : mx_V p l e R s m args below meth c G base nL Q h kc ks pc' lo (.int v :: st)) : mx_V p l e R s m args below meth c G base nL Q h kc ks pc lo st := by
  subst hp
  exact fun H locs ls hR hS hL => lv_iconst C.1 C.2.1 hd hv (k H locs ls hR hS hL)

theorem mx_bipush (C : mx_C p s m args meth c cc nL own G base) {n : Int} {v : Int32} (hv : (Int8.ofInt n).toInt32 = v) (hd : decode cc pc = .ok (.bipush n, 2)) {pc' : Nat} (hp : pc + 2 = pc') (k : mx_V p l e R s m args below meth c G base nL Q h kc ks pc' lo (.int v :: st)) : mx_V p l e R s m args below meth c G base nL Q h kc ks pc lo st := by
  subst hp
  exact fun H locs ls hR hS hL => lv_bipush C.1 C.2.1 hd hv (k H locs ls hR hS hL)

theorem mx_sipush (C : mx_C p s m args meth c cc nL own G base) {n : Int} {v : Int32} (hv : (Int16.ofInt n).toInt32 = v) (hd : decode cc pc = .ok (.sipush n, 3)) {pc' : Nat} (hp : pc + 3 = pc') (k : mx_V p l e R s m args below meth c G base nL Q h kc ks pc' lo (.int v :: st)) : mx_V p l e R s m args below meth c G base nL Q h kc ks pc lo st := by
  subst hp
  exact fun H locs ls hR hS hL => lv_sipush C.1 C.2.1 hd hv (k H locs ls hR hS hL)

theorem mx_lconst (C : mx_C p s m args meth c cc nL own G base) {n : Fin 2} {v : Int64} (hv : Int64.ofNat (n : Nat) = v) (hd : decode cc pc = .ok (.lconst n, 1)) {pc' : Nat} (hp : pc + 1 = pc') (k : mx_V p l e R s m args below meth c G base nL Q h kc ks pc' lo (.long v :: st)) : mx_V p l e R s m args below meth c G base nL Q h kc ks pc lo st := by
  subst hp
  exact fun H locs ls hR hS hL => lv_lconst C.1 C.2.1 hd hv (k H locs ls hR hS hL)

theorem mx_null (C : mx_C p s m args meth c cc nL own G base)   (hd : decode cc pc = .ok (.aconst_null, 1)) {pc' : Nat} (hp : pc + 1 = pc') (k : mx_V p l e R s m args below meth c G base nL Q h kc ks pc' lo (.null :: st)) : mx_V p l e R s m args below meth c G base nL Q h kc ks pc lo st := by
  subst hp
  exact fun H locs ls hR hS hL => lv_null C.1 C.2.1 hd  (k H locs ls hR hS hL)

theorem mx_iload_n (C : mx_C p s m args meth c cc nL own G base) {k0 : Fin 4} {x : Int32} (hd : decode cc pc = .ok (.iload_n k0, 1)) {pc' : Nat} (hp : pc + 1 = pc') (hl : lo[(k0 : Nat)]? = some (some (.int x))) (k : mx_V p l e R s m args below meth c G base nL Q h kc ks pc' lo (.int x :: st)) : mx_V p l e R s m args below meth c G base nL Q h kc ks pc lo st := by
  subst hp
  exact fun H locs ls hR hS hL => lv_iload_n C.1 C.2.1 hd rfl (hL.2.2 _ _ hl) (k H locs ls hR hS hL)

theorem mx_iload (C : mx_C p s m args meth c cc nL own G base) {i : Nat} {x : Int32} (hd : decode cc pc = .ok (.iload i, 2)) {pc' : Nat} (hp : pc + 2 = pc') (hl : lo[i]? = some (some (.int x))) (k : mx_V p l e R s m args below meth c G base nL Q h kc ks pc' lo (.int x :: st)) : mx_V p l e R s m args below meth c G base nL Q h kc ks pc lo st := by
  subst hp
  exact fun H locs ls hR hS hL => lv_iload C.1 C.2.1 hd (hL.2.2 _ _ hl) (k H locs ls hR hS hL)

theorem mx_lload_n (C : mx_C p s m args meth c cc nL own G base) {k0 : Fin 4} {x : Int64} (hd : decode cc pc = .ok (.lload_n k0, 1)) {pc' : Nat} (hp : pc + 1 = pc') (hl : lo[(k0 : Nat)]? = some (some (.long x))) (k : mx_V p l e R s m args below meth c G base nL Q h kc ks pc' lo (.long x :: st)) : mx_V p l e R s m args below meth c G base nL Q h kc ks pc lo st := by
  subst hp
  exact fun H locs ls hR hS hL => lv_lload_n C.1 C.2.1 hd rfl (hL.2.2 _ _ hl) (k H locs ls hR hS hL)

theorem mx_lload (C : mx_C p s m args meth c cc nL own G base) {i : Nat} {x : Int64} (hd : decode cc pc = .ok (.lload i, 2)) {pc' : Nat} (hp : pc + 2 = pc') (hl : lo[i]? = some (some (.long x))) (k : mx_V p l e R s m args below meth c G base nL Q h kc ks pc' lo (.long x :: st)) : mx_V p l e R s m args below meth c G base nL Q h kc ks pc lo st := by
  subst hp
  exact fun H locs ls hR hS hL => lv_lload C.1 C.2.1 hd (hL.2.2 _ _ hl) (k H locs ls hR hS hL)

theorem mx_aload_n (C : mx_C p s m args meth c cc nL own G base) {k0 : Fin 4} {x : Nat} (hd : decode cc pc = .ok (.aload_n k0, 1)) {pc' : Nat} (hp : pc + 1 = pc') (hl : lo[(k0 : Nat)]? = some (some (.ref x))) (k : mx_V p l e R s m args below meth c G base nL Q h kc ks pc' lo (.ref x :: st)) : mx_V p l e R s m args below meth c G base nL Q h kc ks pc lo st := by
  subst hp
  exact fun H locs ls hR hS hL => lv_aload_n C.1 C.2.1 hd rfl (hL.2.2 _ _ hl) (k H locs ls hR hS hL)

theorem mx_aload (C : mx_C p s m args meth c cc nL own G base) {i : Nat} {x : Nat} (hd : decode cc pc = .ok (.aload i, 2)) {pc' : Nat} (hp : pc + 2 = pc') (hl : lo[i]? = some (some (.ref x))) (k : mx_V p l e R s m args below meth c G base nL Q h kc ks pc' lo (.ref x :: st)) : mx_V p l e R s m args below meth c G base nL Q h kc ks pc lo st := by
  subst hp
  exact fun H locs ls hR hS hL => lv_aload C.1 C.2.1 hd (hL.2.2 _ _ hl) (k H locs ls hR hS hL)

theorem mx_aload_nq (C : mx_C p s m args meth c cc nL own G base) {k0 : Fin 4} {x : Option Nat} (hd : decode cc pc = .ok (.aload_n k0, 1)) {pc' : Nat} (hp : pc + 1 = pc') (hl : lo[(k0 : Nat)]? = some (some (va_rf x))) (k : mx_V p l e R s m args below meth c G base nL Q h kc ks pc' lo (va_rf x :: st)) : mx_V p l e R s m args below meth c G base nL Q h kc ks pc lo st := by
  subst hp
  intro H locs ls hR hS hL
  cases x with
  | none => exact lv_aload_nN C.1 C.2.1 hd rfl (hL.2.2 _ _ hl) (k H locs ls hR hS hL)
  | some a => exact lv_aload_n C.1 C.2.1 hd rfl (hL.2.2 _ _ hl) (k H locs ls hR hS hL)
theorem mx_aloadq (C : mx_C p s m args meth c cc nL own G base) {i : Nat} {x : Option Nat} (hd : decode cc pc = .ok (.aload i, 2)) {pc' : Nat} (hp : pc + 2 = pc') (hl : lo[i]? = some (some (va_rf x))) (k : mx_V p l e R s m args below meth c G base nL Q h kc ks pc' lo (va_rf x :: st)) : mx_V p l e R s m args below meth c G base nL Q h kc ks pc lo st := by
  subst hp
  intro H locs ls hR hS hL
  cases x with
  | none => exact lv_aloadN C.1 C.2.1 hd (hL.2.2 _ _ hl) (k H locs ls hR hS hL)
  | some a => exact lv_aload C.1 C.2.1 hd (hL.2.2 _ _ hl) (k H locs ls hR hS hL)

theorem mx_istore_n (C : mx_C p s m args meth c cc nL own G base) {k0 : Fin 4} {x : Int32} (hd : decode cc pc = .ok (.istore_n k0, 1)) {pc' : Nat} (hp : pc + 1 = pc') (hc : mx_c1 lo (k0 : Nat)) (hn : (k0 : Nat) < nL) {lo' : List (Option Value)} (hs : lo.set (k0 : Nat) (some (.int x)) = lo') (k : mx_V p l e R s m args below meth c G base nL Q h kc ks pc' lo' st) : mx_V p l e R s m args below meth c G base nL Q h kc ks pc lo (.int x :: st) := by
  subst hp
  subst hs
  exact fun H locs ls hR hS hL => lv_istore_n C.1 C.2.1 hd rfl hL.has hn rfl (fun ls' h' => k H locs ls' hR hS (mx_L.set1 hc h'))
theorem mx_istore (C : mx_C p s m args meth c cc nL own G base) {i : Nat} {x : Int32} (hd : decode cc pc = .ok (.istore i, 2)) {pc' : Nat} (hp : pc + 2 = pc') (hc : mx_c1 lo i) (hn : i < nL) {lo' : List (Option Value)} (hs : lo.set i (some (.int x)) = lo') (k : mx_V p l e R s m args below meth c G base nL Q h kc ks pc' lo' st) : mx_V p l e R s m args below meth c G base nL Q h kc ks pc lo (.int x :: st) := by
  subst hp
  subst hs
  exact fun H locs ls hR hS hL => lv_istore C.1 C.2.1 hd hL.has hn rfl (fun ls' h' => k H locs ls' hR hS (mx_L.set1 hc h'))

theorem mx_astore_n (C : mx_C p s m args meth c cc nL own G base) {k0 : Fin 4} {x : Nat} (hd : decode cc pc = .ok (.astore_n k0, 1)) {pc' : Nat} (hp : pc + 1 = pc') (hc : mx_c1 lo (k0 : Nat)) (hn : (k0 : Nat) < nL) {lo' : List (Option Value)} (hs : lo.set (k0 : Nat) (some (.ref x)) = lo') (k : mx_V p l e R s m args below meth c G base nL Q h kc ks pc' lo' st) : mx_V p l e R s m args below meth c G base nL Q h kc ks pc lo (.ref x :: st) := by
  subst hp
  subst hs
  exact fun H locs ls hR hS hL => lv_astore_n C.1 C.2.1 hd rfl hL.has hn rfl (fun ls' h' => k H locs ls' hR hS (mx_L.set1 hc h'))
theorem mx_astore (C : mx_C p s m args meth c cc nL own G base) {i : Nat} {x : Nat} (hd : decode cc pc = .ok (.astore i, 2)) {pc' : Nat} (hp : pc + 2 = pc') (hc : mx_c1 lo i) (hn : i < nL) {lo' : List (Option Value)} (hs : lo.set i (some (.ref x)) = lo') (k : mx_V p l e R s m args below meth c G base nL Q h kc ks pc' lo' st) : mx_V p l e R s m args below meth c G base nL Q h kc ks pc lo (.ref x :: st) := by
  subst hp
  subst hs
  exact fun H locs ls hR hS hL => lv_astore C.1 C.2.1 hd hL.has hn rfl (fun ls' h' => k H locs ls' hR hS (mx_L.set1 hc h'))

theorem mx_astore_nq (C : mx_C p s m args meth c cc nL own G base) {k0 : Fin 4} {x : Option Nat} (hd : decode cc pc = .ok (.astore_n k0, 1)) {pc' : Nat} (hp : pc + 1 = pc') (hc : mx_c1 lo (k0 : Nat)) (hn : (k0 : Nat) < nL) {lo' : List (Option Value)} (hs : lo.set (k0 : Nat) (some (va_rf x)) = lo') (k : mx_V p l e R s m args below meth c G base nL Q h kc ks pc' lo' st) : mx_V p l e R s m args below meth c G base nL Q h kc ks pc lo (va_rf x :: st) := by
  subst hp
  subst hs
  intro H locs ls hR hS hL
  cases x with
  | none => exact lv_astore_nN C.1 C.2.1 hd rfl hL.has hn rfl (fun ls' h' => k H locs ls' hR hS (mx_L.set1 hc h'))
  | some a => exact lv_astore_n C.1 C.2.1 hd rfl hL.has hn rfl (fun ls' h' => k H locs ls' hR hS (mx_L.set1 hc h'))
theorem mx_astoreq (C : mx_C p s m args meth c cc nL own G base) {i : Nat} {x : Option Nat} (hd : decode cc pc = .ok (.astore i, 2)) {pc' : Nat} (hp : pc + 2 = pc') (hc : mx_c1 lo i) (hn : i < nL) {lo' : List (Option Value)} (hs : lo.set i (some (va_rf x)) = lo') (k : mx_V p l e R s m args below meth c G base nL Q h kc ks pc' lo' st) : mx_V p l e R s m args below meth c G base nL Q h kc ks pc lo (va_rf x :: st) := by
  subst hp
  subst hs
  intro H locs ls hR hS hL
  cases x with
  | none => exact lv_astoreN C.1 C.2.1 hd hL.has hn rfl (fun ls' h' => k H locs ls' hR hS (mx_L.set1 hc h'))
  | some a => exact lv_astore C.1 C.2.1 hd hL.has hn rfl (fun ls' h' => k H locs ls' hR hS (mx_L.set1 hc h'))
theorem mx_lstore_n (C : mx_C p s m args meth c cc nL own G base) {k0 : Fin 4} {x : Int64} (hd : decode cc pc = .ok (.lstore_n k0, 1)) {pc' : Nat} (hp : pc + 1 = pc') (hc : mx_c1 lo (k0 : Nat)) (hn : (k0 : Nat) + 1 < nL) {lo' : List (Option Value)} (hs : (lo.set (k0 : Nat) (some (.long x))).set ((k0 : Nat) + 1) none = lo') (k : mx_V p l e R s m args below meth c G base nL Q h kc ks pc' lo' st) : mx_V p l e R s m args below meth c G base nL Q h kc ks pc lo (.long x :: st) := by
  subst hp
  subst hs
  exact fun H locs ls hR hS hL => lv_lstore_n C.1 C.2.1 hd rfl hL.has hn rfl (fun ls' h' => k H locs ls' hR hS (mx_L.set2 hc h'))
theorem mx_lstore (C : mx_C p s m args meth c cc nL own G base) {i : Nat} {x : Int64} (hd : decode cc pc = .ok (.lstore i, 2)) {pc' : Nat} (hp : pc + 2 = pc') (hc : mx_c1 lo i) (hn : i + 1 < nL) {lo' : List (Option Value)} (hs : (lo.set i (some (.long x))).set (i + 1) none = lo') (k : mx_V p l e R s m args below meth c G base nL Q h kc ks pc' lo' st) : mx_V p l e R s m args below meth c G base nL Q h kc ks pc lo (.long x :: st) := by
  subst hp
  subst hs
  exact fun H locs ls hR hS hL => lv_lstore C.1 C.2.1 hd hL.has hn rfl (fun ls' h' => k H locs ls' hR hS (mx_L.set2 hc h'))
theorem mx_iinc (C : mx_C p s m args meth c cc nL own G base) {i : Nat} {n : Int} {x v : Int32} (hd : decode cc pc = .ok (.iinc i n, 3)) {pc' : Nat} (hp : pc + 3 = pc') (hl : lo[i]? = some (some (.int x))) (hv : x + Int32.ofInt n = v) (hc : mx_c1 lo i) (hn : i < nL) {lo' : List (Option Value)} (hs : lo.set i (some (.int v)) = lo') (k : mx_V p l e R s m args below meth c G base nL Q h kc ks pc' lo' st) : mx_V p l e R s m args below meth c G base nL Q h kc ks pc lo st := by
  subst hp
  subst hs
  intro H locs ls hR hS hL
  obtain ⟨j, hj⟩ := List.getElem?_of_mem (mx_al_mem.mpr hl)
  exact lv_iinc C.1 C.2.1 hd hL.has hj hv hn rfl (fun ls' h' => k H locs ls' hR hS (mx_L.set1 hc h'))

theorem mx_iadd (C : mx_C p s m args meth c cc nL own G base) {x y : Int32}  (hd : decode cc pc = .ok (.iadd, 1)) {pc' : Nat} (hp : pc + 1 = pc') (k : mx_V p l e R s m args below meth c G base nL Q h kc ks pc' lo (.int (x + y) :: st)) : mx_V p l e R s m args below meth c G base nL Q h kc ks pc lo (.int y :: .int x :: st) := by
  subst hp
  exact fun H locs ls hR hS hL => lv_iadd C.1 C.2.1 hd  (k H locs ls hR hS hL)

theorem mx_isub (C : mx_C p s m args meth c cc nL own G base) {x y : Int32}  (hd : decode cc pc = .ok (.isub, 1)) {pc' : Nat} (hp : pc + 1 = pc') (k : mx_V p l e R s m args below meth c G base nL Q h kc ks pc' lo (.int (x - y) :: st)) : mx_V p l e R s m args below meth c G base nL Q h kc ks pc lo (.int y :: .int x :: st) := by
  subst hp
  exact fun H locs ls hR hS hL => lv_isub C.1 C.2.1 hd  (k H locs ls hR hS hL)

theorem mx_imul (C : mx_C p s m args meth c cc nL own G base) {x y : Int32}  (hd : decode cc pc = .ok (.imul, 1)) {pc' : Nat} (hp : pc + 1 = pc') (k : mx_V p l e R s m args below meth c G base nL Q h kc ks pc' lo (.int (x * y) :: st)) : mx_V p l e R s m args below meth c G base nL Q h kc ks pc lo (.int y :: .int x :: st) := by
  subst hp
  exact fun H locs ls hR hS hL => lv_imul C.1 C.2.1 hd  (k H locs ls hR hS hL)

theorem mx_iand (C : mx_C p s m args meth c cc nL own G base) {x y : Int32}  (hd : decode cc pc = .ok (.iand, 1)) {pc' : Nat} (hp : pc + 1 = pc') (k : mx_V p l e R s m args below meth c G base nL Q h kc ks pc' lo (.int (x &&& y) :: st)) : mx_V p l e R s m args below meth c G base nL Q h kc ks pc lo (.int y :: .int x :: st) := by
  subst hp
  exact fun H locs ls hR hS hL => lv_iand C.1 C.2.1 hd  (k H locs ls hR hS hL)

theorem mx_ior (C : mx_C p s m args meth c cc nL own G base) {x y : Int32}  (hd : decode cc pc = .ok (.ior, 1)) {pc' : Nat} (hp : pc + 1 = pc') (k : mx_V p l e R s m args below meth c G base nL Q h kc ks pc' lo (.int (x ||| y) :: st)) : mx_V p l e R s m args below meth c G base nL Q h kc ks pc lo (.int y :: .int x :: st) := by
  subst hp
  exact fun H locs ls hR hS hL => lv_ior C.1 C.2.1 hd  (k H locs ls hR hS hL)

theorem mx_ladd (C : mx_C p s m args meth c cc nL own G base) {x y : Int64}  (hd : decode cc pc = .ok (.ladd, 1)) {pc' : Nat} (hp : pc + 1 = pc') (k : mx_V p l e R s m args below meth c G base nL Q h kc ks pc' lo (.long (x + y) :: st)) : mx_V p l e R s m args below meth c G base nL Q h kc ks pc lo (.long y :: .long x :: st) := by
  subst hp
  exact fun H locs ls hR hS hL => lv_ladd C.1 C.2.1 hd  (k H locs ls hR hS hL)

theorem mx_lsub (C : mx_C p s m args meth c cc nL own G base) {x y : Int64}  (hd : decode cc pc = .ok (.lsub, 1)) {pc' : Nat} (hp : pc + 1 = pc') (k : mx_V p l e R s m args below meth c G base nL Q h kc ks pc' lo (.long (x - y) :: st)) : mx_V p l e R s m args below meth c G base nL Q h kc ks pc lo (.long y :: .long x :: st) := by
  subst hp
  exact fun H locs ls hR hS hL => lv_lsub C.1 C.2.1 hd  (k H locs ls hR hS hL)

theorem mx_lmul (C : mx_C p s m args meth c cc nL own G base) {x y : Int64}  (hd : decode cc pc = .ok (.lmul, 1)) {pc' : Nat} (hp : pc + 1 = pc') (k : mx_V p l e R s m args below meth c G base nL Q h kc ks pc' lo (.long (x * y) :: st)) : mx_V p l e R s m args below meth c G base nL Q h kc ks pc lo (.long y :: .long x :: st) := by
  subst hp
  exact fun H locs ls hR hS hL => lv_lmul C.1 C.2.1 hd  (k H locs ls hR hS hL)

theorem mx_lor (C : mx_C p s m args meth c cc nL own G base) {x y : Int64}  (hd : decode cc pc = .ok (.lor, 1)) {pc' : Nat} (hp : pc + 1 = pc') (k : mx_V p l e R s m args below meth c G base nL Q h kc ks pc' lo (.long (x ||| y) :: st)) : mx_V p l e R s m args below meth c G base nL Q h kc ks pc lo (.long y :: .long x :: st) := by
  subst hp
  exact fun H locs ls hR hS hL => lv_lor C.1 C.2.1 hd  (k H locs ls hR hS hL)

theorem mx_land (C : mx_C p s m args meth c cc nL own G base) {x y : Int64}  (hd : decode cc pc = .ok (.land, 1)) {pc' : Nat} (hp : pc + 1 = pc') (k : mx_V p l e R s m args below meth c G base nL Q h kc ks pc' lo (.long (x &&& y) :: st)) : mx_V p l e R s m args below meth c G base nL Q h kc ks pc lo (.long y :: .long x :: st) := by
  subst hp
  exact fun H locs ls hR hS hL => lv_land C.1 C.2.1 hd  (k H locs ls hR hS hL)

theorem mx_idiv (C : mx_C p s m args meth c cc nL own G base) {x y : Int32} (hne : ¬ y = 0) (hd : decode cc pc = .ok (.idiv, 1)) {pc' : Nat} (hp : pc + 1 = pc') (k : mx_V p l e R s m args below meth c G base nL Q h kc ks pc' lo (.int (x / y) :: st)) : mx_V p l e R s m args below meth c G base nL Q h kc ks pc lo (.int y :: .int x :: st) := by
  subst hp
  exact fun H locs ls hR hS hL => lv_idiv C.1 C.2.1 hd hne (k H locs ls hR hS hL)

theorem mx_irem (C : mx_C p s m args meth c cc nL own G base) {x y : Int32} (hne : ¬ y = 0) (hd : decode cc pc = .ok (.irem, 1)) {pc' : Nat} (hp : pc + 1 = pc') (k : mx_V p l e R s m args below meth c G base nL Q h kc ks pc' lo (.int (x - x / y * y) :: st)) : mx_V p l e R s m args below meth c G base nL Q h kc ks pc lo (.int y :: .int x :: st) := by
  subst hp
  exact fun H locs ls hR hS hL => lv_irem C.1 C.2.1 hd hne (k H locs ls hR hS hL)

theorem mx_ldiv (C : mx_C p s m args meth c cc nL own G base) {x y : Int64} (hne : ¬ y = 0) (hd : decode cc pc = .ok (.ldiv, 1)) {pc' : Nat} (hp : pc + 1 = pc') (k : mx_V p l e R s m args below meth c G base nL Q h kc ks pc' lo (.long (x / y) :: st)) : mx_V p l e R s m args below meth c G base nL Q h kc ks pc lo (.long y :: .long x :: st) := by
  subst hp
  exact fun H locs ls hR hS hL => lv_ldiv C.1 C.2.1 hd hne (k H locs ls hR hS hL)

theorem mx_lrem (C : mx_C p s m args meth c cc nL own G base) {x y : Int64} (hne : ¬ y = 0) (hd : decode cc pc = .ok (.lrem, 1)) {pc' : Nat} (hp : pc + 1 = pc') (k : mx_V p l e R s m args below meth c G base nL Q h kc ks pc' lo (.long (x - x / y * y) :: st)) : mx_V p l e R s m args below meth c G base nL Q h kc ks pc lo (.long y :: .long x :: st) := by
  subst hp
  exact fun H locs ls hR hS hL => lv_lrem C.1 C.2.1 hd hne (k H locs ls hR hS hL)

theorem mx_ineg (C : mx_C p s m args meth c cc nL own G base) {x : Int32}  (hd : decode cc pc = .ok (.ineg, 1)) {pc' : Nat} (hp : pc + 1 = pc') (k : mx_V p l e R s m args below meth c G base nL Q h kc ks pc' lo (.int (-x) :: st)) : mx_V p l e R s m args below meth c G base nL Q h kc ks pc lo (.int x :: st) := by
  subst hp
  exact fun H locs ls hR hS hL => lv_ineg C.1 C.2.1 hd  (k H locs ls hR hS hL)

theorem mx_ishl (C : mx_C p s m args meth c cc nL own G base) {x y : Int32}  (hd : decode cc pc = .ok (.ishl, 1)) {pc' : Nat} (hp : pc + 1 = pc') (k : mx_V p l e R s m args below meth c G base nL Q h kc ks pc' lo (.int (x <<< (y &&& 31)) :: st)) : mx_V p l e R s m args below meth c G base nL Q h kc ks pc lo (.int y :: .int x :: st) := by
  subst hp
  exact fun H locs ls hR hS hL => lv_ishl C.1 C.2.1 hd  (k H locs ls hR hS hL)

theorem mx_i2l (C : mx_C p s m args meth c cc nL own G base) {x : Int32} {v : Int64} (hv : x.toInt64 = v) (hd : decode cc pc = .ok (.i2l, 1)) {pc' : Nat} (hp : pc + 1 = pc') (k : mx_V p l e R s m args below meth c G base nL Q h kc ks pc' lo (.long v :: st)) : mx_V p l e R s m args below meth c G base nL Q h kc ks pc lo (.int x :: st) := by
  subst hp
  exact fun H locs ls hR hS hL => lv_i2l C.1 C.2.1 hd hv (k H locs ls hR hS hL)

theorem mx_l2i (C : mx_C p s m args meth c cc nL own G base) {x : Int64} {v : Int32} (hv : x.toInt32 = v) (hd : decode cc pc = .ok (.l2i, 1)) {pc' : Nat} (hp : pc + 1 = pc') (k : mx_V p l e R s m args below meth c G base nL Q h kc ks pc' lo (.int v :: st)) : mx_V p l e R s m args below meth c G base nL Q h kc ks pc lo (.long x :: st) := by
  subst hp
  exact fun H locs ls hR hS hL => lv_l2i C.1 C.2.1 hd hv (k H locs ls hR hS hL)

theorem mx_i2b (C : mx_C p s m args meth c cc nL own G base) {x v : Int32} (hv : x.toInt8.toInt32 = v) (hd : decode cc pc = .ok (.i2b, 1)) {pc' : Nat} (hp : pc + 1 = pc') (k : mx_V p l e R s m args below meth c G base nL Q h kc ks pc' lo (.int v :: st)) : mx_V p l e R s m args below meth c G base nL Q h kc ks pc lo (.int x :: st) := by
  subst hp
  exact fun H locs ls hR hS hL => lv_i2b C.1 C.2.1 hd hv (k H locs ls hR hS hL)

theorem mx_i2c (C : mx_C p s m args meth c cc nL own G base) {x v : Int32} (hv : (x.toUInt32 % 65536).toInt32 = v) (hd : decode cc pc = .ok (.i2c, 1)) {pc' : Nat} (hp : pc + 1 = pc') (k : mx_V p l e R s m args below meth c G base nL Q h kc ks pc' lo (.int v :: st)) : mx_V p l e R s m args below meth c G base nL Q h kc ks pc lo (.int x :: st) := by
  subst hp
  exact fun H locs ls hR hS hL => lv_i2c C.1 C.2.1 hd hv (k H locs ls hR hS hL)

theorem mx_lshl (C : mx_C p s m args meth c cc nL own G base) {x v : Int64} {y : Int32} (hv : x <<< (y.toInt64 &&& 63) = v) (hd : decode cc pc = .ok (.lshl, 1)) {pc' : Nat} (hp : pc + 1 = pc') (k : mx_V p l e R s m args below meth c G base nL Q h kc ks pc' lo (.long v :: st)) : mx_V p l e R s m args below meth c G base nL Q h kc ks pc lo (.int y :: .long x :: st) := by
  subst hp
  exact fun H locs ls hR hS hL => lv_lshl C.1 C.2.1 hd hv (k H locs ls hR hS hL)

theorem mx_lcmp (C : mx_C p s m args meth c cc nL own G base) {x y : Int64}  (hd : decode cc pc = .ok (.lcmp, 1)) {pc' : Nat} (hp : pc + 1 = pc') (k : mx_V p l e R s m args below meth c G base nL Q h kc ks pc' lo (.int (lg_cmp x y) :: st)) : mx_V p l e R s m args below meth c G base nL Q h kc ks pc lo (.long y :: .long x :: st) := by
  subst hp
  exact fun H locs ls hR hS hL => W.lcmp C.1 C.2.1 hd  (k H locs ls hR hS hL)

theorem mx_dup (C : mx_C p s m args meth c cc nL own G base) {va : Value} (hva : va.category = 1) (hd : decode cc pc = .ok (.dup, 1)) {pc' : Nat} (hp : pc + 1 = pc') (k : mx_V p l e R s m args below meth c G base nL Q h kc ks pc' lo (va :: va :: st)) : mx_V p l e R s m args below meth c G base nL Q h kc ks pc lo (va :: st) := by
  subst hp
  exact fun H locs ls hR hS hL => lv_dup C.1 C.2.1 hd hva (k H locs ls hR hS hL)

theorem mx_pop (C : mx_C p s m args meth c cc nL own G base) {va : Value} (hva : va.category = 1) (hd : decode cc pc = .ok (.pop, 1)) {pc' : Nat} (hp : pc + 1 = pc') (k : mx_V p l e R s m args below meth c G base nL Q h kc ks pc' lo st) : mx_V p l e R s m args below meth c G base nL Q h kc ks pc lo (va :: st) := by
  subst hp
  exact fun H locs ls hR hS hL => lv_pop C.1 C.2.1 hd hva (k H locs ls hR hS hL)

theorem mx_dup2 (C : mx_C p s m args meth c cc nL own G base) {va vb : Value} (hva : va.category = 1) (hvb : vb.category = 1) (hd : decode cc pc = .ok (.dup2, 1)) {pc' : Nat} (hp : pc + 1 = pc') (k : mx_V p l e R s m args below meth c G base nL Q h kc ks pc' lo (va :: vb :: va :: vb :: st)) : mx_V p l e R s m args below meth c G base nL Q h kc ks pc lo (va :: vb :: st) := by
  subst hp
  exact fun H locs ls hR hS hL => lv_dup2_11 C.1 C.2.1 hd hva hvb (k H locs ls hR hS hL)

theorem mx_ldc2 (C : mx_C p s m args meth c cc nL own G base) {index : Nat} {v : Int64} (hw : Cond.constantLong own index v ∈ mx_tb) (hd : decode cc pc = .ok (.ldc2_w index, 3)) {pc' : Nat} (hp : pc + 3 = pc') (k : mx_V p l e R s m args below meth c G base nL Q h kc ks pc' lo (.long v :: st)) : mx_V p l e R s m args below meth c G base nL Q h kc ks pc lo st := by
  subst hp
  exact fun H locs ls hR hS hL => lv_ldc2 C.1 C.2.1 C.2.2.2.1 (C.2.2.2.2.1 _ hw) hd (k H locs ls hR hS hL)
theorem mx_top {x y : Int32} (e0 : x = y) (k : mx_V p l e R s m args below meth c G base nL Q h kc ks pc lo (.int y :: st)) : mx_V p l e R s m args below meth c G base nL Q h kc ks pc lo (.int x :: st) := by
  subst e0
  exact k
theorem mx_topl {x y : Int64} (e0 : x = y) (k : mx_V p l e R s m args below meth c G base nL Q h kc ks pc lo (.long y :: st)) : mx_V p l e R s m args below meth c G base nL Q h kc ks pc lo (.long x :: st) := by
  subst e0
  exact k
theorem mx_heap {h' : mx_H} (e0 : h = h') (k : mx_V p l e R s m args below meth c G base nL Q h' kc ks pc lo st) : mx_V p l e R s m args below meth c G base nL Q h kc ks pc lo st := by
  subst e0
  exact k

theorem mx_if_eq (C : mx_C p s m args meth c cc nL own G base) {x : Int32} {off : Int} {tgt : Nat} (hd : decode cc pc = .ok (.ifCond .eq off, 3)) (ht : (pc : Int) + off = (tgt : Int)) {pc' : Nat} (hp : pc + 3 = pc') (kt : x = 0 → mx_V p l e R s m args below meth c G base nL Q h kc ks tgt lo st) (kf : ¬ x = 0 → mx_V p l e R s m args below meth c G base nL Q h kc ks pc' lo st) : mx_V p l e R s m args below meth c G base nL Q h kc ks pc lo (.int x :: st) := by
  subst hp
  exact fun H locs ls hR hS hL => lv_if_eq C.1 C.2.1 hd ht (fun z => kt z H locs ls hR hS hL) (fun z => kf z H locs ls hR hS hL)

theorem mx_icmp_eq (C : mx_C p s m args meth c cc nL own G base) {x y : Int32} {off : Int} {tgt : Nat} (hd : decode cc pc = .ok (.if_icmp .eq off, 3)) (ht : (pc : Int) + off = (tgt : Int)) {pc' : Nat} (hp : pc + 3 = pc') (kt : x = y → mx_V p l e R s m args below meth c G base nL Q h kc ks tgt lo st) (kf : ¬ x = y → mx_V p l e R s m args below meth c G base nL Q h kc ks pc' lo st) : mx_V p l e R s m args below meth c G base nL Q h kc ks pc lo (.int y :: .int x :: st) := by
  subst hp
  exact fun H locs ls hR hS hL => lv_icmp_eq C.1 C.2.1 hd ht (fun z => kt z H locs ls hR hS hL) (fun z => kf z H locs ls hR hS hL)

theorem mx_if_ne (C : mx_C p s m args meth c cc nL own G base) {x : Int32} {off : Int} {tgt : Nat} (hd : decode cc pc = .ok (.ifCond .ne off, 3)) (ht : (pc : Int) + off = (tgt : Int)) {pc' : Nat} (hp : pc + 3 = pc') (kt : ¬ x = 0 → mx_V p l e R s m args below meth c G base nL Q h kc ks tgt lo st) (kf : x = 0 → mx_V p l e R s m args below meth c G base nL Q h kc ks pc' lo st) : mx_V p l e R s m args below meth c G base nL Q h kc ks pc lo (.int x :: st) := by
  subst hp
  exact fun H locs ls hR hS hL => lv_if_ne C.1 C.2.1 hd ht (fun z => kt z H locs ls hR hS hL) (fun z => kf z H locs ls hR hS hL)

theorem mx_icmp_ne (C : mx_C p s m args meth c cc nL own G base) {x y : Int32} {off : Int} {tgt : Nat} (hd : decode cc pc = .ok (.if_icmp .ne off, 3)) (ht : (pc : Int) + off = (tgt : Int)) {pc' : Nat} (hp : pc + 3 = pc') (kt : ¬ x = y → mx_V p l e R s m args below meth c G base nL Q h kc ks tgt lo st) (kf : x = y → mx_V p l e R s m args below meth c G base nL Q h kc ks pc' lo st) : mx_V p l e R s m args below meth c G base nL Q h kc ks pc lo (.int y :: .int x :: st) := by
  subst hp
  exact fun H locs ls hR hS hL => lv_icmp_ne C.1 C.2.1 hd ht (fun z => kt z H locs ls hR hS hL) (fun z => kf z H locs ls hR hS hL)

theorem mx_if_lt (C : mx_C p s m args meth c cc nL own G base) {x : Int32} {off : Int} {tgt : Nat} (hd : decode cc pc = .ok (.ifCond .lt off, 3)) (ht : (pc : Int) + off = (tgt : Int)) {pc' : Nat} (hp : pc + 3 = pc') (kt : x < 0 → mx_V p l e R s m args below meth c G base nL Q h kc ks tgt lo st) (kf : ¬ x < 0 → mx_V p l e R s m args below meth c G base nL Q h kc ks pc' lo st) : mx_V p l e R s m args below meth c G base nL Q h kc ks pc lo (.int x :: st) := by
  subst hp
  exact fun H locs ls hR hS hL => lv_if_lt C.1 C.2.1 hd ht (fun z => kt z H locs ls hR hS hL) (fun z => kf z H locs ls hR hS hL)

theorem mx_icmp_lt (C : mx_C p s m args meth c cc nL own G base) {x y : Int32} {off : Int} {tgt : Nat} (hd : decode cc pc = .ok (.if_icmp .lt off, 3)) (ht : (pc : Int) + off = (tgt : Int)) {pc' : Nat} (hp : pc + 3 = pc') (kt : x < y → mx_V p l e R s m args below meth c G base nL Q h kc ks tgt lo st) (kf : ¬ x < y → mx_V p l e R s m args below meth c G base nL Q h kc ks pc' lo st) : mx_V p l e R s m args below meth c G base nL Q h kc ks pc lo (.int y :: .int x :: st) := by
  subst hp
  exact fun H locs ls hR hS hL => lv_icmp_lt C.1 C.2.1 hd ht (fun z => kt z H locs ls hR hS hL) (fun z => kf z H locs ls hR hS hL)

theorem mx_if_ge (C : mx_C p s m args meth c cc nL own G base) {x : Int32} {off : Int} {tgt : Nat} (hd : decode cc pc = .ok (.ifCond .ge off, 3)) (ht : (pc : Int) + off = (tgt : Int)) {pc' : Nat} (hp : pc + 3 = pc') (kt : 0 ≤ x → mx_V p l e R s m args below meth c G base nL Q h kc ks tgt lo st) (kf : ¬ 0 ≤ x → mx_V p l e R s m args below meth c G base nL Q h kc ks pc' lo st) : mx_V p l e R s m args below meth c G base nL Q h kc ks pc lo (.int x :: st) := by
  subst hp
  exact fun H locs ls hR hS hL => lv_if_ge C.1 C.2.1 hd ht (fun z => kt z H locs ls hR hS hL) (fun z => kf z H locs ls hR hS hL)

theorem mx_icmp_ge (C : mx_C p s m args meth c cc nL own G base) {x y : Int32} {off : Int} {tgt : Nat} (hd : decode cc pc = .ok (.if_icmp .ge off, 3)) (ht : (pc : Int) + off = (tgt : Int)) {pc' : Nat} (hp : pc + 3 = pc') (kt : y ≤ x → mx_V p l e R s m args below meth c G base nL Q h kc ks tgt lo st) (kf : ¬ y ≤ x → mx_V p l e R s m args below meth c G base nL Q h kc ks pc' lo st) : mx_V p l e R s m args below meth c G base nL Q h kc ks pc lo (.int y :: .int x :: st) := by
  subst hp
  exact fun H locs ls hR hS hL => lv_icmp_ge C.1 C.2.1 hd ht (fun z => kt z H locs ls hR hS hL) (fun z => kf z H locs ls hR hS hL)

theorem mx_if_gt (C : mx_C p s m args meth c cc nL own G base) {x : Int32} {off : Int} {tgt : Nat} (hd : decode cc pc = .ok (.ifCond .gt off, 3)) (ht : (pc : Int) + off = (tgt : Int)) {pc' : Nat} (hp : pc + 3 = pc') (kt : 0 < x → mx_V p l e R s m args below meth c G base nL Q h kc ks tgt lo st) (kf : ¬ 0 < x → mx_V p l e R s m args below meth c G base nL Q h kc ks pc' lo st) : mx_V p l e R s m args below meth c G base nL Q h kc ks pc lo (.int x :: st) := by
  subst hp
  exact fun H locs ls hR hS hL => lv_if_gt C.1 C.2.1 hd ht (fun z => kt z H locs ls hR hS hL) (fun z => kf z H locs ls hR hS hL)

theorem mx_icmp_gt (C : mx_C p s m args meth c cc nL own G base) {x y : Int32} {off : Int} {tgt : Nat} (hd : decode cc pc = .ok (.if_icmp .gt off, 3)) (ht : (pc : Int) + off = (tgt : Int)) {pc' : Nat} (hp : pc + 3 = pc') (kt : y < x → mx_V p l e R s m args below meth c G base nL Q h kc ks tgt lo st) (kf : ¬ y < x → mx_V p l e R s m args below meth c G base nL Q h kc ks pc' lo st) : mx_V p l e R s m args below meth c G base nL Q h kc ks pc lo (.int y :: .int x :: st) := by
  subst hp
  exact fun H locs ls hR hS hL => lv_icmp_gt C.1 C.2.1 hd ht (fun z => kt z H locs ls hR hS hL) (fun z => kf z H locs ls hR hS hL)

theorem mx_if_le (C : mx_C p s m args meth c cc nL own G base) {x : Int32} {off : Int} {tgt : Nat} (hd : decode cc pc = .ok (.ifCond .le off, 3)) (ht : (pc : Int) + off = (tgt : Int)) {pc' : Nat} (hp : pc + 3 = pc') (kt : x ≤ 0 → mx_V p l e R s m args below meth c G base nL Q h kc ks tgt lo st) (kf : ¬ x ≤ 0 → mx_V p l e R s m args below meth c G base nL Q h kc ks pc' lo st) : mx_V p l e R s m args below meth c G base nL Q h kc ks pc lo (.int x :: st) := by
  subst hp
  exact fun H locs ls hR hS hL => lv_if_le C.1 C.2.1 hd ht (fun z => kt z H locs ls hR hS hL) (fun z => kf z H locs ls hR hS hL)

theorem mx_icmp_le (C : mx_C p s m args meth c cc nL own G base) {x y : Int32} {off : Int} {tgt : Nat} (hd : decode cc pc = .ok (.if_icmp .le off, 3)) (ht : (pc : Int) + off = (tgt : Int)) {pc' : Nat} (hp : pc + 3 = pc') (kt : x ≤ y → mx_V p l e R s m args below meth c G base nL Q h kc ks tgt lo st) (kf : ¬ x ≤ y → mx_V p l e R s m args below meth c G base nL Q h kc ks pc' lo st) : mx_V p l e R s m args below meth c G base nL Q h kc ks pc lo (.int y :: .int x :: st) := by
  subst hp
  exact fun H locs ls hR hS hL => lv_icmp_le C.1 C.2.1 hd ht (fun z => kt z H locs ls hR hS hL) (fun z => kf z H locs ls hR hS hL)

theorem mx_goto (C : mx_C p s m args meth c cc nL own G base) {off : Int} {tgt : Nat} (hd : decode cc pc = .ok (.goto off, 3)) (ht : (pc : Int) + off = (tgt : Int)) (k : mx_V p l e R s m args below meth c G base nL Q h kc ks tgt lo st) : mx_V p l e R s m args below meth c G base nL Q h kc ks pc lo st := fun H locs ls hR hS hL => lv_goto C.1 C.2.1 hd ht (k H locs ls hR hS hL)
theorem mx_ifnull (C : mx_C p s m args meth c cc nL own G base) {x : Option Nat} {off : Int} {tgt : Nat} (hd : decode cc pc = .ok (.ifnull off, 3)) (ht : (pc : Int) + off = (tgt : Int)) {pc' : Nat} (hp : pc + 3 = pc') (kt : x = none → mx_V p l e R s m args below meth c G base nL Q h kc ks tgt lo st) (kf : ∀ a, x = some a → mx_V p l e R s m args below meth c G base nL Q h kc ks pc' lo st) : mx_V p l e R s m args below meth c G base nL Q h kc ks pc lo (va_rf x :: st) := by
  subst hp
  intro H locs ls hR hS hL
  cases x with
  | none => exact lv_ifnullN C.1 C.2.1 hd ht (kt rfl H locs ls hR hS hL)
  | some a => exact lv_ifnull C.1 C.2.1 hd (kf a rfl H locs ls hR hS hL)
theorem mx_ifnonnull (C : mx_C p s m args meth c cc nL own G base) {x : Option Nat} {off : Int} {tgt : Nat} (hd : decode cc pc = .ok (.ifnonnull off, 3)) (ht : (pc : Int) + off = (tgt : Int)) {pc' : Nat} (hp : pc + 3 = pc') (kt : ∀ a, x = some a → mx_V p l e R s m args below meth c G base nL Q h kc ks tgt lo st) (kf : x = none → mx_V p l e R s m args below meth c G base nL Q h kc ks pc' lo st) : mx_V p l e R s m args below meth c G base nL Q h kc ks pc lo (va_rf x :: st) := by
  subst hp
  intro H locs ls hR hS hL
  cases x with
  | none => exact lv_ifnonnullN C.1 C.2.1 hd (kf rfl H locs ls hR hS hL)
  | some a => exact lv_ifnonnull C.1 C.2.1 hd ht (kt a rfl H locs ls hR hS hL)
theorem mx_acmp_eq (C : mx_C p s m args meth c cc nL own G base) {x y : Option Nat} {off : Int} {tgt : Nat} (hd : decode cc pc = .ok (.if_acmp .eq off, 3)) (ht : (pc : Int) + off = (tgt : Int)) {pc' : Nat} (hp : pc + 3 = pc') (kt : x = y → mx_V p l e R s m args below meth c G base nL Q h kc ks tgt lo st) (kf : ¬ x = y → mx_V p l e R s m args below meth c G base nL Q h kc ks pc' lo st) : mx_V p l e R s m args below meth c G base nL Q h kc ks pc lo (va_rf y :: va_rf x :: st) := by
  subst hp
  exact fun H locs ls hR hS hL => lv_acmp_eq C.1 C.2.1 hd ht (fun z => kt z H locs ls hR hS hL) (fun z => kf z H locs ls hR hS hL)
theorem mx_acmp_ne (C : mx_C p s m args meth c cc nL own G base) {x y : Option Nat} {off : Int} {tgt : Nat} (hd : decode cc pc = .ok (.if_acmp .ne off, 3)) (ht : (pc : Int) + off = (tgt : Int)) {pc' : Nat} (hp : pc + 3 = pc') (kt : ¬ x = y → mx_V p l e R s m args below meth c G base nL Q h kc ks tgt lo st) (kf : x = y → mx_V p l e R s m args below meth c G base nL Q h kc ks pc' lo st) : mx_V p l e R s m args below meth c G base nL Q h kc ks pc lo (va_rf y :: va_rf x :: st) := by
  subst hp
  exact fun H locs ls hR hS hL => lv_acmp_ne C.1 C.2.1 hd ht (fun z => kt z H locs ls hR hS hL) (fun z => kf z H locs ls hR hS hL)
theorem mx_get (C : mx_C p s m args meth c cc nL own G base) {cn : String} {T : u_T} {N ci j index a : Nat} {fs : List Value} {v : Value} (hcl : mxCl[ci]? = some (cn, T, N)) (hin : ∀ w ∈ u_ws cn T N, w ∈ mx_tb) (hj : j < N) (hw : Cond.fieldLink own index (T j).1 (T j).2.1 (T j).2.2.1 ∈ mx_tb) (hd : decode cc pc = .ok (.getfield index, 3)) {pc' : Nat} (hp : pc + 3 = pc') (ha : h a = some (.inr (ci, fs))) (hv : fs[j]? = some v) (k : mx_V p l e R s m args below meth c G base nL Q h kc ks pc' lo (v :: st)) : mx_V p l e R s m args below meth c G base nL Q h kc ks pc lo (.ref a :: st) := by
  subst hp
  exact fun H locs ls hR hS hL => va_get C.1 C.2.1 C.2.2.2.2.1 hin C.2.2.2.1 C.2.2.2.2.2.1 (hR.one ha) 0 rfl hcl j hj (C.2.2.2.2.1 _ hw) (fun _ z => z) hv hd (k H locs ls hR hS hL)
theorem mx_put (C : mx_C p s m args meth c cc nL own G base) {cn : String} {T : u_T} {N ci j index a : Nat} {fs : List Value} {v : Value} {ty : FieldType} (hcl : mxCl[ci]? = some (cn, T, N)) (hin : ∀ w ∈ u_ws cn T N, w ∈ mx_tb) (ty0 : Nat → FieldType) (hty : ∀ k, k < N → parseFieldDescriptor (T k).2.2.1 = some (ty0 k)) (hnm : ∀ a, a < N → ∀ b, b < N → a ≠ b → (T a).2.1 ≠ (T b).2.1) (hj : j < N) (hw : Cond.fieldLink own index (T j).1 (T j).2.1 (T j).2.2.1 ∈ mx_tb) (hfin : (T j).2.2.2 = false) (hdc : parseFieldDescriptor (T j).2.2.1 = some ty) (hd : decode cc pc = .ok (.putfield index, 3)) {pc' : Nat} (hp : pc + 3 = pc') (ha : h a = some (.inr (ci, fs))) (hl : j < fs.length) (hn : narrow ty v = v) (hf : fits ty v = true) {fs' : List Value} (hs' : fs.set j v = fs') (k : mx_V p l e R s m args below meth c G base nL Q (va_up h a (some (.inr (ci, fs')))) kc ks pc' lo st) : mx_V p l e R s m args below meth c G base nL Q h kc ks pc lo (v :: .ref a :: st) := by
  subst hp
  subst hs'
  intro H locs ls hR hS hL
  obtain ⟨L, f, q, hh, hP, hD, hm, he, hq⟩ := hR.get ha
  exact va_put C.1 C.2.1 C.2.2.2.2.1 hin ty0 hty hnm C.2.2.2.1 C.2.2.2.2.2.1 hP hD hS q hq hcl j hj (C.2.2.2.2.1 _ hw) (fun _ z => z) hfin hdc hn hf hl hd (fun H1 locs1 hP1 hD1 hS1 => k H1 locs1 ls (mx_R.set hh hD hm he hq hP1 hD1) hS1 hL)
theorem mx_putF (C : mx_C p s m args meth c cc nL own G base) {cn : String} {T : u_T} {N ci j index a : Nat} {fs : List Value} {v : Value} {ty : FieldType} (hcl : mxCl[ci]? = some (cn, T, N)) (hin : ∀ w ∈ u_ws cn T N, w ∈ mx_tb) (ty0 : Nat → FieldType) (hty : ∀ k, k < N → parseFieldDescriptor (T k).2.2.1 = some (ty0 k)) (hnm : ∀ a, a < N → ∀ b, b < N → a ≠ b → (T a).2.1 ≠ (T b).2.1) (hj : j < N) (hw : Cond.fieldLink own index (T j).1 (T j).2.1 (T j).2.2.1 ∈ mx_tb) (hfin : (T j).2.2.2 = true) (hdecl : (T j).1 = own) (hdc : parseFieldDescriptor (T j).2.2.1 = some ty) (hinit : meth.name = "<init>") (hd : decode cc pc = .ok (.putfield index, 3)) {pc' : Nat} (hp : pc + 3 = pc') (ha : h a = some (.inr (ci, fs))) (hl : j < fs.length) (hn : narrow ty v = v) (hf : fits ty v = true) {fs' : List Value} (hs' : fs.set j v = fs') (k : mx_V p l e R s m args below meth c G base nL Q (va_up h a (some (.inr (ci, fs')))) kc ks pc' lo st) : mx_V p l e R s m args below meth c G base nL Q h kc ks pc lo (v :: .ref a :: st) := by
  subst hp
  subst hs'
  intro H locs ls hR hS hL
  obtain ⟨L, f, q, hh, hP, hD, hm, he, hq⟩ := hR.get ha
  exact va_putF C.1 C.2.1 C.2.2.2.2.1 hin ty0 hty hnm C.2.2.2.1 C.2.2.2.2.2.1 hP hD hS q hq hcl j hj (C.2.2.2.2.1 _ hw) (fun _ z => z) hfin hinit hdecl hdc hn hf hl hd (fun H1 locs1 hP1 hD1 hS1 => k H1 locs1 ls (mx_R.set hh hD hm he hq hP1 hD1) hS1 hL)
theorem mx_new (C : mx_C p s m args meth c cc nL own G base) {cn : String} {T : u_T} {N ci index : Nat} {fs : List Value} (hcl : mxCl[ci]? = some (cn, T, N)) (hin : ∀ w ∈ u_ws cn T N, w ∈ mx_tb) (ty0 : Nat → FieldType) (hty : ∀ k, k < N → parseFieldDescriptor (T k).2.2.1 = some (ty0 k)) (hw : Cond.classLink own index cn ∈ mx_tb) (hi : Cond.instantiable cn N ∈ mx_tb) (hini : Cond.initialized cn ∈ mx_tb) (hfs : ∀ j, j < N → defaultValue (ty0 j) = vp_V fs j) (hd : decode cc pc = .ok (.new index, 3)) {pc' : Nat} (hp : pc + 3 = pc') (hc : kc + 1 ≤ R.cells) (hsl : ks + N ≤ R.slots)
    (k : ∀ q : Nat, h q = none → mx_V p l e R s m args below meth c G base nL Q (va_up h q (some (.inr (ci, fs)))) (kc + 1) (ks + N) pc' lo (.ref q :: st)) : mx_V p l e R s m args below meth c G base nL Q h kc ks pc lo st := by
  subst hp
  intro H locs ls hR hS hL
  obtain ⟨L, f, hh, hP, hD⟩ := hR
  refine va_new C.1 C.2.1 C.2.2.2.2.1 hin ty0 hty C.2.2.2.1 (C.2.2.2.2.1 _ hw) (C.2.2.2.2.1 _ hi) (C.2.2.2.2.1 _ hini) C.2.2.2.2.2.1 hP hD hS (fun q hq => Nat.le_trans C.2.2.2.2.2.2.1 hq) hcl hfs hc hsl hd (fun q H1 hP1 hD1 hS1 => ?_)
  have hqL : q ∉ L := fun z => by
    obtain ⟨i, hi⟩ := va_pl_get (X := []) (f := f) z
    have hi : (va_pl L f)[i]? = some (q, f q) := hi
    have hlt := (List.getElem?_eq_some_iff.mp hi).1
    have h1 := hD1.1 i (va_pl L f).length (q, f q) (q, .inr (ci, fs)) (by rw [List.getElem?_append_left hlt]; exact hi) (by rw [List.getElem?_append_right (Nat.le_refl _), Nat.sub_self]; rfl) rfl
    omega
  exact k q (by rw [hh q, if_neg hqL]) H1 locs ls (mx_R.push (H := H) hh hqL hP1 hD1) hS1 hL

theorem mx_iald (C : mx_C p s m args meth c cc nL own G base) {a n j : Nat} {i : Int32} {f : Nat → Int32} (hd : decode cc pc = .ok (.iaload, 1)) {pc' : Nat} (hp : pc + 1 = pc') (ha : h a = some (.inl (G.2 0, n, .inl f))) (hi : i = nI j) (hj : j < n) (hn : n < 2 ^ 31) (k : mx_V p l e R s m args below meth c G base nL Q h kc ks pc' lo (.int (f j) :: st)) : mx_V p l e R s m args below meth c G base nL Q h kc ks pc lo (.int i :: .ref a :: st) := by
  subst hp
  subst hi
  intro H locs ls hR hS hL
  refine va_iald C.1 C.2.1 C.2.2.2.2.2.1 (hR.one ha) 0 0 rfl rfl (vp_in_nI hj hn) hd ?_
  rw [nI_clamp (Nat.lt_trans hj hn)]
  exact k H locs ls hR hS hL

theorem mx_cald (C : mx_C p s m args meth c cc nL own G base) {a n j : Nat} {i : Int32} {f : Nat → Int32} (hd : decode cc pc = .ok (.caload, 1)) {pc' : Nat} (hp : pc + 1 = pc') (ha : h a = some (.inl (G.2 2, n, .inl f))) (hi : i = nI j) (hj : j < n) (hn : n < 2 ^ 31) (k : mx_V p l e R s m args below meth c G base nL Q h kc ks pc' lo (.int (f j) :: st)) : mx_V p l e R s m args below meth c G base nL Q h kc ks pc lo (.int i :: .ref a :: st) := by
  subst hp
  subst hi
  intro H locs ls hR hS hL
  refine va_cald C.1 C.2.1 C.2.2.2.2.2.1 (hR.one ha) 0 2 rfl rfl (vp_in_nI hj hn) hd ?_
  rw [nI_clamp (Nat.lt_trans hj hn)]
  exact k H locs ls hR hS hL

theorem mx_bald (C : mx_C p s m args meth c cc nL own G base) {a n j : Nat} {i : Int32} {f : Nat → Int32} (hd : decode cc pc = .ok (.baload, 1)) {pc' : Nat} (hp : pc + 1 = pc') (ha : h a = some (.inl (G.2 3, n, .inl f))) (hi : i = nI j) (hj : j < n) (hn : n < 2 ^ 31) (k : mx_V p l e R s m args below meth c G base nL Q h kc ks pc' lo (.int (f j) :: st)) : mx_V p l e R s m args below meth c G base nL Q h kc ks pc lo (.int i :: .ref a :: st) := by
  subst hp
  subst hi
  intro H locs ls hR hS hL
  refine va_bald C.1 C.2.1 C.2.2.2.2.2.1 (hR.one ha) 0 3 rfl rfl (vp_in_nI hj hn) hd ?_
  rw [nI_clamp (Nat.lt_trans hj hn)]
  exact k H locs ls hR hS hL

theorem mx_zald (C : mx_C p s m args meth c cc nL own G base) {a n j : Nat} {i : Int32} {f : Nat → Int32} (hd : decode cc pc = .ok (.baload, 1)) {pc' : Nat} (hp : pc + 1 = pc') (ha : h a = some (.inl (G.2 4, n, .inl f))) (hi : i = nI j) (hj : j < n) (hn : n < 2 ^ 31) (k : mx_V p l e R s m args below meth c G base nL Q h kc ks pc' lo (.int (f j) :: st)) : mx_V p l e R s m args below meth c G base nL Q h kc ks pc lo (.int i :: .ref a :: st) := by
  subst hp
  subst hi
  intro H locs ls hR hS hL
  refine va_zald C.1 C.2.1 C.2.2.2.2.2.1 (hR.one ha) 0 4 rfl rfl (vp_in_nI hj hn) hd ?_
  rw [nI_clamp (Nat.lt_trans hj hn)]
  exact k H locs ls hR hS hL

theorem mx_lald (C : mx_C p s m args meth c cc nL own G base) {a n j : Nat} {i : Int32} {f : Nat → Int64} (hd : decode cc pc = .ok (.laload, 1)) {pc' : Nat} (hp : pc + 1 = pc') (ha : h a = some (.inl (G.2 1, n, .inr (.inl f)))) (hi : i = nI j) (hj : j < n) (hn : n < 2 ^ 31) (k : mx_V p l e R s m args below meth c G base nL Q h kc ks pc' lo (.long (f j) :: st)) : mx_V p l e R s m args below meth c G base nL Q h kc ks pc lo (.int i :: .ref a :: st) := by
  subst hp
  subst hi
  intro H locs ls hR hS hL
  refine va_lald C.1 C.2.1 C.2.2.2.2.2.1 (hR.one ha) 0 1 rfl rfl (vp_in_nI hj hn) hd ?_
  rw [nI_clamp (Nat.lt_trans hj hn)]
  exact k H locs ls hR hS hL

theorem mx_iast (C : mx_C p s m args meth c cc nL own G base) {a n j : Nat} {i : Int32} {x : Int32} {f : Nat → Int32} (hd : decode cc pc = .ok (.iastore, 1)) {pc' : Nat} (hp : pc + 1 = pc') (ha : h a = some (.inl (G.2 0, n, .inl f))) (hi : i = nI j) (hj : j < n) (hn : n < 2 ^ 31) (k : mx_V p l e R s m args below meth c G base nL Q (va_up h a (some (.inl (G.2 0, n, .inl (upd f j x))))) kc ks pc' lo st) : mx_V p l e R s m args below meth c G base nL Q h kc ks pc lo (.int x :: .int i :: .ref a :: st) := by
  subst hp
  subst hi
  intro H locs ls hR hS hL
  obtain ⟨L, f0, q, hh, hP, hD, hm, he, hq⟩ := hR.get ha
  refine va_iast C.1 C.2.1 C.2.2.2.2.2.1 hP hD hS q 0 hq rfl (vp_in_nI hj hn) hd (fun H1 locs1 hP1 hD1 hS1 => ?_)
  rw [nI_clamp (Nat.lt_trans hj hn)] at hP1 hD1
  exact k H1 locs1 ls (mx_R.set hh hD hm he hq hP1 hD1) hS1 hL

theorem mx_cast (C : mx_C p s m args meth c cc nL own G base) {a n j : Nat} {i : Int32} {x : Int32} {f : Nat → Int32} (hd : decode cc pc = .ok (.castore, 1)) {pc' : Nat} (hp : pc + 1 = pc') (ha : h a = some (.inl (G.2 2, n, .inl f))) (hi : i = nI j) (hj : j < n) (hn : n < 2 ^ 31) (k : mx_V p l e R s m args below meth c G base nL Q (va_up h a (some (.inl (G.2 2, n, .inl (upd f j (vp_nar .char x)))))) kc ks pc' lo st) : mx_V p l e R s m args below meth c G base nL Q h kc ks pc lo (.int x :: .int i :: .ref a :: st) := by
  subst hp
  subst hi
  intro H locs ls hR hS hL
  obtain ⟨L, f0, q, hh, hP, hD, hm, he, hq⟩ := hR.get ha
  refine va_cast C.1 C.2.1 C.2.2.2.2.2.1 hP hD hS q 2 hq rfl (vp_in_nI hj hn) hd (fun H1 locs1 hP1 hD1 hS1 => ?_)
  rw [nI_clamp (Nat.lt_trans hj hn)] at hP1 hD1
  exact k H1 locs1 ls (mx_R.set hh hD hm he hq hP1 hD1) hS1 hL

theorem mx_bast (C : mx_C p s m args meth c cc nL own G base) {a n j : Nat} {i : Int32} {x : Int32} {f : Nat → Int32} (hd : decode cc pc = .ok (.bastore, 1)) {pc' : Nat} (hp : pc + 1 = pc') (ha : h a = some (.inl (G.2 3, n, .inl f))) (hi : i = nI j) (hj : j < n) (hn : n < 2 ^ 31) (k : mx_V p l e R s m args below meth c G base nL Q (va_up h a (some (.inl (G.2 3, n, .inl (upd f j (vp_nar .byte x)))))) kc ks pc' lo st) : mx_V p l e R s m args below meth c G base nL Q h kc ks pc lo (.int x :: .int i :: .ref a :: st) := by
  subst hp
  subst hi
  intro H locs ls hR hS hL
  obtain ⟨L, f0, q, hh, hP, hD, hm, he, hq⟩ := hR.get ha
  refine va_bast C.1 C.2.1 C.2.2.2.2.2.1 hP hD hS q 3 hq rfl (vp_in_nI hj hn) hd (fun H1 locs1 hP1 hD1 hS1 => ?_)
  rw [nI_clamp (Nat.lt_trans hj hn)] at hP1 hD1
  exact k H1 locs1 ls (mx_R.set hh hD hm he hq hP1 hD1) hS1 hL

theorem mx_zast (C : mx_C p s m args meth c cc nL own G base) {a n j : Nat} {i : Int32} {x : Int32} {f : Nat → Int32} (hd : decode cc pc = .ok (.bastore, 1)) {pc' : Nat} (hp : pc + 1 = pc') (ha : h a = some (.inl (G.2 4, n, .inl f))) (hi : i = nI j) (hj : j < n) (hn : n < 2 ^ 31) (k : mx_V p l e R s m args below meth c G base nL Q (va_up h a (some (.inl (G.2 4, n, .inl (upd f j (vp_nar .boolean x)))))) kc ks pc' lo st) : mx_V p l e R s m args below meth c G base nL Q h kc ks pc lo (.int x :: .int i :: .ref a :: st) := by
  subst hp
  subst hi
  intro H locs ls hR hS hL
  obtain ⟨L, f0, q, hh, hP, hD, hm, he, hq⟩ := hR.get ha
  refine va_zast C.1 C.2.1 C.2.2.2.2.2.1 hP hD hS q 4 hq rfl (vp_in_nI hj hn) hd (fun H1 locs1 hP1 hD1 hS1 => ?_)
  rw [nI_clamp (Nat.lt_trans hj hn)] at hP1 hD1
  exact k H1 locs1 ls (mx_R.set hh hD hm he hq hP1 hD1) hS1 hL

theorem mx_last (C : mx_C p s m args meth c cc nL own G base) {a n j : Nat} {i : Int32} {x : Int64} {f : Nat → Int64} (hd : decode cc pc = .ok (.lastore, 1)) {pc' : Nat} (hp : pc + 1 = pc') (ha : h a = some (.inl (G.2 1, n, .inr (.inl f)))) (hi : i = nI j) (hj : j < n) (hn : n < 2 ^ 31) (k : mx_V p l e R s m args below meth c G base nL Q (va_up h a (some (.inl (G.2 1, n, .inr (.inl (vp_updL f j x)))))) kc ks pc' lo st) : mx_V p l e R s m args below meth c G base nL Q h kc ks pc lo (.long x :: .int i :: .ref a :: st) := by
  subst hp
  subst hi
  intro H locs ls hR hS hL
  obtain ⟨L, f0, q, hh, hP, hD, hm, he, hq⟩ := hR.get ha
  refine va_last C.1 C.2.1 C.2.2.2.2.2.1 hP hD hS q 1 hq rfl (vp_in_nI hj hn) hd (fun H1 locs1 hP1 hD1 hS1 => ?_)
  rw [nI_clamp (Nat.lt_trans hj hn)] at hP1 hD1
  exact k H1 locs1 ls (mx_R.set hh hD hm he hq hP1 hD1) hS1 hL

theorem mx_newai (C : mx_C p s m args meth c cc nL own G base) {n : Int32} {N : Nat} (hw : Cond.arrayClass .int ∈ mx_tb) (hn : n = nI N) (hN : N ≤ 60000) (hd : decode cc pc = .ok (.newarray .int, 2)) {pc' : Nat} (hp : pc + 2 = pc') (hc : kc + 1 ≤ R.cells) (hsl : ks + N ≤ R.slots)
    (k : ∀ q : Nat, h q = none → mx_V p l e R s m args below meth c G base nL Q (va_up h q (some (.inl (G.2 0, N, .inl (fun _ => 0))))) (kc + 1) (ks + N) pc' lo (.ref q :: st)) : mx_V p l e R s m args below meth c G base nL Q h kc ks pc lo (.int n :: st) := by
  subst hp
  subst hn
  intro H locs ls hR hS hL
  obtain ⟨L, f, hh, hP, hD⟩ := hR
  refine va_newa (atype := .int) (ty := .int) C.1 C.2.1 (C.2.2.2.2.1 _ hw) rfl C.2.2.2.2.2.1 hP hD hS (fun q hq => Nat.le_trans C.2.2.2.2.2.2.1 hq) (N' := N) (a0 := (N, .inl (fun _ => 0))) (fun cA => rfl) (nI_pos (by omega)) (nI_clamp (by omega)) (by show N * _ ≤ _; simp only [componentBytes]; omega) hc hsl hd (fun q cA H1 hK1 hP1 hD1 hS1 => ?_)
  have hcA : cA = G.2 0 := by
    have h1 := (hK1.2 5 (cA, .int) rfl).2
    have h2 := (C.2.2.2.2.2.1.2 0 (G.2 0, .int) rfl).2
    exact Option.some.inj (Eq.trans (Eq.symm h1) h2)
  subst hcA
  have hqL : q ∉ L := fun z => by
    obtain ⟨i, hi⟩ := va_pl_get (X := []) (f := f) z
    have hi : (va_pl L f)[i]? = some (q, f q) := hi
    have hlt := (List.getElem?_eq_some_iff.mp hi).1
    have h1 := hD1.1 i (va_pl L f).length (q, f q) (q, .inl (G.2 0, (N, .inl (fun _ => 0)))) (by rw [List.getElem?_append_left hlt]; exact hi) (by rw [List.getElem?_append_right (Nat.le_refl _), Nat.sub_self]; rfl) rfl
    omega
  exact k q (by rw [hh q, if_neg hqL]) H1 locs ls (mx_R.push (H := H) hh hqL hP1 hD1) hS1 hL

theorem mx_newal (C : mx_C p s m args meth c cc nL own G base) {n : Int32} {N : Nat} (hw : Cond.arrayClass .long ∈ mx_tb) (hn : n = nI N) (hN : N ≤ 60000) (hd : decode cc pc = .ok (.newarray .long, 2)) {pc' : Nat} (hp : pc + 2 = pc') (hc : kc + 1 ≤ R.cells) (hsl : ks + N ≤ R.slots)
    (k : ∀ q : Nat, h q = none → mx_V p l e R s m args below meth c G base nL Q (va_up h q (some (.inl (G.2 1, N, .inr (.inl (fun _ => 0)))))) (kc + 1) (ks + N) pc' lo (.ref q :: st)) : mx_V p l e R s m args below meth c G base nL Q h kc ks pc lo (.int n :: st) := by
  subst hp
  subst hn
  intro H locs ls hR hS hL
  obtain ⟨L, f, hh, hP, hD⟩ := hR
  refine va_newa (atype := .long) (ty := .long) C.1 C.2.1 (C.2.2.2.2.1 _ hw) rfl C.2.2.2.2.2.1 hP hD hS (fun q hq => Nat.le_trans C.2.2.2.2.2.2.1 hq) (N' := N) (a0 := (N, .inr (.inl (fun _ => 0)))) (fun cA => rfl) (nI_pos (by omega)) (nI_clamp (by omega)) (by show N * _ ≤ _; simp only [componentBytes]; omega) hc hsl hd (fun q cA H1 hK1 hP1 hD1 hS1 => ?_)
  have hcA : cA = G.2 1 := by
    have h1 := (hK1.2 5 (cA, .long) rfl).2
    have h2 := (C.2.2.2.2.2.1.2 1 (G.2 1, .long) rfl).2
    exact Option.some.inj (Eq.trans (Eq.symm h1) h2)
  subst hcA
  have hqL : q ∉ L := fun z => by
    obtain ⟨i, hi⟩ := va_pl_get (X := []) (f := f) z
    have hi : (va_pl L f)[i]? = some (q, f q) := hi
    have hlt := (List.getElem?_eq_some_iff.mp hi).1
    have h1 := hD1.1 i (va_pl L f).length (q, f q) (q, .inl (G.2 1, (N, .inr (.inl (fun _ => 0))))) (by rw [List.getElem?_append_left hlt]; exact hi) (by rw [List.getElem?_append_right (Nat.le_refl _), Nat.sub_self]; rfl) rfl
    omega
  exact k q (by rw [hh q, if_neg hqL]) H1 locs ls (mx_R.push (H := H) hh hqL hP1 hD1) hS1 hL

theorem mx_newac (C : mx_C p s m args meth c cc nL own G base) {n : Int32} {N : Nat} (hw : Cond.arrayClass .char ∈ mx_tb) (hn : n = nI N) (hN : N ≤ 60000) (hd : decode cc pc = .ok (.newarray .char, 2)) {pc' : Nat} (hp : pc + 2 = pc') (hc : kc + 1 ≤ R.cells) (hsl : ks + N ≤ R.slots)
    (k : ∀ q : Nat, h q = none → mx_V p l e R s m args below meth c G base nL Q (va_up h q (some (.inl (G.2 2, N, .inl (fun _ => 0))))) (kc + 1) (ks + N) pc' lo (.ref q :: st)) : mx_V p l e R s m args below meth c G base nL Q h kc ks pc lo (.int n :: st) := by
  subst hp
  subst hn
  intro H locs ls hR hS hL
  obtain ⟨L, f, hh, hP, hD⟩ := hR
  refine va_newa (atype := .char) (ty := .char) C.1 C.2.1 (C.2.2.2.2.1 _ hw) rfl C.2.2.2.2.2.1 hP hD hS (fun q hq => Nat.le_trans C.2.2.2.2.2.2.1 hq) (N' := N) (a0 := (N, .inl (fun _ => 0))) (fun cA => rfl) (nI_pos (by omega)) (nI_clamp (by omega)) (by show N * _ ≤ _; simp only [componentBytes]; omega) hc hsl hd (fun q cA H1 hK1 hP1 hD1 hS1 => ?_)
  have hcA : cA = G.2 2 := by
    have h1 := (hK1.2 5 (cA, .char) rfl).2
    have h2 := (C.2.2.2.2.2.1.2 2 (G.2 2, .char) rfl).2
    exact Option.some.inj (Eq.trans (Eq.symm h1) h2)
  subst hcA
  have hqL : q ∉ L := fun z => by
    obtain ⟨i, hi⟩ := va_pl_get (X := []) (f := f) z
    have hi : (va_pl L f)[i]? = some (q, f q) := hi
    have hlt := (List.getElem?_eq_some_iff.mp hi).1
    have h1 := hD1.1 i (va_pl L f).length (q, f q) (q, .inl (G.2 2, (N, .inl (fun _ => 0)))) (by rw [List.getElem?_append_left hlt]; exact hi) (by rw [List.getElem?_append_right (Nat.le_refl _), Nat.sub_self]; rfl) rfl
    omega
  exact k q (by rw [hh q, if_neg hqL]) H1 locs ls (mx_R.push (H := H) hh hqL hP1 hD1) hS1 hL

theorem mx_newab (C : mx_C p s m args meth c cc nL own G base) {n : Int32} {N : Nat} (hw : Cond.arrayClass .byte ∈ mx_tb) (hn : n = nI N) (hN : N ≤ 60000) (hd : decode cc pc = .ok (.newarray .byte, 2)) {pc' : Nat} (hp : pc + 2 = pc') (hc : kc + 1 ≤ R.cells) (hsl : ks + N ≤ R.slots)
    (k : ∀ q : Nat, h q = none → mx_V p l e R s m args below meth c G base nL Q (va_up h q (some (.inl (G.2 3, N, .inl (fun _ => 0))))) (kc + 1) (ks + N) pc' lo (.ref q :: st)) : mx_V p l e R s m args below meth c G base nL Q h kc ks pc lo (.int n :: st) := by
  subst hp
  subst hn
  intro H locs ls hR hS hL
  obtain ⟨L, f, hh, hP, hD⟩ := hR
  refine va_newa (atype := .byte) (ty := .byte) C.1 C.2.1 (C.2.2.2.2.1 _ hw) rfl C.2.2.2.2.2.1 hP hD hS (fun q hq => Nat.le_trans C.2.2.2.2.2.2.1 hq) (N' := N) (a0 := (N, .inl (fun _ => 0))) (fun cA => rfl) (nI_pos (by omega)) (nI_clamp (by omega)) (by show N * _ ≤ _; simp only [componentBytes]; omega) hc hsl hd (fun q cA H1 hK1 hP1 hD1 hS1 => ?_)
  have hcA : cA = G.2 3 := by
    have h1 := (hK1.2 5 (cA, .byte) rfl).2
    have h2 := (C.2.2.2.2.2.1.2 3 (G.2 3, .byte) rfl).2
    exact Option.some.inj (Eq.trans (Eq.symm h1) h2)
  subst hcA
  have hqL : q ∉ L := fun z => by
    obtain ⟨i, hi⟩ := va_pl_get (X := []) (f := f) z
    have hi : (va_pl L f)[i]? = some (q, f q) := hi
    have hlt := (List.getElem?_eq_some_iff.mp hi).1
    have h1 := hD1.1 i (va_pl L f).length (q, f q) (q, .inl (G.2 3, (N, .inl (fun _ => 0)))) (by rw [List.getElem?_append_left hlt]; exact hi) (by rw [List.getElem?_append_right (Nat.le_refl _), Nat.sub_self]; rfl) rfl
    omega
  exact k q (by rw [hh q, if_neg hqL]) H1 locs ls (mx_R.push (H := H) hh hqL hP1 hD1) hS1 hL

theorem mx_newaz (C : mx_C p s m args meth c cc nL own G base) {n : Int32} {N : Nat} (hw : Cond.arrayClass .boolean ∈ mx_tb) (hn : n = nI N) (hN : N ≤ 60000) (hd : decode cc pc = .ok (.newarray .boolean, 2)) {pc' : Nat} (hp : pc + 2 = pc') (hc : kc + 1 ≤ R.cells) (hsl : ks + N ≤ R.slots)
    (k : ∀ q : Nat, h q = none → mx_V p l e R s m args below meth c G base nL Q (va_up h q (some (.inl (G.2 4, N, .inl (fun _ => 0))))) (kc + 1) (ks + N) pc' lo (.ref q :: st)) : mx_V p l e R s m args below meth c G base nL Q h kc ks pc lo (.int n :: st) := by
  subst hp
  subst hn
  intro H locs ls hR hS hL
  obtain ⟨L, f, hh, hP, hD⟩ := hR
  refine va_newa (atype := .boolean) (ty := .boolean) C.1 C.2.1 (C.2.2.2.2.1 _ hw) rfl C.2.2.2.2.2.1 hP hD hS (fun q hq => Nat.le_trans C.2.2.2.2.2.2.1 hq) (N' := N) (a0 := (N, .inl (fun _ => 0))) (fun cA => rfl) (nI_pos (by omega)) (nI_clamp (by omega)) (by show N * _ ≤ _; simp only [componentBytes]; omega) hc hsl hd (fun q cA H1 hK1 hP1 hD1 hS1 => ?_)
  have hcA : cA = G.2 4 := by
    have h1 := (hK1.2 5 (cA, .boolean) rfl).2
    have h2 := (C.2.2.2.2.2.1.2 4 (G.2 4, .boolean) rfl).2
    exact Option.some.inj (Eq.trans (Eq.symm h1) h2)
  subst hcA
  have hqL : q ∉ L := fun z => by
    obtain ⟨i, hi⟩ := va_pl_get (X := []) (f := f) z
    have hi : (va_pl L f)[i]? = some (q, f q) := hi
    have hlt := (List.getElem?_eq_some_iff.mp hi).1
    have h1 := hD1.1 i (va_pl L f).length (q, f q) (q, .inl (G.2 4, (N, .inl (fun _ => 0)))) (by rw [List.getElem?_append_left hlt]; exact hi) (by rw [List.getElem?_append_right (Nat.le_refl _), Nat.sub_self]; rfl) rfl
    omega
  exact k q (by rw [hh q, if_neg hqL]) H1 locs ls (mx_R.push (H := H) hh hqL hP1 hD1) hS1 hL

theorem mx_aleni (C : mx_C p s m args meth c cc nL own G base) {a n : Nat} {f : Nat → Int32} (hd : decode cc pc = .ok (.arraylength, 1)) {pc' : Nat} (hp : pc + 1 = pc') (ha : h a = some (.inl (G.2 0, n, .inl f))) (k : mx_V p l e R s m args below meth c G base nL Q h kc ks pc' lo (.int (nI n) :: st)) : mx_V p l e R s m args below meth c G base nL Q h kc ks pc lo (.ref a :: st) := by
  subst hp
  exact fun H locs ls hR hS hL => va_alen C.1 C.2.1 C.2.2.2.2.2.1 (hR.one ha) 0 0 rfl (ty := .int) rfl rfl hd (k H locs ls hR hS hL)

theorem mx_alenl (C : mx_C p s m args meth c cc nL own G base) {a n : Nat} {f : Nat → Int64} (hd : decode cc pc = .ok (.arraylength, 1)) {pc' : Nat} (hp : pc + 1 = pc') (ha : h a = some (.inl (G.2 1, n, .inr (.inl f)))) (k : mx_V p l e R s m args below meth c G base nL Q h kc ks pc' lo (.int (nI n) :: st)) : mx_V p l e R s m args below meth c G base nL Q h kc ks pc lo (.ref a :: st) := by
  subst hp
  exact fun H locs ls hR hS hL => va_alen C.1 C.2.1 C.2.2.2.2.2.1 (hR.one ha) 0 1 rfl (ty := .long) rfl rfl hd (k H locs ls hR hS hL)

theorem mx_alenc (C : mx_C p s m args meth c cc nL own G base) {a n : Nat} {f : Nat → Int32} (hd : decode cc pc = .ok (.arraylength, 1)) {pc' : Nat} (hp : pc + 1 = pc') (ha : h a = some (.inl (G.2 2, n, .inl f))) (k : mx_V p l e R s m args below meth c G base nL Q h kc ks pc' lo (.int (nI n) :: st)) : mx_V p l e R s m args below meth c G base nL Q h kc ks pc lo (.ref a :: st) := by
  subst hp
  exact fun H locs ls hR hS hL => va_alen C.1 C.2.1 C.2.2.2.2.2.1 (hR.one ha) 0 2 rfl (ty := .char) rfl rfl hd (k H locs ls hR hS hL)

/-- a method's contract over pictures -/
def mx_Pc (G : mx_G) (base : Nat) (as : List Value) (h : mx_H) : Array Value → State → Prop := va_Pc as (fun U => mx_R G base h U.heap ∧ va_K G.1 mxCl (mx_ts G) U ∧ base ≤ U.heap.size)
def mx_Qc (G : mx_G) (base : Nat) (post : Option Value → mx_H → Prop) : Array Value → State → Outcome → State → Prop := fun _ st oc t => ∃ (v : Option Value) (h' : mx_H), oc = .returned v ∧ post v h' ∧ mx_R G base h' t.heap ∧ va_F (mx_A base) st t
def mx_M (l : Launch) (G : mx_G) (base : Nat) (y : MethodName) (b : ByteArray) (nL : Nat) (ret : Option FieldType) (fr lc mc ms : Nat) (as : List Value) (h : mx_H) (post : Option Value → mx_H → Prop) : Prop :=
  Met l y (Cond.code y b nL ret :: mx_tb) { frames := fr, cells := mc, slots := ms, locals := lc } (mx_Pc G base as h) (mx_Qc G base post) mc ms (mx_A base)

end MX

section MX2
variable {p : Program} {l : Launch} {e : Env} {R : Room} {s : State} {m : MethodId} {args : Array Value} {below : List Frame} {meth : Method} {c : Code} {cc : ByteArray} {own : String} {G : mx_G} {base nL : Nat} {Q : State → Prop} {h : mx_H} {kc ks pc : Nat} {lo : List (Option Value)} {st : List Value}
def mx_of (n : Nat) (l : List (Nat × Value)) : List (Option Value) := (List.range n).map (fun i => l.lookup i)
theorem mx_lookup {l : List (Nat × Value)} {i : Nat} {v : Value} (h : l.lookup i = some v) : (i, v) ∈ l := by
  induction l with
  | nil => cases h
  | cons q l ih =>
    obtain ⟨j, w⟩ := q
    rw [List.lookup_cons] at h
    by_cases e : i = j
    · subst e
      rw [beq_self_eq_true] at h
      cases h
      exact List.mem_cons_self
    · have e1 : (i == j) = false := by
        rw [beq_eq_false_iff_ne]
        exact e
      rw [e1] at h
      exact List.mem_cons_of_mem _ (ih h)
theorem mx_of_L {ls : Array Slot} {n : Nat} {l : List (Nat × Value)} (h : lv_has ls n l) : mx_L ls n (mx_of n l) := by
  refine ⟨h.1, h.2.1, fun i v hi => h.2.2 (i, v) (mx_lookup ?_)⟩
  unfold mx_of at hi
  rw [List.getElem?_map] at hi
  cases hr : (List.range n)[i]? with
  | none => rw [hr] at hi; cases hi
  | some j =>
    rw [hr] at hi
    have hj : i = j := by
      have h2 := List.getElem?_eq_some_iff.mp hr
      obtain ⟨h3, h4⟩ := h2
      rw [List.getElem_range] at h4
      exact h4
    subst hj
    exact Option.some.inj hi
theorem mx_enter {y : MethodName} {b : ByteArray} {ret : Option FieldType} {fr lc mc ms : Nat} {as : List Value} {post : Option Value → mx_H → Prop} (hy : plainName y.cls = true) (hcode : Cond.code y b nL ret ∈ mx_tb) (hlen : (lg_sl as).length ≤ nL) {lo : List (Option Value)} (hlo : mx_of nL (lv_args 0 as) = lo)
    (body : ∀ (p : Program) (e : Env) (s : State) (m : MethodId) (args : Array Value) (below : List Frame) (meth : Method) (c : Code), mx_C p s m args meth c b nL y.cls G base → meth.sig.returnType = ret → meth.name = y.name → mx_V p l e { frames := fr, cells := mc, slots := ms, locals := lc } s m args below meth c G base nL (MQ below (mx_Qc G base post) args s mc ms (mx_A base)) h 0 0 0 lo []) : mx_M l G base y b nL ret fr lc mc ms as h post := by
  refine Met.ofW (cc := b) (maxL := nL) (ret := ret) hy rfl ?_
  intro p e s m args below meth c s₁ B hml hv
  obtain ⟨rfl, hR, hK, hbs⟩ := hv
  have hts := atoms_spec (ws := Cond.code y b nL ret :: mx_tb) B.pre
  have hown : s.vm.findClass y.cls = some m.cls := findClass_of_methodNamed B.named
  have hl := lv_entry as (n := nL) hlen
  rw [lg_entry_eq]
  refine body p e s m as.toArray below meth c ⟨B.exec, B.bytes, hml, hown, fun w hw => hts w (List.mem_cons_of_mem _ hw), hK, hbs, B.notSynchronized⟩ B.returns (name_of_methodNamed B.named B.method).1 s.heap [] _ hR va_S.rf ?_
  rw [← hlo]
  exact mx_of_L hl
theorem mx_Qof {post : Option Value → mx_H → Prop} {v : Option Value} {H : Heap} {locs : List Loc} {t : State} (hR : mx_R G base h H) (hS : va_S (mx_A base) s.heap H locs) (hpost : post v h) (ht : t.heap = H) : mx_Qc G base post args s (.returned v) t := ⟨v, h, rfl, hpost, by rw [ht]; exact hR, hS.F ht⟩
theorem mx_iret {post : Option Value → mx_H → Prop} {mc ms : Nat} {x : Int32} (C : mx_C p s m args meth c cc nL own G base) (hr : meth.sig.returnType = some .int) (hd : decode cc pc = .ok (.ireturn, 1)) (hc : kc ≤ mc) (hs : ks ≤ ms) (hpost : post (some (.int x)) h) : mx_V p l e R s m args below meth c G base nL (MQ below (mx_Qc G base post) args s mc ms (mx_A base)) h kc ks pc lo [.int x] :=
  fun H locs ls hR hS _ => W.widen hc hs (W.iret C.1 C.2.1 hr (fun t ht _ => mx_Qof hR hS hpost ht) hS.2.2 hd C.2.2.2.2.2.2.2)
theorem mx_zret {post : Option Value → mx_H → Prop} {mc ms : Nat} {x : Int32} {ty : FieldType} (C : mx_C p s m args meth c cc nL own G base) (hr : meth.sig.returnType = some ty) (hn : narrow ty (.int x) = .int x) (hd : decode cc pc = .ok (.ireturn, 1)) (hc : kc ≤ mc) (hs : ks ≤ ms) (hpost : post (some (.int x)) h) : mx_V p l e R s m args below meth c G base nL (MQ below (mx_Qc G base post) args s mc ms (mx_A base)) h kc ks pc lo [.int x] :=
  fun H locs ls hR hS _ => W.widen hc hs (W.zret C.1 C.2.1 hr hn (fun t ht _ => mx_Qof hR hS hpost ht) hS.2.2 hd C.2.2.2.2.2.2.2)
theorem mx_lret {post : Option Value → mx_H → Prop} {mc ms : Nat} {x : Int64} (C : mx_C p s m args meth c cc nL own G base) (hr : meth.sig.returnType = some .long) (hd : decode cc pc = .ok (.lreturn, 1)) (hc : kc ≤ mc) (hs : ks ≤ ms) (hpost : post (some (.long x)) h) : mx_V p l e R s m args below meth c G base nL (MQ below (mx_Qc G base post) args s mc ms (mx_A base)) h kc ks pc lo [.long x] :=
  fun H locs ls hR hS _ => W.widen hc hs (W.lret C.1 C.2.1 hr (fun t ht _ => mx_Qof hR hS hpost ht) hS.2.2 hd C.2.2.2.2.2.2.2)
theorem mx_vret {post : Option Value → mx_H → Prop} {mc ms : Nat} (C : mx_C p s m args meth c cc nL own G base) (hr : meth.sig.returnType = none) (hd : decode cc pc = .ok (.return_, 1)) (hc : kc ≤ mc) (hs : ks ≤ ms) (hpost : post none h) : mx_V p l e R s m args below meth c G base nL (MQ below (mx_Qc G base post) args s mc ms (mx_A base)) h kc ks pc lo [] :=
  fun H locs ls hR hS _ => W.widen hc hs (W.vret C.1 C.2.1 hr (fun t ht _ => mx_Qof hR hS hpost ht) hS.2.2 hd C.2.2.2.2.2.2.2)
theorem mx_aret {post : Option Value → mx_H → Prop} {mc ms : Nat} {x : Option Nat} {nm : String} (C : mx_C p s m args meth c cc nL own G base) (hr : meth.sig.returnType = some (.object nm)) (hd : decode cc pc = .ok (.areturn, 1)) (hc : kc ≤ mc) (hs : ks ≤ ms) (hpost : post (some (va_rf x)) h) : mx_V p l e R s m args below meth c G base nL (MQ below (mx_Qc G base post) args s mc ms (mx_A base)) h kc ks pc lo [va_rf x] :=
  fun H locs ls hR hS _ => W.widen hc hs (W.aret C.1 C.2.1 hr (Or.inl ⟨nm, rfl⟩) (by cases x with | none => exact Or.inl rfl | some a => exact Or.inr ⟨a, rfl⟩) (fun t ht _ => mx_Qof hR hS hpost ht) hS.2.2 hd C.2.2.2.2.2.2.2)
theorem mx_blind {as : List Value} : FrameBlind (mx_Pc G base as h) := fun a U g mk q => by
  obtain ⟨q1, q2, q3, q4⟩ := q
  exact ⟨q1, q2, va_K.moved (u := U) (U := U.calling g mk a) (Vm.Alike.refl U.vm) q3, q4⟩
theorem mx_preS (C : mx_C p s m args meth c cc nL own G base) {as : List Value} {H : Heap} {locs : List Loc} (hR : mx_R G base h H) (hS : va_S (mx_A base) s.heap H locs) : PreS s H (mx_Pc G base as h) as :=
  ⟨mx_blind, fun U hU hW => ⟨rfl, by rw [hU]; exact hR, va_K.moved hW.alike C.2.2.2.2.2.1, Nat.le_trans C.2.2.2.2.2.2.1 (by rw [hU]; exact hS.1)⟩⟩
theorem mx_cb (C : mx_C p s m args meth c cc nL own G base) {y : MethodName} {b : ByteArray} {nL' : Nat} {ret : Option FieldType} {fr lc mc ms n index : Nat} (hw : Cond.methodLink own index y ∈ mx_tb) (hini : Cond.initialized y.cls ∈ mx_tb) (hcode : Cond.code y b nL' ret ∈ mx_tb)
    (hd : y.cls ≠ "java/lang/invoke/MethodHandle" ∧ y.cls ≠ "java/lang/invoke/VarHandle" ∧ (parseMethodDescriptor y.desc).map (fun d => d.parameters.length) = some n) (hRm : fr + 1 ≤ R.frames ∧ 8 + (nL' + 11) + lc ≤ R.locals) : CallB R s args own index y b nL' ret (Cond.code y b nL' ret :: mx_tb) { frames := fr, cells := mc, slots := ms, locals := lc } mc ms n :=
  callB_of n (Ts := mx_tb) C.2.2.2.2.1 (mx_good (fun w h => (List.mem_cons.mp h).elim (fun z => by rw [z]; exact hcode) (fun z => z))) rfl rfl rfl (C.2.2.2.2.1 _ hini) (C.2.2.2.2.1 _ hw) hd hRm
theorem mx_go {post : Option Value → mx_H → Prop} {H : Heap} {locs : List Loc} {ls : Array Slot} {mc ms : Nat} {a : Array Value} {rest st0 : List Value} (hr : va_Run p l e R s m args below meth c H locs kc ks mc ms (F0 m pc ls st0) rest (mx_Qc G base post a) (mx_A base)) (hS : va_S (mx_A base) s.heap H locs) (hL : mx_L ls nL lo)
    (kk : ∀ (v : Option Value) (h' : mx_H), post v h' → mx_V p l e R s m args below meth c G base nL Q h' (kc + mc) (ks + ms) (pc + 3) lo (v.toList ++ rest)) : W p l e R s m args below meth c H locs kc ks Q (F0 m pc ls st0) := by
  intro T hT X
  obtain ⟨v, st₀, t, T', L, h0, X', hLc, e1, e2, ⟨v', h', hv, hp, hR', hF⟩, st⟩ := hr T hT X
  cases hv
  obtain ⟨hz, hk⟩ := hF
  rw [h0] at hz hk
  have hS' : va_S (mx_A base) s.heap T'.heap (locs ++ L) := ⟨Nat.le_trans hS.1 (by rw [e1]; exact hz), fun q h1 h2 => by rw [e1, hk q (Nat.lt_of_lt_of_le h1 hS.1) h2]; exact hS.2.1 q h1 h2, fun q hq => by
    rcases List.mem_append.mp hq with z | z
    · exact hS.2.2 q z
    · exact hLc q z⟩
  obtain ⟨t2, a1, b1⟩ := kk v h' hp T'.heap (locs ++ L) ls (by rw [e1]; exact hR') hS' hL T' rfl X'
  exact ⟨t2, st t2 a1, b1⟩

theorem mx_callV0 (C : mx_C p s m args meth c cc nL own G base) {y : MethodName} {b : ByteArray} {nL' fr lc mc ms index : Nat} {ret : Option FieldType} {a ci N : Nat} {cn : String} {T : u_T} {fs : List Value} {rest : List Value} {post : Option Value → mx_H → Prop} (hini : Cond.initialized y.cls ∈ mx_tb) (hcode : Cond.code y b nL' ret ∈ mx_tb) (hw : Cond.methodLink own index y ∈ mx_tb) (hi : Cond.instanceMethod y ∈ mx_tb) (hsel : Cond.selects cn y y ∈ mx_tb) (hcl : mxCl[ci]? = some (cn, T, N)) (hdd : y.cls ≠ "java/lang/invoke/MethodHandle" ∧ y.cls ≠ "java/lang/invoke/VarHandle" ∧ (parseMethodDescriptor y.desc).map (fun d => d.parameters.length) = some 0) (hd : decode cc pc = .ok (.invokevirtual index, 3)) {pc' : Nat} (hp : pc + 3 = pc') (ha : h a = some (.inr (ci, fs))) (hM : mx_M l G base y b nL' ret fr lc mc ms (.ref a :: []) h post) (hRm : fr + 1 ≤ R.frames ∧ 8 + (nL' + 11) + lc ≤ R.locals ∧ kc + mc ≤ R.cells ∧ ks + ms ≤ R.slots ∧ (rest.map fun v => v.category).sum ≤ 8) 
    (kk : ∀ (v : Option Value) (h' : mx_H), post v h' → mx_V p l e R s m args below meth c G base nL Q h' (kc + mc) (ks + ms) pc' lo (v.toList ++ rest)) : mx_V p l e R s m args below meth c G base nL Q h kc ks pc lo (.ref a :: rest) := by
  subst hp
  intro H locs ls hR hS hL
  have hX : CallFix p m c cc nL s args mx_tb own := ⟨C.1, C.2.1, C.2.2.1, C.2.2.2.1, C.2.2.2.2.1⟩
  obtain ⟨r, g1, cell, g2, g3, g4, -⟩ := hR.at ha
  have hr : r = (cn, T, N) := Option.some.inj (g1.symm.trans hcl)
  subst hr
  exact mx_go (va_runV (As := []) (rest := rest) hX hM ⟨mx_cb C hw hini hcode hdd ⟨hRm.1, hRm.2.1⟩, C.2.2.2.2.1 _ hi, C.2.2.2.2.1 _ hsel⟩ ⟨mx_blind, ⟨cell, g2, by rw [g4]; rfl, by rw [g3]; exact (C.2.2.2.2.2.1.1 ci _ hcl).2.1⟩, (mx_preS C hR hS).2⟩ rfl rfl hL.1 rfl (lv_room hRm.2.2.2.2) hd ⟨hRm.2.2.1, hRm.2.2.2.1⟩) hS hL kk

theorem mx_callV1 (C : mx_C p s m args meth c cc nL own G base) {y : MethodName} {b : ByteArray} {nL' fr lc mc ms index : Nat} {ret : Option FieldType} {a ci N : Nat} {cn : String} {T : u_T} {fs : List Value} {w1 : Value} {rest : List Value} {post : Option Value → mx_H → Prop} (hini : Cond.initialized y.cls ∈ mx_tb) (hcode : Cond.code y b nL' ret ∈ mx_tb) (hw : Cond.methodLink own index y ∈ mx_tb) (hi : Cond.instanceMethod y ∈ mx_tb) (hsel : Cond.selects cn y y ∈ mx_tb) (hcl : mxCl[ci]? = some (cn, T, N)) (hdd : y.cls ≠ "java/lang/invoke/MethodHandle" ∧ y.cls ≠ "java/lang/invoke/VarHandle" ∧ (parseMethodDescriptor y.desc).map (fun d => d.parameters.length) = some 1) (hd : decode cc pc = .ok (.invokevirtual index, 3)) {pc' : Nat} (hp : pc + 3 = pc') (ha : h a = some (.inr (ci, fs))) (hM : mx_M l G base y b nL' ret fr lc mc ms (.ref a :: [w1]) h post) (hRm : fr + 1 ≤ R.frames ∧ 8 + (nL' + 11) + lc ≤ R.locals ∧ kc + mc ≤ R.cells ∧ ks + ms ≤ R.slots ∧ (rest.map fun v => v.category).sum ≤ 8) 
    (kk : ∀ (v : Option Value) (h' : mx_H), post v h' → mx_V p l e R s m args below meth c G base nL Q h' (kc + mc) (ks + ms) pc' lo (v.toList ++ rest)) : mx_V p l e R s m args below meth c G base nL Q h kc ks pc lo (w1 :: .ref a :: rest) := by
  subst hp
  intro H locs ls hR hS hL
  have hX : CallFix p m c cc nL s args mx_tb own := ⟨C.1, C.2.1, C.2.2.1, C.2.2.2.1, C.2.2.2.2.1⟩
  obtain ⟨r, g1, cell, g2, g3, g4, -⟩ := hR.at ha
  have hr : r = (cn, T, N) := Option.some.inj (g1.symm.trans hcl)
  subst hr
  exact mx_go (va_runV (As := [w1]) (rest := rest) hX hM ⟨mx_cb C hw hini hcode hdd ⟨hRm.1, hRm.2.1⟩, C.2.2.2.2.1 _ hi, C.2.2.2.2.1 _ hsel⟩ ⟨mx_blind, ⟨cell, g2, by rw [g4]; rfl, by rw [g3]; exact (C.2.2.2.2.2.1.1 ci _ hcl).2.1⟩, (mx_preS C hR hS).2⟩ rfl rfl hL.1 rfl (lv_room hRm.2.2.2.2) hd ⟨hRm.2.2.1, hRm.2.2.2.1⟩) hS hL kk

theorem mx_callV2 (C : mx_C p s m args meth c cc nL own G base) {y : MethodName} {b : ByteArray} {nL' fr lc mc ms index : Nat} {ret : Option FieldType} {a ci N : Nat} {cn : String} {T : u_T} {fs : List Value} {w1 w2 : Value} {rest : List Value} {post : Option Value → mx_H → Prop} (hini : Cond.initialized y.cls ∈ mx_tb) (hcode : Cond.code y b nL' ret ∈ mx_tb) (hw : Cond.methodLink own index y ∈ mx_tb) (hi : Cond.instanceMethod y ∈ mx_tb) (hsel : Cond.selects cn y y ∈ mx_tb) (hcl : mxCl[ci]? = some (cn, T, N)) (hdd : y.cls ≠ "java/lang/invoke/MethodHandle" ∧ y.cls ≠ "java/lang/invoke/VarHandle" ∧ (parseMethodDescriptor y.desc).map (fun d => d.parameters.length) = some 2) (hd : decode cc pc = .ok (.invokevirtual index, 3)) {pc' : Nat} (hp : pc + 3 = pc') (ha : h a = some (.inr (ci, fs))) (hM : mx_M l G base y b nL' ret fr lc mc ms (.ref a :: [w1, w2]) h post) (hRm : fr + 1 ≤ R.frames ∧ 8 + (nL' + 11) + lc ≤ R.locals ∧ kc + mc ≤ R.cells ∧ ks + ms ≤ R.slots ∧ (rest.map fun v => v.category).sum ≤ 8) 
    (kk : ∀ (v : Option Value) (h' : mx_H), post v h' → mx_V p l e R s m args below meth c G base nL Q h' (kc + mc) (ks + ms) pc' lo (v.toList ++ rest)) : mx_V p l e R s m args below meth c G base nL Q h kc ks pc lo (w2 :: w1 :: .ref a :: rest) := by
  subst hp
  intro H locs ls hR hS hL
  have hX : CallFix p m c cc nL s args mx_tb own := ⟨C.1, C.2.1, C.2.2.1, C.2.2.2.1, C.2.2.2.2.1⟩
  obtain ⟨r, g1, cell, g2, g3, g4, -⟩ := hR.at ha
  have hr : r = (cn, T, N) := Option.some.inj (g1.symm.trans hcl)
  subst hr
  exact mx_go (va_runV (As := [w1, w2]) (rest := rest) hX hM ⟨mx_cb C hw hini hcode hdd ⟨hRm.1, hRm.2.1⟩, C.2.2.2.2.1 _ hi, C.2.2.2.2.1 _ hsel⟩ ⟨mx_blind, ⟨cell, g2, by rw [g4]; rfl, by rw [g3]; exact (C.2.2.2.2.2.1.1 ci _ hcl).2.1⟩, (mx_preS C hR hS).2⟩ rfl rfl hL.1 rfl (lv_room hRm.2.2.2.2) hd ⟨hRm.2.2.1, hRm.2.2.2.1⟩) hS hL kk

theorem mx_callV3 (C : mx_C p s m args meth c cc nL own G base) {y : MethodName} {b : ByteArray} {nL' fr lc mc ms index : Nat} {ret : Option FieldType} {a ci N : Nat} {cn : String} {T : u_T} {fs : List Value} {w1 w2 w3 : Value} {rest : List Value} {post : Option Value → mx_H → Prop} (hini : Cond.initialized y.cls ∈ mx_tb) (hcode : Cond.code y b nL' ret ∈ mx_tb) (hw : Cond.methodLink own index y ∈ mx_tb) (hi : Cond.instanceMethod y ∈ mx_tb) (hsel : Cond.selects cn y y ∈ mx_tb) (hcl : mxCl[ci]? = some (cn, T, N)) (hdd : y.cls ≠ "java/lang/invoke/MethodHandle" ∧ y.cls ≠ "java/lang/invoke/VarHandle" ∧ (parseMethodDescriptor y.desc).map (fun d => d.parameters.length) = some 3) (hd : decode cc pc = .ok (.invokevirtual index, 3)) {pc' : Nat} (hp : pc + 3 = pc') (ha : h a = some (.inr (ci, fs))) (hM : mx_M l G base y b nL' ret fr lc mc ms (.ref a :: [w1, w2, w3]) h post) (hRm : fr + 1 ≤ R.frames ∧ 8 + (nL' + 11) + lc ≤ R.locals ∧ kc + mc ≤ R.cells ∧ ks + ms ≤ R.slots ∧ (rest.map fun v => v.category).sum ≤ 8) 
    (kk : ∀ (v : Option Value) (h' : mx_H), post v h' → mx_V p l e R s m args below meth c G base nL Q h' (kc + mc) (ks + ms) pc' lo (v.toList ++ rest)) : mx_V p l e R s m args below meth c G base nL Q h kc ks pc lo (w3 :: w2 :: w1 :: .ref a :: rest) := by
  subst hp
  intro H locs ls hR hS hL
  have hX : CallFix p m c cc nL s args mx_tb own := ⟨C.1, C.2.1, C.2.2.1, C.2.2.2.1, C.2.2.2.2.1⟩
  obtain ⟨r, g1, cell, g2, g3, g4, -⟩ := hR.at ha
  have hr : r = (cn, T, N) := Option.some.inj (g1.symm.trans hcl)
  subst hr
  exact mx_go (va_runV (As := [w1, w2, w3]) (rest := rest) hX hM ⟨mx_cb C hw hini hcode hdd ⟨hRm.1, hRm.2.1⟩, C.2.2.2.2.1 _ hi, C.2.2.2.2.1 _ hsel⟩ ⟨mx_blind, ⟨cell, g2, by rw [g4]; rfl, by rw [g3]; exact (C.2.2.2.2.2.1.1 ci _ hcl).2.1⟩, (mx_preS C hR hS).2⟩ rfl rfl hL.1 rfl (lv_room hRm.2.2.2.2) hd ⟨hRm.2.2.1, hRm.2.2.2.1⟩) hS hL kk

theorem mx_callV6 (C : mx_C p s m args meth c cc nL own G base) {y : MethodName} {b : ByteArray} {nL' fr lc mc ms index : Nat} {ret : Option FieldType} {a ci N : Nat} {cn : String} {T : u_T} {fs : List Value} {w1 w2 w3 w4 w5 w6 : Value} {rest : List Value} {post : Option Value → mx_H → Prop} (hini : Cond.initialized y.cls ∈ mx_tb) (hcode : Cond.code y b nL' ret ∈ mx_tb) (hw : Cond.methodLink own index y ∈ mx_tb) (hi : Cond.instanceMethod y ∈ mx_tb) (hsel : Cond.selects cn y y ∈ mx_tb) (hcl : mxCl[ci]? = some (cn, T, N)) (hdd : y.cls ≠ "java/lang/invoke/MethodHandle" ∧ y.cls ≠ "java/lang/invoke/VarHandle" ∧ (parseMethodDescriptor y.desc).map (fun d => d.parameters.length) = some 6) (hd : decode cc pc = .ok (.invokevirtual index, 3)) {pc' : Nat} (hp : pc + 3 = pc') (ha : h a = some (.inr (ci, fs))) (hM : mx_M l G base y b nL' ret fr lc mc ms (.ref a :: [w1, w2, w3, w4, w5, w6]) h post) (hRm : fr + 1 ≤ R.frames ∧ 8 + (nL' + 11) + lc ≤ R.locals ∧ kc + mc ≤ R.cells ∧ ks + ms ≤ R.slots ∧ (rest.map fun v => v.category).sum ≤ 8) 
    (kk : ∀ (v : Option Value) (h' : mx_H), post v h' → mx_V p l e R s m args below meth c G base nL Q h' (kc + mc) (ks + ms) pc' lo (v.toList ++ rest)) : mx_V p l e R s m args below meth c G base nL Q h kc ks pc lo (w6 :: w5 :: w4 :: w3 :: w2 :: w1 :: .ref a :: rest) := by
  subst hp
  intro H locs ls hR hS hL
  have hX : CallFix p m c cc nL s args mx_tb own := ⟨C.1, C.2.1, C.2.2.1, C.2.2.2.1, C.2.2.2.2.1⟩
  obtain ⟨r, g1, cell, g2, g3, g4, -⟩ := hR.at ha
  have hr : r = (cn, T, N) := Option.some.inj (g1.symm.trans hcl)
  subst hr
  exact mx_go (va_runV (As := [w1, w2, w3, w4, w5, w6]) (rest := rest) hX hM ⟨mx_cb C hw hini hcode hdd ⟨hRm.1, hRm.2.1⟩, C.2.2.2.2.1 _ hi, C.2.2.2.2.1 _ hsel⟩ ⟨mx_blind, ⟨cell, g2, by rw [g4]; rfl, by rw [g3]; exact (C.2.2.2.2.2.1.1 ci _ hcl).2.1⟩, (mx_preS C hR hS).2⟩ rfl rfl hL.1 rfl (lv_room hRm.2.2.2.2) hd ⟨hRm.2.2.1, hRm.2.2.2.1⟩) hS hL kk

theorem mx_callS1 (C : mx_C p s m args meth c cc nL own G base) {y : MethodName} {b : ByteArray} {nL' fr lc mc ms index : Nat} {ret : Option FieldType} {w1 : Value} {rest : List Value} {post : Option Value → mx_H → Prop} (hini : Cond.initialized y.cls ∈ mx_tb) (hcode : Cond.code y b nL' ret ∈ mx_tb) (hw : Cond.methodLink own index y ∈ mx_tb) (hi : Cond.static y ∈ mx_tb) (hdd : y.cls ≠ "java/lang/invoke/MethodHandle" ∧ y.cls ≠ "java/lang/invoke/VarHandle" ∧ (parseMethodDescriptor y.desc).map (fun d => d.parameters.length) = some 1) (hd : decode cc pc = .ok (.invokestatic index, 3)) {pc' : Nat} (hp : pc + 3 = pc') (hM : mx_M l G base y b nL' ret fr lc mc ms ([w1]) h post) (hRm : fr + 1 ≤ R.frames ∧ 8 + (nL' + 11) + lc ≤ R.locals ∧ kc + mc ≤ R.cells ∧ ks + ms ≤ R.slots ∧ (rest.map fun v => v.category).sum ≤ 8) 
    (kk : ∀ (v : Option Value) (h' : mx_H), post v h' → mx_V p l e R s m args below meth c G base nL Q h' (kc + mc) (ks + ms) pc' lo (v.toList ++ rest)) : mx_V p l e R s m args below meth c G base nL Q h kc ks pc lo (w1 :: rest) := by
  subst hp
  intro H locs ls hR hS hL
  have hX : CallFix p m c cc nL s args mx_tb own := ⟨C.1, C.2.1, C.2.2.1, C.2.2.2.1, C.2.2.2.2.1⟩
  exact mx_go (va_runS (As := [w1]) (rest := rest) hX hM ⟨mx_cb C hw hini hcode hdd ⟨hRm.1, hRm.2.1⟩, C.2.2.2.2.1 _ hi⟩ (mx_preS C hR hS) rfl rfl hL.1 rfl (lv_room hRm.2.2.2.2) hd ⟨hRm.2.2.1, hRm.2.2.2.1⟩) hS hL kk

theorem mx_callS2 (C : mx_C p s m args meth c cc nL own G base) {y : MethodName} {b : ByteArray} {nL' fr lc mc ms index : Nat} {ret : Option FieldType} {w1 w2 : Value} {rest : List Value} {post : Option Value → mx_H → Prop} (hini : Cond.initialized y.cls ∈ mx_tb) (hcode : Cond.code y b nL' ret ∈ mx_tb) (hw : Cond.methodLink own index y ∈ mx_tb) (hi : Cond.static y ∈ mx_tb) (hdd : y.cls ≠ "java/lang/invoke/MethodHandle" ∧ y.cls ≠ "java/lang/invoke/VarHandle" ∧ (parseMethodDescriptor y.desc).map (fun d => d.parameters.length) = some 2) (hd : decode cc pc = .ok (.invokestatic index, 3)) {pc' : Nat} (hp : pc + 3 = pc') (hM : mx_M l G base y b nL' ret fr lc mc ms ([w1, w2]) h post) (hRm : fr + 1 ≤ R.frames ∧ 8 + (nL' + 11) + lc ≤ R.locals ∧ kc + mc ≤ R.cells ∧ ks + ms ≤ R.slots ∧ (rest.map fun v => v.category).sum ≤ 8) 
    (kk : ∀ (v : Option Value) (h' : mx_H), post v h' → mx_V p l e R s m args below meth c G base nL Q h' (kc + mc) (ks + ms) pc' lo (v.toList ++ rest)) : mx_V p l e R s m args below meth c G base nL Q h kc ks pc lo (w2 :: w1 :: rest) := by
  subst hp
  intro H locs ls hR hS hL
  have hX : CallFix p m c cc nL s args mx_tb own := ⟨C.1, C.2.1, C.2.2.1, C.2.2.2.1, C.2.2.2.2.1⟩
  exact mx_go (va_runS (As := [w1, w2]) (rest := rest) hX hM ⟨mx_cb C hw hini hcode hdd ⟨hRm.1, hRm.2.1⟩, C.2.2.2.2.1 _ hi⟩ (mx_preS C hR hS) rfl rfl hL.1 rfl (lv_room hRm.2.2.2.2) hd ⟨hRm.2.2.1, hRm.2.2.2.1⟩) hS hL kk

theorem mx_callS4 (C : mx_C p s m args meth c cc nL own G base) {y : MethodName} {b : ByteArray} {nL' fr lc mc ms index : Nat} {ret : Option FieldType} {w1 w2 w3 w4 : Value} {rest : List Value} {post : Option Value → mx_H → Prop} (hini : Cond.initialized y.cls ∈ mx_tb) (hcode : Cond.code y b nL' ret ∈ mx_tb) (hw : Cond.methodLink own index y ∈ mx_tb) (hi : Cond.static y ∈ mx_tb) (hdd : y.cls ≠ "java/lang/invoke/MethodHandle" ∧ y.cls ≠ "java/lang/invoke/VarHandle" ∧ (parseMethodDescriptor y.desc).map (fun d => d.parameters.length) = some 4) (hd : decode cc pc = .ok (.invokestatic index, 3)) {pc' : Nat} (hp : pc + 3 = pc') (hM : mx_M l G base y b nL' ret fr lc mc ms ([w1, w2, w3, w4]) h post) (hRm : fr + 1 ≤ R.frames ∧ 8 + (nL' + 11) + lc ≤ R.locals ∧ kc + mc ≤ R.cells ∧ ks + ms ≤ R.slots ∧ (rest.map fun v => v.category).sum ≤ 8) 
    (kk : ∀ (v : Option Value) (h' : mx_H), post v h' → mx_V p l e R s m args below meth c G base nL Q h' (kc + mc) (ks + ms) pc' lo (v.toList ++ rest)) : mx_V p l e R s m args below meth c G base nL Q h kc ks pc lo (w4 :: w3 :: w2 :: w1 :: rest) := by
  subst hp
  intro H locs ls hR hS hL
  have hX : CallFix p m c cc nL s args mx_tb own := ⟨C.1, C.2.1, C.2.2.1, C.2.2.2.1, C.2.2.2.2.1⟩
  exact mx_go (va_runS (As := [w1, w2, w3, w4]) (rest := rest) hX hM ⟨mx_cb C hw hini hcode hdd ⟨hRm.1, hRm.2.1⟩, C.2.2.2.2.1 _ hi⟩ (mx_preS C hR hS) rfl rfl hL.1 rfl (lv_room hRm.2.2.2.2) hd ⟨hRm.2.2.1, hRm.2.2.2.1⟩) hS hL kk

theorem mx_callS5 (C : mx_C p s m args meth c cc nL own G base) {y : MethodName} {b : ByteArray} {nL' fr lc mc ms index : Nat} {ret : Option FieldType} {w1 w2 w3 w4 w5 : Value} {rest : List Value} {post : Option Value → mx_H → Prop} (hini : Cond.initialized y.cls ∈ mx_tb) (hcode : Cond.code y b nL' ret ∈ mx_tb) (hw : Cond.methodLink own index y ∈ mx_tb) (hi : Cond.static y ∈ mx_tb) (hdd : y.cls ≠ "java/lang/invoke/MethodHandle" ∧ y.cls ≠ "java/lang/invoke/VarHandle" ∧ (parseMethodDescriptor y.desc).map (fun d => d.parameters.length) = some 5) (hd : decode cc pc = .ok (.invokestatic index, 3)) {pc' : Nat} (hp : pc + 3 = pc') (hM : mx_M l G base y b nL' ret fr lc mc ms ([w1, w2, w3, w4, w5]) h post) (hRm : fr + 1 ≤ R.frames ∧ 8 + (nL' + 11) + lc ≤ R.locals ∧ kc + mc ≤ R.cells ∧ ks + ms ≤ R.slots ∧ (rest.map fun v => v.category).sum ≤ 8) 
    (kk : ∀ (v : Option Value) (h' : mx_H), post v h' → mx_V p l e R s m args below meth c G base nL Q h' (kc + mc) (ks + ms) pc' lo (v.toList ++ rest)) : mx_V p l e R s m args below meth c G base nL Q h kc ks pc lo (w5 :: w4 :: w3 :: w2 :: w1 :: rest) := by
  subst hp
  intro H locs ls hR hS hL
  have hX : CallFix p m c cc nL s args mx_tb own := ⟨C.1, C.2.1, C.2.2.1, C.2.2.2.1, C.2.2.2.2.1⟩
  exact mx_go (va_runS (As := [w1, w2, w3, w4, w5]) (rest := rest) hX hM ⟨mx_cb C hw hini hcode hdd ⟨hRm.1, hRm.2.1⟩, C.2.2.2.2.1 _ hi⟩ (mx_preS C hR hS) rfl rfl hL.1 rfl (lv_room hRm.2.2.2.2) hd ⟨hRm.2.2.1, hRm.2.2.2.1⟩) hS hL kk

theorem mx_callI0 (C : mx_C p s m args meth c cc nL own G base) {y : MethodName} {b : ByteArray} {nL' fr lc mc ms index : Nat} {a : Nat} {rest : List Value} {post : Option Value → mx_H → Prop} (hini : Cond.initialized y.cls ∈ mx_tb) (hcode : Cond.code y b nL' none ∈ mx_tb) (hw : Cond.methodLink own index y ∈ mx_tb) (hi : Cond.instanceMethod y ∈ mx_tb) (hnm : y.name = "<init>") (hdd : y.cls ≠ "java/lang/invoke/MethodHandle" ∧ y.cls ≠ "java/lang/invoke/VarHandle" ∧ (parseMethodDescriptor y.desc).map (fun d => d.parameters.length) = some 0) (hd : decode cc pc = .ok (.invokespecial index, 3)) {pc' : Nat} (hp : pc + 3 = pc') (hM : mx_M l G base y b nL' none fr lc mc ms (.ref a :: []) h post) (hRm : fr + 1 ≤ R.frames ∧ 8 + (nL' + 11) + lc ≤ R.locals ∧ kc + mc ≤ R.cells ∧ ks + ms ≤ R.slots ∧ (rest.map fun v => v.category).sum ≤ 8) 
    (kk : ∀ (v : Option Value) (h' : mx_H), post v h' → mx_V p l e R s m args below meth c G base nL Q h' (kc + mc) (ks + ms) pc' lo (v.toList ++ rest)) : mx_V p l e R s m args below meth c G base nL Q h kc ks pc lo (.ref a :: rest) := by
  subst hp
  intro H locs ls hR hS hL
  have hX : CallFix p m c cc nL s args mx_tb own := ⟨C.1, C.2.1, C.2.2.1, C.2.2.2.1, C.2.2.2.2.1⟩
  exact mx_go (va_runI (As := []) (rest := rest) hX hM ⟨mx_cb C hw hini hcode hdd ⟨hRm.1, hRm.2.1⟩, hnm, C.2.2.2.2.1 _ hi⟩ (mx_preS C hR hS) rfl rfl hL.1 rfl (lv_room hRm.2.2.2.2) hd ⟨hRm.2.2.1, hRm.2.2.2.1⟩) hS hL kk

theorem mx_callI2 (C : mx_C p s m args meth c cc nL own G base) {y : MethodName} {b : ByteArray} {nL' fr lc mc ms index : Nat} {a : Nat} {w1 w2 : Value} {rest : List Value} {post : Option Value → mx_H → Prop} (hini : Cond.initialized y.cls ∈ mx_tb) (hcode : Cond.code y b nL' none ∈ mx_tb) (hw : Cond.methodLink own index y ∈ mx_tb) (hi : Cond.instanceMethod y ∈ mx_tb) (hnm : y.name = "<init>") (hdd : y.cls ≠ "java/lang/invoke/MethodHandle" ∧ y.cls ≠ "java/lang/invoke/VarHandle" ∧ (parseMethodDescriptor y.desc).map (fun d => d.parameters.length) = some 2) (hd : decode cc pc = .ok (.invokespecial index, 3)) {pc' : Nat} (hp : pc + 3 = pc') (hM : mx_M l G base y b nL' none fr lc mc ms (.ref a :: [w1, w2]) h post) (hRm : fr + 1 ≤ R.frames ∧ 8 + (nL' + 11) + lc ≤ R.locals ∧ kc + mc ≤ R.cells ∧ ks + ms ≤ R.slots ∧ (rest.map fun v => v.category).sum ≤ 8) 
    (kk : ∀ (v : Option Value) (h' : mx_H), post v h' → mx_V p l e R s m args below meth c G base nL Q h' (kc + mc) (ks + ms) pc' lo (v.toList ++ rest)) : mx_V p l e R s m args below meth c G base nL Q h kc ks pc lo (w2 :: w1 :: .ref a :: rest) := by
  subst hp
  intro H locs ls hR hS hL
  have hX : CallFix p m c cc nL s args mx_tb own := ⟨C.1, C.2.1, C.2.2.1, C.2.2.2.1, C.2.2.2.2.1⟩
  exact mx_go (va_runI (As := [w1, w2]) (rest := rest) hX hM ⟨mx_cb C hw hini hcode hdd ⟨hRm.1, hRm.2.1⟩, hnm, C.2.2.2.2.1 _ hi⟩ (mx_preS C hR hS) rfl rfl hL.1 rfl (lv_room hRm.2.2.2.2) hd ⟨hRm.2.2.1, hRm.2.2.2.1⟩) hS hL kk

theorem mx_callI3 (C : mx_C p s m args meth c cc nL own G base) {y : MethodName} {b : ByteArray} {nL' fr lc mc ms index : Nat} {a : Nat} {w1 w2 w3 : Value} {rest : List Value} {post : Option Value → mx_H → Prop} (hini : Cond.initialized y.cls ∈ mx_tb) (hcode : Cond.code y b nL' none ∈ mx_tb) (hw : Cond.methodLink own index y ∈ mx_tb) (hi : Cond.instanceMethod y ∈ mx_tb) (hnm : y.name = "<init>") (hdd : y.cls ≠ "java/lang/invoke/MethodHandle" ∧ y.cls ≠ "java/lang/invoke/VarHandle" ∧ (parseMethodDescriptor y.desc).map (fun d => d.parameters.length) = some 3) (hd : decode cc pc = .ok (.invokespecial index, 3)) {pc' : Nat} (hp : pc + 3 = pc') (hM : mx_M l G base y b nL' none fr lc mc ms (.ref a :: [w1, w2, w3]) h post) (hRm : fr + 1 ≤ R.frames ∧ 8 + (nL' + 11) + lc ≤ R.locals ∧ kc + mc ≤ R.cells ∧ ks + ms ≤ R.slots ∧ (rest.map fun v => v.category).sum ≤ 8) 
    (kk : ∀ (v : Option Value) (h' : mx_H), post v h' → mx_V p l e R s m args below meth c G base nL Q h' (kc + mc) (ks + ms) pc' lo (v.toList ++ rest)) : mx_V p l e R s m args below meth c G base nL Q h kc ks pc lo (w3 :: w2 :: w1 :: .ref a :: rest) := by
  subst hp
  intro H locs ls hR hS hL
  have hX : CallFix p m c cc nL s args mx_tb own := ⟨C.1, C.2.1, C.2.2.1, C.2.2.2.1, C.2.2.2.2.1⟩
  exact mx_go (va_runI (As := [w1, w2, w3]) (rest := rest) hX hM ⟨mx_cb C hw hini hcode hdd ⟨hRm.1, hRm.2.1⟩, hnm, C.2.2.2.2.1 _ hi⟩ (mx_preS C hR hS) rfl rfl hL.1 rfl (lv_room hRm.2.2.2.2) hd ⟨hRm.2.2.1, hRm.2.2.2.1⟩) hS hL kk

theorem mx_objInit (C : mx_C p s m args meth c cc nL own G base) {idx a : Nat} {rest : List Value} (hw : Cond.methodLink own idx Lib.objectInit ∈ mx_tb) (hi : Cond.instanceMethod Lib.objectInit ∈ mx_tb) (hc : Cond.code Lib.objectInit ⟨#[0xb1]⟩ 1 none ∈ mx_tb) (hd : decode cc pc = .ok (.invokespecial idx, 3)) {pc' : Nat} (hp : pc + 3 = pc') (hRm : 1 ≤ R.frames ∧ (rest.map fun v => v.category).sum + 12 ≤ R.locals) (k : mx_V p l e R s m args below meth c G base nL Q h kc ks pc' lo rest) : mx_V p l e R s m args below meth c G base nL Q h kc ks pc lo (.ref a :: rest) := by
  subst hp
  intro H locs ls hR hS hL
  exact W.objInit C.1 C.2.1 C.2.2.2.1 (C.2.2.2.2.1 _ hw) (C.2.2.2.2.1 _ hi) (C.2.2.2.2.1 _ hc) rfl (by rw [C.2.2.1]; exact hL.1) rfl hd hRm.1 (by show 2 * 0 + _ + 12 ≤ _; omega) (k H locs ls hR hS hL)
end MX2
end
section
def mx_b (b : Bool) : Int32 := if b then 1 else 0
theorem mx_b_t : mx_b true = nI 1 := rfl
theorem mx_b_f : mx_b false = nI 0 := rfl
theorem mx_b_nz (b : Bool) : narrow .boolean (.int (mx_b b)) = .int (mx_b b) := by cases b <;> rfl
theorem mx_b_fz (b : Bool) : fits .boolean (.int (mx_b b)) = true := by cases b <;> rfl
theorem mx_b_0 {b : Bool} : mx_b b = 0 ↔ b = false := by cases b <;> decide
theorem mx_b_1 {b : Bool} (h : b = true) : nI 1 = mx_b b := by rw [h]; rfl
theorem mx_b_2 {b : Bool} (h : b = false) : nI 0 = mx_b b := by rw [h]; rfl
theorem mx_b_dt {P : Prop} [Decidable P] (h : P) : nI 1 = mx_b (decide P) := mx_b_1 (decide_eq_true h)
theorem mx_b_df {P : Prop} [Decidable P] (h : ¬ P) : nI 0 = mx_b (decide P) := mx_b_2 (decide_eq_false h)
theorem mx_nrf (nm : String) (r : Option Nat) : narrow (.object nm) (va_rf r) = va_rf r := by cases r <;> rfl
theorem mx_frf (nm : String) (r : Option Nat) : fits (.object nm) (va_rf r) = true := by cases r <;> rfl
theorem mx_inc (i : Nat) : nI i + Int32.ofInt 1 = nI (i + 1) := nI_1 i
theorem mx_inj {a b : Nat} (ha : a < 2 ^ 31) (hb : b < 2 ^ 31) (h : nI a = nI b) : a = b := (nI_eq ha hb).mp h
theorem mx_lc_gt {x y : Int64} : 0 < lg_cmp x y ↔ y < x := by
  unfold lg_cmp
  by_cases h1 : x > y
  · rw [if_pos h1]; exact ⟨fun _ => h1, fun _ => by decide⟩
  · rw [if_neg h1]
    by_cases h2 : x = y
    · rw [if_pos h2]; exact ⟨fun h => absurd h (by decide), fun h => absurd h h1⟩
    · rw [if_neg h2]; exact ⟨fun h => absurd h (by decide), fun h => absurd h h1⟩
theorem mx_lc_eq {x y : Int64} : lg_cmp x y = 0 ↔ x = y := by
  unfold lg_cmp
  by_cases h1 : x > y
  · rw [if_pos h1]
    refine ⟨fun h => absurd h (by decide), fun h => ?_⟩
    subst h
    exact absurd h1 (Int64.lt_irrefl x)
  · rw [if_neg h1]
    by_cases h2 : x = y
    · rw [if_pos h2]; exact ⟨fun _ => h2, fun _ => rfl⟩
    · rw [if_neg h2]; exact ⟨fun h => absurd h (by decide), fun h => absurd h h2⟩
theorem mx_lc_le {x y : Int64} : lg_cmp x y ≤ 0 ↔ x ≤ y := by
  have h1 : lg_cmp x y ≤ 0 ↔ ¬ 0 < lg_cmp x y := Int32.not_lt.symm
  rw [h1, mx_lc_gt]
  exact Int64.not_lt
theorem mx_lc_lt {x y : Int64} : lg_cmp x y < 0 ↔ x < y := by
  have h1 : lg_cmp x y < 0 ↔ lg_cmp x y ≤ 0 ∧ ¬ lg_cmp x y = 0 := by
    constructor
    · intro h
      exact ⟨Int32.le_of_lt h, fun z => by rw [z] at h; exact absurd h (by decide)⟩
    · rintro ⟨h, h2⟩
      exact Int32.lt_of_le_of_ne h h2
  rw [h1, mx_lc_le, mx_lc_eq]
  constructor
  · rintro ⟨h, h2⟩
    exact Int64.lt_of_le_of_ne h h2
  · intro h
    exact ⟨Int64.le_of_lt h, fun z => by rw [z] at h; exact absurd h (Int64.lt_irrefl y)⟩
theorem mx_lc_ge {x y : Int64} : 0 ≤ lg_cmp x y ↔ y ≤ x := by
  have h1 : 0 ≤ lg_cmp x y ↔ ¬ lg_cmp x y < 0 := Int32.not_lt.symm
  rw [h1, mx_lc_lt]
  exact Int64.not_lt
section MX3
variable {p : Program} {l : Launch} {e : Env} {R : Room} {s : State} {m : MethodId} {args : Array Value} {below : List Frame} {meth : Method} {c : Code} {cc : ByteArray} {own : String} {G : mx_G} {base nL : Nat} {Q : State → Prop} {h : mx_H} {kc ks pc : Nat} {lo : List (Option Value)} {st : List Value}
theorem mx_stk {st' : List Value} (e0 : st = st') (k : mx_V p l e R s m args below meth c G base nL Q h kc ks pc lo st') : mx_V p l e R s m args below meth c G base nL Q h kc ks pc lo st := by
  subst e0
  exact k

theorem mx_N_eq (C : mx_C p s m args meth c cc nL own G base) {a b : Nat} {off : Int} {tgt : Nat} (hd : decode cc pc = .ok (.if_icmp .eq off, 3)) (ht : (pc : Int) + off = (tgt : Int)) {pc' : Nat} (hp : pc + 3 = pc') (ha : a < 2 ^ 31) (hb : b < 2 ^ 31) (kt : a = b → mx_V p l e R s m args below meth c G base nL Q h kc ks tgt lo st) (kf : ¬ a = b → mx_V p l e R s m args below meth c G base nL Q h kc ks pc' lo st) : mx_V p l e R s m args below meth c G base nL Q h kc ks pc lo (.int (nI b) :: .int (nI a) :: st) := mx_icmp_eq C hd ht hp (fun z => kt ((nI_eq ha hb).mp z)) (fun z => kf (fun w => z ((nI_eq ha hb).mpr w)))
theorem mx_N_ne (C : mx_C p s m args meth c cc nL own G base) {a b : Nat} {off : Int} {tgt : Nat} (hd : decode cc pc = .ok (.if_icmp .ne off, 3)) (ht : (pc : Int) + off = (tgt : Int)) {pc' : Nat} (hp : pc + 3 = pc') (ha : a < 2 ^ 31) (hb : b < 2 ^ 31) (kt : ¬ a = b → mx_V p l e R s m args below meth c G base nL Q h kc ks tgt lo st) (kf : a = b → mx_V p l e R s m args below meth c G base nL Q h kc ks pc' lo st) : mx_V p l e R s m args below meth c G base nL Q h kc ks pc lo (.int (nI b) :: .int (nI a) :: st) := mx_icmp_ne C hd ht hp (fun z => kt (fun w => z ((nI_eq ha hb).mpr w))) (fun z => kf ((nI_eq ha hb).mp z))
theorem mx_N_lt (C : mx_C p s m args meth c cc nL own G base) {a b : Nat} {off : Int} {tgt : Nat} (hd : decode cc pc = .ok (.if_icmp .lt off, 3)) (ht : (pc : Int) + off = (tgt : Int)) {pc' : Nat} (hp : pc + 3 = pc') (ha : a < 2 ^ 31) (hb : b < 2 ^ 31) (kt : a < b → mx_V p l e R s m args below meth c G base nL Q h kc ks tgt lo st) (kf : b ≤ a → mx_V p l e R s m args below meth c G base nL Q h kc ks pc' lo st) : mx_V p l e R s m args below meth c G base nL Q h kc ks pc lo (.int (nI b) :: .int (nI a) :: st) := mx_icmp_lt C hd ht hp (fun z => kt ((nI_ltI ha hb).mp z)) (fun z => kf (Nat.not_lt.mp fun w => z ((nI_ltI ha hb).mpr w)))
theorem mx_N_ge (C : mx_C p s m args meth c cc nL own G base) {a b : Nat} {off : Int} {tgt : Nat} (hd : decode cc pc = .ok (.if_icmp .ge off, 3)) (ht : (pc : Int) + off = (tgt : Int)) {pc' : Nat} (hp : pc + 3 = pc') (ha : a < 2 ^ 31) (hb : b < 2 ^ 31) (kt : b ≤ a → mx_V p l e R s m args below meth c G base nL Q h kc ks tgt lo st) (kf : a < b → mx_V p l e R s m args below meth c G base nL Q h kc ks pc' lo st) : mx_V p l e R s m args below meth c G base nL Q h kc ks pc lo (.int (nI b) :: .int (nI a) :: st) := mx_icmp_ge C hd ht hp (fun z => kt ((nI_leI hb ha).mp z)) (fun z => kf (Nat.not_le.mp fun w => z ((nI_leI hb ha).mpr w)))
theorem mx_N_gt (C : mx_C p s m args meth c cc nL own G base) {a b : Nat} {off : Int} {tgt : Nat} (hd : decode cc pc = .ok (.if_icmp .gt off, 3)) (ht : (pc : Int) + off = (tgt : Int)) {pc' : Nat} (hp : pc + 3 = pc') (ha : a < 2 ^ 31) (hb : b < 2 ^ 31) (kt : b < a → mx_V p l e R s m args below meth c G base nL Q h kc ks tgt lo st) (kf : a ≤ b → mx_V p l e R s m args below meth c G base nL Q h kc ks pc' lo st) : mx_V p l e R s m args below meth c G base nL Q h kc ks pc lo (.int (nI b) :: .int (nI a) :: st) := mx_icmp_gt C hd ht hp (fun z => kt ((nI_ltI hb ha).mp z)) (fun z => kf (Nat.not_lt.mp fun w => z ((nI_ltI hb ha).mpr w)))
theorem mx_N_le (C : mx_C p s m args meth c cc nL own G base) {a b : Nat} {off : Int} {tgt : Nat} (hd : decode cc pc = .ok (.if_icmp .le off, 3)) (ht : (pc : Int) + off = (tgt : Int)) {pc' : Nat} (hp : pc + 3 = pc') (ha : a < 2 ^ 31) (hb : b < 2 ^ 31) (kt : a ≤ b → mx_V p l e R s m args below meth c G base nL Q h kc ks tgt lo st) (kf : b < a → mx_V p l e R s m args below meth c G base nL Q h kc ks pc' lo st) : mx_V p l e R s m args below meth c G base nL Q h kc ks pc lo (.int (nI b) :: .int (nI a) :: st) := mx_icmp_le C hd ht hp (fun z => kt ((nI_leI ha hb).mp z)) (fun z => kf (Nat.not_le.mp fun w => z ((nI_leI ha hb).mpr w)))
theorem mx_N0_eq (C : mx_C p s m args meth c cc nL own G base) {a : Nat} {off : Int} {tgt : Nat} (hd : decode cc pc = .ok (.ifCond .eq off, 3)) (ht : (pc : Int) + off = (tgt : Int)) {pc' : Nat} (hp : pc + 3 = pc') (ha : a < 2 ^ 31) (kt : a = 0 → mx_V p l e R s m args below meth c G base nL Q h kc ks tgt lo st) (kf : ¬ a = 0 → mx_V p l e R s m args below meth c G base nL Q h kc ks pc' lo st) : mx_V p l e R s m args below meth c G base nL Q h kc ks pc lo (.int (nI a) :: st) := mx_if_eq C hd ht hp (fun z => kt ((nI_eq ha (by decide)).mp z)) (fun z => kf (fun w => z ((nI_eq (b := 0) ha (by decide)).mpr w)))
theorem mx_N0_ne (C : mx_C p s m args meth c cc nL own G base) {a : Nat} {off : Int} {tgt : Nat} (hd : decode cc pc = .ok (.ifCond .ne off, 3)) (ht : (pc : Int) + off = (tgt : Int)) {pc' : Nat} (hp : pc + 3 = pc') (ha : a < 2 ^ 31) (kt : ¬ a = 0 → mx_V p l e R s m args below meth c G base nL Q h kc ks tgt lo st) (kf : a = 0 → mx_V p l e R s m args below meth c G base nL Q h kc ks pc' lo st) : mx_V p l e R s m args below meth c G base nL Q h kc ks pc lo (.int (nI a) :: st) := mx_if_ne C hd ht hp (fun z => kt (fun w => z ((nI_eq (b := 0) ha (by decide)).mpr w))) (fun z => kf ((nI_eq ha (by decide)).mp z))
theorem mx_N0_le (C : mx_C p s m args meth c cc nL own G base) {a : Nat} {off : Int} {tgt : Nat} (hd : decode cc pc = .ok (.ifCond .le off, 3)) (ht : (pc : Int) + off = (tgt : Int)) {pc' : Nat} (hp : pc + 3 = pc') (ha : a < 2 ^ 31) (kt : a = 0 → mx_V p l e R s m args below meth c G base nL Q h kc ks tgt lo st) (kf : 0 < a → mx_V p l e R s m args below meth c G base nL Q h kc ks pc' lo st) : mx_V p l e R s m args below meth c G base nL Q h kc ks pc lo (.int (nI a) :: st) := mx_if_le C hd ht hp (fun z => kt (Nat.le_zero.mp ((nI_leI (b := 0) ha (by decide)).mp z))) (fun z => kf (Nat.not_le.mp fun w => z ((nI_leI (b := 0) ha (by decide)).mpr w)))
theorem mx_N0_gt (C : mx_C p s m args meth c cc nL own G base) {a : Nat} {off : Int} {tgt : Nat} (hd : decode cc pc = .ok (.ifCond .gt off, 3)) (ht : (pc : Int) + off = (tgt : Int)) {pc' : Nat} (hp : pc + 3 = pc') (ha : a < 2 ^ 31) (kt : 0 < a → mx_V p l e R s m args below meth c G base nL Q h kc ks tgt lo st) (kf : a = 0 → mx_V p l e R s m args below meth c G base nL Q h kc ks pc' lo st) : mx_V p l e R s m args below meth c G base nL Q h kc ks pc lo (.int (nI a) :: st) := mx_if_gt C hd ht hp (fun z => kt ((nI_ltI (a := 0) (by decide) ha).mp z)) (fun z => kf (Nat.le_zero.mp (Nat.not_lt.mp fun w => z ((nI_ltI (a := 0) (by decide) ha).mpr w))))
theorem mx_B_eq (C : mx_C p s m args meth c cc nL own G base) {b : Bool} {off : Int} {tgt : Nat} (hd : decode cc pc = .ok (.ifCond .eq off, 3)) (ht : (pc : Int) + off = (tgt : Int)) {pc' : Nat} (hp : pc + 3 = pc') (kt : b = false → mx_V p l e R s m args below meth c G base nL Q h kc ks tgt lo st) (kf : b = true → mx_V p l e R s m args below meth c G base nL Q h kc ks pc' lo st) : mx_V p l e R s m args below meth c G base nL Q h kc ks pc lo (.int (mx_b b) :: st) := mx_if_eq C hd ht hp (fun z => kt (mx_b_0.mp z)) (fun z => kf (by cases b with | true => rfl | false => exact absurd rfl z))
theorem mx_B_ne (C : mx_C p s m args meth c cc nL own G base) {b : Bool} {off : Int} {tgt : Nat} (hd : decode cc pc = .ok (.ifCond .ne off, 3)) (ht : (pc : Int) + off = (tgt : Int)) {pc' : Nat} (hp : pc + 3 = pc') (kt : b = true → mx_V p l e R s m args below meth c G base nL Q h kc ks tgt lo st) (kf : b = false → mx_V p l e R s m args below meth c G base nL Q h kc ks pc' lo st) : mx_V p l e R s m args below meth c G base nL Q h kc ks pc lo (.int (mx_b b) :: st) := mx_if_ne C hd ht hp (fun z => kt (by cases b with | true => rfl | false => exact absurd rfl z)) (fun z => kf (mx_b_0.mp z))
theorem mx_L_eq (C : mx_C p s m args meth c cc nL own G base) {x y : Int64} {off : Int} {tgt : Nat} (hd : decode cc pc = .ok (.ifCond .eq off, 3)) (ht : (pc : Int) + off = (tgt : Int)) {pc' : Nat} (hp : pc + 3 = pc') (kt : x = y → mx_V p l e R s m args below meth c G base nL Q h kc ks tgt lo st) (kf : ¬ x = y → mx_V p l e R s m args below meth c G base nL Q h kc ks pc' lo st) : mx_V p l e R s m args below meth c G base nL Q h kc ks pc lo (.int (lg_cmp x y) :: st) := mx_if_eq C hd ht hp (fun z => kt (mx_lc_eq.mp z)) (fun z => kf (fun w => z (mx_lc_eq.mpr w)))
theorem mx_L_ne (C : mx_C p s m args meth c cc nL own G base) {x y : Int64} {off : Int} {tgt : Nat} (hd : decode cc pc = .ok (.ifCond .ne off, 3)) (ht : (pc : Int) + off = (tgt : Int)) {pc' : Nat} (hp : pc + 3 = pc') (kt : ¬ x = y → mx_V p l e R s m args below meth c G base nL Q h kc ks tgt lo st) (kf : x = y → mx_V p l e R s m args below meth c G base nL Q h kc ks pc' lo st) : mx_V p l e R s m args below meth c G base nL Q h kc ks pc lo (.int (lg_cmp x y) :: st) := mx_if_ne C hd ht hp (fun z => kt (fun w => z (mx_lc_eq.mpr w))) (fun z => kf (mx_lc_eq.mp z))
theorem mx_L_lt (C : mx_C p s m args meth c cc nL own G base) {x y : Int64} {off : Int} {tgt : Nat} (hd : decode cc pc = .ok (.ifCond .lt off, 3)) (ht : (pc : Int) + off = (tgt : Int)) {pc' : Nat} (hp : pc + 3 = pc') (kt : x < y → mx_V p l e R s m args below meth c G base nL Q h kc ks tgt lo st) (kf : ¬ x < y → mx_V p l e R s m args below meth c G base nL Q h kc ks pc' lo st) : mx_V p l e R s m args below meth c G base nL Q h kc ks pc lo (.int (lg_cmp x y) :: st) := mx_if_lt C hd ht hp (fun z => kt (mx_lc_lt.mp z)) (fun z => kf (fun w => z (mx_lc_lt.mpr w)))
theorem mx_L_ge (C : mx_C p s m args meth c cc nL own G base) {x y : Int64} {off : Int} {tgt : Nat} (hd : decode cc pc = .ok (.ifCond .ge off, 3)) (ht : (pc : Int) + off = (tgt : Int)) {pc' : Nat} (hp : pc + 3 = pc') (kt : y ≤ x → mx_V p l e R s m args below meth c G base nL Q h kc ks tgt lo st) (kf : ¬ y ≤ x → mx_V p l e R s m args below meth c G base nL Q h kc ks pc' lo st) : mx_V p l e R s m args below meth c G base nL Q h kc ks pc lo (.int (lg_cmp x y) :: st) := mx_if_ge C hd ht hp (fun z => kt (mx_lc_ge.mp z)) (fun z => kf (fun w => z (mx_lc_ge.mpr w)))
theorem mx_L_gt (C : mx_C p s m args meth c cc nL own G base) {x y : Int64} {off : Int} {tgt : Nat} (hd : decode cc pc = .ok (.ifCond .gt off, 3)) (ht : (pc : Int) + off = (tgt : Int)) {pc' : Nat} (hp : pc + 3 = pc') (kt : y < x → mx_V p l e R s m args below meth c G base nL Q h kc ks tgt lo st) (kf : ¬ y < x → mx_V p l e R s m args below meth c G base nL Q h kc ks pc' lo st) : mx_V p l e R s m args below meth c G base nL Q h kc ks pc lo (.int (lg_cmp x y) :: st) := mx_if_gt C hd ht hp (fun z => kt (mx_lc_gt.mp z)) (fun z => kf (fun w => z (mx_lc_gt.mpr w)))
theorem mx_L_le (C : mx_C p s m args meth c cc nL own G base) {x y : Int64} {off : Int} {tgt : Nat} (hd : decode cc pc = .ok (.ifCond .le off, 3)) (ht : (pc : Int) + off = (tgt : Int)) {pc' : Nat} (hp : pc + 3 = pc') (kt : x ≤ y → mx_V p l e R s m args below meth c G base nL Q h kc ks tgt lo st) (kf : ¬ x ≤ y → mx_V p l e R s m args below meth c G base nL Q h kc ks pc' lo st) : mx_V p l e R s m args below meth c G base nL Q h kc ks pc lo (.int (lg_cmp x y) :: st) := mx_if_le C hd ht hp (fun z => kt (mx_lc_le.mp z)) (fun z => kf (fun w => z (mx_lc_le.mpr w)))
theorem mx_LN_eq (C : mx_C p s m args meth c cc nL own G base) {a b : Nat} {off : Int} {tgt : Nat} (hd : decode cc pc = .ok (.ifCond .eq off, 3)) (ht : (pc : Int) + off = (tgt : Int)) {pc' : Nat} (hp : pc + 3 = pc') (ha : a < 2 ^ 63) (hb : b < 2 ^ 63) (kt : a = b → mx_V p l e R s m args below meth c G base nL Q h kc ks tgt lo st) (kf : ¬ a = b → mx_V p l e R s m args below meth c G base nL Q h kc ks pc' lo st) : mx_V p l e R s m args below meth c G base nL Q h kc ks pc lo (.int (lg_cmp (lN a) (lN b)) :: st) := mx_L_eq C hd ht hp (fun z => kt ((pk_lEQ ha hb).mp z)) (fun z => kf (fun w => z ((pk_lEQ ha hb).mpr w)))
theorem mx_LN_ne (C : mx_C p s m args meth c cc nL own G base) {a b : Nat} {off : Int} {tgt : Nat} (hd : decode cc pc = .ok (.ifCond .ne off, 3)) (ht : (pc : Int) + off = (tgt : Int)) {pc' : Nat} (hp : pc + 3 = pc') (ha : a < 2 ^ 63) (hb : b < 2 ^ 63) (kt : ¬ a = b → mx_V p l e R s m args below meth c G base nL Q h kc ks tgt lo st) (kf : a = b → mx_V p l e R s m args below meth c G base nL Q h kc ks pc' lo st) : mx_V p l e R s m args below meth c G base nL Q h kc ks pc lo (.int (lg_cmp (lN a) (lN b)) :: st) := mx_L_ne C hd ht hp (fun z => kt (fun w => z ((pk_lEQ ha hb).mpr w))) (fun z => kf ((pk_lEQ ha hb).mp z))
theorem mx_LN_lt (C : mx_C p s m args meth c cc nL own G base) {a b : Nat} {off : Int} {tgt : Nat} (hd : decode cc pc = .ok (.ifCond .lt off, 3)) (ht : (pc : Int) + off = (tgt : Int)) {pc' : Nat} (hp : pc + 3 = pc') (ha : a < 2 ^ 63) (hb : b < 2 ^ 63) (kt : a < b → mx_V p l e R s m args below meth c G base nL Q h kc ks tgt lo st) (kf : b ≤ a → mx_V p l e R s m args below meth c G base nL Q h kc ks pc' lo st) : mx_V p l e R s m args below meth c G base nL Q h kc ks pc lo (.int (lg_cmp (lN a) (lN b)) :: st) := mx_L_lt C hd ht hp (fun z => kt ((pk_lLT ha hb).mp z)) (fun z => kf (Nat.not_lt.mp fun w => z ((pk_lLT ha hb).mpr w)))
theorem mx_LN_ge (C : mx_C p s m args meth c cc nL own G base) {a b : Nat} {off : Int} {tgt : Nat} (hd : decode cc pc = .ok (.ifCond .ge off, 3)) (ht : (pc : Int) + off = (tgt : Int)) {pc' : Nat} (hp : pc + 3 = pc') (ha : a < 2 ^ 63) (hb : b < 2 ^ 63) (kt : b ≤ a → mx_V p l e R s m args below meth c G base nL Q h kc ks tgt lo st) (kf : a < b → mx_V p l e R s m args below meth c G base nL Q h kc ks pc' lo st) : mx_V p l e R s m args below meth c G base nL Q h kc ks pc lo (.int (lg_cmp (lN a) (lN b)) :: st) := mx_L_ge C hd ht hp (fun z => kt ((pk_lLE hb ha).mp z)) (fun z => kf (Nat.not_le.mp fun w => z ((pk_lLE hb ha).mpr w)))
theorem mx_LN_gt (C : mx_C p s m args meth c cc nL own G base) {a b : Nat} {off : Int} {tgt : Nat} (hd : decode cc pc = .ok (.ifCond .gt off, 3)) (ht : (pc : Int) + off = (tgt : Int)) {pc' : Nat} (hp : pc + 3 = pc') (ha : a < 2 ^ 63) (hb : b < 2 ^ 63) (kt : b < a → mx_V p l e R s m args below meth c G base nL Q h kc ks tgt lo st) (kf : a ≤ b → mx_V p l e R s m args below meth c G base nL Q h kc ks pc' lo st) : mx_V p l e R s m args below meth c G base nL Q h kc ks pc lo (.int (lg_cmp (lN a) (lN b)) :: st) := mx_L_gt C hd ht hp (fun z => kt ((pk_lLT hb ha).mp z)) (fun z => kf (Nat.not_lt.mp fun w => z ((pk_lLT hb ha).mpr w)))
theorem mx_LN_le (C : mx_C p s m args meth c cc nL own G base) {a b : Nat} {off : Int} {tgt : Nat} (hd : decode cc pc = .ok (.ifCond .le off, 3)) (ht : (pc : Int) + off = (tgt : Int)) {pc' : Nat} (hp : pc + 3 = pc') (ha : a < 2 ^ 63) (hb : b < 2 ^ 63) (kt : a ≤ b → mx_V p l e R s m args below meth c G base nL Q h kc ks tgt lo st) (kf : b < a → mx_V p l e R s m args below meth c G base nL Q h kc ks pc' lo st) : mx_V p l e R s m args below meth c G base nL Q h kc ks pc lo (.int (lg_cmp (lN a) (lN b)) :: st) := mx_L_le C hd ht hp (fun z => kt ((pk_lLE ha hb).mp z)) (fun z => kf (Nat.not_le.mp fun w => z ((pk_lLE ha hb).mpr w)))
end MX3
end
