section
-- ===== PART A: goes FIRST, ahead of the names: the tables' words, and 'selects' of the private methods out of them =====
/-- a private method of a class that the tables say can be made, by its rows of tables_1 -/
def lw_okq (q : MethodName × Nat) : Prop := (q.1.cls ≠ "java/lang/invoke/MethodHandle" ∧ q.1.cls ≠ "java/lang/invoke/VarHandle") ∧ Cond.instantiable q.1.cls q.2 ∈ tables_1 ∧ Cond.privateMethod q.1 ∈ tables_1 ∧ Cond.instanceMethod q.1 ∈ tables_1
theorem lw_p0 : lw_okq (⟨"StreamFilters$Codes", "count", "([III)V"⟩, 5) := ⟨⟨by decide +kernel, by decide +kernel⟩, List.mem_of_getElem? (i := 100) (by decide +kernel), List.mem_of_getElem? (i := 130) (by decide +kernel), List.mem_of_getElem? (i := 131) (by decide +kernel)⟩
theorem lw_p1 : lw_okq (⟨"StreamFilters", "noteFault", "(III)V"⟩, 17) := ⟨⟨by decide +kernel, by decide +kernel⟩, List.mem_of_getElem? (i := 22) (by decide +kernel), List.mem_of_getElem? (i := 303) (by decide +kernel), List.mem_of_getElem? (i := 304) (by decide +kernel)⟩
theorem lw_p2 : lw_okq (⟨"StreamFilters", "unpackerOf", "(I)LStreamFilters$Unpacker;"⟩, 17) := ⟨⟨by decide +kernel, by decide +kernel⟩, List.mem_of_getElem? (i := 22) (by decide +kernel), List.mem_of_getElem? (i := 321) (by decide +kernel), List.mem_of_getElem? (i := 322) (by decide +kernel)⟩
theorem lw_p3 : lw_okq (⟨"StreamFilters$Flate", "readCodes", "(LStreamFilters$Pass;)Z"⟩, 6) := ⟨⟨by decide +kernel, by decide +kernel⟩, List.mem_of_getElem? (i := 91) (by decide +kernel), List.mem_of_getElem? (i := 401) (by decide +kernel), List.mem_of_getElem? (i := 402) (by decide +kernel)⟩
theorem lw_p4 : lw_okq (⟨"StreamFilters$Flate", "readLengthCodes", "(LStreamFilters$Pass;I)Z"⟩, 6) := ⟨⟨by decide +kernel, by decide +kernel⟩, List.mem_of_getElem? (i := 91) (by decide +kernel), List.mem_of_getElem? (i := 405) (by decide +kernel), List.mem_of_getElem? (i := 406) (by decide +kernel)⟩
theorem lw_p5 : lw_okq (⟨"StreamFilters$Flate", "readLengths", "(LStreamFilters$Pass;I)Z"⟩, 6) := ⟨⟨by decide +kernel, by decide +kernel⟩, List.mem_of_getElem? (i := 91) (by decide +kernel), List.mem_of_getElem? (i := 414) (by decide +kernel), List.mem_of_getElem? (i := 415) (by decide +kernel)⟩
theorem lw_p6 : lw_okq (⟨"StreamFilters$Lzw", "clear", "()V"⟩, 5) := ⟨⟨by decide +kernel, by decide +kernel⟩, List.mem_of_getElem? (i := 156) (by decide +kernel), List.mem_of_getElem? (i := 468) (by decide +kernel), List.mem_of_getElem? (i := 469) (by decide +kernel)⟩
theorem lw_p7 : lw_okq (⟨"StreamFilters$Lzw", "giveString", "(LStreamFilters$Pass;I)Z"⟩, 5) := ⟨⟨by decide +kernel, by decide +kernel⟩, List.mem_of_getElem? (i := 156) (by decide +kernel), List.mem_of_getElem? (i := 480) (by decide +kernel), List.mem_of_getElem? (i := 481) (by decide +kernel)⟩
theorem lw_p8 : lw_okq (⟨"StreamFilters$Lzw", "sizeOf", "(I)I"⟩, 5) := ⟨⟨by decide +kernel, by decide +kernel⟩, List.mem_of_getElem? (i := 156) (by decide +kernel), List.mem_of_getElem? (i := 484) (by decide +kernel), List.mem_of_getElem? (i := 485) (by decide +kernel)⟩
theorem lw_p9 : lw_okq (⟨"StreamFilters$Lzw", "startOf", "(I)I"⟩, 5) := ⟨⟨by decide +kernel, by decide +kernel⟩, List.mem_of_getElem? (i := 156) (by decide +kernel), List.mem_of_getElem? (i := 490) (by decide +kernel), List.mem_of_getElem? (i := 491) (by decide +kernel)⟩
theorem lw_p10 : lw_okq (⟨"StreamFilters$Lzw", "makeString", "()V"⟩, 5) := ⟨⟨by decide +kernel, by decide +kernel⟩, List.mem_of_getElem? (i := 156) (by decide +kernel), List.mem_of_getElem? (i := 495) (by decide +kernel), List.mem_of_getElem? (i := 496) (by decide +kernel)⟩
theorem lw_p11 : lw_okq (⟨"StreamFilters$Text85", "finish", "(LStreamFilters$Pass;)V"⟩, 2) := ⟨⟨by decide +kernel, by decide +kernel⟩, List.mem_of_getElem? (i := 178) (by decide +kernel), List.mem_of_getElem? (i := 504) (by decide +kernel), List.mem_of_getElem? (i := 505) (by decide +kernel)⟩
theorem lw_p12 : lw_okq (⟨"StreamFilters$Text85", "addDigit", "(I)V"⟩, 2) := ⟨⟨by decide +kernel, by decide +kernel⟩, List.mem_of_getElem? (i := 178) (by decide +kernel), List.mem_of_getElem? (i := 510) (by decide +kernel), List.mem_of_getElem? (i := 511) (by decide +kernel)⟩
theorem lw_p13 : lw_okq (⟨"StreamFilters$Text85", "giveNumber", "(LStreamFilters$Pass;I)Z"⟩, 2) := ⟨⟨by decide +kernel, by decide +kernel⟩, List.mem_of_getElem? (i := 178) (by decide +kernel), List.mem_of_getElem? (i := 515) (by decide +kernel), List.mem_of_getElem? (i := 516) (by decide +kernel)⟩
theorem lw_p14 : lw_okq (⟨"StreamFilters$Link", "undoNumbers", "(LStreamFilters$Bytes;)V"⟩, 6) := ⟨⟨by decide +kernel, by decide +kernel⟩, List.mem_of_getElem? (i := 204) (by decide +kernel), List.mem_of_getElem? (i := 526) (by decide +kernel), List.mem_of_getElem? (i := 527) (by decide +kernel)⟩
theorem lw_p15 : lw_okq (⟨"StreamFilters$Link", "rowSize", "()I"⟩, 6) := ⟨⟨by decide +kernel, by decide +kernel⟩, List.mem_of_getElem? (i := 204) (by decide +kernel), List.mem_of_getElem? (i := 530) (by decide +kernel), List.mem_of_getElem? (i := 531) (by decide +kernel)⟩
def lw_privs_1 : List (MethodName × Nat) := [(⟨"StreamFilters$Codes", "count", "([III)V"⟩, 5), (⟨"StreamFilters", "noteFault", "(III)V"⟩, 17), (⟨"StreamFilters", "unpackerOf", "(I)LStreamFilters$Unpacker;"⟩, 17), (⟨"StreamFilters$Flate", "readCodes", "(LStreamFilters$Pass;)Z"⟩, 6), (⟨"StreamFilters$Flate", "readLengthCodes", "(LStreamFilters$Pass;I)Z"⟩, 6), (⟨"StreamFilters$Flate", "readLengths", "(LStreamFilters$Pass;I)Z"⟩, 6), (⟨"StreamFilters$Lzw", "clear", "()V"⟩, 5), (⟨"StreamFilters$Lzw", "giveString", "(LStreamFilters$Pass;I)Z"⟩, 5), (⟨"StreamFilters$Lzw", "sizeOf", "(I)I"⟩, 5), (⟨"StreamFilters$Lzw", "startOf", "(I)I"⟩, 5), (⟨"StreamFilters$Lzw", "makeString", "()V"⟩, 5), (⟨"StreamFilters$Text85", "finish", "(LStreamFilters$Pass;)V"⟩, 2), (⟨"StreamFilters$Text85", "addDigit", "(I)V"⟩, 2), (⟨"StreamFilters$Text85", "giveNumber", "(LStreamFilters$Pass;I)Z"⟩, 2), (⟨"StreamFilters$Link", "undoNumbers", "(LStreamFilters$Bytes;)V"⟩, 6), (⟨"StreamFilters$Link", "rowSize", "()I"⟩, 6)]
theorem lw_r1 : ∀ q ∈ lw_privs_1, lw_okq q := List.forall_mem_cons.mpr ⟨lw_p0, List.forall_mem_cons.mpr ⟨lw_p1, List.forall_mem_cons.mpr ⟨lw_p2, List.forall_mem_cons.mpr ⟨lw_p3, List.forall_mem_cons.mpr ⟨lw_p4, List.forall_mem_cons.mpr ⟨lw_p5, List.forall_mem_cons.mpr ⟨lw_p6, List.forall_mem_cons.mpr ⟨lw_p7, List.forall_mem_cons.mpr ⟨lw_p8, List.forall_mem_cons.mpr ⟨lw_p9, List.forall_mem_cons.mpr ⟨lw_p10, List.forall_mem_cons.mpr ⟨lw_p11, List.forall_mem_cons.mpr ⟨lw_p12, List.forall_mem_cons.mpr ⟨lw_p13, List.forall_mem_cons.mpr ⟨lw_p14, List.forall_mem_cons.mpr ⟨lw_p15, fun _ h => absurd h List.not_mem_nil⟩⟩⟩⟩⟩⟩⟩⟩⟩⟩⟩⟩⟩⟩⟩⟩
theorem lw_p16 : lw_okq (⟨"StreamFilters$Link", "numberAt", "(LStreamFilters$Bytes;II)I"⟩, 6) := ⟨⟨by decide +kernel, by decide +kernel⟩, List.mem_of_getElem? (i := 204) (by decide +kernel), List.mem_of_getElem? (i := 536) (by decide +kernel), List.mem_of_getElem? (i := 537) (by decide +kernel)⟩
theorem lw_p17 : lw_okq (⟨"StreamFilters$Link", "shiftOf", "(I)I"⟩, 6) := ⟨⟨by decide +kernel, by decide +kernel⟩, List.mem_of_getElem? (i := 204) (by decide +kernel), List.mem_of_getElem? (i := 541) (by decide +kernel), List.mem_of_getElem? (i := 542) (by decide +kernel)⟩
theorem lw_p18 : lw_okq (⟨"StreamFilters$Link", "mask", "()I"⟩, 6) := ⟨⟨by decide +kernel, by decide +kernel⟩, List.mem_of_getElem? (i := 204) (by decide +kernel), List.mem_of_getElem? (i := 545) (by decide +kernel), List.mem_of_getElem? (i := 546) (by decide +kernel)⟩
theorem lw_p19 : lw_okq (⟨"StreamFilters$Link", "setNumber", "(LStreamFilters$Bytes;III)V"⟩, 6) := ⟨⟨by decide +kernel, by decide +kernel⟩, List.mem_of_getElem? (i := 204) (by decide +kernel), List.mem_of_getElem? (i := 549) (by decide +kernel), List.mem_of_getElem? (i := 550) (by decide +kernel)⟩
theorem lw_p20 : lw_okq (⟨"StreamFilters$Link", "undoTags", "(LStreamFilters$Bytes;)Z"⟩, 6) := ⟨⟨by decide +kernel, by decide +kernel⟩, List.mem_of_getElem? (i := 204) (by decide +kernel), List.mem_of_getElem? (i := 557) (by decide +kernel), List.mem_of_getElem? (i := 558) (by decide +kernel)⟩
theorem lw_p21 : lw_okq (⟨"StreamFilters$Link", "undoRow", "(LStreamFilters$Bytes;IIII)V"⟩, 6) := ⟨⟨by decide +kernel, by decide +kernel⟩, List.mem_of_getElem? (i := 204) (by decide +kernel), List.mem_of_getElem? (i := 561) (by decide +kernel), List.mem_of_getElem? (i := 562) (by decide +kernel)⟩
theorem lw_p22 : lw_okq (⟨"java/lang/Throwable", "fillInStackTrace", "(I)Ljava/lang/Throwable;"⟩, 6) := ⟨⟨by decide +kernel, by decide +kernel⟩, List.mem_of_getElem? (i := 630) (by decide +kernel), List.mem_of_getElem? (i := 628) (by decide +kernel), List.mem_of_getElem? (i := 629) (by decide +kernel)⟩
theorem lw_p23 : lw_okq (⟨"StreamFiltersModel", "refused", "(I)Z"⟩, 31) := ⟨⟨by decide +kernel, by decide +kernel⟩, List.mem_of_getElem? (i := 751) (by decide +kernel), List.mem_of_getElem? (i := 867) (by decide +kernel), List.mem_of_getElem? (i := 868) (by decide +kernel)⟩
theorem lw_p24 : lw_okq (⟨"StreamFiltersModel", "isGood", "()Z"⟩, 31) := ⟨⟨by decide +kernel, by decide +kernel⟩, List.mem_of_getElem? (i := 751) (by decide +kernel), List.mem_of_getElem? (i := 895) (by decide +kernel), List.mem_of_getElem? (i := 896) (by decide +kernel)⟩
theorem lw_p25 : lw_okq (⟨"StreamFiltersModel", "run", "(I)V"⟩, 31) := ⟨⟨by decide +kernel, by decide +kernel⟩, List.mem_of_getElem? (i := 751) (by decide +kernel), List.mem_of_getElem? (i := 899) (by decide +kernel), List.mem_of_getElem? (i := 900) (by decide +kernel)⟩
theorem lw_p26 : lw_okq (⟨"StreamFiltersModel", "flate", "()V"⟩, 31) := ⟨⟨by decide +kernel, by decide +kernel⟩, List.mem_of_getElem? (i := 751) (by decide +kernel), List.mem_of_getElem? (i := 903) (by decide +kernel), List.mem_of_getElem? (i := 904) (by decide +kernel)⟩
theorem lw_p27 : lw_okq (⟨"StreamFiltersModel", "next", "()I"⟩, 31) := ⟨⟨by decide +kernel, by decide +kernel⟩, List.mem_of_getElem? (i := 751) (by decide +kernel), List.mem_of_getElem? (i := 907) (by decide +kernel), List.mem_of_getElem? (i := 908) (by decide +kernel)⟩
theorem lw_p28 : lw_okq (⟨"StreamFiltersModel", "fail", "(I)V"⟩, 31) := ⟨⟨by decide +kernel, by decide +kernel⟩, List.mem_of_getElem? (i := 751) (by decide +kernel), List.mem_of_getElem? (i := 911) (by decide +kernel), List.mem_of_getElem? (i := 912) (by decide +kernel)⟩
theorem lw_p29 : lw_okq (⟨"StreamFiltersModel", "bit", "()I"⟩, 31) := ⟨⟨by decide +kernel, by decide +kernel⟩, List.mem_of_getElem? (i := 751) (by decide +kernel), List.mem_of_getElem? (i := 915) (by decide +kernel), List.mem_of_getElem? (i := 916) (by decide +kernel)⟩
theorem lw_p30 : lw_okq (⟨"StreamFiltersModel", "number", "(I)I"⟩, 31) := ⟨⟨by decide +kernel, by decide +kernel⟩, List.mem_of_getElem? (i := 751) (by decide +kernel), List.mem_of_getElem? (i := 919) (by decide +kernel), List.mem_of_getElem? (i := 920) (by decide +kernel)⟩
theorem lw_p31 : lw_okq (⟨"StreamFiltersModel", "block", "(I)V"⟩, 31) := ⟨⟨by decide +kernel, by decide +kernel⟩, List.mem_of_getElem? (i := 751) (by decide +kernel), List.mem_of_getElem? (i := 923) (by decide +kernel), List.mem_of_getElem? (i := 924) (by decide +kernel)⟩
def lw_privs_2 : List (MethodName × Nat) := [(⟨"StreamFilters$Link", "numberAt", "(LStreamFilters$Bytes;II)I"⟩, 6), (⟨"StreamFilters$Link", "shiftOf", "(I)I"⟩, 6), (⟨"StreamFilters$Link", "mask", "()I"⟩, 6), (⟨"StreamFilters$Link", "setNumber", "(LStreamFilters$Bytes;III)V"⟩, 6), (⟨"StreamFilters$Link", "undoTags", "(LStreamFilters$Bytes;)Z"⟩, 6), (⟨"StreamFilters$Link", "undoRow", "(LStreamFilters$Bytes;IIII)V"⟩, 6), (⟨"java/lang/Throwable", "fillInStackTrace", "(I)Ljava/lang/Throwable;"⟩, 6), (⟨"StreamFiltersModel", "refused", "(I)Z"⟩, 31), (⟨"StreamFiltersModel", "isGood", "()Z"⟩, 31), (⟨"StreamFiltersModel", "run", "(I)V"⟩, 31), (⟨"StreamFiltersModel", "flate", "()V"⟩, 31), (⟨"StreamFiltersModel", "next", "()I"⟩, 31), (⟨"StreamFiltersModel", "fail", "(I)V"⟩, 31), (⟨"StreamFiltersModel", "bit", "()I"⟩, 31), (⟨"StreamFiltersModel", "number", "(I)I"⟩, 31), (⟨"StreamFiltersModel", "block", "(I)V"⟩, 31)]
theorem lw_r2 : ∀ q ∈ lw_privs_2, lw_okq q := List.forall_mem_cons.mpr ⟨lw_p16, List.forall_mem_cons.mpr ⟨lw_p17, List.forall_mem_cons.mpr ⟨lw_p18, List.forall_mem_cons.mpr ⟨lw_p19, List.forall_mem_cons.mpr ⟨lw_p20, List.forall_mem_cons.mpr ⟨lw_p21, List.forall_mem_cons.mpr ⟨lw_p22, List.forall_mem_cons.mpr ⟨lw_p23, List.forall_mem_cons.mpr ⟨lw_p24, List.forall_mem_cons.mpr ⟨lw_p25, List.forall_mem_cons.mpr ⟨lw_p26, List.forall_mem_cons.mpr ⟨lw_p27, List.forall_mem_cons.mpr ⟨lw_p28, List.forall_mem_cons.mpr ⟨lw_p29, List.forall_mem_cons.mpr ⟨lw_p30, List.forall_mem_cons.mpr ⟨lw_p31, fun _ h => absurd h List.not_mem_nil⟩⟩⟩⟩⟩⟩⟩⟩⟩⟩⟩⟩⟩⟩⟩⟩
theorem lw_p32 : lw_okq (⟨"StreamFiltersModel", "stored", "()V"⟩, 31) := ⟨⟨by decide +kernel, by decide +kernel⟩, List.mem_of_getElem? (i := 751) (by decide +kernel), List.mem_of_getElem? (i := 927) (by decide +kernel), List.mem_of_getElem? (i := 928) (by decide +kernel)⟩
theorem lw_p33 : lw_okq (⟨"StreamFiltersModel", "give", "(I)V"⟩, 31) := ⟨⟨by decide +kernel, by decide +kernel⟩, List.mem_of_getElem? (i := 751) (by decide +kernel), List.mem_of_getElem? (i := 932) (by decide +kernel), List.mem_of_getElem? (i := 933) (by decide +kernel)⟩
theorem lw_p34 : lw_okq (⟨"StreamFiltersModel", "fixCodes", "()V"⟩, 31) := ⟨⟨by decide +kernel, by decide +kernel⟩, List.mem_of_getElem? (i := 751) (by decide +kernel), List.mem_of_getElem? (i := 936) (by decide +kernel), List.mem_of_getElem? (i := 937) (by decide +kernel)⟩
theorem lw_p35 : lw_okq (⟨"StreamFiltersModel", "makeCodes", "(II)V"⟩, 31) := ⟨⟨by decide +kernel, by decide +kernel⟩, List.mem_of_getElem? (i := 751) (by decide +kernel), List.mem_of_getElem? (i := 940) (by decide +kernel), List.mem_of_getElem? (i := 941) (by decide +kernel)⟩
theorem lw_p36 : lw_okq (⟨"StreamFiltersModel", "coded", "()V"⟩, 31) := ⟨⟨by decide +kernel, by decide +kernel⟩, List.mem_of_getElem? (i := 751) (by decide +kernel), List.mem_of_getElem? (i := 944) (by decide +kernel), List.mem_of_getElem? (i := 945) (by decide +kernel)⟩
theorem lw_p37 : lw_okq (⟨"StreamFiltersModel", "symbol", "(II)I"⟩, 31) := ⟨⟨by decide +kernel, by decide +kernel⟩, List.mem_of_getElem? (i := 751) (by decide +kernel), List.mem_of_getElem? (i := 948) (by decide +kernel), List.mem_of_getElem? (i := 949) (by decide +kernel)⟩
theorem lw_p38 : lw_okq (⟨"StreamFiltersModel", "match", "(I)V"⟩, 31) := ⟨⟨by decide +kernel, by decide +kernel⟩, List.mem_of_getElem? (i := 751) (by decide +kernel), List.mem_of_getElem? (i := 952) (by decide +kernel), List.mem_of_getElem? (i := 953) (by decide +kernel)⟩
theorem lw_p39 : lw_okq (⟨"StreamFiltersModel", "readCodes", "()V"⟩, 31) := ⟨⟨by decide +kernel, by decide +kernel⟩, List.mem_of_getElem? (i := 751) (by decide +kernel), List.mem_of_getElem? (i := 968) (by decide +kernel), List.mem_of_getElem? (i := 969) (by decide +kernel)⟩
theorem lw_p40 : lw_okq (⟨"StreamFiltersModel", "isWhole", "(IIZ)Z"⟩, 31) := ⟨⟨by decide +kernel, by decide +kernel⟩, List.mem_of_getElem? (i := 751) (by decide +kernel), List.mem_of_getElem? (i := 975) (by decide +kernel), List.mem_of_getElem? (i := 976) (by decide +kernel)⟩
theorem lw_p41 : lw_okq (⟨"StreamFiltersModel", "readLengths", "(II)V"⟩, 31) := ⟨⟨by decide +kernel, by decide +kernel⟩, List.mem_of_getElem? (i := 751) (by decide +kernel), List.mem_of_getElem? (i := 980) (by decide +kernel), List.mem_of_getElem? (i := 981) (by decide +kernel)⟩
theorem lw_p42 : lw_okq (⟨"StreamFiltersModel", "check", "()J"⟩, 31) := ⟨⟨by decide +kernel, by decide +kernel⟩, List.mem_of_getElem? (i := 751) (by decide +kernel), List.mem_of_getElem? (i := 985) (by decide +kernel), List.mem_of_getElem? (i := 986) (by decide +kernel)⟩
theorem lw_p43 : lw_okq (⟨"StreamFiltersModel", "lzw", "(I)V"⟩, 31) := ⟨⟨by decide +kernel, by decide +kernel⟩, List.mem_of_getElem? (i := 751) (by decide +kernel), List.mem_of_getElem? (i := 991) (by decide +kernel), List.mem_of_getElem? (i := 992) (by decide +kernel)⟩
theorem lw_p44 : lw_okq (⟨"StreamFiltersModel", "wideCode", "(I)I"⟩, 31) := ⟨⟨by decide +kernel, by decide +kernel⟩, List.mem_of_getElem? (i := 751) (by decide +kernel), List.mem_of_getElem? (i := 998) (by decide +kernel), List.mem_of_getElem? (i := 999) (by decide +kernel)⟩
theorem lw_p45 : lw_okq (⟨"StreamFiltersModel", "firstOf", "(I)I"⟩, 31) := ⟨⟨by decide +kernel, by decide +kernel⟩, List.mem_of_getElem? (i := 751) (by decide +kernel), List.mem_of_getElem? (i := 1002) (by decide +kernel), List.mem_of_getElem? (i := 1003) (by decide +kernel)⟩
theorem lw_p46 : lw_okq (⟨"StreamFiltersModel", "byteOf", "(II)I"⟩, 31) := ⟨⟨by decide +kernel, by decide +kernel⟩, List.mem_of_getElem? (i := 751) (by decide +kernel), List.mem_of_getElem? (i := 1006) (by decide +kernel), List.mem_of_getElem? (i := 1007) (by decide +kernel)⟩
theorem lw_p47 : lw_okq (⟨"StreamFiltersModel", "text85", "()V"⟩, 31) := ⟨⟨by decide +kernel, by decide +kernel⟩, List.mem_of_getElem? (i := 751) (by decide +kernel), List.mem_of_getElem? (i := 1010) (by decide +kernel), List.mem_of_getElem? (i := 1011) (by decide +kernel)⟩
def lw_privs_3 : List (MethodName × Nat) := [(⟨"StreamFiltersModel", "stored", "()V"⟩, 31), (⟨"StreamFiltersModel", "give", "(I)V"⟩, 31), (⟨"StreamFiltersModel", "fixCodes", "()V"⟩, 31), (⟨"StreamFiltersModel", "makeCodes", "(II)V"⟩, 31), (⟨"StreamFiltersModel", "coded", "()V"⟩, 31), (⟨"StreamFiltersModel", "symbol", "(II)I"⟩, 31), (⟨"StreamFiltersModel", "match", "(I)V"⟩, 31), (⟨"StreamFiltersModel", "readCodes", "()V"⟩, 31), (⟨"StreamFiltersModel", "isWhole", "(IIZ)Z"⟩, 31), (⟨"StreamFiltersModel", "readLengths", "(II)V"⟩, 31), (⟨"StreamFiltersModel", "check", "()J"⟩, 31), (⟨"StreamFiltersModel", "lzw", "(I)V"⟩, 31), (⟨"StreamFiltersModel", "wideCode", "(I)I"⟩, 31), (⟨"StreamFiltersModel", "firstOf", "(I)I"⟩, 31), (⟨"StreamFiltersModel", "byteOf", "(II)I"⟩, 31), (⟨"StreamFiltersModel", "text85", "()V"⟩, 31)]
theorem lw_r3 : ∀ q ∈ lw_privs_3, lw_okq q := List.forall_mem_cons.mpr ⟨lw_p32, List.forall_mem_cons.mpr ⟨lw_p33, List.forall_mem_cons.mpr ⟨lw_p34, List.forall_mem_cons.mpr ⟨lw_p35, List.forall_mem_cons.mpr ⟨lw_p36, List.forall_mem_cons.mpr ⟨lw_p37, List.forall_mem_cons.mpr ⟨lw_p38, List.forall_mem_cons.mpr ⟨lw_p39, List.forall_mem_cons.mpr ⟨lw_p40, List.forall_mem_cons.mpr ⟨lw_p41, List.forall_mem_cons.mpr ⟨lw_p42, List.forall_mem_cons.mpr ⟨lw_p43, List.forall_mem_cons.mpr ⟨lw_p44, List.forall_mem_cons.mpr ⟨lw_p45, List.forall_mem_cons.mpr ⟨lw_p46, List.forall_mem_cons.mpr ⟨lw_p47, fun _ h => absurd h List.not_mem_nil⟩⟩⟩⟩⟩⟩⟩⟩⟩⟩⟩⟩⟩⟩⟩⟩
theorem lw_p48 : lw_okq (⟨"StreamFiltersModel", "giveWord", "(JI)V"⟩, 31) := ⟨⟨by decide +kernel, by decide +kernel⟩, List.mem_of_getElem? (i := 751) (by decide +kernel), List.mem_of_getElem? (i := 1019) (by decide +kernel), List.mem_of_getElem? (i := 1020) (by decide +kernel)⟩
theorem lw_p49 : lw_okq (⟨"StreamFiltersModel", "hexadecimal", "()V"⟩, 31) := ⟨⟨by decide +kernel, by decide +kernel⟩, List.mem_of_getElem? (i := 751) (by decide +kernel), List.mem_of_getElem? (i := 1026) (by decide +kernel), List.mem_of_getElem? (i := 1027) (by decide +kernel)⟩
theorem lw_p50 : lw_okq (⟨"StreamFiltersModel", "runs", "()V"⟩, 31) := ⟨⟨by decide +kernel, by decide +kernel⟩, List.mem_of_getElem? (i := 751) (by decide +kernel), List.mem_of_getElem? (i := 1033) (by decide +kernel), List.mem_of_getElem? (i := 1034) (by decide +kernel)⟩
theorem lw_p51 : lw_okq (⟨"StreamFiltersModel", "addRows", "(I)V"⟩, 31) := ⟨⟨by decide +kernel, by decide +kernel⟩, List.mem_of_getElem? (i := 751) (by decide +kernel), List.mem_of_getElem? (i := 1037) (by decide +kernel), List.mem_of_getElem? (i := 1038) (by decide +kernel)⟩
theorem lw_p52 : lw_okq (⟨"StreamFiltersModel", "rowBytes", "(I)I"⟩, 31) := ⟨⟨by decide +kernel, by decide +kernel⟩, List.mem_of_getElem? (i := 751) (by decide +kernel), List.mem_of_getElem? (i := 1041) (by decide +kernel), List.mem_of_getElem? (i := 1042) (by decide +kernel)⟩
theorem lw_p53 : lw_okq (⟨"StreamFiltersModel", "numberAt", "(III)I"⟩, 31) := ⟨⟨by decide +kernel, by decide +kernel⟩, List.mem_of_getElem? (i := 751) (by decide +kernel), List.mem_of_getElem? (i := 1045) (by decide +kernel), List.mem_of_getElem? (i := 1046) (by decide +kernel)⟩
theorem lw_p54 : lw_okq (⟨"StreamFiltersModel", "bitAt", "(II)I"⟩, 31) := ⟨⟨by decide +kernel, by decide +kernel⟩, List.mem_of_getElem? (i := 751) (by decide +kernel), List.mem_of_getElem? (i := 1049) (by decide +kernel), List.mem_of_getElem? (i := 1050) (by decide +kernel)⟩
theorem lw_p55 : lw_okq (⟨"StreamFiltersModel", "setNumber", "(IIII)V"⟩, 31) := ⟨⟨by decide +kernel, by decide +kernel⟩, List.mem_of_getElem? (i := 751) (by decide +kernel), List.mem_of_getElem? (i := 1053) (by decide +kernel), List.mem_of_getElem? (i := 1054) (by decide +kernel)⟩
theorem lw_p56 : lw_okq (⟨"StreamFiltersModel", "undoRows", "(I)Z"⟩, 31) := ⟨⟨by decide +kernel, by decide +kernel⟩, List.mem_of_getElem? (i := 751) (by decide +kernel), List.mem_of_getElem? (i := 1057) (by decide +kernel), List.mem_of_getElem? (i := 1058) (by decide +kernel)⟩
def lw_privs_4 : List (MethodName × Nat) := [(⟨"StreamFiltersModel", "giveWord", "(JI)V"⟩, 31), (⟨"StreamFiltersModel", "hexadecimal", "()V"⟩, 31), (⟨"StreamFiltersModel", "runs", "()V"⟩, 31), (⟨"StreamFiltersModel", "addRows", "(I)V"⟩, 31), (⟨"StreamFiltersModel", "rowBytes", "(I)I"⟩, 31), (⟨"StreamFiltersModel", "numberAt", "(III)I"⟩, 31), (⟨"StreamFiltersModel", "bitAt", "(II)I"⟩, 31), (⟨"StreamFiltersModel", "setNumber", "(IIII)V"⟩, 31), (⟨"StreamFiltersModel", "undoRows", "(I)Z"⟩, 31)]
theorem lw_r4 : ∀ q ∈ lw_privs_4, lw_okq q := List.forall_mem_cons.mpr ⟨lw_p48, List.forall_mem_cons.mpr ⟨lw_p49, List.forall_mem_cons.mpr ⟨lw_p50, List.forall_mem_cons.mpr ⟨lw_p51, List.forall_mem_cons.mpr ⟨lw_p52, List.forall_mem_cons.mpr ⟨lw_p53, List.forall_mem_cons.mpr ⟨lw_p54, List.forall_mem_cons.mpr ⟨lw_p55, List.forall_mem_cons.mpr ⟨lw_p56, fun _ h => absurd h List.not_mem_nil⟩⟩⟩⟩⟩⟩⟩⟩⟩
def lw_privs : List (MethodName × Nat) := lw_privs_1 ++ (lw_privs_2 ++ (lw_privs_3 ++ (lw_privs_4)))
def lw_tbl : List Cond := k2_sels lw_privs ++ tables_1
theorem lw_privs_ok : ∀ q ∈ lw_privs, lw_okq q := by
  show ∀ q ∈ lw_privs_1 ++ (lw_privs_2 ++ (lw_privs_3 ++ (lw_privs_4))), lw_okq q
  exact List.forall_mem_append.mpr ⟨lw_r1, List.forall_mem_append.mpr ⟨lw_r2, List.forall_mem_append.mpr ⟨lw_r3, lw_r4⟩⟩⟩
end
section
/-! names: classes, fields, methods; the words of the tables that are good in every state -/
def R_SF : String := "StreamFilters"
def R_By : String := "StreamFilters$Bytes"
def R_Co : String := "StreamFilters$Codes"
def R_Fl : String := "StreamFilters$Flate"
def R_Hx : String := "StreamFilters$Hexadecimal"
def R_Le : String := "StreamFilters$Lengths"
def R_Li : String := "StreamFilters$Link"
def R_Lz : String := "StreamFilters$Lzw"
def R_Pa : String := "StreamFilters$Pass"
def R_T8 : String := "StreamFilters$Text85"
def R_Un : String := "StreamFilters$Unpacker"
def R_Mo : String := "StreamFiltersModel"
def R_La : String := "StreamFiltersLaw"
def T_SF : u_T := fun k => match k with
  | 0 => ("StreamFilters", "row", "LStreamFilters$Bytes;", true)
  | 1 => ("StreamFilters", "chain", "[LStreamFilters$Link;", true)
  | 2 => ("StreamFilters", "filters", "I", false)
  | 3 => ("StreamFilters", "allowed", "I", false)
  | 4 => ("StreamFilters", "pass", "LStreamFilters$Pass;", true)
  | 5 => ("StreamFilters", "flate", "LStreamFilters$Flate;", true)
  | 6 => ("StreamFilters", "lzw", "LStreamFilters$Lzw;", true)
  | 7 => ("StreamFilters", "text85", "LStreamFilters$Text85;", true)
  | 8 => ("StreamFilters", "hexadecimal", "LStreamFilters$Hexadecimal;", true)
  | 9 => ("StreamFilters", "lengths", "LStreamFilters$Lengths;", true)
  | 10 => ("StreamFilters", "evenOutput", "LStreamFilters$Bytes;", true)
  | 11 => ("StreamFilters", "oddOutput", "LStreamFilters$Bytes;", true)
  | 12 => ("StreamFilters", "result", "LStreamFilters$Bytes;", false)
  | 13 => ("StreamFilters", "decoded", "Z", false)
  | 14 => ("StreamFilters", "faultFilter", "I", false)
  | 15 => ("StreamFilters", "faultKind", "I", false)
  | _ => ("StreamFilters", "faultPlace", "I", false)
def ty_SF : Nat → FieldType := fun k => match k with
  | 0 => (.object "StreamFilters$Bytes")
  | 1 => (.array (.object "StreamFilters$Link"))
  | 2 => .int
  | 3 => .int
  | 4 => (.object "StreamFilters$Pass")
  | 5 => (.object "StreamFilters$Flate")
  | 6 => (.object "StreamFilters$Lzw")
  | 7 => (.object "StreamFilters$Text85")
  | 8 => (.object "StreamFilters$Hexadecimal")
  | 9 => (.object "StreamFilters$Lengths")
  | 10 => (.object "StreamFilters$Bytes")
  | 11 => (.object "StreamFilters$Bytes")
  | 12 => (.object "StreamFilters$Bytes")
  | 13 => .boolean
  | 14 => .int
  | 15 => .int
  | _ => .int
theorem nm_SF : ∀ a, a < 17 → ∀ b, b < 17 → a ≠ b → (T_SF a).2.1 ≠ (T_SF b).2.1 := by decide +kernel
theorem tyok_SF : ∀ k, k < 17 → parseFieldDescriptor (T_SF k).2.2.1 = some (ty_SF k) := by decide +kernel
def T_By : u_T := fun k => match k with
  | 0 => ("StreamFilters$Bytes", "room", "[B", true)
  | _ => ("StreamFilters$Bytes", "length", "I", false)
def ty_By : Nat → FieldType := fun k => match k with
  | 0 => (.array .byte)
  | _ => .int
theorem nm_By : ∀ a, a < 2 → ∀ b, b < 2 → a ≠ b → (T_By a).2.1 ≠ (T_By b).2.1 := by decide +kernel
theorem tyok_By : ∀ k, k < 2 → parseFieldDescriptor (T_By k).2.2.1 = some (ty_By k) := by decide +kernel
def T_Co : u_T := fun k => match k with
  | 0 => ("StreamFilters$Codes", "counts", "[I", true)
  | 1 => ("StreamFilters$Codes", "places", "[I", true)
  | 2 => ("StreamFilters$Codes", "symbols", "[I", true)
  | 3 => ("StreamFilters$Codes", "used", "I", false)
  | _ => ("StreamFilters$Codes", "longest", "I", false)
def ty_Co : Nat → FieldType := fun k => match k with
  | 0 => (.array .int)
  | 1 => (.array .int)
  | 2 => (.array .int)
  | 3 => .int
  | _ => .int
theorem nm_Co : ∀ a, a < 5 → ∀ b, b < 5 → a ≠ b → (T_Co a).2.1 ≠ (T_Co b).2.1 := by decide +kernel
theorem tyok_Co : ∀ k, k < 5 → parseFieldDescriptor (T_Co k).2.2.1 = some (ty_Co k) := by decide +kernel
def T_Fl : u_T := fun k => match k with
  | 0 => ("StreamFilters$Flate", "fixedLiterals", "LStreamFilters$Codes;", true)
  | 1 => ("StreamFilters$Flate", "fixedDistances", "LStreamFilters$Codes;", true)
  | 2 => ("StreamFilters$Flate", "literals", "LStreamFilters$Codes;", true)
  | 3 => ("StreamFilters$Flate", "distances", "LStreamFilters$Codes;", true)
  | 4 => ("StreamFilters$Flate", "lengthCodes", "LStreamFilters$Codes;", true)
  | _ => ("StreamFilters$Flate", "lengths", "[I", true)
def ty_Fl : Nat → FieldType := fun k => match k with
  | 0 => (.object "StreamFilters$Codes")
  | 1 => (.object "StreamFilters$Codes")
  | 2 => (.object "StreamFilters$Codes")
  | 3 => (.object "StreamFilters$Codes")
  | 4 => (.object "StreamFilters$Codes")
  | _ => (.array .int)
theorem nm_Fl : ∀ a, a < 6 → ∀ b, b < 6 → a ≠ b → (T_Fl a).2.1 ≠ (T_Fl b).2.1 := by decide +kernel
theorem tyok_Fl : ∀ k, k < 6 → parseFieldDescriptor (T_Fl k).2.2.1 = some (ty_Fl k) := by decide +kernel
def T_Hx : u_T := fun k => match k with
  | _ => ("", "", "", false)
def ty_Hx : Nat → FieldType := fun k => match k with
  | _ => .int
theorem nm_Hx : ∀ a, a < 0 → ∀ b, b < 0 → a ≠ b → (T_Hx a).2.1 ≠ (T_Hx b).2.1 := by decide +kernel
theorem tyok_Hx : ∀ k, k < 0 → parseFieldDescriptor (T_Hx k).2.2.1 = some (ty_Hx k) := by decide +kernel
def T_Le : u_T := fun k => match k with
  | _ => ("", "", "", false)
def ty_Le : Nat → FieldType := fun k => match k with
  | _ => .int
theorem nm_Le : ∀ a, a < 0 → ∀ b, b < 0 → a ≠ b → (T_Le a).2.1 ≠ (T_Le b).2.1 := by decide +kernel
theorem tyok_Le : ∀ k, k < 0 → parseFieldDescriptor (T_Le k).2.2.1 = some (ty_Le k) := by decide +kernel
def T_Li : u_T := fun k => match k with
  | 0 => ("StreamFilters$Link", "kind", "I", false)
  | 1 => ("StreamFilters$Link", "early", "I", false)
  | 2 => ("StreamFilters$Link", "predictor", "I", false)
  | 3 => ("StreamFilters$Link", "colours", "I", false)
  | 4 => ("StreamFilters$Link", "bits", "I", false)
  | _ => ("StreamFilters$Link", "columns", "I", false)
def ty_Li : Nat → FieldType := fun k => match k with
  | 0 => .int
  | 1 => .int
  | 2 => .int
  | 3 => .int
  | 4 => .int
  | _ => .int
theorem nm_Li : ∀ a, a < 6 → ∀ b, b < 6 → a ≠ b → (T_Li a).2.1 ≠ (T_Li b).2.1 := by decide +kernel
theorem tyok_Li : ∀ k, k < 6 → parseFieldDescriptor (T_Li k).2.2.1 = some (ty_Li k) := by decide +kernel
def T_Lz : u_T := fun k => match k with
  | 0 => ("StreamFilters$Lzw", "starts", "[I", true)
  | 1 => ("StreamFilters$Lzw", "sizes", "[I", true)
  | 2 => ("StreamFilters$Lzw", "next", "I", false)
  | 3 => ("StreamFilters$Lzw", "startBefore", "I", false)
  | _ => ("StreamFilters$Lzw", "sizeBefore", "I", false)
def ty_Lz : Nat → FieldType := fun k => match k with
  | 0 => (.array .int)
  | 1 => (.array .int)
  | 2 => .int
  | 3 => .int
  | _ => .int
theorem nm_Lz : ∀ a, a < 5 → ∀ b, b < 5 → a ≠ b → (T_Lz a).2.1 ≠ (T_Lz b).2.1 := by decide +kernel
theorem tyok_Lz : ∀ k, k < 5 → parseFieldDescriptor (T_Lz k).2.2.1 = some (ty_Lz k) := by decide +kernel
def T_Pa : u_T := fun k => match k with
  | 0 => ("StreamFilters$Pass", "input", "LStreamFilters$Bytes;", false)
  | 1 => ("StreamFilters$Pass", "output", "LStreamFilters$Bytes;", false)
  | 2 => ("StreamFilters$Pass", "begun", "I", false)
  | 3 => ("StreamFilters$Pass", "current", "I", false)
  | 4 => ("StreamFilters$Pass", "bitsLeft", "I", false)
  | 5 => ("StreamFilters$Pass", "problem", "I", false)
  | _ => ("StreamFilters$Pass", "left", "I", false)
def ty_Pa : Nat → FieldType := fun k => match k with
  | 0 => (.object "StreamFilters$Bytes")
  | 1 => (.object "StreamFilters$Bytes")
  | 2 => .int
  | 3 => .int
  | 4 => .int
  | 5 => .int
  | _ => .int
theorem nm_Pa : ∀ a, a < 7 → ∀ b, b < 7 → a ≠ b → (T_Pa a).2.1 ≠ (T_Pa b).2.1 := by decide +kernel
theorem tyok_Pa : ∀ k, k < 7 → parseFieldDescriptor (T_Pa k).2.2.1 = some (ty_Pa k) := by decide +kernel
def T_T8 : u_T := fun k => match k with
  | 0 => ("StreamFilters$Text85", "number", "J", false)
  | _ => ("StreamFilters$Text85", "digits", "I", false)
def ty_T8 : Nat → FieldType := fun k => match k with
  | 0 => .long
  | _ => .int
theorem nm_T8 : ∀ a, a < 2 → ∀ b, b < 2 → a ≠ b → (T_T8 a).2.1 ≠ (T_T8 b).2.1 := by decide +kernel
theorem tyok_T8 : ∀ k, k < 2 → parseFieldDescriptor (T_T8 k).2.2.1 = some (ty_T8 k) := by decide +kernel
def T_Mo : u_T := fun k => match k with
  | 0 => ("StreamFiltersModel", "refusal", "I", false)
  | 1 => ("StreamFiltersModel", "rowSize", "I", false)
  | 2 => ("StreamFiltersModel", "row", "[I", true)
  | 3 => ("StreamFiltersModel", "filters", "I", false)
  | 4 => ("StreamFiltersModel", "kinds", "[I", true)
  | 5 => ("StreamFiltersModel", "earlies", "[I", true)
  | 6 => ("StreamFiltersModel", "predictors", "[I", true)
  | 7 => ("StreamFiltersModel", "colours", "[I", true)
  | 8 => ("StreamFiltersModel", "bits", "[I", true)
  | 9 => ("StreamFiltersModel", "columns", "[I", true)
  | 10 => ("StreamFiltersModel", "budget", "I", false)
  | 11 => ("StreamFiltersModel", "size", "I", false)
  | 12 => ("StreamFiltersModel", "in", "[I", true)
  | 13 => ("StreamFiltersModel", "given", "I", false)
  | 14 => ("StreamFiltersModel", "out", "[I", true)
  | 15 => ("StreamFiltersModel", "left", "I", false)
  | 16 => ("StreamFiltersModel", "pos", "I", false)
  | 17 => ("StreamFiltersModel", "wrong", "I", false)
  | 18 => ("StreamFiltersModel", "spare", "I", false)
  | 19 => ("StreamFiltersModel", "spareBits", "I", false)
  | 20 => ("StreamFiltersModel", "lengths", "[I", true)
  | 21 => ("StreamFiltersModel", "codes", "[I", true)
  | 22 => ("StreamFiltersModel", "before", "[I", true)
  | 23 => ("StreamFiltersModel", "last", "[I", true)
  | 24 => ("StreamFiltersModel", "sizes", "[I", true)
  | 25 => ("StreamFiltersModel", "isDecoded", "Z", false)
  | 26 => ("StreamFiltersModel", "resultSize", "I", false)
  | 27 => ("StreamFiltersModel", "result", "[I", true)
  | 28 => ("StreamFiltersModel", "faultFilter", "I", false)
  | 29 => ("StreamFiltersModel", "faultKind", "I", false)
  | _ => ("StreamFiltersModel", "faultPlace", "I", false)
def ty_Mo : Nat → FieldType := fun k => match k with
  | 0 => .int
  | 1 => .int
  | 2 => (.array .int)
  | 3 => .int
  | 4 => (.array .int)
  | 5 => (.array .int)
  | 6 => (.array .int)
  | 7 => (.array .int)
  | 8 => (.array .int)
  | 9 => (.array .int)
  | 10 => .int
  | 11 => .int
  | 12 => (.array .int)
  | 13 => .int
  | 14 => (.array .int)
  | 15 => .int
  | 16 => .int
  | 17 => .int
  | 18 => .int
  | 19 => .int
  | 20 => (.array .int)
  | 21 => (.array .int)
  | 22 => (.array .int)
  | 23 => (.array .int)
  | 24 => (.array .int)
  | 25 => .boolean
  | 26 => .int
  | 27 => (.array .int)
  | 28 => .int
  | 29 => .int
  | _ => .int
theorem nm_Mo : ∀ a, a < 31 → ∀ b, b < 31 → a ≠ b → (T_Mo a).2.1 ≠ (T_Mo b).2.1 := by decide +kernel
theorem tyok_Mo : ∀ k, k < 31 → parseFieldDescriptor (T_Mo k).2.2.1 = some (ty_Mo k) := by decide +kernel
abbrev classes : List vw_C := [(R_SF, T_SF, 17), (R_By, T_By, 2), (R_Co, T_Co, 5), (R_Fl, T_Fl, 6), (R_Hx, T_Hx, 0), (R_Le, T_Le, 0), (R_Li, T_Li, 6), (R_Lz, T_Lz, 5), (R_Pa, T_Pa, 7), (R_T8, T_T8, 2), (R_Mo, T_Mo, 31)]
def mGood : List Cond := lw_tbl.filter goodWord
theorem mGood_good : ∀ w ∈ mGood, goodWord w = true := fun w h => (List.mem_filter.mp h).2
theorem mg_of {i : Nat} {w : Cond} (h : lw_tbl[i]? = some w) (hg : goodWord w = true) : w ∈ mGood := List.mem_filter.mpr ⟨List.mem_of_getElem? h, hg⟩
theorem mg_ofs {C : String} {T : u_T} {n : Nat} (ps : List Nat) (h : u_ws C T n = ps.filterMap (fun i => lw_tbl[i]?)) (hg : (u_ws C T n).all goodWord = true) : ∀ w ∈ u_ws C T n, w ∈ mGood := by
  intro w hw
  have h1 := List.all_eq_true.mp hg w hw
  rw [h] at hw
  obtain ⟨i, -, hi⟩ := List.mem_filterMap.mp hw
  exact mg_of hi h1
set_option maxRecDepth 20000 in
theorem in_SF : ∀ w ∈ u_ws R_SF T_SF 17, w ∈ mGood := mg_ofs [304, 306, 308, 310, 312, 314, 316, 318, 320, 322, 324, 326, 328, 330, 332, 334, 336] (by decide +kernel) (by decide +kernel)
set_option maxRecDepth 20000 in
theorem in_By : ∀ w ∈ u_ws R_By T_By 2, w ∈ mGood := mg_ofs [103, 105] (by decide +kernel) (by decide +kernel)
set_option maxRecDepth 20000 in
theorem in_Co : ∀ w ∈ u_ws R_Co T_Co 5, w ∈ mGood := mg_ofs [168, 170, 172, 174, 176] (by decide +kernel) (by decide +kernel)
set_option maxRecDepth 20000 in
theorem in_Fl : ∀ w ∈ u_ws R_Fl T_Fl 6, w ∈ mGood := mg_ofs [199, 201, 203, 205, 207, 209] (by decide +kernel) (by decide +kernel)
set_option maxRecDepth 20000 in
theorem in_Hx : ∀ w ∈ u_ws R_Hx T_Hx 0, w ∈ mGood := mg_ofs [] (by decide +kernel) (by decide +kernel)
set_option maxRecDepth 20000 in
theorem in_Le : ∀ w ∈ u_ws R_Le T_Le 0, w ∈ mGood := mg_ofs [] (by decide +kernel) (by decide +kernel)
set_option maxRecDepth 20000 in
theorem in_Li : ∀ w ∈ u_ws R_Li T_Li 6, w ∈ mGood := mg_ofs [274, 276, 278, 280, 282, 284] (by decide +kernel) (by decide +kernel)
set_option maxRecDepth 20000 in
theorem in_Lz : ∀ w ∈ u_ws R_Lz T_Lz 5, w ∈ mGood := mg_ofs [223, 225, 227, 229, 231] (by decide +kernel) (by decide +kernel)
set_option maxRecDepth 20000 in
theorem in_Pa : ∀ w ∈ u_ws R_Pa T_Pa 7, w ∈ mGood := mg_ofs [132, 134, 136, 138, 140, 142, 144] (by decide +kernel) (by decide +kernel)
set_option maxRecDepth 20000 in
theorem in_T8 : ∀ w ∈ u_ws R_T8 T_T8 2, w ∈ mGood := mg_ofs [242, 244] (by decide +kernel) (by decide +kernel)
set_option maxRecDepth 20000 in
theorem in_Mo : ∀ w ∈ u_ws R_Mo T_Mo 31, w ∈ mGood := mg_ofs [845, 847, 849, 851, 853, 855, 857, 859, 861, 863, 865, 867, 869, 871, 873, 875, 877, 879, 881, 883, 885, 887, 889, 891, 893, 895, 897, 899, 901, 903, 905] (by decide +kernel) (by decide +kernel)
def mNest : List Cond := [.fieldLinkNest "StreamFilters$Pass" 42 "StreamFilters$Bytes" "room" "[B" "StreamFilters", .fieldLinkNest "StreamFilters" 97 "StreamFilters$Bytes" "length" "I" "StreamFilters", .fieldLinkNest "StreamFilters$Pass" 39 "StreamFilters$Bytes" "length" "I" "StreamFilters", .fieldLinkNest "StreamFilters$Lzw" 49 "StreamFilters$Bytes" "length" "I" "StreamFilters", .fieldLinkNest "StreamFilters$Link" 48 "StreamFilters$Bytes" "length" "I" "StreamFilters", .fieldLinkNest "StreamFilters$Flate" 126 "StreamFilters$Bytes" "length" "I" "StreamFilters", .methodLinkNest "StreamFilters" 34 ⟨"StreamFilters$Pass", "<init>", "()V"⟩ "StreamFilters", .fieldLinkNest "StreamFilters$Lzw" 45 "StreamFilters$Pass" "output" "LStreamFilters$Bytes;" "StreamFilters", .fieldLinkNest "StreamFilters$Flate" 122 "StreamFilters$Pass" "output" "LStreamFilters$Bytes;" "StreamFilters", .fieldLinkNest "StreamFilters" 199 "StreamFilters$Pass" "begun" "I" "StreamFilters", .fieldLinkNest "StreamFilters" 196 "StreamFilters$Pass" "problem" "I" "StreamFilters", .fieldLinkNest "StreamFilters" 166 "StreamFilters$Pass" "left" "I" "StreamFilters", .methodLinkNest "StreamFilters$Flate" 3 ⟨"StreamFilters$Unpacker", "<init>", "()V"⟩ "StreamFilters", .methodLinkNest "StreamFilters" 48 ⟨"StreamFilters$Lzw", "<init>", "()V"⟩ "StreamFilters", .methodLinkNest "StreamFilters$Lzw" 3 ⟨"StreamFilters$Unpacker", "<init>", "()V"⟩ "StreamFilters", .methodLinkNest "StreamFilters" 55 ⟨"StreamFilters$Text85", "<init>", "()V"⟩ "StreamFilters", .methodLinkNest "StreamFilters$Text85" 3 ⟨"StreamFilters$Unpacker", "<init>", "()V"⟩ "StreamFilters", .methodLinkNest "StreamFilters" 62 ⟨"StreamFilters$Hexadecimal", "<init>", "()V"⟩ "StreamFilters", .methodLinkNest "StreamFilters$Hexadecimal" 3 ⟨"StreamFilters$Unpacker", "<init>", "()V"⟩ "StreamFilters", .methodLinkNest "StreamFilters" 69 ⟨"StreamFilters$Lengths", "<init>", "()V"⟩ "StreamFilters", .methodLinkNest "StreamFilters$Lengths" 3 ⟨"StreamFilters$Unpacker", "<init>", "()V"⟩ "StreamFilters", .methodLinkNest "StreamFilters" 96 ⟨"StreamFilters$Link", "<init>", "()V"⟩ "StreamFilters", .fieldLinkNest "StreamFilters" 176 "StreamFilters$Link" "kind" "I" "StreamFilters", .fieldLinkNest "StreamFilters" 183 "StreamFilters$Link" "early" "I" "StreamFilters", .declares ⟨"StreamFilters$Unpacker", "unpack", "(LStreamFilters$Pass;I)V"⟩, .declares ⟨"java/lang/RuntimeException", "<init>", "()V"⟩, .declares ⟨"java/lang/RuntimeException", "<init>", "(Ljava/lang/String;)V"⟩, .declares ⟨"java/lang/Exception", "<init>", "()V"⟩, .declares ⟨"java/lang/Exception", "<init>", "(Ljava/lang/String;)V"⟩, .declares ⟨"java/lang/Throwable", "<init>", "()V"⟩, .declares ⟨"java/lang/Throwable", "<init>", "(Ljava/lang/String;)V"⟩]
def mNk : Cond → Bool
  | .fieldLinkNest .. => true
  | .methodLinkNest .. => true
  | .declares .. => true
  | _ => false
theorem mNest_k : ∀ w ∈ mNest, mNk w = true := by decide +kernel
theorem mNest_warm (w : Cond) (hw : w ∈ mNest) {s U : State} (hW : s.WarmedH U.vm) (h : va_Nw w s) : va_Nw w U := by
  have hk := mNest_k w hw
  clear hw
  cases w <;> first | exact va_Nw.warmF hW h | exact va_Nw.warmM hW h | exact va_Nw.warmD hW h | (exact absurd hk (by decide)) | (simp [mNk] at hk)
theorem mNest_ot (w : Cond) (hw : w ∈ mNest) : w.onTables = true := by
  have hk := mNest_k w hw
  clear hw
  cases w <;> first | rfl | (exact absurd hk (by decide)) | (simp [mNk] at hk)
def mTys : List FieldType := [.byte, .int, .long, (.object "StreamFilters$Link")]
abbrev mSt : Type := String × String × String × FieldType × Nat × (Nat → Int32)
def mS0 : Nat → Int32 := fun k => ([16, 17, 18, 0, 8, 7, 9, 6, 10, 5, 11, 4, 12, 3, 13, 2, 14, 1, 15] : List Int32).getD k 0
def mS1 : Nat → Int32 := fun k => ([3, 4, 5, 6, 7, 8, 9, 10, 11, 13, 15, 17, 19, 23, 27, 31, 35, 43, 51, 59, 67, 83, 99, 115, 131, 163, 195, 227, 258] : List Int32).getD k 0
def mS2 : Nat → Int32 := fun k => ([0, 0, 0, 0, 0, 0, 0, 0, 1, 1, 1, 1, 2, 2, 2, 2, 3, 3, 3, 3, 4, 4, 4, 4, 5, 5, 5, 5, 0] : List Int32).getD k 0
def mS3 : Nat → Int32 := fun k => ([1, 2, 3, 4, 5, 7, 9, 13, 17, 25, 33, 49, 65, 97, 129, 193, 257, 385, 513, 769, 1025, 1537, 2049, 3073, 4097, 6145, 8193, 12289, 16385, 24577] : List Int32).getD k 0
def mS4 : Nat → Int32 := fun k => ([0, 0, 0, 0, 1, 1, 2, 2, 3, 3, 4, 4, 5, 5, 6, 6, 7, 7, 8, 8, 9, 9, 10, 10, 11, 11, 12, 12, 13, 13] : List Int32).getD k 0
def mSta : List mSt := [("StreamFilters$Flate", "ORDER", "[I", .int, 19, mS0), ("StreamFilters$Flate", "LENGTH_STARTS", "[I", .int, 29, mS1), ("StreamFilters$Flate", "LENGTH_BITS", "[I", .int, 29, mS2), ("StreamFilters$Flate", "DISTANCE_STARTS", "[I", .int, 30, mS3), ("StreamFilters$Flate", "DISTANCE_BITS", "[I", .int, 30, mS4)]
def mR (f c : Nat) : Room := { frames := f, cells := 0, slots := 0, locals := c }
def y_SF_init : MethodName := ⟨R_SF, "<init>", "()V"⟩
abbrev b_SF_init : ByteArray := prog_1_method_1_code
def y_SF_feed : MethodName := ⟨R_SF, "feed", "(IIIII)I"⟩
abbrev b_SF_feed : ByteArray := prog_1_method_2_code
def y_SF_put : MethodName := ⟨R_SF, "put", "(II)I"⟩
abbrev b_SF_put : ByteArray := prog_1_method_3_code
def y_SF_cut : MethodName := ⟨R_SF, "cut", "(I)I"⟩
abbrev b_SF_cut : ByteArray := prog_1_method_4_code
def y_SF_filter : MethodName := ⟨R_SF, "filter", "(II)I"⟩
abbrev b_SF_filter : ByteArray := prog_1_method_5_code
def y_SF_predict : MethodName := ⟨R_SF, "predict", "(IIII)V"⟩
abbrev b_SF_predict : ByteArray := prog_1_method_6_code
def y_SF_drop : MethodName := ⟨R_SF, "drop", "()I"⟩
abbrev b_SF_drop : ByteArray := prog_1_method_7_code
def y_SF_budget : MethodName := ⟨R_SF, "budget", "(I)I"⟩
abbrev b_SF_budget : ByteArray := prog_1_method_8_code
def y_SF_decode : MethodName := ⟨R_SF, "decode", "()I"⟩
abbrev b_SF_decode : ByteArray := prog_1_method_9_code
def y_SF_at : MethodName := ⟨R_SF, "at", "(I)I"⟩
abbrev b_SF_at : ByteArray := prog_1_method_10_code
def y_SF_fault : MethodName := ⟨R_SF, "fault", "(I)I"⟩
abbrev b_SF_fault : ByteArray := prog_1_method_11_code
def y_SF_keep : MethodName := ⟨R_SF, "keep", "()I"⟩
abbrev b_SF_keep : ByteArray := prog_1_method_12_code
def y_SF_isPredictor : MethodName := ⟨R_SF, "isPredictor", "(I)Z"⟩
abbrev b_SF_isPredictor : ByteArray := prog_1_method_13_code
def y_SF_isBits : MethodName := ⟨R_SF, "isBits", "(I)Z"⟩
abbrev b_SF_isBits : ByteArray := prog_1_method_14_code
def y_SF_noteFault : MethodName := ⟨R_SF, "noteFault", "(III)V"⟩
abbrev b_SF_noteFault : ByteArray := prog_1_method_15_code
def y_SF_unpackerOf : MethodName := ⟨R_SF, "unpackerOf", "(I)LStreamFilters$Unpacker;"⟩
abbrev b_SF_unpackerOf : ByteArray := prog_1_method_16_code
def y_Mo_init : MethodName := ⟨R_Mo, "<init>", "()V"⟩
abbrev b_Mo_init : ByteArray := prog_13_method_1_code
def y_Mo_thrown : MethodName := ⟨R_Mo, "thrown", "()I"⟩
abbrev b_Mo_thrown : ByteArray := prog_13_method_2_code
def y_Mo_refused : MethodName := ⟨R_Mo, "refused", "(I)Z"⟩
abbrev b_Mo_refused : ByteArray := prog_13_method_3_code
def y_Mo_isIn : MethodName := ⟨R_Mo, "isIn", "(III)Z"⟩
abbrev b_Mo_isIn : ByteArray := prog_13_method_4_code
def y_Mo_feed : MethodName := ⟨R_Mo, "feed", "(IIIII)I"⟩
abbrev b_Mo_feed : ByteArray := prog_13_method_5_code
def y_Mo_put : MethodName := ⟨R_Mo, "put", "(II)I"⟩
abbrev b_Mo_put : ByteArray := prog_13_method_6_code
def y_Mo_cut : MethodName := ⟨R_Mo, "cut", "(I)I"⟩
abbrev b_Mo_cut : ByteArray := prog_13_method_7_code
def y_Mo_filter : MethodName := ⟨R_Mo, "filter", "(II)I"⟩
abbrev b_Mo_filter : ByteArray := prog_13_method_8_code
def y_Mo_predict : MethodName := ⟨R_Mo, "predict", "(IIII)V"⟩
abbrev b_Mo_predict : ByteArray := prog_13_method_9_code
def y_Mo_drop : MethodName := ⟨R_Mo, "drop", "()I"⟩
abbrev b_Mo_drop : ByteArray := prog_13_method_10_code
def y_Mo_budget : MethodName := ⟨R_Mo, "budget", "(I)I"⟩
abbrev b_Mo_budget : ByteArray := prog_13_method_11_code
def y_Mo_fail : MethodName := ⟨R_Mo, "fail", "(I)V"⟩
abbrev b_Mo_fail : ByteArray := prog_13_method_12_code
def y_Mo_isGood : MethodName := ⟨R_Mo, "isGood", "()Z"⟩
abbrev b_Mo_isGood : ByteArray := prog_13_method_13_code
def y_Mo_next : MethodName := ⟨R_Mo, "next", "()I"⟩
abbrev b_Mo_next : ByteArray := prog_13_method_14_code
def y_Mo_give : MethodName := ⟨R_Mo, "give", "(I)V"⟩
abbrev b_Mo_give : ByteArray := prog_13_method_15_code
def y_Mo_bit : MethodName := ⟨R_Mo, "bit", "()I"⟩
abbrev b_Mo_bit : ByteArray := prog_13_method_16_code
def y_Mo_number : MethodName := ⟨R_Mo, "number", "(I)I"⟩
abbrev b_Mo_number : ByteArray := prog_13_method_17_code
def y_Mo_makeCodes : MethodName := ⟨R_Mo, "makeCodes", "(II)V"⟩
abbrev b_Mo_makeCodes : ByteArray := prog_13_method_18_code
def y_Mo_isWhole : MethodName := ⟨R_Mo, "isWhole", "(IIZ)Z"⟩
abbrev b_Mo_isWhole : ByteArray := prog_13_method_19_code
def y_Mo_symbol : MethodName := ⟨R_Mo, "symbol", "(II)I"⟩
abbrev b_Mo_symbol : ByteArray := prog_13_method_20_code
def y_Mo_fixCodes : MethodName := ⟨R_Mo, "fixCodes", "()V"⟩
abbrev b_Mo_fixCodes : ByteArray := prog_13_method_21_code
def y_Mo_orderOf : MethodName := ⟨R_Mo, "orderOf", "(I)I"⟩
abbrev b_Mo_orderOf : ByteArray := prog_13_method_22_code
def y_Mo_readCodes : MethodName := ⟨R_Mo, "readCodes", "()V"⟩
abbrev b_Mo_readCodes : ByteArray := prog_13_method_23_code
def y_Mo_readLengths : MethodName := ⟨R_Mo, "readLengths", "(II)V"⟩
abbrev b_Mo_readLengths : ByteArray := prog_13_method_24_code
def y_Mo_lengthOf : MethodName := ⟨R_Mo, "lengthOf", "(I)I"⟩
abbrev b_Mo_lengthOf : ByteArray := prog_13_method_25_code
def y_Mo_lengthBits : MethodName := ⟨R_Mo, "lengthBits", "(I)I"⟩
abbrev b_Mo_lengthBits : ByteArray := prog_13_method_26_code
def y_Mo_distanceBits : MethodName := ⟨R_Mo, "distanceBits", "(I)I"⟩
abbrev b_Mo_distanceBits : ByteArray := prog_13_method_27_code
def y_Mo_distanceOf : MethodName := ⟨R_Mo, "distanceOf", "(I)I"⟩
abbrev b_Mo_distanceOf : ByteArray := prog_13_method_28_code
def y_Mo_match : MethodName := ⟨R_Mo, "match", "(I)V"⟩
abbrev b_Mo_match : ByteArray := prog_13_method_29_code
def y_Mo_coded : MethodName := ⟨R_Mo, "coded", "()V"⟩
abbrev b_Mo_coded : ByteArray := prog_13_method_30_code
def y_Mo_stored : MethodName := ⟨R_Mo, "stored", "()V"⟩
abbrev b_Mo_stored : ByteArray := prog_13_method_31_code
def y_Mo_flate : MethodName := ⟨R_Mo, "flate", "()V"⟩
abbrev b_Mo_flate : ByteArray := prog_13_method_32_code
def y_Mo_block : MethodName := ⟨R_Mo, "block", "(I)V"⟩
abbrev b_Mo_block : ByteArray := prog_13_method_33_code
def y_Mo_check : MethodName := ⟨R_Mo, "check", "()J"⟩
abbrev b_Mo_check : ByteArray := prog_13_method_34_code
def y_Mo_wideCode : MethodName := ⟨R_Mo, "wideCode", "(I)I"⟩
abbrev b_Mo_wideCode : ByteArray := prog_13_method_35_code
def y_Mo_firstOf : MethodName := ⟨R_Mo, "firstOf", "(I)I"⟩
abbrev b_Mo_firstOf : ByteArray := prog_13_method_36_code
def y_Mo_byteOf : MethodName := ⟨R_Mo, "byteOf", "(II)I"⟩
abbrev b_Mo_byteOf : ByteArray := prog_13_method_37_code
def y_Mo_widthOf : MethodName := ⟨R_Mo, "widthOf", "(I)I"⟩
abbrev b_Mo_widthOf : ByteArray := prog_13_method_38_code
def y_Mo_lzw : MethodName := ⟨R_Mo, "lzw", "(I)V"⟩
abbrev b_Mo_lzw : ByteArray := prog_13_method_39_code
def y_Mo_isWhite : MethodName := ⟨R_Mo, "isWhite", "(I)Z"⟩
abbrev b_Mo_isWhite : ByteArray := prog_13_method_40_code
def y_Mo_giveWord : MethodName := ⟨R_Mo, "giveWord", "(JI)V"⟩
abbrev b_Mo_giveWord : ByteArray := prog_13_method_41_code
def y_Mo_text85 : MethodName := ⟨R_Mo, "text85", "()V"⟩
abbrev b_Mo_text85 : ByteArray := prog_13_method_42_code
def y_Mo_digit : MethodName := ⟨R_Mo, "digit", "(I)I"⟩
abbrev b_Mo_digit : ByteArray := prog_13_method_43_code
def y_Mo_hexadecimal : MethodName := ⟨R_Mo, "hexadecimal", "()V"⟩
abbrev b_Mo_hexadecimal : ByteArray := prog_13_method_44_code
def y_Mo_runs : MethodName := ⟨R_Mo, "runs", "()V"⟩
abbrev b_Mo_runs : ByteArray := prog_13_method_45_code
def y_Mo_bitAt : MethodName := ⟨R_Mo, "bitAt", "(II)I"⟩
abbrev b_Mo_bitAt : ByteArray := prog_13_method_46_code
def y_Mo_numberAt : MethodName := ⟨R_Mo, "numberAt", "(III)I"⟩
abbrev b_Mo_numberAt : ByteArray := prog_13_method_47_code
def y_Mo_setNumber : MethodName := ⟨R_Mo, "setNumber", "(IIII)V"⟩
abbrev b_Mo_setNumber : ByteArray := prog_13_method_48_code
def y_Mo_rowBytes : MethodName := ⟨R_Mo, "rowBytes", "(I)I"⟩
abbrev b_Mo_rowBytes : ByteArray := prog_13_method_49_code
def y_Mo_addRows : MethodName := ⟨R_Mo, "addRows", "(I)V"⟩
abbrev b_Mo_addRows : ByteArray := prog_13_method_50_code
def y_Mo_far : MethodName := ⟨R_Mo, "far", "(II)I"⟩
abbrev b_Mo_far : ByteArray := prog_13_method_51_code
def y_Mo_nearest : MethodName := ⟨R_Mo, "nearest", "(III)I"⟩
abbrev b_Mo_nearest : ByteArray := prog_13_method_52_code
def y_Mo_added : MethodName := ⟨R_Mo, "added", "(IIII)I"⟩
abbrev b_Mo_added : ByteArray := prog_13_method_53_code
def y_Mo_undoRows : MethodName := ⟨R_Mo, "undoRows", "(I)Z"⟩
abbrev b_Mo_undoRows : ByteArray := prog_13_method_54_code
def y_Mo_run : MethodName := ⟨R_Mo, "run", "(I)V"⟩
abbrev b_Mo_run : ByteArray := prog_13_method_55_code
def y_Mo_decode : MethodName := ⟨R_Mo, "decode", "()I"⟩
abbrev b_Mo_decode : ByteArray := prog_13_method_56_code
def y_Mo_at : MethodName := ⟨R_Mo, "at", "(I)I"⟩
abbrev b_Mo_at : ByteArray := prog_13_method_57_code
def y_Mo_fault : MethodName := ⟨R_Mo, "fault", "(I)I"⟩
abbrev b_Mo_fault : ByteArray := prog_13_method_58_code
def y_Mo_keep : MethodName := ⟨R_Mo, "keep", "()I"⟩
abbrev b_Mo_keep : ByteArray := prog_13_method_59_code
def y_By_init : MethodName := ⟨R_By, "<init>", "(I)V"⟩
abbrev b_By_init : ByteArray := prog_2_method_1_code
def y_By_byteAt : MethodName := ⟨R_By, "byteAt", "(I)I"⟩
abbrev b_By_byteAt : ByteArray := prog_2_method_2_code
def y_By_change : MethodName := ⟨R_By, "change", "(II)V"⟩
abbrev b_By_change : ByteArray := prog_2_method_3_code
def y_By_add : MethodName := ⟨R_By, "add", "(I)V"⟩
abbrev b_By_add : ByteArray := prog_2_method_4_code
def y_By_addFour : MethodName := ⟨R_By, "addFour", "(I)V"⟩
abbrev b_By_addFour : ByteArray := prog_2_method_5_code
def y_By_become : MethodName := ⟨R_By, "become", "(LStreamFilters$Bytes;)V"⟩
abbrev b_By_become : ByteArray := prog_2_method_6_code
def y_Co_init : MethodName := ⟨R_Co, "<init>", "(I)V"⟩
abbrev b_Co_init : ByteArray := prog_3_method_1_code
def y_Co_build : MethodName := ⟨R_Co, "build", "([III)V"⟩
abbrev b_Co_build : ByteArray := prog_3_method_2_code
def y_Co_count : MethodName := ⟨R_Co, "count", "([III)V"⟩
abbrev b_Co_count : ByteArray := prog_3_method_3_code
def y_Co_isLength : MethodName := ⟨R_Co, "isLength", "(I)Z"⟩
abbrev b_Co_isLength : ByteArray := prog_3_method_4_code
def y_Co_isEmpty : MethodName := ⟨R_Co, "isEmpty", "()Z"⟩
abbrev b_Co_isEmpty : ByteArray := prog_3_method_5_code
def y_Co_isGood : MethodName := ⟨R_Co, "isGood", "()Z"⟩
abbrev b_Co_isGood : ByteArray := prog_3_method_6_code
def y_Co_read : MethodName := ⟨R_Co, "read", "(LStreamFilters$Pass;)I"⟩
abbrev b_Co_read : ByteArray := prog_3_method_7_code
def y_Fl_init : MethodName := ⟨R_Fl, "<init>", "()V"⟩
abbrev b_Fl_init : ByteArray := prog_4_method_1_code
def y_Fl_unpack : MethodName := ⟨R_Fl, "unpack", "(LStreamFilters$Pass;I)V"⟩
abbrev b_Fl_unpack : ByteArray := prog_4_method_2_code
def y_Fl_readHeader : MethodName := ⟨R_Fl, "readHeader", "(LStreamFilters$Pass;)Z"⟩
abbrev b_Fl_readHeader : ByteArray := prog_4_method_3_code
def y_Fl_unpackStored : MethodName := ⟨R_Fl, "unpackStored", "(LStreamFilters$Pass;)Z"⟩
abbrev b_Fl_unpackStored : ByteArray := prog_4_method_4_code
def y_Fl_readShort : MethodName := ⟨R_Fl, "readShort", "(LStreamFilters$Pass;)I"⟩
abbrev b_Fl_readShort : ByteArray := prog_4_method_5_code
def y_Fl_readCodes : MethodName := ⟨R_Fl, "readCodes", "(LStreamFilters$Pass;)Z"⟩
abbrev b_Fl_readCodes : ByteArray := prog_4_method_6_code
def y_Fl_readLengthCodes : MethodName := ⟨R_Fl, "readLengthCodes", "(LStreamFilters$Pass;I)Z"⟩
abbrev b_Fl_readLengthCodes : ByteArray := prog_4_method_7_code
def y_Fl_readLengths : MethodName := ⟨R_Fl, "readLengths", "(LStreamFilters$Pass;I)Z"⟩
abbrev b_Fl_readLengths : ByteArray := prog_4_method_8_code
def y_Fl_readTimes : MethodName := ⟨R_Fl, "readTimes", "(LStreamFilters$Pass;I)I"⟩
abbrev b_Fl_readTimes : ByteArray := prog_4_method_9_code
def y_Fl_unpackCodes : MethodName := ⟨R_Fl, "unpackCodes", "(LStreamFilters$Pass;LStreamFilters$Codes;LStreamFilters$Codes;)Z"⟩
abbrev b_Fl_unpackCodes : ByteArray := prog_4_method_10_code
def y_Fl_copy : MethodName := ⟨R_Fl, "copy", "(LStreamFilters$Pass;ILStreamFilters$Codes;)Z"⟩
abbrev b_Fl_copy : ByteArray := prog_4_method_11_code
def y_Fl_readDistance : MethodName := ⟨R_Fl, "readDistance", "(LStreamFilters$Pass;LStreamFilters$Codes;)I"⟩
abbrev b_Fl_readDistance : ByteArray := prog_4_method_12_code
def y_Fl_compareCheck : MethodName := ⟨R_Fl, "compareCheck", "(LStreamFilters$Pass;)V"⟩
abbrev b_Fl_compareCheck : ByteArray := prog_4_method_13_code
def y_Fl_checkOf : MethodName := ⟨R_Fl, "checkOf", "(LStreamFilters$Bytes;)J"⟩
abbrev b_Fl_checkOf : ByteArray := prog_4_method_14_code
def y_Hx_init : MethodName := ⟨R_Hx, "<init>", "()V"⟩
abbrev b_Hx_init : ByteArray := prog_5_method_1_code
def y_Hx_unpack : MethodName := ⟨R_Hx, "unpack", "(LStreamFilters$Pass;I)V"⟩
abbrev b_Hx_unpack : ByteArray := prog_5_method_2_code
def y_Hx_digitOf : MethodName := ⟨R_Hx, "digitOf", "(I)I"⟩
abbrev b_Hx_digitOf : ByteArray := prog_5_method_3_code
def y_Le_init : MethodName := ⟨R_Le, "<init>", "()V"⟩
abbrev b_Le_init : ByteArray := prog_6_method_1_code
def y_Le_unpack : MethodName := ⟨R_Le, "unpack", "(LStreamFilters$Pass;I)V"⟩
abbrev b_Le_unpack : ByteArray := prog_6_method_2_code
def y_Le_giveRun : MethodName := ⟨R_Le, "giveRun", "(LStreamFilters$Pass;I)Z"⟩
abbrev b_Le_giveRun : ByteArray := prog_6_method_3_code
def y_Li_init : MethodName := ⟨R_Li, "<init>", "()V"⟩
abbrev b_Li_init : ByteArray := prog_7_method_1_code
def y_Li_begin : MethodName := ⟨R_Li, "begin", "(II)V"⟩
abbrev b_Li_begin : ByteArray := prog_7_method_2_code
def y_Li_shape : MethodName := ⟨R_Li, "shape", "(IIII)V"⟩
abbrev b_Li_shape : ByteArray := prog_7_method_3_code
def y_Li_undo : MethodName := ⟨R_Li, "undo", "(LStreamFilters$Bytes;)Z"⟩
abbrev b_Li_undo : ByteArray := prog_7_method_4_code
def y_Li_rowSize : MethodName := ⟨R_Li, "rowSize", "()I"⟩
abbrev b_Li_rowSize : ByteArray := prog_7_method_5_code
def y_Li_undoNumbers : MethodName := ⟨R_Li, "undoNumbers", "(LStreamFilters$Bytes;)V"⟩
abbrev b_Li_undoNumbers : ByteArray := prog_7_method_6_code
def y_Li_numberAt : MethodName := ⟨R_Li, "numberAt", "(LStreamFilters$Bytes;II)I"⟩
abbrev b_Li_numberAt : ByteArray := prog_7_method_7_code
def y_Li_setNumber : MethodName := ⟨R_Li, "setNumber", "(LStreamFilters$Bytes;III)V"⟩
abbrev b_Li_setNumber : ByteArray := prog_7_method_8_code
def y_Li_shiftOf : MethodName := ⟨R_Li, "shiftOf", "(I)I"⟩
abbrev b_Li_shiftOf : ByteArray := prog_7_method_9_code
def y_Li_mask : MethodName := ⟨R_Li, "mask", "()I"⟩
abbrev b_Li_mask : ByteArray := prog_7_method_10_code
def y_Li_undoTags : MethodName := ⟨R_Li, "undoTags", "(LStreamFilters$Bytes;)Z"⟩
abbrev b_Li_undoTags : ByteArray := prog_7_method_11_code
def y_Li_undoRow : MethodName := ⟨R_Li, "undoRow", "(LStreamFilters$Bytes;IIII)V"⟩
abbrev b_Li_undoRow : ByteArray := prog_7_method_12_code
def y_Li_guessOf : MethodName := ⟨R_Li, "guessOf", "(IIII)I"⟩
abbrev b_Li_guessOf : ByteArray := prog_7_method_13_code
def y_Li_nearest : MethodName := ⟨R_Li, "nearest", "(III)I"⟩
abbrev b_Li_nearest : ByteArray := prog_7_method_14_code
def y_Lz_init : MethodName := ⟨R_Lz, "<init>", "()V"⟩
abbrev b_Lz_init : ByteArray := prog_8_method_1_code
def y_Lz_unpack : MethodName := ⟨R_Lz, "unpack", "(LStreamFilters$Pass;I)V"⟩
abbrev b_Lz_unpack : ByteArray := prog_8_method_2_code
def y_Lz_clear : MethodName := ⟨R_Lz, "clear", "()V"⟩
abbrev b_Lz_clear : ByteArray := prog_8_method_3_code
def y_Lz_widthFor : MethodName := ⟨R_Lz, "widthFor", "(I)I"⟩
abbrev b_Lz_widthFor : ByteArray := prog_8_method_4_code
def y_Lz_giveString : MethodName := ⟨R_Lz, "giveString", "(LStreamFilters$Pass;I)Z"⟩
abbrev b_Lz_giveString : ByteArray := prog_8_method_5_code
def y_Lz_sizeOf : MethodName := ⟨R_Lz, "sizeOf", "(I)I"⟩
abbrev b_Lz_sizeOf : ByteArray := prog_8_method_6_code
def y_Lz_startOf : MethodName := ⟨R_Lz, "startOf", "(I)I"⟩
abbrev b_Lz_startOf : ByteArray := prog_8_method_7_code
def y_Lz_makeString : MethodName := ⟨R_Lz, "makeString", "()V"⟩
abbrev b_Lz_makeString : ByteArray := prog_8_method_8_code
def y_Pa_init : MethodName := ⟨R_Pa, "<init>", "()V"⟩
abbrev b_Pa_init : ByteArray := prog_9_method_1_code
def y_Pa_begin : MethodName := ⟨R_Pa, "begin", "(LStreamFilters$Bytes;LStreamFilters$Bytes;)V"⟩
abbrev b_Pa_begin : ByteArray := prog_9_method_2_code
def y_Pa_fail : MethodName := ⟨R_Pa, "fail", "(I)Z"⟩
abbrev b_Pa_fail : ByteArray := prog_9_method_3_code
def y_Pa_nextByte : MethodName := ⟨R_Pa, "nextByte", "()I"⟩
abbrev b_Pa_nextByte : ByteArray := prog_9_method_4_code
def y_Pa_nextSign : MethodName := ⟨R_Pa, "nextSign", "()I"⟩
abbrev b_Pa_nextSign : ByteArray := prog_9_method_5_code
def y_Pa_isBlank : MethodName := ⟨R_Pa, "isBlank", "(I)Z"⟩
abbrev b_Pa_isBlank : ByteArray := prog_9_method_6_code
def y_Pa_nextBit : MethodName := ⟨R_Pa, "nextBit", "(Z)I"⟩
abbrev b_Pa_nextBit : ByteArray := prog_9_method_7_code
def y_Pa_lowNumber : MethodName := ⟨R_Pa, "lowNumber", "(I)I"⟩
abbrev b_Pa_lowNumber : ByteArray := prog_9_method_8_code
def y_Pa_highNumber : MethodName := ⟨R_Pa, "highNumber", "(I)I"⟩
abbrev b_Pa_highNumber : ByteArray := prog_9_method_9_code
def y_Pa_give : MethodName := ⟨R_Pa, "give", "(I)Z"⟩
abbrev b_Pa_give : ByteArray := prog_9_method_10_code
def y_Pa_giveTimes : MethodName := ⟨R_Pa, "giveTimes", "(II)Z"⟩
abbrev b_Pa_giveTimes : ByteArray := prog_9_method_11_code
def y_Pa_giveAgain : MethodName := ⟨R_Pa, "giveAgain", "(II)Z"⟩
abbrev b_Pa_giveAgain : ByteArray := prog_9_method_12_code
def y_Pa_giveAsTheyAre : MethodName := ⟨R_Pa, "giveAsTheyAre", "(I)Z"⟩
abbrev b_Pa_giveAsTheyAre : ByteArray := prog_9_method_13_code
def y_T8_init : MethodName := ⟨R_T8, "<init>", "()V"⟩
abbrev b_T8_init : ByteArray := prog_10_method_1_code
def y_T8_unpack : MethodName := ⟨R_T8, "unpack", "(LStreamFilters$Pass;I)V"⟩
abbrev b_T8_unpack : ByteArray := prog_10_method_2_code
def y_T8_addDigit : MethodName := ⟨R_T8, "addDigit", "(I)V"⟩
abbrev b_T8_addDigit : ByteArray := prog_10_method_3_code
def y_T8_giveNumber : MethodName := ⟨R_T8, "giveNumber", "(LStreamFilters$Pass;I)Z"⟩
abbrev b_T8_giveNumber : ByteArray := prog_10_method_4_code
def y_T8_finish : MethodName := ⟨R_T8, "finish", "(LStreamFilters$Pass;)V"⟩
abbrev b_T8_finish : ByteArray := prog_10_method_5_code
def y_Un_init : MethodName := ⟨R_Un, "<init>", "()V"⟩
abbrev b_Un_init : ByteArray := prog_11_method_1_code
def y_La_put : MethodName := ⟨R_La, "put", "(LStreamFilters;II[J)I"⟩
abbrev b_La_put : ByteArray := method_3_code
def y_La_cut : MethodName := ⟨R_La, "cut", "(LStreamFilters;I[J)I"⟩
abbrev b_La_cut : ByteArray := method_4_code
def y_La_filter : MethodName := ⟨R_La, "filter", "(LStreamFilters;II[J)I"⟩
abbrev b_La_filter : ByteArray := method_5_code
def y_La_predict : MethodName := ⟨R_La, "predict", "(LStreamFilters;IIII)I"⟩
abbrev b_La_predict : ByteArray := method_6_code
def y_La_budget : MethodName := ⟨R_La, "budget", "(LStreamFilters;I[J)I"⟩
abbrev b_La_budget : ByteArray := method_7_code
def y_La_keep : MethodName := ⟨R_La, "keep", "(LStreamFilters;[J)I"⟩
abbrev b_La_keep : ByteArray := method_8_code
def y_La_law : MethodName := ⟨R_La, "law", "([I)Z"⟩
theorem wmax_1 : Cond.static Lib.Math.max.name ∈ mGood := mg_of (i := 93) (by decide +kernel) rfl
theorem wmath : Cond.initialized "java/lang/Math" ∈ mGood := mg_of (i := 60) (by decide +kernel) rfl
theorem wmin_1 : Cond.static Lib.Math.min.name ∈ mGood := mg_of (i := 368) (by decide +kernel) rfl
theorem wabs_1 : Cond.static Lib.Math.abs.name ∈ mGood := mg_of (i := 628) (by decide +kernel) rfl
theorem wcopy_1 : Cond.native arraycopyName ∈ mGood := mg_of (i := 372) (by decide +kernel) rfl
theorem wcopy_2 : Cond.static arraycopyName ∈ mGood := mg_of (i := 371) (by decide +kernel) rfl
theorem wsystem : Cond.initialized "java/lang/System" ∈ mGood := mg_of (i := 77) (by decide +kernel) rfl
theorem wmax_2 : Cond.code Lib.Math.max.name Lib.Math.max.code 2 (some .int) ∈ mGood := mg_of (i := 94) (by decide +kernel) rfl
theorem wmin_2 : Cond.code Lib.Math.min.name Lib.Math.min.code 2 (some .int) ∈ mGood := mg_of (i := 369) (by decide +kernel) rfl
theorem wabs_2 : Cond.code Lib.Math.abs.name Lib.Math.abs.code 1 (some .int) ∈ mGood := mg_of (i := 629) (by decide +kernel) rfl
end
section
/-! HEAPS BY NUMBERS. A cell's number is its place in the list; 'ad' tells where it lies. A method's own function (f_..) speaks of numbers alone; the rows here say that the machine does as the function says. -/
abbrev mE : Type := (FieldType × vp_A) ⊕ (Nat × List Value)
abbrev mH : Type := List mE
def mv (ad : Nat → Nat) : Value → Value
  | .ref i => .ref (ad i)
  | v => v
def mg (ad : Nat → Nat) (f : Nat → Option Nat) : Nat → Option Nat := fun k => (f k).map ad
def ma (ad : Nat → Nat) (a : vp_A) : vp_A := match a with
  | (n, .inl f) => (n, .inl f)
  | (n, .inr (.inl f)) => (n, .inr (.inl f))
  | (n, .inr (.inr (.inl f))) => (n, .inr (.inr (.inl f)))
  | (n, .inr (.inr (.inr (.inl f)))) => (n, .inr (.inr (.inr (.inl f))))
  | (n, .inr (.inr (.inr (.inr f)))) => (n, .inr (.inr (.inr (.inr (mg ad f)))))
def me (ad : Nat → Nat) (kA : FieldType → ClassId) (q : mE) : va_E := match q with
  | .inl (ty, a) => .inl (kA ty, ma ad a)
  | .inr (ci, fs) => .inr (ci, fs.map (mv ad))
def mW (ad : Nat → Nat) (kA : FieldType → ClassId) (h : mH) : va_W := h.mapIdx (fun i q => (ad i, me ad kA q))
theorem mW_get {ad : Nat → Nat} {kA : FieldType → ClassId} {h : mH} {i : Nat} {q : mE} (hi : h[i]? = some q) : (mW ad kA h)[i]? = some (ad i, me ad kA q) := by
  simp [mW, List.getElem?_mapIdx, hi]
theorem mW_set {ad : Nat → Nat} {kA : FieldType → ClassId} {h : mH} {i : Nat} {q : mE} : (mW ad kA h).set i (ad i, me ad kA q) = mW ad kA (h.set i q) := by
  apply List.ext_getElem?
  intro j
  simp only [mW, List.getElem?_mapIdx, List.getElem?_set, List.length_mapIdx]
  by_cases hij : i = j
  · subst hij
    by_cases hl : i < h.length
    · simp [hl]
    · simp [hl]
  · simp [hij]
theorem mv_cat (ad : Nat → Nat) (v : Value) : (mv ad v).category = v.category := by cases v <;> rfl
def ml (ad : Nat → Nat) (lv : List (Nat × Value)) : List (Nat × Value) := lv.map (fun q => (q.1, mv ad q.2))
theorem ml_get {ad : Nat → Nat} {lv : List (Nat × Value)} {k i : Nat} {v : Value} (h : lv[k]? = some (i, v)) : (ml ad lv)[k]? = some (i, mv ad v) := by
  simp [ml, h]
theorem ml_st1 {ad : Nat → Nat} {lv lv' : List (Nat × Value)} {i : Nat} {v : Value} (h : (i, v) :: lv.filter (fun q => !(q.1 == i) && !(q.1 + 1 == i && q.2.category == 2)) = lv') : (i, mv ad v) :: (ml ad lv).filter (fun q => !(q.1 == i) && !(q.1 + 1 == i && q.2.category == 2)) = ml ad lv' := by
  subst h
  simp only [ml, List.map_cons, List.filter_map]
  congr 2
  apply List.filter_congr
  intro q _
  simp [mv_cat]
theorem ml_st2 {ad : Nat → Nat} {lv lv' : List (Nat × Value)} {i : Nat} {v : Value} (h : (i, v) :: lv.filter (fun q => !(q.1 == i) && (!(q.1 == i + 1) && !(q.1 + 1 == i && q.2.category == 2))) = lv') : (i, mv ad v) :: (ml ad lv).filter (fun q => !(q.1 == i) && (!(q.1 == i + 1) && !(q.1 + 1 == i && q.2.category == 2))) = ml ad lv' := by
  subst h
  simp only [ml, List.map_cons, List.filter_map]
  congr 2
  apply List.filter_congr
  intro q _
  simp [mv_cat]
theorem ml_pick {ad : Nat → Nat} {lv lv' : List (Nat × Value)} {ks : List Nat} (h : lv_pick lv ks = lv') : lv_pick (ml ad lv) ks = ml ad lv' := by
  subst h
  simp only [lv_pick, ml, List.map_filterMap, List.getElem?_map]
/-! THE WORDS of the methods' functions: each reads or writes the cells, and is none where the machine would not go on so -/
def mgi {α : Type} (h : mH) (i ci k : Nat) (F : Int32 → Option α) : Option α := match h[i]? with
  | some (.inr (c, fs)) => if c = ci then (match fs[k]? with | some (.int v) => F v | _ => none) else none
  | _ => none
def mgl {α : Type} (h : mH) (i ci k : Nat) (F : Int64 → Option α) : Option α := match h[i]? with
  | some (.inr (c, fs)) => if c = ci then (match fs[k]? with | some (.long v) => F v | _ => none) else none
  | _ => none
def mgr {α : Type} (h : mH) (i ci k : Nat) (F : Nat → Option α) : Option α := match h[i]? with
  | some (.inr (c, fs)) => if c = ci then (match fs[k]? with | some (.ref v) => F v | _ => none) else none
  | _ => none
def mpt {α : Type} (h : mH) (i ci k : Nat) (v : Value) (F : mH → Option α) : Option α := match h[i]? with
  | some (.inr (c, fs)) => if c = ci ∧ k < fs.length then F (h.set i (.inr (ci, fs.set k v))) else none
  | _ => none
def mai {α : Type} (h : mH) (a : Nat) (ty : FieldType) (j : Int32) (F : Int32 → Option α) : Option α := match h[a]? with
  | some (.inl (t, (n, .inl f))) => if t = ty ∧ ¬ (j < 0 ∨ n ≤ j.toNatClampNeg) then F (f j.toNatClampNeg) else none
  | _ => none
def mas {α : Type} (h : mH) (a : Nat) (ty : FieldType) (j x : Int32) (F : mH → Option α) : Option α := match h[a]? with
  | some (.inl (t, (n, .inl f))) => if t = ty ∧ ¬ (j < 0 ∨ n ≤ j.toNatClampNeg) then F (h.set a (.inl (ty, (n, .inl (upd f j.toNatClampNeg x))))) else none
  | _ => none
def mar {α : Type} (h : mH) (a : Nat) (ty : FieldType) (j : Int32) (F : Nat → Option α) : Option α := match h[a]? with
  | some (.inl (t, (n, .inr (.inr (.inr (.inr f)))))) => if t = ty ∧ ¬ (j < 0 ∨ n ≤ j.toNatClampNeg) then (match f j.toNatClampNeg with | some r => F r | none => none) else none
  | _ => none
def mln {α : Type} (h : mH) (a : Nat) (ty : FieldType) (F : Int32 → Option α) : Option α := match h[a]? with
  | some (.inl (t, x)) => if t = ty then F (nI x.1) else none
  | _ => none
def mcl {α β : Type} (x : Option (α × mH)) (F : α → mH → Option β) : Option β := match x with
  | some (r, h) => F r h
  | none => none
def mis {α : Type} (h : mH) (i ci : Nat) (F : Option α) : Option α := match h[i]? with
  | some (.inr (c, _)) => if c = ci then F else none
  | _ => none
noncomputable def mgd {α : Type} (P : Prop) (F : Option α) : Option α := @ite _ P (Classical.propDecidable P) F none
def msl {α : Type} (f : Nat → Int32) (n : Nat) (j : Int32) (F : Int32 → Option α) : Option α := if ¬ (j < 0 ∨ n ≤ j.toNatClampNeg) then F (f j.toNatClampNeg) else none
def mnm {α β : Type} (x : β) (F : β → Option α) : Option α := F x
section mWords
variable {α β : Type} {h : mH} {i ci k a : Nat} {ty : FieldType} {j x : Int32} {r : α}
theorem mgi_some {F : Int32 → Option α} (hh : mgi h i ci k F = some r) : ∃ (fs : List Value) (v : Int32), h[i]? = some (.inr (ci, fs)) ∧ fs[k]? = some (.int v) ∧ F v = some r := by
  unfold mgi at hh
  split at hh
  · rename_i c fs e
    split at hh
    · rename_i hc
      subst hc
      split at hh
      · rename_i v hv
        exact ⟨fs, v, e, hv, hh⟩
      · cases hh
    · cases hh
  · cases hh
theorem mgl_some {F : Int64 → Option α} (hh : mgl h i ci k F = some r) : ∃ (fs : List Value) (v : Int64), h[i]? = some (.inr (ci, fs)) ∧ fs[k]? = some (.long v) ∧ F v = some r := by
  unfold mgl at hh
  split at hh
  · rename_i c fs e
    split at hh
    · rename_i hc
      subst hc
      split at hh
      · rename_i v hv
        exact ⟨fs, v, e, hv, hh⟩
      · cases hh
    · cases hh
  · cases hh
theorem mgr_some {F : Nat → Option α} (hh : mgr h i ci k F = some r) : ∃ (fs : List Value) (v : Nat), h[i]? = some (.inr (ci, fs)) ∧ fs[k]? = some (.ref v) ∧ F v = some r := by
  unfold mgr at hh
  split at hh
  · rename_i c fs e
    split at hh
    · rename_i hc
      subst hc
      split at hh
      · rename_i v hv
        exact ⟨fs, v, e, hv, hh⟩
      · cases hh
    · cases hh
  · cases hh
theorem mpt_some {v : Value} {F : mH → Option α} (hh : mpt h i ci k v F = some r) : ∃ (fs : List Value) (h' : mH), h[i]? = some (.inr (ci, fs)) ∧ k < fs.length ∧ h' = h.set i (.inr (ci, fs.set k v)) ∧ F h' = some r := by
  unfold mpt at hh
  split at hh
  · rename_i c fs e
    split at hh
    · rename_i hc
      obtain ⟨rfl, hk⟩ := hc
      exact ⟨fs, _, e, hk, rfl, hh⟩
    · cases hh
  · cases hh
theorem mai_some {F : Int32 → Option α} (hh : mai h a ty j F = some r) : ∃ (n : Nat) (f : Nat → Int32) (v : Int32), h[a]? = some (.inl (ty, (n, .inl f))) ∧ vp_in j n ∧ f j.toNatClampNeg = v ∧ F v = some r := by
  unfold mai at hh
  split at hh
  · rename_i t n f e
    split at hh
    · rename_i hc
      obtain ⟨rfl, hk⟩ := hc
      exact ⟨n, f, _, e, hk, rfl, hh⟩
    · cases hh
  · cases hh
theorem mas_some {F : mH → Option α} (hh : mas h a ty j x F = some r) : ∃ (n : Nat) (f : Nat → Int32) (h' : mH), h[a]? = some (.inl (ty, (n, .inl f))) ∧ vp_in j n ∧ h' = h.set a (.inl (ty, (n, .inl (upd f j.toNatClampNeg x)))) ∧ F h' = some r := by
  unfold mas at hh
  split at hh
  · rename_i t n f e
    split at hh
    · rename_i hc
      obtain ⟨rfl, hk⟩ := hc
      exact ⟨n, f, _, e, hk, rfl, hh⟩
    · cases hh
  · cases hh
theorem mar_some {F : Nat → Option α} (hh : mar h a ty j F = some r) : ∃ (n : Nat) (f : Nat → Option Nat) (v : Nat), h[a]? = some (.inl (ty, (n, .inr (.inr (.inr (.inr f)))))) ∧ vp_in j n ∧ f j.toNatClampNeg = some v ∧ F v = some r := by
  unfold mar at hh
  split at hh
  · rename_i t n f e
    split at hh
    · rename_i hc
      obtain ⟨rfl, hk⟩ := hc
      split at hh
      · rename_i v hv
        exact ⟨n, f, v, e, hk, hv, hh⟩
      · cases hh
    · cases hh
  · cases hh
theorem mln_some {F : Int32 → Option α} (hh : mln h a ty F = some r) : ∃ (x : vp_A) (v : Int32), h[a]? = some (.inl (ty, x)) ∧ nI x.1 = v ∧ F v = some r := by
  unfold mln at hh
  split at hh
  · rename_i t x e
    split at hh
    · rename_i hc
      subst hc
      exact ⟨x, _, e, rfl, hh⟩
    · cases hh
  · cases hh
theorem mcl_some {x : Option (β × mH)} {F : β → mH → Option α} (hh : mcl x F = some r) : ∃ (b : β) (h' : mH), x = some (b, h') ∧ F b h' = some r := by
  unfold mcl at hh
  split at hh
  · exact ⟨_, _, rfl, hh⟩
  · cases hh
theorem mis_some {F : Option α} (hh : mis h i ci F = some r) : ∃ fs : List Value, h[i]? = some (.inr (ci, fs)) ∧ F = some r := by
  unfold mis at hh
  split at hh
  · rename_i c fs e
    split at hh
    · rename_i hc
      subst hc
      exact ⟨fs, e, hh⟩
    · cases hh
  · cases hh
theorem mgd_some {P : Prop} {F : Option α} (hh : mgd P F = some r) : P ∧ F = some r := by
  unfold mgd at hh
  split at hh
  · rename_i hp
    exact ⟨hp, hh⟩
  · cases hh
theorem msl_some {f : Nat → Int32} {n : Nat} {F : Int32 → Option α} (hh : msl f n j F = some r) : ∃ v : Int32, vp_in j n ∧ f j.toNatClampNeg = v ∧ F v = some r := by
  unfold msl at hh
  split at hh
  · rename_i hp
    exact ⟨_, hp, rfl, hh⟩
  · cases hh
theorem mnm_some {x : β} {F : β → Option α} (hh : mnm x F = some r) : ∃ y : β, y = x ∧ F y = some r := ⟨x, rfl, hh⟩
end mWords
/-! what the words come to, where the cells are known -/
section mEv
variable {α β : Type} {h : mH} {i ci k a b : Nat} {ty : FieldType} {j x : Int32} {fs : List Value}
theorem mgi_ev {F : Int32 → Option α} {v : Int32} (hi : h[i]? = some (.inr (ci, fs))) (hk : fs[k]? = some (.int v)) : mgi h i ci k F = F v := by simp [mgi, hi, hk]
theorem mgl_ev {F : Int64 → Option α} {v : Int64} (hi : h[i]? = some (.inr (ci, fs))) (hk : fs[k]? = some (.long v)) : mgl h i ci k F = F v := by simp [mgl, hi, hk]
theorem mgr_ev {F : Nat → Option α} {v : Nat} (hi : h[i]? = some (.inr (ci, fs))) (hk : fs[k]? = some (.ref v)) : mgr h i ci k F = F v := by simp [mgr, hi, hk]
theorem mpt_ev {F : mH → Option α} {v : Value} (hi : h[i]? = some (.inr (ci, fs))) (hk : k < fs.length) : mpt h i ci k v F = F (h.set i (.inr (ci, fs.set k v))) := by simp [mpt, hi, hk]
theorem mai_ev {F : Int32 → Option α} {n : Nat} {f : Nat → Int32} (hi : h[a]? = some (.inl (ty, (n, .inl f)))) (hj : vp_in j n) : mai h a ty j F = F (f j.toNatClampNeg) := by
  have hj' : ¬ (j < 0 ∨ n ≤ j.toNatClampNeg) := hj
  simp only [mai, hi, true_and, hj', not_false_eq_true, if_true]
theorem mas_ev {F : mH → Option α} {n : Nat} {f : Nat → Int32} (hi : h[a]? = some (.inl (ty, (n, .inl f)))) (hj : vp_in j n) : mas h a ty j x F = F (h.set a (.inl (ty, (n, .inl (upd f j.toNatClampNeg x))))) := by
  have hj' : ¬ (j < 0 ∨ n ≤ j.toNatClampNeg) := hj
  simp only [mas, hi, true_and, hj', not_false_eq_true, if_true]
theorem mar_ev {F : Nat → Option α} {n r : Nat} {f : Nat → Option Nat} (hi : h[a]? = some (.inl (ty, (n, .inr (.inr (.inr (.inr f))))))) (hj : vp_in j n) (hr : f j.toNatClampNeg = some r) : mar h a ty j F = F r := by
  have hj' : ¬ (j < 0 ∨ n ≤ j.toNatClampNeg) := hj
  simp only [mar, hi, true_and, hj', not_false_eq_true, if_true, hr]
theorem mln_ev {F : Int32 → Option α} {x : vp_A} (hi : h[a]? = some (.inl (ty, x))) : mln h a ty F = F (nI x.1) := by simp [mln, hi]
theorem mcl_ev {x : Option (β × mH)} {F : β → mH → Option α} {r : β} {h' : mH} (hx : x = some (r, h')) : mcl x F = F r h' := by simp [mcl, hx]
theorem mis_ev {F : Option α} (hi : h[i]? = some (.inr (ci, fs))) : mis h i ci F = F := by simp [mis, hi]
theorem mgd_ev {P : Prop} {F : Option α} (hp : P) : mgd P F = F := by simp [mgd, hp]
theorem msl_ev {f : Nat → Int32} {n : Nat} {F : Int32 → Option α} (hj : vp_in j n) : msl f n j F = F (f j.toNatClampNeg) := by
  have hj' : ¬ (j < 0 ∨ n ≤ j.toNatClampNeg) := hj
  simp only [msl, hj', not_false_eq_true, if_true]
theorem mnm_ev {x : β} {F : β → Option α} : mnm x F = F x := rfl
end mEv
end
section
/-! THE JUDGEMENT mAW: the machine, at a method's frame, with the cells h, comes to X's end. -/
abbrev mX : Type := Program × Launch × Env × Room × State × MethodId × Array Value × List Frame × Method × Code × (State → Prop) × (Nat → Prop) × va_G × (FieldType → ClassId) × Nat
/-- the tables: classes, arrays, and the words that speak of nest mates -/
def mK (D : va_G) (kA : FieldType → ClassId) (U : State) : Prop := (∀ (c : Nat) (q : vw_C), classes[c]? = some q → u_Kn U q.1 q.2.1 q.2.2 (D.1 c) (D.2 c)) ∧ (∀ ty ∈ mTys, ArrOfT U (kA ty) ty ∧ va_RA U (kA ty) ty) ∧ ∀ w ∈ mNest, va_Nw w U
/-- the static arrays: class, name, descriptor, kind, length, what they hold; the k-th lies at ad (10000 + k) -/
def mT (ad : Nat → Nat) (A : Nat → Prop) (U : State) (H : Heap) : Prop := ∀ (k : Nat) (q : mSt), mSta[k]? = some q → va_Z q.1 q.2.1 q.2.2.1 (.ref (ad (10000 + k))) A U H ∧ va_T q.2.2.2.1 (ad (10000 + k)) q.2.2.2.2.1 (fun j => .int (q.2.2.2.2.2 j)) A U H
def mAW (X : mX) (ad : Nat → Nat) (cs ss pc : Nat) (lv : List (Nat × Value)) (st : List Value) (h : mH) : Prop := match X with
  | (p, l, e, R, s, m, args, below, meth, c, Q, A, D, kA, nL) => ∀ (H : Heap) (locs : List Loc) (ls : Array Slot), va_P D classes (mW ad kA h) H → va_D A (mW ad kA h) → va_S A s.heap H locs → lv_has ls nL (ml ad lv) → W p l e R s m args below meth c H locs cs ss Q (F0 m pc ls (st.map (mv ad)))
/-- what holds all through a method's body -/
def mO (X : mX) (ad : Nat → Nat) (own : String) (cc : ByteArray) (N : Nat) (Rm : Room) (ln : Launch) : Prop := match X with
  | (p, l, e, R, s, m, args, below, meth, c, Q, A, D, kA, nL) => (p.tables.exec = Jvm.exec ∧ c.code = cc ∧ c.maxLocals = nL ∧ s.vm.findClass own = some m.cls ∧ meth.locks = false ∧ nL = N ∧ R = Rm ∧ l = ln) ∧ (∀ w ∈ mGood, w.before args s = true) ∧ mK D kA s ∧ mT ad A s s.heap ∧ (∀ q, s.heap.size ≤ q → A q)
theorem mK.moved {D : va_G} {kA : FieldType → ClassId} {u U : State} (hW : u.WarmedH U.vm) (h : mK D kA u) : mK D kA U :=
  ⟨fun c q hq => u_Kn_moved hW.alike (h.1 c q hq), fun ty ht => ⟨arrOfT_moved hW.alike (h.2.1 ty ht).1, (h.2.1 ty ht).2.moved hW.alike⟩, fun w hw => mNest_warm w hw hW (h.2.2 w hw)⟩
theorem mK.same {D : va_G} {kA : FieldType → ClassId} {u U : State} (hvm : u.vm = U.vm) (h : mK D kA u) : mK D kA U :=
  have ha : u.vm.Alike U.vm := by rw [hvm]; exact Vm.Alike.refl _
  ⟨fun c q hq => u_Kn_moved ha (h.1 c q hq), fun ty ht => ⟨arrOfT_moved ha (h.2.1 ty ht).1, (h.2.1 ty ht).2.moved ha⟩, fun w hw => va_Nw.same (mNest_ot w hw) hvm (h.2.2 w hw)⟩
theorem mKt {D : va_G} {kA : FieldType → ClassId} {s : State} (hK : mK D kA s) {ty : FieldType} (ht : ty ∈ mTys) : va_K D classes [(kA ty, ty)] s := ⟨hK.1, fun k q hq => by
  cases k with
  | zero => cases hq; exact hK.2.1 _ ht
  | succ k => simp at hq⟩
theorem mK0 {D : va_G} {kA : FieldType → ClassId} {s : State} (hK : mK D kA s) : va_K D classes [] s := ⟨hK.1, fun k q hq => by simp at hq⟩
theorem mT.moved {ad : Nat → Nat} {A : Nat → Prop} {u U : State} {H : Heap} (hvm : u.vm.Alike U.vm) (h : mT ad A u H) : mT ad A U H := fun k q hq => ⟨(h k q hq).1.moved hvm, (h k q hq).2.moved hvm⟩
theorem mT.kept {ad : Nat → Nat} {A : Nat → Prop} {U : State} {H H1 : Heap} (h : mT ad A U H) (hq : ∀ a : Nat, a < H.size → ¬ A a → H1[a]? = H[a]?) : mT ad A U H1 := fun k q hk => ⟨(h k q hk).1.kept hq, (h k q hk).2.kept hq⟩
theorem mT.narrow {ad : Nat → Nat} {A B : Nat → Prop} {U : State} {H : Heap} (h : mT ad A U H) (hAB : ∀ q, B q → A q) : mT ad B U H := fun k q hk => ⟨(h k q hk).1.narrow hAB, (h k q hk).2.narrow hAB⟩
/-- a field that is read: by the pool's place ix of the class own; of the class number ci, its kf-th -/
def mFg (own : String) (ix ci kf : Nat) : Prop := ∃ (C : String) (T : u_T) (Nf : Nat), classes[ci]? = some (C, T, Nf) ∧ kf < Nf ∧ (∀ w ∈ u_ws C T Nf, w ∈ mGood) ∧ (Cond.fieldLink own ix (T kf).1 (T kf).2.1 (T kf).2.2.1 ∈ mGood ∨ ∃ host : String, Cond.fieldLinkNest own ix (T kf).1 (T kf).2.1 (T kf).2.2.1 host ∈ mNest)
def mFp (own : String) (ix ci kf : Nat) (ty : FieldType) (fin : Bool) : Prop := ∃ (C : String) (T : u_T) (Nf : Nat) (ty0 : Nat → FieldType), classes[ci]? = some (C, T, Nf) ∧ kf < Nf ∧ (∀ w ∈ u_ws C T Nf, w ∈ mGood) ∧ (Cond.fieldLink own ix (T kf).1 (T kf).2.1 (T kf).2.2.1 ∈ mGood ∨ ∃ host : String, Cond.fieldLinkNest own ix (T kf).1 (T kf).2.1 (T kf).2.2.1 host ∈ mNest) ∧ (∀ k, k < Nf → parseFieldDescriptor (T k).2.2.1 = some (ty0 k)) ∧ (∀ a, a < Nf → ∀ b, b < Nf → a ≠ b → (T a).2.1 ≠ (T b).2.1) ∧ (T kf).2.2.2 = fin ∧ ty0 kf = ty ∧ (fin = true → (T kf).1 = own)
/-- a method that may be called -/
def mCw (y : MethodName) (bytes : ByteArray) (maxL : Nat) (ret : Option FieldType) (n : Nat) : Prop := Cond.code y bytes maxL ret ∈ mGood ∧ Cond.initialized y.cls ∈ mGood ∧ (y.cls ≠ "java/lang/invoke/MethodHandle" ∧ y.cls ≠ "java/lang/invoke/VarHandle") ∧ (parseMethodDescriptor y.desc).map (fun d => d.parameters.length) = some n
def mLk (own : String) (ix : Nat) (y : MethodName) : Prop := Cond.methodLink own ix y ∈ mGood ∨ ∃ host : String, Cond.methodLinkNest own ix y host ∈ mNest
def mPre (D : va_G) (kA : FieldType → ClassId) (ad : Nat → Nat) (As : List Value) (h : mH) (sz : Nat) : Array Value → State → Prop := va_Pc (As.map (mv ad)) (fun U => U.heap.size = sz ∧ va_P D classes (mW ad kA h) U.heap ∧ mK D kA U ∧ mT ad (va_A (mW ad kA h) sz) U U.heap ∧ va_D (fun _ => True) (mW ad kA h))
def mPost (A : Nat → Prop) (D : va_G) (kA : FieldType → ClassId) (ad : Nat → Nat) (v : Option Value) (h : mH) : Array Value → State → Outcome → State → Prop := fun _ st oc t => oc = .returned (v.map (mv ad)) ∧ va_P D classes (mW ad kA h) t.heap ∧ va_D A (mW ad kA h) ∧ va_F A st t
/-- THE CONTRACT: from the cells h, called with As, it answers v, and the cells are h' -/
def mMet (l : Launch) (y : MethodName) (bytes : ByteArray) (maxL : Nat) (ret : Option FieldType) (rm : Room) (As : List Value) (h : mH) (v : Option Value) (h' : mH) : Prop := ∀ (D : va_G) (kA : FieldType → ClassId) (ad : Nat → Nat) (sz : Nat), Met l y (Cond.code y bytes maxL ret :: mGood) rm (mPre D kA ad As h sz) (mPost (va_A (mW ad kA h) sz) D kA ad v h') 0 0 (va_A (mW ad kA h) sz)
/-- the end of a body: what it owes -/
def mEnd (X : mX) (ad : Nat → Nat) (ret : Option FieldType) (v : Option Value) (h : mH) : Prop := match X with
  | (_, _, _, _, s, _, args, below, meth, _, Q, A, D, kA, _) => Q = MQ below (mPost A D kA ad v h) args s 0 0 A ∧ meth.sig.returnType = ret
theorem ml_args (ad : Nat → Nat) (As : List Value) : ∀ i : Nat, ml ad (lv_args i As) = lv_args i (As.map (mv ad)) := by
  induction As with
  | nil => intro i; rfl
  | cons v vs ih =>
    intro i
    simp only [lv_args, List.map_cons, mv_cat]
    rw [← ih]
    rfl
theorem lg_len (ad : Nat → Nat) (As : List Value) : (lg_sl (As.map (mv ad))).length = (lg_sl As).length := by
  induction As with
  | nil => rfl
  | cons v vs ih =>
    simp only [lg_sl, List.map_cons, List.flatMap_cons, List.length_append, mv_cat] at ih ⊢
    rw [ih]
    split <;> rfl
theorem mMet_of {ln : Launch} {y : MethodName} {bytes : ByteArray} {maxL : Nat} {ret : Option FieldType} {rm : Room} {As : List Value} {h : mH} {v : Option Value} {h' : mH} (hy : plainName y.cls = true) (hlen : (lg_sl As).length ≤ maxL)
    (body : ∀ (X : mX) (ad : Nat → Nat), mO X ad y.cls bytes maxL rm ln → mEnd X ad ret v h' → mAW X ad 0 0 0 (lv_args 0 As) [] h) : mMet ln y bytes maxL ret rm As h v h' := by
  intro D kA ad sz
  refine Met.ofW (cc := bytes) (maxL := maxL) (ret := ret) hy rfl ?_
  intro p e s m args below meth c s₁ B hml hv
  obtain ⟨hargs, hsz, hP, hK, hT, hD0⟩ := hv
  subst hsz
  subst hargs
  have hD := hD0.self (sz := s.heap.size)
  have hts := atoms_spec (ws := Cond.code y bytes maxL ret :: mGood) B.pre
  have hown : s.vm.findClass y.cls = some m.cls := findClass_of_methodNamed B.named
  have hl := lv_entry (As.map (mv ad)) (n := maxL) (by rw [lg_len]; exact hlen)
  have hb := body (p, ln, e, rm, s, m, (As.map (mv ad)).toArray, below, meth, c, MQ below (mPost (va_A (mW ad kA h) s.heap.size) D kA ad v h') (As.map (mv ad)).toArray s 0 0 (va_A (mW ad kA h) s.heap.size), va_A (mW ad kA h) s.heap.size, D, kA, maxL) ad ⟨⟨B.exec, B.bytes, hml, hown, B.notSynchronized, rfl, rfl, rfl⟩, fun w hw => hts w (List.mem_cons_of_mem _ hw), hK, hT, fun q hq => Or.inr hq⟩ ⟨rfl, B.returns⟩
  rw [lg_entry_eq]
  exact hb s.heap [] _ hP hD va_S.rf (by rw [ml_args]; exact hl)
section mRows
variable {X : mX} {ad : Nat → Nat} {own : String} {cc : ByteArray} {N cs ss pc : Nat} {lv lv' : List (Nat × Value)} {st : List Value} {h : mH} {Rm : Room} {ln : Launch}
theorem ax_iconst (O : mO X ad own cc N Rm ln) {n : Int} {v : Int32} (d : decode cc pc = .ok (.iconst n, 1)) (hv : Int32.ofInt n = v) (k : mAW X ad cs ss (pc + 1) lv (.int v :: st) h) : mAW X ad cs ss pc lv (st) h := by
  obtain ⟨p, l, e, R, s, m, args, below, meth, c, Q, A, D, kA, nL⟩ := X
  exact fun H locs ls hP hD hS hl => lv_iconst O.1.1 O.1.2.1 d hv (k H locs ls hP hD hS hl)
theorem ax_bipush (O : mO X ad own cc N Rm ln) {n : Int} {v : Int32} (d : decode cc pc = .ok (.bipush n, 2)) (hv : (Int8.ofInt n).toInt32 = v) (k : mAW X ad cs ss (pc + 2) lv (.int v :: st) h) : mAW X ad cs ss pc lv (st) h := by
  obtain ⟨p, l, e, R, s, m, args, below, meth, c, Q, A, D, kA, nL⟩ := X
  exact fun H locs ls hP hD hS hl => lv_bipush O.1.1 O.1.2.1 d hv (k H locs ls hP hD hS hl)
theorem ax_sipush (O : mO X ad own cc N Rm ln) {n : Int} {v : Int32} (d : decode cc pc = .ok (.sipush n, 3)) (hv : (Int16.ofInt n).toInt32 = v) (k : mAW X ad cs ss (pc + 3) lv (.int v :: st) h) : mAW X ad cs ss pc lv (st) h := by
  obtain ⟨p, l, e, R, s, m, args, below, meth, c, Q, A, D, kA, nL⟩ := X
  exact fun H locs ls hP hD hS hl => lv_sipush O.1.1 O.1.2.1 d hv (k H locs ls hP hD hS hl)
theorem ax_lconst (O : mO X ad own cc N Rm ln) {n : Fin 2} {v : Int64} (d : decode cc pc = .ok (.lconst n, 1)) (hv : Int64.ofNat (n : Nat) = v) (k : mAW X ad cs ss (pc + 1) lv (.long v :: st) h) : mAW X ad cs ss pc lv (st) h := by
  obtain ⟨p, l, e, R, s, m, args, below, meth, c, Q, A, D, kA, nL⟩ := X
  exact fun H locs ls hP hD hS hl => lv_lconst O.1.1 O.1.2.1 d hv (k H locs ls hP hD hS hl)
theorem ax_ldc (O : mO X ad own cc N Rm ln) {ix : Nat} {v : Int32} (d : decode cc pc = .ok (.ldc ix, 2)) (hw : Cond.constant own ix v ∈ mGood) (k : mAW X ad cs ss (pc + 2) lv (.int v :: st) h) : mAW X ad cs ss pc lv (st) h := by
  obtain ⟨p, l, e, R, s, m, args, below, meth, c, Q, A, D, kA, nL⟩ := X
  exact fun H locs ls hP hD hS hl => lv_ldc O.1.1 O.1.2.1 O.1.2.2.2.1 (O.2.1 _ hw) d (k H locs ls hP hD hS hl)
theorem ax_ldc2 (O : mO X ad own cc N Rm ln) {ix : Nat} {v : Int64} (d : decode cc pc = .ok (.ldc2_w ix, 3)) (hw : Cond.constantLong own ix v ∈ mGood) (k : mAW X ad cs ss (pc + 3) lv (.long v :: st) h) : mAW X ad cs ss pc lv (st) h := by
  obtain ⟨p, l, e, R, s, m, args, below, meth, c, Q, A, D, kA, nL⟩ := X
  exact fun H locs ls hP hD hS hl => lv_ldc2 O.1.1 O.1.2.1 O.1.2.2.2.1 (O.2.1 _ hw) d (k H locs ls hP hD hS hl)
theorem ax_iload_n (O : mO X ad own cc N Rm ln) {n : Fin 4} {i : Nat} {x : Int32} (d : decode cc pc = .ok (.iload_n n, 1)) (hi : (n : Nat) = i) (j : Nat) (hj : lv[j]? = some (i, .int x)) (k : mAW X ad cs ss (pc + 1) lv (.int x :: st) h) : mAW X ad cs ss pc lv (st) h := by
  obtain ⟨p, l, e, R, s, m, args, below, meth, c, Q, A, D, kA, nL⟩ := X
  exact fun H locs ls hP hD hS hl => lv_iload_n O.1.1 O.1.2.1 d hi (lv_at hl j (ml_get hj)) (k H locs ls hP hD hS hl)
theorem ax_iload (O : mO X ad own cc N Rm ln) {i : Nat} {x : Int32} (d : decode cc pc = .ok (.iload i, 2)) (j : Nat) (hj : lv[j]? = some (i, .int x)) (k : mAW X ad cs ss (pc + 2) lv (.int x :: st) h) : mAW X ad cs ss pc lv (st) h := by
  obtain ⟨p, l, e, R, s, m, args, below, meth, c, Q, A, D, kA, nL⟩ := X
  exact fun H locs ls hP hD hS hl => lv_iload O.1.1 O.1.2.1 d (lv_at hl j (ml_get hj)) (k H locs ls hP hD hS hl)
theorem ax_lload_n (O : mO X ad own cc N Rm ln) {n : Fin 4} {i : Nat} {x : Int64} (d : decode cc pc = .ok (.lload_n n, 1)) (hi : (n : Nat) = i) (j : Nat) (hj : lv[j]? = some (i, .long x)) (k : mAW X ad cs ss (pc + 1) lv (.long x :: st) h) : mAW X ad cs ss pc lv (st) h := by
  obtain ⟨p, l, e, R, s, m, args, below, meth, c, Q, A, D, kA, nL⟩ := X
  exact fun H locs ls hP hD hS hl => lv_lload_n O.1.1 O.1.2.1 d hi (lv_at hl j (ml_get hj)) (k H locs ls hP hD hS hl)
theorem ax_lload (O : mO X ad own cc N Rm ln) {i : Nat} {x : Int64} (d : decode cc pc = .ok (.lload i, 2)) (j : Nat) (hj : lv[j]? = some (i, .long x)) (k : mAW X ad cs ss (pc + 2) lv (.long x :: st) h) : mAW X ad cs ss pc lv (st) h := by
  obtain ⟨p, l, e, R, s, m, args, below, meth, c, Q, A, D, kA, nL⟩ := X
  exact fun H locs ls hP hD hS hl => lv_lload O.1.1 O.1.2.1 d (lv_at hl j (ml_get hj)) (k H locs ls hP hD hS hl)
theorem ax_aload_n (O : mO X ad own cc N Rm ln) {n : Fin 4} {i : Nat} {x : Nat} (d : decode cc pc = .ok (.aload_n n, 1)) (hi : (n : Nat) = i) (j : Nat) (hj : lv[j]? = some (i, .ref x)) (k : mAW X ad cs ss (pc + 1) lv (.ref x :: st) h) : mAW X ad cs ss pc lv (st) h := by
  obtain ⟨p, l, e, R, s, m, args, below, meth, c, Q, A, D, kA, nL⟩ := X
  exact fun H locs ls hP hD hS hl => lv_aload_n O.1.1 O.1.2.1 d hi (lv_at hl j (ml_get hj)) (k H locs ls hP hD hS hl)
theorem ax_aload (O : mO X ad own cc N Rm ln) {i : Nat} {x : Nat} (d : decode cc pc = .ok (.aload i, 2)) (j : Nat) (hj : lv[j]? = some (i, .ref x)) (k : mAW X ad cs ss (pc + 2) lv (.ref x :: st) h) : mAW X ad cs ss pc lv (st) h := by
  obtain ⟨p, l, e, R, s, m, args, below, meth, c, Q, A, D, kA, nL⟩ := X
  exact fun H locs ls hP hD hS hl => lv_aload O.1.1 O.1.2.1 d (lv_at hl j (ml_get hj)) (k H locs ls hP hD hS hl)
theorem ax_istore_n (O : mO X ad own cc N Rm ln) {n : Fin 4} {i : Nat} {x : Int32} (d : decode cc pc = .ok (.istore_n n, 1)) (hi : (n : Nat) = i) (hn : i < N) (he : (i, .int x) :: lv.filter (fun q => !(q.1 == i) && !(q.1 + 1 == i && q.2.category == 2)) = lv') (k : mAW X ad cs ss (pc + 1) lv' st h) : mAW X ad cs ss pc lv (.int x :: st) h := by
  obtain ⟨p, l, e, R, s, m, args, below, meth, c, Q, A, D, kA, nL⟩ := X
  obtain ⟨O1, O2⟩ := O
  obtain ⟨hx, hb, hm, ho, hk, rfl, hR, hln⟩ := O1
  exact fun H locs ls hP hD hS hl => lv_istore_n hx hb d hi hl hn (ml_st1 he) (fun ls hl => k H locs ls hP hD hS hl)
theorem ax_istore (O : mO X ad own cc N Rm ln) {i : Nat} {x : Int32} (d : decode cc pc = .ok (.istore i, 2))  (hn : i < N) (he : (i, .int x) :: lv.filter (fun q => !(q.1 == i) && !(q.1 + 1 == i && q.2.category == 2)) = lv') (k : mAW X ad cs ss (pc + 2) lv' st h) : mAW X ad cs ss pc lv (.int x :: st) h := by
  obtain ⟨p, l, e, R, s, m, args, below, meth, c, Q, A, D, kA, nL⟩ := X
  obtain ⟨O1, O2⟩ := O
  obtain ⟨hx, hb, hm, ho, hk, rfl, hR, hln⟩ := O1
  exact fun H locs ls hP hD hS hl => lv_istore hx hb d hl hn (ml_st1 he) (fun ls hl => k H locs ls hP hD hS hl)
theorem ax_astore_n (O : mO X ad own cc N Rm ln) {n : Fin 4} {i : Nat} {x : Nat} (d : decode cc pc = .ok (.astore_n n, 1)) (hi : (n : Nat) = i) (hn : i < N) (he : (i, .ref x) :: lv.filter (fun q => !(q.1 == i) && !(q.1 + 1 == i && q.2.category == 2)) = lv') (k : mAW X ad cs ss (pc + 1) lv' st h) : mAW X ad cs ss pc lv (.ref x :: st) h := by
  obtain ⟨p, l, e, R, s, m, args, below, meth, c, Q, A, D, kA, nL⟩ := X
  obtain ⟨O1, O2⟩ := O
  obtain ⟨hx, hb, hm, ho, hk, rfl, hR, hln⟩ := O1
  exact fun H locs ls hP hD hS hl => lv_astore_n hx hb d hi hl hn (ml_st1 he) (fun ls hl => k H locs ls hP hD hS hl)
theorem ax_astore (O : mO X ad own cc N Rm ln) {i : Nat} {x : Nat} (d : decode cc pc = .ok (.astore i, 2))  (hn : i < N) (he : (i, .ref x) :: lv.filter (fun q => !(q.1 == i) && !(q.1 + 1 == i && q.2.category == 2)) = lv') (k : mAW X ad cs ss (pc + 2) lv' st h) : mAW X ad cs ss pc lv (.ref x :: st) h := by
  obtain ⟨p, l, e, R, s, m, args, below, meth, c, Q, A, D, kA, nL⟩ := X
  obtain ⟨O1, O2⟩ := O
  obtain ⟨hx, hb, hm, ho, hk, rfl, hR, hln⟩ := O1
  exact fun H locs ls hP hD hS hl => lv_astore hx hb d hl hn (ml_st1 he) (fun ls hl => k H locs ls hP hD hS hl)
theorem ax_lstore_n (O : mO X ad own cc N Rm ln) {n : Fin 4} {i : Nat} {x : Int64} (d : decode cc pc = .ok (.lstore_n n, 1)) (hi : (n : Nat) = i) (hn : i + 1 < N) (he : (i, .long x) :: lv.filter (fun q => !(q.1 == i) && (!(q.1 == i + 1) && !(q.1 + 1 == i && q.2.category == 2))) = lv') (k : mAW X ad cs ss (pc + 1) lv' st h) : mAW X ad cs ss pc lv (.long x :: st) h := by
  obtain ⟨p, l, e, R, s, m, args, below, meth, c, Q, A, D, kA, nL⟩ := X
  obtain ⟨O1, O2⟩ := O
  obtain ⟨hx, hb, hm, ho, hk, rfl, hR, hln⟩ := O1
  exact fun H locs ls hP hD hS hl => lv_lstore_n hx hb d hi hl hn (ml_st2 he) (fun ls hl => k H locs ls hP hD hS hl)
theorem ax_lstore (O : mO X ad own cc N Rm ln) {i : Nat} {x : Int64} (d : decode cc pc = .ok (.lstore i, 2))  (hn : i + 1 < N) (he : (i, .long x) :: lv.filter (fun q => !(q.1 == i) && (!(q.1 == i + 1) && !(q.1 + 1 == i && q.2.category == 2))) = lv') (k : mAW X ad cs ss (pc + 2) lv' st h) : mAW X ad cs ss pc lv (.long x :: st) h := by
  obtain ⟨p, l, e, R, s, m, args, below, meth, c, Q, A, D, kA, nL⟩ := X
  obtain ⟨O1, O2⟩ := O
  obtain ⟨hx, hb, hm, ho, hk, rfl, hR, hln⟩ := O1
  exact fun H locs ls hP hD hS hl => lv_lstore hx hb d hl hn (ml_st2 he) (fun ls hl => k H locs ls hP hD hS hl)
theorem ax_iinc (O : mO X ad own cc N Rm ln) {i j : Nat} {n : Int} {x v : Int32} (d : decode cc pc = .ok (.iinc i n, 3)) (hj : lv[j]? = some (i, .int x)) (hv : x + Int32.ofInt n = v) (hn : i < N) (he : (i, Value.int v) :: lv.filter (fun q => !(q.1 == i) && !(q.1 + 1 == i && q.2.category == 2)) = lv') (k : mAW X ad cs ss (pc + 3) lv' st h) : mAW X ad cs ss pc lv st h := by
  obtain ⟨p, l, e, R, s, m, args, below, meth, c, Q, A, D, kA, nL⟩ := X
  obtain ⟨O1, O2⟩ := O
  obtain ⟨hx, hb, hm, ho, hk, rfl, hR, hln⟩ := O1
  exact fun H locs ls hP hD hS hl => lv_iinc (k := j) hx hb d hl (ml_get hj) hv hn (ml_st1 (v := .int v) he) (fun ls hl => k H locs ls hP hD hS hl)
theorem ax_iadd (O : mO X ad own cc N Rm ln) {x y : Int32} (d : decode cc pc = .ok (.iadd, 1))  (k : mAW X ad cs ss (pc + 1) lv (.int (x + y) :: st) h) : mAW X ad cs ss pc lv (.int y :: .int x :: st) h := by
  obtain ⟨p, l, e, R, s, m, args, below, meth, c, Q, A, D, kA, nL⟩ := X
  exact fun H locs ls hP hD hS hl => lv_iadd O.1.1 O.1.2.1 d (k H locs ls hP hD hS hl)
theorem ax_isub (O : mO X ad own cc N Rm ln) {x y : Int32} (d : decode cc pc = .ok (.isub, 1))  (k : mAW X ad cs ss (pc + 1) lv (.int (x - y) :: st) h) : mAW X ad cs ss pc lv (.int y :: .int x :: st) h := by
  obtain ⟨p, l, e, R, s, m, args, below, meth, c, Q, A, D, kA, nL⟩ := X
  exact fun H locs ls hP hD hS hl => lv_isub O.1.1 O.1.2.1 d (k H locs ls hP hD hS hl)
theorem ax_imul (O : mO X ad own cc N Rm ln) {x y : Int32} (d : decode cc pc = .ok (.imul, 1))  (k : mAW X ad cs ss (pc + 1) lv (.int (x * y) :: st) h) : mAW X ad cs ss pc lv (.int y :: .int x :: st) h := by
  obtain ⟨p, l, e, R, s, m, args, below, meth, c, Q, A, D, kA, nL⟩ := X
  exact fun H locs ls hP hD hS hl => lv_imul O.1.1 O.1.2.1 d (k H locs ls hP hD hS hl)
theorem ax_iand (O : mO X ad own cc N Rm ln) {x y : Int32} (d : decode cc pc = .ok (.iand, 1))  (k : mAW X ad cs ss (pc + 1) lv (.int (x &&& y) :: st) h) : mAW X ad cs ss pc lv (.int y :: .int x :: st) h := by
  obtain ⟨p, l, e, R, s, m, args, below, meth, c, Q, A, D, kA, nL⟩ := X
  exact fun H locs ls hP hD hS hl => lv_iand O.1.1 O.1.2.1 d (k H locs ls hP hD hS hl)
theorem ax_ior (O : mO X ad own cc N Rm ln) {x y : Int32} (d : decode cc pc = .ok (.ior, 1))  (k : mAW X ad cs ss (pc + 1) lv (.int (x ||| y) :: st) h) : mAW X ad cs ss pc lv (.int y :: .int x :: st) h := by
  obtain ⟨p, l, e, R, s, m, args, below, meth, c, Q, A, D, kA, nL⟩ := X
  exact fun H locs ls hP hD hS hl => lv_ior O.1.1 O.1.2.1 d (k H locs ls hP hD hS hl)
theorem ax_ixor (O : mO X ad own cc N Rm ln) {x y : Int32} (d : decode cc pc = .ok (.ixor, 1))  (k : mAW X ad cs ss (pc + 1) lv (.int (x ^^^ y) :: st) h) : mAW X ad cs ss pc lv (.int y :: .int x :: st) h := by
  obtain ⟨p, l, e, R, s, m, args, below, meth, c, Q, A, D, kA, nL⟩ := X
  exact fun H locs ls hP hD hS hl => lv_ixor O.1.1 O.1.2.1 d (k H locs ls hP hD hS hl)
theorem ax_ishl (O : mO X ad own cc N Rm ln) {x y : Int32} (d : decode cc pc = .ok (.ishl, 1))  (k : mAW X ad cs ss (pc + 1) lv (.int (x <<< (y &&& 31)) :: st) h) : mAW X ad cs ss pc lv (.int y :: .int x :: st) h := by
  obtain ⟨p, l, e, R, s, m, args, below, meth, c, Q, A, D, kA, nL⟩ := X
  exact fun H locs ls hP hD hS hl => lv_ishl O.1.1 O.1.2.1 d (k H locs ls hP hD hS hl)
theorem ax_ishr (O : mO X ad own cc N Rm ln) {x y : Int32} (d : decode cc pc = .ok (.ishr, 1))  (k : mAW X ad cs ss (pc + 1) lv (.int (x >>> (y &&& 31)) :: st) h) : mAW X ad cs ss pc lv (.int y :: .int x :: st) h := by
  obtain ⟨p, l, e, R, s, m, args, below, meth, c, Q, A, D, kA, nL⟩ := X
  exact fun H locs ls hP hD hS hl => lv_ishr O.1.1 O.1.2.1 d (k H locs ls hP hD hS hl)
theorem ax_idiv (O : mO X ad own cc N Rm ln) {x y : Int32} (d : decode cc pc = .ok (.idiv, 1)) (hne : ¬ y = 0) (k : mAW X ad cs ss (pc + 1) lv (.int (x / y) :: st) h) : mAW X ad cs ss pc lv (.int y :: .int x :: st) h := by
  obtain ⟨p, l, e, R, s, m, args, below, meth, c, Q, A, D, kA, nL⟩ := X
  exact fun H locs ls hP hD hS hl => lv_idiv O.1.1 O.1.2.1 d hne (k H locs ls hP hD hS hl)
theorem ax_irem (O : mO X ad own cc N Rm ln) {x y : Int32} (d : decode cc pc = .ok (.irem, 1)) (hne : ¬ y = 0) (k : mAW X ad cs ss (pc + 1) lv (.int (x - x / y * y) :: st) h) : mAW X ad cs ss pc lv (.int y :: .int x :: st) h := by
  obtain ⟨p, l, e, R, s, m, args, below, meth, c, Q, A, D, kA, nL⟩ := X
  exact fun H locs ls hP hD hS hl => lv_irem O.1.1 O.1.2.1 d hne (k H locs ls hP hD hS hl)
theorem ax_ineg (O : mO X ad own cc N Rm ln) {x : Int32} (d : decode cc pc = .ok (.ineg, 1))  (k : mAW X ad cs ss (pc + 1) lv (.int (-x) :: st) h) : mAW X ad cs ss pc lv (.int x :: st) h := by
  obtain ⟨p, l, e, R, s, m, args, below, meth, c, Q, A, D, kA, nL⟩ := X
  exact fun H locs ls hP hD hS hl => lv_ineg O.1.1 O.1.2.1 d (k H locs ls hP hD hS hl)
theorem ax_iushr (O : mO X ad own cc N Rm ln) {x y : Int32} (d : decode cc pc = .ok (.iushr, 1))  (k : mAW X ad cs ss (pc + 1) lv (.int (x.toUInt32 >>> (y.toUInt32 &&& Int32.toUInt32 31)).toInt32 :: st) h) : mAW X ad cs ss pc lv (.int y :: .int x :: st) h := by
  obtain ⟨p, l, e, R, s, m, args, below, meth, c, Q, A, D, kA, nL⟩ := X
  exact fun H locs ls hP hD hS hl => lv_iushr O.1.1 O.1.2.1 d rfl (k H locs ls hP hD hS hl)
theorem ax_ladd (O : mO X ad own cc N Rm ln) {x y : Int64} (d : decode cc pc = .ok (.ladd, 1))  (k : mAW X ad cs ss (pc + 1) lv (.long (x + y) :: st) h) : mAW X ad cs ss pc lv (.long y :: .long x :: st) h := by
  obtain ⟨p, l, e, R, s, m, args, below, meth, c, Q, A, D, kA, nL⟩ := X
  exact fun H locs ls hP hD hS hl => lv_ladd O.1.1 O.1.2.1 d (k H locs ls hP hD hS hl)
theorem ax_lsub (O : mO X ad own cc N Rm ln) {x y : Int64} (d : decode cc pc = .ok (.lsub, 1))  (k : mAW X ad cs ss (pc + 1) lv (.long (x - y) :: st) h) : mAW X ad cs ss pc lv (.long y :: .long x :: st) h := by
  obtain ⟨p, l, e, R, s, m, args, below, meth, c, Q, A, D, kA, nL⟩ := X
  exact fun H locs ls hP hD hS hl => lv_lsub O.1.1 O.1.2.1 d (k H locs ls hP hD hS hl)
theorem ax_lmul (O : mO X ad own cc N Rm ln) {x y : Int64} (d : decode cc pc = .ok (.lmul, 1))  (k : mAW X ad cs ss (pc + 1) lv (.long (x * y) :: st) h) : mAW X ad cs ss pc lv (.long y :: .long x :: st) h := by
  obtain ⟨p, l, e, R, s, m, args, below, meth, c, Q, A, D, kA, nL⟩ := X
  exact fun H locs ls hP hD hS hl => lv_lmul O.1.1 O.1.2.1 d (k H locs ls hP hD hS hl)
theorem ax_land (O : mO X ad own cc N Rm ln) {x y : Int64} (d : decode cc pc = .ok (.land, 1))  (k : mAW X ad cs ss (pc + 1) lv (.long (x &&& y) :: st) h) : mAW X ad cs ss pc lv (.long y :: .long x :: st) h := by
  obtain ⟨p, l, e, R, s, m, args, below, meth, c, Q, A, D, kA, nL⟩ := X
  exact fun H locs ls hP hD hS hl => lv_land O.1.1 O.1.2.1 d (k H locs ls hP hD hS hl)
theorem ax_lor (O : mO X ad own cc N Rm ln) {x y : Int64} (d : decode cc pc = .ok (.lor, 1))  (k : mAW X ad cs ss (pc + 1) lv (.long (x ||| y) :: st) h) : mAW X ad cs ss pc lv (.long y :: .long x :: st) h := by
  obtain ⟨p, l, e, R, s, m, args, below, meth, c, Q, A, D, kA, nL⟩ := X
  exact fun H locs ls hP hD hS hl => lv_lor O.1.1 O.1.2.1 d (k H locs ls hP hD hS hl)
theorem ax_lxor (O : mO X ad own cc N Rm ln) {x y : Int64} (d : decode cc pc = .ok (.lxor, 1))  (k : mAW X ad cs ss (pc + 1) lv (.long (x ^^^ y) :: st) h) : mAW X ad cs ss pc lv (.long y :: .long x :: st) h := by
  obtain ⟨p, l, e, R, s, m, args, below, meth, c, Q, A, D, kA, nL⟩ := X
  exact fun H locs ls hP hD hS hl => lv_lxor O.1.1 O.1.2.1 d (k H locs ls hP hD hS hl)
theorem ax_ldiv (O : mO X ad own cc N Rm ln) {x y : Int64} (d : decode cc pc = .ok (.ldiv, 1)) (hne : ¬ y = 0) (k : mAW X ad cs ss (pc + 1) lv (.long (x / y) :: st) h) : mAW X ad cs ss pc lv (.long y :: .long x :: st) h := by
  obtain ⟨p, l, e, R, s, m, args, below, meth, c, Q, A, D, kA, nL⟩ := X
  exact fun H locs ls hP hD hS hl => lv_ldiv O.1.1 O.1.2.1 d hne (k H locs ls hP hD hS hl)
theorem ax_lrem (O : mO X ad own cc N Rm ln) {x y : Int64} (d : decode cc pc = .ok (.lrem, 1)) (hne : ¬ y = 0) (k : mAW X ad cs ss (pc + 1) lv (.long (x - x / y * y) :: st) h) : mAW X ad cs ss pc lv (.long y :: .long x :: st) h := by
  obtain ⟨p, l, e, R, s, m, args, below, meth, c, Q, A, D, kA, nL⟩ := X
  exact fun H locs ls hP hD hS hl => lv_lrem O.1.1 O.1.2.1 d hne (k H locs ls hP hD hS hl)
theorem ax_lshr (O : mO X ad own cc N Rm ln) {x : Int64} {y : Int32} (d : decode cc pc = .ok (.lshr, 1))  (k : mAW X ad cs ss (pc + 1) lv (.long (x >>> (y.toInt64 &&& 63)) :: st) h) : mAW X ad cs ss pc lv (.int y :: .long x :: st) h := by
  obtain ⟨p, l, e, R, s, m, args, below, meth, c, Q, A, D, kA, nL⟩ := X
  exact fun H locs ls hP hD hS hl => lv_lshr O.1.1 O.1.2.1 d rfl (k H locs ls hP hD hS hl)
theorem ax_lshl (O : mO X ad own cc N Rm ln) {x : Int64} {y : Int32} (d : decode cc pc = .ok (.lshl, 1))  (k : mAW X ad cs ss (pc + 1) lv (.long (x <<< (y.toInt64 &&& 63)) :: st) h) : mAW X ad cs ss pc lv (.int y :: .long x :: st) h := by
  obtain ⟨p, l, e, R, s, m, args, below, meth, c, Q, A, D, kA, nL⟩ := X
  exact fun H locs ls hP hD hS hl => lv_lshl O.1.1 O.1.2.1 d rfl (k H locs ls hP hD hS hl)
theorem ax_lushr (O : mO X ad own cc N Rm ln) {x : Int64} {y : Int32} (d : decode cc pc = .ok (.lushr, 1))  (k : mAW X ad cs ss (pc + 1) lv (.long (x.toUInt64 >>> (y.toInt64.toUInt64 &&& Int64.toUInt64 63)).toInt64 :: st) h) : mAW X ad cs ss pc lv (.int y :: .long x :: st) h := by
  obtain ⟨p, l, e, R, s, m, args, below, meth, c, Q, A, D, kA, nL⟩ := X
  exact fun H locs ls hP hD hS hl => lv_lushr O.1.1 O.1.2.1 d rfl (k H locs ls hP hD hS hl)
theorem ax_lcmp (O : mO X ad own cc N Rm ln) {x y : Int64} (d : decode cc pc = .ok (.lcmp, 1))  (k : mAW X ad cs ss (pc + 1) lv (.int (lg_cmp x y) :: st) h) : mAW X ad cs ss pc lv (.long y :: .long x :: st) h := by
  obtain ⟨p, l, e, R, s, m, args, below, meth, c, Q, A, D, kA, nL⟩ := X
  exact fun H locs ls hP hD hS hl => W.lcmp O.1.1 O.1.2.1 d (k H locs ls hP hD hS hl)
theorem ax_i2l (O : mO X ad own cc N Rm ln) {x : Int32} (d : decode cc pc = .ok (.i2l, 1))  (k : mAW X ad cs ss (pc + 1) lv (.long x.toInt64 :: st) h) : mAW X ad cs ss pc lv (.int x :: st) h := by
  obtain ⟨p, l, e, R, s, m, args, below, meth, c, Q, A, D, kA, nL⟩ := X
  exact fun H locs ls hP hD hS hl => lv_i2l O.1.1 O.1.2.1 d rfl (k H locs ls hP hD hS hl)
theorem ax_l2i (O : mO X ad own cc N Rm ln) {x : Int64} (d : decode cc pc = .ok (.l2i, 1))  (k : mAW X ad cs ss (pc + 1) lv (.int x.toInt32 :: st) h) : mAW X ad cs ss pc lv (.long x :: st) h := by
  obtain ⟨p, l, e, R, s, m, args, below, meth, c, Q, A, D, kA, nL⟩ := X
  exact fun H locs ls hP hD hS hl => lv_l2i O.1.1 O.1.2.1 d rfl (k H locs ls hP hD hS hl)
theorem ax_i2b (O : mO X ad own cc N Rm ln) {x : Int32} (d : decode cc pc = .ok (.i2b, 1))  (k : mAW X ad cs ss (pc + 1) lv (.int x.toInt8.toInt32 :: st) h) : mAW X ad cs ss pc lv (.int x :: st) h := by
  obtain ⟨p, l, e, R, s, m, args, below, meth, c, Q, A, D, kA, nL⟩ := X
  exact fun H locs ls hP hD hS hl => lv_i2b O.1.1 O.1.2.1 d rfl (k H locs ls hP hD hS hl)
theorem ax_i2c (O : mO X ad own cc N Rm ln) {x : Int32} (d : decode cc pc = .ok (.i2c, 1))  (k : mAW X ad cs ss (pc + 1) lv (.int (x.toUInt32 % 65536).toInt32 :: st) h) : mAW X ad cs ss pc lv (.int x :: st) h := by
  obtain ⟨p, l, e, R, s, m, args, below, meth, c, Q, A, D, kA, nL⟩ := X
  exact fun H locs ls hP hD hS hl => lv_i2c O.1.1 O.1.2.1 d rfl (k H locs ls hP hD hS hl)
theorem ax_dup (O : mO X ad own cc N Rm ln) {v : Value} (d : decode cc pc = .ok (.dup, 1)) (hv : v.category = 1) (k : mAW X ad cs ss (pc + 1) lv (v :: v :: st) h) : mAW X ad cs ss pc lv (v :: st) h := by
  obtain ⟨p, l, e, R, s, m, args, below, meth, c, Q, A, D, kA, nL⟩ := X
  exact fun H locs ls hP hD hS hl => lv_dup O.1.1 O.1.2.1 d ((mv_cat ad v).trans hv) (k H locs ls hP hD hS hl)
theorem ax_pop (O : mO X ad own cc N Rm ln) {v : Value} (d : decode cc pc = .ok (.pop, 1)) (hv : v.category = 1) (k : mAW X ad cs ss (pc + 1) lv (st) h) : mAW X ad cs ss pc lv (v :: st) h := by
  obtain ⟨p, l, e, R, s, m, args, below, meth, c, Q, A, D, kA, nL⟩ := X
  exact fun H locs ls hP hD hS hl => lv_pop O.1.1 O.1.2.1 d ((mv_cat ad v).trans hv) (k H locs ls hP hD hS hl)
theorem ax_pop2 (O : mO X ad own cc N Rm ln) {v : Value} (d : decode cc pc = .ok (.pop2, 1)) (hv : v.category = 2) (k : mAW X ad cs ss (pc + 1) lv (st) h) : mAW X ad cs ss pc lv (v :: st) h := by
  obtain ⟨p, l, e, R, s, m, args, below, meth, c, Q, A, D, kA, nL⟩ := X
  exact fun H locs ls hP hD hS hl => lv_pop2_2 O.1.1 O.1.2.1 d ((mv_cat ad v).trans hv) (k H locs ls hP hD hS hl)
theorem ax_dup_x1 (O : mO X ad own cc N Rm ln) {v w : Value} (d : decode cc pc = .ok (.dup_x1, 1)) (hv : v.category = 1) (hw : w.category = 1) (k : mAW X ad cs ss (pc + 1) lv (v :: w :: v :: st) h) : mAW X ad cs ss pc lv (v :: w :: st) h := by
  obtain ⟨p, l, e, R, s, m, args, below, meth, c, Q, A, D, kA, nL⟩ := X
  exact fun H locs ls hP hD hS hl => lv_dup_x1 O.1.1 O.1.2.1 d ((mv_cat ad v).trans hv) ((mv_cat ad w).trans hw) (k H locs ls hP hD hS hl)
theorem ax_dup_x2 (O : mO X ad own cc N Rm ln) {v w z : Value} (d : decode cc pc = .ok (.dup_x2, 1)) (hv : v.category = 1) (hw : w.category = 1) (hz : z.category = 1) (k : mAW X ad cs ss (pc + 1) lv (v :: w :: z :: v :: st) h) : mAW X ad cs ss pc lv (v :: w :: z :: st) h := by
  obtain ⟨p, l, e, R, s, m, args, below, meth, c, Q, A, D, kA, nL⟩ := X
  exact fun H locs ls hP hD hS hl => lv_dup_x2 O.1.1 O.1.2.1 d ((mv_cat ad v).trans hv) ((mv_cat ad w).trans hw) ((mv_cat ad z).trans hz) (k H locs ls hP hD hS hl)
theorem ax_dup2 (O : mO X ad own cc N Rm ln) {v w : Value} (d : decode cc pc = .ok (.dup2, 1)) (hv : v.category = 1) (hw : w.category = 1) (k : mAW X ad cs ss (pc + 1) lv (v :: w :: v :: w :: st) h) : mAW X ad cs ss pc lv (v :: w :: st) h := by
  obtain ⟨p, l, e, R, s, m, args, below, meth, c, Q, A, D, kA, nL⟩ := X
  exact fun H locs ls hP hD hS hl => lv_dup2_11 O.1.1 O.1.2.1 d ((mv_cat ad v).trans hv) ((mv_cat ad w).trans hw) (k H locs ls hP hD hS hl)
theorem ax_dup2l (O : mO X ad own cc N Rm ln) {v : Value} (d : decode cc pc = .ok (.dup2, 1)) (hv : v.category = 2) (k : mAW X ad cs ss (pc + 1) lv (v :: v :: st) h) : mAW X ad cs ss pc lv (v :: st) h := by
  obtain ⟨p, l, e, R, s, m, args, below, meth, c, Q, A, D, kA, nL⟩ := X
  exact fun H locs ls hP hD hS hl => lv_dup2_2 O.1.1 O.1.2.1 d ((mv_cat ad v).trans hv) (k H locs ls hP hD hS hl)
theorem ax_dup2_x1l (O : mO X ad own cc N Rm ln) {v w : Value} (d : decode cc pc = .ok (.dup2_x1, 1)) (hv : v.category = 2) (hw : w.category = 1) (k : mAW X ad cs ss (pc + 1) lv (v :: w :: v :: st) h) : mAW X ad cs ss pc lv (v :: w :: st) h := by
  obtain ⟨p, l, e, R, s, m, args, below, meth, c, Q, A, D, kA, nL⟩ := X
  exact fun H locs ls hP hD hS hl => lv_dup2_x1_2 O.1.1 O.1.2.1 d ((mv_cat ad v).trans hv) ((mv_cat ad w).trans hw) (k H locs ls hP hD hS hl)
theorem ax_if_eq (O : mO X ad own cc N Rm ln) {x : Int32} {off : Int} {tgt : Nat} (d : decode cc pc = .ok (.ifCond .eq off, 3)) (ht : (pc : Int) + off = (tgt : Int)) (kt : x = 0 → mAW X ad cs ss tgt lv st h) (kf : ¬ x = 0 → mAW X ad cs ss (pc + 3) lv st h) : mAW X ad cs ss pc lv (.int x :: st) h := by
  obtain ⟨p, l, e, R, s, m, args, below, meth, c, Q, A, D, kA, nL⟩ := X
  exact fun H locs ls hP hD hS hl => lv_if_eq O.1.1 O.1.2.1 d ht (fun q => kt q H locs ls hP hD hS hl) (fun q => kf q H locs ls hP hD hS hl)
theorem ax_icmp_eq (O : mO X ad own cc N Rm ln) {x y : Int32} {off : Int} {tgt : Nat} (d : decode cc pc = .ok (.if_icmp .eq off, 3)) (ht : (pc : Int) + off = (tgt : Int)) (kt : x = y → mAW X ad cs ss tgt lv st h) (kf : ¬ x = y → mAW X ad cs ss (pc + 3) lv st h) : mAW X ad cs ss pc lv (.int y :: .int x :: st) h := by
  obtain ⟨p, l, e, R, s, m, args, below, meth, c, Q, A, D, kA, nL⟩ := X
  exact fun H locs ls hP hD hS hl => lv_icmp_eq O.1.1 O.1.2.1 d ht (fun q => kt q H locs ls hP hD hS hl) (fun q => kf q H locs ls hP hD hS hl)
theorem ax_if_ne (O : mO X ad own cc N Rm ln) {x : Int32} {off : Int} {tgt : Nat} (d : decode cc pc = .ok (.ifCond .ne off, 3)) (ht : (pc : Int) + off = (tgt : Int)) (kt : ¬ x = 0 → mAW X ad cs ss tgt lv st h) (kf : x = 0 → mAW X ad cs ss (pc + 3) lv st h) : mAW X ad cs ss pc lv (.int x :: st) h := by
  obtain ⟨p, l, e, R, s, m, args, below, meth, c, Q, A, D, kA, nL⟩ := X
  exact fun H locs ls hP hD hS hl => lv_if_ne O.1.1 O.1.2.1 d ht (fun q => kt q H locs ls hP hD hS hl) (fun q => kf q H locs ls hP hD hS hl)
theorem ax_icmp_ne (O : mO X ad own cc N Rm ln) {x y : Int32} {off : Int} {tgt : Nat} (d : decode cc pc = .ok (.if_icmp .ne off, 3)) (ht : (pc : Int) + off = (tgt : Int)) (kt : ¬ x = y → mAW X ad cs ss tgt lv st h) (kf : x = y → mAW X ad cs ss (pc + 3) lv st h) : mAW X ad cs ss pc lv (.int y :: .int x :: st) h := by
  obtain ⟨p, l, e, R, s, m, args, below, meth, c, Q, A, D, kA, nL⟩ := X
  exact fun H locs ls hP hD hS hl => lv_icmp_ne O.1.1 O.1.2.1 d ht (fun q => kt q H locs ls hP hD hS hl) (fun q => kf q H locs ls hP hD hS hl)
theorem ax_if_lt (O : mO X ad own cc N Rm ln) {x : Int32} {off : Int} {tgt : Nat} (d : decode cc pc = .ok (.ifCond .lt off, 3)) (ht : (pc : Int) + off = (tgt : Int)) (kt : x < 0 → mAW X ad cs ss tgt lv st h) (kf : ¬ x < 0 → mAW X ad cs ss (pc + 3) lv st h) : mAW X ad cs ss pc lv (.int x :: st) h := by
  obtain ⟨p, l, e, R, s, m, args, below, meth, c, Q, A, D, kA, nL⟩ := X
  exact fun H locs ls hP hD hS hl => lv_if_lt O.1.1 O.1.2.1 d ht (fun q => kt q H locs ls hP hD hS hl) (fun q => kf q H locs ls hP hD hS hl)
theorem ax_icmp_lt (O : mO X ad own cc N Rm ln) {x y : Int32} {off : Int} {tgt : Nat} (d : decode cc pc = .ok (.if_icmp .lt off, 3)) (ht : (pc : Int) + off = (tgt : Int)) (kt : x < y → mAW X ad cs ss tgt lv st h) (kf : ¬ x < y → mAW X ad cs ss (pc + 3) lv st h) : mAW X ad cs ss pc lv (.int y :: .int x :: st) h := by
  obtain ⟨p, l, e, R, s, m, args, below, meth, c, Q, A, D, kA, nL⟩ := X
  exact fun H locs ls hP hD hS hl => lv_icmp_lt O.1.1 O.1.2.1 d ht (fun q => kt q H locs ls hP hD hS hl) (fun q => kf q H locs ls hP hD hS hl)
theorem ax_if_ge (O : mO X ad own cc N Rm ln) {x : Int32} {off : Int} {tgt : Nat} (d : decode cc pc = .ok (.ifCond .ge off, 3)) (ht : (pc : Int) + off = (tgt : Int)) (kt : 0 ≤ x → mAW X ad cs ss tgt lv st h) (kf : ¬ 0 ≤ x → mAW X ad cs ss (pc + 3) lv st h) : mAW X ad cs ss pc lv (.int x :: st) h := by
  obtain ⟨p, l, e, R, s, m, args, below, meth, c, Q, A, D, kA, nL⟩ := X
  exact fun H locs ls hP hD hS hl => lv_if_ge O.1.1 O.1.2.1 d ht (fun q => kt q H locs ls hP hD hS hl) (fun q => kf q H locs ls hP hD hS hl)
theorem ax_icmp_ge (O : mO X ad own cc N Rm ln) {x y : Int32} {off : Int} {tgt : Nat} (d : decode cc pc = .ok (.if_icmp .ge off, 3)) (ht : (pc : Int) + off = (tgt : Int)) (kt : y ≤ x → mAW X ad cs ss tgt lv st h) (kf : ¬ y ≤ x → mAW X ad cs ss (pc + 3) lv st h) : mAW X ad cs ss pc lv (.int y :: .int x :: st) h := by
  obtain ⟨p, l, e, R, s, m, args, below, meth, c, Q, A, D, kA, nL⟩ := X
  exact fun H locs ls hP hD hS hl => lv_icmp_ge O.1.1 O.1.2.1 d ht (fun q => kt q H locs ls hP hD hS hl) (fun q => kf q H locs ls hP hD hS hl)
theorem ax_if_gt (O : mO X ad own cc N Rm ln) {x : Int32} {off : Int} {tgt : Nat} (d : decode cc pc = .ok (.ifCond .gt off, 3)) (ht : (pc : Int) + off = (tgt : Int)) (kt : 0 < x → mAW X ad cs ss tgt lv st h) (kf : ¬ 0 < x → mAW X ad cs ss (pc + 3) lv st h) : mAW X ad cs ss pc lv (.int x :: st) h := by
  obtain ⟨p, l, e, R, s, m, args, below, meth, c, Q, A, D, kA, nL⟩ := X
  exact fun H locs ls hP hD hS hl => lv_if_gt O.1.1 O.1.2.1 d ht (fun q => kt q H locs ls hP hD hS hl) (fun q => kf q H locs ls hP hD hS hl)
theorem ax_icmp_gt (O : mO X ad own cc N Rm ln) {x y : Int32} {off : Int} {tgt : Nat} (d : decode cc pc = .ok (.if_icmp .gt off, 3)) (ht : (pc : Int) + off = (tgt : Int)) (kt : y < x → mAW X ad cs ss tgt lv st h) (kf : ¬ y < x → mAW X ad cs ss (pc + 3) lv st h) : mAW X ad cs ss pc lv (.int y :: .int x :: st) h := by
  obtain ⟨p, l, e, R, s, m, args, below, meth, c, Q, A, D, kA, nL⟩ := X
  exact fun H locs ls hP hD hS hl => lv_icmp_gt O.1.1 O.1.2.1 d ht (fun q => kt q H locs ls hP hD hS hl) (fun q => kf q H locs ls hP hD hS hl)
theorem ax_if_le (O : mO X ad own cc N Rm ln) {x : Int32} {off : Int} {tgt : Nat} (d : decode cc pc = .ok (.ifCond .le off, 3)) (ht : (pc : Int) + off = (tgt : Int)) (kt : x ≤ 0 → mAW X ad cs ss tgt lv st h) (kf : ¬ x ≤ 0 → mAW X ad cs ss (pc + 3) lv st h) : mAW X ad cs ss pc lv (.int x :: st) h := by
  obtain ⟨p, l, e, R, s, m, args, below, meth, c, Q, A, D, kA, nL⟩ := X
  exact fun H locs ls hP hD hS hl => lv_if_le O.1.1 O.1.2.1 d ht (fun q => kt q H locs ls hP hD hS hl) (fun q => kf q H locs ls hP hD hS hl)
theorem ax_icmp_le (O : mO X ad own cc N Rm ln) {x y : Int32} {off : Int} {tgt : Nat} (d : decode cc pc = .ok (.if_icmp .le off, 3)) (ht : (pc : Int) + off = (tgt : Int)) (kt : x ≤ y → mAW X ad cs ss tgt lv st h) (kf : ¬ x ≤ y → mAW X ad cs ss (pc + 3) lv st h) : mAW X ad cs ss pc lv (.int y :: .int x :: st) h := by
  obtain ⟨p, l, e, R, s, m, args, below, meth, c, Q, A, D, kA, nL⟩ := X
  exact fun H locs ls hP hD hS hl => lv_icmp_le O.1.1 O.1.2.1 d ht (fun q => kt q H locs ls hP hD hS hl) (fun q => kf q H locs ls hP hD hS hl)
theorem ax_goto (O : mO X ad own cc N Rm ln) {off : Int} {tgt : Nat} (d : decode cc pc = .ok (.goto off, 3)) (ht : (pc : Int) + off = (tgt : Int)) (k : mAW X ad cs ss tgt lv st h) : mAW X ad cs ss pc lv st h := by
  obtain ⟨p, l, e, R, s, m, args, below, meth, c, Q, A, D, kA, nL⟩ := X
  exact fun H locs ls hP hD hS hl => lv_goto O.1.1 O.1.2.1 d ht (k H locs ls hP hD hS hl)
theorem ax_tableOut (O : mO X ad own cc N Rm ln) {dflt lo hi : Int} {offs : Array Int} {len : Nat} {x : Int32} {tgt : Nat} (d : decode cc pc = .ok (.tableswitch dflt lo hi offs, len)) (hq : x.toInt < lo ∨ hi < x.toInt) (ht : (pc : Int) + dflt = (tgt : Int)) (k : mAW X ad cs ss tgt lv st h) : mAW X ad cs ss pc lv (.int x :: st) h := by
  obtain ⟨p, l, e, R, s, m, args, below, meth, c, Q, A, D, kA, nL⟩ := X
  exact fun H locs ls hP hD hS hl => lv_tableOut O.1.1 O.1.2.1 d hq ht (k H locs ls hP hD hS hl)
theorem ax_tableIn (O : mO X ad own cc N Rm ln) {dflt lo hi : Int} {offs : Array Int} {len : Nat} {x : Int32} {off : Int} {tgt : Nat} (d : decode cc pc = .ok (.tableswitch dflt lo hi offs, len)) (h1 : ¬ x.toInt < lo) (h2 : ¬ hi < x.toInt) (ho : offs[(x.toInt - lo).toNat]? = some off) (ht : (pc : Int) + off = (tgt : Int)) (k : mAW X ad cs ss tgt lv st h) : mAW X ad cs ss pc lv (.int x :: st) h := by
  obtain ⟨p, l, e, R, s, m, args, below, meth, c, Q, A, D, kA, nL⟩ := X
  exact fun H locs ls hP hD hS hl => lv_tableIn O.1.1 O.1.2.1 d h1 h2 ho ht (k H locs ls hP hD hS hl)
theorem ax_lookup (O : mO X ad own cc N Rm ln) {dflt : Int} {ps : Array (Int × Int)} {len : Nat} {x : Int32} {off : Int} {tgt : Nat} (d : decode cc pc = .ok (.lookupswitch dflt ps, len)) (hp : (ps.toList.zip (ps.toList.drop 1)).all (fun (a, next) => a.1 < next.1) = true) (ho : Op.lookupswitch.offset ps.toList dflt x.toInt = off) (ht : (pc : Int) + off = (tgt : Int)) (k : mAW X ad cs ss tgt lv st h) : mAW X ad cs ss pc lv (.int x :: st) h := by
  obtain ⟨p, l, e, R, s, m, args, below, meth, c, Q, A, D, kA, nL⟩ := X
  exact fun H locs ls hP hD hS hl => lv_lookup O.1.1 O.1.2.1 d hp ho ht (k H locs ls hP hD hS hl)
theorem ax_sub (ks : List Nat) (he : lv_pick lv ks = lv') (k : mAW X ad cs ss pc lv' st h) : mAW X ad cs ss pc lv st h := by
  obtain ⟨p, l, e, R, s, m, args, below, meth, c, Q, A, D, kA, nL⟩ := X
  exact fun H locs ls hP hD hS hl => k H locs ls hP hD hS (lv_sub hl ks (ml_pick he))
theorem ax_get (O : mO X ad own cc N Rm ln) {ix ci kf i : Nat} (hF : mFg own ix ci kf) {fs : List Value} {v : Value} (hi : h[i]? = some (.inr (ci, fs))) (hv : fs[kf]? = some v) (d : decode cc pc = .ok (.getfield ix, 3)) (k : mAW X ad cs ss (pc + 3) lv (v :: st) h) : mAW X ad cs ss pc lv (.ref i :: st) h := by
  obtain ⟨p, l, e, R, s, m, args, below, meth, c, Q, A, D, kA, nL⟩ := X
  obtain ⟨C, T, Nf, hc, hk, hin, hw⟩ := hF
  intro H locs ls hP hD hS hl
  have hK : va_K D classes [] s := mK0 O.2.2.1
  have hv' : (fs.map (mv ad))[kf]? = some (mv ad v) := by simp [hv]
  rcases hw with hw | ⟨host, hw⟩
  · exact va_get (v := mv ad v) O.1.1 O.1.2.1 O.2.1 hin O.1.2.2.2.1 hK hP i (mW_get hi) hc kf hk (O.2.1 _ hw) (fun _ h => h) hv' d (k H locs ls hP hD hS hl)
  · exact va_getN (v := mv ad v) O.1.1 O.1.2.1 O.2.1 hin O.1.2.2.2.1 hK hP i (mW_get hi) hc kf hk (va_Nw.use rfl (O.2.2.1.2.2 _ hw)) (fun _ h => h) hv' d (k H locs ls hP hD hS hl)
theorem mW_put {ad : Nat → Nat} {kA : FieldType → ClassId} {h h' : mH} {i ci kf : Nat} {fs : List Value} {v : Value} (he : h' = h.set i (.inr (ci, fs.set kf v))) : (mW ad kA h).set i (ad i, .inr (ci, (fs.map (mv ad)).set kf (mv ad v))) = mW ad kA h' := by
  subst he
  rw [← mW_set]
  simp only [me, List.map_set]
theorem ax_put (O : mO X ad own cc N Rm ln) {ix ci kf i : Nat} {ty : FieldType} (hF : mFp own ix ci kf ty false) {fs : List Value} {v : Value} {h' : mH} (hi : h[i]? = some (.inr (ci, fs))) (hlen : kf < fs.length) (he : h' = h.set i (.inr (ci, fs.set kf v))) (hn : narrow ty (mv ad v) = mv ad v) (hfit : fits ty (mv ad v) = true) (d : decode cc pc = .ok (.putfield ix, 3)) (k : mAW X ad cs ss (pc + 3) lv st h') : mAW X ad cs ss pc lv (v :: .ref i :: st) h := by
  obtain ⟨p, l, e, R, s, m, args, below, meth, c, Q, A, D, kA, nL⟩ := X
  obtain ⟨C, T, Nf, ty0, hc, hk, hin, hw, hty, hnm, hfin, hty0, -⟩ := hF
  intro H locs ls hP hD hS hl
  have hK : va_K D classes [] s := mK0 O.2.2.1
  have hl' : kf < (fs.map (mv ad)).length := by simpa using hlen
  have hd : parseFieldDescriptor (T kf).2.2.1 = some ty := by rw [hty kf hk, hty0]
  have he' : (mW ad kA h).set i (ad i, .inr (ci, (fs.map (mv ad)).set kf (mv ad v))) = mW ad kA h' := mW_put he
  rcases hw with hw | ⟨host, hw⟩
  · exact va_put (v := mv ad v) O.1.1 O.1.2.1 O.2.1 hin ty0 hty hnm O.1.2.2.2.1 hK hP hD hS i (mW_get hi) hc kf hk (O.2.1 _ hw) (fun _ h => h) hfin hd hn hfit hl' d (fun H1 locs1 hP1 hD1 hS1 => k H1 locs1 ls (he' ▸ hP1) (he' ▸ hD1) hS1 hl)
  · exact va_putN (v := mv ad v) O.1.1 O.1.2.1 O.2.1 hin ty0 hty hnm O.1.2.2.2.1 hK hP hD hS i (mW_get hi) hc kf hk (va_Nw.use rfl (O.2.2.1.2.2 _ hw)) (fun _ h => h) hfin hd hn hfit hl' d (fun H1 locs1 hP1 hD1 hS1 => k H1 locs1 ls (he' ▸ hP1) (he' ▸ hD1) hS1 hl)
theorem ax_iald (O : mO X ad own cc N Rm ln) {a n : Nat} {f : Nat → Int32} {j v : Int32} (hi : h[a]? = some (.inl (.int, (n, .inl f)))) (hin : vp_in j n) (hv : f j.toNatClampNeg = v) (d : decode cc pc = .ok (.iaload, 1)) (k : mAW X ad cs ss (pc + 1) lv (.int v :: st) h) : mAW X ad cs ss pc lv (.int j :: .ref a :: st) h := by
  obtain ⟨p, l, e, R, s, m, args, below, meth, c, Q, A, D, kA, nL⟩ := X
  subst hv
  exact fun H locs ls hP hD hS hl => va_iald O.1.1 O.1.2.1 (mKt O.2.2.1 (ty := .int) (by decide)) hP a 0 (mW_get hi) rfl hin d (k H locs ls hP hD hS hl)
theorem ax_bald (O : mO X ad own cc N Rm ln) {a n : Nat} {f : Nat → Int32} {j v : Int32} (hi : h[a]? = some (.inl (.byte, (n, .inl f)))) (hin : vp_in j n) (hv : f j.toNatClampNeg = v) (d : decode cc pc = .ok (.baload, 1)) (k : mAW X ad cs ss (pc + 1) lv (.int v :: st) h) : mAW X ad cs ss pc lv (.int j :: .ref a :: st) h := by
  obtain ⟨p, l, e, R, s, m, args, below, meth, c, Q, A, D, kA, nL⟩ := X
  subst hv
  exact fun H locs ls hP hD hS hl => va_bald O.1.1 O.1.2.1 (mKt O.2.2.1 (ty := .byte) (by decide)) hP a 0 (mW_get hi) rfl hin d (k H locs ls hP hD hS hl)
theorem ax_iast (O : mO X ad own cc N Rm ln) {a n : Nat} {f : Nat → Int32} {j x : Int32} {h' : mH} (hi : h[a]? = some (.inl (.int, (n, .inl f)))) (hin : vp_in j n) (he : h' = h.set a (.inl (.int, (n, .inl (upd f j.toNatClampNeg x))))) (d : decode cc pc = .ok (.iastore, 1)) (k : mAW X ad cs ss (pc + 1) lv st h') : mAW X ad cs ss pc lv (.int x :: .int j :: .ref a :: st) h := by
  obtain ⟨p, l, e, R, s, m, args, below, meth, c, Q, A, D, kA, nL⟩ := X
  have he' : (mW ad kA h).set a (ad a, .inl (kA .int, (n, .inl (upd f j.toNatClampNeg x)))) = mW ad kA h' := by rw [he, ← mW_set]; rfl
  exact fun H locs ls hP hD hS hl => va_iast O.1.1 O.1.2.1 (mKt O.2.2.1 (ty := .int) (by decide)) hP hD hS a 0 (mW_get hi) rfl hin d (fun H1 locs1 hP1 hD1 hS1 => k H1 locs1 ls (he' ▸ hP1) (he' ▸ hD1) hS1 hl)
theorem ax_bast (O : mO X ad own cc N Rm ln) {a n : Nat} {f : Nat → Int32} {j x : Int32} {h' : mH} (hi : h[a]? = some (.inl (.byte, (n, .inl f)))) (hin : vp_in j n) (he : h' = h.set a (.inl (.byte, (n, .inl (upd f j.toNatClampNeg x.toInt8.toInt32))))) (d : decode cc pc = .ok (.bastore, 1)) (k : mAW X ad cs ss (pc + 1) lv st h') : mAW X ad cs ss pc lv (.int x :: .int j :: .ref a :: st) h := by
  obtain ⟨p, l, e, R, s, m, args, below, meth, c, Q, A, D, kA, nL⟩ := X
  have he' : (mW ad kA h).set a (ad a, .inl (kA .byte, (n, .inl (upd f j.toNatClampNeg (vp_nar .byte x))))) = mW ad kA h' := by rw [vp_nar_byte, he, ← mW_set]; rfl
  exact fun H locs ls hP hD hS hl => va_bast O.1.1 O.1.2.1 (mKt O.2.2.1 (ty := .byte) (by decide)) hP hD hS a 0 (mW_get hi) rfl hin d (fun H1 locs1 hP1 hD1 hS1 => k H1 locs1 ls (he' ▸ hP1) (he' ▸ hD1) hS1 hl)
theorem ma_len (ad : Nat → Nat) (x : vp_A) : (ma ad x).1 = x.1 := by
  obtain ⟨n, f | f | f | f | f⟩ := x <;> rfl
theorem ax_alen (O : mO X ad own cc N Rm ln) {a : Nat} {ty : FieldType} {x : vp_A} (hty : ty ∈ mTys) {v : Int32} (hi : h[a]? = some (.inl (ty, x))) (hv : nI x.1 = v) (d : decode cc pc = .ok (.arraylength, 1)) (k : mAW X ad cs ss (pc + 1) lv (.int v :: st) h) : mAW X ad cs ss pc lv (.ref a :: st) h := by
  obtain ⟨p, l, e, R, s, m, args, below, meth, c, Q, A, D, kA, nL⟩ := X
  subst hv
  exact fun H locs ls hP hD hS hl => va_alen O.1.1 O.1.2.1 (mKt O.2.2.1 hty) hP a 0 (mW_get hi) rfl (v := nI x.1) (by rw [ma_len]; rfl) d (k H locs ls hP hD hS hl)
theorem ax_aald (O : mO X ad own cc N Rm ln) {a n r : Nat} {C : String} {f : Nat → Option Nat} {j : Int32} (hty : .object C ∈ mTys) (hi : h[a]? = some (.inl (.object C, (n, .inr (.inr (.inr (.inr f))))))) (hin : vp_in j n) (hr : f j.toNatClampNeg = some r) (d : decode cc pc = .ok (.aaload, 1)) (k : mAW X ad cs ss (pc + 1) lv (.ref r :: st) h) : mAW X ad cs ss pc lv (.int j :: .ref a :: st) h := by
  obtain ⟨p, l, e, R, s, m, args, below, meth, c, Q, A, D, kA, nL⟩ := X
  intro H locs ls hP hD hS hl
  refine va_aldq (f := mg ad f) O.1.1 O.1.2.1 (mKt O.2.2.1 hty) hP a 0 (mW_get hi) rfl hin d ?_
  rw [show mg ad f j.toNatClampNeg = some (ad r) by simp [mg, hr]]
  exact k H locs ls hP hD hS hl
/-- a static array's reference is the number 10000 + k -/
theorem ax_gets (O : mO X ad own cc N Rm ln) {ix : Nat} (k : Nat) {q : mSt} (hq : mSta[k]? = some q) (hw : Cond.fieldLink own ix q.1 q.2.1 q.2.2.1 ∈ mGood) (d : decode cc pc = .ok (.getstatic ix, 3)) (kk : mAW X ad cs ss (pc + 3) lv (.ref (10000 + k) :: st) h) : mAW X ad cs ss pc lv st h := by
  obtain ⟨p, l, e, R, s, m, args, below, meth, c, Q, A, D, kA, nL⟩ := X
  exact fun H locs ls hP hD hS hl => va_gets O.1.1 O.1.2.1 (O.2.2.2.1 k q hq).1 hS O.1.2.2.2.1 (O.2.1 _ hw) (fun _ h => h) d (kk H locs ls hP hD hS hl)
theorem ax_sti (O : mO X ad own cc N Rm ln) (k : Nat) {q : mSt} (hq : mSta[k]? = some q) (hty : q.2.2.2.1 = .int) {j v : Int32} (hin : vp_in j q.2.2.2.2.1) (hv : q.2.2.2.2.2 j.toNatClampNeg = v) (d : decode cc pc = .ok (.iaload, 1)) (kk : mAW X ad cs ss (pc + 1) lv (.int v :: st) h) : mAW X ad cs ss pc lv (.int j :: .ref (10000 + k) :: st) h := by
  obtain ⟨p, l, e, R, s, m, args, below, meth, c, Q, A, D, kA, nL⟩ := X
  subst hv
  have hT := (O.2.2.2.1 k q hq).2
  rw [hty] at hT
  exact fun H locs ls hP hD hS hl => va_ti O.1.1 O.1.2.1 hT hS hin rfl d (kk H locs ls hP hD hS hl)
theorem ax_stl (O : mO X ad own cc N Rm ln) (k : Nat) {q : mSt} (hq : mSta[k]? = some q) (d : decode cc pc = .ok (.arraylength, 1)) (kk : mAW X ad cs ss (pc + 1) lv (.int (nI q.2.2.2.2.1) :: st) h) : mAW X ad cs ss pc lv (.ref (10000 + k) :: st) h := by
  obtain ⟨p, l, e, R, s, m, args, below, meth, c, Q, A, D, kA, nL⟩ := X
  exact fun H locs ls hP hD hS hl => va_tlen O.1.1 O.1.2.1 (O.2.2.2.1 k q hq).2 hS rfl d (kk H locs ls hP hD hS hl)
theorem ax_ret (O : mO X ad own cc N Rm ln) {ty : FieldType} {v : Int32} (hE : mEnd X ad (some ty) (some (.int v)) h) (hn : narrow ty (.int v) = .int v) (d : decode cc pc = .ok (.ireturn, 1)) : mAW X ad 0 0 pc lv [.int v] h := by
  obtain ⟨p, l, e, R, s, m, args, below, meth, c, Q, A, D, kA, nL⟩ := X
  obtain ⟨hQ, hr⟩ := hE
  subst hQ
  exact fun H locs ls hP hD hS hl => W.zret O.1.1 O.1.2.1 hr hn (fun t ht hW => ⟨rfl, by rw [ht]; exact hP, hD, hS.F ht⟩) hS.2.2 d O.1.2.2.2.2.1
theorem ax_vret (O : mO X ad own cc N Rm ln) (hE : mEnd X ad none none h) (d : decode cc pc = .ok (.return_, 1)) : mAW X ad 0 0 pc lv [] h := by
  obtain ⟨p, l, e, R, s, m, args, below, meth, c, Q, A, D, kA, nL⟩ := X
  obtain ⟨hQ, hr⟩ := hE
  subst hQ
  exact fun H locs ls hP hD hS hl => W.vret O.1.1 O.1.2.1 hr (fun t ht hW => ⟨rfl, by rw [ht]; exact hP, hD, hS.F ht⟩) hS.2.2 d O.1.2.2.2.2.1
theorem ax_lret (O : mO X ad own cc N Rm ln) {v : Int64} (hE : mEnd X ad (some .long) (some (.long v)) h) (d : decode cc pc = .ok (.lreturn, 1)) : mAW X ad 0 0 pc lv [.long v] h := by
  obtain ⟨p, l, e, R, s, m, args, below, meth, c, Q, A, D, kA, nL⟩ := X
  obtain ⟨hQ, hr⟩ := hE
  subst hQ
  exact fun H locs ls hP hD hS hl => W.lret O.1.1 O.1.2.1 hr (fun t ht hW => ⟨rfl, by rw [ht]; exact hP, hD, hS.F ht⟩) hS.2.2 d O.1.2.2.2.2.1
theorem ax_aret (O : mO X ad own cc N Rm ln) {ty : FieldType} {v : Nat} (hty : (∃ n, ty = .object n) ∨ ∃ t, ty = .array t) (hE : mEnd X ad (some ty) (some (.ref v)) h) (d : decode cc pc = .ok (.areturn, 1)) : mAW X ad 0 0 pc lv [.ref v] h := by
  obtain ⟨p, l, e, R, s, m, args, below, meth, c, Q, A, D, kA, nL⟩ := X
  obtain ⟨hQ, hr⟩ := hE
  subst hQ
  exact fun H locs ls hP hD hS hl => W.aret (v := .ref (ad v)) O.1.1 O.1.2.1 hr hty (Or.inr ⟨_, rfl⟩) (fun t ht hW => ⟨rfl, by rw [ht]; exact hP, hD, hS.F ht⟩) hS.2.2 d O.1.2.2.2.2.1
end mRows
theorem mGoodIn (y : MethodName) (bytes : ByteArray) (maxL : Nat) (ret : Option FieldType) (h : Cond.code y bytes maxL ret ∈ mGood) : GoodIn mGood (Cond.code y bytes maxL ret :: mGood) := by
  intro w hw
  have hm : w ∈ mGood := by
    rcases List.mem_cons.mp hw with e | e
    · rw [e]; exact h
    · exact e
  exact ⟨hm, good_of_word (mGood_good w hm)⟩
theorem mPre_blind {D : va_G} {kA : FieldType → ClassId} {ad : Nat → Nat} {As : List Value} {h : mH} {sz : Nat} : FrameBlind (mPre D kA ad As h sz) := by
  intro a U g mk q
  obtain ⟨q0, q1, qP, qK, qT, qD⟩ := q
  exact ⟨q0, q1, qP, mK.same (u := U) (U := U.calling g mk a) rfl qK, mT.moved (u := U) (U := U.calling g mk a) (Vm.Alike.refl U.vm) qT, qD⟩
section mCalls
variable {X : mX} {ad : Nat → Nat} {own : String} {cc : ByteArray} {N cs ss pc : Nat} {lv lv' : List (Nat × Value)} {h h' : mH} {Rm rm : Room} {ln : Launch} {ix n maxL : Nat} {y : MethodName} {bytes : ByteArray} {ret : Option FieldType} {As rest : List Value} {v : Option Value}
/-- behind a call -/
theorem mAfter {p : Program} {l : Launch} {e : Env} {R : Room} {s : State} {m : MethodId} {args : Array Value} {below : List Frame} {meth : Method} {c : Code} {Q : State → Prop} {A : Nat → Prop} {D : va_G} {kA : FieldType → ClassId} {nL : Nat} {H : Heap} {locs : List Loc} {ls : Array Slot} {st0 : List Value} {a : Array Value}
    (run : va_Run p l e R s m args below meth c H locs cs ss 0 0 (F0 m pc ls st0) (rest.map (mv ad)) (mPost (va_A (mW ad kA h) H.size) D kA ad v h' a) (va_A (mW ad kA h) H.size)) (hF : ∀ q, va_A (mW ad kA h) H.size q → A q) (hS : va_S A s.heap H locs) (hl : lv_has ls nL (ml ad lv))
    (k : mAW (p, l, e, R, s, m, args, below, meth, c, Q, A, D, kA, nL) ad cs ss (pc + 3) lv (v.toList ++ rest) h') : W p l e R s m args below meth c H locs cs ss Q (F0 m pc ls st0) := by
  intro T hT Xs
  obtain ⟨v', st₀, t, T', L, h0, X', hL, e1, e2, ⟨hv, hP', hD', hz, hk⟩, st⟩ := run T hT Xs
  have hv' : v' = v.map (mv ad) := by injection hv
  subst hv'
  rw [h0] at hz hk
  have hS' : va_S A s.heap T'.heap (locs ++ L) := ⟨Nat.le_trans hS.1 (by rw [e1]; exact hz), fun q h1 h2 => by rw [e1, hk q (Nat.lt_of_lt_of_le h1 hS.1) (fun z => h2 (hF q z))]; exact hS.2.1 q h1 h2, fun q hq => by
      rcases List.mem_append.mp hq with h | h
      · exact hS.2.2 q h
      · exact hF _ (hL q h)⟩
  obtain ⟨t2, a1, b1⟩ := k T'.heap (locs ++ L) ls (by rw [e1]; exact hP') (hD'.weaken (fun _ _ _ hq => hF _ hq)) hS' hl T' rfl X'
  refine ⟨t2, st t2 ?_, b1⟩
  have he : (v.toList ++ rest).map (mv ad) = (v.map (mv ad)).toList ++ rest.map (mv ad) := by cases v <;> simp
  rw [← he]
  exact a1
theorem mFree {A : Nat → Prop} {ws : va_W} {H0 H : Heap} {locs : List Loc} (hD : va_D A ws) (hS : va_S A H0 H locs) (hA : ∀ q, H0.size ≤ q → A q) : ∀ q, va_A ws H.size q → A q := by
  intro q hq
  rcases hq with ⟨k, e, hk⟩ | hq
  · exact hD.2 k (q, e) hk
  · exact hA q (Nat.le_trans hS.1 hq)
theorem mPreAt {s : State} {A : Nat → Prop} {D : va_G} {kA : FieldType → ClassId} {H : Heap} {locs : List Loc} (hK : mK D kA s) (hT : mT ad A s s.heap) (hA : ∀ q, s.heap.size ≤ q → A q) (hP : va_P D classes (mW ad kA h) H) (hD : va_D A (mW ad kA h)) (hS : va_S A s.heap H locs) (U : State) (hU : U.heap = H) (hW : s.WarmedH U.vm) : mPre D kA ad As h H.size (As.map (mv ad)).toArray U := by
  refine ⟨rfl, by rw [hU], by rw [hU]; exact hP, hK.moved hW, ?_, hD.weaken (fun _ _ _ _ => trivial)⟩
  rw [hU]
  have h1 : mT ad A s H := hT.kept (fun a ha hn => hS.2.1 a ha hn)
  exact (h1.narrow (mFree hD hS hA)).moved hW.alike
theorem ax_callS (O : mO X ad own cc N Rm ln) (hC : mCw y bytes maxL ret n) (hst : Cond.static y ∈ mGood) (hlk : mLk own ix y) (hM : mMet ln y bytes maxL ret rm As h v h') (hn : As.length = n) (hrm : rm.cells = 0 ∧ rm.slots = 0) (hR : rm.frames + 1 ≤ Rm.frames ∧ 8 + (maxL + 11) + rm.locals ≤ Rm.locals) (hcs : cs ≤ Rm.cells ∧ ss ≤ Rm.slots) (hrs : (rest.map fun v => v.category).sum ≤ 8) (d : decode cc pc = .ok (.invokestatic ix, 3)) (k : mAW X ad cs ss (pc + 3) lv (v.toList ++ rest) h') : mAW X ad cs ss pc lv (As.reverse ++ rest) h := by
  obtain ⟨p, l, e, R, s, m, args, below, meth, c, Q, A, D, kA, nL⟩ := X
  obtain ⟨⟨hx, hb, hml, hown, hlk0, rfl, rfl, rfl⟩, hts, hK, hT, hA⟩ := O
  intro H locs ls hP hD hS hl
  obtain ⟨hc1, hc2, hc3, hc4⟩ := hC
  have hF := mFree hD hS hA
  have hstk : (As.reverse ++ rest).map (mv ad) = (As.map (mv ad)).reverse ++ rest.map (mv ad) := by simp
  have hcat : ((rest.map (mv ad)).map fun v => v.category).sum ≤ 8 := by
    rw [List.map_map, show ((fun v : Value => v.category) ∘ mv ad) = (fun v => v.category) from funext (fun v => mv_cat ad v)]; exact hrs
  rw [hstk]
  rcases hlk with hlk | ⟨host, hlk⟩
  · exact mAfter (va_runS (As := As.map (mv ad)) (rest := rest.map (mv ad)) ⟨hx, hb, hml, hown, hts⟩ (hM D kA ad H.size) ⟨callB_of n hts (mGoodIn y bytes maxL ret hc1) rfl hrm.1 hrm.2 (hts _ hc2) (hts _ hlk) ⟨hc3.1, hc3.2, hc4⟩ hR, hts _ hst⟩ ⟨mPre_blind, fun U hU hW => mPreAt hK hT hA hP hD hS U hU hW⟩ rfl (by rw [List.length_map]; exact hn) hl.1 rfl (lv_room hcat) d ⟨hcs.1, hcs.2⟩) hF hS hl k
  · exact mAfter (va_runSN (As := As.map (mv ad)) (rest := rest.map (mv ad)) ⟨hx, hb, hml, hown, hts⟩ (hM D kA ad H.size) ⟨va_cnB n hts (mGoodIn y bytes maxL ret hc1) rfl hrm.1 hrm.2 (hK.2.2 _ hlk) (hts _ hc2) ⟨hc3.1, hc3.2, hc4⟩ hR, hts _ hst, trivial⟩ ⟨mPre_blind, fun U hU hW => mPreAt hK hT hA hP hD hS U hU hW⟩ rfl (by rw [List.length_map]; exact hn) hl.1 rfl (lv_room hcat) d ⟨hcs.1, hcs.2⟩) hF hS hl k
theorem ax_callV (O : mO X ad own cc N Rm ln) (hC : mCw y bytes maxL ret n) {ci b : Nat} {q : vw_C} {fs : List Value} (hcl : classes[ci]? = some q) (hyc : y.cls = q.1) (hin : Cond.instanceMethod y ∈ mGood) (hse : Cond.selects q.1 y y ∈ mGood) (hlk : mLk own ix y) (hb' : h[b]? = some (.inr (ci, fs))) (hM : mMet ln y bytes maxL ret rm (.ref b :: As) h v h') (hn : As.length = n) (hrm : rm.cells = 0 ∧ rm.slots = 0) (hR : rm.frames + 1 ≤ Rm.frames ∧ 8 + (maxL + 11) + rm.locals ≤ Rm.locals) (hcs : cs ≤ Rm.cells ∧ ss ≤ Rm.slots) (hrs : (rest.map fun v => v.category).sum ≤ 8) (d : decode cc pc = .ok (.invokevirtual ix, 3)) (k : mAW X ad cs ss (pc + 3) lv (v.toList ++ rest) h') : mAW X ad cs ss pc lv (As.reverse ++ .ref b :: rest) h := by
  obtain ⟨p, l, e, R, s, m, args, below, meth, c, Q, A, D, kA, nL⟩ := X
  obtain ⟨⟨hx, hb, hml, hown, hlk0, rfl, rfl, rfl⟩, hts, hK, hT, hA⟩ := O
  intro H locs ls hP hD hS hl
  obtain ⟨hc1, hc2, hc3, hc4⟩ := hC
  have hF := mFree hD hS hA
  have hstk : (As.reverse ++ .ref b :: rest).map (mv ad) = (As.map (mv ad)).reverse ++ .ref (ad b) :: rest.map (mv ad) := by simp [mv]
  have hcat : ((rest.map (mv ad)).map fun v => v.category).sum ≤ 8 := by
    rw [List.map_map, show ((fun v : Value => v.category) ∘ mv ad) = (fun v => v.category) from funext (fun v => mv_cat ad v)]; exact hrs
  rw [hstk]
  have hrecv := va_recv (mK0 hK) hP hcl (mW_get hb')
  rcases hlk with hlk | ⟨host, hlk⟩
  · exact mAfter (va_runV (C := q.1) (As := As.map (mv ad)) (rest := rest.map (mv ad)) ⟨hx, hb, hml, hown, hts⟩ (hM D kA ad H.size) ⟨callB_of n hts (mGoodIn y bytes maxL ret hc1) rfl hrm.1 hrm.2 (hts _ hc2) (hts _ hlk) ⟨hc3.1, hc3.2, hc4⟩ hR, hts _ hin, hts _ hse⟩ ⟨mPre_blind, hrecv, fun U hU hW => mPreAt (As := .ref b :: As) hK hT hA hP hD hS U hU hW⟩ rfl (by rw [List.length_map]; exact hn) hl.1 rfl (lv_room hcat) d ⟨hcs.1, hcs.2⟩) hF hS hl k
  · exact mAfter (va_runVN (C := q.1) (As := As.map (mv ad)) (rest := rest.map (mv ad)) ⟨hx, hb, hml, hown, hts⟩ (hM D kA ad H.size) ⟨va_cnB n hts (mGoodIn y bytes maxL ret hc1) rfl hrm.1 hrm.2 (hK.2.2 _ hlk) (hts _ hc2) ⟨hc3.1, hc3.2, hc4⟩ hR, hts _ hin, hts _ hse⟩ ⟨mPre_blind, hrecv, fun U hU hW => mPreAt (As := .ref b :: As) hK hT hA hP hD hS U hU hW⟩ rfl (by rw [List.length_map]; exact hn) hl.1 rfl (lv_room hcat) d ⟨hcs.1, hcs.2⟩) hF hS hl k
end mCalls
noncomputable def mac {α : Type} (h : mH) (ty : FieldType) (a : Nat) (sp : Int32) (b : Nat) (dp n : Int32) (F : mH → Option α) : Option α := match h[a]?, h[b]? with
  | some (.inl (t0, (n0, .inl f))), some (.inl (t1, (n1, .inl g))) => mgd (t0 = ty ∧ t1 = ty ∧ ¬ sp < 0 ∧ ¬ dp < 0 ∧ ¬ n < 0 ∧ sp.toNatClampNeg + n.toNatClampNeg ≤ n0 ∧ dp.toNatClampNeg + n.toNatClampNeg ≤ n1 ∧ ∀ i, i < n.toNatClampNeg → fits ty (.int (f (sp.toNatClampNeg + i))) = true) (F (h.set b (.inl (ty, (n1, .inl (va_cpy f g sp.toNatClampNeg dp.toNatClampNeg n.toNatClampNeg))))))
  | _, _ => none
def mCp (h : mH) (ty : FieldType) (a : Nat) (sp : Int32) (b : Nat) (dp n : Int32) (h' : mH) : Prop := ∃ (n0 n1 : Nat) (f g : Nat → Int32), h[a]? = some (.inl (ty, (n0, .inl f))) ∧ h[b]? = some (.inl (ty, (n1, .inl g))) ∧ ¬ sp < 0 ∧ ¬ dp < 0 ∧ ¬ n < 0 ∧ sp.toNatClampNeg + n.toNatClampNeg ≤ n0 ∧ dp.toNatClampNeg + n.toNatClampNeg ≤ n1 ∧ (∀ i, i < n.toNatClampNeg → fits ty (.int (f (sp.toNatClampNeg + i))) = true) ∧ h' = h.set b (.inl (ty, (n1, .inl (va_cpy f g sp.toNatClampNeg dp.toNatClampNeg n.toNatClampNeg))))
theorem mac_some {α : Type} {h : mH} {ty : FieldType} {a b : Nat} {sp dp n : Int32} {F : mH → Option α} {r : α} (hh : mac h ty a sp b dp n F = some r) : ∃ h' : mH, mCp h ty a sp b dp n h' ∧ F h' = some r := by
  unfold mac at hh
  split at hh
  · rename_i t0 n0 f t1 n1 g e1 e2
    obtain ⟨⟨rfl, rfl, q1, q2, q3, q4, q5, q6⟩, hh⟩ := mgd_some hh
    exact ⟨_, ⟨n0, n1, f, g, e1, e2, q1, q2, q3, q4, q5, q6, rfl⟩, hh⟩
  · cases hh
section mMore
variable {X : mX} {ad : Nat → Nat} {own : String} {cc : ByteArray} {N cs ss pc : Nat} {lv lv' : List (Nat × Value)} {st : List Value} {h h' : mH} {Rm : Room} {ln : Launch} {ix : Nat}
theorem ax_nmi {x y : Int32} (hy : y = x) (k : mAW X ad cs ss pc lv (.int y :: st) h) : mAW X ad cs ss pc lv (.int x :: st) h := hy ▸ k
theorem ax_nml {x y : Int64} (hy : y = x) (k : mAW X ad cs ss pc lv (.long y :: st) h) : mAW X ad cs ss pc lv (.long x :: st) h := hy ▸ k
theorem mcats (ad : Nat → Nat) (st : List Value) : ((st.map (mv ad)).map fun v => v.category).sum = (st.map fun v => v.category).sum := by
  rw [List.map_map, show ((fun v : Value => v.category) ∘ mv ad) = (fun v => v.category) from funext (fun v => mv_cat ad v)]
theorem ax_mmax (O : mO X ad own cc N Rm ln) (hw : Cond.methodLink own ix Lib.Math.max.name ∈ mGood) (hfr : 1 ≤ Rm.frames ∧ cs ≤ Rm.cells ∧ ss ≤ Rm.slots) (hlo : (st.map fun v => v.category).sum + 13 ≤ Rm.locals) {x y : Int32} (d : decode cc pc = .ok (.invokestatic ix, 3)) (k : mAW X ad cs ss (pc + 3) lv (.int (if x < y then y else x) :: st) h) : mAW X ad cs ss pc lv (.int y :: .int x :: st) h := by
  obtain ⟨p, l, e, R, s, m, args, below, meth, c, Q, A, D, kA, nL⟩ := X
  obtain ⟨⟨hx, hb, hml, hown, hlk0, rfl, rfl, rfl⟩, hts, hK, hT, hA⟩ := O
  exact fun H locs ls hP hD hS hl => va_mmax hx hb (hml.trans hl.1.symm) hown (hts _ hw) (hts _ wmax_1) (hts _ wmath) (hts _ wmax_2) hfr.1 (by rw [mcats]; exact hlo) hfr.2.1 hfr.2.2 d (k H locs ls hP hD hS hl)
theorem ax_mmin (O : mO X ad own cc N Rm ln) (hw : Cond.methodLink own ix Lib.Math.min.name ∈ mGood) (hfr : 1 ≤ Rm.frames ∧ cs ≤ Rm.cells ∧ ss ≤ Rm.slots) (hlo : (st.map fun v => v.category).sum + 13 ≤ Rm.locals) {x y : Int32} (d : decode cc pc = .ok (.invokestatic ix, 3)) (k : mAW X ad cs ss (pc + 3) lv (.int (if y < x then y else x) :: st) h) : mAW X ad cs ss pc lv (.int y :: .int x :: st) h := by
  obtain ⟨p, l, e, R, s, m, args, below, meth, c, Q, A, D, kA, nL⟩ := X
  obtain ⟨⟨hx, hb, hml, hown, hlk0, rfl, rfl, rfl⟩, hts, hK, hT, hA⟩ := O
  exact fun H locs ls hP hD hS hl => va_mmin hx hb (hml.trans hl.1.symm) hown (hts _ hw) (hts _ wmin_1) (hts _ wmath) (hts _ wmin_2) hfr.1 (by rw [mcats]; exact hlo) hfr.2.1 hfr.2.2 d (k H locs ls hP hD hS hl)
theorem ax_mabs (O : mO X ad own cc N Rm ln) (hw : Cond.methodLink own ix Lib.Math.abs.name ∈ mGood) (hfr : 1 ≤ Rm.frames ∧ cs ≤ Rm.cells ∧ ss ≤ Rm.slots) (hlo : (st.map fun v => v.category).sum + 13 ≤ Rm.locals) {x : Int32} (d : decode cc pc = .ok (.invokestatic ix, 3)) (k : mAW X ad cs ss (pc + 3) lv (.int (if 0 ≤ x then x else 0 - x) :: st) h) : mAW X ad cs ss pc lv (.int x :: st) h := by
  obtain ⟨p, l, e, R, s, m, args, below, meth, c, Q, A, D, kA, nL⟩ := X
  obtain ⟨⟨hx, hb, hml, hown, hlk0, rfl, rfl, rfl⟩, hts, hK, hT, hA⟩ := O
  exact fun H locs ls hP hD hS hl => va_mabs hx hb (hml.trans hl.1.symm) hown (hts _ hw) (hts _ wabs_1) (hts _ wmath) (hts _ wabs_2) hfr.1 (by rw [mcats]; exact hlo) hfr.2.1 hfr.2.2 d (k H locs ls hP hD hS hl)
theorem ax_copy (O : mO X ad own cc N Rm ln) (hw : Cond.methodLink own ix arraycopyName ∈ mGood) {ty : FieldType} (hty : ty ∈ mTys ∧ refKind ty = false) (hfr : 1 ≤ Rm.frames) (hlo : (st.map fun v => v.category).sum + (nativeFrameWords "java/lang/System" "arraycopy" 5 + 11) ≤ Rm.locals) {a b : Nat} {sp dp n : Int32} (hc : mCp h ty a sp b dp n h') (d : decode cc pc = .ok (.invokestatic ix, 3)) (k : mAW X ad cs ss (pc + 3) lv st h') : mAW X ad cs ss pc lv (.int n :: .int dp :: .ref b :: .int sp :: .ref a :: st) h := by
  obtain ⟨p, l, e, R, s, m, args, below, meth, c, Q, A, D, kA, nL⟩ := X
  obtain ⟨⟨hx, hb, hml, hown, hlk0, rfl, rfl, rfl⟩, hts, hK, hT, hA⟩ := O
  obtain ⟨n0, n1, f, g, e1, e2, q1, q2, q3, q4, q5, q6, he⟩ := hc
  have he' : (mW ad kA h).set b (ad b, .inl (kA ty, (n1, .inl (va_cpy f g sp.toNatClampNeg dp.toNatClampNeg n.toNatClampNeg)))) = mW ad kA h' := by rw [he, ← mW_set]; rfl
  exact fun H locs ls hP hD hS hl => va_copyi hx hb (hml.trans hl.1.symm) hown (hts _ hw) (hts _ wcopy_1) (hts _ wcopy_2) (hts _ wsystem) (mKt hK hty.1) hP hD hS a b 0 0 (mW_get e1) (mW_get e2) rfl rfl hty.2 q1 q2 q3 q4 q5 q6 hfr (by rw [mcats]; exact hlo) d (fun H1 locs1 hP1 hD1 hS1 => k H1 locs1 ls (he' ▸ hP1) (he' ▸ hD1) hS1 hl)
end mMore
end
