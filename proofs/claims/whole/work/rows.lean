section
-- ===== PART A: goes FIRST, ahead of the names: the tables' words, and 'selects' of the private methods out of them =====
/-- a private method of a class that the tables say can be made, by its rows of tables_1 -/
def lw_okq (q : MethodName × Nat) : Prop := (q.1.cls ≠ "java/lang/invoke/MethodHandle" ∧ q.1.cls ≠ "java/lang/invoke/VarHandle") ∧ Cond.instantiable q.1.cls q.2 ∈ tables_1 ∧ Cond.privateMethod q.1 ∈ tables_1 ∧ Cond.instanceMethod q.1 ∈ tables_1
theorem lw_p0 : lw_okq (⟨"StreamFilters$Codes", "count", "([III)V"⟩, 5) := ⟨⟨by decide +kernel, by decide +kernel⟩, List.mem_of_getElem? (i := 100) (by decide +kernel), List.mem_of_getElem? (i := 130) (by decide +kernel), List.mem_of_getElem? (i := 131) (by decide +kernel)⟩
theorem lw_p1 : lw_okq (⟨"StreamFilters", "noteFault", "(III)V"⟩, 17) := ⟨⟨by decide +kernel, by decide +kernel⟩, List.mem_of_getElem? (i := 22) (by decide +kernel), List.mem_of_getElem? (i := 303) (by decide +kernel), List.mem_of_getElem? (i := 304) (by decide +kernel)⟩
theorem lw_p2 : lw_okq (⟨"StreamFilters", "unpackerOf", "(I)LStreamFilters$Unpacker;"⟩, 17) := ⟨⟨by decide +kernel, by decide +kernel⟩, List.mem_of_getElem? (i := 22) (by decide +kernel), List.mem_of_getElem? (i := 321) (by decide +kernel), List.mem_of_getElem? (i := 322) (by decide +kernel)⟩
theorem lw_p3 : lw_okq (⟨"StreamFilters$Flate", "readCodes", "(LStreamFilters$Pass;)Z"⟩, 6) := ⟨⟨by decide +kernel, by decide +kernel⟩, List.mem_of_getElem? (i := 91) (by decide +kernel), List.mem_of_getElem? (i := 401) (by decide +kernel), List.mem_of_getElem? (i := 402) (by decide +kernel)⟩
theorem lw_p4 : lw_okq (⟨"StreamFilters$Flate", "readLengthCodes", "(LStreamFilters$Pass;I)Z"⟩, 6) := ⟨⟨by decide +kernel, by decide +kernel⟩, List.mem_of_getElem? (i := 91) (by decide +kernel), List.mem_of_getElem? (i := 405) (by decide +kernel), List.mem_of_getElem? (i := 406) (by decide +kernel)⟩
theorem lw_p5 : lw_okq (⟨"StreamFilters$Flate", "readLengths", "(LStreamFilters$Pass;I)Z"⟩, 6) := ⟨⟨by decide +kernel, by decide +kernel⟩, List.mem_of_getElem? (i := 91) (by decide +kernel), List.mem_of_getElem? (i := 414) (by decide +kernel), List.mem_of_getElem? (i := 415) (by decide +kernel)⟩
theorem lw_p6 : lw_okq (⟨"StreamFilters$Lzw", "clear", "()V"⟩, 5) := ⟨⟨by decide +kernel, by decide +kernel⟩, List.mem_of_getElem? (i := 156) (by decide +kernel), List.mem_of_getElem? (i := 468) (by decide +kernel), List.mem_of_getElem? (i := 469) (by decide +kernel)⟩
theorem lw_p7 : lw_okq (⟨"StreamFilters$Lzw", "giveString", "(LStreamFilters$Pass;I)Z"⟩, 5) := ⟨⟨by decide +kernel, by decide +kernel⟩, List.mem_of_getElem? (i := 156) (by decide +kernel), List.mem_of_getElem? (i := 480) (by decide +kernel), List.mem_of_getElem? (i := 481) (by decide +kernel)⟩
theorem lw_p8 : lw_okq (⟨"StreamFilters$Lzw", "sizeOf", "(I)I"⟩, 5) := ⟨⟨by decide +kernel, by decide +kernel⟩, List.mem_of_getElem? (i := 156) (by decide +kernel), List.mem_of_getElem? (i := 484) (by decide +kernel), List.mem_of_getElem? (i := 485) (by decide +kernel)⟩
theorem lw_p9 : lw_okq (⟨"StreamFilters$Lzw", "startOf", "(I)I"⟩, 5) := ⟨⟨by decide +kernel, by decide +kernel⟩, List.mem_of_getElem? (i := 156) (by decide +kernel), List.mem_of_getElem? (i := 490) (by decide +kernel), List.mem_of_getElem? (i := 491) (by decide +kernel)⟩
theorem lw_p10 : lw_okq (⟨"StreamFilters$Lzw", "makeString", "()V"⟩, 5) := ⟨⟨by decide +kernel, by decide +kernel⟩, List.mem_of_getElem? (i := 156) (by decide +kernel), List.mem_of_getElem? (i := 495) (by decide +kernel), List.mem_of_getElem? (i := 496) (by decide +kernel)⟩
theorem lw_p11 : lw_okq (⟨"StreamFilters$Text85", "finish", "(LStreamFilters$Pass;)V"⟩, 2) := ⟨⟨by decide +kernel, by decide +kernel⟩, List.mem_of_getElem? (i := 178) (by decide +kernel), List.mem_of_getElem? (i := 504) (by decide +kernel), List.mem_of_getElem? (i := 505) (by decide +kernel)⟩
theorem lw_p12 : lw_okq (⟨"StreamFilters$Text85", "addDigit", "(I)V"⟩, 2) := ⟨⟨by decide +kernel, by decide +kernel⟩, List.mem_of_getElem? (i := 178) (by decide +kernel), List.mem_of_getElem? (i := 510) (by decide +kernel), List.mem_of_getElem? (i := 511) (by decide +kernel)⟩
theorem lw_p13 : lw_okq (⟨"StreamFilters$Text85", "giveNumber", "(LStreamFilters$Pass;I)Z"⟩, 2) := ⟨⟨by decide +kernel, by decide +kernel⟩, List.mem_of_getElem? (i := 178) (by decide +kernel), List.mem_of_getElem? (i := 515) (by decide +kernel), List.mem_of_getElem? (i := 516) (by decide +kernel)⟩
theorem lw_p14 : lw_okq (⟨"StreamFilters$Link", "undoNumbers", "(LStreamFilters$Bytes;)V"⟩, 6) := ⟨⟨by decide +kernel, by decide +kernel⟩, List.mem_of_getElem? (i := 204) (by decide +kernel), List.mem_of_getElem? (i := 526) (by decide +kernel), List.mem_of_getElem? (i := 527) (by decide +kernel)⟩
theorem lw_p15 : lw_okq (⟨"StreamFilters$Link", "rowSize", "()I"⟩, 6) := ⟨⟨by decide +kernel, by decide +kernel⟩, List.mem_of_getElem? (i := 204) (by decide +kernel), List.mem_of_getElem? (i := 530) (by decide +kernel), List.mem_of_getElem? (i := 531) (by decide +kernel)⟩
def lw_privs_1 : List (MethodName × Nat) := [(⟨"StreamFilters$Codes", "count", "([III)V"⟩, 5), (⟨"StreamFilters", "noteFault", "(III)V"⟩, 17), (⟨"StreamFilters", "unpackerOf", "(I)LStreamFilters$Unpacker;"⟩, 17), (⟨"StreamFilters$Flate", "readCodes", "(LStreamFilters$Pass;)Z"⟩, 6), (⟨"StreamFilters$Flate", "readLengthCodes", "(LStreamFilters$Pass;I)Z"⟩, 6), (⟨"StreamFilters$Flate", "readLengths", "(LStreamFilters$Pass;I)Z"⟩, 6), (⟨"StreamFilters$Lzw", "clear", "()V"⟩, 5), (⟨"StreamFilters$Lzw", "giveString", "(LStreamFilters$Pass;I)Z"⟩, 5), (⟨"StreamFilters$Lzw", "sizeOf", "(I)I"⟩, 5), (⟨"StreamFilters$Lzw", "startOf", "(I)I"⟩, 5), (⟨"StreamFilters$Lzw", "makeString", "()V"⟩, 5), (⟨"StreamFilters$Text85", "finish", "(LStreamFilters$Pass;)V"⟩, 2), (⟨"StreamFilters$Text85", "addDigit", "(I)V"⟩, 2), (⟨"StreamFilters$Text85", "giveNumber", "(LStreamFilters$Pass;I)Z"⟩, 2), (⟨"StreamFilters$Link", "undoNumbers", "(LStreamFilters$Bytes;)V"⟩, 6), (⟨"StreamFilters$Link", "rowSize", "()I"⟩, 6)]
theorem lw_r1 : ∀ q ∈ lw_privs_1, lw_okq q := List.forall_mem_cons.mpr ⟨lw_p0, List.forall_mem_cons.mpr ⟨lw_p1, List.forall_mem_cons.mpr ⟨lw_p2, List.forall_mem_cons.mpr ⟨lw_p3, List.forall_mem_cons.mpr ⟨lw_p4, List.forall_mem_cons.mpr ⟨lw_p5, List.forall_mem_cons.mpr ⟨lw_p6, List.forall_mem_cons.mpr ⟨lw_p7, List.forall_mem_cons.mpr ⟨lw_p8, List.forall_mem_cons.mpr ⟨lw_p9, List.forall_mem_cons.mpr ⟨lw_p10, List.forall_mem_cons.mpr ⟨lw_p11, List.forall_mem_cons.mpr ⟨lw_p12, List.forall_mem_cons.mpr ⟨lw_p13, List.forall_mem_cons.mpr ⟨lw_p14, List.forall_mem_cons.mpr ⟨lw_p15, fun _ h => absurd h List.not_mem_nil⟩⟩⟩⟩⟩⟩⟩⟩⟩⟩⟩⟩⟩⟩⟩⟩
theorem lw_p16 : lw_okq (⟨"StreamFilters$Link", "numberAt", "(LStreamFilters$Bytes;II)I"⟩, 6) := ⟨⟨by decide +kernel, by decide +kernel⟩, List.mem_of_getElem? (i := 204) (by decide +kernel), List.mem_of_getElem? (i := 536) (by decide +kernel), List.mem_of_getElem? (i := 537) (by decide +kernel)⟩
theorem lw_p17 : lw_okq (⟨"StreamFilters$Link", "shiftOf", "(I)I"⟩, 6) := ⟨⟨by decide +kernel, by decide +kernel⟩, List.mem_of_getElem? (i := 204) (by decide +kernel), List.mem_of_getElem? (i := 541) (by decide +kernel), List.mem_of_getElem? (i := 542) (by decide +kernel)⟩
theorem lw_p18 : lw_okq (⟨"StreamFilters$Link", "mask", "()I"⟩, 6) := ⟨⟨by decide +kernel, by decide +kernel⟩, List.mem_of_getElem? (i := 204) (by decide +kernel), List.mem_of_getElem? (i := 545) (by decide +kernel), List.mem_of_getElem? (i := 546) (by decide +kernel)⟩
theorem lw_p19 : lw_okq (⟨"StreamFilters$Link", "setNumber", "(LStreamFilters$Bytes;III)V"⟩, 6) := ⟨⟨by decide +kernel, by decide +kernel⟩, List.mem_of_getElem? (i := 204) (by decide +kernel), List.mem_of_getElem? (i := 549) (by decide +kernel), List.mem_of_getElem? (i := 550) (by decide +kernel)⟩
theorem lw_p20 : lw_okq (⟨"StreamFilters$Link", "undoTags", "(LStreamFilters$Bytes;)Z"⟩, 6) := ⟨⟨by decide +kernel, by decide +kernel⟩, List.mem_of_getElem? (i := 204) (by decide +kernel), List.mem_of_getElem? (i := 557) (by decide +kernel), List.mem_of_getElem? (i := 558) (by decide +kernel)⟩
theorem lw_p21 : lw_okq (⟨"StreamFilters$Link", "undoRow", "(LStreamFilters$Bytes;IIII)V"⟩, 6) := ⟨⟨by decide +kernel, by decide +kernel⟩, List.mem_of_getElem? (i := 204) (by decide +kernel), List.mem_of_getElem? (i := 561) (by decide +kernel), List.mem_of_getElem? (i := 562) (by decide +kernel)⟩
theorem lw_p22 : lw_okq (⟨"java/lang/Throwable", "fillInStackTrace", "(I)Ljava/lang/Throwable;"⟩, 6) := ⟨⟨by decide +kernel, by decide +kernel⟩, List.mem_of_getElem? (i := 630) (by decide +kernel), List.mem_of_getElem? (i := 628) (by decide +kernel), List.mem_of_getElem? (i := 629) (by decide +kernel)⟩
theorem lw_p23 : lw_okq (⟨"StreamFiltersModel", "refused", "(I)Z"⟩, 31) := ⟨⟨by decide +kernel, by decide +kernel⟩, List.mem_of_getElem? (i := 751) (by decide +kernel), List.mem_of_getElem? (i := 867) (by decide +kernel), List.mem_of_getElem? (i := 868) (by decide +kernel)⟩
theorem lw_p24 : lw_okq (⟨"StreamFiltersModel", "isGood", "()Z"⟩, 31) := ⟨⟨by decide +kernel, by decide +kernel⟩, List.mem_of_getElem? (i := 751) (by decide +kernel), List.mem_of_getElem? (i := 895) (by decide +kernel), List.mem_of_getElem? (i := 896) (by decide +kernel)⟩
theorem lw_p25 : lw_okq (⟨"StreamFiltersModel", "run", "(I)V"⟩, 31) := ⟨⟨by decide +kernel, by decide +kernel⟩, List.mem_of_getElem? (i := 751) (by decide +kernel), List.mem_of_getElem? (i := 899) (by decide +kernel), List.mem_of_getElem? (i := 900) (by decide +kernel)⟩
theorem lw_p26 : lw_okq (⟨"StreamFiltersModel", "flate", "()V"⟩, 31) := ⟨⟨by decide +kernel, by decide +kernel⟩, List.mem_of_getElem? (i := 751) (by decide +kernel), List.mem_of_getElem? (i := 903) (by decide +kernel), List.mem_of_getElem? (i := 904) (by decide +kernel)⟩
theorem lw_p27 : lw_okq (⟨"StreamFiltersModel", "next", "()I"⟩, 31) := ⟨⟨by decide +kernel, by decide +kernel⟩, List.mem_of_getElem? (i := 751) (by decide +kernel), List.mem_of_getElem? (i := 907) (by decide +kernel), List.mem_of_getElem? (i := 908) (by decide +kernel)⟩
theorem lw_p28 : lw_okq (⟨"StreamFiltersModel", "fail", "(I)V"⟩, 31) := ⟨⟨by decide +kernel, by decide +kernel⟩, List.mem_of_getElem? (i := 751) (by decide +kernel), List.mem_of_getElem? (i := 911) (by decide +kernel), List.mem_of_getElem? (i := 912) (by decide +kernel)⟩
theorem lw_p29 : lw_okq (⟨"StreamFiltersModel", "bit", "()I"⟩, 31) := ⟨⟨by decide +kernel, by decide +kernel⟩, List.mem_of_getElem? (i := 751) (by decide +kernel), List.mem_of_getElem? (i := 915) (by decide +kernel), List.mem_of_getElem? (i := 916) (by decide +kernel)⟩
theorem lw_p30 : lw_okq (⟨"StreamFiltersModel", "number", "(I)I"⟩, 31) := ⟨⟨by decide +kernel, by decide +kernel⟩, List.mem_of_getElem? (i := 751) (by decide +kernel), List.mem_of_getElem? (i := 919) (by decide +kernel), List.mem_of_getElem? (i := 920) (by decide +kernel)⟩
theorem lw_p31 : lw_okq (⟨"StreamFiltersModel", "block", "(I)V"⟩, 31) := ⟨⟨by decide +kernel, by decide +kernel⟩, List.mem_of_getElem? (i := 751) (by decide +kernel), List.mem_of_getElem? (i := 923) (by decide +kernel), List.mem_of_getElem? (i := 924) (by decide +kernel)⟩
def lw_privs_2 : List (MethodName × Nat) := [(⟨"StreamFilters$Link", "numberAt", "(LStreamFilters$Bytes;II)I"⟩, 6), (⟨"StreamFilters$Link", "shiftOf", "(I)I"⟩, 6), (⟨"StreamFilters$Link", "mask", "()I"⟩, 6), (⟨"StreamFilters$Link", "setNumber", "(LStreamFilters$Bytes;III)V"⟩, 6), (⟨"StreamFilters$Link", "undoTags", "(LStreamFilters$Bytes;)Z"⟩, 6), (⟨"StreamFilters$Link", "undoRow", "(LStreamFilters$Bytes;IIII)V"⟩, 6), (⟨"java/lang/Throwable", "fillInStackTrace", "(I)Ljava/lang/Throwable;"⟩, 6), (⟨"StreamFiltersModel", "refused", "(I)Z"⟩, 31), (⟨"StreamFiltersModel", "isGood", "()Z"⟩, 31), (⟨"StreamFiltersModel", "run", "(I)V"⟩, 31), (⟨"StreamFiltersModel", "flate", "()V"⟩, 31), (⟨"StreamFiltersModel", "next", "()I"⟩, 31), (⟨"StreamFiltersModel", "fail", "(I)V"⟩, 31), (⟨"StreamFiltersModel", "bit", "()I"⟩, 31), (⟨"StreamFiltersModel", "number", "(I)I"⟩, 31), (⟨"StreamFiltersModel", "block", "(I)V"⟩, 31)]
theorem lw_r2 : ∀ q ∈ lw_privs_2, lw_okq q := List.forall_mem_cons.mpr ⟨lw_p16, List.forall_mem_cons.mpr ⟨lw_p17, List.forall_mem_cons.mpr ⟨lw_p18, List.forall_mem_cons.mpr ⟨lw_p19, List.forall_mem_cons.mpr ⟨lw_p20, List.forall_mem_cons.mpr ⟨lw_p21, List.forall_mem_cons.mpr ⟨lw_p22, List.forall_mem_cons.mpr ⟨lw_p23, List.forall_mem_cons.mpr ⟨lw_p24, List.forall_mem_cons.mpr ⟨lw_p25, List.forall_mem_cons.mpr ⟨lw_p26, List.forall_mem_cons.mpr ⟨lw_p27, List.forall_mem_cons.mpr ⟨lw_p28, List.forall_mem_cons.mpr ⟨lw_p29, List.forall_mem_cons.mpr ⟨lw_p30, List.forall_mem_cons.mpr ⟨lw_p31, fun _ h => absurd h List.not_mem_nil⟩⟩⟩⟩⟩⟩⟩⟩⟩⟩⟩⟩⟩⟩⟩⟩
theorem lw_p32 : lw_okq (⟨"StreamFiltersModel", "stored", "()V"⟩, 31) := ⟨⟨by decide +kernel, by decide +kernel⟩, List.mem_of_getElem? (i := 751) (by decide +kernel), List.mem_of_getElem? (i := 927) (by decide +kernel), List.mem_of_getElem? (i := 928) (by decide +kernel)⟩
theorem lw_p33 : lw_okq (⟨"StreamFiltersModel", "give", "(I)V"⟩, 31) := ⟨⟨by decide +kernel, by decide +kernel⟩, List.mem_of_getElem? (i := 751) (by decide +kernel), List.mem_of_getElem? (i := 932) (by decide +kernel), List.mem_of_getElem? (i := 933) (by decide +kernel)⟩
theorem lw_p34 : lw_okq (⟨"StreamFiltersModel", "fixCodes", "()V"⟩, 31) := ⟨⟨by decide +kernel, by decide +kernel⟩, List.mem_of_getElem? (i := 751) (by decide +kernel), List.mem_of_getElem? (i := 936) (by decide +kernel), List.mem_of_getElem? (i := 937) (by decide +kernel)⟩
theorem lw_p35 : lw_okq (⟨"StreamFiltersModel", "makeCodes", "(II)V"⟩, 31) := ⟨⟨by decide +kernel, by decide +kernel⟩, List.mem_of_getElem? (i := 751) (by decide +kernel), List.mem_of_getElem? (i := 940) (by decide +kernel), List.mem_of_getElem? (i := 941) (by decide +kernel)⟩
theorem lw_p36 : lw_okq (⟨"StreamFiltersModel", "coded", "()V"⟩, 31) := ⟨⟨by decide +kernel, by decide +kernel⟩, List.mem_of_getElem? (i := 751) (by decide +kernel), List.mem_of_getElem? (i := 944) (by decide +kernel), List.mem_of_getElem? (i := 945) (by decide +kernel)⟩
theorem lw_p37 : lw_okq (⟨"StreamFiltersModel", "symbol", "(II)I"⟩, 31) := ⟨⟨by decide +kernel, by decide +kernel⟩, List.mem_of_getElem? (i := 751) (by decide +kernel), List.mem_of_getElem? (i := 948) (by decide +kernel), List.mem_of_getElem? (i := 949) (by decide +kernel)⟩
theorem lw_p38 : lw_okq (⟨"StreamFiltersModel", "match", "(I)V"⟩, 31) := ⟨⟨by decide +kernel, by decide +kernel⟩, List.mem_of_getElem? (i := 751) (by decide +kernel), List.mem_of_getElem? (i := 952) (by decide +kernel), List.mem_of_getElem? (i := 953) (by decide +kernel)⟩
theorem lw_p39 : lw_okq (⟨"StreamFiltersModel", "readCodes", "()V"⟩, 31) := ⟨⟨by decide +kernel, by decide +kernel⟩, List.mem_of_getElem? (i := 751) (by decide +kernel), List.mem_of_getElem? (i := 968) (by decide +kernel), List.mem_of_getElem? (i := 969) (by decide +kernel)⟩
theorem lw_p40 : lw_okq (⟨"StreamFiltersModel", "isWhole", "(IIZ)Z"⟩, 31) := ⟨⟨by decide +kernel, by decide +kernel⟩, List.mem_of_getElem? (i := 751) (by decide +kernel), List.mem_of_getElem? (i := 975) (by decide +kernel), List.mem_of_getElem? (i := 976) (by decide +kernel)⟩
theorem lw_p41 : lw_okq (⟨"StreamFiltersModel", "readLengths", "(II)V"⟩, 31) := ⟨⟨by decide +kernel, by decide +kernel⟩, List.mem_of_getElem? (i := 751) (by decide +kernel), List.mem_of_getElem? (i := 980) (by decide +kernel), List.mem_of_getElem? (i := 981) (by decide +kernel)⟩
theorem lw_p42 : lw_okq (⟨"StreamFiltersModel", "check", "()J"⟩, 31) := ⟨⟨by decide +kernel, by decide +kernel⟩, List.mem_of_getElem? (i := 751) (by decide +kernel), List.mem_of_getElem? (i := 985) (by decide +kernel), List.mem_of_getElem? (i := 986) (by decide +kernel)⟩
theorem lw_p43 : lw_okq (⟨"StreamFiltersModel", "lzw", "(I)V"⟩, 31) := ⟨⟨by decide +kernel, by decide +kernel⟩, List.mem_of_getElem? (i := 751) (by decide +kernel), List.mem_of_getElem? (i := 991) (by decide +kernel), List.mem_of_getElem? (i := 992) (by decide +kernel)⟩
theorem lw_p44 : lw_okq (⟨"StreamFiltersModel", "wideCode", "(I)I"⟩, 31) := ⟨⟨by decide +kernel, by decide +kernel⟩, List.mem_of_getElem? (i := 751) (by decide +kernel), List.mem_of_getElem? (i := 998) (by decide +kernel), List.mem_of_getElem? (i := 999) (by decide +kernel)⟩
theorem lw_p45 : lw_okq (⟨"StreamFiltersModel", "firstOf", "(I)I"⟩, 31) := ⟨⟨by decide +kernel, by decide +kernel⟩, List.mem_of_getElem? (i := 751) (by decide +kernel), List.mem_of_getElem? (i := 1002) (by decide +kernel), List.mem_of_getElem? (i := 1003) (by decide +kernel)⟩
theorem lw_p46 : lw_okq (⟨"StreamFiltersModel", "byteOf", "(II)I"⟩, 31) := ⟨⟨by decide +kernel, by decide +kernel⟩, List.mem_of_getElem? (i := 751) (by decide +kernel), List.mem_of_getElem? (i := 1006) (by decide +kernel), List.mem_of_getElem? (i := 1007) (by decide +kernel)⟩
theorem lw_p47 : lw_okq (⟨"StreamFiltersModel", "text85", "()V"⟩, 31) := ⟨⟨by decide +kernel, by decide +kernel⟩, List.mem_of_getElem? (i := 751) (by decide +kernel), List.mem_of_getElem? (i := 1010) (by decide +kernel), List.mem_of_getElem? (i := 1011) (by decide +kernel)⟩
def lw_privs_3 : List (MethodName × Nat) := [(⟨"StreamFiltersModel", "stored", "()V"⟩, 31), (⟨"StreamFiltersModel", "give", "(I)V"⟩, 31), (⟨"StreamFiltersModel", "fixCodes", "()V"⟩, 31), (⟨"StreamFiltersModel", "makeCodes", "(II)V"⟩, 31), (⟨"StreamFiltersModel", "coded", "()V"⟩, 31), (⟨"StreamFiltersModel", "symbol", "(II)I"⟩, 31), (⟨"StreamFiltersModel", "match", "(I)V"⟩, 31), (⟨"StreamFiltersModel", "readCodes", "()V"⟩, 31), (⟨"StreamFiltersModel", "isWhole", "(IIZ)Z"⟩, 31), (⟨"StreamFiltersModel", "readLengths", "(II)V"⟩, 31), (⟨"StreamFiltersModel", "check", "()J"⟩, 31), (⟨"StreamFiltersModel", "lzw", "(I)V"⟩, 31), (⟨"StreamFiltersModel", "wideCode", "(I)I"⟩, 31), (⟨"StreamFiltersModel", "firstOf", "(I)I"⟩, 31), (⟨"StreamFiltersModel", "byteOf", "(II)I"⟩, 31), (⟨"StreamFiltersModel", "text85", "()V"⟩, 31)]
theorem lw_r3 : ∀ q ∈ lw_privs_3, lw_okq q := List.forall_mem_cons.mpr ⟨lw_p32, List.forall_mem_cons.mpr ⟨lw_p33, List.forall_mem_cons.mpr ⟨lw_p34, List.forall_mem_cons.mpr ⟨lw_p35, List.forall_mem_cons.mpr ⟨lw_p36, List.forall_mem_cons.mpr ⟨lw_p37, List.forall_mem_cons.mpr ⟨lw_p38, List.forall_mem_cons.mpr ⟨lw_p39, List.forall_mem_cons.mpr ⟨lw_p40, List.forall_mem_cons.mpr ⟨lw_p41, List.forall_mem_cons.mpr ⟨lw_p42, List.forall_mem_cons.mpr ⟨lw_p43, List.forall_mem_cons.mpr ⟨lw_p44, List.forall_mem_cons.mpr ⟨lw_p45, List.forall_mem_cons.mpr ⟨lw_p46, List.forall_mem_cons.mpr ⟨lw_p47, fun _ h => absurd h List.not_mem_nil⟩⟩⟩⟩⟩⟩⟩⟩⟩⟩⟩⟩⟩⟩⟩⟩
theorem lw_p48 : lw_okq (⟨"StreamFiltersModel", "giveWord", "(JI)V"⟩, 31) := ⟨⟨by decide +kernel, by decide +kernel⟩, List.mem_of_getElem? (i := 751) (by decide +kernel), List.mem_of_getElem? (i := 1019) (by decide +kernel), List.mem_of_getElem? (i := 1020) (by decide +kernel)⟩
theorem lw_p49 : lw_okq (⟨"StreamFiltersModel", "hexadecimal", "()V"⟩, 31) := ⟨⟨by decide +kernel, by decide +kernel⟩, List.mem_of_getElem? (i := 751) (by decide +kernel), List.mem_of_getElem? (i := 1026) (by decide +kernel), List.mem_of_getElem? (i := 1027) (by decide +kernel)⟩
theorem lw_p50 : lw_okq (⟨"StreamFiltersModel", "runs", "()V"⟩, 31) := ⟨⟨by decide +kernel, by decide +kernel⟩, List.mem_of_getElem? (i := 751) (by decide +kernel), List.mem_of_getElem? (i := 1033) (by decide +kernel), List.mem_of_getElem? (i := 1034) (by decide +kernel)⟩
theorem lw_p51 : lw_okq (⟨"StreamFiltersModel", "addRows", "(I)V"⟩, 31) := ⟨⟨by decide +kernel, by decide +kernel⟩, List.mem_of_getElem? (i := 751) (by decide +kernel), List.mem_of_getElem? (i := 1037) (by decide +kernel), List.mem_of_getElem? (i := 1038) (by decide +kernel)⟩
theorem lw_p52 : lw_okq (⟨"StreamFiltersModel", "rowBytes", "(I)I"⟩, 31) := ⟨⟨by decide +kernel, by decide +kernel⟩, List.mem_of_getElem? (i := 751) (by decide +kernel), List.mem_of_getElem? (i := 1041) (by decide +kernel), List.mem_of_getElem? (i := 1042) (by decide +kernel)⟩
theorem lw_p53 : lw_okq (⟨"StreamFiltersModel", "numberAt", "(III)I"⟩, 31) := ⟨⟨by decide +kernel, by decide +kernel⟩, List.mem_of_getElem? (i := 751) (by decide +kernel), List.mem_of_getElem? (i := 1045) (by decide +kernel), List.mem_of_getElem? (i := 1046) (by decide +kernel)⟩
theorem lw_p54 : lw_okq (⟨"StreamFiltersModel", "bitAt", "(II)I"⟩, 31) := ⟨⟨by decide +kernel, by decide +kernel⟩, List.mem_of_getElem? (i := 751) (by decide +kernel), List.mem_of_getElem? (i := 1049) (by decide +kernel), List.mem_of_getElem? (i := 1050) (by decide +kernel)⟩
theorem lw_p55 : lw_okq (⟨"StreamFiltersModel", "setNumber", "(IIII)V"⟩, 31) := ⟨⟨by decide +kernel, by decide +kernel⟩, List.mem_of_getElem? (i := 751) (by decide +kernel), List.mem_of_getElem? (i := 1053) (by decide +kernel), List.mem_of_getElem? (i := 1054) (by decide +kernel)⟩
theorem lw_p56 : lw_okq (⟨"StreamFiltersModel", "undoRows", "(I)Z"⟩, 31) := ⟨⟨by decide +kernel, by decide +kernel⟩, List.mem_of_getElem? (i := 751) (by decide +kernel), List.mem_of_getElem? (i := 1057) (by decide +kernel), List.mem_of_getElem? (i := 1058) (by decide +kernel)⟩
def lw_privs_4 : List (MethodName × Nat) := [(⟨"StreamFiltersModel", "giveWord", "(JI)V"⟩, 31), (⟨"StreamFiltersModel", "hexadecimal", "()V"⟩, 31), (⟨"StreamFiltersModel", "runs", "()V"⟩, 31), (⟨"StreamFiltersModel", "addRows", "(I)V"⟩, 31), (⟨"StreamFiltersModel", "rowBytes", "(I)I"⟩, 31), (⟨"StreamFiltersModel", "numberAt", "(III)I"⟩, 31), (⟨"StreamFiltersModel", "bitAt", "(II)I"⟩, 31), (⟨"StreamFiltersModel", "setNumber", "(IIII)V"⟩, 31), (⟨"StreamFiltersModel", "undoRows", "(I)Z"⟩, 31)]
theorem lw_r4 : ∀ q ∈ lw_privs_4, lw_okq q := List.forall_mem_cons.mpr ⟨lw_p48, List.forall_mem_cons.mpr ⟨lw_p49, List.forall_mem_cons.mpr ⟨lw_p50, List.forall_mem_cons.mpr ⟨lw_p51, List.forall_mem_cons.mpr ⟨lw_p52, List.forall_mem_cons.mpr ⟨lw_p53, List.forall_mem_cons.mpr ⟨lw_p54, List.forall_mem_cons.mpr ⟨lw_p55, List.forall_mem_cons.mpr ⟨lw_p56, fun _ h => absurd h List.not_mem_nil⟩⟩⟩⟩⟩⟩⟩⟩⟩
def lw_privs : List (MethodName × Nat) := lw_privs_1 ++ (lw_privs_2 ++ (lw_privs_3 ++ (lw_privs_4)))
def lw_tbl : List Cond := k2_sels lw_privs ++ tables_1
theorem lw_privs_ok : ∀ q ∈ lw_privs, lw_okq q := by
  show ∀ q ∈ lw_privs_1 ++ (lw_privs_2 ++ (lw_privs_3 ++ (lw_privs_4))), lw_okq q
  exact List.forall_mem_append.mpr ⟨lw_r1, List.forall_mem_append.mpr ⟨lw_r2, List.forall_mem_append.mpr ⟨lw_r3, lw_r4⟩⟩⟩
end
section
/-! names: classes, fields, methods; the words of the tables that are good in every state -/
def R_SF : String := "StreamFilters"
def R_By : String := "StreamFilters$Bytes"
def R_Co : String := "StreamFilters$Codes"
def R_Fl : String := "StreamFilters$Flate"
def R_Hx : String := "StreamFilters$Hexadecimal"
def R_Le : String := "StreamFilters$Lengths"
def R_Li : String := "StreamFilters$Link"
def R_Lz : String := "StreamFilters$Lzw"
def R_Pa : String := "StreamFilters$Pass"
def R_T8 : String := "StreamFilters$Text85"
def R_Un : String := "StreamFilters$Unpacker"
def R_Mo : String := "StreamFiltersModel"
def R_La : String := "StreamFiltersLaw"
def T_SF : u_T := fun k => match k with
  | 0 => ("StreamFilters", "row", "LStreamFilters$Bytes;", true)
  | 1 => ("StreamFilters", "chain", "[LStreamFilters$Link;", true)
  | 2 => ("StreamFilters", "filters", "I", false)
  | 3 => ("StreamFilters", "allowed", "I", false)
  | 4 => ("StreamFilters", "pass", "LStreamFilters$Pass;", true)
  | 5 => ("StreamFilters", "flate", "LStreamFilters$Flate;", true)
  | 6 => ("StreamFilters", "lzw", "LStreamFilters$Lzw;", true)
  | 7 => ("StreamFilters", "text85", "LStreamFilters$Text85;", true)
  | 8 => ("StreamFilters", "hexadecimal", "LStreamFilters$Hexadecimal;", true)
  | 9 => ("StreamFilters", "lengths", "LStreamFilters$Lengths;", true)
  | 10 => ("StreamFilters", "evenOutput", "LStreamFilters$Bytes;", true)
  | 11 => ("StreamFilters", "oddOutput", "LStreamFilters$Bytes;", true)
  | 12 => ("StreamFilters", "result", "LStreamFilters$Bytes;", false)
  | 13 => ("StreamFilters", "decoded", "Z", false)
  | 14 => ("StreamFilters", "faultFilter", "I", false)
  | 15 => ("StreamFilters", "faultKind", "I", false)
  | _ => ("StreamFilters", "faultPlace", "I", false)
def ty_SF : Nat → FieldType := fun k => match k with
  | 0 => (.object "StreamFilters$Bytes")
  | 1 => (.array (.object "StreamFilters$Link"))
  | 2 => .int
  | 3 => .int
  | 4 => (.object "StreamFilters$Pass")
  | 5 => (.object "StreamFilters$Flate")
  | 6 => (.object "StreamFilters$Lzw")
  | 7 => (.object "StreamFilters$Text85")
  | 8 => (.object "StreamFilters$Hexadecimal")
  | 9 => (.object "StreamFilters$Lengths")
  | 10 => (.object "StreamFilters$Bytes")
  | 11 => (.object "StreamFilters$Bytes")
  | 12 => (.object "StreamFilters$Bytes")
  | 13 => .boolean
  | 14 => .int
  | 15 => .int
  | _ => .int
theorem nm_SF : ∀ a, a < 17 → ∀ b, b < 17 → a ≠ b → (T_SF a).2.1 ≠ (T_SF b).2.1 := by decide +kernel
theorem tyok_SF : ∀ k, k < 17 → parseFieldDescriptor (T_SF k).2.2.1 = some (ty_SF k) := by decide +kernel
def T_By : u_T := fun k => match k with
  | 0 => ("StreamFilters$Bytes", "room", "[B", true)
  | _ => ("StreamFilters$Bytes", "length", "I", false)
def ty_By : Nat → FieldType := fun k => match k with
  | 0 => (.array .byte)
  | _ => .int
theorem nm_By : ∀ a, a < 2 → ∀ b, b < 2 → a ≠ b → (T_By a).2.1 ≠ (T_By b).2.1 := by decide +kernel
theorem tyok_By : ∀ k, k < 2 → parseFieldDescriptor (T_By k).2.2.1 = some (ty_By k) := by decide +kernel
def T_Co : u_T := fun k => match k with
  | 0 => ("StreamFilters$Codes", "counts", "[I", true)
  | 1 => ("StreamFilters$Codes", "places", "[I", true)
  | 2 => ("StreamFilters$Codes", "symbols", "[I", true)
  | 3 => ("StreamFilters$Codes", "used", "I", false)
  | _ => ("StreamFilters$Codes", "longest", "I", false)
def ty_Co : Nat → FieldType := fun k => match k with
  | 0 => (.array .int)
  | 1 => (.array .int)
  | 2 => (.array .int)
  | 3 => .int
  | _ => .int
theorem nm_Co : ∀ a, a < 5 → ∀ b, b < 5 → a ≠ b → (T_Co a).2.1 ≠ (T_Co b).2.1 := by decide +kernel
theorem tyok_Co : ∀ k, k < 5 → parseFieldDescriptor (T_Co k).2.2.1 = some (ty_Co k) := by decide +kernel
def T_Fl : u_T := fun k => match k with
  | 0 => ("StreamFilters$Flate", "fixedLiterals", "LStreamFilters$Codes;", true)
  | 1 => ("StreamFilters$Flate", "fixedDistances", "LStreamFilters$Codes;", true)
  | 2 => ("StreamFilters$Flate", "literals", "LStreamFilters$Codes;", true)
  | 3 => ("StreamFilters$Flate", "distances", "LStreamFilters$Codes;", true)
  | 4 => ("StreamFilters$Flate", "lengthCodes", "LStreamFilters$Codes;", true)
  | _ => ("StreamFilters$Flate", "lengths", "[I", true)
def ty_Fl : Nat → FieldType := fun k => match k with
  | 0 => (.object "StreamFilters$Codes")
  | 1 => (.object "StreamFilters$Codes")
  | 2 => (.object "StreamFilters$Codes")
  | 3 => (.object "StreamFilters$Codes")
  | 4 => (.object "StreamFilters$Codes")
  | _ => (.array .int)
theorem nm_Fl : ∀ a, a < 6 → ∀ b, b < 6 → a ≠ b → (T_Fl a).2.1 ≠ (T_Fl b).2.1 := by decide +kernel
theorem tyok_Fl : ∀ k, k < 6 → parseFieldDescriptor (T_Fl k).2.2.1 = some (ty_Fl k) := by decide +kernel
def T_Hx : u_T := fun k => match k with
  | _ => ("", "", "", false)
def ty_Hx : Nat → FieldType := fun k => match k with
  | _ => .int
theorem nm_Hx : ∀ a, a < 0 → ∀ b, b < 0 → a ≠ b → (T_Hx a).2.1 ≠ (T_Hx b).2.1 := by decide +kernel
theorem tyok_Hx : ∀ k, k < 0 → parseFieldDescriptor (T_Hx k).2.2.1 = some (ty_Hx k) := by decide +kernel
def T_Le : u_T := fun k => match k with
  | _ => ("", "", "", false)
def ty_Le : Nat → FieldType := fun k => match k with
  | _ => .int
theorem nm_Le : ∀ a, a < 0 → ∀ b, b < 0 → a ≠ b → (T_Le a).2.1 ≠ (T_Le b).2.1 := by decide +kernel
theorem tyok_Le : ∀ k, k < 0 → parseFieldDescriptor (T_Le k).2.2.1 = some (ty_Le k) := by decide +kernel
def T_Li : u_T := fun k => match k with
  | 0 => ("StreamFilters$Link", "kind", "I", false)
  | 1 => ("StreamFilters$Link", "early", "I", false)
  | 2 => ("StreamFilters$Link", "predictor", "I", false)
  | 3 => ("StreamFilters$Link", "colours", "I", false)
  | 4 => ("StreamFilters$Link", "bits", "I", false)
  | _ => ("StreamFilters$Link", "columns", "I", false)
def ty_Li : Nat → FieldType := fun k => match k with
  | 0 => .int
  | 1 => .int
  | 2 => .int
  | 3 => .int
  | 4 => .int
  | _ => .int
theorem nm_Li : ∀ a, a < 6 → ∀ b, b < 6 → a ≠ b → (T_Li a).2.1 ≠ (T_Li b).2.1 := by decide +kernel
theorem tyok_Li : ∀ k, k < 6 → parseFieldDescriptor (T_Li k).2.2.1 = some (ty_Li k) := by decide +kernel
def T_Lz : u_T := fun k => match k with
  | 0 => ("StreamFilters$Lzw", "starts", "[I", true)
  | 1 => ("StreamFilters$Lzw", "sizes", "[I", true)
  | 2 => ("StreamFilters$Lzw", "next", "I", false)
  | 3 => ("StreamFilters$Lzw", "startBefore", "I", false)
  | _ => ("StreamFilters$Lzw", "sizeBefore", "I", false)
def ty_Lz : Nat → FieldType := fun k => match k with
  | 0 => (.array .int)
  | 1 => (.array .int)
  | 2 => .int
  | 3 => .int
  | _ => .int
theorem nm_Lz : ∀ a, a < 5 → ∀ b, b < 5 → a ≠ b → (T_Lz a).2.1 ≠ (T_Lz b).2.1 := by decide +kernel
theorem tyok_Lz : ∀ k, k < 5 → parseFieldDescriptor (T_Lz k).2.2.1 = some (ty_Lz k) := by decide +kernel
def T_Pa : u_T := fun k => match k with
  | 0 => ("StreamFilters$Pass", "input", "LStreamFilters$Bytes;", false)
  | 1 => ("StreamFilters$Pass", "output", "LStreamFilters$Bytes;", false)
  | 2 => ("StreamFilters$Pass", "begun", "I", false)
  | 3 => ("StreamFilters$Pass", "current", "I", false)
  | 4 => ("StreamFilters$Pass", "bitsLeft", "I", false)
  | 5 => ("StreamFilters$Pass", "problem", "I", false)
  | _ => ("StreamFilters$Pass", "left", "I", false)
def ty_Pa : Nat → FieldType := fun k => match k with
  | 0 => (.object "StreamFilters$Bytes")
  | 1 => (.object "StreamFilters$Bytes")
  | 2 => .int
  | 3 => .int
  | 4 => .int
  | 5 => .int
  | _ => .int
theorem nm_Pa : ∀ a, a < 7 → ∀ b, b < 7 → a ≠ b → (T_Pa a).2.1 ≠ (T_Pa b).2.1 := by decide +kernel
theorem tyok_Pa : ∀ k, k < 7 → parseFieldDescriptor (T_Pa k).2.2.1 = some (ty_Pa k) := by decide +kernel
def T_T8 : u_T := fun k => match k with
  | 0 => ("StreamFilters$Text85", "number", "J", false)
  | _ => ("StreamFilters$Text85", "digits", "I", false)
def ty_T8 : Nat → FieldType := fun k => match k with
  | 0 => .long
  | _ => .int
theorem nm_T8 : ∀ a, a < 2 → ∀ b, b < 2 → a ≠ b → (T_T8 a).2.1 ≠ (T_T8 b).2.1 := by decide +kernel
theorem tyok_T8 : ∀ k, k < 2 → parseFieldDescriptor (T_T8 k).2.2.1 = some (ty_T8 k) := by decide +kernel
def T_Mo : u_T := fun k => match k with
  | 0 => ("StreamFiltersModel", "refusal", "I", false)
  | 1 => ("StreamFiltersModel", "rowSize", "I", false)
  | 2 => ("StreamFiltersModel", "row", "[I", true)
  | 3 => ("StreamFiltersModel", "filters", "I", false)
  | 4 => ("StreamFiltersModel", "kinds", "[I", true)
  | 5 => ("StreamFiltersModel", "earlies", "[I", true)
  | 6 => ("StreamFiltersModel", "predictors", "[I", true)
  | 7 => ("StreamFiltersModel", "colours", "[I", true)
  | 8 => ("StreamFiltersModel", "bits", "[I", true)
  | 9 => ("StreamFiltersModel", "columns", "[I", true)
  | 10 => ("StreamFiltersModel", "budget", "I", false)
  | 11 => ("StreamFiltersModel", "size", "I", false)
  | 12 => ("StreamFiltersModel", "in", "[I", true)
  | 13 => ("StreamFiltersModel", "given", "I", false)
  | 14 => ("StreamFiltersModel", "out", "[I", true)
  | 15 => ("StreamFiltersModel", "left", "I", false)
  | 16 => ("StreamFiltersModel", "pos", "I", false)
  | 17 => ("StreamFiltersModel", "wrong", "I", false)
  | 18 => ("StreamFiltersModel", "spare", "I", false)
  | 19 => ("StreamFiltersModel", "spareBits", "I", false)
  | 20 => ("StreamFiltersModel", "lengths", "[I", true)
  | 21 => ("StreamFiltersModel", "codes", "[I", true)
  | 22 => ("StreamFiltersModel", "before", "[I", true)
  | 23 => ("StreamFiltersModel", "last", "[I", true)
  | 24 => ("StreamFiltersModel", "sizes", "[I", true)
  | 25 => ("StreamFiltersModel", "isDecoded", "Z", false)
  | 26 => ("StreamFiltersModel", "resultSize", "I", false)
  | 27 => ("StreamFiltersModel", "result", "[I", true)
  | 28 => ("StreamFiltersModel", "faultFilter", "I", false)
  | 29 => ("StreamFiltersModel", "faultKind", "I", false)
  | _ => ("StreamFiltersModel", "faultPlace", "I", false)
def ty_Mo : Nat → FieldType := fun k => match k with
  | 0 => .int
  | 1 => .int
  | 2 => (.array .int)
  | 3 => .int
  | 4 => (.array .int)
  | 5 => (.array .int)
  | 6 => (.array .int)
  | 7 => (.array .int)
  | 8 => (.array .int)
  | 9 => (.array .int)
  | 10 => .int
  | 11 => .int
  | 12 => (.array .int)
  | 13 => .int
  | 14 => (.array .int)
  | 15 => .int
  | 16 => .int
  | 17 => .int
  | 18 => .int
  | 19 => .int
  | 20 => (.array .int)
  | 21 => (.array .int)
  | 22 => (.array .int)
  | 23 => (.array .int)
  | 24 => (.array .int)
  | 25 => .boolean
  | 26 => .int
  | 27 => (.array .int)
  | 28 => .int
  | 29 => .int
  | _ => .int
theorem nm_Mo : ∀ a, a < 31 → ∀ b, b < 31 → a ≠ b → (T_Mo a).2.1 ≠ (T_Mo b).2.1 := by decide +kernel
theorem tyok_Mo : ∀ k, k < 31 → parseFieldDescriptor (T_Mo k).2.2.1 = some (ty_Mo k) := by decide +kernel
abbrev classes : List vw_C := [(R_SF, T_SF, 17), (R_By, T_By, 2), (R_Co, T_Co, 5), (R_Fl, T_Fl, 6), (R_Hx, T_Hx, 0), (R_Le, T_Le, 0), (R_Li, T_Li, 6), (R_Lz, T_Lz, 5), (R_Pa, T_Pa, 7), (R_T8, T_T8, 2), (R_Mo, T_Mo, 31)]
def mGood : List Cond := lw_tbl.filter goodWord
theorem mGood_good : ∀ w ∈ mGood, goodWord w = true := fun w h => (List.mem_filter.mp h).2
theorem mg_of {i : Nat} {w : Cond} (h : lw_tbl[i]? = some w) (hg : goodWord w = true) : w ∈ mGood := List.mem_filter.mpr ⟨List.mem_of_getElem? h, hg⟩
theorem mg_ofs {C : String} {T : u_T} {n : Nat} (ps : List Nat) (h : u_ws C T n = ps.filterMap (fun i => lw_tbl[i]?)) (hg : (u_ws C T n).all goodWord = true) : ∀ w ∈ u_ws C T n, w ∈ mGood := by
  intro w hw
  have h1 := List.all_eq_true.mp hg w hw
  rw [h] at hw
  obtain ⟨i, -, hi⟩ := List.mem_filterMap.mp hw
  exact mg_of hi h1
set_option maxRecDepth 20000 in
theorem in_SF : ∀ w ∈ u_ws R_SF T_SF 17, w ∈ mGood := mg_ofs [304, 306, 308, 310, 312, 314, 316, 318, 320, 322, 324, 326, 328, 330, 332, 334, 336] (by decide +kernel) (by decide +kernel)
set_option maxRecDepth 20000 in
theorem in_By : ∀ w ∈ u_ws R_By T_By 2, w ∈ mGood := mg_ofs [103, 105] (by decide +kernel) (by decide +kernel)
set_option maxRecDepth 20000 in
theorem in_Co : ∀ w ∈ u_ws R_Co T_Co 5, w ∈ mGood := mg_ofs [168, 170, 172, 174, 176] (by decide +kernel) (by decide +kernel)
set_option maxRecDepth 20000 in
theorem in_Fl : ∀ w ∈ u_ws R_Fl T_Fl 6, w ∈ mGood := mg_ofs [199, 201, 203, 205, 207, 209] (by decide +kernel) (by decide +kernel)
set_option maxRecDepth 20000 in
theorem in_Hx : ∀ w ∈ u_ws R_Hx T_Hx 0, w ∈ mGood := mg_ofs [] (by decide +kernel) (by decide +kernel)
set_option maxRecDepth 20000 in
theorem in_Le : ∀ w ∈ u_ws R_Le T_Le 0, w ∈ mGood := mg_ofs [] (by decide +kernel) (by decide +kernel)
set_option maxRecDepth 20000 in
theorem in_Li : ∀ w ∈ u_ws R_Li T_Li 6, w ∈ mGood := mg_ofs [274, 276, 278, 280, 282, 284] (by decide +kernel) (by decide +kernel)
set_option maxRecDepth 20000 in
theorem in_Lz : ∀ w ∈ u_ws R_Lz T_Lz 5, w ∈ mGood := mg_ofs [223, 225, 227, 229, 231] (by decide +kernel) (by decide +kernel)
set_option maxRecDepth 20000 in
theorem in_Pa : ∀ w ∈ u_ws R_Pa T_Pa 7, w ∈ mGood := mg_ofs [132, 134, 136, 138, 140, 142, 144] (by decide +kernel) (by decide +kernel)
set_option maxRecDepth 20000 in
theorem in_T8 : ∀ w ∈ u_ws R_T8 T_T8 2, w ∈ mGood := mg_ofs [242, 244] (by decide +kernel) (by decide +kernel)
set_option maxRecDepth 20000 in
theorem in_Mo : ∀ w ∈ u_ws R_Mo T_Mo 31, w ∈ mGood := mg_ofs [845, 847, 849, 851, 853, 855, 857, 859, 861, 863, 865, 867, 869, 871, 873, 875, 877, 879, 881, 883, 885, 887, 889, 891, 893, 895, 897, 899, 901, 903, 905] (by decide +kernel) (by decide +kernel)
def mNest : List Cond := [.fieldLinkNest "StreamFilters$Pass" 42 "StreamFilters$Bytes" "room" "[B" "StreamFilters", .fieldLinkNest "StreamFilters" 97 "StreamFilters$Bytes" "length" "I" "StreamFilters", .fieldLinkNest "StreamFilters$Pass" 39 "StreamFilters$Bytes" "length" "I" "StreamFilters", .fieldLinkNest "StreamFilters$Lzw" 49 "StreamFilters$Bytes" "length" "I" "StreamFilters", .fieldLinkNest "StreamFilters$Link" 48 "StreamFilters$Bytes" "length" "I" "StreamFilters", .fieldLinkNest "StreamFilters$Flate" 126 "StreamFilters$Bytes" "length" "I" "StreamFilters", .arrayOver (.object "StreamFilters$Link"), .methodLinkNest "StreamFilters" 34 ⟨"StreamFilters$Pass", "<init>", "()V"⟩ "StreamFilters", .fieldLinkNest "StreamFilters$Lzw" 45 "StreamFilters$Pass" "output" "LStreamFilters$Bytes;" "StreamFilters", .fieldLinkNest "StreamFilters$Flate" 122 "StreamFilters$Pass" "output" "LStreamFilters$Bytes;" "StreamFilters", .fieldLinkNest "StreamFilters" 199 "StreamFilters$Pass" "begun" "I" "StreamFilters", .fieldLinkNest "StreamFilters" 196 "StreamFilters$Pass" "problem" "I" "StreamFilters", .fieldLinkNest "StreamFilters" 166 "StreamFilters$Pass" "left" "I" "StreamFilters", .methodLinkNest "StreamFilters$Flate" 3 ⟨"StreamFilters$Unpacker", "<init>", "()V"⟩ "StreamFilters", .methodLinkNest "StreamFilters" 48 ⟨"StreamFilters$Lzw", "<init>", "()V"⟩ "StreamFilters", .methodLinkNest "StreamFilters$Lzw" 3 ⟨"StreamFilters$Unpacker", "<init>", "()V"⟩ "StreamFilters", .methodLinkNest "StreamFilters" 55 ⟨"StreamFilters$Text85", "<init>", "()V"⟩ "StreamFilters", .methodLinkNest "StreamFilters$Text85" 3 ⟨"StreamFilters$Unpacker", "<init>", "()V"⟩ "StreamFilters", .methodLinkNest "StreamFilters" 62 ⟨"StreamFilters$Hexadecimal", "<init>", "()V"⟩ "StreamFilters", .methodLinkNest "StreamFilters$Hexadecimal" 3 ⟨"StreamFilters$Unpacker", "<init>", "()V"⟩ "StreamFilters", .methodLinkNest "StreamFilters" 69 ⟨"StreamFilters$Lengths", "<init>", "()V"⟩ "StreamFilters", .methodLinkNest "StreamFilters$Lengths" 3 ⟨"StreamFilters$Unpacker", "<init>", "()V"⟩ "StreamFilters", .methodLinkNest "StreamFilters" 96 ⟨"StreamFilters$Link", "<init>", "()V"⟩ "StreamFilters", .fieldLinkNest "StreamFilters" 176 "StreamFilters$Link" "kind" "I" "StreamFilters", .fieldLinkNest "StreamFilters" 183 "StreamFilters$Link" "early" "I" "StreamFilters", .declares ⟨"StreamFilters$Unpacker", "unpack", "(LStreamFilters$Pass;I)V"⟩, .declares ⟨"java/lang/RuntimeException", "<init>", "()V"⟩, .declares ⟨"java/lang/RuntimeException", "<init>", "(Ljava/lang/String;)V"⟩, .declares ⟨"java/lang/Exception", "<init>", "()V"⟩, .declares ⟨"java/lang/Exception", "<init>", "(Ljava/lang/String;)V"⟩, .declares ⟨"java/lang/Throwable", "<init>", "()V"⟩, .declares ⟨"java/lang/Throwable", "<init>", "(Ljava/lang/String;)V"⟩]
def mNk : Cond → Bool
  | .fieldLinkNest .. => true
  | .methodLinkNest .. => true
  | .declares .. => true
  | .arrayOver (.object _) => true
  | _ => false
theorem mNest_k : ∀ w ∈ mNest, mNk w = true := by decide +kernel
theorem mNest_warm (w : Cond) (hw : w ∈ mNest) {s U : State} (hW : s.WarmedH U.vm) (h : va_Nw w s) : va_Nw w U := by
  have hk := mNest_k w hw
  clear hw
  unfold mNk at hk
  split at hk
  · exact va_Nw.warmF hW h
  · exact va_Nw.warmM hW h
  · exact va_Nw.warmD hW h
  · exact va_AO.moved hW.alike h
  · cases hk
theorem mNest_same (w : Cond) (hw : w ∈ mNest) {s U : State} (hvm : s.vm = U.vm) (h : va_Nw w s) : va_Nw w U := by
  have hk := mNest_k w hw
  clear hw
  unfold mNk at hk
  split at hk
  · exact va_Nw.same rfl hvm h
  · exact va_Nw.same rfl hvm h
  · exact va_Nw.same rfl hvm h
  · exact va_AO.moved (by rw [hvm]; exact Vm.Alike.refl _) h
  · cases hk
def mTys : List FieldType := [.byte, .int, .long, (.object "StreamFilters$Link")]
abbrev mSt : Type := String × String × String × FieldType × Nat × (Nat → Int32)
def mS0 : Nat → Int32 := fun k => ([16, 17, 18, 0, 8, 7, 9, 6, 10, 5, 11, 4, 12, 3, 13, 2, 14, 1, 15] : List Int32).getD k 0
def mS1 : Nat → Int32 := fun k => ([3, 4, 5, 6, 7, 8, 9, 10, 11, 13, 15, 17, 19, 23, 27, 31, 35, 43, 51, 59, 67, 83, 99, 115, 131, 163, 195, 227, 258] : List Int32).getD k 0
def mS2 : Nat → Int32 := fun k => ([0, 0, 0, 0, 0, 0, 0, 0, 1, 1, 1, 1, 2, 2, 2, 2, 3, 3, 3, 3, 4, 4, 4, 4, 5, 5, 5, 5, 0] : List Int32).getD k 0
def mS3 : Nat → Int32 := fun k => ([1, 2, 3, 4, 5, 7, 9, 13, 17, 25, 33, 49, 65, 97, 129, 193, 257, 385, 513, 769, 1025, 1537, 2049, 3073, 4097, 6145, 8193, 12289, 16385, 24577] : List Int32).getD k 0
def mS4 : Nat → Int32 := fun k => ([0, 0, 0, 0, 1, 1, 2, 2, 3, 3, 4, 4, 5, 5, 6, 6, 7, 7, 8, 8, 9, 9, 10, 10, 11, 11, 12, 12, 13, 13] : List Int32).getD k 0
def mSta : List mSt := [("StreamFilters$Flate", "ORDER", "[I", .int, 19, mS0), ("StreamFilters$Flate", "LENGTH_STARTS", "[I", .int, 29, mS1), ("StreamFilters$Flate", "LENGTH_BITS", "[I", .int, 29, mS2), ("StreamFilters$Flate", "DISTANCE_STARTS", "[I", .int, 30, mS3), ("StreamFilters$Flate", "DISTANCE_BITS", "[I", .int, 30, mS4)]
def mR (f c : Nat) : Room := { frames := f, cells := 0, slots := 0, locals := c }
def y_SF_init : MethodName := ⟨R_SF, "<init>", "()V"⟩
abbrev b_SF_init : ByteArray := prog_1_method_1_code
def y_SF_feed : MethodName := ⟨R_SF, "feed", "(IIIII)I"⟩
abbrev b_SF_feed : ByteArray := prog_1_method_2_code
def y_SF_put : MethodName := ⟨R_SF, "put", "(II)I"⟩
abbrev b_SF_put : ByteArray := prog_1_method_3_code
def y_SF_cut : MethodName := ⟨R_SF, "cut", "(I)I"⟩
abbrev b_SF_cut : ByteArray := prog_1_method_4_code
def y_SF_filter : MethodName := ⟨R_SF, "filter", "(II)I"⟩
abbrev b_SF_filter : ByteArray := prog_1_method_5_code
def y_SF_predict : MethodName := ⟨R_SF, "predict", "(IIII)V"⟩
abbrev b_SF_predict : ByteArray := prog_1_method_6_code
def y_SF_drop : MethodName := ⟨R_SF, "drop", "()I"⟩
abbrev b_SF_drop : ByteArray := prog_1_method_7_code
def y_SF_budget : MethodName := ⟨R_SF, "budget", "(I)I"⟩
abbrev b_SF_budget : ByteArray := prog_1_method_8_code
def y_SF_decode : MethodName := ⟨R_SF, "decode", "()I"⟩
abbrev b_SF_decode : ByteArray := prog_1_method_9_code
def y_SF_at : MethodName := ⟨R_SF, "at", "(I)I"⟩
abbrev b_SF_at : ByteArray := prog_1_method_10_code
def y_SF_fault : MethodName := ⟨R_SF, "fault", "(I)I"⟩
abbrev b_SF_fault : ByteArray := prog_1_method_11_code
def y_SF_keep : MethodName := ⟨R_SF, "keep", "()I"⟩
abbrev b_SF_keep : ByteArray := prog_1_method_12_code
def y_SF_isPredictor : MethodName := ⟨R_SF, "isPredictor", "(I)Z"⟩
abbrev b_SF_isPredictor : ByteArray := prog_1_method_13_code
def y_SF_isBits : MethodName := ⟨R_SF, "isBits", "(I)Z"⟩
abbrev b_SF_isBits : ByteArray := prog_1_method_14_code
def y_SF_noteFault : MethodName := ⟨R_SF, "noteFault", "(III)V"⟩
abbrev b_SF_noteFault : ByteArray := prog_1_method_15_code
def y_SF_unpackerOf : MethodName := ⟨R_SF, "unpackerOf", "(I)LStreamFilters$Unpacker;"⟩
abbrev b_SF_unpackerOf : ByteArray := prog_1_method_16_code
def y_Mo_init : MethodName := ⟨R_Mo, "<init>", "()V"⟩
abbrev b_Mo_init : ByteArray := prog_13_method_1_code
def y_Mo_thrown : MethodName := ⟨R_Mo, "thrown", "()I"⟩
abbrev b_Mo_thrown : ByteArray := prog_13_method_2_code
def y_Mo_refused : MethodName := ⟨R_Mo, "refused", "(I)Z"⟩
abbrev b_Mo_refused : ByteArray := prog_13_method_3_code
def y_Mo_isIn : MethodName := ⟨R_Mo, "isIn", "(III)Z"⟩
abbrev b_Mo_isIn : ByteArray := prog_13_method_4_code
def y_Mo_feed : MethodName := ⟨R_Mo, "feed", "(IIIII)I"⟩
abbrev b_Mo_feed : ByteArray := prog_13_method_5_code
def y_Mo_put : MethodName := ⟨R_Mo, "put", "(II)I"⟩
abbrev b_Mo_put : ByteArray := prog_13_method_6_code
def y_Mo_cut : MethodName := ⟨R_Mo, "cut", "(I)I"⟩
abbrev b_Mo_cut : ByteArray := prog_13_method_7_code
def y_Mo_filter : MethodName := ⟨R_Mo, "filter", "(II)I"⟩
abbrev b_Mo_filter : ByteArray := prog_13_method_8_code
def y_Mo_predict : MethodName := ⟨R_Mo, "predict", "(IIII)V"⟩
abbrev b_Mo_predict : ByteArray := prog_13_method_9_code
def y_Mo_drop : MethodName := ⟨R_Mo, "drop", "()I"⟩
abbrev b_Mo_drop : ByteArray := prog_13_method_10_code
def y_Mo_budget : MethodName := ⟨R_Mo, "budget", "(I)I"⟩
abbrev b_Mo_budget : ByteArray := prog_13_method_11_code
def y_Mo_fail : MethodName := ⟨R_Mo, "fail", "(I)V"⟩
abbrev b_Mo_fail : ByteArray := prog_13_method_12_code
def y_Mo_isGood : MethodName := ⟨R_Mo, "isGood", "()Z"⟩
abbrev b_Mo_isGood : ByteArray := prog_13_method_13_code
def y_Mo_next : MethodName := ⟨R_Mo, "next", "()I"⟩
abbrev b_Mo_next : ByteArray := prog_13_method_14_code
def y_Mo_give : MethodName := ⟨R_Mo, "give", "(I)V"⟩
abbrev b_Mo_give : ByteArray := prog_13_method_15_code
def y_Mo_bit : MethodName := ⟨R_Mo, "bit", "()I"⟩
abbrev b_Mo_bit : ByteArray := prog_13_method_16_code
def y_Mo_number : MethodName := ⟨R_Mo, "number", "(I)I"⟩
abbrev b_Mo_number : ByteArray := prog_13_method_17_code
def y_Mo_makeCodes : MethodName := ⟨R_Mo, "makeCodes", "(II)V"⟩
abbrev b_Mo_makeCodes : ByteArray := prog_13_method_18_code
def y_Mo_isWhole : MethodName := ⟨R_Mo, "isWhole", "(IIZ)Z"⟩
abbrev b_Mo_isWhole : ByteArray := prog_13_method_19_code
def y_Mo_symbol : MethodName := ⟨R_Mo, "symbol", "(II)I"⟩
abbrev b_Mo_symbol : ByteArray := prog_13_method_20_code
def y_Mo_fixCodes : MethodName := ⟨R_Mo, "fixCodes", "()V"⟩
abbrev b_Mo_fixCodes : ByteArray := prog_13_method_21_code
def y_Mo_orderOf : MethodName := ⟨R_Mo, "orderOf", "(I)I"⟩
abbrev b_Mo_orderOf : ByteArray := prog_13_method_22_code
def y_Mo_readCodes : MethodName := ⟨R_Mo, "readCodes", "()V"⟩
abbrev b_Mo_readCodes : ByteArray := prog_13_method_23_code
def y_Mo_readLengths : MethodName := ⟨R_Mo, "readLengths", "(II)V"⟩
abbrev b_Mo_readLengths : ByteArray := prog_13_method_24_code
def y_Mo_lengthOf : MethodName := ⟨R_Mo, "lengthOf", "(I)I"⟩
abbrev b_Mo_lengthOf : ByteArray := prog_13_method_25_code
def y_Mo_lengthBits : MethodName := ⟨R_Mo, "lengthBits", "(I)I"⟩
abbrev b_Mo_lengthBits : ByteArray := prog_13_method_26_code
def y_Mo_distanceBits : MethodName := ⟨R_Mo, "distanceBits", "(I)I"⟩
abbrev b_Mo_distanceBits : ByteArray := prog_13_method_27_code
def y_Mo_distanceOf : MethodName := ⟨R_Mo, "distanceOf", "(I)I"⟩
abbrev b_Mo_distanceOf : ByteArray := prog_13_method_28_code
def y_Mo_match : MethodName := ⟨R_Mo, "match", "(I)V"⟩
abbrev b_Mo_match : ByteArray := prog_13_method_29_code
def y_Mo_coded : MethodName := ⟨R_Mo, "coded", "()V"⟩
abbrev b_Mo_coded : ByteArray := prog_13_method_30_code
def y_Mo_stored : MethodName := ⟨R_Mo, "stored", "()V"⟩
abbrev b_Mo_stored : ByteArray := prog_13_method_31_code
def y_Mo_flate : MethodName := ⟨R_Mo, "flate", "()V"⟩
abbrev b_Mo_flate : ByteArray := prog_13_method_32_code
def y_Mo_block : MethodName := ⟨R_Mo, "block", "(I)V"⟩
abbrev b_Mo_block : ByteArray := prog_13_method_33_code
def y_Mo_check : MethodName := ⟨R_Mo, "check", "()J"⟩
abbrev b_Mo_check : ByteArray := prog_13_method_34_code
def y_Mo_wideCode : MethodName := ⟨R_Mo, "wideCode", "(I)I"⟩
abbrev b_Mo_wideCode : ByteArray := prog_13_method_35_code
def y_Mo_firstOf : MethodName := ⟨R_Mo, "firstOf", "(I)I"⟩
abbrev b_Mo_firstOf : ByteArray := prog_13_method_36_code
def y_Mo_byteOf : MethodName := ⟨R_Mo, "byteOf", "(II)I"⟩
abbrev b_Mo_byteOf : ByteArray := prog_13_method_37_code
def y_Mo_widthOf : MethodName := ⟨R_Mo, "widthOf", "(I)I"⟩
abbrev b_Mo_widthOf : ByteArray := prog_13_method_38_code
def y_Mo_lzw : MethodName := ⟨R_Mo, "lzw", "(I)V"⟩
abbrev b_Mo_lzw : ByteArray := prog_13_method_39_code
def y_Mo_isWhite : MethodName := ⟨R_Mo, "isWhite", "(I)Z"⟩
abbrev b_Mo_isWhite : ByteArray := prog_13_method_40_code
def y_Mo_giveWord : MethodName := ⟨R_Mo, "giveWord", "(JI)V"⟩
abbrev b_Mo_giveWord : ByteArray := prog_13_method_41_code
def y_Mo_text85 : MethodName := ⟨R_Mo, "text85", "()V"⟩
abbrev b_Mo_text85 : ByteArray := prog_13_method_42_code
def y_Mo_digit : MethodName := ⟨R_Mo, "digit", "(I)I"⟩
abbrev b_Mo_digit : ByteArray := prog_13_method_43_code
def y_Mo_hexadecimal : MethodName := ⟨R_Mo, "hexadecimal", "()V"⟩
abbrev b_Mo_hexadecimal : ByteArray := prog_13_method_44_code
def y_Mo_runs : MethodName := ⟨R_Mo, "runs", "()V"⟩
abbrev b_Mo_runs : ByteArray := prog_13_method_45_code
def y_Mo_bitAt : MethodName := ⟨R_Mo, "bitAt", "(II)I"⟩
abbrev b_Mo_bitAt : ByteArray := prog_13_method_46_code
def y_Mo_numberAt : MethodName := ⟨R_Mo, "numberAt", "(III)I"⟩
abbrev b_Mo_numberAt : ByteArray := prog_13_method_47_code
def y_Mo_setNumber : MethodName := ⟨R_Mo, "setNumber", "(IIII)V"⟩
abbrev b_Mo_setNumber : ByteArray := prog_13_method_48_code
def y_Mo_rowBytes : MethodName := ⟨R_Mo, "rowBytes", "(I)I"⟩
abbrev b_Mo_rowBytes : ByteArray := prog_13_method_49_code
def y_Mo_addRows : MethodName := ⟨R_Mo, "addRows", "(I)V"⟩
abbrev b_Mo_addRows : ByteArray := prog_13_method_50_code
def y_Mo_far : MethodName := ⟨R_Mo, "far", "(II)I"⟩
abbrev b_Mo_far : ByteArray := prog_13_method_51_code
def y_Mo_nearest : MethodName := ⟨R_Mo, "nearest", "(III)I"⟩
abbrev b_Mo_nearest : ByteArray := prog_13_method_52_code
def y_Mo_added : MethodName := ⟨R_Mo, "added", "(IIII)I"⟩
abbrev b_Mo_added : ByteArray := prog_13_method_53_code
def y_Mo_undoRows : MethodName := ⟨R_Mo, "undoRows", "(I)Z"⟩
abbrev b_Mo_undoRows : ByteArray := prog_13_method_54_code
def y_Mo_run : MethodName := ⟨R_Mo, "run", "(I)V"⟩
abbrev b_Mo_run : ByteArray := prog_13_method_55_code
def y_Mo_decode : MethodName := ⟨R_Mo, "decode", "()I"⟩
abbrev b_Mo_decode : ByteArray := prog_13_method_56_code
def y_Mo_at : MethodName := ⟨R_Mo, "at", "(I)I"⟩
abbrev b_Mo_at : ByteArray := prog_13_method_57_code
def y_Mo_fault : MethodName := ⟨R_Mo, "fault", "(I)I"⟩
abbrev b_Mo_fault : ByteArray := prog_13_method_58_code
def y_Mo_keep : MethodName := ⟨R_Mo, "keep", "()I"⟩
abbrev b_Mo_keep : ByteArray := prog_13_method_59_code
def y_By_init : MethodName := ⟨R_By, "<init>", "(I)V"⟩
abbrev b_By_init : ByteArray := prog_2_method_1_code
def y_By_byteAt : MethodName := ⟨R_By, "byteAt", "(I)I"⟩
abbrev b_By_byteAt : ByteArray := prog_2_method_2_code
def y_By_change : MethodName := ⟨R_By, "change", "(II)V"⟩
abbrev b_By_change : ByteArray := prog_2_method_3_code
def y_By_add : MethodName := ⟨R_By, "add", "(I)V"⟩
abbrev b_By_add : ByteArray := prog_2_method_4_code
def y_By_addFour : MethodName := ⟨R_By, "addFour", "(I)V"⟩
abbrev b_By_addFour : ByteArray := prog_2_method_5_code
def y_By_become : MethodName := ⟨R_By, "become", "(LStreamFilters$Bytes;)V"⟩
abbrev b_By_become : ByteArray := prog_2_method_6_code
def y_Co_init : MethodName := ⟨R_Co, "<init>", "(I)V"⟩
abbrev b_Co_init : ByteArray := prog_3_method_1_code
def y_Co_build : MethodName := ⟨R_Co, "build", "([III)V"⟩
abbrev b_Co_build : ByteArray := prog_3_method_2_code
def y_Co_count : MethodName := ⟨R_Co, "count", "([III)V"⟩
abbrev b_Co_count : ByteArray := prog_3_method_3_code
def y_Co_isLength : MethodName := ⟨R_Co, "isLength", "(I)Z"⟩
abbrev b_Co_isLength : ByteArray := prog_3_method_4_code
def y_Co_isEmpty : MethodName := ⟨R_Co, "isEmpty", "()Z"⟩
abbrev b_Co_isEmpty : ByteArray := prog_3_method_5_code
def y_Co_isGood : MethodName := ⟨R_Co, "isGood", "()Z"⟩
abbrev b_Co_isGood : ByteArray := prog_3_method_6_code
def y_Co_read : MethodName := ⟨R_Co, "read", "(LStreamFilters$Pass;)I"⟩
abbrev b_Co_read : ByteArray := prog_3_method_7_code
def y_Fl_init : MethodName := ⟨R_Fl, "<init>", "()V"⟩
abbrev b_Fl_init : ByteArray := prog_4_method_1_code
def y_Fl_unpack : MethodName := ⟨R_Fl, "unpack", "(LStreamFilters$Pass;I)V"⟩
abbrev b_Fl_unpack : ByteArray := prog_4_method_2_code
def y_Fl_readHeader : MethodName := ⟨R_Fl, "readHeader", "(LStreamFilters$Pass;)Z"⟩
abbrev b_Fl_readHeader : ByteArray := prog_4_method_3_code
def y_Fl_unpackStored : MethodName := ⟨R_Fl, "unpackStored", "(LStreamFilters$Pass;)Z"⟩
abbrev b_Fl_unpackStored : ByteArray := prog_4_method_4_code
def y_Fl_readShort : MethodName := ⟨R_Fl, "readShort", "(LStreamFilters$Pass;)I"⟩
abbrev b_Fl_readShort : ByteArray := prog_4_method_5_code
def y_Fl_readCodes : MethodName := ⟨R_Fl, "readCodes", "(LStreamFilters$Pass;)Z"⟩
abbrev b_Fl_readCodes : ByteArray := prog_4_method_6_code
def y_Fl_readLengthCodes : MethodName := ⟨R_Fl, "readLengthCodes", "(LStreamFilters$Pass;I)Z"⟩
abbrev b_Fl_readLengthCodes : ByteArray := prog_4_method_7_code
def y_Fl_readLengths : MethodName := ⟨R_Fl, "readLengths", "(LStreamFilters$Pass;I)Z"⟩
abbrev b_Fl_readLengths : ByteArray := prog_4_method_8_code
def y_Fl_readTimes : MethodName := ⟨R_Fl, "readTimes", "(LStreamFilters$Pass;I)I"⟩
abbrev b_Fl_readTimes : ByteArray := prog_4_method_9_code
def y_Fl_unpackCodes : MethodName := ⟨R_Fl, "unpackCodes", "(LStreamFilters$Pass;LStreamFilters$Codes;LStreamFilters$Codes;)Z"⟩
abbrev b_Fl_unpackCodes : ByteArray := prog_4_method_10_code
def y_Fl_copy : MethodName := ⟨R_Fl, "copy", "(LStreamFilters$Pass;ILStreamFilters$Codes;)Z"⟩
abbrev b_Fl_copy : ByteArray := prog_4_method_11_code
def y_Fl_readDistance : MethodName := ⟨R_Fl, "readDistance", "(LStreamFilters$Pass;LStreamFilters$Codes;)I"⟩
abbrev b_Fl_readDistance : ByteArray := prog_4_method_12_code
def y_Fl_compareCheck : MethodName := ⟨R_Fl, "compareCheck", "(LStreamFilters$Pass;)V"⟩
abbrev b_Fl_compareCheck : ByteArray := prog_4_method_13_code
def y_Fl_checkOf : MethodName := ⟨R_Fl, "checkOf", "(LStreamFilters$Bytes;)J"⟩
abbrev b_Fl_checkOf : ByteArray := prog_4_method_14_code
def y_Hx_init : MethodName := ⟨R_Hx, "<init>", "()V"⟩
abbrev b_Hx_init : ByteArray := prog_5_method_1_code
def y_Hx_unpack : MethodName := ⟨R_Hx, "unpack", "(LStreamFilters$Pass;I)V"⟩
abbrev b_Hx_unpack : ByteArray := prog_5_method_2_code
def y_Hx_digitOf : MethodName := ⟨R_Hx, "digitOf", "(I)I"⟩
abbrev b_Hx_digitOf : ByteArray := prog_5_method_3_code
def y_Le_init : MethodName := ⟨R_Le, "<init>", "()V"⟩
abbrev b_Le_init : ByteArray := prog_6_method_1_code
def y_Le_unpack : MethodName := ⟨R_Le, "unpack", "(LStreamFilters$Pass;I)V"⟩
abbrev b_Le_unpack : ByteArray := prog_6_method_2_code
def y_Le_giveRun : MethodName := ⟨R_Le, "giveRun", "(LStreamFilters$Pass;I)Z"⟩
abbrev b_Le_giveRun : ByteArray := prog_6_method_3_code
def y_Li_init : MethodName := ⟨R_Li, "<init>", "()V"⟩
abbrev b_Li_init : ByteArray := prog_7_method_1_code
def y_Li_begin : MethodName := ⟨R_Li, "begin", "(II)V"⟩
abbrev b_Li_begin : ByteArray := prog_7_method_2_code
def y_Li_shape : MethodName := ⟨R_Li, "shape", "(IIII)V"⟩
abbrev b_Li_shape : ByteArray := prog_7_method_3_code
def y_Li_undo : MethodName := ⟨R_Li, "undo", "(LStreamFilters$Bytes;)Z"⟩
abbrev b_Li_undo : ByteArray := prog_7_method_4_code
def y_Li_rowSize : MethodName := ⟨R_Li, "rowSize", "()I"⟩
abbrev b_Li_rowSize : ByteArray := prog_7_method_5_code
def y_Li_undoNumbers : MethodName := ⟨R_Li, "undoNumbers", "(LStreamFilters$Bytes;)V"⟩
abbrev b_Li_undoNumbers : ByteArray := prog_7_method_6_code
def y_Li_numberAt : MethodName := ⟨R_Li, "numberAt", "(LStreamFilters$Bytes;II)I"⟩
abbrev b_Li_numberAt : ByteArray := prog_7_method_7_code
def y_Li_setNumber : MethodName := ⟨R_Li, "setNumber", "(LStreamFilters$Bytes;III)V"⟩
abbrev b_Li_setNumber : ByteArray := prog_7_method_8_code
def y_Li_shiftOf : MethodName := ⟨R_Li, "shiftOf", "(I)I"⟩
abbrev b_Li_shiftOf : ByteArray := prog_7_method_9_code
def y_Li_mask : MethodName := ⟨R_Li, "mask", "()I"⟩
abbrev b_Li_mask : ByteArray := prog_7_method_10_code
def y_Li_undoTags : MethodName := ⟨R_Li, "undoTags", "(LStreamFilters$Bytes;)Z"⟩
abbrev b_Li_undoTags : ByteArray := prog_7_method_11_code
def y_Li_undoRow : MethodName := ⟨R_Li, "undoRow", "(LStreamFilters$Bytes;IIII)V"⟩
abbrev b_Li_undoRow : ByteArray := prog_7_method_12_code
def y_Li_guessOf : MethodName := ⟨R_Li, "guessOf", "(IIII)I"⟩
abbrev b_Li_guessOf : ByteArray := prog_7_method_13_code
def y_Li_nearest : MethodName := ⟨R_Li, "nearest", "(III)I"⟩
abbrev b_Li_nearest : ByteArray := prog_7_method_14_code
def y_Lz_init : MethodName := ⟨R_Lz, "<init>", "()V"⟩
abbrev b_Lz_init : ByteArray := prog_8_method_1_code
def y_Lz_unpack : MethodName := ⟨R_Lz, "unpack", "(LStreamFilters$Pass;I)V"⟩
abbrev b_Lz_unpack : ByteArray := prog_8_method_2_code
def y_Lz_clear : MethodName := ⟨R_Lz, "clear", "()V"⟩
abbrev b_Lz_clear : ByteArray := prog_8_method_3_code
def y_Lz_widthFor : MethodName := ⟨R_Lz, "widthFor", "(I)I"⟩
abbrev b_Lz_widthFor : ByteArray := prog_8_method_4_code
def y_Lz_giveString : MethodName := ⟨R_Lz, "giveString", "(LStreamFilters$Pass;I)Z"⟩
abbrev b_Lz_giveString : ByteArray := prog_8_method_5_code
def y_Lz_sizeOf : MethodName := ⟨R_Lz, "sizeOf", "(I)I"⟩
abbrev b_Lz_sizeOf : ByteArray := prog_8_method_6_code
def y_Lz_startOf : MethodName := ⟨R_Lz, "startOf", "(I)I"⟩
abbrev b_Lz_startOf : ByteArray := prog_8_method_7_code
def y_Lz_makeString : MethodName := ⟨R_Lz, "makeString", "()V"⟩
abbrev b_Lz_makeString : ByteArray := prog_8_method_8_code
def y_Pa_init : MethodName := ⟨R_Pa, "<init>", "()V"⟩
abbrev b_Pa_init : ByteArray := prog_9_method_1_code
def y_Pa_begin : MethodName := ⟨R_Pa, "begin", "(LStreamFilters$Bytes;LStreamFilters$Bytes;)V"⟩
abbrev b_Pa_begin : ByteArray := prog_9_method_2_code
def y_Pa_fail : MethodName := ⟨R_Pa, "fail", "(I)Z"⟩
abbrev b_Pa_fail : ByteArray := prog_9_method_3_code
def y_Pa_nextByte : MethodName := ⟨R_Pa, "nextByte", "()I"⟩
abbrev b_Pa_nextByte : ByteArray := prog_9_method_4_code
def y_Pa_nextSign : MethodName := ⟨R_Pa, "nextSign", "()I"⟩
abbrev b_Pa_nextSign : ByteArray := prog_9_method_5_code
def y_Pa_isBlank : MethodName := ⟨R_Pa, "isBlank", "(I)Z"⟩
abbrev b_Pa_isBlank : ByteArray := prog_9_method_6_code
def y_Pa_nextBit : MethodName := ⟨R_Pa, "nextBit", "(Z)I"⟩
abbrev b_Pa_nextBit : ByteArray := prog_9_method_7_code
def y_Pa_lowNumber : MethodName := ⟨R_Pa, "lowNumber", "(I)I"⟩
abbrev b_Pa_lowNumber : ByteArray := prog_9_method_8_code
def y_Pa_highNumber : MethodName := ⟨R_Pa, "highNumber", "(I)I"⟩
abbrev b_Pa_highNumber : ByteArray := prog_9_method_9_code
def y_Pa_give : MethodName := ⟨R_Pa, "give", "(I)Z"⟩
abbrev b_Pa_give : ByteArray := prog_9_method_10_code
def y_Pa_giveTimes : MethodName := ⟨R_Pa, "giveTimes", "(II)Z"⟩
abbrev b_Pa_giveTimes : ByteArray := prog_9_method_11_code
def y_Pa_giveAgain : MethodName := ⟨R_Pa, "giveAgain", "(II)Z"⟩
abbrev b_Pa_giveAgain : ByteArray := prog_9_method_12_code
def y_Pa_giveAsTheyAre : MethodName := ⟨R_Pa, "giveAsTheyAre", "(I)Z"⟩
abbrev b_Pa_giveAsTheyAre : ByteArray := prog_9_method_13_code
def y_T8_init : MethodName := ⟨R_T8, "<init>", "()V"⟩
abbrev b_T8_init : ByteArray := prog_10_method_1_code
def y_T8_unpack : MethodName := ⟨R_T8, "unpack", "(LStreamFilters$Pass;I)V"⟩
abbrev b_T8_unpack : ByteArray := prog_10_method_2_code
def y_T8_addDigit : MethodName := ⟨R_T8, "addDigit", "(I)V"⟩
abbrev b_T8_addDigit : ByteArray := prog_10_method_3_code
def y_T8_giveNumber : MethodName := ⟨R_T8, "giveNumber", "(LStreamFilters$Pass;I)Z"⟩
abbrev b_T8_giveNumber : ByteArray := prog_10_method_4_code
def y_T8_finish : MethodName := ⟨R_T8, "finish", "(LStreamFilters$Pass;)V"⟩
abbrev b_T8_finish : ByteArray := prog_10_method_5_code
def y_Un_init : MethodName := ⟨R_Un, "<init>", "()V"⟩
abbrev b_Un_init : ByteArray := prog_11_method_1_code
def y_La_put : MethodName := ⟨R_La, "put", "(LStreamFilters;II[J)I"⟩
abbrev b_La_put : ByteArray := method_3_code
def y_La_cut : MethodName := ⟨R_La, "cut", "(LStreamFilters;I[J)I"⟩
abbrev b_La_cut : ByteArray := method_4_code
def y_La_filter : MethodName := ⟨R_La, "filter", "(LStreamFilters;II[J)I"⟩
abbrev b_La_filter : ByteArray := method_5_code
def y_La_predict : MethodName := ⟨R_La, "predict", "(LStreamFilters;IIII)I"⟩
abbrev b_La_predict : ByteArray := method_6_code
def y_La_budget : MethodName := ⟨R_La, "budget", "(LStreamFilters;I[J)I"⟩
abbrev b_La_budget : ByteArray := method_7_code
def y_La_keep : MethodName := ⟨R_La, "keep", "(LStreamFilters;[J)I"⟩
abbrev b_La_keep : ByteArray := method_8_code
def y_La_law : MethodName := ⟨R_La, "law", "([I)Z"⟩
theorem wmax_1 : Cond.static Lib.Math.max.name ∈ mGood := mg_of (i := 93) (by decide +kernel) rfl
theorem wmath : Cond.initialized "java/lang/Math" ∈ mGood := mg_of (i := 60) (by decide +kernel) rfl
theorem wmin_1 : Cond.static Lib.Math.min.name ∈ mGood := mg_of (i := 368) (by decide +kernel) rfl
theorem wabs_1 : Cond.static Lib.Math.abs.name ∈ mGood := mg_of (i := 628) (by decide +kernel) rfl
theorem wcopy_1 : Cond.native arraycopyName ∈ mGood := mg_of (i := 372) (by decide +kernel) rfl
theorem wcopy_2 : Cond.static arraycopyName ∈ mGood := mg_of (i := 371) (by decide +kernel) rfl
theorem wsystem : Cond.initialized "java/lang/System" ∈ mGood := mg_of (i := 77) (by decide +kernel) rfl
theorem wobj_1 : Cond.instanceMethod Lib.objectInit ∈ mGood := mg_of (i := 84) (by decide +kernel) rfl
theorem wobj_2 : Cond.code Lib.objectInit ⟨#[0xb1]⟩ 1 none ∈ mGood := mg_of (i := 85) (by decide +kernel) rfl
theorem wmax_2 : Cond.code Lib.Math.max.name Lib.Math.max.code 2 (some .int) ∈ mGood := mg_of (i := 94) (by decide +kernel) rfl
theorem wmin_2 : Cond.code Lib.Math.min.name Lib.Math.min.code 2 (some .int) ∈ mGood := mg_of (i := 369) (by decide +kernel) rfl
theorem wabs_2 : Cond.code Lib.Math.abs.name Lib.Math.abs.code 1 (some .int) ∈ mGood := mg_of (i := 629) (by decide +kernel) rfl
end
section
/-! HEAPS BY NUMBERS. A cell's number is its place in the list; 'ad' tells where it lies. A method's own function (f_..) speaks of numbers alone; the rows here say that the machine does as the function says. -/
abbrev mE : Type := (FieldType × vp_A) ⊕ (Nat × List Value)
abbrev mH : Type := List mE
def mv (ad : Nat → Nat) : Value → Value
  | .ref i => .ref (ad i)
  | v => v
def mg (ad : Nat → Nat) (f : Nat → Option Nat) : Nat → Option Nat := fun k => (f k).map ad
def ma (ad : Nat → Nat) (a : vp_A) : vp_A := match a with
  | (n, .inl f) => (n, .inl f)
  | (n, .inr (.inl f)) => (n, .inr (.inl f))
  | (n, .inr (.inr (.inl f))) => (n, .inr (.inr (.inl f)))
  | (n, .inr (.inr (.inr (.inl f)))) => (n, .inr (.inr (.inr (.inl f))))
  | (n, .inr (.inr (.inr (.inr f)))) => (n, .inr (.inr (.inr (.inr (mg ad f)))))
def me (ad : Nat → Nat) (kA : FieldType → ClassId) (q : mE) : va_E := match q with
  | .inl (ty, a) => .inl (kA ty, ma ad a)
  | .inr (ci, fs) => .inr (ci, fs.map (mv ad))
def mW (ad : Nat → Nat) (kA : FieldType → ClassId) (h : mH) : va_W := h.mapIdx (fun i q => (ad i, me ad kA q))
theorem mW_get {ad : Nat → Nat} {kA : FieldType → ClassId} {h : mH} {i : Nat} {q : mE} (hi : h[i]? = some q) : (mW ad kA h)[i]? = some (ad i, me ad kA q) := by
  simp [mW, List.getElem?_mapIdx, hi]
theorem mW_set {ad : Nat → Nat} {kA : FieldType → ClassId} {h : mH} {i : Nat} {q : mE} : (mW ad kA h).set i (ad i, me ad kA q) = mW ad kA (h.set i q) := by
  apply List.ext_getElem?
  intro j
  simp only [mW, List.getElem?_mapIdx, List.getElem?_set, List.length_mapIdx]
  by_cases hij : i = j
  · subst hij
    by_cases hl : i < h.length
    · simp [hl]
    · simp [hl]
  · simp [hij]
theorem mv_cat (ad : Nat → Nat) (v : Value) : (mv ad v).category = v.category := by cases v <;> rfl
def ml (ad : Nat → Nat) (lv : List (Nat × Value)) : List (Nat × Value) := lv.map (fun q => (q.1, mv ad q.2))
theorem ml_get {ad : Nat → Nat} {lv : List (Nat × Value)} {k i : Nat} {v : Value} (h : lv[k]? = some (i, v)) : (ml ad lv)[k]? = some (i, mv ad v) := by
  simp [ml, h]
theorem ml_st1 {ad : Nat → Nat} {lv lv' : List (Nat × Value)} {i : Nat} {v : Value} (h : (i, v) :: lv.filter (fun q => !(q.1 == i) && !(q.1 + 1 == i && q.2.category == 2)) = lv') : (i, mv ad v) :: (ml ad lv).filter (fun q => !(q.1 == i) && !(q.1 + 1 == i && q.2.category == 2)) = ml ad lv' := by
  subst h
  simp only [ml, List.map_cons, List.filter_map]
  congr 2
  apply List.filter_congr
  intro q _
  simp [mv_cat]
theorem ml_st2 {ad : Nat → Nat} {lv lv' : List (Nat × Value)} {i : Nat} {v : Value} (h : (i, v) :: lv.filter (fun q => !(q.1 == i) && (!(q.1 == i + 1) && !(q.1 + 1 == i && q.2.category == 2))) = lv') : (i, mv ad v) :: (ml ad lv).filter (fun q => !(q.1 == i) && (!(q.1 == i + 1) && !(q.1 + 1 == i && q.2.category == 2))) = ml ad lv' := by
  subst h
  simp only [ml, List.map_cons, List.filter_map]
  congr 2
  apply List.filter_congr
  intro q _
  simp [mv_cat]
theorem ml_pick {ad : Nat → Nat} {lv lv' : List (Nat × Value)} {ks : List Nat} (h : lv_pick lv ks = lv') : lv_pick (ml ad lv) ks = ml ad lv' := by
  subst h
  simp only [lv_pick, ml, List.map_filterMap, List.getElem?_map]
/-! THE WORDS of the methods' functions: each reads or writes the cells, and is none where the machine would not go on so -/
def mgi {α : Type} (h : mH) (i ci k : Nat) (F : Int32 → Option α) : Option α := match h[i]? with
  | some (.inr (c, fs)) => if c = ci then (match fs[k]? with | some (.int v) => F v | _ => none) else none
  | _ => none
def mgl {α : Type} (h : mH) (i ci k : Nat) (F : Int64 → Option α) : Option α := match h[i]? with
  | some (.inr (c, fs)) => if c = ci then (match fs[k]? with | some (.long v) => F v | _ => none) else none
  | _ => none
def mgr {α : Type} (h : mH) (i ci k : Nat) (F : Nat → Option α) : Option α := match h[i]? with
  | some (.inr (c, fs)) => if c = ci then (match fs[k]? with | some (.ref v) => F v | _ => none) else none
  | _ => none
def mpt {α : Type} (h : mH) (i ci k : Nat) (v : Value) (F : mH → Option α) : Option α := match h[i]? with
  | some (.inr (c, fs)) => if c = ci ∧ k < fs.length then F (h.set i (.inr (ci, fs.set k v))) else none
  | _ => none
def mai {α : Type} (h : mH) (a : Nat) (ty : FieldType) (j : Int32) (F : Int32 → Option α) : Option α := match h[a]? with
  | some (.inl (t, (n, .inl f))) => if t = ty ∧ ¬ (j < 0 ∨ n ≤ j.toNatClampNeg) then F (f j.toNatClampNeg) else none
  | _ => none
def mas {α : Type} (h : mH) (a : Nat) (ty : FieldType) (j x : Int32) (F : mH → Option α) : Option α := match h[a]? with
  | some (.inl (t, (n, .inl f))) => if t = ty ∧ ¬ (j < 0 ∨ n ≤ j.toNatClampNeg) then F (h.set a (.inl (ty, (n, .inl (upd f j.toNatClampNeg x))))) else none
  | _ => none
def mar {α : Type} (h : mH) (a : Nat) (ty : FieldType) (j : Int32) (F : Nat → Option α) : Option α := match h[a]? with
  | some (.inl (t, (n, .inr (.inr (.inr (.inr f)))))) => if t = ty ∧ ¬ (j < 0 ∨ n ≤ j.toNatClampNeg) then (match f j.toNatClampNeg with | some r => F r | none => none) else none
  | _ => none
def mln {α : Type} (h : mH) (a : Nat) (ty : FieldType) (F : Int32 → Option α) : Option α := match h[a]? with
  | some (.inl (t, x)) => if t = ty then F (nI x.1) else none
  | _ => none
def mcl {α β : Type} (x : Option (α × mH)) (F : α → mH → Option β) : Option β := match x with
  | some (r, h) => F r h
  | none => none
def mis {α : Type} (h : mH) (i ci : Nat) (F : Option α) : Option α := match h[i]? with
  | some (.inr (c, _)) => if c = ci then F else none
  | _ => none
noncomputable def mgd {α : Type} (P : Prop) (F : Option α) : Option α := @ite _ P (Classical.propDecidable P) F none
def msl {α : Type} (f : Nat → Int32) (n : Nat) (j : Int32) (F : Int32 → Option α) : Option α := if ¬ (j < 0 ∨ n ≤ j.toNatClampNeg) then F (f j.toNatClampNeg) else none
def mnm {α β : Type} (x : β) (F : β → Option α) : Option α := F x
section mWords
variable {α β : Type} {h : mH} {i ci k a : Nat} {ty : FieldType} {j x : Int32} {r : α}
theorem mgi_some {F : Int32 → Option α} (hh : mgi h i ci k F = some r) : ∃ (fs : List Value) (v : Int32), h[i]? = some (.inr (ci, fs)) ∧ fs[k]? = some (.int v) ∧ F v = some r := by
  unfold mgi at hh
  split at hh
  · rename_i c fs e
    split at hh
    · rename_i hc
      subst hc
      split at hh
      · rename_i v hv
        exact ⟨fs, v, e, hv, hh⟩
      · cases hh
    · cases hh
  · cases hh
theorem mgl_some {F : Int64 → Option α} (hh : mgl h i ci k F = some r) : ∃ (fs : List Value) (v : Int64), h[i]? = some (.inr (ci, fs)) ∧ fs[k]? = some (.long v) ∧ F v = some r := by
  unfold mgl at hh
  split at hh
  · rename_i c fs e
    split at hh
    · rename_i hc
      subst hc
      split at hh
      · rename_i v hv
        exact ⟨fs, v, e, hv, hh⟩
      · cases hh
    · cases hh
  · cases hh
theorem mgr_some {F : Nat → Option α} (hh : mgr h i ci k F = some r) : ∃ (fs : List Value) (v : Nat), h[i]? = some (.inr (ci, fs)) ∧ fs[k]? = some (.ref v) ∧ F v = some r := by
  unfold mgr at hh
  split at hh
  · rename_i c fs e
    split at hh
    · rename_i hc
      subst hc
      split at hh
      · rename_i v hv
        exact ⟨fs, v, e, hv, hh⟩
      · cases hh
    · cases hh
  · cases hh
theorem mpt_some {v : Value} {F : mH → Option α} (hh : mpt h i ci k v F = some r) : ∃ (fs : List Value) (h' : mH), h[i]? = some (.inr (ci, fs)) ∧ k < fs.length ∧ h' = h.set i (.inr (ci, fs.set k v)) ∧ F h' = some r := by
  unfold mpt at hh
  split at hh
  · rename_i c fs e
    split at hh
    · rename_i hc
      obtain ⟨rfl, hk⟩ := hc
      exact ⟨fs, _, e, hk, rfl, hh⟩
    · cases hh
  · cases hh
theorem mai_some {F : Int32 → Option α} (hh : mai h a ty j F = some r) : ∃ (n : Nat) (f : Nat → Int32) (v : Int32), h[a]? = some (.inl (ty, (n, .inl f))) ∧ vp_in j n ∧ f j.toNatClampNeg = v ∧ F v = some r := by
  unfold mai at hh
  split at hh
  · rename_i t n f e
    split at hh
    · rename_i hc
      obtain ⟨rfl, hk⟩ := hc
      exact ⟨n, f, _, e, hk, rfl, hh⟩
    · cases hh
  · cases hh
theorem mas_some {F : mH → Option α} (hh : mas h a ty j x F = some r) : ∃ (n : Nat) (f : Nat → Int32) (h' : mH), h[a]? = some (.inl (ty, (n, .inl f))) ∧ vp_in j n ∧ h' = h.set a (.inl (ty, (n, .inl (upd f j.toNatClampNeg x)))) ∧ F h' = some r := by
  unfold mas at hh
  split at hh
  · rename_i t n f e
    split at hh
    · rename_i hc
      obtain ⟨rfl, hk⟩ := hc
      exact ⟨n, f, _, e, hk, rfl, hh⟩
    · cases hh
  · cases hh
theorem mar_some {F : Nat → Option α} (hh : mar h a ty j F = some r) : ∃ (n : Nat) (f : Nat → Option Nat) (v : Nat), h[a]? = some (.inl (ty, (n, .inr (.inr (.inr (.inr f)))))) ∧ vp_in j n ∧ f j.toNatClampNeg = some v ∧ F v = some r := by
  unfold mar at hh
  split at hh
  · rename_i t n f e
    split at hh
    · rename_i hc
      obtain ⟨rfl, hk⟩ := hc
      split at hh
      · rename_i v hv
        exact ⟨n, f, v, e, hk, hv, hh⟩
      · cases hh
    · cases hh
  · cases hh
theorem mln_some {F : Int32 → Option α} (hh : mln h a ty F = some r) : ∃ (x : vp_A) (v : Int32), h[a]? = some (.inl (ty, x)) ∧ nI x.1 = v ∧ F v = some r := by
  unfold mln at hh
  split at hh
  · rename_i t x e
    split at hh
    · rename_i hc
      subst hc
      exact ⟨x, _, e, rfl, hh⟩
    · cases hh
  · cases hh
theorem mcl_some {x : Option (β × mH)} {F : β → mH → Option α} (hh : mcl x F = some r) : ∃ (b : β) (h' : mH), x = some (b, h') ∧ F b h' = some r := by
  unfold mcl at hh
  split at hh
  · exact ⟨_, _, rfl, hh⟩
  · cases hh
theorem mis_some {F : Option α} (hh : mis h i ci F = some r) : ∃ fs : List Value, h[i]? = some (.inr (ci, fs)) ∧ F = some r := by
  unfold mis at hh
  split at hh
  · rename_i c fs e
    split at hh
    · rename_i hc
      subst hc
      exact ⟨fs, e, hh⟩
    · cases hh
  · cases hh
theorem mgd_some {P : Prop} {F : Option α} (hh : mgd P F = some r) : P ∧ F = some r := by
  unfold mgd at hh
  split at hh
  · rename_i hp
    exact ⟨hp, hh⟩
  · cases hh
theorem msl_some {f : Nat → Int32} {n : Nat} {F : Int32 → Option α} (hh : msl f n j F = some r) : ∃ v : Int32, vp_in j n ∧ f j.toNatClampNeg = v ∧ F v = some r := by
  unfold msl at hh
  split at hh
  · rename_i hp
    exact ⟨_, hp, rfl, hh⟩
  · cases hh
theorem mnm_some {x : β} {F : β → Option α} (hh : mnm x F = some r) : ∃ y : β, y = x ∧ F y = some r := ⟨x, rfl, hh⟩
end mWords
/-! what the words come to, where the cells are known -/
section mEv
variable {α β : Type} {h : mH} {i ci k a b : Nat} {ty : FieldType} {j x : Int32} {fs : List Value}
theorem mgi_ev {F : Int32 → Option α} {v : Int32} (hi : h[i]? = some (.inr (ci, fs))) (hk : fs[k]? = some (.int v)) : mgi h i ci k F = F v := by simp [mgi, hi, hk]
theorem mgl_ev {F : Int64 → Option α} {v : Int64} (hi : h[i]? = some (.inr (ci, fs))) (hk : fs[k]? = some (.long v)) : mgl h i ci k F = F v := by simp [mgl, hi, hk]
theorem mgr_ev {F : Nat → Option α} {v : Nat} (hi : h[i]? = some (.inr (ci, fs))) (hk : fs[k]? = some (.ref v)) : mgr h i ci k F = F v := by simp [mgr, hi, hk]
theorem mpt_ev {F : mH → Option α} {v : Value} (hi : h[i]? = some (.inr (ci, fs))) (hk : k < fs.length) : mpt h i ci k v F = F (h.set i (.inr (ci, fs.set k v))) := by simp [mpt, hi, hk]
theorem mai_ev {F : Int32 → Option α} {n : Nat} {f : Nat → Int32} (hi : h[a]? = some (.inl (ty, (n, .inl f)))) (hj : vp_in j n) : mai h a ty j F = F (f j.toNatClampNeg) := by
  have hj' : ¬ (j < 0 ∨ n ≤ j.toNatClampNeg) := hj
  simp only [mai, hi, true_and, hj', not_false_eq_true, if_true]
theorem mas_ev {F : mH → Option α} {n : Nat} {f : Nat → Int32} (hi : h[a]? = some (.inl (ty, (n, .inl f)))) (hj : vp_in j n) : mas h a ty j x F = F (h.set a (.inl (ty, (n, .inl (upd f j.toNatClampNeg x))))) := by
  have hj' : ¬ (j < 0 ∨ n ≤ j.toNatClampNeg) := hj
  simp only [mas, hi, true_and, hj', not_false_eq_true, if_true]
theorem mar_ev {F : Nat → Option α} {n r : Nat} {f : Nat → Option Nat} (hi : h[a]? = some (.inl (ty, (n, .inr (.inr (.inr (.inr f))))))) (hj : vp_in j n) (hr : f j.toNatClampNeg = some r) : mar h a ty j F = F r := by
  have hj' : ¬ (j < 0 ∨ n ≤ j.toNatClampNeg) := hj
  simp only [mar, hi, true_and, hj', not_false_eq_true, if_true, hr]
theorem mln_ev {F : Int32 → Option α} {x : vp_A} (hi : h[a]? = some (.inl (ty, x))) : mln h a ty F = F (nI x.1) := by simp [mln, hi]
theorem mcl_ev {x : Option (β × mH)} {F : β → mH → Option α} {r : β} {h' : mH} (hx : x = some (r, h')) : mcl x F = F r h' := by simp [mcl, hx]
theorem mis_ev {F : Option α} (hi : h[i]? = some (.inr (ci, fs))) : mis h i ci F = F := by simp [mis, hi]
theorem mgd_ev {P : Prop} {F : Option α} (hp : P) : mgd P F = F := by simp [mgd, hp]
theorem msl_ev {f : Nat → Int32} {n : Nat} {F : Int32 → Option α} (hj : vp_in j n) : msl f n j F = F (f j.toNatClampNeg) := by
  have hj' : ¬ (j < 0 ∨ n ≤ j.toNatClampNeg) := hj
  simp only [msl, hj', not_false_eq_true, if_true]
theorem mnm_ev {x : β} {F : β → Option α} : mnm x F = F x := rfl
end mEv
end
section
/-! THE JUDGEMENT mAW: the machine, at a method's frame, with the cells h, comes to X's end. -/
abbrev mX : Type := Program × Launch × Env × Room × State × MethodId × Array Value × List Frame × Method × Code × (State → Prop) × (Nat → Prop) × va_G × (FieldType → ClassId) × Nat
/-- the tables: classes, arrays, and the words that speak of nest mates -/
def mK (D : va_G) (kA : FieldType → ClassId) (U : State) : Prop := (∀ (c : Nat) (q : vw_C), classes[c]? = some q → u_Kn U q.1 q.2.1 q.2.2 (D.1 c) (D.2 c)) ∧ (∀ ty ∈ mTys, ArrOfT U (kA ty) ty ∧ va_RA U (kA ty) ty) ∧ ∀ w ∈ mNest, va_Nw w U
/-- the static arrays: class, name, descriptor, kind, length, what they hold; the k-th lies at ad (10000 + k) -/
def mT (ad : Nat → Nat) (A : Nat → Prop) (U : State) (H : Heap) : Prop := ∀ (k : Nat) (q : mSt), mSta[k]? = some q → va_Z q.1 q.2.1 q.2.2.1 (.ref (ad (10000 + k))) A U H ∧ va_T q.2.2.2.1 (ad (10000 + k)) q.2.2.2.2.1 (fun j => .int (q.2.2.2.2.2 j)) A U H
def mAW (X : mX) (ad : Nat → Nat) (cs ss pc : Nat) (lv : List (Nat × Value)) (st : List Value) (h : mH) : Prop := match X with
  | (p, l, e, R, s, m, args, below, meth, c, Q, A, D, kA, nL) => ∀ (H : Heap) (locs : List Loc) (ls : Array Slot), va_P D classes (mW ad kA h) H → va_D A (mW ad kA h) → va_S A s.heap H locs → lv_has ls nL (ml ad lv) → W p l e R s m args below meth c H locs cs ss Q (F0 m pc ls (st.map (mv ad)))
/-- what holds all through a method's body -/
def mO (X : mX) (ad : Nat → Nat) (own : String) (cc : ByteArray) (N : Nat) (Rm : Room) (ln : Launch) : Prop := match X with
  | (p, l, e, R, s, m, args, below, meth, c, Q, A, D, kA, nL) => (p.tables.exec = Jvm.exec ∧ c.code = cc ∧ c.maxLocals = nL ∧ s.vm.findClass own = some m.cls ∧ meth.locks = false ∧ nL = N ∧ R = Rm ∧ l = ln) ∧ (∀ w ∈ mGood, w.before args s = true) ∧ mK D kA s ∧ mT ad A s s.heap ∧ (∀ q, s.heap.size ≤ q → A q)
theorem mK.moved {D : va_G} {kA : FieldType → ClassId} {u U : State} (hW : u.WarmedH U.vm) (h : mK D kA u) : mK D kA U :=
  ⟨fun c q hq => u_Kn_moved hW.alike (h.1 c q hq), fun ty ht => ⟨arrOfT_moved hW.alike (h.2.1 ty ht).1, (h.2.1 ty ht).2.moved hW.alike⟩, fun w hw => mNest_warm w hw hW (h.2.2 w hw)⟩
theorem mK.same {D : va_G} {kA : FieldType → ClassId} {u U : State} (hvm : u.vm = U.vm) (h : mK D kA u) : mK D kA U :=
  have ha : u.vm.Alike U.vm := by rw [hvm]; exact Vm.Alike.refl _
  ⟨fun c q hq => u_Kn_moved ha (h.1 c q hq), fun ty ht => ⟨arrOfT_moved ha (h.2.1 ty ht).1, (h.2.1 ty ht).2.moved ha⟩, fun w hw => mNest_same w hw hvm (h.2.2 w hw)⟩
theorem mKt {D : va_G} {kA : FieldType → ClassId} {s : State} (hK : mK D kA s) {ty : FieldType} (ht : ty ∈ mTys) : va_K D classes [(kA ty, ty)] s := ⟨hK.1, fun k q hq => by
  cases k with
  | zero => cases hq; exact hK.2.1 _ ht
  | succ k => simp at hq⟩
theorem mK0 {D : va_G} {kA : FieldType → ClassId} {s : State} (hK : mK D kA s) : va_K D classes [] s := ⟨hK.1, fun k q hq => by simp at hq⟩
theorem mT.moved {ad : Nat → Nat} {A : Nat → Prop} {u U : State} {H : Heap} (hvm : u.vm.Alike U.vm) (h : mT ad A u H) : mT ad A U H := fun k q hq => ⟨(h k q hq).1.moved hvm, (h k q hq).2.moved hvm⟩
theorem mT.kept {ad : Nat → Nat} {A : Nat → Prop} {U : State} {H H1 : Heap} (h : mT ad A U H) (hq : ∀ a : Nat, a < H.size → ¬ A a → H1[a]? = H[a]?) : mT ad A U H1 := fun k q hk => ⟨(h k q hk).1.kept hq, (h k q hk).2.kept hq⟩
theorem mT.narrow {ad : Nat → Nat} {A B : Nat → Prop} {U : State} {H : Heap} (h : mT ad A U H) (hAB : ∀ q, B q → A q) : mT ad B U H := fun k q hk => ⟨(h k q hk).1.narrow hAB, (h k q hk).2.narrow hAB⟩
/-- a field that is read: by the pool's place ix of the class own; of the class number ci, its kf-th -/
def mFg (own : String) (ix ci kf : Nat) : Prop := ∃ (C : String) (T : u_T) (Nf : Nat), classes[ci]? = some (C, T, Nf) ∧ kf < Nf ∧ (∀ w ∈ u_ws C T Nf, w ∈ mGood) ∧ (Cond.fieldLink own ix (T kf).1 (T kf).2.1 (T kf).2.2.1 ∈ mGood ∨ ∃ host : String, Cond.fieldLinkNest own ix (T kf).1 (T kf).2.1 (T kf).2.2.1 host ∈ mNest)
def mFp (own : String) (ix ci kf : Nat) (ty : FieldType) (fin : Bool) : Prop := ∃ (C : String) (T : u_T) (Nf : Nat) (ty0 : Nat → FieldType), classes[ci]? = some (C, T, Nf) ∧ kf < Nf ∧ (∀ w ∈ u_ws C T Nf, w ∈ mGood) ∧ (Cond.fieldLink own ix (T kf).1 (T kf).2.1 (T kf).2.2.1 ∈ mGood ∨ ∃ host : String, Cond.fieldLinkNest own ix (T kf).1 (T kf).2.1 (T kf).2.2.1 host ∈ mNest) ∧ (∀ k, k < Nf → parseFieldDescriptor (T k).2.2.1 = some (ty0 k)) ∧ (∀ a, a < Nf → ∀ b, b < Nf → a ≠ b → (T a).2.1 ≠ (T b).2.1) ∧ (T kf).2.2.2 = fin ∧ ty0 kf = ty ∧ (fin = true → (T kf).1 = own)
/-- a method that may be called -/
def mCw (y : MethodName) (bytes : ByteArray) (maxL : Nat) (ret : Option FieldType) (n : Nat) : Prop := Cond.code y bytes maxL ret ∈ mGood ∧ Cond.initialized y.cls ∈ mGood ∧ (y.cls ≠ "java/lang/invoke/MethodHandle" ∧ y.cls ≠ "java/lang/invoke/VarHandle") ∧ (parseMethodDescriptor y.desc).map (fun d => d.parameters.length) = some n
def mLk (own : String) (ix : Nat) (y : MethodName) : Prop := Cond.methodLink own ix y ∈ mGood ∨ ∃ host : String, Cond.methodLinkNest own ix y host ∈ mNest
def mPre (D : va_G) (kA : FieldType → ClassId) (ad : Nat → Nat) (As : List Value) (h : mH) (sz : Nat) : Array Value → State → Prop := va_Pc (As.map (mv ad)) (fun U => U.heap.size = sz ∧ va_P D classes (mW ad kA h) U.heap ∧ mK D kA U ∧ mT ad (va_A (mW ad kA h) sz) U U.heap ∧ va_D (fun _ => True) (mW ad kA h))
def mPost (A : Nat → Prop) (D : va_G) (kA : FieldType → ClassId) (ad : Nat → Nat) (v : Option Value) (h : mH) : Array Value → State → Outcome → State → Prop := fun _ st oc t => oc = .returned (v.map (mv ad)) ∧ va_P D classes (mW ad kA h) t.heap ∧ va_D A (mW ad kA h) ∧ va_F A st t
/-- THE CONTRACT: from the cells h, called with As, it answers v, and the cells are h' -/
def mMet (l : Launch) (y : MethodName) (bytes : ByteArray) (maxL : Nat) (ret : Option FieldType) (rm : Room) (As : List Value) (h : mH) (v : Option Value) (h' : mH) : Prop := ∀ (D : va_G) (kA : FieldType → ClassId) (ad : Nat → Nat) (sz : Nat), Met l y (Cond.code y bytes maxL ret :: mGood) rm (mPre D kA ad As h sz) (mPost (va_A (mW ad kA h) sz) D kA ad v h') 0 0 (va_A (mW ad kA h) sz)
/-- the end of a body: what it owes -/
def mEnd (X : mX) (ad : Nat → Nat) (ret : Option FieldType) (v : Option Value) (h : mH) : Prop := match X with
  | (_, _, _, _, s, _, args, below, meth, _, Q, A, D, kA, _) => Q = MQ below (mPost A D kA ad v h) args s 0 0 A ∧ meth.sig.returnType = ret
theorem ml_args (ad : Nat → Nat) (As : List Value) : ∀ i : Nat, ml ad (lv_args i As) = lv_args i (As.map (mv ad)) := by
  induction As with
  | nil => intro i; rfl
  | cons v vs ih =>
    intro i
    simp only [lv_args, List.map_cons, mv_cat]
    rw [← ih]
    rfl
theorem lg_len (ad : Nat → Nat) (As : List Value) : (lg_sl (As.map (mv ad))).length = (lg_sl As).length := by
  induction As with
  | nil => rfl
  | cons v vs ih =>
    simp only [lg_sl, List.map_cons, List.flatMap_cons, List.length_append, mv_cat] at ih ⊢
    rw [ih]
    split <;> rfl
theorem mMet_of {ln : Launch} {y : MethodName} {bytes : ByteArray} {maxL : Nat} {ret : Option FieldType} {rm : Room} {As : List Value} {h : mH} {v : Option Value} {h' : mH} (hy : plainName y.cls = true) (hlen : (lg_sl As).length ≤ maxL)
    (body : ∀ (X : mX) (ad : Nat → Nat), mO X ad y.cls bytes maxL rm ln → mEnd X ad ret v h' → mAW X ad 0 0 0 (lv_args 0 As) [] h) : mMet ln y bytes maxL ret rm As h v h' := by
  intro D kA ad sz
  refine Met.ofW (cc := bytes) (maxL := maxL) (ret := ret) hy rfl ?_
  intro p e s m args below meth c s₁ B hml hv
  obtain ⟨hargs, hsz, hP, hK, hT, hD0⟩ := hv
  subst hsz
  subst hargs
  have hD := hD0.self (sz := s.heap.size)
  have hts := atoms_spec (ws := Cond.code y bytes maxL ret :: mGood) B.pre
  have hown : s.vm.findClass y.cls = some m.cls := findClass_of_methodNamed B.named
  have hl := lv_entry (As.map (mv ad)) (n := maxL) (by rw [lg_len]; exact hlen)
  have hb := body (p, ln, e, rm, s, m, (As.map (mv ad)).toArray, below, meth, c, MQ below (mPost (va_A (mW ad kA h) s.heap.size) D kA ad v h') (As.map (mv ad)).toArray s 0 0 (va_A (mW ad kA h) s.heap.size), va_A (mW ad kA h) s.heap.size, D, kA, maxL) ad ⟨⟨B.exec, B.bytes, hml, hown, B.notSynchronized, rfl, rfl, rfl⟩, fun w hw => hts w (List.mem_cons_of_mem _ hw), hK, hT, fun q hq => Or.inr hq⟩ ⟨rfl, B.returns⟩
  rw [lg_entry_eq]
  exact hb s.heap [] _ hP hD va_S.rf (by rw [ml_args]; exact hl)
section mRows
variable {X : mX} {ad : Nat → Nat} {own : String} {cc : ByteArray} {N cs ss pc : Nat} {lv lv' : List (Nat × Value)} {st : List Value} {h : mH} {Rm : Room} {ln : Launch}
theorem ax_iconst (O : mO X ad own cc N Rm ln) {n : Int} {v : Int32} (d : decode cc pc = .ok (.iconst n, 1)) (hv : Int32.ofInt n = v) (k : mAW X ad cs ss (pc + 1) lv (.int v :: st) h) : mAW X ad cs ss pc lv (st) h := by
  obtain ⟨p, l, e, R, s, m, args, below, meth, c, Q, A, D, kA, nL⟩ := X
  exact fun H locs ls hP hD hS hl => lv_iconst O.1.1 O.1.2.1 d hv (k H locs ls hP hD hS hl)
theorem ax_bipush (O : mO X ad own cc N Rm ln) {n : Int} {v : Int32} (d : decode cc pc = .ok (.bipush n, 2)) (hv : (Int8.ofInt n).toInt32 = v) (k : mAW X ad cs ss (pc + 2) lv (.int v :: st) h) : mAW X ad cs ss pc lv (st) h := by
  obtain ⟨p, l, e, R, s, m, args, below, meth, c, Q, A, D, kA, nL⟩ := X
  exact fun H locs ls hP hD hS hl => lv_bipush O.1.1 O.1.2.1 d hv (k H locs ls hP hD hS hl)
theorem ax_sipush (O : mO X ad own cc N Rm ln) {n : Int} {v : Int32} (d : decode cc pc = .ok (.sipush n, 3)) (hv : (Int16.ofInt n).toInt32 = v) (k : mAW X ad cs ss (pc + 3) lv (.int v :: st) h) : mAW X ad cs ss pc lv (st) h := by
  obtain ⟨p, l, e, R, s, m, args, below, meth, c, Q, A, D, kA, nL⟩ := X
  exact fun H locs ls hP hD hS hl => lv_sipush O.1.1 O.1.2.1 d hv (k H locs ls hP hD hS hl)
theorem ax_lconst (O : mO X ad own cc N Rm ln) {n : Fin 2} {v : Int64} (d : decode cc pc = .ok (.lconst n, 1)) (hv : Int64.ofNat (n : Nat) = v) (k : mAW X ad cs ss (pc + 1) lv (.long v :: st) h) : mAW X ad cs ss pc lv (st) h := by
  obtain ⟨p, l, e, R, s, m, args, below, meth, c, Q, A, D, kA, nL⟩ := X
  exact fun H locs ls hP hD hS hl => lv_lconst O.1.1 O.1.2.1 d hv (k H locs ls hP hD hS hl)
theorem ax_ldc (O : mO X ad own cc N Rm ln) {ix : Nat} {v : Int32} (d : decode cc pc = .ok (.ldc ix, 2)) (hw : Cond.constant own ix v ∈ mGood) (k : mAW X ad cs ss (pc + 2) lv (.int v :: st) h) : mAW X ad cs ss pc lv (st) h := by
  obtain ⟨p, l, e, R, s, m, args, below, meth, c, Q, A, D, kA, nL⟩ := X
  exact fun H locs ls hP hD hS hl => lv_ldc O.1.1 O.1.2.1 O.1.2.2.2.1 (O.2.1 _ hw) d (k H locs ls hP hD hS hl)
theorem ax_ldc2 (O : mO X ad own cc N Rm ln) {ix : Nat} {v : Int64} (d : decode cc pc = .ok (.ldc2_w ix, 3)) (hw : Cond.constantLong own ix v ∈ mGood) (k : mAW X ad cs ss (pc + 3) lv (.long v :: st) h) : mAW X ad cs ss pc lv (st) h := by
  obtain ⟨p, l, e, R, s, m, args, below, meth, c, Q, A, D, kA, nL⟩ := X
  exact fun H locs ls hP hD hS hl => lv_ldc2 O.1.1 O.1.2.1 O.1.2.2.2.1 (O.2.1 _ hw) d (k H locs ls hP hD hS hl)
theorem ax_iload_n (O : mO X ad own cc N Rm ln) {n : Fin 4} {i : Nat} {x : Int32} (d : decode cc pc = .ok (.iload_n n, 1)) (hi : (n : Nat) = i) (j : Nat) (hj : lv[j]? = some (i, .int x)) (k : mAW X ad cs ss (pc + 1) lv (.int x :: st) h) : mAW X ad cs ss pc lv (st) h := by
  obtain ⟨p, l, e, R, s, m, args, below, meth, c, Q, A, D, kA, nL⟩ := X
  exact fun H locs ls hP hD hS hl => lv_iload_n O.1.1 O.1.2.1 d hi (lv_at hl j (ml_get hj)) (k H locs ls hP hD hS hl)
theorem ax_iload (O : mO X ad own cc N Rm ln) {i : Nat} {x : Int32} (d : decode cc pc = .ok (.iload i, 2)) (j : Nat) (hj : lv[j]? = some (i, .int x)) (k : mAW X ad cs ss (pc + 2) lv (.int x :: st) h) : mAW X ad cs ss pc lv (st) h := by
  obtain ⟨p, l, e, R, s, m, args, below, meth, c, Q, A, D, kA, nL⟩ := X
  exact fun H locs ls hP hD hS hl => lv_iload O.1.1 O.1.2.1 d (lv_at hl j (ml_get hj)) (k H locs ls hP hD hS hl)
theorem ax_lload_n (O : mO X ad own cc N Rm ln) {n : Fin 4} {i : Nat} {x : Int64} (d : decode cc pc = .ok (.lload_n n, 1)) (hi : (n : Nat) = i) (j : Nat) (hj : lv[j]? = some (i, .long x)) (k : mAW X ad cs ss (pc + 1) lv (.long x :: st) h) : mAW X ad cs ss pc lv (st) h := by
  obtain ⟨p, l, e, R, s, m, args, below, meth, c, Q, A, D, kA, nL⟩ := X
  exact fun H locs ls hP hD hS hl => lv_lload_n O.1.1 O.1.2.1 d hi (lv_at hl j (ml_get hj)) (k H locs ls hP hD hS hl)
theorem ax_lload (O : mO X ad own cc N Rm ln) {i : Nat} {x : Int64} (d : decode cc pc = .ok (.lload i, 2)) (j : Nat) (hj : lv[j]? = some (i, .long x)) (k : mAW X ad cs ss (pc + 2) lv (.long x :: st) h) : mAW X ad cs ss pc lv (st) h := by
  obtain ⟨p, l, e, R, s, m, args, below, meth, c, Q, A, D, kA, nL⟩ := X
  exact fun H locs ls hP hD hS hl => lv_lload O.1.1 O.1.2.1 d (lv_at hl j (ml_get hj)) (k H locs ls hP hD hS hl)
theorem ax_aload_n (O : mO X ad own cc N Rm ln) {n : Fin 4} {i : Nat} {x : Nat} (d : decode cc pc = .ok (.aload_n n, 1)) (hi : (n : Nat) = i) (j : Nat) (hj : lv[j]? = some (i, .ref x)) (k : mAW X ad cs ss (pc + 1) lv (.ref x :: st) h) : mAW X ad cs ss pc lv (st) h := by
  obtain ⟨p, l, e, R, s, m, args, below, meth, c, Q, A, D, kA, nL⟩ := X
  exact fun H locs ls hP hD hS hl => lv_aload_n O.1.1 O.1.2.1 d hi (lv_at hl j (ml_get hj)) (k H locs ls hP hD hS hl)
theorem ax_aload (O : mO X ad own cc N Rm ln) {i : Nat} {x : Nat} (d : decode cc pc = .ok (.aload i, 2)) (j : Nat) (hj : lv[j]? = some (i, .ref x)) (k : mAW X ad cs ss (pc + 2) lv (.ref x :: st) h) : mAW X ad cs ss pc lv (st) h := by
  obtain ⟨p, l, e, R, s, m, args, below, meth, c, Q, A, D, kA, nL⟩ := X
  exact fun H locs ls hP hD hS hl => lv_aload O.1.1 O.1.2.1 d (lv_at hl j (ml_get hj)) (k H locs ls hP hD hS hl)
theorem ax_istore_n (O : mO X ad own cc N Rm ln) {n : Fin 4} {i : Nat} {x : Int32} (d : decode cc pc = .ok (.istore_n n, 1)) (hi : (n : Nat) = i) (hn : i < N) (he : (i, .int x) :: lv.filter (fun q => !(q.1 == i) && !(q.1 + 1 == i && q.2.category == 2)) = lv') (k : mAW X ad cs ss (pc + 1) lv' st h) : mAW X ad cs ss pc lv (.int x :: st) h := by
  obtain ⟨p, l, e, R, s, m, args, below, meth, c, Q, A, D, kA, nL⟩ := X
  obtain ⟨O1, O2⟩ := O
  obtain ⟨hx, hb, hm, ho, hk, rfl, hR, hln⟩ := O1
  exact fun H locs ls hP hD hS hl => lv_istore_n hx hb d hi hl hn (ml_st1 he) (fun ls hl => k H locs ls hP hD hS hl)
theorem ax_istore (O : mO X ad own cc N Rm ln) {i : Nat} {x : Int32} (d : decode cc pc = .ok (.istore i, 2))  (hn : i < N) (he : (i, .int x) :: lv.filter (fun q => !(q.1 == i) && !(q.1 + 1 == i && q.2.category == 2)) = lv') (k : mAW X ad cs ss (pc + 2) lv' st h) : mAW X ad cs ss pc lv (.int x :: st) h := by
  obtain ⟨p, l, e, R, s, m, args, below, meth, c, Q, A, D, kA, nL⟩ := X
  obtain ⟨O1, O2⟩ := O
  obtain ⟨hx, hb, hm, ho, hk, rfl, hR, hln⟩ := O1
  exact fun H locs ls hP hD hS hl => lv_istore hx hb d hl hn (ml_st1 he) (fun ls hl => k H locs ls hP hD hS hl)
theorem ax_astore_n (O : mO X ad own cc N Rm ln) {n : Fin 4} {i : Nat} {x : Nat} (d : decode cc pc = .ok (.astore_n n, 1)) (hi : (n : Nat) = i) (hn : i < N) (he : (i, .ref x) :: lv.filter (fun q => !(q.1 == i) && !(q.1 + 1 == i && q.2.category == 2)) = lv') (k : mAW X ad cs ss (pc + 1) lv' st h) : mAW X ad cs ss pc lv (.ref x :: st) h := by
  obtain ⟨p, l, e, R, s, m, args, below, meth, c, Q, A, D, kA, nL⟩ := X
  obtain ⟨O1, O2⟩ := O
  obtain ⟨hx, hb, hm, ho, hk, rfl, hR, hln⟩ := O1
  exact fun H locs ls hP hD hS hl => lv_astore_n hx hb d hi hl hn (ml_st1 he) (fun ls hl => k H locs ls hP hD hS hl)
theorem ax_astore (O : mO X ad own cc N Rm ln) {i : Nat} {x : Nat} (d : decode cc pc = .ok (.astore i, 2))  (hn : i < N) (he : (i, .ref x) :: lv.filter (fun q => !(q.1 == i) && !(q.1 + 1 == i && q.2.category == 2)) = lv') (k : mAW X ad cs ss (pc + 2) lv' st h) : mAW X ad cs ss pc lv (.ref x :: st) h := by
  obtain ⟨p, l, e, R, s, m, args, below, meth, c, Q, A, D, kA, nL⟩ := X
  obtain ⟨O1, O2⟩ := O
  obtain ⟨hx, hb, hm, ho, hk, rfl, hR, hln⟩ := O1
  exact fun H locs ls hP hD hS hl => lv_astore hx hb d hl hn (ml_st1 he) (fun ls hl => k H locs ls hP hD hS hl)
theorem ax_lstore_n (O : mO X ad own cc N Rm ln) {n : Fin 4} {i : Nat} {x : Int64} (d : decode cc pc = .ok (.lstore_n n, 1)) (hi : (n : Nat) = i) (hn : i + 1 < N) (he : (i, .long x) :: lv.filter (fun q => !(q.1 == i) && (!(q.1 == i + 1) && !(q.1 + 1 == i && q.2.category == 2))) = lv') (k : mAW X ad cs ss (pc + 1) lv' st h) : mAW X ad cs ss pc lv (.long x :: st) h := by
  obtain ⟨p, l, e, R, s, m, args, below, meth, c, Q, A, D, kA, nL⟩ := X
  obtain ⟨O1, O2⟩ := O
  obtain ⟨hx, hb, hm, ho, hk, rfl, hR, hln⟩ := O1
  exact fun H locs ls hP hD hS hl => lv_lstore_n hx hb d hi hl hn (ml_st2 he) (fun ls hl => k H locs ls hP hD hS hl)
theorem ax_lstore (O : mO X ad own cc N Rm ln) {i : Nat} {x : Int64} (d : decode cc pc = .ok (.lstore i, 2))  (hn : i + 1 < N) (he : (i, .long x) :: lv.filter (fun q => !(q.1 == i) && (!(q.1 == i + 1) && !(q.1 + 1 == i && q.2.category == 2))) = lv') (k : mAW X ad cs ss (pc + 2) lv' st h) : mAW X ad cs ss pc lv (.long x :: st) h := by
  obtain ⟨p, l, e, R, s, m, args, below, meth, c, Q, A, D, kA, nL⟩ := X
  obtain ⟨O1, O2⟩ := O
  obtain ⟨hx, hb, hm, ho, hk, rfl, hR, hln⟩ := O1
  exact fun H locs ls hP hD hS hl => lv_lstore hx hb d hl hn (ml_st2 he) (fun ls hl => k H locs ls hP hD hS hl)
theorem ax_iinc (O : mO X ad own cc N Rm ln) {i j : Nat} {n : Int} {x v : Int32} (d : decode cc pc = .ok (.iinc i n, 3)) (hj : lv[j]? = some (i, .int x)) (hv : x + Int32.ofInt n = v) (hn : i < N) (he : (i, Value.int v) :: lv.filter (fun q => !(q.1 == i) && !(q.1 + 1 == i && q.2.category == 2)) = lv') (k : mAW X ad cs ss (pc + 3) lv' st h) : mAW X ad cs ss pc lv st h := by
  obtain ⟨p, l, e, R, s, m, args, below, meth, c, Q, A, D, kA, nL⟩ := X
  obtain ⟨O1, O2⟩ := O
  obtain ⟨hx, hb, hm, ho, hk, rfl, hR, hln⟩ := O1
  exact fun H locs ls hP hD hS hl => lv_iinc (k := j) hx hb d hl (ml_get hj) hv hn (ml_st1 (v := .int v) he) (fun ls hl => k H locs ls hP hD hS hl)
theorem ax_iadd (O : mO X ad own cc N Rm ln) {x y : Int32} (d : decode cc pc = .ok (.iadd, 1))  (k : mAW X ad cs ss (pc + 1) lv (.int (x + y) :: st) h) : mAW X ad cs ss pc lv (.int y :: .int x :: st) h := by
  obtain ⟨p, l, e, R, s, m, args, below, meth, c, Q, A, D, kA, nL⟩ := X
  exact fun H locs ls hP hD hS hl => lv_iadd O.1.1 O.1.2.1 d (k H locs ls hP hD hS hl)
theorem ax_isub (O : mO X ad own cc N Rm ln) {x y : Int32} (d : decode cc pc = .ok (.isub, 1))  (k : mAW X ad cs ss (pc + 1) lv (.int (x - y) :: st) h) : mAW X ad cs ss pc lv (.int y :: .int x :: st) h := by
  obtain ⟨p, l, e, R, s, m, args, below, meth, c, Q, A, D, kA, nL⟩ := X
  exact fun H locs ls hP hD hS hl => lv_isub O.1.1 O.1.2.1 d (k H locs ls hP hD hS hl)
theorem ax_imul (O : mO X ad own cc N Rm ln) {x y : Int32} (d : decode cc pc = .ok (.imul, 1))  (k : mAW X ad cs ss (pc + 1) lv (.int (x * y) :: st) h) : mAW X ad cs ss pc lv (.int y :: .int x :: st) h := by
  obtain ⟨p, l, e, R, s, m, args, below, meth, c, Q, A, D, kA, nL⟩ := X
  exact fun H locs ls hP hD hS hl => lv_imul O.1.1 O.1.2.1 d (k H locs ls hP hD hS hl)
theorem ax_iand (O : mO X ad own cc N Rm ln) {x y : Int32} (d : decode cc pc = .ok (.iand, 1))  (k : mAW X ad cs ss (pc + 1) lv (.int (x &&& y) :: st) h) : mAW X ad cs ss pc lv (.int y :: .int x :: st) h := by
  obtain ⟨p, l, e, R, s, m, args, below, meth, c, Q, A, D, kA, nL⟩ := X
  exact fun H locs ls hP hD hS hl => lv_iand O.1.1 O.1.2.1 d (k H locs ls hP hD hS hl)
theorem ax_ior (O : mO X ad own cc N Rm ln) {x y : Int32} (d : decode cc pc = .ok (.ior, 1))  (k : mAW X ad cs ss (pc + 1) lv (.int (x ||| y) :: st) h) : mAW X ad cs ss pc lv (.int y :: .int x :: st) h := by
  obtain ⟨p, l, e, R, s, m, args, below, meth, c, Q, A, D, kA, nL⟩ := X
  exact fun H locs ls hP hD hS hl => lv_ior O.1.1 O.1.2.1 d (k H locs ls hP hD hS hl)
theorem ax_ixor (O : mO X ad own cc N Rm ln) {x y : Int32} (d : decode cc pc = .ok (.ixor, 1))  (k : mAW X ad cs ss (pc + 1) lv (.int (x ^^^ y) :: st) h) : mAW X ad cs ss pc lv (.int y :: .int x :: st) h := by
  obtain ⟨p, l, e, R, s, m, args, below, meth, c, Q, A, D, kA, nL⟩ := X
  exact fun H locs ls hP hD hS hl => lv_ixor O.1.1 O.1.2.1 d (k H locs ls hP hD hS hl)
theorem ax_ishl (O : mO X ad own cc N Rm ln) {x y : Int32} (d : decode cc pc = .ok (.ishl, 1))  (k : mAW X ad cs ss (pc + 1) lv (.int (x <<< (y &&& 31)) :: st) h) : mAW X ad cs ss pc lv (.int y :: .int x :: st) h := by
  obtain ⟨p, l, e, R, s, m, args, below, meth, c, Q, A, D, kA, nL⟩ := X
  exact fun H locs ls hP hD hS hl => lv_ishl O.1.1 O.1.2.1 d (k H locs ls hP hD hS hl)
theorem ax_ishr (O : mO X ad own cc N Rm ln) {x y : Int32} (d : decode cc pc = .ok (.ishr, 1))  (k : mAW X ad cs ss (pc + 1) lv (.int (x >>> (y &&& 31)) :: st) h) : mAW X ad cs ss pc lv (.int y :: .int x :: st) h := by
  obtain ⟨p, l, e, R, s, m, args, below, meth, c, Q, A, D, kA, nL⟩ := X
  exact fun H locs ls hP hD hS hl => lv_ishr O.1.1 O.1.2.1 d (k H locs ls hP hD hS hl)
theorem ax_idiv (O : mO X ad own cc N Rm ln) {x y : Int32} (d : decode cc pc = .ok (.idiv, 1)) (hne : ¬ y = 0) (k : mAW X ad cs ss (pc + 1) lv (.int (x / y) :: st) h) : mAW X ad cs ss pc lv (.int y :: .int x :: st) h := by
  obtain ⟨p, l, e, R, s, m, args, below, meth, c, Q, A, D, kA, nL⟩ := X
  exact fun H locs ls hP hD hS hl => lv_idiv O.1.1 O.1.2.1 d hne (k H locs ls hP hD hS hl)
theorem ax_irem (O : mO X ad own cc N Rm ln) {x y : Int32} (d : decode cc pc = .ok (.irem, 1)) (hne : ¬ y = 0) (k : mAW X ad cs ss (pc + 1) lv (.int (x - x / y * y) :: st) h) : mAW X ad cs ss pc lv (.int y :: .int x :: st) h := by
  obtain ⟨p, l, e, R, s, m, args, below, meth, c, Q, A, D, kA, nL⟩ := X
  exact fun H locs ls hP hD hS hl => lv_irem O.1.1 O.1.2.1 d hne (k H locs ls hP hD hS hl)
theorem ax_ineg (O : mO X ad own cc N Rm ln) {x : Int32} (d : decode cc pc = .ok (.ineg, 1))  (k : mAW X ad cs ss (pc + 1) lv (.int (-x) :: st) h) : mAW X ad cs ss pc lv (.int x :: st) h := by
  obtain ⟨p, l, e, R, s, m, args, below, meth, c, Q, A, D, kA, nL⟩ := X
  exact fun H locs ls hP hD hS hl => lv_ineg O.1.1 O.1.2.1 d (k H locs ls hP hD hS hl)
theorem ax_iushr (O : mO X ad own cc N Rm ln) {x y : Int32} (d : decode cc pc = .ok (.iushr, 1))  (k : mAW X ad cs ss (pc + 1) lv (.int (x.toUInt32 >>> (y.toUInt32 &&& Int32.toUInt32 31)).toInt32 :: st) h) : mAW X ad cs ss pc lv (.int y :: .int x :: st) h := by
  obtain ⟨p, l, e, R, s, m, args, below, meth, c, Q, A, D, kA, nL⟩ := X
  exact fun H locs ls hP hD hS hl => lv_iushr O.1.1 O.1.2.1 d rfl (k H locs ls hP hD hS hl)
theorem ax_ladd (O : mO X ad own cc N Rm ln) {x y : Int64} (d : decode cc pc = .ok (.ladd, 1))  (k : mAW X ad cs ss (pc + 1) lv (.long (x + y) :: st) h) : mAW X ad cs ss pc lv (.long y :: .long x :: st) h := by
  obtain ⟨p, l, e, R, s, m, args, below, meth, c, Q, A, D, kA, nL⟩ := X
  exact fun H locs ls hP hD hS hl => lv_ladd O.1.1 O.1.2.1 d (k H locs ls hP hD hS hl)
theorem ax_lsub (O : mO X ad own cc N Rm ln) {x y : Int64} (d : decode cc pc = .ok (.lsub, 1))  (k : mAW X ad cs ss (pc + 1) lv (.long (x - y) :: st) h) : mAW X ad cs ss pc lv (.long y :: .long x :: st) h := by
  obtain ⟨p, l, e, R, s, m, args, below, meth, c, Q, A, D, kA, nL⟩ := X
  exact fun H locs ls hP hD hS hl => lv_lsub O.1.1 O.1.2.1 d (k H locs ls hP hD hS hl)
theorem ax_lmul (O : mO X ad own cc N Rm ln) {x y : Int64} (d : decode cc pc = .ok (.lmul, 1))  (k : mAW X ad cs ss (pc + 1) lv (.long (x * y) :: st) h) : mAW X ad cs ss pc lv (.long y :: .long x :: st) h := by
  obtain ⟨p, l, e, R, s, m, args, below, meth, c, Q, A, D, kA, nL⟩ := X
  exact fun H locs ls hP hD hS hl => lv_lmul O.1.1 O.1.2.1 d (k H locs ls hP hD hS hl)
theorem ax_land (O : mO X ad own cc N Rm ln) {x y : Int64} (d : decode cc pc = .ok (.land, 1))  (k : mAW X ad cs ss (pc + 1) lv (.long (x &&& y) :: st) h) : mAW X ad cs ss pc lv (.long y :: .long x :: st) h := by
  obtain ⟨p, l, e, R, s, m, args, below, meth, c, Q, A, D, kA, nL⟩ := X
  exact fun H locs ls hP hD hS hl => lv_land O.1.1 O.1.2.1 d (k H locs ls hP hD hS hl)
theorem ax_lor (O : mO X ad own cc N Rm ln) {x y : Int64} (d : decode cc pc = .ok (.lor, 1))  (k : mAW X ad cs ss (pc + 1) lv (.long (x ||| y) :: st) h) : mAW X ad cs ss pc lv (.long y :: .long x :: st) h := by
  obtain ⟨p, l, e, R, s, m, args, below, meth, c, Q, A, D, kA, nL⟩ := X
  exact fun H locs ls hP hD hS hl => lv_lor O.1.1 O.1.2.1 d (k H locs ls hP hD hS hl)
theorem ax_lxor (O : mO X ad own cc N Rm ln) {x y : Int64} (d : decode cc pc = .ok (.lxor, 1))  (k : mAW X ad cs ss (pc + 1) lv (.long (x ^^^ y) :: st) h) : mAW X ad cs ss pc lv (.long y :: .long x :: st) h := by
  obtain ⟨p, l, e, R, s, m, args, below, meth, c, Q, A, D, kA, nL⟩ := X
  exact fun H locs ls hP hD hS hl => lv_lxor O.1.1 O.1.2.1 d (k H locs ls hP hD hS hl)
theorem ax_ldiv (O : mO X ad own cc N Rm ln) {x y : Int64} (d : decode cc pc = .ok (.ldiv, 1)) (hne : ¬ y = 0) (k : mAW X ad cs ss (pc + 1) lv (.long (x / y) :: st) h) : mAW X ad cs ss pc lv (.long y :: .long x :: st) h := by
  obtain ⟨p, l, e, R, s, m, args, below, meth, c, Q, A, D, kA, nL⟩ := X
  exact fun H locs ls hP hD hS hl => lv_ldiv O.1.1 O.1.2.1 d hne (k H locs ls hP hD hS hl)
theorem ax_lrem (O : mO X ad own cc N Rm ln) {x y : Int64} (d : decode cc pc = .ok (.lrem, 1)) (hne : ¬ y = 0) (k : mAW X ad cs ss (pc + 1) lv (.long (x - x / y * y) :: st) h) : mAW X ad cs ss pc lv (.long y :: .long x :: st) h := by
  obtain ⟨p, l, e, R, s, m, args, below, meth, c, Q, A, D, kA, nL⟩ := X
  exact fun H locs ls hP hD hS hl => lv_lrem O.1.1 O.1.2.1 d hne (k H locs ls hP hD hS hl)
theorem ax_lshr (O : mO X ad own cc N Rm ln) {x : Int64} {y : Int32} (d : decode cc pc = .ok (.lshr, 1))  (k : mAW X ad cs ss (pc + 1) lv (.long (x >>> (y.toInt64 &&& 63)) :: st) h) : mAW X ad cs ss pc lv (.int y :: .long x :: st) h := by
  obtain ⟨p, l, e, R, s, m, args, below, meth, c, Q, A, D, kA, nL⟩ := X
  exact fun H locs ls hP hD hS hl => lv_lshr O.1.1 O.1.2.1 d rfl (k H locs ls hP hD hS hl)
theorem ax_lshl (O : mO X ad own cc N Rm ln) {x : Int64} {y : Int32} (d : decode cc pc = .ok (.lshl, 1))  (k : mAW X ad cs ss (pc + 1) lv (.long (x <<< (y.toInt64 &&& 63)) :: st) h) : mAW X ad cs ss pc lv (.int y :: .long x :: st) h := by
  obtain ⟨p, l, e, R, s, m, args, below, meth, c, Q, A, D, kA, nL⟩ := X
  exact fun H locs ls hP hD hS hl => lv_lshl O.1.1 O.1.2.1 d rfl (k H locs ls hP hD hS hl)
theorem ax_lushr (O : mO X ad own cc N Rm ln) {x : Int64} {y : Int32} (d : decode cc pc = .ok (.lushr, 1))  (k : mAW X ad cs ss (pc + 1) lv (.long (x.toUInt64 >>> (y.toInt64.toUInt64 &&& Int64.toUInt64 63)).toInt64 :: st) h) : mAW X ad cs ss pc lv (.int y :: .long x :: st) h := by
  obtain ⟨p, l, e, R, s, m, args, below, meth, c, Q, A, D, kA, nL⟩ := X
  exact fun H locs ls hP hD hS hl => lv_lushr O.1.1 O.1.2.1 d rfl (k H locs ls hP hD hS hl)
theorem ax_lcmp (O : mO X ad own cc N Rm ln) {x y : Int64} (d : decode cc pc = .ok (.lcmp, 1))  (k : mAW X ad cs ss (pc + 1) lv (.int (lg_cmp x y) :: st) h) : mAW X ad cs ss pc lv (.long y :: .long x :: st) h := by
  obtain ⟨p, l, e, R, s, m, args, below, meth, c, Q, A, D, kA, nL⟩ := X
  exact fun H locs ls hP hD hS hl => W.lcmp O.1.1 O.1.2.1 d (k H locs ls hP hD hS hl)
theorem ax_i2l (O : mO X ad own cc N Rm ln) {x : Int32} (d : decode cc pc = .ok (.i2l, 1))  (k : mAW X ad cs ss (pc + 1) lv (.long x.toInt64 :: st) h) : mAW X ad cs ss pc lv (.int x :: st) h := by
  obtain ⟨p, l, e, R, s, m, args, below, meth, c, Q, A, D, kA, nL⟩ := X
  exact fun H locs ls hP hD hS hl => lv_i2l O.1.1 O.1.2.1 d rfl (k H locs ls hP hD hS hl)
theorem ax_l2i (O : mO X ad own cc N Rm ln) {x : Int64} (d : decode cc pc = .ok (.l2i, 1))  (k : mAW X ad cs ss (pc + 1) lv (.int x.toInt32 :: st) h) : mAW X ad cs ss pc lv (.long x :: st) h := by
  obtain ⟨p, l, e, R, s, m, args, below, meth, c, Q, A, D, kA, nL⟩ := X
  exact fun H locs ls hP hD hS hl => lv_l2i O.1.1 O.1.2.1 d rfl (k H locs ls hP hD hS hl)
theorem ax_i2b (O : mO X ad own cc N Rm ln) {x : Int32} (d : decode cc pc = .ok (.i2b, 1))  (k : mAW X ad cs ss (pc + 1) lv (.int x.toInt8.toInt32 :: st) h) : mAW X ad cs ss pc lv (.int x :: st) h := by
  obtain ⟨p, l, e, R, s, m, args, below, meth, c, Q, A, D, kA, nL⟩ := X
  exact fun H locs ls hP hD hS hl => lv_i2b O.1.1 O.1.2.1 d rfl (k H locs ls hP hD hS hl)
theorem ax_i2c (O : mO X ad own cc N Rm ln) {x : Int32} (d : decode cc pc = .ok (.i2c, 1))  (k : mAW X ad cs ss (pc + 1) lv (.int (x.toUInt32 % 65536).toInt32 :: st) h) : mAW X ad cs ss pc lv (.int x :: st) h := by
  obtain ⟨p, l, e, R, s, m, args, below, meth, c, Q, A, D, kA, nL⟩ := X
  exact fun H locs ls hP hD hS hl => lv_i2c O.1.1 O.1.2.1 d rfl (k H locs ls hP hD hS hl)
theorem ax_dup (O : mO X ad own cc N Rm ln) {v : Value} (d : decode cc pc = .ok (.dup, 1)) (hv : v.category = 1) (k : mAW X ad cs ss (pc + 1) lv (v :: v :: st) h) : mAW X ad cs ss pc lv (v :: st) h := by
  obtain ⟨p, l, e, R, s, m, args, below, meth, c, Q, A, D, kA, nL⟩ := X
  exact fun H locs ls hP hD hS hl => lv_dup O.1.1 O.1.2.1 d ((mv_cat ad v).trans hv) (k H locs ls hP hD hS hl)
theorem ax_pop (O : mO X ad own cc N Rm ln) {v : Value} (d : decode cc pc = .ok (.pop, 1)) (hv : v.category = 1) (k : mAW X ad cs ss (pc + 1) lv (st) h) : mAW X ad cs ss pc lv (v :: st) h := by
  obtain ⟨p, l, e, R, s, m, args, below, meth, c, Q, A, D, kA, nL⟩ := X
  exact fun H locs ls hP hD hS hl => lv_pop O.1.1 O.1.2.1 d ((mv_cat ad v).trans hv) (k H locs ls hP hD hS hl)
theorem ax_pop2 (O : mO X ad own cc N Rm ln) {v : Value} (d : decode cc pc = .ok (.pop2, 1)) (hv : v.category = 2) (k : mAW X ad cs ss (pc + 1) lv (st) h) : mAW X ad cs ss pc lv (v :: st) h := by
  obtain ⟨p, l, e, R, s, m, args, below, meth, c, Q, A, D, kA, nL⟩ := X
  exact fun H locs ls hP hD hS hl => lv_pop2_2 O.1.1 O.1.2.1 d ((mv_cat ad v).trans hv) (k H locs ls hP hD hS hl)
theorem ax_dup_x1 (O : mO X ad own cc N Rm ln) {v w : Value} (d : decode cc pc = .ok (.dup_x1, 1)) (hv : v.category = 1) (hw : w.category = 1) (k : mAW X ad cs ss (pc + 1) lv (v :: w :: v :: st) h) : mAW X ad cs ss pc lv (v :: w :: st) h := by
  obtain ⟨p, l, e, R, s, m, args, below, meth, c, Q, A, D, kA, nL⟩ := X
  exact fun H locs ls hP hD hS hl => lv_dup_x1 O.1.1 O.1.2.1 d ((mv_cat ad v).trans hv) ((mv_cat ad w).trans hw) (k H locs ls hP hD hS hl)
theorem ax_dup_x2 (O : mO X ad own cc N Rm ln) {v w z : Value} (d : decode cc pc = .ok (.dup_x2, 1)) (hv : v.category = 1) (hw : w.category = 1) (hz : z.category = 1) (k : mAW X ad cs ss (pc + 1) lv (v :: w :: z :: v :: st) h) : mAW X ad cs ss pc lv (v :: w :: z :: st) h := by
  obtain ⟨p, l, e, R, s, m, args, below, meth, c, Q, A, D, kA, nL⟩ := X
  exact fun H locs ls hP hD hS hl => lv_dup_x2 O.1.1 O.1.2.1 d ((mv_cat ad v).trans hv) ((mv_cat ad w).trans hw) ((mv_cat ad z).trans hz) (k H locs ls hP hD hS hl)
theorem ax_dup2 (O : mO X ad own cc N Rm ln) {v w : Value} (d : decode cc pc = .ok (.dup2, 1)) (hv : v.category = 1) (hw : w.category = 1) (k : mAW X ad cs ss (pc + 1) lv (v :: w :: v :: w :: st) h) : mAW X ad cs ss pc lv (v :: w :: st) h := by
  obtain ⟨p, l, e, R, s, m, args, below, meth, c, Q, A, D, kA, nL⟩ := X
  exact fun H locs ls hP hD hS hl => lv_dup2_11 O.1.1 O.1.2.1 d ((mv_cat ad v).trans hv) ((mv_cat ad w).trans hw) (k H locs ls hP hD hS hl)
theorem ax_dup2l (O : mO X ad own cc N Rm ln) {v : Value} (d : decode cc pc = .ok (.dup2, 1)) (hv : v.category = 2) (k : mAW X ad cs ss (pc + 1) lv (v :: v :: st) h) : mAW X ad cs ss pc lv (v :: st) h := by
  obtain ⟨p, l, e, R, s, m, args, below, meth, c, Q, A, D, kA, nL⟩ := X
  exact fun H locs ls hP hD hS hl => lv_dup2_2 O.1.1 O.1.2.1 d ((mv_cat ad v).trans hv) (k H locs ls hP hD hS hl)
theorem ax_dup2_x1l (O : mO X ad own cc N Rm ln) {v w : Value} (d : decode cc pc = .ok (.dup2_x1, 1)) (hv : v.category = 2) (hw : w.category = 1) (k : mAW X ad cs ss (pc + 1) lv (v :: w :: v :: st) h) : mAW X ad cs ss pc lv (v :: w :: st) h := by
  obtain ⟨p, l, e, R, s, m, args, below, meth, c, Q, A, D, kA, nL⟩ := X
  exact fun H locs ls hP hD hS hl => lv_dup2_x1_2 O.1.1 O.1.2.1 d ((mv_cat ad v).trans hv) ((mv_cat ad w).trans hw) (k H locs ls hP hD hS hl)
theorem ax_if_eq (O : mO X ad own cc N Rm ln) {x : Int32} {off : Int} {tgt : Nat} (d : decode cc pc = .ok (.ifCond .eq off, 3)) (ht : (pc : Int) + off = (tgt : Int)) (kt : x = 0 → mAW X ad cs ss tgt lv st h) (kf : ¬ x = 0 → mAW X ad cs ss (pc + 3) lv st h) : mAW X ad cs ss pc lv (.int x :: st) h := by
  obtain ⟨p, l, e, R, s, m, args, below, meth, c, Q, A, D, kA, nL⟩ := X
  exact fun H locs ls hP hD hS hl => lv_if_eq O.1.1 O.1.2.1 d ht (fun q => kt q H locs ls hP hD hS hl) (fun q => kf q H locs ls hP hD hS hl)
theorem ax_icmp_eq (O : mO X ad own cc N Rm ln) {x y : Int32} {off : Int} {tgt : Nat} (d : decode cc pc = .ok (.if_icmp .eq off, 3)) (ht : (pc : Int) + off = (tgt : Int)) (kt : x = y → mAW X ad cs ss tgt lv st h) (kf : ¬ x = y → mAW X ad cs ss (pc + 3) lv st h) : mAW X ad cs ss pc lv (.int y :: .int x :: st) h := by
  obtain ⟨p, l, e, R, s, m, args, below, meth, c, Q, A, D, kA, nL⟩ := X
  exact fun H locs ls hP hD hS hl => lv_icmp_eq O.1.1 O.1.2.1 d ht (fun q => kt q H locs ls hP hD hS hl) (fun q => kf q H locs ls hP hD hS hl)
theorem ax_if_ne (O : mO X ad own cc N Rm ln) {x : Int32} {off : Int} {tgt : Nat} (d : decode cc pc = .ok (.ifCond .ne off, 3)) (ht : (pc : Int) + off = (tgt : Int)) (kt : ¬ x = 0 → mAW X ad cs ss tgt lv st h) (kf : x = 0 → mAW X ad cs ss (pc + 3) lv st h) : mAW X ad cs ss pc lv (.int x :: st) h := by
  obtain ⟨p, l, e, R, s, m, args, below, meth, c, Q, A, D, kA, nL⟩ := X
  exact fun H locs ls hP hD hS hl => lv_if_ne O.1.1 O.1.2.1 d ht (fun q => kt q H locs ls hP hD hS hl) (fun q => kf q H locs ls hP hD hS hl)
theorem ax_icmp_ne (O : mO X ad own cc N Rm ln) {x y : Int32} {off : Int} {tgt : Nat} (d : decode cc pc = .ok (.if_icmp .ne off, 3)) (ht : (pc : Int) + off = (tgt : Int)) (kt : ¬ x = y → mAW X ad cs ss tgt lv st h) (kf : x = y → mAW X ad cs ss (pc + 3) lv st h) : mAW X ad cs ss pc lv (.int y :: .int x :: st) h := by
  obtain ⟨p, l, e, R, s, m, args, below, meth, c, Q, A, D, kA, nL⟩ := X
  exact fun H locs ls hP hD hS hl => lv_icmp_ne O.1.1 O.1.2.1 d ht (fun q => kt q H locs ls hP hD hS hl) (fun q => kf q H locs ls hP hD hS hl)
theorem ax_if_lt (O : mO X ad own cc N Rm ln) {x : Int32} {off : Int} {tgt : Nat} (d : decode cc pc = .ok (.ifCond .lt off, 3)) (ht : (pc : Int) + off = (tgt : Int)) (kt : x < 0 → mAW X ad cs ss tgt lv st h) (kf : ¬ x < 0 → mAW X ad cs ss (pc + 3) lv st h) : mAW X ad cs ss pc lv (.int x :: st) h := by
  obtain ⟨p, l, e, R, s, m, args, below, meth, c, Q, A, D, kA, nL⟩ := X
  exact fun H locs ls hP hD hS hl => lv_if_lt O.1.1 O.1.2.1 d ht (fun q => kt q H locs ls hP hD hS hl) (fun q => kf q H locs ls hP hD hS hl)
theorem ax_icmp_lt (O : mO X ad own cc N Rm ln) {x y : Int32} {off : Int} {tgt : Nat} (d : decode cc pc = .ok (.if_icmp .lt off, 3)) (ht : (pc : Int) + off = (tgt : Int)) (kt : x < y → mAW X ad cs ss tgt lv st h) (kf : ¬ x < y → mAW X ad cs ss (pc + 3) lv st h) : mAW X ad cs ss pc lv (.int y :: .int x :: st) h := by
  obtain ⟨p, l, e, R, s, m, args, below, meth, c, Q, A, D, kA, nL⟩ := X
  exact fun H locs ls hP hD hS hl => lv_icmp_lt O.1.1 O.1.2.1 d ht (fun q => kt q H locs ls hP hD hS hl) (fun q => kf q H locs ls hP hD hS hl)
theorem ax_if_ge (O : mO X ad own cc N Rm ln) {x : Int32} {off : Int} {tgt : Nat} (d : decode cc pc = .ok (.ifCond .ge off, 3)) (ht : (pc : Int) + off = (tgt : Int)) (kt : 0 ≤ x → mAW X ad cs ss tgt lv st h) (kf : ¬ 0 ≤ x → mAW X ad cs ss (pc + 3) lv st h) : mAW X ad cs ss pc lv (.int x :: st) h := by
  obtain ⟨p, l, e, R, s, m, args, below, meth, c, Q, A, D, kA, nL⟩ := X
  exact fun H locs ls hP hD hS hl => lv_if_ge O.1.1 O.1.2.1 d ht (fun q => kt q H locs ls hP hD hS hl) (fun q => kf q H locs ls hP hD hS hl)
theorem ax_icmp_ge (O : mO X ad own cc N Rm ln) {x y : Int32} {off : Int} {tgt : Nat} (d : decode cc pc = .ok (.if_icmp .ge off, 3)) (ht : (pc : Int) + off = (tgt : Int)) (kt : y ≤ x → mAW X ad cs ss tgt lv st h) (kf : ¬ y ≤ x → mAW X ad cs ss (pc + 3) lv st h) : mAW X ad cs ss pc lv (.int y :: .int x :: st) h := by
  obtain ⟨p, l, e, R, s, m, args, below, meth, c, Q, A, D, kA, nL⟩ := X
  exact fun H locs ls hP hD hS hl => lv_icmp_ge O.1.1 O.1.2.1 d ht (fun q => kt q H locs ls hP hD hS hl) (fun q => kf q H locs ls hP hD hS hl)
theorem ax_if_gt (O : mO X ad own cc N Rm ln) {x : Int32} {off : Int} {tgt : Nat} (d : decode cc pc = .ok (.ifCond .gt off, 3)) (ht : (pc : Int) + off = (tgt : Int)) (kt : 0 < x → mAW X ad cs ss tgt lv st h) (kf : ¬ 0 < x → mAW X ad cs ss (pc + 3) lv st h) : mAW X ad cs ss pc lv (.int x :: st) h := by
  obtain ⟨p, l, e, R, s, m, args, below, meth, c, Q, A, D, kA, nL⟩ := X
  exact fun H locs ls hP hD hS hl => lv_if_gt O.1.1 O.1.2.1 d ht (fun q => kt q H locs ls hP hD hS hl) (fun q => kf q H locs ls hP hD hS hl)
theorem ax_icmp_gt (O : mO X ad own cc N Rm ln) {x y : Int32} {off : Int} {tgt : Nat} (d : decode cc pc = .ok (.if_icmp .gt off, 3)) (ht : (pc : Int) + off = (tgt : Int)) (kt : y < x → mAW X ad cs ss tgt lv st h) (kf : ¬ y < x → mAW X ad cs ss (pc + 3) lv st h) : mAW X ad cs ss pc lv (.int y :: .int x :: st) h := by
  obtain ⟨p, l, e, R, s, m, args, below, meth, c, Q, A, D, kA, nL⟩ := X
  exact fun H locs ls hP hD hS hl => lv_icmp_gt O.1.1 O.1.2.1 d ht (fun q => kt q H locs ls hP hD hS hl) (fun q => kf q H locs ls hP hD hS hl)
theorem ax_if_le (O : mO X ad own cc N Rm ln) {x : Int32} {off : Int} {tgt : Nat} (d : decode cc pc = .ok (.ifCond .le off, 3)) (ht : (pc : Int) + off = (tgt : Int)) (kt : x ≤ 0 → mAW X ad cs ss tgt lv st h) (kf : ¬ x ≤ 0 → mAW X ad cs ss (pc + 3) lv st h) : mAW X ad cs ss pc lv (.int x :: st) h := by
  obtain ⟨p, l, e, R, s, m, args, below, meth, c, Q, A, D, kA, nL⟩ := X
  exact fun H locs ls hP hD hS hl => lv_if_le O.1.1 O.1.2.1 d ht (fun q => kt q H locs ls hP hD hS hl) (fun q => kf q H locs ls hP hD hS hl)
theorem ax_icmp_le (O : mO X ad own cc N Rm ln) {x y : Int32} {off : Int} {tgt : Nat} (d : decode cc pc = .ok (.if_icmp .le off, 3)) (ht : (pc : Int) + off = (tgt : Int)) (kt : x ≤ y → mAW X ad cs ss tgt lv st h) (kf : ¬ x ≤ y → mAW X ad cs ss (pc + 3) lv st h) : mAW X ad cs ss pc lv (.int y :: .int x :: st) h := by
  obtain ⟨p, l, e, R, s, m, args, below, meth, c, Q, A, D, kA, nL⟩ := X
  exact fun H locs ls hP hD hS hl => lv_icmp_le O.1.1 O.1.2.1 d ht (fun q => kt q H locs ls hP hD hS hl) (fun q => kf q H locs ls hP hD hS hl)
theorem ax_goto (O : mO X ad own cc N Rm ln) {off : Int} {tgt : Nat} (d : decode cc pc = .ok (.goto off, 3)) (ht : (pc : Int) + off = (tgt : Int)) (k : mAW X ad cs ss tgt lv st h) : mAW X ad cs ss pc lv st h := by
  obtain ⟨p, l, e, R, s, m, args, below, meth, c, Q, A, D, kA, nL⟩ := X
  exact fun H locs ls hP hD hS hl => lv_goto O.1.1 O.1.2.1 d ht (k H locs ls hP hD hS hl)
theorem ax_tableOut (O : mO X ad own cc N Rm ln) {dflt lo hi : Int} {offs : Array Int} {len : Nat} {x : Int32} {tgt : Nat} (d : decode cc pc = .ok (.tableswitch dflt lo hi offs, len)) (hq : x.toInt < lo ∨ hi < x.toInt) (ht : (pc : Int) + dflt = (tgt : Int)) (k : mAW X ad cs ss tgt lv st h) : mAW X ad cs ss pc lv (.int x :: st) h := by
  obtain ⟨p, l, e, R, s, m, args, below, meth, c, Q, A, D, kA, nL⟩ := X
  exact fun H locs ls hP hD hS hl => lv_tableOut O.1.1 O.1.2.1 d hq ht (k H locs ls hP hD hS hl)
theorem ax_tableIn (O : mO X ad own cc N Rm ln) {dflt lo hi : Int} {offs : Array Int} {len : Nat} {x : Int32} {off : Int} {tgt : Nat} (d : decode cc pc = .ok (.tableswitch dflt lo hi offs, len)) (h1 : ¬ x.toInt < lo) (h2 : ¬ hi < x.toInt) (ho : offs[(x.toInt - lo).toNat]? = some off) (ht : (pc : Int) + off = (tgt : Int)) (k : mAW X ad cs ss tgt lv st h) : mAW X ad cs ss pc lv (.int x :: st) h := by
  obtain ⟨p, l, e, R, s, m, args, below, meth, c, Q, A, D, kA, nL⟩ := X
  exact fun H locs ls hP hD hS hl => lv_tableIn O.1.1 O.1.2.1 d h1 h2 ho ht (k H locs ls hP hD hS hl)
theorem ax_lookup (O : mO X ad own cc N Rm ln) {dflt : Int} {ps : Array (Int × Int)} {len : Nat} {x : Int32} {off : Int} {tgt : Nat} (d : decode cc pc = .ok (.lookupswitch dflt ps, len)) (hp : (ps.toList.zip (ps.toList.drop 1)).all (fun (a, next) => a.1 < next.1) = true) (ho : Op.lookupswitch.offset ps.toList dflt x.toInt = off) (ht : (pc : Int) + off = (tgt : Int)) (k : mAW X ad cs ss tgt lv st h) : mAW X ad cs ss pc lv (.int x :: st) h := by
  obtain ⟨p, l, e, R, s, m, args, below, meth, c, Q, A, D, kA, nL⟩ := X
  exact fun H locs ls hP hD hS hl => lv_lookup O.1.1 O.1.2.1 d hp ho ht (k H locs ls hP hD hS hl)
theorem ax_sub (ks : List Nat) (he : lv_pick lv ks = lv') (k : mAW X ad cs ss pc lv' st h) : mAW X ad cs ss pc lv st h := by
  obtain ⟨p, l, e, R, s, m, args, below, meth, c, Q, A, D, kA, nL⟩ := X
  exact fun H locs ls hP hD hS hl => k H locs ls hP hD hS (lv_sub hl ks (ml_pick he))
theorem ax_get (O : mO X ad own cc N Rm ln) {ix ci kf i : Nat} (hF : mFg own ix ci kf) {fs : List Value} {v : Value} (hi : h[i]? = some (.inr (ci, fs))) (hv : fs[kf]? = some v) (d : decode cc pc = .ok (.getfield ix, 3)) (k : mAW X ad cs ss (pc + 3) lv (v :: st) h) : mAW X ad cs ss pc lv (.ref i :: st) h := by
  obtain ⟨p, l, e, R, s, m, args, below, meth, c, Q, A, D, kA, nL⟩ := X
  obtain ⟨C, T, Nf, hc, hk, hin, hw⟩ := hF
  intro H locs ls hP hD hS hl
  have hK : va_K D classes [] s := mK0 O.2.2.1
  have hv' : (fs.map (mv ad))[kf]? = some (mv ad v) := by simp [hv]
  rcases hw with hw | ⟨host, hw⟩
  · exact va_get (v := mv ad v) O.1.1 O.1.2.1 O.2.1 hin O.1.2.2.2.1 hK hP i (mW_get hi) hc kf hk (O.2.1 _ hw) (fun _ h => h) hv' d (k H locs ls hP hD hS hl)
  · exact va_getN (v := mv ad v) O.1.1 O.1.2.1 O.2.1 hin O.1.2.2.2.1 hK hP i (mW_get hi) hc kf hk (va_Nw.use rfl (O.2.2.1.2.2 _ hw)) (fun _ h => h) hv' d (k H locs ls hP hD hS hl)
theorem mW_put {ad : Nat → Nat} {kA : FieldType → ClassId} {h h' : mH} {i ci kf : Nat} {fs : List Value} {v : Value} (he : h' = h.set i (.inr (ci, fs.set kf v))) : (mW ad kA h).set i (ad i, .inr (ci, (fs.map (mv ad)).set kf (mv ad v))) = mW ad kA h' := by
  subst he
  rw [← mW_set]
  simp only [me, List.map_set]
theorem ax_put (O : mO X ad own cc N Rm ln) {ix ci kf i : Nat} {ty : FieldType} (hF : mFp own ix ci kf ty false) {fs : List Value} {v : Value} {h' : mH} (hi : h[i]? = some (.inr (ci, fs))) (hlen : kf < fs.length) (he : h' = h.set i (.inr (ci, fs.set kf v))) (hn : narrow ty (mv ad v) = mv ad v) (hfit : fits ty (mv ad v) = true) (d : decode cc pc = .ok (.putfield ix, 3)) (k : mAW X ad cs ss (pc + 3) lv st h') : mAW X ad cs ss pc lv (v :: .ref i :: st) h := by
  obtain ⟨p, l, e, R, s, m, args, below, meth, c, Q, A, D, kA, nL⟩ := X
  obtain ⟨C, T, Nf, ty0, hc, hk, hin, hw, hty, hnm, hfin, hty0, -⟩ := hF
  intro H locs ls hP hD hS hl
  have hK : va_K D classes [] s := mK0 O.2.2.1
  have hl' : kf < (fs.map (mv ad)).length := by simpa using hlen
  have hd : parseFieldDescriptor (T kf).2.2.1 = some ty := by rw [hty kf hk, hty0]
  have he' : (mW ad kA h).set i (ad i, .inr (ci, (fs.map (mv ad)).set kf (mv ad v))) = mW ad kA h' := mW_put he
  rcases hw with hw | ⟨host, hw⟩
  · exact va_put (v := mv ad v) O.1.1 O.1.2.1 O.2.1 hin ty0 hty hnm O.1.2.2.2.1 hK hP hD hS i (mW_get hi) hc kf hk (O.2.1 _ hw) (fun _ h => h) hfin hd hn hfit hl' d (fun H1 locs1 hP1 hD1 hS1 => k H1 locs1 ls (he' ▸ hP1) (he' ▸ hD1) hS1 hl)
  · exact va_putN (v := mv ad v) O.1.1 O.1.2.1 O.2.1 hin ty0 hty hnm O.1.2.2.2.1 hK hP hD hS i (mW_get hi) hc kf hk (va_Nw.use rfl (O.2.2.1.2.2 _ hw)) (fun _ h => h) hfin hd hn hfit hl' d (fun H1 locs1 hP1 hD1 hS1 => k H1 locs1 ls (he' ▸ hP1) (he' ▸ hD1) hS1 hl)
theorem ax_iald (O : mO X ad own cc N Rm ln) {a n : Nat} {f : Nat → Int32} {j v : Int32} (hi : h[a]? = some (.inl (.int, (n, .inl f)))) (hin : vp_in j n) (hv : f j.toNatClampNeg = v) (d : decode cc pc = .ok (.iaload, 1)) (k : mAW X ad cs ss (pc + 1) lv (.int v :: st) h) : mAW X ad cs ss pc lv (.int j :: .ref a :: st) h := by
  obtain ⟨p, l, e, R, s, m, args, below, meth, c, Q, A, D, kA, nL⟩ := X
  subst hv
  exact fun H locs ls hP hD hS hl => va_iald O.1.1 O.1.2.1 (mKt O.2.2.1 (ty := .int) (by decide)) hP a 0 (mW_get hi) rfl hin d (k H locs ls hP hD hS hl)
theorem ax_bald (O : mO X ad own cc N Rm ln) {a n : Nat} {f : Nat → Int32} {j v : Int32} (hi : h[a]? = some (.inl (.byte, (n, .inl f)))) (hin : vp_in j n) (hv : f j.toNatClampNeg = v) (d : decode cc pc = .ok (.baload, 1)) (k : mAW X ad cs ss (pc + 1) lv (.int v :: st) h) : mAW X ad cs ss pc lv (.int j :: .ref a :: st) h := by
  obtain ⟨p, l, e, R, s, m, args, below, meth, c, Q, A, D, kA, nL⟩ := X
  subst hv
  exact fun H locs ls hP hD hS hl => va_bald O.1.1 O.1.2.1 (mKt O.2.2.1 (ty := .byte) (by decide)) hP a 0 (mW_get hi) rfl hin d (k H locs ls hP hD hS hl)
theorem ax_iast (O : mO X ad own cc N Rm ln) {a n : Nat} {f : Nat → Int32} {j x : Int32} {h' : mH} (hi : h[a]? = some (.inl (.int, (n, .inl f)))) (hin : vp_in j n) (he : h' = h.set a (.inl (.int, (n, .inl (upd f j.toNatClampNeg x))))) (d : decode cc pc = .ok (.iastore, 1)) (k : mAW X ad cs ss (pc + 1) lv st h') : mAW X ad cs ss pc lv (.int x :: .int j :: .ref a :: st) h := by
  obtain ⟨p, l, e, R, s, m, args, below, meth, c, Q, A, D, kA, nL⟩ := X
  have he' : (mW ad kA h).set a (ad a, .inl (kA .int, (n, .inl (upd f j.toNatClampNeg x)))) = mW ad kA h' := by rw [he, ← mW_set]; rfl
  exact fun H locs ls hP hD hS hl => va_iast O.1.1 O.1.2.1 (mKt O.2.2.1 (ty := .int) (by decide)) hP hD hS a 0 (mW_get hi) rfl hin d (fun H1 locs1 hP1 hD1 hS1 => k H1 locs1 ls (he' ▸ hP1) (he' ▸ hD1) hS1 hl)
theorem ax_bast (O : mO X ad own cc N Rm ln) {a n : Nat} {f : Nat → Int32} {j x : Int32} {h' : mH} (hi : h[a]? = some (.inl (.byte, (n, .inl f)))) (hin : vp_in j n) (he : h' = h.set a (.inl (.byte, (n, .inl (upd f j.toNatClampNeg x.toInt8.toInt32))))) (d : decode cc pc = .ok (.bastore, 1)) (k : mAW X ad cs ss (pc + 1) lv st h') : mAW X ad cs ss pc lv (.int x :: .int j :: .ref a :: st) h := by
  obtain ⟨p, l, e, R, s, m, args, below, meth, c, Q, A, D, kA, nL⟩ := X
  have he' : (mW ad kA h).set a (ad a, .inl (kA .byte, (n, .inl (upd f j.toNatClampNeg (vp_nar .byte x))))) = mW ad kA h' := by rw [vp_nar_byte, he, ← mW_set]; rfl
  exact fun H locs ls hP hD hS hl => va_bast O.1.1 O.1.2.1 (mKt O.2.2.1 (ty := .byte) (by decide)) hP hD hS a 0 (mW_get hi) rfl hin d (fun H1 locs1 hP1 hD1 hS1 => k H1 locs1 ls (he' ▸ hP1) (he' ▸ hD1) hS1 hl)
theorem ma_len (ad : Nat → Nat) (x : vp_A) : (ma ad x).1 = x.1 := by
  obtain ⟨n, f | f | f | f | f⟩ := x <;> rfl
theorem ax_alen (O : mO X ad own cc N Rm ln) {a : Nat} {ty : FieldType} {x : vp_A} (hty : ty ∈ mTys) {v : Int32} (hi : h[a]? = some (.inl (ty, x))) (hv : nI x.1 = v) (d : decode cc pc = .ok (.arraylength, 1)) (k : mAW X ad cs ss (pc + 1) lv (.int v :: st) h) : mAW X ad cs ss pc lv (.ref a :: st) h := by
  obtain ⟨p, l, e, R, s, m, args, below, meth, c, Q, A, D, kA, nL⟩ := X
  subst hv
  exact fun H locs ls hP hD hS hl => va_alen O.1.1 O.1.2.1 (mKt O.2.2.1 hty) hP a 0 (mW_get hi) rfl (v := nI x.1) (by rw [ma_len]; rfl) d (k H locs ls hP hD hS hl)
theorem ax_aald (O : mO X ad own cc N Rm ln) {a n r : Nat} {C : String} {f : Nat → Option Nat} {j : Int32} (hty : .object C ∈ mTys) (hi : h[a]? = some (.inl (.object C, (n, .inr (.inr (.inr (.inr f))))))) (hin : vp_in j n) (hr : f j.toNatClampNeg = some r) (d : decode cc pc = .ok (.aaload, 1)) (k : mAW X ad cs ss (pc + 1) lv (.ref r :: st) h) : mAW X ad cs ss pc lv (.int j :: .ref a :: st) h := by
  obtain ⟨p, l, e, R, s, m, args, below, meth, c, Q, A, D, kA, nL⟩ := X
  intro H locs ls hP hD hS hl
  refine va_aldq (f := mg ad f) O.1.1 O.1.2.1 (mKt O.2.2.1 hty) hP a 0 (mW_get hi) rfl hin d ?_
  rw [show mg ad f j.toNatClampNeg = some (ad r) by simp [mg, hr]]
  exact k H locs ls hP hD hS hl
/-- a static array's reference is the number 10000 + k -/
theorem ax_gets (O : mO X ad own cc N Rm ln) {ix : Nat} (k : Nat) {q : mSt} (hq : mSta[k]? = some q) (hw : Cond.fieldLink own ix q.1 q.2.1 q.2.2.1 ∈ mGood) (d : decode cc pc = .ok (.getstatic ix, 3)) (kk : mAW X ad cs ss (pc + 3) lv (.ref (10000 + k) :: st) h) : mAW X ad cs ss pc lv st h := by
  obtain ⟨p, l, e, R, s, m, args, below, meth, c, Q, A, D, kA, nL⟩ := X
  exact fun H locs ls hP hD hS hl => va_gets O.1.1 O.1.2.1 (O.2.2.2.1 k q hq).1 hS O.1.2.2.2.1 (O.2.1 _ hw) (fun _ h => h) d (kk H locs ls hP hD hS hl)
theorem ax_sti (O : mO X ad own cc N Rm ln) (k : Nat) {q : mSt} (hq : mSta[k]? = some q) (hty : q.2.2.2.1 = .int) {j v : Int32} (hin : vp_in j q.2.2.2.2.1) (hv : q.2.2.2.2.2 j.toNatClampNeg = v) (d : decode cc pc = .ok (.iaload, 1)) (kk : mAW X ad cs ss (pc + 1) lv (.int v :: st) h) : mAW X ad cs ss pc lv (.int j :: .ref (10000 + k) :: st) h := by
  obtain ⟨p, l, e, R, s, m, args, below, meth, c, Q, A, D, kA, nL⟩ := X
  subst hv
  have hT := (O.2.2.2.1 k q hq).2
  rw [hty] at hT
  exact fun H locs ls hP hD hS hl => va_ti O.1.1 O.1.2.1 hT hS hin rfl d (kk H locs ls hP hD hS hl)
theorem ax_stl (O : mO X ad own cc N Rm ln) (k : Nat) {q : mSt} (hq : mSta[k]? = some q) (d : decode cc pc = .ok (.arraylength, 1)) (kk : mAW X ad cs ss (pc + 1) lv (.int (nI q.2.2.2.2.1) :: st) h) : mAW X ad cs ss pc lv (.ref (10000 + k) :: st) h := by
  obtain ⟨p, l, e, R, s, m, args, below, meth, c, Q, A, D, kA, nL⟩ := X
  exact fun H locs ls hP hD hS hl => va_tlen O.1.1 O.1.2.1 (O.2.2.2.1 k q hq).2 hS rfl d (kk H locs ls hP hD hS hl)
theorem ax_ret (O : mO X ad own cc N Rm ln) {ty : FieldType} {v : Int32} (hE : mEnd X ad (some ty) (some (.int v)) h) (hn : narrow ty (.int v) = .int v) (d : decode cc pc = .ok (.ireturn, 1)) : mAW X ad 0 0 pc lv [.int v] h := by
  obtain ⟨p, l, e, R, s, m, args, below, meth, c, Q, A, D, kA, nL⟩ := X
  obtain ⟨hQ, hr⟩ := hE
  subst hQ
  exact fun H locs ls hP hD hS hl => W.zret O.1.1 O.1.2.1 hr hn (fun t ht hW => ⟨rfl, by rw [ht]; exact hP, hD, hS.F ht⟩) hS.2.2 d O.1.2.2.2.2.1
theorem ax_vret (O : mO X ad own cc N Rm ln) (hE : mEnd X ad none none h) (d : decode cc pc = .ok (.return_, 1)) : mAW X ad 0 0 pc lv [] h := by
  obtain ⟨p, l, e, R, s, m, args, below, meth, c, Q, A, D, kA, nL⟩ := X
  obtain ⟨hQ, hr⟩ := hE
  subst hQ
  exact fun H locs ls hP hD hS hl => W.vret O.1.1 O.1.2.1 hr (fun t ht hW => ⟨rfl, by rw [ht]; exact hP, hD, hS.F ht⟩) hS.2.2 d O.1.2.2.2.2.1
theorem ax_lret (O : mO X ad own cc N Rm ln) {v : Int64} (hE : mEnd X ad (some .long) (some (.long v)) h) (d : decode cc pc = .ok (.lreturn, 1)) : mAW X ad 0 0 pc lv [.long v] h := by
  obtain ⟨p, l, e, R, s, m, args, below, meth, c, Q, A, D, kA, nL⟩ := X
  obtain ⟨hQ, hr⟩ := hE
  subst hQ
  exact fun H locs ls hP hD hS hl => W.lret O.1.1 O.1.2.1 hr (fun t ht hW => ⟨rfl, by rw [ht]; exact hP, hD, hS.F ht⟩) hS.2.2 d O.1.2.2.2.2.1
theorem ax_aret (O : mO X ad own cc N Rm ln) {ty : FieldType} {v : Nat} (hty : (∃ n, ty = .object n) ∨ ∃ t, ty = .array t) (hE : mEnd X ad (some ty) (some (.ref v)) h) (d : decode cc pc = .ok (.areturn, 1)) : mAW X ad 0 0 pc lv [.ref v] h := by
  obtain ⟨p, l, e, R, s, m, args, below, meth, c, Q, A, D, kA, nL⟩ := X
  obtain ⟨hQ, hr⟩ := hE
  subst hQ
  exact fun H locs ls hP hD hS hl => W.aret (v := .ref (ad v)) O.1.1 O.1.2.1 hr hty (Or.inr ⟨_, rfl⟩) (fun t ht hW => ⟨rfl, by rw [ht]; exact hP, hD, hS.F ht⟩) hS.2.2 d O.1.2.2.2.2.1
end mRows
theorem mGoodIn (y : MethodName) (bytes : ByteArray) (maxL : Nat) (ret : Option FieldType) (h : Cond.code y bytes maxL ret ∈ mGood) : GoodIn mGood (Cond.code y bytes maxL ret :: mGood) := by
  intro w hw
  have hm : w ∈ mGood := by
    rcases List.mem_cons.mp hw with e | e
    · rw [e]; exact h
    · exact e
  exact ⟨hm, good_of_word (mGood_good w hm)⟩
theorem mPre_blind {D : va_G} {kA : FieldType → ClassId} {ad : Nat → Nat} {As : List Value} {h : mH} {sz : Nat} : FrameBlind (mPre D kA ad As h sz) := by
  intro a U g mk q
  obtain ⟨q0, q1, qP, qK, qT, qD⟩ := q
  exact ⟨q0, q1, qP, mK.same (u := U) (U := U.calling g mk a) rfl qK, mT.moved (u := U) (U := U.calling g mk a) (Vm.Alike.refl U.vm) qT, qD⟩
section mCalls
variable {X : mX} {ad : Nat → Nat} {own : String} {cc : ByteArray} {N cs ss pc : Nat} {lv lv' : List (Nat × Value)} {h h' : mH} {Rm rm : Room} {ln : Launch} {ix n maxL : Nat} {y : MethodName} {bytes : ByteArray} {ret : Option FieldType} {As rest : List Value} {v : Option Value}
/-- behind a call -/
theorem mAfter {p : Program} {l : Launch} {e : Env} {R : Room} {s : State} {m : MethodId} {args : Array Value} {below : List Frame} {meth : Method} {c : Code} {Q : State → Prop} {A : Nat → Prop} {D : va_G} {kA : FieldType → ClassId} {nL : Nat} {H : Heap} {locs : List Loc} {ls : Array Slot} {st0 : List Value} {a : Array Value}
    (run : va_Run p l e R s m args below meth c H locs cs ss 0 0 (F0 m pc ls st0) (rest.map (mv ad)) (mPost (va_A (mW ad kA h) H.size) D kA ad v h' a) (va_A (mW ad kA h) H.size)) (hF : ∀ q, va_A (mW ad kA h) H.size q → A q) (hS : va_S A s.heap H locs) (hl : lv_has ls nL (ml ad lv))
    (k : mAW (p, l, e, R, s, m, args, below, meth, c, Q, A, D, kA, nL) ad cs ss (pc + 3) lv (v.toList ++ rest) h') : W p l e R s m args below meth c H locs cs ss Q (F0 m pc ls st0) := by
  intro T hT Xs
  obtain ⟨v', st₀, t, T', L, h0, X', hL, e1, e2, ⟨hv, hP', hD', hz, hk⟩, st⟩ := run T hT Xs
  have hv' : v' = v.map (mv ad) := by injection hv
  subst hv'
  rw [h0] at hz hk
  have hS' : va_S A s.heap T'.heap (locs ++ L) := ⟨Nat.le_trans hS.1 (by rw [e1]; exact hz), fun q h1 h2 => by rw [e1, hk q (Nat.lt_of_lt_of_le h1 hS.1) (fun z => h2 (hF q z))]; exact hS.2.1 q h1 h2, fun q hq => by
      rcases List.mem_append.mp hq with h | h
      · exact hS.2.2 q h
      · exact hF _ (hL q h)⟩
  obtain ⟨t2, a1, b1⟩ := k T'.heap (locs ++ L) ls (by rw [e1]; exact hP') (hD'.weaken (fun _ _ _ hq => hF _ hq)) hS' hl T' rfl X'
  refine ⟨t2, st t2 ?_, b1⟩
  have he : (v.toList ++ rest).map (mv ad) = (v.map (mv ad)).toList ++ rest.map (mv ad) := by cases v <;> simp
  rw [← he]
  exact a1
theorem mFree {A : Nat → Prop} {ws : va_W} {H0 H : Heap} {locs : List Loc} (hD : va_D A ws) (hS : va_S A H0 H locs) (hA : ∀ q, H0.size ≤ q → A q) : ∀ q, va_A ws H.size q → A q := by
  intro q hq
  rcases hq with ⟨k, e, hk⟩ | hq
  · exact hD.2 k (q, e) hk
  · exact hA q (Nat.le_trans hS.1 hq)
theorem mPreAt {s : State} {A : Nat → Prop} {D : va_G} {kA : FieldType → ClassId} {H : Heap} {locs : List Loc} (hK : mK D kA s) (hT : mT ad A s s.heap) (hA : ∀ q, s.heap.size ≤ q → A q) (hP : va_P D classes (mW ad kA h) H) (hD : va_D A (mW ad kA h)) (hS : va_S A s.heap H locs) (U : State) (hU : U.heap = H) (hW : s.WarmedH U.vm) : mPre D kA ad As h H.size (As.map (mv ad)).toArray U := by
  refine ⟨rfl, by rw [hU], by rw [hU]; exact hP, hK.moved hW, ?_, hD.weaken (fun _ _ _ _ => trivial)⟩
  rw [hU]
  have h1 : mT ad A s H := hT.kept (fun a ha hn => hS.2.1 a ha hn)
  exact (h1.narrow (mFree hD hS hA)).moved hW.alike
theorem ax_callS (O : mO X ad own cc N Rm ln) (hC : mCw y bytes maxL ret n) (hst : Cond.static y ∈ mGood) (hlk : mLk own ix y) (hM : mMet ln y bytes maxL ret rm As h v h') (hn : As.length = n) (hrm : rm.cells = 0 ∧ rm.slots = 0) (hR : rm.frames + 1 ≤ Rm.frames ∧ 8 + (maxL + 11) + rm.locals ≤ Rm.locals) (hcs : cs ≤ Rm.cells ∧ ss ≤ Rm.slots) (hrs : (rest.map fun v => v.category).sum ≤ 8) (d : decode cc pc = .ok (.invokestatic ix, 3)) (k : mAW X ad cs ss (pc + 3) lv (v.toList ++ rest) h') : mAW X ad cs ss pc lv (As.reverse ++ rest) h := by
  obtain ⟨p, l, e, R, s, m, args, below, meth, c, Q, A, D, kA, nL⟩ := X
  obtain ⟨⟨hx, hb, hml, hown, hlk0, rfl, rfl, rfl⟩, hts, hK, hT, hA⟩ := O
  intro H locs ls hP hD hS hl
  obtain ⟨hc1, hc2, hc3, hc4⟩ := hC
  have hF := mFree hD hS hA
  have hstk : (As.reverse ++ rest).map (mv ad) = (As.map (mv ad)).reverse ++ rest.map (mv ad) := by simp
  have hcat : ((rest.map (mv ad)).map fun v => v.category).sum ≤ 8 := by
    rw [List.map_map, show ((fun v : Value => v.category) ∘ mv ad) = (fun v => v.category) from funext (fun v => mv_cat ad v)]; exact hrs
  rw [hstk]
  rcases hlk with hlk | ⟨host, hlk⟩
  · exact mAfter (va_runS (As := As.map (mv ad)) (rest := rest.map (mv ad)) ⟨hx, hb, hml, hown, hts⟩ (hM D kA ad H.size) ⟨callB_of n hts (mGoodIn y bytes maxL ret hc1) rfl hrm.1 hrm.2 (hts _ hc2) (hts _ hlk) ⟨hc3.1, hc3.2, hc4⟩ hR, hts _ hst⟩ ⟨mPre_blind, fun U hU hW => mPreAt hK hT hA hP hD hS U hU hW⟩ rfl (by rw [List.length_map]; exact hn) hl.1 rfl (lv_room hcat) d ⟨hcs.1, hcs.2⟩) hF hS hl k
  · exact mAfter (va_runSN (As := As.map (mv ad)) (rest := rest.map (mv ad)) ⟨hx, hb, hml, hown, hts⟩ (hM D kA ad H.size) ⟨va_cnB n hts (mGoodIn y bytes maxL ret hc1) rfl hrm.1 hrm.2 (hK.2.2 _ hlk) (hts _ hc2) ⟨hc3.1, hc3.2, hc4⟩ hR, hts _ hst, trivial⟩ ⟨mPre_blind, fun U hU hW => mPreAt hK hT hA hP hD hS U hU hW⟩ rfl (by rw [List.length_map]; exact hn) hl.1 rfl (lv_room hcat) d ⟨hcs.1, hcs.2⟩) hF hS hl k
theorem ax_callV (O : mO X ad own cc N Rm ln) (hC : mCw y bytes maxL ret n) {ci b : Nat} {q : vw_C} {fs : List Value} (hcl : classes[ci]? = some q) (hyc : y.cls = q.1) (hin : Cond.instanceMethod y ∈ mGood) (hse : Cond.selects q.1 y y ∈ mGood) (hlk : mLk own ix y) (hb' : h[b]? = some (.inr (ci, fs))) (hM : mMet ln y bytes maxL ret rm (.ref b :: As) h v h') (hn : As.length = n) (hrm : rm.cells = 0 ∧ rm.slots = 0) (hR : rm.frames + 1 ≤ Rm.frames ∧ 8 + (maxL + 11) + rm.locals ≤ Rm.locals) (hcs : cs ≤ Rm.cells ∧ ss ≤ Rm.slots) (hrs : (rest.map fun v => v.category).sum ≤ 8) (d : decode cc pc = .ok (.invokevirtual ix, 3)) (k : mAW X ad cs ss (pc + 3) lv (v.toList ++ rest) h') : mAW X ad cs ss pc lv (As.reverse ++ .ref b :: rest) h := by
  obtain ⟨p, l, e, R, s, m, args, below, meth, c, Q, A, D, kA, nL⟩ := X
  obtain ⟨⟨hx, hb, hml, hown, hlk0, rfl, rfl, rfl⟩, hts, hK, hT, hA⟩ := O
  intro H locs ls hP hD hS hl
  obtain ⟨hc1, hc2, hc3, hc4⟩ := hC
  have hF := mFree hD hS hA
  have hstk : (As.reverse ++ .ref b :: rest).map (mv ad) = (As.map (mv ad)).reverse ++ .ref (ad b) :: rest.map (mv ad) := by simp [mv]
  have hcat : ((rest.map (mv ad)).map fun v => v.category).sum ≤ 8 := by
    rw [List.map_map, show ((fun v : Value => v.category) ∘ mv ad) = (fun v => v.category) from funext (fun v => mv_cat ad v)]; exact hrs
  rw [hstk]
  have hrecv := va_recv (mK0 hK) hP hcl (mW_get hb')
  rcases hlk with hlk | ⟨host, hlk⟩
  · exact mAfter (va_runV (C := q.1) (As := As.map (mv ad)) (rest := rest.map (mv ad)) ⟨hx, hb, hml, hown, hts⟩ (hM D kA ad H.size) ⟨callB_of n hts (mGoodIn y bytes maxL ret hc1) rfl hrm.1 hrm.2 (hts _ hc2) (hts _ hlk) ⟨hc3.1, hc3.2, hc4⟩ hR, hts _ hin, hts _ hse⟩ ⟨mPre_blind, hrecv, fun U hU hW => mPreAt (As := .ref b :: As) hK hT hA hP hD hS U hU hW⟩ rfl (by rw [List.length_map]; exact hn) hl.1 rfl (lv_room hcat) d ⟨hcs.1, hcs.2⟩) hF hS hl k
  · exact mAfter (va_runVN (C := q.1) (As := As.map (mv ad)) (rest := rest.map (mv ad)) ⟨hx, hb, hml, hown, hts⟩ (hM D kA ad H.size) ⟨va_cnB n hts (mGoodIn y bytes maxL ret hc1) rfl hrm.1 hrm.2 (hK.2.2 _ hlk) (hts _ hc2) ⟨hc3.1, hc3.2, hc4⟩ hR, hts _ hin, hts _ hse⟩ ⟨mPre_blind, hrecv, fun U hU hW => mPreAt (As := .ref b :: As) hK hT hA hP hD hS U hU hW⟩ rfl (by rw [List.length_map]; exact hn) hl.1 rfl (lv_room hcat) d ⟨hcs.1, hcs.2⟩) hF hS hl k
end mCalls
noncomputable def mac {α : Type} (h : mH) (ty : FieldType) (a : Nat) (sp : Int32) (b : Nat) (dp n : Int32) (F : mH → Option α) : Option α := match h[a]?, h[b]? with
  | some (.inl (t0, (n0, .inl f))), some (.inl (t1, (n1, .inl g))) => mgd (t0 = ty ∧ t1 = ty ∧ ¬ sp < 0 ∧ ¬ dp < 0 ∧ ¬ n < 0 ∧ sp.toNatClampNeg + n.toNatClampNeg ≤ n0 ∧ dp.toNatClampNeg + n.toNatClampNeg ≤ n1 ∧ ∀ i, i < n.toNatClampNeg → fits ty (.int (f (sp.toNatClampNeg + i))) = true) (F (h.set b (.inl (ty, (n1, .inl (va_cpy f g sp.toNatClampNeg dp.toNatClampNeg n.toNatClampNeg))))))
  | _, _ => none
def mCp (h : mH) (ty : FieldType) (a : Nat) (sp : Int32) (b : Nat) (dp n : Int32) (h' : mH) : Prop := ∃ (n0 n1 : Nat) (f g : Nat → Int32), h[a]? = some (.inl (ty, (n0, .inl f))) ∧ h[b]? = some (.inl (ty, (n1, .inl g))) ∧ ¬ sp < 0 ∧ ¬ dp < 0 ∧ ¬ n < 0 ∧ sp.toNatClampNeg + n.toNatClampNeg ≤ n0 ∧ dp.toNatClampNeg + n.toNatClampNeg ≤ n1 ∧ (∀ i, i < n.toNatClampNeg → fits ty (.int (f (sp.toNatClampNeg + i))) = true) ∧ h' = h.set b (.inl (ty, (n1, .inl (va_cpy f g sp.toNatClampNeg dp.toNatClampNeg n.toNatClampNeg))))
theorem mac_some {α : Type} {h : mH} {ty : FieldType} {a b : Nat} {sp dp n : Int32} {F : mH → Option α} {r : α} (hh : mac h ty a sp b dp n F = some r) : ∃ h' : mH, mCp h ty a sp b dp n h' ∧ F h' = some r := by
  unfold mac at hh
  split at hh
  · rename_i t0 n0 f t1 n1 g e1 e2
    obtain ⟨⟨rfl, rfl, q1, q2, q3, q4, q5, q6⟩, hh⟩ := mgd_some hh
    exact ⟨_, ⟨n0, n1, f, g, e1, e2, q1, q2, q3, q4, q5, q6, rfl⟩, hh⟩
  · cases hh
section mMore
variable {X : mX} {ad : Nat → Nat} {own : String} {cc : ByteArray} {N cs ss pc : Nat} {lv lv' : List (Nat × Value)} {st : List Value} {h h' : mH} {Rm : Room} {ln : Launch} {ix : Nat}
theorem ax_nmi {x y : Int32} (hy : y = x) (k : mAW X ad cs ss pc lv (.int y :: st) h) : mAW X ad cs ss pc lv (.int x :: st) h := hy ▸ k
theorem ax_nml {x y : Int64} (hy : y = x) (k : mAW X ad cs ss pc lv (.long y :: st) h) : mAW X ad cs ss pc lv (.long x :: st) h := hy ▸ k
theorem mcats (ad : Nat → Nat) (st : List Value) : ((st.map (mv ad)).map fun v => v.category).sum = (st.map fun v => v.category).sum := by
  rw [List.map_map, show ((fun v : Value => v.category) ∘ mv ad) = (fun v => v.category) from funext (fun v => mv_cat ad v)]
theorem ax_mmax (O : mO X ad own cc N Rm ln) (hw : Cond.methodLink own ix Lib.Math.max.name ∈ mGood) (hfr : 1 ≤ Rm.frames ∧ cs ≤ Rm.cells ∧ ss ≤ Rm.slots) (hlo : (st.map fun v => v.category).sum + 13 ≤ Rm.locals) {x y : Int32} (d : decode cc pc = .ok (.invokestatic ix, 3)) (k : mAW X ad cs ss (pc + 3) lv (.int (if x < y then y else x) :: st) h) : mAW X ad cs ss pc lv (.int y :: .int x :: st) h := by
  obtain ⟨p, l, e, R, s, m, args, below, meth, c, Q, A, D, kA, nL⟩ := X
  obtain ⟨⟨hx, hb, hml, hown, hlk0, rfl, rfl, rfl⟩, hts, hK, hT, hA⟩ := O
  exact fun H locs ls hP hD hS hl => va_mmax hx hb (hml.trans hl.1.symm) hown (hts _ hw) (hts _ wmax_1) (hts _ wmath) (hts _ wmax_2) hfr.1 (by rw [mcats]; exact hlo) hfr.2.1 hfr.2.2 d (k H locs ls hP hD hS hl)
theorem ax_mmin (O : mO X ad own cc N Rm ln) (hw : Cond.methodLink own ix Lib.Math.min.name ∈ mGood) (hfr : 1 ≤ Rm.frames ∧ cs ≤ Rm.cells ∧ ss ≤ Rm.slots) (hlo : (st.map fun v => v.category).sum + 13 ≤ Rm.locals) {x y : Int32} (d : decode cc pc = .ok (.invokestatic ix, 3)) (k : mAW X ad cs ss (pc + 3) lv (.int (if y < x then y else x) :: st) h) : mAW X ad cs ss pc lv (.int y :: .int x :: st) h := by
  obtain ⟨p, l, e, R, s, m, args, below, meth, c, Q, A, D, kA, nL⟩ := X
  obtain ⟨⟨hx, hb, hml, hown, hlk0, rfl, rfl, rfl⟩, hts, hK, hT, hA⟩ := O
  exact fun H locs ls hP hD hS hl => va_mmin hx hb (hml.trans hl.1.symm) hown (hts _ hw) (hts _ wmin_1) (hts _ wmath) (hts _ wmin_2) hfr.1 (by rw [mcats]; exact hlo) hfr.2.1 hfr.2.2 d (k H locs ls hP hD hS hl)
theorem ax_mabs (O : mO X ad own cc N Rm ln) (hw : Cond.methodLink own ix Lib.Math.abs.name ∈ mGood) (hfr : 1 ≤ Rm.frames ∧ cs ≤ Rm.cells ∧ ss ≤ Rm.slots) (hlo : (st.map fun v => v.category).sum + 13 ≤ Rm.locals) {x : Int32} (d : decode cc pc = .ok (.invokestatic ix, 3)) (k : mAW X ad cs ss (pc + 3) lv (.int (if 0 ≤ x then x else 0 - x) :: st) h) : mAW X ad cs ss pc lv (.int x :: st) h := by
  obtain ⟨p, l, e, R, s, m, args, below, meth, c, Q, A, D, kA, nL⟩ := X
  obtain ⟨⟨hx, hb, hml, hown, hlk0, rfl, rfl, rfl⟩, hts, hK, hT, hA⟩ := O
  exact fun H locs ls hP hD hS hl => va_mabs hx hb (hml.trans hl.1.symm) hown (hts _ hw) (hts _ wabs_1) (hts _ wmath) (hts _ wabs_2) hfr.1 (by rw [mcats]; exact hlo) hfr.2.1 hfr.2.2 d (k H locs ls hP hD hS hl)
theorem ax_copy (O : mO X ad own cc N Rm ln) (hw : Cond.methodLink own ix arraycopyName ∈ mGood) {ty : FieldType} (hty : ty ∈ mTys ∧ refKind ty = false) (hfr : 1 ≤ Rm.frames) (hlo : (st.map fun v => v.category).sum + (nativeFrameWords "java/lang/System" "arraycopy" 5 + 11) ≤ Rm.locals) {a b : Nat} {sp dp n : Int32} (hc : mCp h ty a sp b dp n h') (d : decode cc pc = .ok (.invokestatic ix, 3)) (k : mAW X ad cs ss (pc + 3) lv st h') : mAW X ad cs ss pc lv (.int n :: .int dp :: .ref b :: .int sp :: .ref a :: st) h := by
  obtain ⟨p, l, e, R, s, m, args, below, meth, c, Q, A, D, kA, nL⟩ := X
  obtain ⟨⟨hx, hb, hml, hown, hlk0, rfl, rfl, rfl⟩, hts, hK, hT, hA⟩ := O
  obtain ⟨n0, n1, f, g, e1, e2, q1, q2, q3, q4, q5, q6, he⟩ := hc
  have he' : (mW ad kA h).set b (ad b, .inl (kA ty, (n1, .inl (va_cpy f g sp.toNatClampNeg dp.toNatClampNeg n.toNatClampNeg)))) = mW ad kA h' := by rw [he, ← mW_set]; rfl
  exact fun H locs ls hP hD hS hl => va_copyi hx hb (hml.trans hl.1.symm) hown (hts _ hw) (hts _ wcopy_1) (hts _ wcopy_2) (hts _ wsystem) (mKt hK hty.1) hP hD hS a b 0 0 (mW_get e1) (mW_get e2) rfl rfl hty.2 q1 q2 q3 q4 q5 q6 hfr (by rw [mcats]; exact hlo) d (fun H1 locs1 hP1 hD1 hS1 => k H1 locs1 ls (he' ▸ hP1) (he' ▸ hD1) hS1 hl)
end mMore
end
section
section mRets
variable {X : mX} {ad : Nat → Nat} {own : String} {cc : ByteArray} {N pc : Nat} {lv : List (Nat × Value)} {h h' : mH} {Rm : Room} {ln : Launch}
theorem ax_retE (O : mO X ad own cc N Rm ln) {ty : FieldType} {v r : Int32} (hE : mEnd X ad (some ty) (some (.int r)) h') (hf : some (v, h) = some (r, h')) (hn : narrow ty (.int v) = .int v) (d : decode cc pc = .ok (.ireturn, 1)) : mAW X ad 0 0 pc lv [.int v] h := by
  cases hf
  exact ax_ret O hE hn d
theorem ax_vretE (O : mO X ad own cc N Rm ln) {r : Unit} (hE : mEnd X ad none none h') (hf : some ((), h) = some (r, h')) (d : decode cc pc = .ok (.return_, 1)) : mAW X ad 0 0 pc lv [] h := by
  cases hf
  exact ax_vret O hE d
theorem ax_lretE (O : mO X ad own cc N Rm ln) {v r : Int64} (hE : mEnd X ad (some .long) (some (.long r)) h') (hf : some (v, h) = some (r, h')) (d : decode cc pc = .ok (.lreturn, 1)) : mAW X ad 0 0 pc lv [.long v] h := by
  cases hf
  exact ax_lret O hE d
theorem ax_aretE (O : mO X ad own cc N Rm ln) {ty : FieldType} {v r : Nat} (hty : (∃ n, ty = .object n) ∨ ∃ t, ty = .array t) (hE : mEnd X ad (some ty) (some (.ref r)) h') (hf : some (v, h) = some (r, h')) (d : decode cc pc = .ok (.areturn, 1)) : mAW X ad 0 0 pc lv [.ref v] h := by
  cases hf
  exact ax_aret O hty hE d
end mRets
theorem mTi {x : Int32} {lo hi : Int} (h : ∀ k : Int, lo ≤ k → k ≤ hi → ¬ x.toInt = k) : x.toInt < lo ∨ hi < x.toInt := by
  rcases Int.lt_or_le x.toInt lo with q | q
  · exact Or.inl q
  · rcases Int.lt_or_le hi x.toInt with q2 | q2
    · exact Or.inr q2
    · exact absurd rfl (h x.toInt q q2)
theorem wd_0 : Cond.methodLink R_Co 25 Lib.Math.max.name ∈ mGood := mg_of (i := 162) (by decide +kernel) rfl
theorem wd_1 : Cond.methodLink R_SF 125 Lib.Math.max.name ∈ mGood := mg_of (i := 740) (by decide +kernel) rfl
theorem wd_2 : Cond.methodLink R_By 27 Lib.Math.min.name ∈ mGood := mg_of (i := 367) (by decide +kernel) rfl
theorem wd_3 : Cond.methodLink R_By 30 arraycopyName ∈ mGood := mg_of (i := 370) (by decide +kernel) rfl
theorem wd_4 : Cond.methodLink R_Li 38 Lib.Math.max.name ∈ mGood := mg_of (i := 590) (by decide +kernel) rfl
theorem wd_5 : Cond.methodLink R_Li 53 Lib.Math.min.name ∈ mGood := mg_of (i := 591) (by decide +kernel) rfl
theorem wd_6 : Cond.methodLink R_Li 90 Lib.Math.abs.name ∈ mGood := mg_of (i := 627) (by decide +kernel) rfl
theorem wd_7 : Cond.constant R_Mo 31 65536 ∈ mGood := mg_of (i := 813) (by decide +kernel) rfl
theorem wd_8 : Cond.constant R_Mo 122 32768 ∈ mGood := mg_of (i := 1035) (by decide +kernel) rfl
theorem wd_9 : Cond.constant R_Mo 163 65535 ∈ mGood := mg_of (i := 987) (by decide +kernel) rfl
theorem wd_10 : Cond.constantLong R_Mo 187 65536 ∈ mGood := mg_of (i := 1046) (by decide +kernel) rfl
theorem wd_11 : Cond.constantLong R_Mo 185 65521 ∈ mGood := mg_of (i := 1045) (by decide +kernel) rfl
theorem wd_12 : Cond.constantLong R_Mo 167 256 ∈ mGood := mg_of (i := 1040) (by decide +kernel) rfl
theorem wd_13 : Cond.constantLong R_Mo 201 4294967295 ∈ mGood := mg_of (i := 1079) (by decide +kernel) rfl
theorem wd_14 : Cond.constantLong R_Mo 203 255 ∈ mGood := mg_of (i := 1080) (by decide +kernel) rfl
theorem wd_15 : Cond.constantLong R_Mo 208 85 ∈ mGood := mg_of (i := 1073) (by decide +kernel) rfl
theorem wd_16 : Cond.constantLong R_Mo 216 84 ∈ mGood := mg_of (i := 1081) (by decide +kernel) rfl
theorem wd_17 : Cond.constantLong R_Mo 210 33 ∈ mGood := mg_of (i := 1074) (by decide +kernel) rfl
theorem wd_18 : Cond.constant R_Co 42 32768 ∈ mGood := mg_of (i := 469) (by decide +kernel) rfl
theorem wd_19 : Cond.constant R_Fl 80 65535 ∈ mGood := mg_of (i := 414) (by decide +kernel) rfl
theorem wd_20 : Cond.fieldLink R_Fl 136 "StreamFilters$Flate" "DISTANCE_STARTS" "[I" ∈ mGood := mg_of (i := 445) (by decide +kernel) rfl
theorem wd_21 : Cond.fieldLink R_Fl 139 "StreamFilters$Flate" "DISTANCE_BITS" "[I" ∈ mGood := mg_of (i := 447) (by decide +kernel) rfl
theorem wd_22 : Cond.fieldLink R_Fl 112 "StreamFilters$Flate" "LENGTH_STARTS" "[I" ∈ mGood := mg_of (i := 438) (by decide +kernel) rfl
theorem wd_23 : Cond.fieldLink R_Fl 115 "StreamFilters$Flate" "LENGTH_BITS" "[I" ∈ mGood := mg_of (i := 440) (by decide +kernel) rfl
theorem wd_24 : Cond.constant R_Fl 47 1000000 ∈ mGood := mg_of (i := 398) (by decide +kernel) rfl
theorem wd_25 : Cond.fieldLink R_Fl 29 "StreamFilters$Flate" "ORDER" "[I" ∈ mGood := mg_of (i := 180) (by decide +kernel) rfl
theorem wd_26 : Cond.constantLong R_Fl 152 65536 ∈ mGood := mg_of (i := 490) (by decide +kernel) rfl
theorem wd_27 : Cond.constant R_Fl 151 65521 ∈ mGood := mg_of (i := 489) (by decide +kernel) rfl
theorem wd_28 : Cond.constantLong R_Fl 142 256 ∈ mGood := mg_of (i := 484) (by decide +kernel) rfl
theorem wd_29 : Cond.constant R_Pa 46 1000000 ∈ mGood := mg_of (i := 499) (by decide +kernel) rfl
theorem wd_30 : Cond.constant R_Hx 9 1000000 ∈ mGood := mg_of (i := 494) (by decide +kernel) rfl
theorem wd_31 : Cond.constant R_Le 9 1000000 ∈ mGood := mg_of (i := 511) (by decide +kernel) rfl
theorem wd_32 : Cond.constant R_Lz 31 1000000 ∈ mGood := mg_of (i := 528) (by decide +kernel) rfl
theorem wd_33 : Cond.constantLong R_T8 46 85 ∈ mGood := mg_of (i := 570) (by decide +kernel) rfl
theorem wd_34 : Cond.constantLong R_T8 48 4294967295 ∈ mGood := mg_of (i := 575) (by decide +kernel) rfl
theorem wd_35 : Cond.constant R_T8 19 1000000 ∈ mGood := mg_of (i := 558) (by decide +kernel) rfl
theorem fg_Co_11 : mFg R_Co 11 2 0 := ⟨R_Co, T_Co, 5, rfl, by decide, in_Co, Or.inl (mg_of (i := 163) (by decide +kernel) rfl)⟩
theorem fg_Co_18 : mFg R_Co 18 2 3 := ⟨R_Co, T_Co, 5, rfl, by decide, in_Co, Or.inl (mg_of (i := 166) (by decide +kernel) rfl)⟩
theorem fg_Co_22 : mFg R_Co 22 2 4 := ⟨R_Co, T_Co, 5, rfl, by decide, in_Co, Or.inl (mg_of (i := 167) (by decide +kernel) rfl)⟩
theorem fg_Co_15 : mFg R_Co 15 2 1 := ⟨R_Co, T_Co, 5, rfl, by decide, in_Co, Or.inl (mg_of (i := 164) (by decide +kernel) rfl)⟩
theorem fg_Co_31 : mFg R_Co 31 2 2 := ⟨R_Co, T_Co, 5, rfl, by decide, in_Co, Or.inl (mg_of (i := 165) (by decide +kernel) rfl)⟩
theorem fg_By_7 : mFg R_By 7 1 1 := ⟨R_By, T_By, 2, rfl, by decide, in_By, Or.inl (mg_of (i := 97) (by decide +kernel) rfl)⟩
theorem fg_By_19 : mFg R_By 19 1 0 := ⟨R_By, T_By, 2, rfl, by decide, in_By, Or.inl (mg_of (i := 95) (by decide +kernel) rfl)⟩
theorem fg_SF_14 : mFg R_SF 14 0 0 := ⟨R_SF, T_SF, 17, rfl, by decide, in_SF, Or.inl (mg_of (i := 287) (by decide +kernel) rfl)⟩
theorem fg_SF_97 : mFg R_SF 97 1 1 := ⟨R_By, T_By, 2, rfl, by decide, in_By, Or.inr ⟨"StreamFilters", List.mem_of_getElem? (i := 1) (by decide +kernel)⟩⟩
theorem fg_SF_24 : mFg R_SF 24 0 2 := ⟨R_SF, T_SF, 17, rfl, by decide, in_SF, Or.inl (mg_of (i := 289) (by decide +kernel) rfl)⟩
theorem fg_Pa_20 : mFg R_Pa 20 8 1 := ⟨R_Pa, T_Pa, 7, rfl, by decide, in_Pa, Or.inl (mg_of (i := 121) (by decide +kernel) rfl)⟩
theorem fg_SF_42 : mFg R_SF 42 0 5 := ⟨R_SF, T_SF, 17, rfl, by decide, in_SF, Or.inl (mg_of (i := 292) (by decide +kernel) rfl)⟩
theorem fg_SF_49 : mFg R_SF 49 0 6 := ⟨R_SF, T_SF, 17, rfl, by decide, in_SF, Or.inl (mg_of (i := 293) (by decide +kernel) rfl)⟩
theorem fg_SF_56 : mFg R_SF 56 0 7 := ⟨R_SF, T_SF, 17, rfl, by decide, in_SF, Or.inl (mg_of (i := 294) (by decide +kernel) rfl)⟩
theorem fg_SF_63 : mFg R_SF 63 0 8 := ⟨R_SF, T_SF, 17, rfl, by decide, in_SF, Or.inl (mg_of (i := 295) (by decide +kernel) rfl)⟩
theorem fg_SF_70 : mFg R_SF 70 0 9 := ⟨R_SF, T_SF, 17, rfl, by decide, in_SF, Or.inl (mg_of (i := 296) (by decide +kernel) rfl)⟩
theorem fg_Li_27 : mFg R_Li 27 6 5 := ⟨R_Li, T_Li, 6, rfl, by decide, in_Li, Or.inl (mg_of (i := 273) (by decide +kernel) rfl)⟩
theorem fg_Li_21 : mFg R_Li 21 6 3 := ⟨R_Li, T_Li, 6, rfl, by decide, in_Li, Or.inl (mg_of (i := 271) (by decide +kernel) rfl)⟩
theorem fg_Li_24 : mFg R_Li 24 6 4 := ⟨R_Li, T_Li, 6, rfl, by decide, in_Li, Or.inl (mg_of (i := 272) (by decide +kernel) rfl)⟩
theorem fg_Li_48 : mFg R_Li 48 1 1 := ⟨R_By, T_By, 2, rfl, by decide, in_By, Or.inr ⟨"StreamFilters", List.mem_of_getElem? (i := 4) (by decide +kernel)⟩⟩
theorem fg_Li_18 : mFg R_Li 18 6 2 := ⟨R_Li, T_Li, 6, rfl, by decide, in_Li, Or.inl (mg_of (i := 270) (by decide +kernel) rfl)⟩
theorem fg_SF_35 : mFg R_SF 35 0 4 := ⟨R_SF, T_SF, 17, rfl, by decide, in_SF, Or.inl (mg_of (i := 291) (by decide +kernel) rfl)⟩
theorem fg_SF_29 : mFg R_SF 29 0 3 := ⟨R_SF, T_SF, 17, rfl, by decide, in_SF, Or.inl (mg_of (i := 290) (by decide +kernel) rfl)⟩
theorem fg_SF_74 : mFg R_SF 74 0 10 := ⟨R_SF, T_SF, 17, rfl, by decide, in_SF, Or.inl (mg_of (i := 297) (by decide +kernel) rfl)⟩
theorem fg_SF_80 : mFg R_SF 80 0 12 := ⟨R_SF, T_SF, 17, rfl, by decide, in_SF, Or.inl (mg_of (i := 299) (by decide +kernel) rfl)⟩
theorem fg_SF_20 : mFg R_SF 20 0 1 := ⟨R_SF, T_SF, 17, rfl, by decide, in_SF, Or.inl (mg_of (i := 288) (by decide +kernel) rfl)⟩
theorem fg_SF_90 : mFg R_SF 90 0 15 := ⟨R_SF, T_SF, 17, rfl, by decide, in_SF, Or.inl (mg_of (i := 302) (by decide +kernel) rfl)⟩
theorem fg_SF_77 : mFg R_SF 77 0 11 := ⟨R_SF, T_SF, 17, rfl, by decide, in_SF, Or.inl (mg_of (i := 298) (by decide +kernel) rfl)⟩
theorem fg_SF_176 : mFg R_SF 176 6 0 := ⟨R_Li, T_Li, 6, rfl, by decide, in_Li, Or.inr ⟨"StreamFilters", List.mem_of_getElem? (i := 23) (by decide +kernel)⟩⟩
theorem fg_SF_183 : mFg R_SF 183 6 1 := ⟨R_Li, T_Li, 6, rfl, by decide, in_Li, Or.inr ⟨"StreamFilters", List.mem_of_getElem? (i := 24) (by decide +kernel)⟩⟩
theorem fg_SF_87 : mFg R_SF 87 0 14 := ⟨R_SF, T_SF, 17, rfl, by decide, in_SF, Or.inl (mg_of (i := 301) (by decide +kernel) rfl)⟩
theorem fg_SF_93 : mFg R_SF 93 0 16 := ⟨R_SF, T_SF, 17, rfl, by decide, in_SF, Or.inl (mg_of (i := 303) (by decide +kernel) rfl)⟩
theorem fg_SF_83 : mFg R_SF 83 0 13 := ⟨R_SF, T_SF, 17, rfl, by decide, in_SF, Or.inl (mg_of (i := 300) (by decide +kernel) rfl)⟩
theorem fg_Mo_69 : mFg R_Mo 69 10 0 := ⟨R_Mo, T_Mo, 31, rfl, by decide, in_Mo, Or.inl (mg_of (i := 814) (by decide +kernel) rfl)⟩
theorem fg_Mo_72 : mFg R_Mo 72 10 1 := ⟨R_Mo, T_Mo, 31, rfl, by decide, in_Mo, Or.inl (mg_of (i := 815) (by decide +kernel) rfl)⟩
theorem fg_Mo_7 : mFg R_Mo 7 10 2 := ⟨R_Mo, T_Mo, 31, rfl, by decide, in_Mo, Or.inl (mg_of (i := 816) (by decide +kernel) rfl)⟩
theorem fg_Mo_13 : mFg R_Mo 13 10 4 := ⟨R_Mo, T_Mo, 31, rfl, by decide, in_Mo, Or.inl (mg_of (i := 818) (by decide +kernel) rfl)⟩
theorem fg_Mo_83 : mFg R_Mo 83 10 3 := ⟨R_Mo, T_Mo, 31, rfl, by decide, in_Mo, Or.inl (mg_of (i := 817) (by decide +kernel) rfl)⟩
theorem fg_Mo_16 : mFg R_Mo 16 10 5 := ⟨R_Mo, T_Mo, 31, rfl, by decide, in_Mo, Or.inl (mg_of (i := 819) (by decide +kernel) rfl)⟩
theorem fg_Mo_19 : mFg R_Mo 19 10 6 := ⟨R_Mo, T_Mo, 31, rfl, by decide, in_Mo, Or.inl (mg_of (i := 820) (by decide +kernel) rfl)⟩
theorem fg_Mo_22 : mFg R_Mo 22 10 7 := ⟨R_Mo, T_Mo, 31, rfl, by decide, in_Mo, Or.inl (mg_of (i := 821) (by decide +kernel) rfl)⟩
theorem fg_Mo_25 : mFg R_Mo 25 10 8 := ⟨R_Mo, T_Mo, 31, rfl, by decide, in_Mo, Or.inl (mg_of (i := 822) (by decide +kernel) rfl)⟩
theorem fg_Mo_28 : mFg R_Mo 28 10 9 := ⟨R_Mo, T_Mo, 31, rfl, by decide, in_Mo, Or.inl (mg_of (i := 823) (by decide +kernel) rfl)⟩
theorem fg_Mo_32 : mFg R_Mo 32 10 10 := ⟨R_Mo, T_Mo, 31, rfl, by decide, in_Mo, Or.inl (mg_of (i := 824) (by decide +kernel) rfl)⟩
theorem fg_Mo_86 : mFg R_Mo 86 10 17 := ⟨R_Mo, T_Mo, 31, rfl, by decide, in_Mo, Or.inl (mg_of (i := 831) (by decide +kernel) rfl)⟩
theorem fg_Mo_93 : mFg R_Mo 93 10 16 := ⟨R_Mo, T_Mo, 31, rfl, by decide, in_Mo, Or.inl (mg_of (i := 830) (by decide +kernel) rfl)⟩
theorem fg_Mo_96 : mFg R_Mo 96 10 11 := ⟨R_Mo, T_Mo, 31, rfl, by decide, in_Mo, Or.inl (mg_of (i := 825) (by decide +kernel) rfl)⟩
theorem fg_Mo_36 : mFg R_Mo 36 10 12 := ⟨R_Mo, T_Mo, 31, rfl, by decide, in_Mo, Or.inl (mg_of (i := 826) (by decide +kernel) rfl)⟩
theorem fg_Mo_39 : mFg R_Mo 39 10 14 := ⟨R_Mo, T_Mo, 31, rfl, by decide, in_Mo, Or.inl (mg_of (i := 828) (by decide +kernel) rfl)⟩
theorem fg_Mo_106 : mFg R_Mo 106 10 13 := ⟨R_Mo, T_Mo, 31, rfl, by decide, in_Mo, Or.inl (mg_of (i := 827) (by decide +kernel) rfl)⟩
theorem fg_Mo_103 : mFg R_Mo 103 10 15 := ⟨R_Mo, T_Mo, 31, rfl, by decide, in_Mo, Or.inl (mg_of (i := 829) (by decide +kernel) rfl)⟩
theorem fg_Mo_109 : mFg R_Mo 109 10 19 := ⟨R_Mo, T_Mo, 31, rfl, by decide, in_Mo, Or.inl (mg_of (i := 833) (by decide +kernel) rfl)⟩
theorem fg_Mo_116 : mFg R_Mo 116 10 18 := ⟨R_Mo, T_Mo, 31, rfl, by decide, in_Mo, Or.inl (mg_of (i := 832) (by decide +kernel) rfl)⟩
theorem fg_Mo_42 : mFg R_Mo 42 10 20 := ⟨R_Mo, T_Mo, 31, rfl, by decide, in_Mo, Or.inl (mg_of (i := 834) (by decide +kernel) rfl)⟩
theorem fg_Mo_45 : mFg R_Mo 45 10 21 := ⟨R_Mo, T_Mo, 31, rfl, by decide, in_Mo, Or.inl (mg_of (i := 835) (by decide +kernel) rfl)⟩
theorem fg_Mo_48 : mFg R_Mo 48 10 22 := ⟨R_Mo, T_Mo, 31, rfl, by decide, in_Mo, Or.inl (mg_of (i := 836) (by decide +kernel) rfl)⟩
theorem fg_Mo_51 : mFg R_Mo 51 10 23 := ⟨R_Mo, T_Mo, 31, rfl, by decide, in_Mo, Or.inl (mg_of (i := 837) (by decide +kernel) rfl)⟩
theorem fg_Mo_54 : mFg R_Mo 54 10 24 := ⟨R_Mo, T_Mo, 31, rfl, by decide, in_Mo, Or.inl (mg_of (i := 838) (by decide +kernel) rfl)⟩
theorem fg_Mo_57 : mFg R_Mo 57 10 27 := ⟨R_Mo, T_Mo, 31, rfl, by decide, in_Mo, Or.inl (mg_of (i := 841) (by decide +kernel) rfl)⟩
theorem fg_Mo_273 : mFg R_Mo 273 10 26 := ⟨R_Mo, T_Mo, 31, rfl, by decide, in_Mo, Or.inl (mg_of (i := 840) (by decide +kernel) rfl)⟩
theorem fg_Mo_66 : mFg R_Mo 66 10 30 := ⟨R_Mo, T_Mo, 31, rfl, by decide, in_Mo, Or.inl (mg_of (i := 844) (by decide +kernel) rfl)⟩
theorem fg_Mo_63 : mFg R_Mo 63 10 29 := ⟨R_Mo, T_Mo, 31, rfl, by decide, in_Mo, Or.inl (mg_of (i := 843) (by decide +kernel) rfl)⟩
theorem fg_Mo_60 : mFg R_Mo 60 10 28 := ⟨R_Mo, T_Mo, 31, rfl, by decide, in_Mo, Or.inl (mg_of (i := 842) (by decide +kernel) rfl)⟩
theorem fg_Mo_269 : mFg R_Mo 269 10 25 := ⟨R_Mo, T_Mo, 31, rfl, by decide, in_Mo, Or.inl (mg_of (i := 839) (by decide +kernel) rfl)⟩
theorem fg_Pa_23 : mFg R_Pa 23 8 2 := ⟨R_Pa, T_Pa, 7, rfl, by decide, in_Pa, Or.inl (mg_of (i := 124) (by decide +kernel) rfl)⟩
theorem fg_Pa_14 : mFg R_Pa 14 8 0 := ⟨R_Pa, T_Pa, 7, rfl, by decide, in_Pa, Or.inl (mg_of (i := 120) (by decide +kernel) rfl)⟩
theorem fg_Pa_39 : mFg R_Pa 39 1 1 := ⟨R_By, T_By, 2, rfl, by decide, in_By, Or.inr ⟨"StreamFilters", List.mem_of_getElem? (i := 2) (by decide +kernel)⟩⟩
theorem fg_Pa_42 : mFg R_Pa 42 1 0 := ⟨R_By, T_By, 2, rfl, by decide, in_By, Or.inr ⟨"StreamFilters", List.mem_of_getElem? (i := 0) (by decide +kernel)⟩⟩
theorem fg_Pa_27 : mFg R_Pa 27 8 3 := ⟨R_Pa, T_Pa, 7, rfl, by decide, in_Pa, Or.inl (mg_of (i := 126) (by decide +kernel) rfl)⟩
theorem fg_Pa_30 : mFg R_Pa 30 8 4 := ⟨R_Pa, T_Pa, 7, rfl, by decide, in_Pa, Or.inl (mg_of (i := 127) (by decide +kernel) rfl)⟩
theorem fg_Pa_36 : mFg R_Pa 36 8 6 := ⟨R_Pa, T_Pa, 7, rfl, by decide, in_Pa, Or.inl (mg_of (i := 130) (by decide +kernel) rfl)⟩
theorem fg_Fl_122 : mFg R_Fl 122 8 1 := ⟨R_Pa, T_Pa, 7, rfl, by decide, in_Pa, Or.inr ⟨"StreamFilters", List.mem_of_getElem? (i := 9) (by decide +kernel)⟩⟩
theorem fg_Fl_126 : mFg R_Fl 126 1 1 := ⟨R_By, T_By, 2, rfl, by decide, in_By, Or.inr ⟨"StreamFilters", List.mem_of_getElem? (i := 5) (by decide +kernel)⟩⟩
theorem fg_Fl_33 : mFg R_Fl 33 3 4 := ⟨R_Fl, T_Fl, 6, rfl, by decide, in_Fl, Or.inl (mg_of (i := 197) (by decide +kernel) rfl)⟩
theorem fg_Fl_36 : mFg R_Fl 36 3 5 := ⟨R_Fl, T_Fl, 6, rfl, by decide, in_Fl, Or.inl (mg_of (i := 198) (by decide +kernel) rfl)⟩
theorem fg_Fl_23 : mFg R_Fl 23 3 2 := ⟨R_Fl, T_Fl, 6, rfl, by decide, in_Fl, Or.inl (mg_of (i := 195) (by decide +kernel) rfl)⟩
theorem fg_Fl_26 : mFg R_Fl 26 3 3 := ⟨R_Fl, T_Fl, 6, rfl, by decide, in_Fl, Or.inl (mg_of (i := 196) (by decide +kernel) rfl)⟩
theorem fg_Fl_16 : mFg R_Fl 16 3 0 := ⟨R_Fl, T_Fl, 6, rfl, by decide, in_Fl, Or.inl (mg_of (i := 193) (by decide +kernel) rfl)⟩
theorem fg_Fl_20 : mFg R_Fl 20 3 1 := ⟨R_Fl, T_Fl, 6, rfl, by decide, in_Fl, Or.inl (mg_of (i := 194) (by decide +kernel) rfl)⟩
theorem fg_Lz_18 : mFg R_Lz 18 7 2 := ⟨R_Lz, T_Lz, 5, rfl, by decide, in_Lz, Or.inl (mg_of (i := 220) (by decide +kernel) rfl)⟩
theorem fg_Lz_25 : mFg R_Lz 25 7 4 := ⟨R_Lz, T_Lz, 5, rfl, by decide, in_Lz, Or.inl (mg_of (i := 222) (by decide +kernel) rfl)⟩
theorem fg_Lz_15 : mFg R_Lz 15 7 1 := ⟨R_Lz, T_Lz, 5, rfl, by decide, in_Lz, Or.inl (mg_of (i := 219) (by decide +kernel) rfl)⟩
theorem fg_Lz_22 : mFg R_Lz 22 7 3 := ⟨R_Lz, T_Lz, 5, rfl, by decide, in_Lz, Or.inl (mg_of (i := 221) (by decide +kernel) rfl)⟩
theorem fg_Lz_11 : mFg R_Lz 11 7 0 := ⟨R_Lz, T_Lz, 5, rfl, by decide, in_Lz, Or.inl (mg_of (i := 218) (by decide +kernel) rfl)⟩
theorem fg_Lz_45 : mFg R_Lz 45 8 1 := ⟨R_Pa, T_Pa, 7, rfl, by decide, in_Pa, Or.inr ⟨"StreamFilters", List.mem_of_getElem? (i := 8) (by decide +kernel)⟩⟩
theorem fg_Lz_49 : mFg R_Lz 49 1 1 := ⟨R_By, T_By, 2, rfl, by decide, in_By, Or.inr ⟨"StreamFilters", List.mem_of_getElem? (i := 3) (by decide +kernel)⟩⟩
theorem fg_T8_9 : mFg R_T8 9 9 0 := ⟨R_T8, T_T8, 2, rfl, by decide, in_T8, Or.inl (mg_of (i := 240) (by decide +kernel) rfl)⟩
theorem fg_T8_15 : mFg R_T8 15 9 1 := ⟨R_T8, T_T8, 2, rfl, by decide, in_T8, Or.inl (mg_of (i := 241) (by decide +kernel) rfl)⟩
theorem fp_Co_18 : mFp R_Co 18 2 3 .int false := ⟨R_Co, T_Co, 5, ty_Co, rfl, by decide, in_Co, Or.inl (mg_of (i := 166) (by decide +kernel) rfl), tyok_Co, nm_Co, rfl, rfl, fun h => absurd h (by decide)⟩
theorem fp_Co_22 : mFp R_Co 22 2 4 .int false := ⟨R_Co, T_Co, 5, ty_Co, rfl, by decide, in_Co, Or.inl (mg_of (i := 167) (by decide +kernel) rfl), tyok_Co, nm_Co, rfl, rfl, fun h => absurd h (by decide)⟩
theorem fp_By_7 : mFp R_By 7 1 1 .int false := ⟨R_By, T_By, 2, ty_By, rfl, by decide, in_By, Or.inl (mg_of (i := 97) (by decide +kernel) rfl), tyok_By, nm_By, rfl, rfl, fun h => absurd h (by decide)⟩
theorem fp_SF_97 : mFp R_SF 97 1 1 .int false := ⟨R_By, T_By, 2, ty_By, rfl, by decide, in_By, Or.inr ⟨"StreamFilters", List.mem_of_getElem? (i := 1) (by decide +kernel)⟩, tyok_By, nm_By, rfl, rfl, fun h => absurd h (by decide)⟩
theorem fp_Li_9 : mFp R_Li 9 6 0 .int false := ⟨R_Li, T_Li, 6, ty_Li, rfl, by decide, in_Li, Or.inl (mg_of (i := 266) (by decide +kernel) rfl), tyok_Li, nm_Li, rfl, rfl, fun h => absurd h (by decide)⟩
theorem fp_Li_15 : mFp R_Li 15 6 1 .int false := ⟨R_Li, T_Li, 6, ty_Li, rfl, by decide, in_Li, Or.inl (mg_of (i := 268) (by decide +kernel) rfl), tyok_Li, nm_Li, rfl, rfl, fun h => absurd h (by decide)⟩
theorem fp_Li_18 : mFp R_Li 18 6 2 .int false := ⟨R_Li, T_Li, 6, ty_Li, rfl, by decide, in_Li, Or.inl (mg_of (i := 270) (by decide +kernel) rfl), tyok_Li, nm_Li, rfl, rfl, fun h => absurd h (by decide)⟩
theorem fp_Li_21 : mFp R_Li 21 6 3 .int false := ⟨R_Li, T_Li, 6, ty_Li, rfl, by decide, in_Li, Or.inl (mg_of (i := 271) (by decide +kernel) rfl), tyok_Li, nm_Li, rfl, rfl, fun h => absurd h (by decide)⟩
theorem fp_Li_24 : mFp R_Li 24 6 4 .int false := ⟨R_Li, T_Li, 6, ty_Li, rfl, by decide, in_Li, Or.inl (mg_of (i := 272) (by decide +kernel) rfl), tyok_Li, nm_Li, rfl, rfl, fun h => absurd h (by decide)⟩
theorem fp_Li_27 : mFp R_Li 27 6 5 .int false := ⟨R_Li, T_Li, 6, ty_Li, rfl, by decide, in_Li, Or.inl (mg_of (i := 273) (by decide +kernel) rfl), tyok_Li, nm_Li, rfl, rfl, fun h => absurd h (by decide)⟩
theorem fp_SF_24 : mFp R_SF 24 0 2 .int false := ⟨R_SF, T_SF, 17, ty_SF, rfl, by decide, in_SF, Or.inl (mg_of (i := 289) (by decide +kernel) rfl), tyok_SF, nm_SF, rfl, rfl, fun h => absurd h (by decide)⟩
theorem fp_SF_87 : mFp R_SF 87 0 14 .int false := ⟨R_SF, T_SF, 17, ty_SF, rfl, by decide, in_SF, Or.inl (mg_of (i := 301) (by decide +kernel) rfl), tyok_SF, nm_SF, rfl, rfl, fun h => absurd h (by decide)⟩
theorem fp_SF_90 : mFp R_SF 90 0 15 .int false := ⟨R_SF, T_SF, 17, ty_SF, rfl, by decide, in_SF, Or.inl (mg_of (i := 302) (by decide +kernel) rfl), tyok_SF, nm_SF, rfl, rfl, fun h => absurd h (by decide)⟩
theorem fp_SF_93 : mFp R_SF 93 0 16 .int false := ⟨R_SF, T_SF, 17, ty_SF, rfl, by decide, in_SF, Or.inl (mg_of (i := 303) (by decide +kernel) rfl), tyok_SF, nm_SF, rfl, rfl, fun h => absurd h (by decide)⟩
theorem fp_Pa_14 : mFp R_Pa 14 8 0 (.object "StreamFilters$Bytes") false := ⟨R_Pa, T_Pa, 7, ty_Pa, rfl, by decide, in_Pa, Or.inl (mg_of (i := 120) (by decide +kernel) rfl), tyok_Pa, nm_Pa, rfl, rfl, fun h => absurd h (by decide)⟩
theorem fp_Pa_20 : mFp R_Pa 20 8 1 (.object "StreamFilters$Bytes") false := ⟨R_Pa, T_Pa, 7, ty_Pa, rfl, by decide, in_Pa, Or.inl (mg_of (i := 121) (by decide +kernel) rfl), tyok_Pa, nm_Pa, rfl, rfl, fun h => absurd h (by decide)⟩
theorem fp_Pa_39 : mFp R_Pa 39 1 1 .int false := ⟨R_By, T_By, 2, ty_By, rfl, by decide, in_By, Or.inr ⟨"StreamFilters", List.mem_of_getElem? (i := 2) (by decide +kernel)⟩, tyok_By, nm_By, rfl, rfl, fun h => absurd h (by decide)⟩
theorem fp_Pa_23 : mFp R_Pa 23 8 2 .int false := ⟨R_Pa, T_Pa, 7, ty_Pa, rfl, by decide, in_Pa, Or.inl (mg_of (i := 124) (by decide +kernel) rfl), tyok_Pa, nm_Pa, rfl, rfl, fun h => absurd h (by decide)⟩
theorem fp_Pa_30 : mFp R_Pa 30 8 4 .int false := ⟨R_Pa, T_Pa, 7, ty_Pa, rfl, by decide, in_Pa, Or.inl (mg_of (i := 127) (by decide +kernel) rfl), tyok_Pa, nm_Pa, rfl, rfl, fun h => absurd h (by decide)⟩
theorem fp_Pa_33 : mFp R_Pa 33 8 5 .int false := ⟨R_Pa, T_Pa, 7, ty_Pa, rfl, by decide, in_Pa, Or.inl (mg_of (i := 128) (by decide +kernel) rfl), tyok_Pa, nm_Pa, rfl, rfl, fun h => absurd h (by decide)⟩
theorem fp_Li_48 : mFp R_Li 48 1 1 .int false := ⟨R_By, T_By, 2, ty_By, rfl, by decide, in_By, Or.inr ⟨"StreamFilters", List.mem_of_getElem? (i := 4) (by decide +kernel)⟩, tyok_By, nm_By, rfl, rfl, fun h => absurd h (by decide)⟩
theorem fp_SF_83 : mFp R_SF 83 0 13 .boolean false := ⟨R_SF, T_SF, 17, ty_SF, rfl, by decide, in_SF, Or.inl (mg_of (i := 300) (by decide +kernel) rfl), tyok_SF, nm_SF, rfl, rfl, fun h => absurd h (by decide)⟩
theorem fp_SF_166 : mFp R_SF 166 8 6 .int false := ⟨R_Pa, T_Pa, 7, ty_Pa, rfl, by decide, in_Pa, Or.inr ⟨"StreamFilters", List.mem_of_getElem? (i := 12) (by decide +kernel)⟩, tyok_Pa, nm_Pa, rfl, rfl, fun h => absurd h (by decide)⟩
theorem fp_SF_80 : mFp R_SF 80 0 12 (.object "StreamFilters$Bytes") false := ⟨R_SF, T_SF, 17, ty_SF, rfl, by decide, in_SF, Or.inl (mg_of (i := 299) (by decide +kernel) rfl), tyok_SF, nm_SF, rfl, rfl, fun h => absurd h (by decide)⟩
theorem fp_Mo_69 : mFp R_Mo 69 10 0 .int false := ⟨R_Mo, T_Mo, 31, ty_Mo, rfl, by decide, in_Mo, Or.inl (mg_of (i := 814) (by decide +kernel) rfl), tyok_Mo, nm_Mo, rfl, rfl, fun h => absurd h (by decide)⟩
theorem fp_Mo_72 : mFp R_Mo 72 10 1 .int false := ⟨R_Mo, T_Mo, 31, ty_Mo, rfl, by decide, in_Mo, Or.inl (mg_of (i := 815) (by decide +kernel) rfl), tyok_Mo, nm_Mo, rfl, rfl, fun h => absurd h (by decide)⟩
theorem fp_Mo_83 : mFp R_Mo 83 10 3 .int false := ⟨R_Mo, T_Mo, 31, ty_Mo, rfl, by decide, in_Mo, Or.inl (mg_of (i := 817) (by decide +kernel) rfl), tyok_Mo, nm_Mo, rfl, rfl, fun h => absurd h (by decide)⟩
theorem fp_Mo_32 : mFp R_Mo 32 10 10 .int false := ⟨R_Mo, T_Mo, 31, ty_Mo, rfl, by decide, in_Mo, Or.inl (mg_of (i := 824) (by decide +kernel) rfl), tyok_Mo, nm_Mo, rfl, rfl, fun h => absurd h (by decide)⟩
theorem fp_Mo_86 : mFp R_Mo 86 10 17 .int false := ⟨R_Mo, T_Mo, 31, ty_Mo, rfl, by decide, in_Mo, Or.inl (mg_of (i := 831) (by decide +kernel) rfl), tyok_Mo, nm_Mo, rfl, rfl, fun h => absurd h (by decide)⟩
theorem fp_Mo_93 : mFp R_Mo 93 10 16 .int false := ⟨R_Mo, T_Mo, 31, ty_Mo, rfl, by decide, in_Mo, Or.inl (mg_of (i := 830) (by decide +kernel) rfl), tyok_Mo, nm_Mo, rfl, rfl, fun h => absurd h (by decide)⟩
theorem fp_Mo_106 : mFp R_Mo 106 10 13 .int false := ⟨R_Mo, T_Mo, 31, ty_Mo, rfl, by decide, in_Mo, Or.inl (mg_of (i := 827) (by decide +kernel) rfl), tyok_Mo, nm_Mo, rfl, rfl, fun h => absurd h (by decide)⟩
theorem fp_Mo_103 : mFp R_Mo 103 10 15 .int false := ⟨R_Mo, T_Mo, 31, ty_Mo, rfl, by decide, in_Mo, Or.inl (mg_of (i := 829) (by decide +kernel) rfl), tyok_Mo, nm_Mo, rfl, rfl, fun h => absurd h (by decide)⟩
theorem fp_Mo_109 : mFp R_Mo 109 10 19 .int false := ⟨R_Mo, T_Mo, 31, ty_Mo, rfl, by decide, in_Mo, Or.inl (mg_of (i := 833) (by decide +kernel) rfl), tyok_Mo, nm_Mo, rfl, rfl, fun h => absurd h (by decide)⟩
theorem fp_Mo_116 : mFp R_Mo 116 10 18 .int false := ⟨R_Mo, T_Mo, 31, ty_Mo, rfl, by decide, in_Mo, Or.inl (mg_of (i := 832) (by decide +kernel) rfl), tyok_Mo, nm_Mo, rfl, rfl, fun h => absurd h (by decide)⟩
theorem fp_Mo_60 : mFp R_Mo 60 10 28 .int false := ⟨R_Mo, T_Mo, 31, ty_Mo, rfl, by decide, in_Mo, Or.inl (mg_of (i := 842) (by decide +kernel) rfl), tyok_Mo, nm_Mo, rfl, rfl, fun h => absurd h (by decide)⟩
theorem fp_Mo_63 : mFp R_Mo 63 10 29 .int false := ⟨R_Mo, T_Mo, 31, ty_Mo, rfl, by decide, in_Mo, Or.inl (mg_of (i := 843) (by decide +kernel) rfl), tyok_Mo, nm_Mo, rfl, rfl, fun h => absurd h (by decide)⟩
theorem fp_Mo_66 : mFp R_Mo 66 10 30 .int false := ⟨R_Mo, T_Mo, 31, ty_Mo, rfl, by decide, in_Mo, Or.inl (mg_of (i := 844) (by decide +kernel) rfl), tyok_Mo, nm_Mo, rfl, rfl, fun h => absurd h (by decide)⟩
theorem fp_Mo_269 : mFp R_Mo 269 10 25 .boolean false := ⟨R_Mo, T_Mo, 31, ty_Mo, rfl, by decide, in_Mo, Or.inl (mg_of (i := 839) (by decide +kernel) rfl), tyok_Mo, nm_Mo, rfl, rfl, fun h => absurd h (by decide)⟩
theorem fp_Mo_273 : mFp R_Mo 273 10 26 .int false := ⟨R_Mo, T_Mo, 31, ty_Mo, rfl, by decide, in_Mo, Or.inl (mg_of (i := 840) (by decide +kernel) rfl), tyok_Mo, nm_Mo, rfl, rfl, fun h => absurd h (by decide)⟩
theorem fp_Mo_96 : mFp R_Mo 96 10 11 .int false := ⟨R_Mo, T_Mo, 31, ty_Mo, rfl, by decide, in_Mo, Or.inl (mg_of (i := 825) (by decide +kernel) rfl), tyok_Mo, nm_Mo, rfl, rfl, fun h => absurd h (by decide)⟩
theorem fp_Pa_27 : mFp R_Pa 27 8 3 .int false := ⟨R_Pa, T_Pa, 7, ty_Pa, rfl, by decide, in_Pa, Or.inl (mg_of (i := 126) (by decide +kernel) rfl), tyok_Pa, nm_Pa, rfl, rfl, fun h => absurd h (by decide)⟩
theorem fp_Pa_36 : mFp R_Pa 36 8 6 .int false := ⟨R_Pa, T_Pa, 7, ty_Pa, rfl, by decide, in_Pa, Or.inl (mg_of (i := 130) (by decide +kernel) rfl), tyok_Pa, nm_Pa, rfl, rfl, fun h => absurd h (by decide)⟩
theorem fp_Lz_18 : mFp R_Lz 18 7 2 .int false := ⟨R_Lz, T_Lz, 5, ty_Lz, rfl, by decide, in_Lz, Or.inl (mg_of (i := 220) (by decide +kernel) rfl), tyok_Lz, nm_Lz, rfl, rfl, fun h => absurd h (by decide)⟩
theorem fp_Lz_25 : mFp R_Lz 25 7 4 .int false := ⟨R_Lz, T_Lz, 5, ty_Lz, rfl, by decide, in_Lz, Or.inl (mg_of (i := 222) (by decide +kernel) rfl), tyok_Lz, nm_Lz, rfl, rfl, fun h => absurd h (by decide)⟩
theorem fp_Lz_22 : mFp R_Lz 22 7 3 .int false := ⟨R_Lz, T_Lz, 5, ty_Lz, rfl, by decide, in_Lz, Or.inl (mg_of (i := 221) (by decide +kernel) rfl), tyok_Lz, nm_Lz, rfl, rfl, fun h => absurd h (by decide)⟩
theorem fp_T8_9 : mFp R_T8 9 9 0 .long false := ⟨R_T8, T_T8, 2, ty_T8, rfl, by decide, in_T8, Or.inl (mg_of (i := 240) (by decide +kernel) rfl), tyok_T8, nm_T8, rfl, rfl, fun h => absurd h (by decide)⟩
theorem fp_T8_15 : mFp R_T8 15 9 1 .int false := ⟨R_T8, T_T8, 2, ty_T8, rfl, by decide, in_T8, Or.inl (mg_of (i := 241) (by decide +kernel) rfl), tyok_T8, nm_T8, rfl, rfl, fun h => absurd h (by decide)⟩
theorem lk_Co_38 : mLk R_Co 38 y_Co_isLength := Or.inl (mg_of (i := 190) (by decide +kernel) rfl)
theorem lk_Co_34 : mLk R_Co 34 y_Co_count := Or.inl (mg_of (i := 186) (by decide +kernel) rfl)
theorem lk_By_23 : mLk R_By 23 y_By_add := Or.inl (mg_of (i := 347) (by decide +kernel) rfl)
theorem lk_SF_100 : mLk R_SF 100 y_By_addFour := Or.inl (mg_of (i := 343) (by decide +kernel) rfl)
theorem lk_SF_143 : mLk R_SF 143 y_SF_isPredictor := Or.inl (mg_of (i := 778) (by decide +kernel) rfl)
theorem lk_Li_64 : mLk R_Li 64 y_By_byteAt := Or.inl (mg_of (i := 596) (by decide +kernel) rfl)
theorem lk_Li_68 : mLk R_Li 68 y_Li_shiftOf := Or.inl (mg_of (i := 597) (by decide +kernel) rfl)
theorem lk_Li_71 : mLk R_Li 71 y_Li_mask := Or.inl (mg_of (i := 601) (by decide +kernel) rfl)
theorem lk_Li_74 : mLk R_Li 74 y_By_change := Or.inl (mg_of (i := 609) (by decide +kernel) rfl)
theorem lk_Li_44 : mLk R_Li 44 y_Li_rowSize := Or.inl (mg_of (i := 586) (by decide +kernel) rfl)
theorem lk_Li_56 : mLk R_Li 56 y_Li_numberAt := Or.inl (mg_of (i := 592) (by decide +kernel) rfl)
theorem lk_Li_60 : mLk R_Li 60 y_Li_setNumber := Or.inl (mg_of (i := 605) (by decide +kernel) rfl)
theorem lk_Li_86 : mLk R_Li 86 y_Li_nearest := Or.inl (mg_of (i := 624) (by decide +kernel) rfl)
theorem lk_Li_82 : mLk R_Li 82 y_Li_guessOf := Or.inl (mg_of (i := 621) (by decide +kernel) rfl)
theorem lk_Li_78 : mLk R_Li 78 y_Li_undoRow := Or.inl (mg_of (i := 617) (by decide +kernel) rfl)
theorem lk_Li_34 : mLk R_Li 34 y_Li_undoTags := Or.inl (mg_of (i := 613) (by decide +kernel) rfl)
theorem lk_Li_30 : mLk R_Li 30 y_Li_undoNumbers := Or.inl (mg_of (i := 582) (by decide +kernel) rfl)
theorem lk_SF_162 : mLk R_SF 162 y_SF_noteFault := Or.inl (mg_of (i := 359) (by decide +kernel) rfl)
theorem lk_SF_173 : mLk R_SF 173 y_Pa_begin := Or.inl (mg_of (i := 373) (by decide +kernel) rfl)
theorem lk_SF_179 : mLk R_SF 179 y_SF_unpackerOf := Or.inl (mg_of (i := 377) (by decide +kernel) rfl)
theorem lk_SF_115 : mLk R_SF 115 y_By_byteAt := Or.inl (mg_of (i := 634) (by decide +kernel) rfl)
theorem lk_SF_169 : mLk R_SF 169 y_By_become := Or.inl (mg_of (i := 363) (by decide +kernel) rfl)
theorem lk_Mo_75 : mLk R_Mo 75 y_Mo_isIn := Or.inl (mg_of (i := 920) (by decide +kernel) rfl)
theorem lk_Mo_79 : mLk R_Mo 79 y_Mo_refused := Or.inl (mg_of (i := 923) (by decide +kernel) rfl)
theorem lk_Mo_89 : mLk R_Mo 89 y_Mo_isGood := Or.inl (mg_of (i := 951) (by decide +kernel) rfl)
theorem lk_Mo_99 : mLk R_Mo 99 y_Mo_fail := Or.inl (mg_of (i := 967) (by decide +kernel) rfl)
theorem lk_Mo_112 : mLk R_Mo 112 y_Mo_next := Or.inl (mg_of (i := 963) (by decide +kernel) rfl)
theorem lk_Mo_119 : mLk R_Mo 119 y_Mo_bit := Or.inl (mg_of (i := 971) (by decide +kernel) rfl)
theorem lk_Mo_123 : mLk R_Mo 123 y_Mo_makeCodes := Or.inl (mg_of (i := 996) (by decide +kernel) rfl)
theorem lk_Mo_141 : mLk R_Mo 141 y_Mo_symbol := Or.inl (mg_of (i := 1004) (by decide +kernel) rfl)
theorem lk_Mo_127 : mLk R_Mo 127 y_Mo_number := Or.inl (mg_of (i := 975) (by decide +kernel) rfl)
theorem lk_Mo_138 : mLk R_Mo 138 y_Mo_readLengths := Or.inl (mg_of (i := 1036) (by decide +kernel) rfl)
theorem lk_Mo_134 : mLk R_Mo 134 y_Mo_isWhole := Or.inl (mg_of (i := 1031) (by decide +kernel) rfl)
theorem lk_Mo_131 : mLk R_Mo 131 y_Mo_orderOf := Or.inl (mg_of (i := 1028) (by decide +kernel) rfl)
theorem lk_Mo_145 : mLk R_Mo 145 y_Mo_lengthBits := Or.inl (mg_of (i := 1015) (by decide +kernel) rfl)
theorem lk_Mo_148 : mLk R_Mo 148 y_Mo_distanceBits := Or.inl (mg_of (i := 1021) (by decide +kernel) rfl)
theorem lk_Mo_151 : mLk R_Mo 151 y_Mo_lengthOf := Or.inl (mg_of (i := 1012) (by decide +kernel) rfl)
theorem lk_Mo_157 : mLk R_Mo 157 y_Mo_give := Or.inl (mg_of (i := 988) (by decide +kernel) rfl)
theorem lk_Mo_154 : mLk R_Mo 154 y_Mo_distanceOf := Or.inl (mg_of (i := 1018) (by decide +kernel) rfl)
theorem lk_Mo_160 : mLk R_Mo 160 y_Mo_match := Or.inl (mg_of (i := 1008) (by decide +kernel) rfl)
theorem lk_Mo_173 : mLk R_Mo 173 y_Mo_stored := Or.inl (mg_of (i := 983) (by decide +kernel) rfl)
theorem lk_Mo_176 : mLk R_Mo 176 y_Mo_fixCodes := Or.inl (mg_of (i := 992) (by decide +kernel) rfl)
theorem lk_Mo_179 : mLk R_Mo 179 y_Mo_coded := Or.inl (mg_of (i := 1000) (by decide +kernel) rfl)
theorem lk_Mo_182 : mLk R_Mo 182 y_Mo_readCodes := Or.inl (mg_of (i := 1024) (by decide +kernel) rfl)
theorem lk_Mo_169 : mLk R_Mo 169 y_Mo_check := Or.inl (mg_of (i := 1041) (by decide +kernel) rfl)
theorem lk_Mo_164 : mLk R_Mo 164 y_Mo_block := Or.inl (mg_of (i := 979) (by decide +kernel) rfl)
theorem lk_Mo_189 : mLk R_Mo 189 y_Mo_widthOf := Or.inl (mg_of (i := 1051) (by decide +kernel) rfl)
theorem lk_Mo_192 : mLk R_Mo 192 y_Mo_wideCode := Or.inl (mg_of (i := 1054) (by decide +kernel) rfl)
theorem lk_Mo_198 : mLk R_Mo 198 y_Mo_byteOf := Or.inl (mg_of (i := 1062) (by decide +kernel) rfl)
theorem lk_Mo_195 : mLk R_Mo 195 y_Mo_firstOf := Or.inl (mg_of (i := 1058) (by decide +kernel) rfl)
theorem lk_Mo_212 : mLk R_Mo 212 y_Mo_giveWord := Or.inl (mg_of (i := 1075) (by decide +kernel) rfl)
theorem lk_Mo_205 : mLk R_Mo 205 y_Mo_isWhite := Or.inl (mg_of (i := 1070) (by decide +kernel) rfl)
theorem lk_Mo_218 : mLk R_Mo 218 y_Mo_digit := Or.inl (mg_of (i := 1086) (by decide +kernel) rfl)
theorem lk_Mo_221 : mLk R_Mo 221 y_Mo_bitAt := Or.inl (mg_of (i := 1105) (by decide +kernel) rfl)
theorem lk_Mo_224 : mLk R_Mo 224 y_Mo_rowBytes := Or.inl (mg_of (i := 1097) (by decide +kernel) rfl)
theorem lk_Mo_227 : mLk R_Mo 227 y_Mo_numberAt := Or.inl (mg_of (i := 1101) (by decide +kernel) rfl)
theorem lk_Mo_231 : mLk R_Mo 231 y_Mo_setNumber := Or.inl (mg_of (i := 1109) (by decide +kernel) rfl)
theorem lk_Mo_235 : mLk R_Mo 235 y_Mo_far := Or.inl (mg_of (i := 1123) (by decide +kernel) rfl)
theorem lk_Mo_238 : mLk R_Mo 238 y_Mo_nearest := Or.inl (mg_of (i := 1120) (by decide +kernel) rfl)
theorem lk_Mo_241 : mLk R_Mo 241 y_Mo_added := Or.inl (mg_of (i := 1117) (by decide +kernel) rfl)
theorem lk_Mo_245 : mLk R_Mo 245 y_Mo_flate := Or.inl (mg_of (i := 959) (by decide +kernel) rfl)
theorem lk_Mo_263 : mLk R_Mo 263 y_Mo_undoRows := Or.inl (mg_of (i := 1113) (by decide +kernel) rfl)
theorem lk_Mo_260 : mLk R_Mo 260 y_Mo_addRows := Or.inl (mg_of (i := 1093) (by decide +kernel) rfl)
theorem lk_Mo_248 : mLk R_Mo 248 y_Mo_lzw := Or.inl (mg_of (i := 1047) (by decide +kernel) rfl)
theorem lk_Mo_251 : mLk R_Mo 251 y_Mo_text85 := Or.inl (mg_of (i := 1066) (by decide +kernel) rfl)
theorem lk_Mo_254 : mLk R_Mo 254 y_Mo_hexadecimal := Or.inl (mg_of (i := 1082) (by decide +kernel) rfl)
theorem lk_Mo_257 : mLk R_Mo 257 y_Mo_runs := Or.inl (mg_of (i := 1089) (by decide +kernel) rfl)
theorem lk_Mo_266 : mLk R_Mo 266 y_Mo_run := Or.inl (mg_of (i := 955) (by decide +kernel) rfl)
theorem lk_Pa_47 : mLk R_Pa 47 y_Pa_nextByte := Or.inl (mg_of (i := 407) (by decide +kernel) rfl)
theorem lk_Co_49 : mLk R_Co 49 y_Pa_fail := Or.inl (mg_of (i := 433) (by decide +kernel) rfl)
theorem lk_Co_43 : mLk R_Co 43 y_Pa_nextBit := Or.inl (mg_of (i := 432) (by decide +kernel) rfl)
theorem lk_Fl_72 : mLk R_Fl 72 y_Pa_nextByte := Or.inl (mg_of (i := 390) (by decide +kernel) rfl)
theorem lk_Fl_64 : mLk R_Fl 64 y_Pa_fail := Or.inl (mg_of (i := 394) (by decide +kernel) rfl)
theorem lk_Pa_55 : mLk R_Pa 55 y_Pa_nextBit := Or.inl (mg_of (i := 403) (by decide +kernel) rfl)
theorem lk_Pa_62 : mLk R_Pa 62 y_By_add := Or.inl (mg_of (i := 424) (by decide +kernel) rfl)
theorem lk_Pa_59 : mLk R_Pa 59 y_Pa_fail := Or.inl (mg_of (i := 423) (by decide +kernel) rfl)
theorem lk_Pa_65 : mLk R_Pa 65 y_Pa_give := Or.inl (mg_of (i := 419) (by decide +kernel) rfl)
theorem lk_Fl_76 : mLk R_Fl 76 y_Fl_readShort := Or.inl (mg_of (i := 411) (by decide +kernel) rfl)
theorem lk_Fl_81 : mLk R_Fl 81 y_Pa_giveAsTheyAre := Or.inl (mg_of (i := 415) (by decide +kernel) rfl)
theorem lk_Fl_98 : mLk R_Fl 98 y_Co_read := Or.inl (mg_of (i := 428) (by decide +kernel) rfl)
theorem lk_Fl_48 : mLk R_Fl 48 y_Pa_lowNumber := Or.inl (mg_of (i := 399) (by decide +kernel) rfl)
theorem lk_Pa_68 : mLk R_Pa 68 y_By_byteAt := Or.inl (mg_of (i := 453) (by decide +kernel) rfl)
theorem lk_Fl_118 : mLk R_Fl 118 y_Fl_readDistance := Or.inl (mg_of (i := 442) (by decide +kernel) rfl)
theorem lk_Fl_132 : mLk R_Fl 132 y_Pa_giveAgain := Or.inl (mg_of (i := 449) (by decide +kernel) rfl)
theorem lk_Fl_108 : mLk R_Fl 108 y_Fl_copy := Or.inl (mg_of (i := 435) (by decide +kernel) rfl)
theorem lk_Fl_105 : mLk R_Fl 105 y_Pa_give := Or.inl (mg_of (i := 434) (by decide +kernel) rfl)
theorem lk_Fl_39 : mLk R_Fl 39 y_Co_build := Or.inl (mg_of (i := 182) (by decide +kernel) rfl)
theorem lk_Fl_91 : mLk R_Fl 91 y_Co_isGood := Or.inl (mg_of (i := 465) (by decide +kernel) rfl)
theorem lk_Fl_101 : mLk R_Fl 101 y_Fl_readTimes := Or.inl (mg_of (i := 474) (by decide +kernel) rfl)
theorem lk_Fl_84 : mLk R_Fl 84 y_Fl_readLengthCodes := Or.inl (mg_of (i := 461) (by decide +kernel) rfl)
theorem lk_Fl_88 : mLk R_Fl 88 y_Fl_readLengths := Or.inl (mg_of (i := 470) (by decide +kernel) rfl)
theorem lk_Fl_95 : mLk R_Fl 95 y_Co_isEmpty := Or.inl (mg_of (i := 477) (by decide +kernel) rfl)
theorem lk_Fl_148 : mLk R_Fl 148 y_By_byteAt := Or.inl (mg_of (i := 488) (by decide +kernel) rfl)
theorem lk_Fl_144 : mLk R_Fl 144 y_Fl_checkOf := Or.inl (mg_of (i := 485) (by decide +kernel) rfl)
theorem lk_Fl_43 : mLk R_Fl 43 y_Fl_readHeader := Or.inl (mg_of (i := 387) (by decide +kernel) rfl)
theorem lk_Fl_68 : mLk R_Fl 68 y_Fl_compareCheck := Or.inl (mg_of (i := 481) (by decide +kernel) rfl)
theorem lk_Fl_54 : mLk R_Fl 54 y_Fl_unpackStored := Or.inl (mg_of (i := 408) (by decide +kernel) rfl)
theorem lk_Fl_57 : mLk R_Fl 57 y_Fl_unpackCodes := Or.inl (mg_of (i := 425) (by decide +kernel) rfl)
theorem lk_Fl_61 : mLk R_Fl 61 y_Fl_readCodes := Or.inl (mg_of (i := 457) (by decide +kernel) rfl)
theorem lk_Pa_51 : mLk R_Pa 51 y_Pa_isBlank := Or.inl (mg_of (i := 500) (by decide +kernel) rfl)
theorem lk_Hx_10 : mLk R_Hx 10 y_Pa_nextSign := Or.inl (mg_of (i := 495) (by decide +kernel) rfl)
theorem lk_Hx_18 : mLk R_Hx 18 y_Hx_digitOf := Or.inl (mg_of (i := 503) (by decide +kernel) rfl)
theorem lk_Hx_26 : mLk R_Hx 26 y_Pa_give := Or.inl (mg_of (i := 507) (by decide +kernel) rfl)
theorem lk_Hx_22 : mLk R_Hx 22 y_Pa_fail := Or.inl (mg_of (i := 506) (by decide +kernel) rfl)
theorem lk_Le_10 : mLk R_Le 10 y_Pa_nextByte := Or.inl (mg_of (i := 512) (by decide +kernel) rfl)
theorem lk_Le_26 : mLk R_Le 26 y_Pa_giveTimes := Or.inl (mg_of (i := 517) (by decide +kernel) rfl)
theorem lk_Le_22 : mLk R_Le 22 y_Le_giveRun := Or.inl (mg_of (i := 514) (by decide +kernel) rfl)
theorem lk_Le_18 : mLk R_Le 18 y_Pa_giveAsTheyAre := Or.inl (mg_of (i := 513) (by decide +kernel) rfl)
theorem lk_Lz_54 : mLk R_Lz 54 y_Lz_sizeOf := Or.inl (mg_of (i := 540) (by decide +kernel) rfl)
theorem lk_Lz_64 : mLk R_Lz 64 y_Lz_startOf := Or.inl (mg_of (i := 546) (by decide +kernel) rfl)
theorem lk_Lz_67 : mLk R_Lz 67 y_Pa_giveAgain := Or.inl (mg_of (i := 550) (by decide +kernel) rfl)
theorem lk_Lz_71 : mLk R_Lz 71 y_Lz_makeString := Or.inl (mg_of (i := 551) (by decide +kernel) rfl)
theorem lk_Lz_61 : mLk R_Lz 61 y_Pa_give := Or.inl (mg_of (i := 545) (by decide +kernel) rfl)
theorem lk_Lz_57 : mLk R_Lz 57 y_Pa_fail := Or.inl (mg_of (i := 544) (by decide +kernel) rfl)
theorem lk_Lz_28 : mLk R_Lz 28 y_Lz_clear := Or.inl (mg_of (i := 524) (by decide +kernel) rfl)
theorem lk_Lz_32 : mLk R_Lz 32 y_Lz_widthFor := Or.inl (mg_of (i := 529) (by decide +kernel) rfl)
theorem lk_Lz_36 : mLk R_Lz 36 y_Pa_highNumber := Or.inl (mg_of (i := 532) (by decide +kernel) rfl)
theorem lk_Lz_41 : mLk R_Lz 41 y_Lz_giveString := Or.inl (mg_of (i := 536) (by decide +kernel) rfl)
theorem lk_T8_50 : mLk R_T8 50 y_Pa_give := Or.inl (mg_of (i := 576) (by decide +kernel) rfl)
theorem lk_T8_42 : mLk R_T8 42 y_Pa_fail := Or.inl (mg_of (i := 565) (by decide +kernel) rfl)
theorem lk_T8_53 : mLk R_T8 53 y_Pa_nextByte := Or.inl (mg_of (i := 564) (by decide +kernel) rfl)
theorem lk_T8_34 : mLk R_T8 34 y_T8_giveNumber := Or.inl (mg_of (i := 571) (by decide +kernel) rfl)
theorem lk_T8_30 : mLk R_T8 30 y_T8_addDigit := Or.inl (mg_of (i := 566) (by decide +kernel) rfl)
theorem lk_T8_20 : mLk R_T8 20 y_Pa_nextSign := Or.inl (mg_of (i := 559) (by decide +kernel) rfl)
theorem lk_T8_38 : mLk R_T8 38 y_Pa_giveTimes := Or.inl (mg_of (i := 577) (by decide +kernel) rfl)
theorem lk_T8_26 : mLk R_T8 26 y_T8_finish := Or.inl (mg_of (i := 560) (by decide +kernel) rfl)
theorem cw_Co_isLength : mCw y_Co_isLength b_Co_isLength 1 (some .boolean) 1 := ⟨mg_of (i := 192) (by decide +kernel) rfl, mg_of (i := 64) (by decide +kernel) rfl, ⟨by decide +kernel, by decide +kernel⟩, by decide +kernel⟩
theorem st_Co_isLength : Cond.static y_Co_isLength ∈ mGood := mg_of (i := 191) (by decide +kernel) rfl
theorem cw_Co_count : mCw y_Co_count b_Co_count 6 none 3 := ⟨mg_of (i := 189) (by decide +kernel) rfl, mg_of (i := 64) (by decide +kernel) rfl, ⟨by decide +kernel, by decide +kernel⟩, by decide +kernel⟩
theorem in_Co_count : Cond.instanceMethod y_Co_count ∈ mGood := mg_of (i := 188) (by decide +kernel) rfl
theorem se_Co_count : Cond.selects R_Co y_Co_count y_Co_count ∈ mGood := mg_of (i := 0) (by decide +kernel) rfl
theorem cw_Co_build : mCw y_Co_build b_Co_build 6 none 3 := ⟨mg_of (i := 185) (by decide +kernel) rfl, mg_of (i := 64) (by decide +kernel) rfl, ⟨by decide +kernel, by decide +kernel⟩, by decide +kernel⟩
theorem in_Co_build : Cond.instanceMethod y_Co_build ∈ mGood := mg_of (i := 183) (by decide +kernel) rfl
theorem se_Co_build : Cond.selects R_Co y_Co_build y_Co_build ∈ mGood := mg_of (i := 184) (by decide +kernel) rfl
theorem cw_By_add : mCw y_By_add b_By_add 2 none 1 := ⟨mg_of (i := 350) (by decide +kernel) rfl, mg_of (i := 59) (by decide +kernel) rfl, ⟨by decide +kernel, by decide +kernel⟩, by decide +kernel⟩
theorem in_By_add : Cond.instanceMethod y_By_add ∈ mGood := mg_of (i := 348) (by decide +kernel) rfl
theorem se_By_add : Cond.selects R_By y_By_add y_By_add ∈ mGood := mg_of (i := 349) (by decide +kernel) rfl
theorem cw_By_addFour : mCw y_By_addFour b_By_addFour 3 none 1 := ⟨mg_of (i := 346) (by decide +kernel) rfl, mg_of (i := 59) (by decide +kernel) rfl, ⟨by decide +kernel, by decide +kernel⟩, by decide +kernel⟩
theorem in_By_addFour : Cond.instanceMethod y_By_addFour ∈ mGood := mg_of (i := 344) (by decide +kernel) rfl
theorem se_By_addFour : Cond.selects R_By y_By_addFour y_By_addFour ∈ mGood := mg_of (i := 345) (by decide +kernel) rfl
theorem cw_SF_feed : mCw y_SF_feed b_SF_feed 6 (some .int) 5 := ⟨mg_of (i := 342) (by decide +kernel) rfl, mg_of (i := 58) (by decide +kernel) rfl, ⟨by decide +kernel, by decide +kernel⟩, by decide +kernel⟩
theorem in_SF_feed : Cond.instanceMethod y_SF_feed ∈ mGood := mg_of (i := 340) (by decide +kernel) rfl
theorem se_SF_feed : Cond.selects R_SF y_SF_feed y_SF_feed ∈ mGood := mg_of (i := 341) (by decide +kernel) rfl
theorem cw_By_byteAt : mCw y_By_byteAt b_By_byteAt 2 (some .int) 1 := ⟨mg_of (i := 456) (by decide +kernel) rfl, mg_of (i := 59) (by decide +kernel) rfl, ⟨by decide +kernel, by decide +kernel⟩, by decide +kernel⟩
theorem in_By_byteAt : Cond.instanceMethod y_By_byteAt ∈ mGood := mg_of (i := 454) (by decide +kernel) rfl
theorem se_By_byteAt : Cond.selects R_By y_By_byteAt y_By_byteAt ∈ mGood := mg_of (i := 455) (by decide +kernel) rfl
theorem cw_By_change : mCw y_By_change b_By_change 3 none 2 := ⟨mg_of (i := 612) (by decide +kernel) rfl, mg_of (i := 59) (by decide +kernel) rfl, ⟨by decide +kernel, by decide +kernel⟩, by decide +kernel⟩
theorem in_By_change : Cond.instanceMethod y_By_change ∈ mGood := mg_of (i := 610) (by decide +kernel) rfl
theorem se_By_change : Cond.selects R_By y_By_change y_By_change ∈ mGood := mg_of (i := 611) (by decide +kernel) rfl
theorem cw_Li_begin : mCw y_Li_begin b_Li_begin 3 none 2 := ⟨mg_of (i := 770) (by decide +kernel) rfl, mg_of (i := 69) (by decide +kernel) rfl, ⟨by decide +kernel, by decide +kernel⟩, by decide +kernel⟩
theorem in_Li_begin : Cond.instanceMethod y_Li_begin ∈ mGood := mg_of (i := 768) (by decide +kernel) rfl
theorem se_Li_begin : Cond.selects R_Li y_Li_begin y_Li_begin ∈ mGood := mg_of (i := 769) (by decide +kernel) rfl
theorem cw_SF_isPredictor : mCw y_SF_isPredictor b_SF_isPredictor 1 (some .boolean) 1 := ⟨mg_of (i := 780) (by decide +kernel) rfl, mg_of (i := 58) (by decide +kernel) rfl, ⟨by decide +kernel, by decide +kernel⟩, by decide +kernel⟩
theorem st_SF_isPredictor : Cond.static y_SF_isPredictor ∈ mGood := mg_of (i := 779) (by decide +kernel) rfl
theorem cw_SF_isBits : mCw y_SF_isBits b_SF_isBits 1 (some .boolean) 1 := ⟨mg_of (i := 784) (by decide +kernel) rfl, mg_of (i := 58) (by decide +kernel) rfl, ⟨by decide +kernel, by decide +kernel⟩, by decide +kernel⟩
theorem st_SF_isBits : Cond.static y_SF_isBits ∈ mGood := mg_of (i := 783) (by decide +kernel) rfl
theorem cw_Li_shape : mCw y_Li_shape b_Li_shape 5 none 4 := ⟨mg_of (i := 790) (by decide +kernel) rfl, mg_of (i := 69) (by decide +kernel) rfl, ⟨by decide +kernel, by decide +kernel⟩, by decide +kernel⟩
theorem in_Li_shape : Cond.instanceMethod y_Li_shape ∈ mGood := mg_of (i := 788) (by decide +kernel) rfl
theorem se_Li_shape : Cond.selects R_Li y_Li_shape y_Li_shape ∈ mGood := mg_of (i := 789) (by decide +kernel) rfl
theorem cw_SF_drop : mCw y_SF_drop b_SF_drop 2 (some .int) 0 := ⟨mg_of (i := 354) (by decide +kernel) rfl, mg_of (i := 58) (by decide +kernel) rfl, ⟨by decide +kernel, by decide +kernel⟩, by decide +kernel⟩
theorem in_SF_drop : Cond.instanceMethod y_SF_drop ∈ mGood := mg_of (i := 352) (by decide +kernel) rfl
theorem se_SF_drop : Cond.selects R_SF y_SF_drop y_SF_drop ∈ mGood := mg_of (i := 353) (by decide +kernel) rfl
theorem cw_SF_noteFault : mCw y_SF_noteFault b_SF_noteFault 4 none 3 := ⟨mg_of (i := 362) (by decide +kernel) rfl, mg_of (i := 58) (by decide +kernel) rfl, ⟨by decide +kernel, by decide +kernel⟩, by decide +kernel⟩
theorem in_SF_noteFault : Cond.instanceMethod y_SF_noteFault ∈ mGood := mg_of (i := 361) (by decide +kernel) rfl
theorem se_SF_noteFault : Cond.selects R_SF y_SF_noteFault y_SF_noteFault ∈ mGood := mg_of (i := 1) (by decide +kernel) rfl
theorem cw_By_become : mCw y_By_become b_By_become 2 none 1 := ⟨mg_of (i := 366) (by decide +kernel) rfl, mg_of (i := 59) (by decide +kernel) rfl, ⟨by decide +kernel, by decide +kernel⟩, by decide +kernel⟩
theorem in_By_become : Cond.instanceMethod y_By_become ∈ mGood := mg_of (i := 364) (by decide +kernel) rfl
theorem se_By_become : Cond.selects R_By y_By_become y_By_become ∈ mGood := mg_of (i := 365) (by decide +kernel) rfl
theorem cw_Pa_begin : mCw y_Pa_begin b_Pa_begin 3 none 2 := ⟨mg_of (i := 376) (by decide +kernel) rfl, mg_of (i := 61) (by decide +kernel) rfl, ⟨by decide +kernel, by decide +kernel⟩, by decide +kernel⟩
theorem in_Pa_begin : Cond.instanceMethod y_Pa_begin ∈ mGood := mg_of (i := 374) (by decide +kernel) rfl
theorem se_Pa_begin : Cond.selects R_Pa y_Pa_begin y_Pa_begin ∈ mGood := mg_of (i := 375) (by decide +kernel) rfl
theorem cw_SF_unpackerOf : mCw y_SF_unpackerOf b_SF_unpackerOf 2 (some (.object "StreamFilters$Unpacker")) 1 := ⟨mg_of (i := 380) (by decide +kernel) rfl, mg_of (i := 58) (by decide +kernel) rfl, ⟨by decide +kernel, by decide +kernel⟩, by decide +kernel⟩
theorem in_SF_unpackerOf : Cond.instanceMethod y_SF_unpackerOf ∈ mGood := mg_of (i := 379) (by decide +kernel) rfl
theorem se_SF_unpackerOf : Cond.selects R_SF y_SF_unpackerOf y_SF_unpackerOf ∈ mGood := mg_of (i := 2) (by decide +kernel) rfl
theorem cw_Li_rowSize : mCw y_Li_rowSize b_Li_rowSize 1 (some .int) 0 := ⟨mg_of (i := 589) (by decide +kernel) rfl, mg_of (i := 69) (by decide +kernel) rfl, ⟨by decide +kernel, by decide +kernel⟩, by decide +kernel⟩
theorem in_Li_rowSize : Cond.instanceMethod y_Li_rowSize ∈ mGood := mg_of (i := 588) (by decide +kernel) rfl
theorem se_Li_rowSize : Cond.selects R_Li y_Li_rowSize y_Li_rowSize ∈ mGood := mg_of (i := 15) (by decide +kernel) rfl
theorem cw_Li_shiftOf : mCw y_Li_shiftOf b_Li_shiftOf 2 (some .int) 1 := ⟨mg_of (i := 600) (by decide +kernel) rfl, mg_of (i := 69) (by decide +kernel) rfl, ⟨by decide +kernel, by decide +kernel⟩, by decide +kernel⟩
theorem in_Li_shiftOf : Cond.instanceMethod y_Li_shiftOf ∈ mGood := mg_of (i := 599) (by decide +kernel) rfl
theorem se_Li_shiftOf : Cond.selects R_Li y_Li_shiftOf y_Li_shiftOf ∈ mGood := mg_of (i := 17) (by decide +kernel) rfl
theorem cw_Li_mask : mCw y_Li_mask b_Li_mask 1 (some .int) 0 := ⟨mg_of (i := 604) (by decide +kernel) rfl, mg_of (i := 69) (by decide +kernel) rfl, ⟨by decide +kernel, by decide +kernel⟩, by decide +kernel⟩
theorem in_Li_mask : Cond.instanceMethod y_Li_mask ∈ mGood := mg_of (i := 603) (by decide +kernel) rfl
theorem se_Li_mask : Cond.selects R_Li y_Li_mask y_Li_mask ∈ mGood := mg_of (i := 18) (by decide +kernel) rfl
theorem cw_Li_numberAt : mCw y_Li_numberAt b_Li_numberAt 5 (some .int) 3 := ⟨mg_of (i := 595) (by decide +kernel) rfl, mg_of (i := 69) (by decide +kernel) rfl, ⟨by decide +kernel, by decide +kernel⟩, by decide +kernel⟩
theorem in_Li_numberAt : Cond.instanceMethod y_Li_numberAt ∈ mGood := mg_of (i := 594) (by decide +kernel) rfl
theorem se_Li_numberAt : Cond.selects R_Li y_Li_numberAt y_Li_numberAt ∈ mGood := mg_of (i := 16) (by decide +kernel) rfl
theorem cw_Li_setNumber : mCw y_Li_setNumber b_Li_setNumber 7 none 4 := ⟨mg_of (i := 608) (by decide +kernel) rfl, mg_of (i := 69) (by decide +kernel) rfl, ⟨by decide +kernel, by decide +kernel⟩, by decide +kernel⟩
theorem in_Li_setNumber : Cond.instanceMethod y_Li_setNumber ∈ mGood := mg_of (i := 607) (by decide +kernel) rfl
theorem se_Li_setNumber : Cond.selects R_Li y_Li_setNumber y_Li_setNumber ∈ mGood := mg_of (i := 19) (by decide +kernel) rfl
theorem cw_Li_undoNumbers : mCw y_Li_undoNumbers b_Li_undoNumbers 8 none 1 := ⟨mg_of (i := 585) (by decide +kernel) rfl, mg_of (i := 69) (by decide +kernel) rfl, ⟨by decide +kernel, by decide +kernel⟩, by decide +kernel⟩
theorem in_Li_undoNumbers : Cond.instanceMethod y_Li_undoNumbers ∈ mGood := mg_of (i := 584) (by decide +kernel) rfl
theorem se_Li_undoNumbers : Cond.selects R_Li y_Li_undoNumbers y_Li_undoNumbers ∈ mGood := mg_of (i := 14) (by decide +kernel) rfl
theorem cw_Li_nearest : mCw y_Li_nearest b_Li_nearest 7 (some .int) 3 := ⟨mg_of (i := 626) (by decide +kernel) rfl, mg_of (i := 69) (by decide +kernel) rfl, ⟨by decide +kernel, by decide +kernel⟩, by decide +kernel⟩
theorem st_Li_nearest : Cond.static y_Li_nearest ∈ mGood := mg_of (i := 625) (by decide +kernel) rfl
theorem cw_Li_guessOf : mCw y_Li_guessOf b_Li_guessOf 4 (some .int) 4 := ⟨mg_of (i := 623) (by decide +kernel) rfl, mg_of (i := 69) (by decide +kernel) rfl, ⟨by decide +kernel, by decide +kernel⟩, by decide +kernel⟩
theorem st_Li_guessOf : Cond.static y_Li_guessOf ∈ mGood := mg_of (i := 622) (by decide +kernel) rfl
theorem cw_Li_undoRow : mCw y_Li_undoRow b_Li_undoRow 16 none 5 := ⟨mg_of (i := 620) (by decide +kernel) rfl, mg_of (i := 69) (by decide +kernel) rfl, ⟨by decide +kernel, by decide +kernel⟩, by decide +kernel⟩
theorem in_Li_undoRow : Cond.instanceMethod y_Li_undoRow ∈ mGood := mg_of (i := 619) (by decide +kernel) rfl
theorem se_Li_undoRow : Cond.selects R_Li y_Li_undoRow y_Li_undoRow ∈ mGood := mg_of (i := 21) (by decide +kernel) rfl
theorem cw_Li_undoTags : mCw y_Li_undoTags b_Li_undoTags 8 (some .boolean) 1 := ⟨mg_of (i := 616) (by decide +kernel) rfl, mg_of (i := 69) (by decide +kernel) rfl, ⟨by decide +kernel, by decide +kernel⟩, by decide +kernel⟩
theorem in_Li_undoTags : Cond.instanceMethod y_Li_undoTags ∈ mGood := mg_of (i := 615) (by decide +kernel) rfl
theorem se_Li_undoTags : Cond.selects R_Li y_Li_undoTags y_Li_undoTags ∈ mGood := mg_of (i := 20) (by decide +kernel) rfl
theorem cw_Li_undo : mCw y_Li_undo b_Li_undo 2 (some .boolean) 1 := ⟨mg_of (i := 581) (by decide +kernel) rfl, mg_of (i := 69) (by decide +kernel) rfl, ⟨by decide +kernel, by decide +kernel⟩, by decide +kernel⟩
theorem in_Li_undo : Cond.instanceMethod y_Li_undo ∈ mGood := mg_of (i := 579) (by decide +kernel) rfl
theorem se_Li_undo : Cond.selects R_Li y_Li_undo y_Li_undo ∈ mGood := mg_of (i := 580) (by decide +kernel) rfl
theorem cw_SF_at : mCw y_SF_at b_SF_at 2 (some .int) 1 := ⟨mg_of (i := 633) (by decide +kernel) rfl, mg_of (i := 58) (by decide +kernel) rfl, ⟨by decide +kernel, by decide +kernel⟩, by decide +kernel⟩
theorem in_SF_at : Cond.instanceMethod y_SF_at ∈ mGood := mg_of (i := 631) (by decide +kernel) rfl
theorem se_SF_at : Cond.selects R_SF y_SF_at y_SF_at ∈ mGood := mg_of (i := 632) (by decide +kernel) rfl
theorem cw_SF_fault : mCw y_SF_fault b_SF_fault 2 (some .int) 1 := ⟨mg_of (i := 638) (by decide +kernel) rfl, mg_of (i := 58) (by decide +kernel) rfl, ⟨by decide +kernel, by decide +kernel⟩, by decide +kernel⟩
theorem in_SF_fault : Cond.instanceMethod y_SF_fault ∈ mGood := mg_of (i := 636) (by decide +kernel) rfl
theorem se_SF_fault : Cond.selects R_SF y_SF_fault y_SF_fault ∈ mGood := mg_of (i := 637) (by decide +kernel) rfl
theorem cw_Mo_thrown : mCw y_Mo_thrown b_Mo_thrown 1 (some .int) 0 := ⟨mg_of (i := 911) (by decide +kernel) rfl, mg_of (i := 70) (by decide +kernel) rfl, ⟨by decide +kernel, by decide +kernel⟩, by decide +kernel⟩
theorem in_Mo_thrown : Cond.instanceMethod y_Mo_thrown ∈ mGood := mg_of (i := 909) (by decide +kernel) rfl
theorem se_Mo_thrown : Cond.selects R_Mo y_Mo_thrown y_Mo_thrown ∈ mGood := mg_of (i := 910) (by decide +kernel) rfl
theorem cw_Mo_refused : mCw y_Mo_refused b_Mo_refused 2 (some .boolean) 1 := ⟨mg_of (i := 926) (by decide +kernel) rfl, mg_of (i := 70) (by decide +kernel) rfl, ⟨by decide +kernel, by decide +kernel⟩, by decide +kernel⟩
theorem in_Mo_refused : Cond.instanceMethod y_Mo_refused ∈ mGood := mg_of (i := 925) (by decide +kernel) rfl
theorem se_Mo_refused : Cond.selects R_Mo y_Mo_refused y_Mo_refused ∈ mGood := mg_of (i := 23) (by decide +kernel) rfl
theorem cw_Mo_isIn : mCw y_Mo_isIn b_Mo_isIn 3 (some .boolean) 3 := ⟨mg_of (i := 922) (by decide +kernel) rfl, mg_of (i := 70) (by decide +kernel) rfl, ⟨by decide +kernel, by decide +kernel⟩, by decide +kernel⟩
theorem st_Mo_isIn : Cond.static y_Mo_isIn ∈ mGood := mg_of (i := 921) (by decide +kernel) rfl
theorem cw_Mo_feed : mCw y_Mo_feed b_Mo_feed 8 (some .int) 5 := ⟨mg_of (i := 915) (by decide +kernel) rfl, mg_of (i := 70) (by decide +kernel) rfl, ⟨by decide +kernel, by decide +kernel⟩, by decide +kernel⟩
theorem in_Mo_feed : Cond.instanceMethod y_Mo_feed ∈ mGood := mg_of (i := 913) (by decide +kernel) rfl
theorem se_Mo_feed : Cond.selects R_Mo y_Mo_feed y_Mo_feed ∈ mGood := mg_of (i := 914) (by decide +kernel) rfl
theorem cw_Mo_put : mCw y_Mo_put b_Mo_put 4 (some .int) 2 := ⟨mg_of (i := 919) (by decide +kernel) rfl, mg_of (i := 70) (by decide +kernel) rfl, ⟨by decide +kernel, by decide +kernel⟩, by decide +kernel⟩
theorem in_Mo_put : Cond.instanceMethod y_Mo_put ∈ mGood := mg_of (i := 917) (by decide +kernel) rfl
theorem se_Mo_put : Cond.selects R_Mo y_Mo_put y_Mo_put ∈ mGood := mg_of (i := 918) (by decide +kernel) rfl
theorem cw_Mo_cut : mCw y_Mo_cut b_Mo_cut 3 (some .int) 1 := ⟨mg_of (i := 930) (by decide +kernel) rfl, mg_of (i := 70) (by decide +kernel) rfl, ⟨by decide +kernel, by decide +kernel⟩, by decide +kernel⟩
theorem in_Mo_cut : Cond.instanceMethod y_Mo_cut ∈ mGood := mg_of (i := 928) (by decide +kernel) rfl
theorem se_Mo_cut : Cond.selects R_Mo y_Mo_cut y_Mo_cut ∈ mGood := mg_of (i := 929) (by decide +kernel) rfl
theorem cw_Mo_filter : mCw y_Mo_filter b_Mo_filter 3 (some .int) 2 := ⟨mg_of (i := 934) (by decide +kernel) rfl, mg_of (i := 70) (by decide +kernel) rfl, ⟨by decide +kernel, by decide +kernel⟩, by decide +kernel⟩
theorem in_Mo_filter : Cond.instanceMethod y_Mo_filter ∈ mGood := mg_of (i := 932) (by decide +kernel) rfl
theorem se_Mo_filter : Cond.selects R_Mo y_Mo_filter y_Mo_filter ∈ mGood := mg_of (i := 933) (by decide +kernel) rfl
theorem cw_Mo_predict : mCw y_Mo_predict b_Mo_predict 8 none 4 := ⟨mg_of (i := 938) (by decide +kernel) rfl, mg_of (i := 70) (by decide +kernel) rfl, ⟨by decide +kernel, by decide +kernel⟩, by decide +kernel⟩
theorem in_Mo_predict : Cond.instanceMethod y_Mo_predict ∈ mGood := mg_of (i := 936) (by decide +kernel) rfl
theorem se_Mo_predict : Cond.selects R_Mo y_Mo_predict y_Mo_predict ∈ mGood := mg_of (i := 937) (by decide +kernel) rfl
theorem cw_Mo_drop : mCw y_Mo_drop b_Mo_drop 2 (some .int) 0 := ⟨mg_of (i := 942) (by decide +kernel) rfl, mg_of (i := 70) (by decide +kernel) rfl, ⟨by decide +kernel, by decide +kernel⟩, by decide +kernel⟩
theorem in_Mo_drop : Cond.instanceMethod y_Mo_drop ∈ mGood := mg_of (i := 940) (by decide +kernel) rfl
theorem se_Mo_drop : Cond.selects R_Mo y_Mo_drop y_Mo_drop ∈ mGood := mg_of (i := 941) (by decide +kernel) rfl
theorem cw_Mo_budget : mCw y_Mo_budget b_Mo_budget 3 (some .int) 1 := ⟨mg_of (i := 946) (by decide +kernel) rfl, mg_of (i := 70) (by decide +kernel) rfl, ⟨by decide +kernel, by decide +kernel⟩, by decide +kernel⟩
theorem in_Mo_budget : Cond.instanceMethod y_Mo_budget ∈ mGood := mg_of (i := 944) (by decide +kernel) rfl
theorem se_Mo_budget : Cond.selects R_Mo y_Mo_budget y_Mo_budget ∈ mGood := mg_of (i := 945) (by decide +kernel) rfl
theorem cw_Mo_fail : mCw y_Mo_fail b_Mo_fail 2 none 1 := ⟨mg_of (i := 970) (by decide +kernel) rfl, mg_of (i := 70) (by decide +kernel) rfl, ⟨by decide +kernel, by decide +kernel⟩, by decide +kernel⟩
theorem in_Mo_fail : Cond.instanceMethod y_Mo_fail ∈ mGood := mg_of (i := 969) (by decide +kernel) rfl
theorem se_Mo_fail : Cond.selects R_Mo y_Mo_fail y_Mo_fail ∈ mGood := mg_of (i := 28) (by decide +kernel) rfl
theorem cw_Mo_isGood : mCw y_Mo_isGood b_Mo_isGood 1 (some .boolean) 0 := ⟨mg_of (i := 954) (by decide +kernel) rfl, mg_of (i := 70) (by decide +kernel) rfl, ⟨by decide +kernel, by decide +kernel⟩, by decide +kernel⟩
theorem in_Mo_isGood : Cond.instanceMethod y_Mo_isGood ∈ mGood := mg_of (i := 953) (by decide +kernel) rfl
theorem se_Mo_isGood : Cond.selects R_Mo y_Mo_isGood y_Mo_isGood ∈ mGood := mg_of (i := 24) (by decide +kernel) rfl
theorem cw_Mo_next : mCw y_Mo_next b_Mo_next 1 (some .int) 0 := ⟨mg_of (i := 966) (by decide +kernel) rfl, mg_of (i := 70) (by decide +kernel) rfl, ⟨by decide +kernel, by decide +kernel⟩, by decide +kernel⟩
theorem in_Mo_next : Cond.instanceMethod y_Mo_next ∈ mGood := mg_of (i := 965) (by decide +kernel) rfl
theorem se_Mo_next : Cond.selects R_Mo y_Mo_next y_Mo_next ∈ mGood := mg_of (i := 27) (by decide +kernel) rfl
theorem cw_Mo_give : mCw y_Mo_give b_Mo_give 2 none 1 := ⟨mg_of (i := 991) (by decide +kernel) rfl, mg_of (i := 70) (by decide +kernel) rfl, ⟨by decide +kernel, by decide +kernel⟩, by decide +kernel⟩
theorem in_Mo_give : Cond.instanceMethod y_Mo_give ∈ mGood := mg_of (i := 990) (by decide +kernel) rfl
theorem se_Mo_give : Cond.selects R_Mo y_Mo_give y_Mo_give ∈ mGood := mg_of (i := 33) (by decide +kernel) rfl
theorem cw_Mo_bit : mCw y_Mo_bit b_Mo_bit 2 (some .int) 0 := ⟨mg_of (i := 974) (by decide +kernel) rfl, mg_of (i := 70) (by decide +kernel) rfl, ⟨by decide +kernel, by decide +kernel⟩, by decide +kernel⟩
theorem in_Mo_bit : Cond.instanceMethod y_Mo_bit ∈ mGood := mg_of (i := 973) (by decide +kernel) rfl
theorem se_Mo_bit : Cond.selects R_Mo y_Mo_bit y_Mo_bit ∈ mGood := mg_of (i := 29) (by decide +kernel) rfl
theorem cw_Mo_number : mCw y_Mo_number b_Mo_number 4 (some .int) 1 := ⟨mg_of (i := 978) (by decide +kernel) rfl, mg_of (i := 70) (by decide +kernel) rfl, ⟨by decide +kernel, by decide +kernel⟩, by decide +kernel⟩
theorem in_Mo_number : Cond.instanceMethod y_Mo_number ∈ mGood := mg_of (i := 977) (by decide +kernel) rfl
theorem se_Mo_number : Cond.selects R_Mo y_Mo_number y_Mo_number ∈ mGood := mg_of (i := 30) (by decide +kernel) rfl
theorem cw_Mo_makeCodes : mCw y_Mo_makeCodes b_Mo_makeCodes 6 none 2 := ⟨mg_of (i := 999) (by decide +kernel) rfl, mg_of (i := 70) (by decide +kernel) rfl, ⟨by decide +kernel, by decide +kernel⟩, by decide +kernel⟩
theorem in_Mo_makeCodes : Cond.instanceMethod y_Mo_makeCodes ∈ mGood := mg_of (i := 998) (by decide +kernel) rfl
theorem se_Mo_makeCodes : Cond.selects R_Mo y_Mo_makeCodes y_Mo_makeCodes ∈ mGood := mg_of (i := 35) (by decide +kernel) rfl
theorem cw_Mo_isWhole : mCw y_Mo_isWhole b_Mo_isWhole 8 (some .boolean) 3 := ⟨mg_of (i := 1034) (by decide +kernel) rfl, mg_of (i := 70) (by decide +kernel) rfl, ⟨by decide +kernel, by decide +kernel⟩, by decide +kernel⟩
theorem in_Mo_isWhole : Cond.instanceMethod y_Mo_isWhole ∈ mGood := mg_of (i := 1033) (by decide +kernel) rfl
theorem se_Mo_isWhole : Cond.selects R_Mo y_Mo_isWhole y_Mo_isWhole ∈ mGood := mg_of (i := 40) (by decide +kernel) rfl
theorem cw_Mo_symbol : mCw y_Mo_symbol b_Mo_symbol 7 (some .int) 2 := ⟨mg_of (i := 1007) (by decide +kernel) rfl, mg_of (i := 70) (by decide +kernel) rfl, ⟨by decide +kernel, by decide +kernel⟩, by decide +kernel⟩
theorem in_Mo_symbol : Cond.instanceMethod y_Mo_symbol ∈ mGood := mg_of (i := 1006) (by decide +kernel) rfl
theorem se_Mo_symbol : Cond.selects R_Mo y_Mo_symbol y_Mo_symbol ∈ mGood := mg_of (i := 37) (by decide +kernel) rfl
theorem cw_Mo_fixCodes : mCw y_Mo_fixCodes b_Mo_fixCodes 2 none 0 := ⟨mg_of (i := 995) (by decide +kernel) rfl, mg_of (i := 70) (by decide +kernel) rfl, ⟨by decide +kernel, by decide +kernel⟩, by decide +kernel⟩
theorem in_Mo_fixCodes : Cond.instanceMethod y_Mo_fixCodes ∈ mGood := mg_of (i := 994) (by decide +kernel) rfl
theorem se_Mo_fixCodes : Cond.selects R_Mo y_Mo_fixCodes y_Mo_fixCodes ∈ mGood := mg_of (i := 34) (by decide +kernel) rfl
theorem cw_Mo_orderOf : mCw y_Mo_orderOf b_Mo_orderOf 1 (some .int) 1 := ⟨mg_of (i := 1030) (by decide +kernel) rfl, mg_of (i := 70) (by decide +kernel) rfl, ⟨by decide +kernel, by decide +kernel⟩, by decide +kernel⟩
theorem st_Mo_orderOf : Cond.static y_Mo_orderOf ∈ mGood := mg_of (i := 1029) (by decide +kernel) rfl
theorem cw_Mo_readLengths : mCw y_Mo_readLengths b_Mo_readLengths 10 none 2 := ⟨mg_of (i := 1039) (by decide +kernel) rfl, mg_of (i := 70) (by decide +kernel) rfl, ⟨by decide +kernel, by decide +kernel⟩, by decide +kernel⟩
theorem in_Mo_readLengths : Cond.instanceMethod y_Mo_readLengths ∈ mGood := mg_of (i := 1038) (by decide +kernel) rfl
theorem se_Mo_readLengths : Cond.selects R_Mo y_Mo_readLengths y_Mo_readLengths ∈ mGood := mg_of (i := 41) (by decide +kernel) rfl
theorem cw_Mo_readCodes : mCw y_Mo_readCodes b_Mo_readCodes 5 none 0 := ⟨mg_of (i := 1027) (by decide +kernel) rfl, mg_of (i := 70) (by decide +kernel) rfl, ⟨by decide +kernel, by decide +kernel⟩, by decide +kernel⟩
theorem in_Mo_readCodes : Cond.instanceMethod y_Mo_readCodes ∈ mGood := mg_of (i := 1026) (by decide +kernel) rfl
theorem se_Mo_readCodes : Cond.selects R_Mo y_Mo_readCodes y_Mo_readCodes ∈ mGood := mg_of (i := 39) (by decide +kernel) rfl
theorem cw_Mo_lengthBits : mCw y_Mo_lengthBits b_Mo_lengthBits 1 (some .int) 1 := ⟨mg_of (i := 1017) (by decide +kernel) rfl, mg_of (i := 70) (by decide +kernel) rfl, ⟨by decide +kernel, by decide +kernel⟩, by decide +kernel⟩
theorem st_Mo_lengthBits : Cond.static y_Mo_lengthBits ∈ mGood := mg_of (i := 1016) (by decide +kernel) rfl
theorem cw_Mo_lengthOf : mCw y_Mo_lengthOf b_Mo_lengthOf 3 (some .int) 1 := ⟨mg_of (i := 1014) (by decide +kernel) rfl, mg_of (i := 70) (by decide +kernel) rfl, ⟨by decide +kernel, by decide +kernel⟩, by decide +kernel⟩
theorem st_Mo_lengthOf : Cond.static y_Mo_lengthOf ∈ mGood := mg_of (i := 1013) (by decide +kernel) rfl
theorem cw_Mo_distanceBits : mCw y_Mo_distanceBits b_Mo_distanceBits 1 (some .int) 1 := ⟨mg_of (i := 1023) (by decide +kernel) rfl, mg_of (i := 70) (by decide +kernel) rfl, ⟨by decide +kernel, by decide +kernel⟩, by decide +kernel⟩
theorem st_Mo_distanceBits : Cond.static y_Mo_distanceBits ∈ mGood := mg_of (i := 1022) (by decide +kernel) rfl
theorem cw_Mo_distanceOf : mCw y_Mo_distanceOf b_Mo_distanceOf 3 (some .int) 1 := ⟨mg_of (i := 1020) (by decide +kernel) rfl, mg_of (i := 70) (by decide +kernel) rfl, ⟨by decide +kernel, by decide +kernel⟩, by decide +kernel⟩
theorem st_Mo_distanceOf : Cond.static y_Mo_distanceOf ∈ mGood := mg_of (i := 1019) (by decide +kernel) rfl
theorem cw_Mo_match : mCw y_Mo_match b_Mo_match 6 none 1 := ⟨mg_of (i := 1011) (by decide +kernel) rfl, mg_of (i := 70) (by decide +kernel) rfl, ⟨by decide +kernel, by decide +kernel⟩, by decide +kernel⟩
theorem in_Mo_match : Cond.instanceMethod y_Mo_match ∈ mGood := mg_of (i := 1010) (by decide +kernel) rfl
theorem se_Mo_match : Cond.selects R_Mo y_Mo_match y_Mo_match ∈ mGood := mg_of (i := 38) (by decide +kernel) rfl
theorem cw_Mo_coded : mCw y_Mo_coded b_Mo_coded 3 none 0 := ⟨mg_of (i := 1003) (by decide +kernel) rfl, mg_of (i := 70) (by decide +kernel) rfl, ⟨by decide +kernel, by decide +kernel⟩, by decide +kernel⟩
theorem in_Mo_coded : Cond.instanceMethod y_Mo_coded ∈ mGood := mg_of (i := 1002) (by decide +kernel) rfl
theorem se_Mo_coded : Cond.selects R_Mo y_Mo_coded y_Mo_coded ∈ mGood := mg_of (i := 36) (by decide +kernel) rfl
theorem cw_Mo_stored : mCw y_Mo_stored b_Mo_stored 5 none 0 := ⟨mg_of (i := 986) (by decide +kernel) rfl, mg_of (i := 70) (by decide +kernel) rfl, ⟨by decide +kernel, by decide +kernel⟩, by decide +kernel⟩
theorem in_Mo_stored : Cond.instanceMethod y_Mo_stored ∈ mGood := mg_of (i := 985) (by decide +kernel) rfl
theorem se_Mo_stored : Cond.selects R_Mo y_Mo_stored y_Mo_stored ∈ mGood := mg_of (i := 32) (by decide +kernel) rfl
theorem cw_Mo_block : mCw y_Mo_block b_Mo_block 2 none 1 := ⟨mg_of (i := 982) (by decide +kernel) rfl, mg_of (i := 70) (by decide +kernel) rfl, ⟨by decide +kernel, by decide +kernel⟩, by decide +kernel⟩
theorem in_Mo_block : Cond.instanceMethod y_Mo_block ∈ mGood := mg_of (i := 981) (by decide +kernel) rfl
theorem se_Mo_block : Cond.selects R_Mo y_Mo_block y_Mo_block ∈ mGood := mg_of (i := 31) (by decide +kernel) rfl
theorem cw_Mo_check : mCw y_Mo_check b_Mo_check 6 (some .long) 0 := ⟨mg_of (i := 1044) (by decide +kernel) rfl, mg_of (i := 70) (by decide +kernel) rfl, ⟨by decide +kernel, by decide +kernel⟩, by decide +kernel⟩
theorem in_Mo_check : Cond.instanceMethod y_Mo_check ∈ mGood := mg_of (i := 1043) (by decide +kernel) rfl
theorem se_Mo_check : Cond.selects R_Mo y_Mo_check y_Mo_check ∈ mGood := mg_of (i := 42) (by decide +kernel) rfl
theorem cw_Mo_flate : mCw y_Mo_flate b_Mo_flate 8 none 0 := ⟨mg_of (i := 962) (by decide +kernel) rfl, mg_of (i := 70) (by decide +kernel) rfl, ⟨by decide +kernel, by decide +kernel⟩, by decide +kernel⟩
theorem in_Mo_flate : Cond.instanceMethod y_Mo_flate ∈ mGood := mg_of (i := 961) (by decide +kernel) rfl
theorem se_Mo_flate : Cond.selects R_Mo y_Mo_flate y_Mo_flate ∈ mGood := mg_of (i := 26) (by decide +kernel) rfl
theorem cw_Mo_wideCode : mCw y_Mo_wideCode b_Mo_wideCode 4 (some .int) 1 := ⟨mg_of (i := 1057) (by decide +kernel) rfl, mg_of (i := 70) (by decide +kernel) rfl, ⟨by decide +kernel, by decide +kernel⟩, by decide +kernel⟩
theorem in_Mo_wideCode : Cond.instanceMethod y_Mo_wideCode ∈ mGood := mg_of (i := 1056) (by decide +kernel) rfl
theorem se_Mo_wideCode : Cond.selects R_Mo y_Mo_wideCode y_Mo_wideCode ∈ mGood := mg_of (i := 44) (by decide +kernel) rfl
theorem cw_Mo_firstOf : mCw y_Mo_firstOf b_Mo_firstOf 3 (some .int) 1 := ⟨mg_of (i := 1061) (by decide +kernel) rfl, mg_of (i := 70) (by decide +kernel) rfl, ⟨by decide +kernel, by decide +kernel⟩, by decide +kernel⟩
theorem in_Mo_firstOf : Cond.instanceMethod y_Mo_firstOf ∈ mGood := mg_of (i := 1060) (by decide +kernel) rfl
theorem se_Mo_firstOf : Cond.selects R_Mo y_Mo_firstOf y_Mo_firstOf ∈ mGood := mg_of (i := 45) (by decide +kernel) rfl
theorem cw_Mo_byteOf : mCw y_Mo_byteOf b_Mo_byteOf 4 (some .int) 2 := ⟨mg_of (i := 1065) (by decide +kernel) rfl, mg_of (i := 70) (by decide +kernel) rfl, ⟨by decide +kernel, by decide +kernel⟩, by decide +kernel⟩
theorem in_Mo_byteOf : Cond.instanceMethod y_Mo_byteOf ∈ mGood := mg_of (i := 1064) (by decide +kernel) rfl
theorem se_Mo_byteOf : Cond.selects R_Mo y_Mo_byteOf y_Mo_byteOf ∈ mGood := mg_of (i := 46) (by decide +kernel) rfl
theorem cw_Mo_widthOf : mCw y_Mo_widthOf b_Mo_widthOf 1 (some .int) 1 := ⟨mg_of (i := 1053) (by decide +kernel) rfl, mg_of (i := 70) (by decide +kernel) rfl, ⟨by decide +kernel, by decide +kernel⟩, by decide +kernel⟩
theorem st_Mo_widthOf : Cond.static y_Mo_widthOf ∈ mGood := mg_of (i := 1052) (by decide +kernel) rfl
theorem cw_Mo_lzw : mCw y_Mo_lzw b_Mo_lzw 10 none 1 := ⟨mg_of (i := 1050) (by decide +kernel) rfl, mg_of (i := 70) (by decide +kernel) rfl, ⟨by decide +kernel, by decide +kernel⟩, by decide +kernel⟩
theorem in_Mo_lzw : Cond.instanceMethod y_Mo_lzw ∈ mGood := mg_of (i := 1049) (by decide +kernel) rfl
theorem se_Mo_lzw : Cond.selects R_Mo y_Mo_lzw y_Mo_lzw ∈ mGood := mg_of (i := 43) (by decide +kernel) rfl
theorem cw_Mo_isWhite : mCw y_Mo_isWhite b_Mo_isWhite 1 (some .boolean) 1 := ⟨mg_of (i := 1072) (by decide +kernel) rfl, mg_of (i := 70) (by decide +kernel) rfl, ⟨by decide +kernel, by decide +kernel⟩, by decide +kernel⟩
theorem st_Mo_isWhite : Cond.static y_Mo_isWhite ∈ mGood := mg_of (i := 1071) (by decide +kernel) rfl
theorem cw_Mo_giveWord : mCw y_Mo_giveWord b_Mo_giveWord 5 none 2 := ⟨mg_of (i := 1078) (by decide +kernel) rfl, mg_of (i := 70) (by decide +kernel) rfl, ⟨by decide +kernel, by decide +kernel⟩, by decide +kernel⟩
theorem in_Mo_giveWord : Cond.instanceMethod y_Mo_giveWord ∈ mGood := mg_of (i := 1077) (by decide +kernel) rfl
theorem se_Mo_giveWord : Cond.selects R_Mo y_Mo_giveWord y_Mo_giveWord ∈ mGood := mg_of (i := 48) (by decide +kernel) rfl
theorem cw_Mo_text85 : mCw y_Mo_text85 b_Mo_text85 7 none 0 := ⟨mg_of (i := 1069) (by decide +kernel) rfl, mg_of (i := 70) (by decide +kernel) rfl, ⟨by decide +kernel, by decide +kernel⟩, by decide +kernel⟩
theorem in_Mo_text85 : Cond.instanceMethod y_Mo_text85 ∈ mGood := mg_of (i := 1068) (by decide +kernel) rfl
theorem se_Mo_text85 : Cond.selects R_Mo y_Mo_text85 y_Mo_text85 ∈ mGood := mg_of (i := 47) (by decide +kernel) rfl
theorem cw_Mo_digit : mCw y_Mo_digit b_Mo_digit 1 (some .int) 1 := ⟨mg_of (i := 1088) (by decide +kernel) rfl, mg_of (i := 70) (by decide +kernel) rfl, ⟨by decide +kernel, by decide +kernel⟩, by decide +kernel⟩
theorem st_Mo_digit : Cond.static y_Mo_digit ∈ mGood := mg_of (i := 1087) (by decide +kernel) rfl
theorem cw_Mo_hexadecimal : mCw y_Mo_hexadecimal b_Mo_hexadecimal 4 none 0 := ⟨mg_of (i := 1085) (by decide +kernel) rfl, mg_of (i := 70) (by decide +kernel) rfl, ⟨by decide +kernel, by decide +kernel⟩, by decide +kernel⟩
theorem in_Mo_hexadecimal : Cond.instanceMethod y_Mo_hexadecimal ∈ mGood := mg_of (i := 1084) (by decide +kernel) rfl
theorem se_Mo_hexadecimal : Cond.selects R_Mo y_Mo_hexadecimal y_Mo_hexadecimal ∈ mGood := mg_of (i := 49) (by decide +kernel) rfl
theorem cw_Mo_runs : mCw y_Mo_runs b_Mo_runs 7 none 0 := ⟨mg_of (i := 1092) (by decide +kernel) rfl, mg_of (i := 70) (by decide +kernel) rfl, ⟨by decide +kernel, by decide +kernel⟩, by decide +kernel⟩
theorem in_Mo_runs : Cond.instanceMethod y_Mo_runs ∈ mGood := mg_of (i := 1091) (by decide +kernel) rfl
theorem se_Mo_runs : Cond.selects R_Mo y_Mo_runs y_Mo_runs ∈ mGood := mg_of (i := 50) (by decide +kernel) rfl
theorem cw_Mo_bitAt : mCw y_Mo_bitAt b_Mo_bitAt 3 (some .int) 2 := ⟨mg_of (i := 1108) (by decide +kernel) rfl, mg_of (i := 70) (by decide +kernel) rfl, ⟨by decide +kernel, by decide +kernel⟩, by decide +kernel⟩
theorem in_Mo_bitAt : Cond.instanceMethod y_Mo_bitAt ∈ mGood := mg_of (i := 1107) (by decide +kernel) rfl
theorem se_Mo_bitAt : Cond.selects R_Mo y_Mo_bitAt y_Mo_bitAt ∈ mGood := mg_of (i := 54) (by decide +kernel) rfl
theorem cw_Mo_numberAt : mCw y_Mo_numberAt b_Mo_numberAt 6 (some .int) 3 := ⟨mg_of (i := 1104) (by decide +kernel) rfl, mg_of (i := 70) (by decide +kernel) rfl, ⟨by decide +kernel, by decide +kernel⟩, by decide +kernel⟩
theorem in_Mo_numberAt : Cond.instanceMethod y_Mo_numberAt ∈ mGood := mg_of (i := 1103) (by decide +kernel) rfl
theorem se_Mo_numberAt : Cond.selects R_Mo y_Mo_numberAt y_Mo_numberAt ∈ mGood := mg_of (i := 53) (by decide +kernel) rfl
theorem cw_Mo_setNumber : mCw y_Mo_setNumber b_Mo_setNumber 9 none 4 := ⟨mg_of (i := 1112) (by decide +kernel) rfl, mg_of (i := 70) (by decide +kernel) rfl, ⟨by decide +kernel, by decide +kernel⟩, by decide +kernel⟩
theorem in_Mo_setNumber : Cond.instanceMethod y_Mo_setNumber ∈ mGood := mg_of (i := 1111) (by decide +kernel) rfl
theorem se_Mo_setNumber : Cond.selects R_Mo y_Mo_setNumber y_Mo_setNumber ∈ mGood := mg_of (i := 55) (by decide +kernel) rfl
theorem cw_Mo_rowBytes : mCw y_Mo_rowBytes b_Mo_rowBytes 2 (some .int) 1 := ⟨mg_of (i := 1100) (by decide +kernel) rfl, mg_of (i := 70) (by decide +kernel) rfl, ⟨by decide +kernel, by decide +kernel⟩, by decide +kernel⟩
theorem in_Mo_rowBytes : Cond.instanceMethod y_Mo_rowBytes ∈ mGood := mg_of (i := 1099) (by decide +kernel) rfl
theorem se_Mo_rowBytes : Cond.selects R_Mo y_Mo_rowBytes y_Mo_rowBytes ∈ mGood := mg_of (i := 52) (by decide +kernel) rfl
theorem cw_Mo_addRows : mCw y_Mo_addRows b_Mo_addRows 9 none 1 := ⟨mg_of (i := 1096) (by decide +kernel) rfl, mg_of (i := 70) (by decide +kernel) rfl, ⟨by decide +kernel, by decide +kernel⟩, by decide +kernel⟩
theorem in_Mo_addRows : Cond.instanceMethod y_Mo_addRows ∈ mGood := mg_of (i := 1095) (by decide +kernel) rfl
theorem se_Mo_addRows : Cond.selects R_Mo y_Mo_addRows y_Mo_addRows ∈ mGood := mg_of (i := 51) (by decide +kernel) rfl
theorem cw_Mo_far : mCw y_Mo_far b_Mo_far 2 (some .int) 2 := ⟨mg_of (i := 1125) (by decide +kernel) rfl, mg_of (i := 70) (by decide +kernel) rfl, ⟨by decide +kernel, by decide +kernel⟩, by decide +kernel⟩
theorem st_Mo_far : Cond.static y_Mo_far ∈ mGood := mg_of (i := 1124) (by decide +kernel) rfl
theorem cw_Mo_nearest : mCw y_Mo_nearest b_Mo_nearest 4 (some .int) 3 := ⟨mg_of (i := 1122) (by decide +kernel) rfl, mg_of (i := 70) (by decide +kernel) rfl, ⟨by decide +kernel, by decide +kernel⟩, by decide +kernel⟩
theorem st_Mo_nearest : Cond.static y_Mo_nearest ∈ mGood := mg_of (i := 1121) (by decide +kernel) rfl
theorem cw_Mo_added : mCw y_Mo_added b_Mo_added 4 (some .int) 4 := ⟨mg_of (i := 1119) (by decide +kernel) rfl, mg_of (i := 70) (by decide +kernel) rfl, ⟨by decide +kernel, by decide +kernel⟩, by decide +kernel⟩
theorem st_Mo_added : Cond.static y_Mo_added ∈ mGood := mg_of (i := 1118) (by decide +kernel) rfl
theorem cw_Mo_undoRows : mCw y_Mo_undoRows b_Mo_undoRows 13 (some .boolean) 1 := ⟨mg_of (i := 1116) (by decide +kernel) rfl, mg_of (i := 70) (by decide +kernel) rfl, ⟨by decide +kernel, by decide +kernel⟩, by decide +kernel⟩
theorem in_Mo_undoRows : Cond.instanceMethod y_Mo_undoRows ∈ mGood := mg_of (i := 1115) (by decide +kernel) rfl
theorem se_Mo_undoRows : Cond.selects R_Mo y_Mo_undoRows y_Mo_undoRows ∈ mGood := mg_of (i := 56) (by decide +kernel) rfl
theorem cw_Mo_run : mCw y_Mo_run b_Mo_run 2 none 1 := ⟨mg_of (i := 958) (by decide +kernel) rfl, mg_of (i := 70) (by decide +kernel) rfl, ⟨by decide +kernel, by decide +kernel⟩, by decide +kernel⟩
theorem in_Mo_run : Cond.instanceMethod y_Mo_run ∈ mGood := mg_of (i := 957) (by decide +kernel) rfl
theorem se_Mo_run : Cond.selects R_Mo y_Mo_run y_Mo_run ∈ mGood := mg_of (i := 25) (by decide +kernel) rfl
theorem cw_Mo_decode : mCw y_Mo_decode b_Mo_decode 3 (some .int) 0 := ⟨mg_of (i := 950) (by decide +kernel) rfl, mg_of (i := 70) (by decide +kernel) rfl, ⟨by decide +kernel, by decide +kernel⟩, by decide +kernel⟩
theorem in_Mo_decode : Cond.instanceMethod y_Mo_decode ∈ mGood := mg_of (i := 948) (by decide +kernel) rfl
theorem se_Mo_decode : Cond.selects R_Mo y_Mo_decode y_Mo_decode ∈ mGood := mg_of (i := 949) (by decide +kernel) rfl
theorem cw_Mo_at : mCw y_Mo_at b_Mo_at 2 (some .int) 1 := ⟨mg_of (i := 1129) (by decide +kernel) rfl, mg_of (i := 70) (by decide +kernel) rfl, ⟨by decide +kernel, by decide +kernel⟩, by decide +kernel⟩
theorem in_Mo_at : Cond.instanceMethod y_Mo_at ∈ mGood := mg_of (i := 1127) (by decide +kernel) rfl
theorem se_Mo_at : Cond.selects R_Mo y_Mo_at y_Mo_at ∈ mGood := mg_of (i := 1128) (by decide +kernel) rfl
theorem cw_Mo_fault : mCw y_Mo_fault b_Mo_fault 2 (some .int) 1 := ⟨mg_of (i := 1133) (by decide +kernel) rfl, mg_of (i := 70) (by decide +kernel) rfl, ⟨by decide +kernel, by decide +kernel⟩, by decide +kernel⟩
theorem in_Mo_fault : Cond.instanceMethod y_Mo_fault ∈ mGood := mg_of (i := 1131) (by decide +kernel) rfl
theorem se_Mo_fault : Cond.selects R_Mo y_Mo_fault y_Mo_fault ∈ mGood := mg_of (i := 1132) (by decide +kernel) rfl
theorem cw_Mo_keep : mCw y_Mo_keep b_Mo_keep 2 (some .int) 0 := ⟨mg_of (i := 1137) (by decide +kernel) rfl, mg_of (i := 70) (by decide +kernel) rfl, ⟨by decide +kernel, by decide +kernel⟩, by decide +kernel⟩
theorem in_Mo_keep : Cond.instanceMethod y_Mo_keep ∈ mGood := mg_of (i := 1135) (by decide +kernel) rfl
theorem se_Mo_keep : Cond.selects R_Mo y_Mo_keep y_Mo_keep ∈ mGood := mg_of (i := 1136) (by decide +kernel) rfl
theorem cw_Co_isEmpty : mCw y_Co_isEmpty b_Co_isEmpty 1 (some .boolean) 0 := ⟨mg_of (i := 480) (by decide +kernel) rfl, mg_of (i := 64) (by decide +kernel) rfl, ⟨by decide +kernel, by decide +kernel⟩, by decide +kernel⟩
theorem in_Co_isEmpty : Cond.instanceMethod y_Co_isEmpty ∈ mGood := mg_of (i := 478) (by decide +kernel) rfl
theorem se_Co_isEmpty : Cond.selects R_Co y_Co_isEmpty y_Co_isEmpty ∈ mGood := mg_of (i := 479) (by decide +kernel) rfl
theorem cw_Co_isGood : mCw y_Co_isGood b_Co_isGood 3 (some .boolean) 0 := ⟨mg_of (i := 468) (by decide +kernel) rfl, mg_of (i := 64) (by decide +kernel) rfl, ⟨by decide +kernel, by decide +kernel⟩, by decide +kernel⟩
theorem in_Co_isGood : Cond.instanceMethod y_Co_isGood ∈ mGood := mg_of (i := 466) (by decide +kernel) rfl
theorem se_Co_isGood : Cond.selects R_Co y_Co_isGood y_Co_isGood ∈ mGood := mg_of (i := 467) (by decide +kernel) rfl
theorem cw_Pa_nextByte : mCw y_Pa_nextByte b_Pa_nextByte 1 (some .int) 0 := ⟨mg_of (i := 393) (by decide +kernel) rfl, mg_of (i := 61) (by decide +kernel) rfl, ⟨by decide +kernel, by decide +kernel⟩, by decide +kernel⟩
theorem in_Pa_nextByte : Cond.instanceMethod y_Pa_nextByte ∈ mGood := mg_of (i := 391) (by decide +kernel) rfl
theorem se_Pa_nextByte : Cond.selects R_Pa y_Pa_nextByte y_Pa_nextByte ∈ mGood := mg_of (i := 392) (by decide +kernel) rfl
theorem cw_Pa_nextBit : mCw y_Pa_nextBit b_Pa_nextBit 2 (some .int) 1 := ⟨mg_of (i := 406) (by decide +kernel) rfl, mg_of (i := 61) (by decide +kernel) rfl, ⟨by decide +kernel, by decide +kernel⟩, by decide +kernel⟩
theorem in_Pa_nextBit : Cond.instanceMethod y_Pa_nextBit ∈ mGood := mg_of (i := 404) (by decide +kernel) rfl
theorem se_Pa_nextBit : Cond.selects R_Pa y_Pa_nextBit y_Pa_nextBit ∈ mGood := mg_of (i := 405) (by decide +kernel) rfl
theorem cw_Pa_fail : mCw y_Pa_fail b_Pa_fail 2 (some .boolean) 1 := ⟨mg_of (i := 397) (by decide +kernel) rfl, mg_of (i := 61) (by decide +kernel) rfl, ⟨by decide +kernel, by decide +kernel⟩, by decide +kernel⟩
theorem in_Pa_fail : Cond.instanceMethod y_Pa_fail ∈ mGood := mg_of (i := 395) (by decide +kernel) rfl
theorem se_Pa_fail : Cond.selects R_Pa y_Pa_fail y_Pa_fail ∈ mGood := mg_of (i := 396) (by decide +kernel) rfl
theorem cw_Co_read : mCw y_Co_read b_Co_read 8 (some .int) 1 := ⟨mg_of (i := 431) (by decide +kernel) rfl, mg_of (i := 64) (by decide +kernel) rfl, ⟨by decide +kernel, by decide +kernel⟩, by decide +kernel⟩
theorem in_Co_read : Cond.instanceMethod y_Co_read ∈ mGood := mg_of (i := 429) (by decide +kernel) rfl
theorem se_Co_read : Cond.selects R_Co y_Co_read y_Co_read ∈ mGood := mg_of (i := 430) (by decide +kernel) rfl
theorem cw_Fl_readHeader : mCw y_Fl_readHeader b_Fl_readHeader 4 (some .boolean) 1 := ⟨mg_of (i := 389) (by decide +kernel) rfl, mg_of (i := 63) (by decide +kernel) rfl, ⟨by decide +kernel, by decide +kernel⟩, by decide +kernel⟩
theorem st_Fl_readHeader : Cond.static y_Fl_readHeader ∈ mGood := mg_of (i := 388) (by decide +kernel) rfl
theorem cw_Pa_lowNumber : mCw y_Pa_lowNumber b_Pa_lowNumber 5 (some .int) 1 := ⟨mg_of (i := 402) (by decide +kernel) rfl, mg_of (i := 61) (by decide +kernel) rfl, ⟨by decide +kernel, by decide +kernel⟩, by decide +kernel⟩
theorem in_Pa_lowNumber : Cond.instanceMethod y_Pa_lowNumber ∈ mGood := mg_of (i := 400) (by decide +kernel) rfl
theorem se_Pa_lowNumber : Cond.selects R_Pa y_Pa_lowNumber y_Pa_lowNumber ∈ mGood := mg_of (i := 401) (by decide +kernel) rfl
theorem cw_Fl_readShort : mCw y_Fl_readShort b_Fl_readShort 3 (some .int) 1 := ⟨mg_of (i := 413) (by decide +kernel) rfl, mg_of (i := 63) (by decide +kernel) rfl, ⟨by decide +kernel, by decide +kernel⟩, by decide +kernel⟩
theorem st_Fl_readShort : Cond.static y_Fl_readShort ∈ mGood := mg_of (i := 412) (by decide +kernel) rfl
theorem cw_Pa_give : mCw y_Pa_give b_Pa_give 2 (some .boolean) 1 := ⟨mg_of (i := 422) (by decide +kernel) rfl, mg_of (i := 61) (by decide +kernel) rfl, ⟨by decide +kernel, by decide +kernel⟩, by decide +kernel⟩
theorem in_Pa_give : Cond.instanceMethod y_Pa_give ∈ mGood := mg_of (i := 420) (by decide +kernel) rfl
theorem se_Pa_give : Cond.selects R_Pa y_Pa_give y_Pa_give ∈ mGood := mg_of (i := 421) (by decide +kernel) rfl
theorem cw_Pa_giveAsTheyAre : mCw y_Pa_giveAsTheyAre b_Pa_giveAsTheyAre 4 (some .boolean) 1 := ⟨mg_of (i := 418) (by decide +kernel) rfl, mg_of (i := 61) (by decide +kernel) rfl, ⟨by decide +kernel, by decide +kernel⟩, by decide +kernel⟩
theorem in_Pa_giveAsTheyAre : Cond.instanceMethod y_Pa_giveAsTheyAre ∈ mGood := mg_of (i := 416) (by decide +kernel) rfl
theorem se_Pa_giveAsTheyAre : Cond.selects R_Pa y_Pa_giveAsTheyAre y_Pa_giveAsTheyAre ∈ mGood := mg_of (i := 417) (by decide +kernel) rfl
theorem cw_Fl_unpackStored : mCw y_Fl_unpackStored b_Fl_unpackStored 3 (some .boolean) 1 := ⟨mg_of (i := 410) (by decide +kernel) rfl, mg_of (i := 63) (by decide +kernel) rfl, ⟨by decide +kernel, by decide +kernel⟩, by decide +kernel⟩
theorem st_Fl_unpackStored : Cond.static y_Fl_unpackStored ∈ mGood := mg_of (i := 409) (by decide +kernel) rfl
theorem cw_Fl_readDistance : mCw y_Fl_readDistance b_Fl_readDistance 4 (some .int) 2 := ⟨mg_of (i := 444) (by decide +kernel) rfl, mg_of (i := 63) (by decide +kernel) rfl, ⟨by decide +kernel, by decide +kernel⟩, by decide +kernel⟩
theorem st_Fl_readDistance : Cond.static y_Fl_readDistance ∈ mGood := mg_of (i := 443) (by decide +kernel) rfl
theorem cw_Pa_giveAgain : mCw y_Pa_giveAgain b_Pa_giveAgain 4 (some .boolean) 2 := ⟨mg_of (i := 452) (by decide +kernel) rfl, mg_of (i := 61) (by decide +kernel) rfl, ⟨by decide +kernel, by decide +kernel⟩, by decide +kernel⟩
theorem in_Pa_giveAgain : Cond.instanceMethod y_Pa_giveAgain ∈ mGood := mg_of (i := 450) (by decide +kernel) rfl
theorem se_Pa_giveAgain : Cond.selects R_Pa y_Pa_giveAgain y_Pa_giveAgain ∈ mGood := mg_of (i := 451) (by decide +kernel) rfl
theorem cw_Fl_copy : mCw y_Fl_copy b_Fl_copy 7 (some .boolean) 3 := ⟨mg_of (i := 437) (by decide +kernel) rfl, mg_of (i := 63) (by decide +kernel) rfl, ⟨by decide +kernel, by decide +kernel⟩, by decide +kernel⟩
theorem st_Fl_copy : Cond.static y_Fl_copy ∈ mGood := mg_of (i := 436) (by decide +kernel) rfl
theorem cw_Fl_unpackCodes : mCw y_Fl_unpackCodes b_Fl_unpackCodes 6 (some .boolean) 3 := ⟨mg_of (i := 427) (by decide +kernel) rfl, mg_of (i := 63) (by decide +kernel) rfl, ⟨by decide +kernel, by decide +kernel⟩, by decide +kernel⟩
theorem st_Fl_unpackCodes : Cond.static y_Fl_unpackCodes ∈ mGood := mg_of (i := 426) (by decide +kernel) rfl
theorem cw_Fl_readLengthCodes : mCw y_Fl_readLengthCodes b_Fl_readLengthCodes 5 (some .boolean) 2 := ⟨mg_of (i := 464) (by decide +kernel) rfl, mg_of (i := 63) (by decide +kernel) rfl, ⟨by decide +kernel, by decide +kernel⟩, by decide +kernel⟩
theorem in_Fl_readLengthCodes : Cond.instanceMethod y_Fl_readLengthCodes ∈ mGood := mg_of (i := 463) (by decide +kernel) rfl
theorem se_Fl_readLengthCodes : Cond.selects R_Fl y_Fl_readLengthCodes y_Fl_readLengthCodes ∈ mGood := mg_of (i := 4) (by decide +kernel) rfl
theorem cw_Fl_readTimes : mCw y_Fl_readTimes b_Fl_readTimes 3 (some .int) 2 := ⟨mg_of (i := 476) (by decide +kernel) rfl, mg_of (i := 63) (by decide +kernel) rfl, ⟨by decide +kernel, by decide +kernel⟩, by decide +kernel⟩
theorem st_Fl_readTimes : Cond.static y_Fl_readTimes ∈ mGood := mg_of (i := 475) (by decide +kernel) rfl
theorem cw_Fl_readLengths : mCw y_Fl_readLengths b_Fl_readLengths 10 (some .boolean) 2 := ⟨mg_of (i := 473) (by decide +kernel) rfl, mg_of (i := 63) (by decide +kernel) rfl, ⟨by decide +kernel, by decide +kernel⟩, by decide +kernel⟩
theorem in_Fl_readLengths : Cond.instanceMethod y_Fl_readLengths ∈ mGood := mg_of (i := 472) (by decide +kernel) rfl
theorem se_Fl_readLengths : Cond.selects R_Fl y_Fl_readLengths y_Fl_readLengths ∈ mGood := mg_of (i := 5) (by decide +kernel) rfl
theorem cw_Fl_readCodes : mCw y_Fl_readCodes b_Fl_readCodes 6 (some .boolean) 1 := ⟨mg_of (i := 460) (by decide +kernel) rfl, mg_of (i := 63) (by decide +kernel) rfl, ⟨by decide +kernel, by decide +kernel⟩, by decide +kernel⟩
theorem in_Fl_readCodes : Cond.instanceMethod y_Fl_readCodes ∈ mGood := mg_of (i := 459) (by decide +kernel) rfl
theorem se_Fl_readCodes : Cond.selects R_Fl y_Fl_readCodes y_Fl_readCodes ∈ mGood := mg_of (i := 3) (by decide +kernel) rfl
theorem cw_Fl_checkOf : mCw y_Fl_checkOf b_Fl_checkOf 4 (some .long) 1 := ⟨mg_of (i := 487) (by decide +kernel) rfl, mg_of (i := 63) (by decide +kernel) rfl, ⟨by decide +kernel, by decide +kernel⟩, by decide +kernel⟩
theorem st_Fl_checkOf : Cond.static y_Fl_checkOf ∈ mGood := mg_of (i := 486) (by decide +kernel) rfl
theorem cw_Fl_compareCheck : mCw y_Fl_compareCheck b_Fl_compareCheck 5 none 1 := ⟨mg_of (i := 483) (by decide +kernel) rfl, mg_of (i := 63) (by decide +kernel) rfl, ⟨by decide +kernel, by decide +kernel⟩, by decide +kernel⟩
theorem st_Fl_compareCheck : Cond.static y_Fl_compareCheck ∈ mGood := mg_of (i := 482) (by decide +kernel) rfl
theorem cw_Fl_unpack : mCw y_Fl_unpack b_Fl_unpack 7 none 2 := ⟨mg_of (i := 386) (by decide +kernel) rfl, mg_of (i := 63) (by decide +kernel) rfl, ⟨by decide +kernel, by decide +kernel⟩, by decide +kernel⟩
theorem in_Fl_unpack : Cond.instanceMethod y_Fl_unpack ∈ mGood := mg_of (i := 385) (by decide +kernel) rfl
theorem cw_Pa_isBlank : mCw y_Pa_isBlank b_Pa_isBlank 1 (some .boolean) 1 := ⟨mg_of (i := 502) (by decide +kernel) rfl, mg_of (i := 61) (by decide +kernel) rfl, ⟨by decide +kernel, by decide +kernel⟩, by decide +kernel⟩
theorem st_Pa_isBlank : Cond.static y_Pa_isBlank ∈ mGood := mg_of (i := 501) (by decide +kernel) rfl
theorem cw_Pa_nextSign : mCw y_Pa_nextSign b_Pa_nextSign 3 (some .int) 0 := ⟨mg_of (i := 498) (by decide +kernel) rfl, mg_of (i := 61) (by decide +kernel) rfl, ⟨by decide +kernel, by decide +kernel⟩, by decide +kernel⟩
theorem in_Pa_nextSign : Cond.instanceMethod y_Pa_nextSign ∈ mGood := mg_of (i := 496) (by decide +kernel) rfl
theorem se_Pa_nextSign : Cond.selects R_Pa y_Pa_nextSign y_Pa_nextSign ∈ mGood := mg_of (i := 497) (by decide +kernel) rfl
theorem cw_Hx_digitOf : mCw y_Hx_digitOf b_Hx_digitOf 1 (some .int) 1 := ⟨mg_of (i := 505) (by decide +kernel) rfl, mg_of (i := 67) (by decide +kernel) rfl, ⟨by decide +kernel, by decide +kernel⟩, by decide +kernel⟩
theorem st_Hx_digitOf : Cond.static y_Hx_digitOf ∈ mGood := mg_of (i := 504) (by decide +kernel) rfl
theorem cw_Hx_unpack : mCw y_Hx_unpack b_Hx_unpack 8 none 2 := ⟨mg_of (i := 493) (by decide +kernel) rfl, mg_of (i := 67) (by decide +kernel) rfl, ⟨by decide +kernel, by decide +kernel⟩, by decide +kernel⟩
theorem in_Hx_unpack : Cond.instanceMethod y_Hx_unpack ∈ mGood := mg_of (i := 492) (by decide +kernel) rfl
theorem cw_Pa_giveTimes : mCw y_Pa_giveTimes b_Pa_giveTimes 4 (some .boolean) 2 := ⟨mg_of (i := 520) (by decide +kernel) rfl, mg_of (i := 61) (by decide +kernel) rfl, ⟨by decide +kernel, by decide +kernel⟩, by decide +kernel⟩
theorem in_Pa_giveTimes : Cond.instanceMethod y_Pa_giveTimes ∈ mGood := mg_of (i := 518) (by decide +kernel) rfl
theorem se_Pa_giveTimes : Cond.selects R_Pa y_Pa_giveTimes y_Pa_giveTimes ∈ mGood := mg_of (i := 519) (by decide +kernel) rfl
theorem cw_Le_giveRun : mCw y_Le_giveRun b_Le_giveRun 3 (some .boolean) 2 := ⟨mg_of (i := 516) (by decide +kernel) rfl, mg_of (i := 68) (by decide +kernel) rfl, ⟨by decide +kernel, by decide +kernel⟩, by decide +kernel⟩
theorem st_Le_giveRun : Cond.static y_Le_giveRun ∈ mGood := mg_of (i := 515) (by decide +kernel) rfl
theorem cw_Le_unpack : mCw y_Le_unpack b_Le_unpack 6 none 2 := ⟨mg_of (i := 510) (by decide +kernel) rfl, mg_of (i := 68) (by decide +kernel) rfl, ⟨by decide +kernel, by decide +kernel⟩, by decide +kernel⟩
theorem in_Le_unpack : Cond.instanceMethod y_Le_unpack ∈ mGood := mg_of (i := 509) (by decide +kernel) rfl
theorem cw_Lz_clear : mCw y_Lz_clear b_Lz_clear 1 none 0 := ⟨mg_of (i := 527) (by decide +kernel) rfl, mg_of (i := 65) (by decide +kernel) rfl, ⟨by decide +kernel, by decide +kernel⟩, by decide +kernel⟩
theorem in_Lz_clear : Cond.instanceMethod y_Lz_clear ∈ mGood := mg_of (i := 526) (by decide +kernel) rfl
theorem se_Lz_clear : Cond.selects R_Lz y_Lz_clear y_Lz_clear ∈ mGood := mg_of (i := 6) (by decide +kernel) rfl
theorem cw_Lz_widthFor : mCw y_Lz_widthFor b_Lz_widthFor 1 (some .int) 1 := ⟨mg_of (i := 531) (by decide +kernel) rfl, mg_of (i := 65) (by decide +kernel) rfl, ⟨by decide +kernel, by decide +kernel⟩, by decide +kernel⟩
theorem st_Lz_widthFor : Cond.static y_Lz_widthFor ∈ mGood := mg_of (i := 530) (by decide +kernel) rfl
theorem cw_Pa_highNumber : mCw y_Pa_highNumber b_Pa_highNumber 5 (some .int) 1 := ⟨mg_of (i := 535) (by decide +kernel) rfl, mg_of (i := 61) (by decide +kernel) rfl, ⟨by decide +kernel, by decide +kernel⟩, by decide +kernel⟩
theorem in_Pa_highNumber : Cond.instanceMethod y_Pa_highNumber ∈ mGood := mg_of (i := 533) (by decide +kernel) rfl
theorem se_Pa_highNumber : Cond.selects R_Pa y_Pa_highNumber y_Pa_highNumber ∈ mGood := mg_of (i := 534) (by decide +kernel) rfl
theorem cw_Lz_sizeOf : mCw y_Lz_sizeOf b_Lz_sizeOf 2 (some .int) 1 := ⟨mg_of (i := 543) (by decide +kernel) rfl, mg_of (i := 65) (by decide +kernel) rfl, ⟨by decide +kernel, by decide +kernel⟩, by decide +kernel⟩
theorem in_Lz_sizeOf : Cond.instanceMethod y_Lz_sizeOf ∈ mGood := mg_of (i := 542) (by decide +kernel) rfl
theorem se_Lz_sizeOf : Cond.selects R_Lz y_Lz_sizeOf y_Lz_sizeOf ∈ mGood := mg_of (i := 8) (by decide +kernel) rfl
theorem cw_Lz_startOf : mCw y_Lz_startOf b_Lz_startOf 2 (some .int) 1 := ⟨mg_of (i := 549) (by decide +kernel) rfl, mg_of (i := 65) (by decide +kernel) rfl, ⟨by decide +kernel, by decide +kernel⟩, by decide +kernel⟩
theorem in_Lz_startOf : Cond.instanceMethod y_Lz_startOf ∈ mGood := mg_of (i := 548) (by decide +kernel) rfl
theorem se_Lz_startOf : Cond.selects R_Lz y_Lz_startOf y_Lz_startOf ∈ mGood := mg_of (i := 9) (by decide +kernel) rfl
theorem cw_Lz_makeString : mCw y_Lz_makeString b_Lz_makeString 1 none 0 := ⟨mg_of (i := 554) (by decide +kernel) rfl, mg_of (i := 65) (by decide +kernel) rfl, ⟨by decide +kernel, by decide +kernel⟩, by decide +kernel⟩
theorem in_Lz_makeString : Cond.instanceMethod y_Lz_makeString ∈ mGood := mg_of (i := 553) (by decide +kernel) rfl
theorem se_Lz_makeString : Cond.selects R_Lz y_Lz_makeString y_Lz_makeString ∈ mGood := mg_of (i := 10) (by decide +kernel) rfl
theorem cw_Lz_giveString : mCw y_Lz_giveString b_Lz_giveString 6 (some .boolean) 2 := ⟨mg_of (i := 539) (by decide +kernel) rfl, mg_of (i := 65) (by decide +kernel) rfl, ⟨by decide +kernel, by decide +kernel⟩, by decide +kernel⟩
theorem in_Lz_giveString : Cond.instanceMethod y_Lz_giveString ∈ mGood := mg_of (i := 538) (by decide +kernel) rfl
theorem se_Lz_giveString : Cond.selects R_Lz y_Lz_giveString y_Lz_giveString ∈ mGood := mg_of (i := 7) (by decide +kernel) rfl
theorem cw_Lz_unpack : mCw y_Lz_unpack b_Lz_unpack 5 none 2 := ⟨mg_of (i := 523) (by decide +kernel) rfl, mg_of (i := 65) (by decide +kernel) rfl, ⟨by decide +kernel, by decide +kernel⟩, by decide +kernel⟩
theorem in_Lz_unpack : Cond.instanceMethod y_Lz_unpack ∈ mGood := mg_of (i := 522) (by decide +kernel) rfl
theorem cw_T8_addDigit : mCw y_T8_addDigit b_T8_addDigit 2 none 1 := ⟨mg_of (i := 569) (by decide +kernel) rfl, mg_of (i := 66) (by decide +kernel) rfl, ⟨by decide +kernel, by decide +kernel⟩, by decide +kernel⟩
theorem in_T8_addDigit : Cond.instanceMethod y_T8_addDigit ∈ mGood := mg_of (i := 568) (by decide +kernel) rfl
theorem se_T8_addDigit : Cond.selects R_T8 y_T8_addDigit y_T8_addDigit ∈ mGood := mg_of (i := 12) (by decide +kernel) rfl
theorem cw_T8_giveNumber : mCw y_T8_giveNumber b_T8_giveNumber 4 (some .boolean) 2 := ⟨mg_of (i := 574) (by decide +kernel) rfl, mg_of (i := 66) (by decide +kernel) rfl, ⟨by decide +kernel, by decide +kernel⟩, by decide +kernel⟩
theorem in_T8_giveNumber : Cond.instanceMethod y_T8_giveNumber ∈ mGood := mg_of (i := 573) (by decide +kernel) rfl
theorem se_T8_giveNumber : Cond.selects R_T8 y_T8_giveNumber y_T8_giveNumber ∈ mGood := mg_of (i := 13) (by decide +kernel) rfl
theorem cw_T8_finish : mCw y_T8_finish b_T8_finish 5 none 1 := ⟨mg_of (i := 563) (by decide +kernel) rfl, mg_of (i := 66) (by decide +kernel) rfl, ⟨by decide +kernel, by decide +kernel⟩, by decide +kernel⟩
theorem in_T8_finish : Cond.instanceMethod y_T8_finish ∈ mGood := mg_of (i := 562) (by decide +kernel) rfl
theorem se_T8_finish : Cond.selects R_T8 y_T8_finish y_T8_finish ∈ mGood := mg_of (i := 11) (by decide +kernel) rfl
theorem cw_T8_unpack : mCw y_T8_unpack b_T8_unpack 6 none 2 := ⟨mg_of (i := 557) (by decide +kernel) rfl, mg_of (i := 66) (by decide +kernel) rfl, ⟨by decide +kernel, by decide +kernel⟩, by decide +kernel⟩
theorem in_T8_unpack : Cond.instanceMethod y_T8_unpack ∈ mGood := mg_of (i := 556) (by decide +kernel) rfl
end
section
/-! NEW CELLS: the next number is the list's length -/
def mRl (n : Nat) (v : Value) : Prop := match v with
  | .ref i => i < n ∨ 10000 ≤ i
  | _ => True
def mEl (n : Nat) (q : mE) : Prop := match q with
  | .inl (_, (_, .inr (.inr (.inr (.inr f))))) => ∀ (k i : Nat), f k = some i → i < n ∨ 10000 ≤ i
  | .inl _ => True
  | .inr (_, fs) => ∀ v ∈ fs, mRl n v
def mWf (h : mH) : Prop := ∀ q ∈ h, mEl h.length q
def mAg (n : Nat) (ad ad' : Nat → Nat) : Prop := ∀ i, (i < n ∨ 10000 ≤ i) → ad' i = ad i
theorem mAg.rf {n : Nat} {ad : Nat → Nat} : mAg n ad ad := fun _ _ => rfl
theorem mAg.tr {n k : Nat} {ad ad' ad'' : Nat → Nat} (h1 : mAg n ad ad') (h2 : mAg k ad' ad'') (hk : n ≤ k) : mAg n ad ad'' := fun i hi => (h2 i (hi.elim (fun q => Or.inl (Nat.lt_of_lt_of_le q hk)) Or.inr)).trans (h1 i hi)
theorem mAg.up {n q : Nat} {ad : Nat → Nat} (hn : n < 10000) : mAg n ad (va_up ad n q) := fun i hi => by
  have : i ≠ n := by omega
  simp [va_up, this]
theorem mRl.le {n k : Nat} {v : Value} (h : mRl n v) (hk : n ≤ k) : mRl k v := by
  cases v <;> first | trivial | exact h.elim (fun q => Or.inl (Nat.lt_of_lt_of_le q hk)) Or.inr
theorem mEl.le {n k : Nat} {q : mE} (h : mEl n q) (hk : n ≤ k) : mEl k q := by
  obtain ⟨ty, m, f | f | f | f | f⟩ | ⟨ci, fs⟩ := q
  · trivial
  · trivial
  · trivial
  · trivial
  · exact fun j i hj => (h j i hj).elim (fun q => Or.inl (Nat.lt_of_lt_of_le q hk)) Or.inr
  · exact fun v hv => (h v hv).le hk
theorem mv_ag {n : Nat} {ad ad' : Nat → Nat} (hag : mAg n ad ad') {v : Value} (hv : mRl n v) : mv ad' v = mv ad v := by
  cases v <;> first | rfl | exact congrArg Value.ref (hag _ hv)
theorem me_ag {n : Nat} {ad ad' : Nat → Nat} {kA : FieldType → ClassId} (hag : mAg n ad ad') {q : mE} (hq : mEl n q) : me ad' kA q = me ad kA q := by
  obtain ⟨ty, m, f | f | f | f | f⟩ | ⟨ci, fs⟩ := q
  · rfl
  · rfl
  · rfl
  · rfl
  · have : mg ad' f = mg ad f := by
      funext k
      unfold mg
      cases hk : f k with
      | none => rfl
      | some i => exact congrArg some (hag i (hq k i hk))
    show Sum.inl (kA ty, (m, _)) = Sum.inl (kA ty, (m, _))
    rw [this]
  · show Sum.inr (ci, fs.map (mv ad')) = Sum.inr (ci, fs.map (mv ad))
    rw [List.map_congr_left (fun v hv => mv_ag hag (hq v hv))]
theorem mW_ag {ad ad' : Nat → Nat} {kA : FieldType → ClassId} {h : mH} (hag : mAg h.length ad ad') (hw : mWf h) : mW ad' kA h = mW ad kA h := by
  apply List.ext_getElem?
  intro j
  simp only [mW, List.getElem?_mapIdx]
  cases hj : h[j]? with
  | none => rfl
  | some q =>
    have hl : j < h.length := (List.getElem?_eq_some_iff.mp hj).1
    simp only [Option.map_some]
    rw [hag j (Or.inl hl), me_ag hag (hw q (List.mem_of_getElem? hj))]
theorem mW_app {ad : Nat → Nat} {kA : FieldType → ClassId} {h : mH} {q : mE} : mW ad kA (h ++ [q]) = mW ad kA h ++ [(ad h.length, me ad kA q)] := by
  simp [mW, List.mapIdx_append]
theorem ml_ag {n : Nat} {ad ad' : Nat → Nat} (hag : mAg n ad ad') {lv : List (Nat × Value)} (h : ∀ q ∈ lv, mRl n q.2) : ml ad' lv = ml ad lv := by
  unfold ml
  exact List.map_congr_left (fun q hq => by rw [mv_ag hag (h q hq)])
theorem ms_ag {n : Nat} {ad ad' : Nat → Nat} (hag : mAg n ad ad') {st : List Value} (h : ∀ v ∈ st, mRl n v) : st.map (mv ad') = st.map (mv ad) := List.map_congr_left (fun v hv => mv_ag hag (h v hv))
theorem mT_ag {n : Nat} {ad ad' : Nat → Nat} (hag : mAg n ad ad') {A : Nat → Prop} {U : State} {H : Heap} (h : mT ad A U H) : mT ad' A U H := by
  intro k q hq
  rw [hag (10000 + k) (Or.inr (Nat.le_add_right _ _))]
  exact h k q hq
theorem mO_ag {n : Nat} {ad ad' : Nat → Nat} (hag : mAg n ad ad') {X : mX} {own : String} {cc : ByteArray} {N : Nat} {Rm : Room} {ln : Launch} (O : mO X ad own cc N Rm ln) : mO X ad' own cc N Rm ln := by
  obtain ⟨p, l, e, R, s, m, args, below, meth, c, Q, A, D, kA, nL⟩ := X
  exact ⟨O.1, O.2.1, O.2.2.1, mT_ag hag O.2.2.2.1, O.2.2.2.2⟩
theorem mWf_app {h : mH} {q : mE} (hw : mWf h) (hq : mEl (h.length + 1) q) : mWf (h ++ [q]) := by
  intro z hz
  rw [List.length_append]
  rcases List.mem_append.mp hz with h1 | h1
  · exact (hw z h1).le (Nat.le_add_right _ _)
  · rw [List.mem_singleton.mp h1]; exact hq
theorem mWf_set {h : mH} {i : Nat} {q : mE} (hw : mWf h) (hq : mEl h.length q) : mWf (h.set i q) := by
  intro z hz
  rw [List.length_set]
  rcases List.mem_or_eq_of_mem_set hz with h1 | h1
  · exact hw z h1
  · rw [h1]; exact hq
def mRls (n : Nat) : List Value → Prop
  | [] => True
  | v :: vs => mRl n v ∧ mRls n vs
theorem mRls.all {n : Nat} : ∀ {vs : List Value}, mRls n vs → ∀ v ∈ vs, mRl n v
  | [], _, v, hv => by cases hv
  | a :: vs, h, v, hv => by
    rcases List.mem_cons.mp hv with e | e
    · rw [e]; exact h.1
    · exact mRls.all h.2 v e
/-- what a making asks of the cells, the locals and the stack -/
def mOkA (h0 h : mH) (vs ws : List Value) : Prop := mWf h ∧ h0.length ≤ h.length ∧ h.length < 10000 ∧ mRls h.length vs ∧ mRls h.length ws
theorem mOkA.lv {h0 h : mH} {lv : List (Nat × Value)} {ws : List Value} (hk : mOkA h0 h (lv.map Prod.snd) ws) : ∀ q ∈ lv, mRl h.length q.2 := fun q hq => hk.2.2.2.1.all q.2 (List.mem_map.mpr ⟨q, hq, rfl⟩)
def mNr (fs : List Value) : Bool := fs.all (fun v => match v with | .ref _ => false | _ => true)
theorem mNr_map {fs : List Value} (h : mNr fs = true) (ad : Nat → Nat) : fs.map (mv ad) = fs := by
  have h1 : ∀ v ∈ fs, mv ad v = id v := fun v hv => by
    have h2 := List.all_eq_true.mp h v hv
    cases v <;> first | rfl | (exact absurd h2 (by decide)) | (simp at h2)
  rw [List.map_congr_left h1, List.map_id]
def mRx (f mc ms c : Nat) : Room := { frames := f, cells := mc, slots := ms, locals := c }
def mPostx (A : Nat → Prop) (D : va_G) (kA : FieldType → ClassId) (ad : Nat → Nat) (n : Nat) (h : mH) : Array Value → State → Outcome → State → Prop := fun _ st oc t => oc = .returned none ∧ mWf h ∧ ∃ ad' : Nat → Nat, mAg n ad ad' ∧ va_P D classes (mW ad' kA h) t.heap ∧ va_D A (mW ad' kA h) ∧ va_F A st t
/-- THE CONTRACT of a constructor: mc cells of ms slots come -/
def mMetx (l : Launch) (y : MethodName) (bytes : ByteArray) (maxL : Nat) (rm : Room) (As : List Value) (h h' : mH) (mc ms : Nat) : Prop := ∀ (D : va_G) (kA : FieldType → ClassId) (ad : Nat → Nat) (sz : Nat), Met l y (Cond.code y bytes maxL none :: mGood) rm (mPre D kA ad As h sz) (mPostx (va_A (mW ad kA h) sz) D kA ad h.length h') mc ms (va_A (mW ad kA h) sz)
def mEndx (X : mX) (ad : Nat → Nat) (n : Nat) (h : mH) (mc ms : Nat) : Prop := match X with
  | (_, _, _, _, s, _, args, below, meth, _, Q, A, D, kA, _) => Q = MQ below (mPostx A D kA ad n h) args s mc ms A ∧ meth.sig.returnType = none ∧ meth.name = "<init>"
theorem mMetx_of {ln : Launch} {y : MethodName} {bytes : ByteArray} {maxL : Nat} {rm : Room} {As : List Value} {h h' : mH} {mc ms : Nat} (hy : plainName y.cls = true) (hyn : y.name = "<init>") (hlen : (lg_sl As).length ≤ maxL)
    (body : ∀ (X : mX) (ad : Nat → Nat), mO X ad y.cls bytes maxL rm ln → mEndx X ad h.length h' mc ms → mAW X ad 0 0 0 (lv_args 0 As) [] h) : mMetx ln y bytes maxL rm As h h' mc ms := by
  intro D kA ad sz
  refine Met.ofW (cc := bytes) (maxL := maxL) (ret := none) hy rfl ?_
  intro p e s m args below meth c s₁ B hml hv
  obtain ⟨hargs, hsz, hP, hK, hT, hD0⟩ := hv
  subst hsz
  subst hargs
  have hD := hD0.self (sz := s.heap.size)
  have hts := atoms_spec (ws := Cond.code y bytes maxL none :: mGood) B.pre
  have hown : s.vm.findClass y.cls = some m.cls := findClass_of_methodNamed B.named
  have hl := lv_entry (As.map (mv ad)) (n := maxL) (by rw [lg_len]; exact hlen)
  have hb := body (p, ln, e, rm, s, m, (As.map (mv ad)).toArray, below, meth, c, MQ below (mPostx (va_A (mW ad kA h) s.heap.size) D kA ad h.length h') (As.map (mv ad)).toArray s mc ms (va_A (mW ad kA h) s.heap.size), va_A (mW ad kA h) s.heap.size, D, kA, maxL) ad ⟨⟨B.exec, B.bytes, hml, hown, B.notSynchronized, rfl, rfl, rfl⟩, fun w hw => hts w (List.mem_cons_of_mem _ hw), hK, hT, fun q hq => Or.inr hq⟩ ⟨rfl, B.returns, (name_of_methodNamed B.named B.method).1.trans hyn⟩
  rw [lg_entry_eq]
  exact hb s.heap [] _ hP hD va_S.rf (by rw [ml_args]; exact hl)
def mNc (own : String) (ix ci : Nat) (fs : List Value) : Prop := ∃ (C : String) (T : u_T) (ty0 : Nat → FieldType), classes[ci]? = some (C, T, fs.length) ∧ (∀ w ∈ u_ws C T fs.length, w ∈ mGood) ∧ (∀ k, k < fs.length → parseFieldDescriptor (T k).2.2.1 = some (ty0 k)) ∧ Cond.classLink own ix C ∈ mGood ∧ Cond.instantiable C fs.length ∈ mGood ∧ Cond.initialized C ∈ mGood ∧ (∀ j, j < fs.length → defaultValue (ty0 j) = vp_V fs j) ∧ mNr fs = true
def mFq (own : String) (ix ci kf : Nat) (ty : FieldType) : Prop := ∃ (C : String) (T : u_T) (Nf : Nat) (ty0 : Nat → FieldType), classes[ci]? = some (C, T, Nf) ∧ kf < Nf ∧ (∀ w ∈ u_ws C T Nf, w ∈ mGood) ∧ Cond.fieldLink own ix (T kf).1 (T kf).2.1 (T kf).2.2.1 ∈ mGood ∧ (∀ k, k < Nf → parseFieldDescriptor (T k).2.2.1 = some (ty0 k)) ∧ (∀ a, a < Nf → ∀ b, b < Nf → a ≠ b → (T a).2.1 ≠ (T b).2.1) ∧ (T kf).2.2.2 = true ∧ ty0 kf = ty ∧ (T kf).1 = own
theorem mRA_inj {s : State} {c1 c2 : ClassId} {ty : FieldType} (h1 : va_RA s c1 ty) (h2 : va_RA s c2 ty) : c1 = c2 := by
  cases ty with
  | object C =>
    obtain ⟨_, _, _, _, _, e1⟩ := h1
    obtain ⟨_, _, _, _, _, e2⟩ := h2
    exact Option.some.inj (e1.symm.trans e2)
  | _ => exact Option.some.inj (Eq.trans (Eq.symm h1) h2)
section mMake
variable {X : mX} {ad ad0 : Nat → Nat} {own : String} {cc : ByteArray} {N cs ss pc : Nat} {lv lv' : List (Nat × Value)} {st : List Value} {h h' h0 : mH} {Rm : Room} {ln : Launch} {ix : Nat}
theorem ax_new (O : mO X ad own cc N Rm ln) {r ci : Nat} {fs : List Value} (hC : mNc own ix ci fs) (hok : mOkA h0 h (lv.map Prod.snd) st) (er : r = h.length) (eh : h' = h ++ [.inr (ci, fs)]) (hrm : cs + 1 ≤ Rm.cells ∧ ss + fs.length ≤ Rm.slots) (d : decode cc pc = .ok (.new ix, 3)) (k : ∀ ad', mAg h.length ad ad' → mAW X ad' (cs + 1) (ss + fs.length) (pc + 3) lv (.ref r :: st) h') : mAW X ad cs ss pc lv st h := by
  obtain ⟨p, l, e, R, s, m, args, below, meth, c, Q, A, D, kA, nL⟩ := X
  obtain ⟨⟨hx, hb, hml, hown, hlk0, rfl, rfl, rfl⟩, hts, hK, hT, hA⟩ := O
  obtain ⟨C, T, ty0, hc, hin, hty, w1, w2, w3, hfs, hnr⟩ := hC
  subst er
  subst eh
  intro H locs ls hP hD hS hl
  refine va_new (ci := ci) (fs := fs) hx hb hts hin ty0 hty hown (hts _ w1) (hts _ w2) (hts _ w3) (mK0 hK) hP hD hS hA hc hfs hrm.1 hrm.2 d (fun q H1 hP1 hD1 hS1 => ?_)
  have hag : mAg h.length ad (va_up ad h.length q) := mAg.up hok.2.2.1
  have e1 : mW (va_up ad h.length q) kA (h ++ [.inr (ci, fs)]) = mW ad kA h ++ [(q, .inr (ci, fs))] := by
    rw [mW_app, mW_ag hag hok.1, va_up_self]
    show _ ++ [(q, Sum.inr (ci, fs.map (mv _)))] = _
    rw [mNr_map hnr]
  have hk := k _ hag H1 locs ls (by rw [e1]; exact hP1) (by rw [e1]; exact hD1) hS1 (by rw [ml_ag hag hok.lv]; exact hl)
  have e2 : (Value.ref h.length :: st).map (mv (va_up ad h.length q)) = .ref q :: st.map (mv ad) := by
    rw [List.map_cons, ms_ag hag hok.2.2.2.2.all]
    show Value.ref (va_up ad h.length q h.length) :: _ = _
    rw [va_up_self]
  rw [e2] at hk
  exact hk
theorem ax_newa (O : mO X ad own cc N Rm ln) {ty : FieldType} {atype : ArrayType} (hat : newarray.typeOf atype = ty) (hdf : defaultValue ty = .int 0) (hmt : ty ∈ mTys) (harr : Cond.arrayClass ty ∈ mGood) {n : Int32} {r : Nat} (hn : ¬ n < 0) (hby : n.toNatClampNeg * componentBytes ty ≤ 536870912) (hok : mOkA h0 h (lv.map Prod.snd) st) (er : r = h.length) (eh : h' = h ++ [.inl (ty, (n.toNatClampNeg, .inl (fun _ => 0)))]) (hrm : cs + 1 ≤ Rm.cells ∧ ss + n.toNatClampNeg ≤ Rm.slots) (d : decode cc pc = .ok (.newarray atype, 2)) (k : ∀ ad', mAg h.length ad ad' → mAW X ad' (cs + 1) (ss + n.toNatClampNeg) (pc + 2) lv (.ref r :: st) h') : mAW X ad cs ss pc lv (.int n :: st) h := by
  obtain ⟨p, l, e, R, s, m, args, below, meth, c, Q, A, D, kA, nL⟩ := X
  obtain ⟨⟨hx, hb, hml, hown, hlk0, rfl, rfl, rfl⟩, hts, hK, hT, hA⟩ := O
  subst er
  subst eh
  intro H locs ls hP hD hS hl
  refine va_newa (a0 := (n.toNatClampNeg, .inl (fun _ => 0))) hx hb (by rw [hat]; exact hts _ harr) hat (mK0 hK) hP hD hS hA (fun cA => by rw [hdf]; rfl) hn rfl hby hrm.1 hrm.2 d (fun q cA H1 hK1 hP1 hD1 hS1 => ?_)
  have hcA : cA = kA ty := mRA_inj (hK1.2 0 (cA, ty) rfl).2 (hK.2.1 ty hmt).2
  subst hcA
  have hag : mAg h.length ad (va_up ad h.length q) := mAg.up hok.2.2.1
  have e1 : mW (va_up ad h.length q) kA (h ++ [.inl (ty, (n.toNatClampNeg, .inl (fun _ => 0)))]) = mW ad kA h ++ [(q, .inl (kA ty, (n.toNatClampNeg, .inl (fun _ => 0))))] := by
    rw [mW_app, mW_ag hag hok.1, va_up_self]
    rfl
  have hk := k _ hag H1 locs ls (by rw [e1]; exact hP1) (by rw [e1]; exact hD1) hS1 (by rw [ml_ag hag hok.lv]; exact hl)
  have e2 : (Value.ref h.length :: st).map (mv (va_up ad h.length q)) = .ref q :: st.map (mv ad) := by
    rw [List.map_cons, ms_ag hag hok.2.2.2.2.all]
    show Value.ref (va_up ad h.length q h.length) :: _ = _
    rw [va_up_self]
  rw [e2] at hk
  exact hk
theorem ax_newq (O : mO X ad own cc N Rm ln) {C : String} (hmt : .object C ∈ mTys) (hcl : Cond.classLink own ix C ∈ mGood) (hov : Cond.arrayOver (.object C) ∈ mNest) {n : Int32} {r : Nat} (hn : ¬ n < 0) (hby : n.toNatClampNeg * 4 ≤ 536870912) (hok : mOkA h0 h (lv.map Prod.snd) st) (er : r = h.length) (eh : h' = h ++ [.inl (.object C, (n.toNatClampNeg, .inr (.inr (.inr (.inr (fun _ => none))))))]) (hrm : cs + 1 ≤ Rm.cells ∧ ss + n.toNatClampNeg ≤ Rm.slots) (d : decode cc pc = .ok (.anewarray ix, 3)) (k : ∀ ad', mAg h.length ad ad' → mAW X ad' (cs + 1) (ss + n.toNatClampNeg) (pc + 3) lv (.ref r :: st) h') : mAW X ad cs ss pc lv (.int n :: st) h := by
  obtain ⟨p, l, e, R, s, m, args, below, meth, c, Q, A, D, kA, nL⟩ := X
  obtain ⟨⟨hx, hb, hml, hown, hlk0, rfl, rfl, rfl⟩, hts, hK, hT, hA⟩ := O
  subst er
  subst eh
  intro H locs ls hP hD hS hl
  refine va_newq hx hb hown (hts _ hcl) (hK.2.2 _ hov) (mK0 hK) hP hD hS hA hn rfl hby hrm.1 hrm.2 d (fun q cA H1 hK1 hP1 hD1 hS1 => ?_)
  have hcA : cA = kA (.object C) := mRA_inj (hK1.2 0 (cA, .object C) rfl).2 (hK.2.1 _ hmt).2
  subst hcA
  have hag : mAg h.length ad (va_up ad h.length q) := mAg.up hok.2.2.1
  have e1 : mW (va_up ad h.length q) kA (h ++ [.inl (.object C, (n.toNatClampNeg, .inr (.inr (.inr (.inr (fun _ => none))))))]) = mW ad kA h ++ [(q, .inl (kA (.object C), (n.toNatClampNeg, .inr (.inr (.inr (.inr (fun _ => none)))))))] := by
    rw [mW_app, mW_ag hag hok.1, va_up_self]
    rfl
  have hk := k _ hag H1 locs ls (by rw [e1]; exact hP1) (by rw [e1]; exact hD1) hS1 (by rw [ml_ag hag hok.lv]; exact hl)
  have e2 : (Value.ref h.length :: st).map (mv (va_up ad h.length q)) = .ref q :: st.map (mv ad) := by
    rw [List.map_cons, ms_ag hag hok.2.2.2.2.all]
    show Value.ref (va_up ad h.length q h.length) :: _ = _
    rw [va_up_self]
  rw [e2] at hk
  exact hk
theorem ax_putF (O : mO X ad own cc N Rm ln) {n mc ms : Nat} {hx' : mH} (hE : mEndx X ad0 n hx' mc ms) {ci kf i : Nat} {ty : FieldType} (hF : mFq own ix ci kf ty) {fs : List Value} {v : Value} (hi : h[i]? = some (.inr (ci, fs))) (hlen : kf < fs.length) (he : h' = h.set i (.inr (ci, fs.set kf v))) (hn : narrow ty (mv ad v) = mv ad v) (hfit : fits ty (mv ad v) = true) (d : decode cc pc = .ok (.putfield ix, 3)) (k : mAW X ad cs ss (pc + 3) lv st h') : mAW X ad cs ss pc lv (v :: .ref i :: st) h := by
  obtain ⟨p, l, e, R, s, m, args, below, meth, c, Q, A, D, kA, nL⟩ := X
  obtain ⟨C, T, Nf, ty0, hc, hk, hin, hw, hty, hnm, hfin, hty0, hown2⟩ := hF
  intro H locs ls hP hD hS hl
  have hK : va_K D classes [] s := mK0 O.2.2.1
  have hl' : kf < (fs.map (mv ad)).length := by simpa using hlen
  have hd : parseFieldDescriptor (T kf).2.2.1 = some ty := by rw [hty kf hk, hty0]
  have he' : (mW ad kA h).set i (ad i, .inr (ci, (fs.map (mv ad)).set kf (mv ad v))) = mW ad kA h' := mW_put he
  exact va_putF (v := mv ad v) O.1.1 O.1.2.1 O.2.1 hin ty0 hty hnm O.1.2.2.2.1 hK hP hD hS i (mW_get hi) hc kf hk (O.2.1 _ hw) (fun _ h => h) hfin hE.2.2 hown2 hd hn hfit hl' d (fun H1 locs1 hP1 hD1 hS1 => k H1 locs1 ls (he' ▸ hP1) (he' ▸ hD1) hS1 hl)
theorem ax_oinit (O : mO X ad own cc N Rm ln) (hw : Cond.methodLink own ix Lib.objectInit ∈ mGood) (hfr : 1 ≤ Rm.frames) (hlo : (st.map fun v => v.category).sum + 12 ≤ Rm.locals) {a : Nat} (d : decode cc pc = .ok (.invokespecial ix, 3)) (k : mAW X ad cs ss (pc + 3) lv st h) : mAW X ad cs ss pc lv (.ref a :: st) h := by
  obtain ⟨p, l, e, R, s, m, args, below, meth, c, Q, A, D, kA, nL⟩ := X
  obtain ⟨⟨hx, hb, hml, hown, hlk0, rfl, rfl, rfl⟩, hts, hK, hT, hA⟩ := O
  exact fun H locs ls hP hD hS hl => W.objInit hx hb hown (hts _ hw) (hts _ wobj_1) (hts _ wobj_2) rfl (hl.1.trans hml.symm) rfl d hfr (by show 2 * 0 + _ + 12 ≤ _; rw [mcats]; omega) (k H locs ls hP hD hS hl)
theorem ax_vretx (O : mO X ad own cc N Rm ln) {n mc ms : Nat} {r : Unit} (hE : mEndx X ad0 n h' mc ms) (hag : mAg n ad0 ad) (hw : mWf h) (hcs : cs ≤ mc ∧ ss ≤ ms) (hf : some ((), h) = some (r, h')) (d : decode cc pc = .ok (.return_, 1)) : mAW X ad cs ss pc lv [] h := by
  cases hf
  obtain ⟨p, l, e, R, s, m, args, below, meth, c, Q, A, D, kA, nL⟩ := X
  obtain ⟨hQ, hr, -⟩ := hE
  subst hQ
  exact fun H locs ls hP hD hS hl => W.widen hcs.1 hcs.2 (W.vret O.1.1 O.1.2.1 hr (fun t ht hW => ⟨rfl, hw, ad, hag, by rw [ht]; exact hP, hD, hS.F ht⟩) hS.2.2 d O.1.2.2.2.2.1)
theorem ax_aast (O : mO X ad own cc N Rm ln) {a nn rr ci : Nat} {q : vw_C} {f : Nat → Option Nat} {fs : List Value} {j : Int32} (hcl : classes[ci]? = some q) (hty : .object q.1 ∈ mTys) (hi : h[a]? = some (.inl (.object q.1, (nn, .inr (.inr (.inr (.inr f))))))) (hv : h[rr]? = some (.inr (ci, fs))) (hin : vp_in j nn) (he : h' = h.set a (.inl (.object q.1, (nn, .inr (.inr (.inr (.inr (va_up f j.toNatClampNeg (some rr)))))))) ) (d : decode cc pc = .ok (.aastore, 1)) (k : mAW X ad cs ss (pc + 1) lv st h') : mAW X ad cs ss pc lv (.ref rr :: .int j :: .ref a :: st) h := by
  obtain ⟨p, l, e, R, s, m, args, below, meth, c, Q, A, D, kA, nL⟩ := X
  have hm : mg ad (va_up f j.toNatClampNeg (some rr)) = va_up (mg ad f) j.toNatClampNeg (some (ad rr)) := by
    funext z
    unfold mg va_up
    by_cases hz : z = j.toNatClampNeg
    · simp [hz]
    · simp [hz]
  have he' : (mW ad kA h).set a (ad a, .inl (kA (.object q.1), (nn, .inr (.inr (.inr (.inr (va_up (mg ad f) j.toNatClampNeg (some (ad rr))))))))) = mW ad kA h' := by rw [he, ← mW_set, ← hm]; rfl
  exact fun H locs ls hP hD hS hl => va_astq O.1.1 O.1.2.1 (mKt O.2.2.1 hty) hP hD hS a 0 rr ci (mW_get hi) rfl (mW_get hv) hcl hin d (fun H1 locs1 hP1 hD1 hS1 => k H1 locs1 ls (he' ▸ hP1) (he' ▸ hD1) hS1 hl)
end mMake
section mCallI
variable {X : mX} {ad : Nat → Nat} {own : String} {cc : ByteArray} {N cs ss pc : Nat} {lv : List (Nat × Value)} {h h' h0 : mH} {Rm rm : Room} {ln : Launch} {ix n maxL mc ms b : Nat} {y : MethodName} {bytes : ByteArray} {As rest : List Value}
theorem mAfterx {p : Program} {l : Launch} {e : Env} {R : Room} {s : State} {m : MethodId} {args : Array Value} {below : List Frame} {meth : Method} {c : Code} {Q : State → Prop} {A : Nat → Prop} {D : va_G} {kA : FieldType → ClassId} {nL : Nat} {H : Heap} {locs : List Loc} {ls : Array Slot} {st0 : List Value} {a : Array Value}
    (run : va_Run p l e R s m args below meth c H locs cs ss mc ms (F0 m pc ls st0) (rest.map (mv ad)) (mPostx (va_A (mW ad kA h) H.size) D kA ad h.length h' a) (va_A (mW ad kA h) H.size)) (hF : ∀ q, va_A (mW ad kA h) H.size q → A q) (hS : va_S A s.heap H locs) (hl : lv_has ls nL (ml ad lv)) (hok : mOkA h0 h (lv.map Prod.snd) rest)
    (k : ∀ ad', mAg h.length ad ad' → mAW (p, l, e, R, s, m, args, below, meth, c, Q, A, D, kA, nL) ad' (cs + mc) (ss + ms) (pc + 3) lv rest h') : W p l e R s m args below meth c H locs cs ss Q (F0 m pc ls st0) := by
  intro T hT Xs
  obtain ⟨v', st₀, t, T', L, hh0, X', hL, e1, e2, ⟨hv, hwf, ad', hag, hP', hD', hz, hk⟩, st⟩ := run T hT Xs
  have hv' : v' = none := by injection hv
  subst hv'
  rw [hh0] at hz hk
  have hS' : va_S A s.heap T'.heap (locs ++ L) := ⟨Nat.le_trans hS.1 (by rw [e1]; exact hz), fun q h1 h2 => by rw [e1, hk q (Nat.lt_of_lt_of_le h1 hS.1) (fun z => h2 (hF q z))]; exact hS.2.1 q h1 h2, fun q hq => by
      rcases List.mem_append.mp hq with h | h
      · exact hS.2.2 q h
      · exact hF _ (hL q h)⟩
  obtain ⟨t2, a1, b1⟩ := k ad' hag T'.heap (locs ++ L) ls (by rw [e1]; exact hP') (hD'.weaken (fun _ _ _ hq => hF _ hq)) hS' (by rw [ml_ag hag hok.lv]; exact hl) T' rfl X'
  refine ⟨t2, st t2 ?_, b1⟩
  rw [ms_ag hag hok.2.2.2.2.all] at a1
  exact a1
theorem ax_callI (O : mO X ad own cc N Rm ln) (hC : mCw y bytes maxL none n) (hin : Cond.instanceMethod y ∈ mGood) (hyn : y.name = "<init>") (hlk : mLk own ix y) (hM : mMetx ln y bytes maxL rm (.ref b :: As) h h' mc ms) (hn : As.length = n) (hrm : rm.cells = mc ∧ rm.slots = ms) (hR : rm.frames + 1 ≤ Rm.frames ∧ 8 + (maxL + 11) + rm.locals ≤ Rm.locals) (hcs : cs + mc ≤ Rm.cells ∧ ss + ms ≤ Rm.slots) (hok : mOkA h0 h (lv.map Prod.snd) rest) (hrs : (rest.map fun v => v.category).sum ≤ 8) (d : decode cc pc = .ok (.invokespecial ix, 3)) (k : ∀ ad', mAg h.length ad ad' → mAW X ad' (cs + mc) (ss + ms) (pc + 3) lv rest h') : mAW X ad cs ss pc lv (As.reverse ++ .ref b :: rest) h := by
  obtain ⟨p, l, e, R, s, m, args, below, meth, c, Q, A, D, kA, nL⟩ := X
  obtain ⟨⟨hx, hb, hml, hown, hlk0, rfl, rfl, rfl⟩, hts, hK, hT, hA⟩ := O
  intro H locs ls hP hD hS hl
  obtain ⟨hc1, hc2, hc3, hc4⟩ := hC
  have hF := mFree hD hS hA
  have hstk : (As.reverse ++ .ref b :: rest).map (mv ad) = (As.map (mv ad)).reverse ++ .ref (ad b) :: rest.map (mv ad) := by simp [mv]
  have hcat : ((rest.map (mv ad)).map fun v => v.category).sum ≤ 8 := by rw [mcats]; exact hrs
  rw [hstk]
  rcases hlk with hlk | ⟨host, hlk⟩
  · exact mAfterx (va_runI (As := As.map (mv ad)) (rest := rest.map (mv ad)) ⟨hx, hb, hml, hown, hts⟩ (hM D kA ad H.size) ⟨callB_of n hts (mGoodIn y bytes maxL none hc1) rfl hrm.1 hrm.2 (hts _ hc2) (hts _ hlk) ⟨hc3.1, hc3.2, hc4⟩ hR, hyn, hts _ hin⟩ ⟨mPre_blind, fun U hU hW => mPreAt (As := .ref b :: As) hK hT hA hP hD hS U hU hW⟩ rfl (by rw [List.length_map]; exact hn) hl.1 rfl (lv_room hcat) d ⟨hcs.1, hcs.2⟩) hF hS hl hok k
  · exact mAfterx (va_runIN (As := As.map (mv ad)) (rest := rest.map (mv ad)) ⟨hx, hb, hml, hown, hts⟩ (hM D kA ad H.size) ⟨va_cnB n hts (mGoodIn y bytes maxL none hc1) rfl hrm.1 hrm.2 (hK.2.2 _ hlk) (hts _ hc2) ⟨hc3.1, hc3.2, hc4⟩ hR, hyn, hts _ hin⟩ ⟨mPre_blind, fun U hU hW => mPreAt (As := .ref b :: As) hK hT hA hP hD hS U hU hW⟩ rfl (by rw [List.length_map]; exact hn) hl.1 rfl (lv_room hcat) d ⟨hcs.1, hcs.2⟩) hF hS hl hok k
end mCallI
section mCallA
variable {X : mX} {ad : Nat → Nat} {own : String} {cc : ByteArray} {N cs ss pc : Nat} {lv : List (Nat × Value)} {h h' : mH} {Rm rm : Room} {ln : Launch} {ix n maxL : Nat} {x y : MethodName} {bytes : ByteArray} {ret : Option FieldType} {As rest : List Value} {v : Option Value}
/-- a call whose named method x is abstract: y is run -/
theorem ax_callA (O : mO X ad own cc N Rm ln) (hC : mCw y bytes maxL ret n) {ci b : Nat} {q : vw_C} {fs : List Value} (hcl : classes[ci]? = some q) (hin : Cond.instanceMethod y ∈ mGood) (hse : Cond.selects q.1 x y ∈ mGood) (hsm : Cond.sameMethod x.cls x.cls x.name x.desc ∈ mGood) (hlk : Cond.methodLink own ix x ∈ mGood) (hdc : Cond.declares x ∈ mNest) (hxd : x.cls ≠ "java/lang/invoke/MethodHandle" ∧ x.cls ≠ "java/lang/invoke/VarHandle" ∧ (parseMethodDescriptor x.desc).map (fun d => d.parameters.length) = some n) (hb' : h[b]? = some (.inr (ci, fs))) (hM : mMet ln y bytes maxL ret rm (.ref b :: As) h v h') (hn : As.length = n) (hrm : rm.cells = 0 ∧ rm.slots = 0) (hR : rm.frames + 1 ≤ Rm.frames ∧ 8 + (maxL + 11) + rm.locals ≤ Rm.locals) (hcs : cs ≤ Rm.cells ∧ ss ≤ Rm.slots) (hrs : (rest.map fun v => v.category).sum ≤ 8) (d : decode cc pc = .ok (.invokevirtual ix, 3)) (k : mAW X ad cs ss (pc + 3) lv (v.toList ++ rest) h') : mAW X ad cs ss pc lv (As.reverse ++ .ref b :: rest) h := by
  obtain ⟨p, l, e, R, s, m, args, below, meth, c, Q, A, D, kA, nL⟩ := X
  obtain ⟨⟨hx, hb, hml, hown, hlk0, rfl, rfl, rfl⟩, hts, hK, hT, hA⟩ := O
  intro H locs ls hP hD hS hl
  obtain ⟨hc1, hc2, hc3, hc4⟩ := hC
  have hF := mFree hD hS hA
  have hstk : (As.reverse ++ .ref b :: rest).map (mv ad) = (As.map (mv ad)).reverse ++ .ref (ad b) :: rest.map (mv ad) := by simp [mv]
  have hcat : ((rest.map (mv ad)).map fun v => v.category).sum ≤ 8 := by rw [mcats]; exact hrs
  rw [hstk]
  have hrecv := va_recv (mK0 hK) hP hcl (mW_get hb')
  have hlen : ∀ sig, parseMethodDescriptor x.desc = some sig → n = sig.parameters.length := by
    intro sig hs
    have h2 := hxd.2.2
    rw [hs] at h2
    exact (Option.some.inj h2).symm
  exact mAfter (va_runU (C := q.1) (owner := x.cls) (x := x) (bytes := bytes) (maxL := maxL) (ret := ret) (As := As.map (mv ad)) (rest := rest.map (mv ad)) ⟨hx, hb, hml, hown, hts⟩ (hM D kA ad H.size) ⟨⟨hrm.1, hrm.2, hR.1, hR.2, pay_in hts (mGoodIn y bytes maxL ret hc1), List.mem_cons_self⟩, hts _ hc1, hts _ hc2, ⟨hxd.1, hxd.2.1⟩, hlen, hts _ hlk, hts _ hsm, va_Decl.abs (hK.2.2 _ hdc), hts _ hse, hts _ hin⟩ ⟨mPre_blind, hrecv, fun U hU hW => mPreAt (As := .ref b :: As) hK hT hA hP hD hS U hU hW⟩ rfl (by rw [List.length_map]; exact hn) hl.1 rfl (lv_room hcat) d ⟨hcs.1, hcs.2⟩) hF hS hl k
end mCallA
def mic (h : mH) (i ci : Nat) : Bool := match h[i]? with
  | some (.inr (c, _)) => c == ci
  | _ => false
theorem mic_some {h : mH} {i ci : Nat} (hh : mic h i ci = true) : ∃ fs : List Value, h[i]? = some (.inr (ci, fs)) := by
  unfold mic at hh
  split at hh
  · rename_i c fs e
    have hc : c = ci := by simpa using hh
    subst hc
    exact ⟨fs, e⟩
  · cases hh
end
