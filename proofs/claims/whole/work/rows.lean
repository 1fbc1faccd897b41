section
-- ===== PART A: goes FIRST, ahead of the names: the tables' words, and 'selects' of the private methods out of them =====
/-- a private method of a class that the tables say can be made, by its rows of tables_1 -/
def lw_okq (q : MethodName × Nat) : Prop := (q.1.cls ≠ "java/lang/invoke/MethodHandle" ∧ q.1.cls ≠ "java/lang/invoke/VarHandle") ∧ Cond.instantiable q.1.cls q.2 ∈ tables_1 ∧ Cond.privateMethod q.1 ∈ tables_1 ∧ Cond.instanceMethod q.1 ∈ tables_1
theorem lw_p0 : lw_okq (⟨"StreamFilters$Codes", "count", "([III)V"⟩, 5) := ⟨⟨by decide +kernel, by decide +kernel⟩, List.mem_of_getElem? (i := 100) (by decide +kernel), List.mem_of_getElem? (i := 130) (by decide +kernel), List.mem_of_getElem? (i := 131) (by decide +kernel)⟩
theorem lw_p1 : lw_okq (⟨"StreamFilters", "noteFault", "(III)V"⟩, 17) := ⟨⟨by decide +kernel, by decide +kernel⟩, List.mem_of_getElem? (i := 22) (by decide +kernel), List.mem_of_getElem? (i := 303) (by decide +kernel), List.mem_of_getElem? (i := 304) (by decide +kernel)⟩
theorem lw_p2 : lw_okq (⟨"StreamFilters", "unpackerOf", "(I)LStreamFilters$Unpacker;"⟩, 17) := ⟨⟨by decide +kernel, by decide +kernel⟩, List.mem_of_getElem? (i := 22) (by decide +kernel), List.mem_of_getElem? (i := 321) (by decide +kernel), List.mem_of_getElem? (i := 322) (by decide +kernel)⟩
theorem lw_p3 : lw_okq (⟨"StreamFilters$Flate", "readCodes", "(LStreamFilters$Pass;)Z"⟩, 6) := ⟨⟨by decide +kernel, by decide +kernel⟩, List.mem_of_getElem? (i := 91) (by decide +kernel), List.mem_of_getElem? (i := 401) (by decide +kernel), List.mem_of_getElem? (i := 402) (by decide +kernel)⟩
theorem lw_p4 : lw_okq (⟨"StreamFilters$Flate", "readLengthCodes", "(LStreamFilters$Pass;I)Z"⟩, 6) := ⟨⟨by decide +kernel, by decide +kernel⟩, List.mem_of_getElem? (i := 91) (by decide +kernel), List.mem_of_getElem? (i := 405) (by decide +kernel), List.mem_of_getElem? (i := 406) (by decide +kernel)⟩
theorem lw_p5 : lw_okq (⟨"StreamFilters$Flate", "readLengths", "(LStreamFilters$Pass;I)Z"⟩, 6) := ⟨⟨by decide +kernel, by decide +kernel⟩, List.mem_of_getElem? (i := 91) (by decide +kernel), List.mem_of_getElem? (i := 414) (by decide +kernel), List.mem_of_getElem? (i := 415) (by decide +kernel)⟩
theorem lw_p6 : lw_okq (⟨"StreamFilters$Lzw", "clear", "()V"⟩, 5) := ⟨⟨by decide +kernel, by decide +kernel⟩, List.mem_of_getElem? (i := 156) (by decide +kernel), List.mem_of_getElem? (i := 468) (by decide +kernel), List.mem_of_getElem? (i := 469) (by decide +kernel)⟩
theorem lw_p7 : lw_okq (⟨"StreamFilters$Lzw", "giveString", "(LStreamFilters$Pass;I)Z"⟩, 5) := ⟨⟨by decide +kernel, by decide +kernel⟩, List.mem_of_getElem? (i := 156) (by decide +kernel), List.mem_of_getElem? (i := 480) (by decide +kernel), List.mem_of_getElem? (i := 481) (by decide +kernel)⟩
theorem lw_p8 : lw_okq (⟨"StreamFilters$Lzw", "sizeOf", "(I)I"⟩, 5) := ⟨⟨by decide +kernel, by decide +kernel⟩, List.mem_of_getElem? (i := 156) (by decide +kernel), List.mem_of_getElem? (i := 484) (by decide +kernel), List.mem_of_getElem? (i := 485) (by decide +kernel)⟩
theorem lw_p9 : lw_okq (⟨"StreamFilters$Lzw", "startOf", "(I)I"⟩, 5) := ⟨⟨by decide +kernel, by decide +kernel⟩, List.mem_of_getElem? (i := 156) (by decide +kernel), List.mem_of_getElem? (i := 490) (by decide +kernel), List.mem_of_getElem? (i := 491) (by decide +kernel)⟩
theorem lw_p10 : lw_okq (⟨"StreamFilters$Lzw", "makeString", "()V"⟩, 5) := ⟨⟨by decide +kernel, by decide +kernel⟩, List.mem_of_getElem? (i := 156) (by decide +kernel), List.mem_of_getElem? (i := 495) (by decide +kernel), List.mem_of_getElem? (i := 496) (by decide +kernel)⟩
theorem lw_p11 : lw_okq (⟨"StreamFilters$Text85", "finish", "(LStreamFilters$Pass;)V"⟩, 2) := ⟨⟨by decide +kernel, by decide +kernel⟩, List.mem_of_getElem? (i := 178) (by decide +kernel), List.mem_of_getElem? (i := 504) (by decide +kernel), List.mem_of_getElem? (i := 505) (by decide +kernel)⟩
theorem lw_p12 : lw_okq (⟨"StreamFilters$Text85", "addDigit", "(I)V"⟩, 2) := ⟨⟨by decide +kernel, by decide +kernel⟩, List.mem_of_getElem? (i := 178) (by decide +kernel), List.mem_of_getElem? (i := 510) (by decide +kernel), List.mem_of_getElem? (i := 511) (by decide +kernel)⟩
theorem lw_p13 : lw_okq (⟨"StreamFilters$Text85", "giveNumber", "(LStreamFilters$Pass;I)Z"⟩, 2) := ⟨⟨by decide +kernel, by decide +kernel⟩, List.mem_of_getElem? (i := 178) (by decide +kernel), List.mem_of_getElem? (i := 515) (by decide +kernel), List.mem_of_getElem? (i := 516) (by decide +kernel)⟩
theorem lw_p14 : lw_okq (⟨"StreamFilters$Link", "undoNumbers", "(LStreamFilters$Bytes;)V"⟩, 6) := ⟨⟨by decide +kernel, by decide +kernel⟩, List.mem_of_getElem? (i := 204) (by decide +kernel), List.mem_of_getElem? (i := 526) (by decide +kernel), List.mem_of_getElem? (i := 527) (by decide +kernel)⟩
theorem lw_p15 : lw_okq (⟨"StreamFilters$Link", "rowSize", "()I"⟩, 6) := ⟨⟨by decide +kernel, by decide +kernel⟩, List.mem_of_getElem? (i := 204) (by decide +kernel), List.mem_of_getElem? (i := 530) (by decide +kernel), List.mem_of_getElem? (i := 531) (by decide +kernel)⟩
def lw_privs_1 : List (MethodName × Nat) := [(⟨"StreamFilters$Codes", "count", "([III)V"⟩, 5), (⟨"StreamFilters", "noteFault", "(III)V"⟩, 17), (⟨"StreamFilters", "unpackerOf", "(I)LStreamFilters$Unpacker;"⟩, 17), (⟨"StreamFilters$Flate", "readCodes", "(LStreamFilters$Pass;)Z"⟩, 6), (⟨"StreamFilters$Flate", "readLengthCodes", "(LStreamFilters$Pass;I)Z"⟩, 6), (⟨"StreamFilters$Flate", "readLengths", "(LStreamFilters$Pass;I)Z"⟩, 6), (⟨"StreamFilters$Lzw", "clear", "()V"⟩, 5), (⟨"StreamFilters$Lzw", "giveString", "(LStreamFilters$Pass;I)Z"⟩, 5), (⟨"StreamFilters$Lzw", "sizeOf", "(I)I"⟩, 5), (⟨"StreamFilters$Lzw", "startOf", "(I)I"⟩, 5), (⟨"StreamFilters$Lzw", "makeString", "()V"⟩, 5), (⟨"StreamFilters$Text85", "finish", "(LStreamFilters$Pass;)V"⟩, 2), (⟨"StreamFilters$Text85", "addDigit", "(I)V"⟩, 2), (⟨"StreamFilters$Text85", "giveNumber", "(LStreamFilters$Pass;I)Z"⟩, 2), (⟨"StreamFilters$Link", "undoNumbers", "(LStreamFilters$Bytes;)V"⟩, 6), (⟨"StreamFilters$Link", "rowSize", "()I"⟩, 6)]
theorem lw_r1 : ∀ q ∈ lw_privs_1, lw_okq q := List.forall_mem_cons.mpr ⟨lw_p0, List.forall_mem_cons.mpr ⟨lw_p1, List.forall_mem_cons.mpr ⟨lw_p2, List.forall_mem_cons.mpr ⟨lw_p3, List.forall_mem_cons.mpr ⟨lw_p4, List.forall_mem_cons.mpr ⟨lw_p5, List.forall_mem_cons.mpr ⟨lw_p6, List.forall_mem_cons.mpr ⟨lw_p7, List.forall_mem_cons.mpr ⟨lw_p8, List.forall_mem_cons.mpr ⟨lw_p9, List.forall_mem_cons.mpr ⟨lw_p10, List.forall_mem_cons.mpr ⟨lw_p11, List.forall_mem_cons.mpr ⟨lw_p12, List.forall_mem_cons.mpr ⟨lw_p13, List.forall_mem_cons.mpr ⟨lw_p14, List.forall_mem_cons.mpr ⟨lw_p15, fun _ h => absurd h List.not_mem_nil⟩⟩⟩⟩⟩⟩⟩⟩⟩⟩⟩⟩⟩⟩⟩⟩
theorem lw_p16 : lw_okq (⟨"StreamFilters$Link", "numberAt", "(LStreamFilters$Bytes;II)I"⟩, 6) := ⟨⟨by decide +kernel, by decide +kernel⟩, List.mem_of_getElem? (i := 204) (by decide +kernel), List.mem_of_getElem? (i := 536) (by decide +kernel), List.mem_of_getElem? (i := 537) (by decide +kernel)⟩
theorem lw_p17 : lw_okq (⟨"StreamFilters$Link", "shiftOf", "(I)I"⟩, 6) := ⟨⟨by decide +kernel, by decide +kernel⟩, List.mem_of_getElem? (i := 204) (by decide +kernel), List.mem_of_getElem? (i := 541) (by decide +kernel), List.mem_of_getElem? (i := 542) (by decide +kernel)⟩
theorem lw_p18 : lw_okq (⟨"StreamFilters$Link", "mask", "()I"⟩, 6) := ⟨⟨by decide +kernel, by decide +kernel⟩, List.mem_of_getElem? (i := 204) (by decide +kernel), List.mem_of_getElem? (i := 545) (by decide +kernel), List.mem_of_getElem? (i := 546) (by decide +kernel)⟩
theorem lw_p19 : lw_okq (⟨"StreamFilters$Link", "setNumber", "(LStreamFilters$Bytes;III)V"⟩, 6) := ⟨⟨by decide +kernel, by decide +kernel⟩, List.mem_of_getElem? (i := 204) (by decide +kernel), List.mem_of_getElem? (i := 549) (by decide +kernel), List.mem_of_getElem? (i := 550) (by decide +kernel)⟩
theorem lw_p20 : lw_okq (⟨"StreamFilters$Link", "undoTags", "(LStreamFilters$Bytes;)Z"⟩, 6) := ⟨⟨by decide +kernel, by decide +kernel⟩, List.mem_of_getElem? (i := 204) (by decide +kernel), List.mem_of_getElem? (i := 557) (by decide +kernel), List.mem_of_getElem? (i := 558) (by decide +kernel)⟩
theorem lw_p21 : lw_okq (⟨"StreamFilters$Link", "undoRow", "(LStreamFilters$Bytes;IIII)V"⟩, 6) := ⟨⟨by decide +kernel, by decide +kernel⟩, List.mem_of_getElem? (i := 204) (by decide +kernel), List.mem_of_getElem? (i := 561) (by decide +kernel), List.mem_of_getElem? (i := 562) (by decide +kernel)⟩
theorem lw_p22 : lw_okq (⟨"java/lang/Throwable", "fillInStackTrace", "(I)Ljava/lang/Throwable;"⟩, 6) := ⟨⟨by decide +kernel, by decide +kernel⟩, List.mem_of_getElem? (i := 630) (by decide +kernel), List.mem_of_getElem? (i := 628) (by decide +kernel), List.mem_of_getElem? (i := 629) (by decide +kernel)⟩
theorem lw_p23 : lw_okq (⟨"StreamFiltersModel", "refused", "(I)Z"⟩, 31) := ⟨⟨by decide +kernel, by decide +kernel⟩, List.mem_of_getElem? (i := 751) (by decide +kernel), List.mem_of_getElem? (i := 867) (by decide +kernel), List.mem_of_getElem? (i := 868) (by decide +kernel)⟩
theorem lw_p24 : lw_okq (⟨"StreamFiltersModel", "isGood", "()Z"⟩, 31) := ⟨⟨by decide +kernel, by decide +kernel⟩, List.mem_of_getElem? (i := 751) (by decide +kernel), List.mem_of_getElem? (i := 895) (by decide +kernel), List.mem_of_getElem? (i := 896) (by decide +kernel)⟩
theorem lw_p25 : lw_okq (⟨"StreamFiltersModel", "run", "(I)V"⟩, 31) := ⟨⟨by decide +kernel, by decide +kernel⟩, List.mem_of_getElem? (i := 751) (by decide +kernel), List.mem_of_getElem? (i := 899) (by decide +kernel), List.mem_of_getElem? (i := 900) (by decide +kernel)⟩
theorem lw_p26 : lw_okq (⟨"StreamFiltersModel", "flate", "()V"⟩, 31) := ⟨⟨by decide +kernel, by decide +kernel⟩, List.mem_of_getElem? (i := 751) (by decide +kernel), List.mem_of_getElem? (i := 903) (by decide +kernel), List.mem_of_getElem? (i := 904) (by decide +kernel)⟩
theorem lw_p27 : lw_okq (⟨"StreamFiltersModel", "next", "()I"⟩, 31) := ⟨⟨by decide +kernel, by decide +kernel⟩, List.mem_of_getElem? (i := 751) (by decide +kernel), List.mem_of_getElem? (i := 907) (by decide +kernel), List.mem_of_getElem? (i := 908) (by decide +kernel)⟩
theorem lw_p28 : lw_okq (⟨"StreamFiltersModel", "fail", "(I)V"⟩, 31) := ⟨⟨by decide +kernel, by decide +kernel⟩, List.mem_of_getElem? (i := 751) (by decide +kernel), List.mem_of_getElem? (i := 911) (by decide +kernel), List.mem_of_getElem? (i := 912) (by decide +kernel)⟩
theorem lw_p29 : lw_okq (⟨"StreamFiltersModel", "bit", "()I"⟩, 31) := ⟨⟨by decide +kernel, by decide +kernel⟩, List.mem_of_getElem? (i := 751) (by decide +kernel), List.mem_of_getElem? (i := 915) (by decide +kernel), List.mem_of_getElem? (i := 916) (by decide +kernel)⟩
theorem lw_p30 : lw_okq (⟨"StreamFiltersModel", "number", "(I)I"⟩, 31) := ⟨⟨by decide +kernel, by decide +kernel⟩, List.mem_of_getElem? (i := 751) (by decide +kernel), List.mem_of_getElem? (i := 919) (by decide +kernel), List.mem_of_getElem? (i := 920) (by decide +kernel)⟩
theorem lw_p31 : lw_okq (⟨"StreamFiltersModel", "block", "(I)V"⟩, 31) := ⟨⟨by decide +kernel, by decide +kernel⟩, List.mem_of_getElem? (i := 751) (by decide +kernel), List.mem_of_getElem? (i := 923) (by decide +kernel), List.mem_of_getElem? (i := 924) (by decide +kernel)⟩
def lw_privs_2 : List (MethodName × Nat) := [(⟨"StreamFilters$Link", "numberAt", "(LStreamFilters$Bytes;II)I"⟩, 6), (⟨"StreamFilters$Link", "shiftOf", "(I)I"⟩, 6), (⟨"StreamFilters$Link", "mask", "()I"⟩, 6), (⟨"StreamFilters$Link", "setNumber", "(LStreamFilters$Bytes;III)V"⟩, 6), (⟨"StreamFilters$Link", "undoTags", "(LStreamFilters$Bytes;)Z"⟩, 6), (⟨"StreamFilters$Link", "undoRow", "(LStreamFilters$Bytes;IIII)V"⟩, 6), (⟨"java/lang/Throwable", "fillInStackTrace", "(I)Ljava/lang/Throwable;"⟩, 6), (⟨"StreamFiltersModel", "refused", "(I)Z"⟩, 31), (⟨"StreamFiltersModel", "isGood", "()Z"⟩, 31), (⟨"StreamFiltersModel", "run", "(I)V"⟩, 31), (⟨"StreamFiltersModel", "flate", "()V"⟩, 31), (⟨"StreamFiltersModel", "next", "()I"⟩, 31), (⟨"StreamFiltersModel", "fail", "(I)V"⟩, 31), (⟨"StreamFiltersModel", "bit", "()I"⟩, 31), (⟨"StreamFiltersModel", "number", "(I)I"⟩, 31), (⟨"StreamFiltersModel", "block", "(I)V"⟩, 31)]
theorem lw_r2 : ∀ q ∈ lw_privs_2, lw_okq q := List.forall_mem_cons.mpr ⟨lw_p16, List.forall_mem_cons.mpr ⟨lw_p17, List.forall_mem_cons.mpr ⟨lw_p18, List.forall_mem_cons.mpr ⟨lw_p19, List.forall_mem_cons.mpr ⟨lw_p20, List.forall_mem_cons.mpr ⟨lw_p21, List.forall_mem_cons.mpr ⟨lw_p22, List.forall_mem_cons.mpr ⟨lw_p23, List.forall_mem_cons.mpr ⟨lw_p24, List.forall_mem_cons.mpr ⟨lw_p25, List.forall_mem_cons.mpr ⟨lw_p26, List.forall_mem_cons.mpr ⟨lw_p27, List.forall_mem_cons.mpr ⟨lw_p28, List.forall_mem_cons.mpr ⟨lw_p29, List.forall_mem_cons.mpr ⟨lw_p30, List.forall_mem_cons.mpr ⟨lw_p31, fun _ h => absurd h List.not_mem_nil⟩⟩⟩⟩⟩⟩⟩⟩⟩⟩⟩⟩⟩⟩⟩⟩
theorem lw_p32 : lw_okq (⟨"StreamFiltersModel", "stored", "()V"⟩, 31) := ⟨⟨by decide +kernel, by decide +kernel⟩, List.mem_of_getElem? (i := 751) (by decide +kernel), List.mem_of_getElem? (i := 927) (by decide +kernel), List.mem_of_getElem? (i := 928) (by decide +kernel)⟩
theorem lw_p33 : lw_okq (⟨"StreamFiltersModel", "give", "(I)V"⟩, 31) := ⟨⟨by decide +kernel, by decide +kernel⟩, List.mem_of_getElem? (i := 751) (by decide +kernel), List.mem_of_getElem? (i := 932) (by decide +kernel), List.mem_of_getElem? (i := 933) (by decide +kernel)⟩
theorem lw_p34 : lw_okq (⟨"StreamFiltersModel", "fixCodes", "()V"⟩, 31) := ⟨⟨by decide +kernel, by decide +kernel⟩, List.mem_of_getElem? (i := 751) (by decide +kernel), List.mem_of_getElem? (i := 936) (by decide +kernel), List.mem_of_getElem? (i := 937) (by decide +kernel)⟩
theorem lw_p35 : lw_okq (⟨"StreamFiltersModel", "makeCodes", "(II)V"⟩, 31) := ⟨⟨by decide +kernel, by decide +kernel⟩, List.mem_of_getElem? (i := 751) (by decide +kernel), List.mem_of_getElem? (i := 940) (by decide +kernel), List.mem_of_getElem? (i := 941) (by decide +kernel)⟩
theorem lw_p36 : lw_okq (⟨"StreamFiltersModel", "coded", "()V"⟩, 31) := ⟨⟨by decide +kernel, by decide +kernel⟩, List.mem_of_getElem? (i := 751) (by decide +kernel), List.mem_of_getElem? (i := 944) (by decide +kernel), List.mem_of_getElem? (i := 945) (by decide +kernel)⟩
theorem lw_p37 : lw_okq (⟨"StreamFiltersModel", "symbol", "(II)I"⟩, 31) := ⟨⟨by decide +kernel, by decide +kernel⟩, List.mem_of_getElem? (i := 751) (by decide +kernel), List.mem_of_getElem? (i := 948) (by decide +kernel), List.mem_of_getElem? (i := 949) (by decide +kernel)⟩
theorem lw_p38 : lw_okq (⟨"StreamFiltersModel", "match", "(I)V"⟩, 31) := ⟨⟨by decide +kernel, by decide +kernel⟩, List.mem_of_getElem? (i := 751) (by decide +kernel), List.mem_of_getElem? (i := 952) (by decide +kernel), List.mem_of_getElem? (i := 953) (by decide +kernel)⟩
theorem lw_p39 : lw_okq (⟨"StreamFiltersModel", "readCodes", "()V"⟩, 31) := ⟨⟨by decide +kernel, by decide +kernel⟩, List.mem_of_getElem? (i := 751) (by decide +kernel), List.mem_of_getElem? (i := 968) (by decide +kernel), List.mem_of_getElem? (i := 969) (by decide +kernel)⟩
theorem lw_p40 : lw_okq (⟨"StreamFiltersModel", "isWhole", "(IIZ)Z"⟩, 31) := ⟨⟨by decide +kernel, by decide +kernel⟩, List.mem_of_getElem? (i := 751) (by decide +kernel), List.mem_of_getElem? (i := 975) (by decide +kernel), List.mem_of_getElem? (i := 976) (by decide +kernel)⟩
theorem lw_p41 : lw_okq (⟨"StreamFiltersModel", "readLengths", "(II)V"⟩, 31) := ⟨⟨by decide +kernel, by decide +kernel⟩, List.mem_of_getElem? (i := 751) (by decide +kernel), List.mem_of_getElem? (i := 980) (by decide +kernel), List.mem_of_getElem? (i := 981) (by decide +kernel)⟩
theorem lw_p42 : lw_okq (⟨"StreamFiltersModel", "check", "()J"⟩, 31) := ⟨⟨by decide +kernel, by decide +kernel⟩, List.mem_of_getElem? (i := 751) (by decide +kernel), List.mem_of_getElem? (i := 985) (by decide +kernel), List.mem_of_getElem? (i := 986) (by decide +kernel)⟩
theorem lw_p43 : lw_okq (⟨"StreamFiltersModel", "lzw", "(I)V"⟩, 31) := ⟨⟨by decide +kernel, by decide +kernel⟩, List.mem_of_getElem? (i := 751) (by decide +kernel), List.mem_of_getElem? (i := 991) (by decide +kernel), List.mem_of_getElem? (i := 992) (by decide +kernel)⟩
theorem lw_p44 : lw_okq (⟨"StreamFiltersModel", "wideCode", "(I)I"⟩, 31) := ⟨⟨by decide +kernel, by decide +kernel⟩, List.mem_of_getElem? (i := 751) (by decide +kernel), List.mem_of_getElem? (i := 998) (by decide +kernel), List.mem_of_getElem? (i := 999) (by decide +kernel)⟩
theorem lw_p45 : lw_okq (⟨"StreamFiltersModel", "firstOf", "(I)I"⟩, 31) := ⟨⟨by decide +kernel, by decide +kernel⟩, List.mem_of_getElem? (i := 751) (by decide +kernel), List.mem_of_getElem? (i := 1002) (by decide +kernel), List.mem_of_getElem? (i := 1003) (by decide +kernel)⟩
theorem lw_p46 : lw_okq (⟨"StreamFiltersModel", "byteOf", "(II)I"⟩, 31) := ⟨⟨by decide +kernel, by decide +kernel⟩, List.mem_of_getElem? (i := 751) (by decide +kernel), List.mem_of_getElem? (i := 1006) (by decide +kernel), List.mem_of_getElem? (i := 1007) (by decide +kernel)⟩
theorem lw_p47 : lw_okq (⟨"StreamFiltersModel", "text85", "()V"⟩, 31) := ⟨⟨by decide +kernel, by decide +kernel⟩, List.mem_of_getElem? (i := 751) (by decide +kernel), List.mem_of_getElem? (i := 1010) (by decide +kernel), List.mem_of_getElem? (i := 1011) (by decide +kernel)⟩
def lw_privs_3 : List (MethodName × Nat) := [(⟨"StreamFiltersModel", "stored", "()V"⟩, 31), (⟨"StreamFiltersModel", "give", "(I)V"⟩, 31), (⟨"StreamFiltersModel", "fixCodes", "()V"⟩, 31), (⟨"StreamFiltersModel", "makeCodes", "(II)V"⟩, 31), (⟨"StreamFiltersModel", "coded", "()V"⟩, 31), (⟨"StreamFiltersModel", "symbol", "(II)I"⟩, 31), (⟨"StreamFiltersModel", "match", "(I)V"⟩, 31), (⟨"StreamFiltersModel", "readCodes", "()V"⟩, 31), (⟨"StreamFiltersModel", "isWhole", "(IIZ)Z"⟩, 31), (⟨"StreamFiltersModel", "readLengths", "(II)V"⟩, 31), (⟨"StreamFiltersModel", "check", "()J"⟩, 31), (⟨"StreamFiltersModel", "lzw", "(I)V"⟩, 31), (⟨"StreamFiltersModel", "wideCode", "(I)I"⟩, 31), (⟨"StreamFiltersModel", "firstOf", "(I)I"⟩, 31), (⟨"StreamFiltersModel", "byteOf", "(II)I"⟩, 31), (⟨"StreamFiltersModel", "text85", "()V"⟩, 31)]
theorem lw_r3 : ∀ q ∈ lw_privs_3, lw_okq q := List.forall_mem_cons.mpr ⟨lw_p32, List.forall_mem_cons.mpr ⟨lw_p33, List.forall_mem_cons.mpr ⟨lw_p34, List.forall_mem_cons.mpr ⟨lw_p35, List.forall_mem_cons.mpr ⟨lw_p36, List.forall_mem_cons.mpr ⟨lw_p37, List.forall_mem_cons.mpr ⟨lw_p38, List.forall_mem_cons.mpr ⟨lw_p39, List.forall_mem_cons.mpr ⟨lw_p40, List.forall_mem_cons.mpr ⟨lw_p41, List.forall_mem_cons.mpr ⟨lw_p42, List.forall_mem_cons.mpr ⟨lw_p43, List.forall_mem_cons.mpr ⟨lw_p44, List.forall_mem_cons.mpr ⟨lw_p45, List.forall_mem_cons.mpr ⟨lw_p46, List.forall_mem_cons.mpr ⟨lw_p47, fun _ h => absurd h List.not_mem_nil⟩⟩⟩⟩⟩⟩⟩⟩⟩⟩⟩⟩⟩⟩⟩⟩
theorem lw_p48 : lw_okq (⟨"StreamFiltersModel", "giveWord", "(JI)V"⟩, 31) := ⟨⟨by decide +kernel, by decide +kernel⟩, List.mem_of_getElem? (i := 751) (by decide +kernel), List.mem_of_getElem? (i := 1019) (by decide +kernel), List.mem_of_getElem? (i := 1020) (by decide +kernel)⟩
theorem lw_p49 : lw_okq (⟨"StreamFiltersModel", "hexadecimal", "()V"⟩, 31) := ⟨⟨by decide +kernel, by decide +kernel⟩, List.mem_of_getElem? (i := 751) (by decide +kernel), List.mem_of_getElem? (i := 1026) (by decide +kernel), List.mem_of_getElem? (i := 1027) (by decide +kernel)⟩
theorem lw_p50 : lw_okq (⟨"StreamFiltersModel", "runs", "()V"⟩, 31) := ⟨⟨by decide +kernel, by decide +kernel⟩, List.mem_of_getElem? (i := 751) (by decide +kernel), List.mem_of_getElem? (i := 1033) (by decide +kernel), List.mem_of_getElem? (i := 1034) (by decide +kernel)⟩
theorem lw_p51 : lw_okq (⟨"StreamFiltersModel", "addRows", "(I)V"⟩, 31) := ⟨⟨by decide +kernel, by decide +kernel⟩, List.mem_of_getElem? (i := 751) (by decide +kernel), List.mem_of_getElem? (i := 1037) (by decide +kernel), List.mem_of_getElem? (i := 1038) (by decide +kernel)⟩
theorem lw_p52 : lw_okq (⟨"StreamFiltersModel", "rowBytes", "(I)I"⟩, 31) := ⟨⟨by decide +kernel, by decide +kernel⟩, List.mem_of_getElem? (i := 751) (by decide +kernel), List.mem_of_getElem? (i := 1041) (by decide +kernel), List.mem_of_getElem? (i := 1042) (by decide +kernel)⟩
theorem lw_p53 : lw_okq (⟨"StreamFiltersModel", "numberAt", "(III)I"⟩, 31) := ⟨⟨by decide +kernel, by decide +kernel⟩, List.mem_of_getElem? (i := 751) (by decide +kernel), List.mem_of_getElem? (i := 1045) (by decide +kernel), List.mem_of_getElem? (i := 1046) (by decide +kernel)⟩
theorem lw_p54 : lw_okq (⟨"StreamFiltersModel", "bitAt", "(II)I"⟩, 31) := ⟨⟨by decide +kernel, by decide +kernel⟩, List.mem_of_getElem? (i := 751) (by decide +kernel), List.mem_of_getElem? (i := 1049) (by decide +kernel), List.mem_of_getElem? (i := 1050) (by decide +kernel)⟩
theorem lw_p55 : lw_okq (⟨"StreamFiltersModel", "setNumber", "(IIII)V"⟩, 31) := ⟨⟨by decide +kernel, by decide +kernel⟩, List.mem_of_getElem? (i := 751) (by decide +kernel), List.mem_of_getElem? (i := 1053) (by decide +kernel), List.mem_of_getElem? (i := 1054) (by decide +kernel)⟩
theorem lw_p56 : lw_okq (⟨"StreamFiltersModel", "undoRows", "(I)Z"⟩, 31) := ⟨⟨by decide +kernel, by decide +kernel⟩, List.mem_of_getElem? (i := 751) (by decide +kernel), List.mem_of_getElem? (i := 1057) (by decide +kernel), List.mem_of_getElem? (i := 1058) (by decide +kernel)⟩
def lw_privs_4 : List (MethodName × Nat) := [(⟨"StreamFiltersModel", "giveWord", "(JI)V"⟩, 31), (⟨"StreamFiltersModel", "hexadecimal", "()V"⟩, 31), (⟨"StreamFiltersModel", "runs", "()V"⟩, 31), (⟨"StreamFiltersModel", "addRows", "(I)V"⟩, 31), (⟨"StreamFiltersModel", "rowBytes", "(I)I"⟩, 31), (⟨"StreamFiltersModel", "numberAt", "(III)I"⟩, 31), (⟨"StreamFiltersModel", "bitAt", "(II)I"⟩, 31), (⟨"StreamFiltersModel", "setNumber", "(IIII)V"⟩, 31), (⟨"StreamFiltersModel", "undoRows", "(I)Z"⟩, 31)]
theorem lw_r4 : ∀ q ∈ lw_privs_4, lw_okq q := List.forall_mem_cons.mpr ⟨lw_p48, List.forall_mem_cons.mpr ⟨lw_p49, List.forall_mem_cons.mpr ⟨lw_p50, List.forall_mem_cons.mpr ⟨lw_p51, List.forall_mem_cons.mpr ⟨lw_p52, List.forall_mem_cons.mpr ⟨lw_p53, List.forall_mem_cons.mpr ⟨lw_p54, List.forall_mem_cons.mpr ⟨lw_p55, List.forall_mem_cons.mpr ⟨lw_p56, fun _ h => absurd h List.not_mem_nil⟩⟩⟩⟩⟩⟩⟩⟩⟩
def lw_privs : List (MethodName × Nat) := lw_privs_1 ++ (lw_privs_2 ++ (lw_privs_3 ++ (lw_privs_4)))
def lw_tbl : List Cond := k2_sels lw_privs ++ tables_1
theorem lw_privs_ok : ∀ q ∈ lw_privs, lw_okq q := by
  show ∀ q ∈ lw_privs_1 ++ (lw_privs_2 ++ (lw_privs_3 ++ (lw_privs_4))), lw_okq q
  exact List.forall_mem_append.mpr ⟨lw_r1, List.forall_mem_append.mpr ⟨lw_r2, List.forall_mem_append.mpr ⟨lw_r3, lw_r4⟩⟩⟩
end
section
/-! names: classes, fields, methods; the words of the tables that are good in every state -/
def R_SF : String := "StreamFilters"
def R_By : String := "StreamFilters$Bytes"
def R_Co : String := "StreamFilters$Codes"
def R_Fl : String := "StreamFilters$Flate"
def R_Hx : String := "StreamFilters$Hexadecimal"
def R_Le : String := "StreamFilters$Lengths"
def R_Li : String := "StreamFilters$Link"
def R_Lz : String := "StreamFilters$Lzw"
def R_Pa : String := "StreamFilters$Pass"
def R_T8 : String := "StreamFilters$Text85"
def R_Un : String := "StreamFilters$Unpacker"
def R_Mo : String := "StreamFiltersModel"
def R_La : String := "StreamFiltersLaw"
def T_SF : u_T := fun k => match k with
  | 0 => ("StreamFilters", "row", "LStreamFilters$Bytes;", true)
  | 1 => ("StreamFilters", "chain", "[LStreamFilters$Link;", true)
  | 2 => ("StreamFilters", "filters", "I", false)
  | 3 => ("StreamFilters", "allowed", "I", false)
  | 4 => ("StreamFilters", "pass", "LStreamFilters$Pass;", true)
  | 5 => ("StreamFilters", "flate", "LStreamFilters$Flate;", true)
  | 6 => ("StreamFilters", "lzw", "LStreamFilters$Lzw;", true)
  | 7 => ("StreamFilters", "text85", "LStreamFilters$Text85;", true)
  | 8 => ("StreamFilters", "hexadecimal", "LStreamFilters$Hexadecimal;", true)
  | 9 => ("StreamFilters", "lengths", "LStreamFilters$Lengths;", true)
  | 10 => ("StreamFilters", "evenOutput", "LStreamFilters$Bytes;", true)
  | 11 => ("StreamFilters", "oddOutput", "LStreamFilters$Bytes;", true)
  | 12 => ("StreamFilters", "result", "LStreamFilters$Bytes;", false)
  | 13 => ("StreamFilters", "decoded", "Z", false)
  | 14 => ("StreamFilters", "faultFilter", "I", false)
  | 15 => ("StreamFilters", "faultKind", "I", false)
  | _ => ("StreamFilters", "faultPlace", "I", false)
def ty_SF : Nat → FieldType := fun k => match k with
  | 0 => (.object "StreamFilters$Bytes")
  | 1 => (.array (.object "StreamFilters$Link"))
  | 2 => .int
  | 3 => .int
  | 4 => (.object "StreamFilters$Pass")
  | 5 => (.object "StreamFilters$Flate")
  | 6 => (.object "StreamFilters$Lzw")
  | 7 => (.object "StreamFilters$Text85")
  | 8 => (.object "StreamFilters$Hexadecimal")
  | 9 => (.object "StreamFilters$Lengths")
  | 10 => (.object "StreamFilters$Bytes")
  | 11 => (.object "StreamFilters$Bytes")
  | 12 => (.object "StreamFilters$Bytes")
  | 13 => .boolean
  | 14 => .int
  | 15 => .int
  | _ => .int
theorem nm_SF : ∀ a, a < 17 → ∀ b, b < 17 → a ≠ b → (T_SF a).2.1 ≠ (T_SF b).2.1 := by decide +kernel
theorem tyok_SF : ∀ k, k < 17 → parseFieldDescriptor (T_SF k).2.2.1 = some (ty_SF k) := by decide +kernel
def T_By : u_T := fun k => match k with
  | 0 => ("StreamFilters$Bytes", "room", "[B", true)
  | _ => ("StreamFilters$Bytes", "length", "I", false)
def ty_By : Nat → FieldType := fun k => match k with
  | 0 => (.array .byte)
  | _ => .int
theorem nm_By : ∀ a, a < 2 → ∀ b, b < 2 → a ≠ b → (T_By a).2.1 ≠ (T_By b).2.1 := by decide +kernel
theorem tyok_By : ∀ k, k < 2 → parseFieldDescriptor (T_By k).2.2.1 = some (ty_By k) := by decide +kernel
def T_Co : u_T := fun k => match k with
  | 0 => ("StreamFilters$Codes", "counts", "[I", true)
  | 1 => ("StreamFilters$Codes", "places", "[I", true)
  | 2 => ("StreamFilters$Codes", "symbols", "[I", true)
  | 3 => ("StreamFilters$Codes", "used", "I", false)
  | _ => ("StreamFilters$Codes", "longest", "I", false)
def ty_Co : Nat → FieldType := fun k => match k with
  | 0 => (.array .int)
  | 1 => (.array .int)
  | 2 => (.array .int)
  | 3 => .int
  | _ => .int
theorem nm_Co : ∀ a, a < 5 → ∀ b, b < 5 → a ≠ b → (T_Co a).2.1 ≠ (T_Co b).2.1 := by decide +kernel
theorem tyok_Co : ∀ k, k < 5 → parseFieldDescriptor (T_Co k).2.2.1 = some (ty_Co k) := by decide +kernel
def T_Fl : u_T := fun k => match k with
  | 0 => ("StreamFilters$Flate", "fixedLiterals", "LStreamFilters$Codes;", true)
  | 1 => ("StreamFilters$Flate", "fixedDistances", "LStreamFilters$Codes;", true)
  | 2 => ("StreamFilters$Flate", "literals", "LStreamFilters$Codes;", true)
  | 3 => ("StreamFilters$Flate", "distances", "LStreamFilters$Codes;", true)
  | 4 => ("StreamFilters$Flate", "lengthCodes", "LStreamFilters$Codes;", true)
  | _ => ("StreamFilters$Flate", "lengths", "[I", true)
def ty_Fl : Nat → FieldType := fun k => match k with
  | 0 => (.object "StreamFilters$Codes")
  | 1 => (.object "StreamFilters$Codes")
  | 2 => (.object "StreamFilters$Codes")
  | 3 => (.object "StreamFilters$Codes")
  | 4 => (.object "StreamFilters$Codes")
  | _ => (.array .int)
theorem nm_Fl : ∀ a, a < 6 → ∀ b, b < 6 → a ≠ b → (T_Fl a).2.1 ≠ (T_Fl b).2.1 := by decide +kernel
theorem tyok_Fl : ∀ k, k < 6 → parseFieldDescriptor (T_Fl k).2.2.1 = some (ty_Fl k) := by decide +kernel
def T_Hx : u_T := fun k => match k with
  | _ => ("", "", "", false)
def ty_Hx : Nat → FieldType := fun k => match k with
  | _ => .int
theorem nm_Hx : ∀ a, a < 0 → ∀ b, b < 0 → a ≠ b → (T_Hx a).2.1 ≠ (T_Hx b).2.1 := by decide +kernel
theorem tyok_Hx : ∀ k, k < 0 → parseFieldDescriptor (T_Hx k).2.2.1 = some (ty_Hx k) := by decide +kernel
def T_Le : u_T := fun k => match k with
  | _ => ("", "", "", false)
def ty_Le : Nat → FieldType := fun k => match k with
  | _ => .int
theorem nm_Le : ∀ a, a < 0 → ∀ b, b < 0 → a ≠ b → (T_Le a).2.1 ≠ (T_Le b).2.1 := by decide +kernel
theorem tyok_Le : ∀ k, k < 0 → parseFieldDescriptor (T_Le k).2.2.1 = some (ty_Le k) := by decide +kernel
def T_Li : u_T := fun k => match k with
  | 0 => ("StreamFilters$Link", "kind", "I", false)
  | 1 => ("StreamFilters$Link", "early", "I", false)
  | 2 => ("StreamFilters$Link", "predictor", "I", false)
  | 3 => ("StreamFilters$Link", "colours", "I", false)
  | 4 => ("StreamFilters$Link", "bits", "I", false)
  | _ => ("StreamFilters$Link", "columns", "I", false)
def ty_Li : Nat → FieldType := fun k => match k with
  | 0 => .int
  | 1 => .int
  | 2 => .int
  | 3 => .int
  | 4 => .int
  | _ => .int
theorem nm_Li : ∀ a, a < 6 → ∀ b, b < 6 → a ≠ b → (T_Li a).2.1 ≠ (T_Li b).2.1 := by decide +kernel
theorem tyok_Li : ∀ k, k < 6 → parseFieldDescriptor (T_Li k).2.2.1 = some (ty_Li k) := by decide +kernel
def T_Lz : u_T := fun k => match k with
  | 0 => ("StreamFilters$Lzw", "starts", "[I", true)
  | 1 => ("StreamFilters$Lzw", "sizes", "[I", true)
  | 2 => ("StreamFilters$Lzw", "next", "I", false)
  | 3 => ("StreamFilters$Lzw", "startBefore", "I", false)
  | _ => ("StreamFilters$Lzw", "sizeBefore", "I", false)
def ty_Lz : Nat → FieldType := fun k => match k with
  | 0 => (.array .int)
  | 1 => (.array .int)
  | 2 => .int
  | 3 => .int
  | _ => .int
theorem nm_Lz : ∀ a, a < 5 → ∀ b, b < 5 → a ≠ b → (T_Lz a).2.1 ≠ (T_Lz b).2.1 := by decide +kernel
theorem tyok_Lz : ∀ k, k < 5 → parseFieldDescriptor (T_Lz k).2.2.1 = some (ty_Lz k) := by decide +kernel
def T_Pa : u_T := fun k => match k with
  | 0 => ("StreamFilters$Pass", "input", "LStreamFilters$Bytes;", false)
  | 1 => ("StreamFilters$Pass", "output", "LStreamFilters$Bytes;", false)
  | 2 => ("StreamFilters$Pass", "begun", "I", false)
  | 3 => ("StreamFilters$Pass", "current", "I", false)
  | 4 => ("StreamFilters$Pass", "bitsLeft", "I", false)
  | 5 => ("StreamFilters$Pass", "problem", "I", false)
  | _ => ("StreamFilters$Pass", "left", "I", false)
def ty_Pa : Nat → FieldType := fun k => match k with
  | 0 => (.object "StreamFilters$Bytes")
  | 1 => (.object "StreamFilters$Bytes")
  | 2 => .int
  | 3 => .int
  | 4 => .int
  | 5 => .int
  | _ => .int
theorem nm_Pa : ∀ a, a < 7 → ∀ b, b < 7 → a ≠ b → (T_Pa a).2.1 ≠ (T_Pa b).2.1 := by decide +kernel
theorem tyok_Pa : ∀ k, k < 7 → parseFieldDescriptor (T_Pa k).2.2.1 = some (ty_Pa k) := by decide +kernel
def T_T8 : u_T := fun k => match k with
  | 0 => ("StreamFilters$Text85", "number", "J", false)
  | _ => ("StreamFilters$Text85", "digits", "I", false)
def ty_T8 : Nat → FieldType := fun k => match k with
  | 0 => .long
  | _ => .int
theorem nm_T8 : ∀ a, a < 2 → ∀ b, b < 2 → a ≠ b → (T_T8 a).2.1 ≠ (T_T8 b).2.1 := by decide +kernel
theorem tyok_T8 : ∀ k, k < 2 → parseFieldDescriptor (T_T8 k).2.2.1 = some (ty_T8 k) := by decide +kernel
def T_Mo : u_T := fun k => match k with
  | 0 => ("StreamFiltersModel", "refusal", "I", false)
  | 1 => ("StreamFiltersModel", "rowSize", "I", false)
  | 2 => ("StreamFiltersModel", "row", "[I", true)
  | 3 => ("StreamFiltersModel", "filters", "I", false)
  | 4 => ("StreamFiltersModel", "kinds", "[I", true)
  | 5 => ("StreamFiltersModel", "earlies", "[I", true)
  | 6 => ("StreamFiltersModel", "predictors", "[I", true)
  | 7 => ("StreamFiltersModel", "colours", "[I", true)
  | 8 => ("StreamFiltersModel", "bits", "[I", true)
  | 9 => ("StreamFiltersModel", "columns", "[I", true)
  | 10 => ("StreamFiltersModel", "budget", "I", false)
  | 11 => ("StreamFiltersModel", "size", "I", false)
  | 12 => ("StreamFiltersModel", "in", "[I", true)
  | 13 => ("StreamFiltersModel", "given", "I", false)
  | 14 => ("StreamFiltersModel", "out", "[I", true)
  | 15 => ("StreamFiltersModel", "left", "I", false)
  | 16 => ("StreamFiltersModel", "pos", "I", false)
  | 17 => ("StreamFiltersModel", "wrong", "I", false)
  | 18 => ("StreamFiltersModel", "spare", "I", false)
  | 19 => ("StreamFiltersModel", "spareBits", "I", false)
  | 20 => ("StreamFiltersModel", "lengths", "[I", true)
  | 21 => ("StreamFiltersModel", "codes", "[I", true)
  | 22 => ("StreamFiltersModel", "before", "[I", true)
  | 23 => ("StreamFiltersModel", "last", "[I", true)
  | 24 => ("StreamFiltersModel", "sizes", "[I", true)
  | 25 => ("StreamFiltersModel", "isDecoded", "Z", false)
  | 26 => ("StreamFiltersModel", "resultSize", "I", false)
  | 27 => ("StreamFiltersModel", "result", "[I", true)
  | 28 => ("StreamFiltersModel", "faultFilter", "I", false)
  | 29 => ("StreamFiltersModel", "faultKind", "I", false)
  | _ => ("StreamFiltersModel", "faultPlace", "I", false)
def ty_Mo : Nat → FieldType := fun k => match k with
  | 0 => .int
  | 1 => .int
  | 2 => (.array .int)
  | 3 => .int
  | 4 => (.array .int)
  | 5 => (.array .int)
  | 6 => (.array .int)
  | 7 => (.array .int)
  | 8 => (.array .int)
  | 9 => (.array .int)
  | 10 => .int
  | 11 => .int
  | 12 => (.array .int)
  | 13 => .int
  | 14 => (.array .int)
  | 15 => .int
  | 16 => .int
  | 17 => .int
  | 18 => .int
  | 19 => .int
  | 20 => (.array .int)
  | 21 => (.array .int)
  | 22 => (.array .int)
  | 23 => (.array .int)
  | 24 => (.array .int)
  | 25 => .boolean
  | 26 => .int
  | 27 => (.array .int)
  | 28 => .int
  | 29 => .int
  | _ => .int
theorem nm_Mo : ∀ a, a < 31 → ∀ b, b < 31 → a ≠ b → (T_Mo a).2.1 ≠ (T_Mo b).2.1 := by decide +kernel
theorem tyok_Mo : ∀ k, k < 31 → parseFieldDescriptor (T_Mo k).2.2.1 = some (ty_Mo k) := by decide +kernel
abbrev classes : List vw_C := [(R_SF, T_SF, 17), (R_By, T_By, 2), (R_Co, T_Co, 5), (R_Fl, T_Fl, 6), (R_Hx, T_Hx, 0), (R_Le, T_Le, 0), (R_Li, T_Li, 6), (R_Lz, T_Lz, 5), (R_Pa, T_Pa, 7), (R_T8, T_T8, 2), (R_Mo, T_Mo, 31)]
def mGood : List Cond := lw_tbl.filter goodWord
theorem mGood_good : ∀ w ∈ mGood, goodWord w = true := fun w h => (List.mem_filter.mp h).2
theorem mg_of {i : Nat} {w : Cond} (h : lw_tbl[i]? = some w) (hg : goodWord w = true) : w ∈ mGood := List.mem_filter.mpr ⟨List.mem_of_getElem? h, hg⟩
theorem mg_ofs {C : String} {T : u_T} {n : Nat} (ps : List Nat) (h : u_ws C T n = ps.filterMap (fun i => lw_tbl[i]?)) (hg : (u_ws C T n).all goodWord = true) : ∀ w ∈ u_ws C T n, w ∈ mGood := by
  intro w hw
  have h1 := List.all_eq_true.mp hg w hw
  rw [h] at hw
  obtain ⟨i, -, hi⟩ := List.mem_filterMap.mp hw
  exact mg_of hi h1
set_option maxRecDepth 20000 in
theorem in_SF : ∀ w ∈ u_ws R_SF T_SF 17, w ∈ mGood := mg_ofs [304, 306, 308, 310, 312, 314, 316, 318, 320, 322, 324, 326, 328, 330, 332, 334, 336] (by decide +kernel) (by decide +kernel)
set_option maxRecDepth 20000 in
theorem in_By : ∀ w ∈ u_ws R_By T_By 2, w ∈ mGood := mg_ofs [103, 105] (by decide +kernel) (by decide +kernel)
set_option maxRecDepth 20000 in
theorem in_Co : ∀ w ∈ u_ws R_Co T_Co 5, w ∈ mGood := mg_ofs [168, 170, 172, 174, 176] (by decide +kernel) (by decide +kernel)
set_option maxRecDepth 20000 in
theorem in_Fl : ∀ w ∈ u_ws R_Fl T_Fl 6, w ∈ mGood := mg_ofs [199, 201, 203, 205, 207, 209] (by decide +kernel) (by decide +kernel)
set_option maxRecDepth 20000 in
theorem in_Hx : ∀ w ∈ u_ws R_Hx T_Hx 0, w ∈ mGood := mg_ofs [] (by decide +kernel) (by decide +kernel)
set_option maxRecDepth 20000 in
theorem in_Le : ∀ w ∈ u_ws R_Le T_Le 0, w ∈ mGood := mg_ofs [] (by decide +kernel) (by decide +kernel)
set_option maxRecDepth 20000 in
theorem in_Li : ∀ w ∈ u_ws R_Li T_Li 6, w ∈ mGood := mg_ofs [274, 276, 278, 280, 282, 284] (by decide +kernel) (by decide +kernel)
set_option maxRecDepth 20000 in
theorem in_Lz : ∀ w ∈ u_ws R_Lz T_Lz 5, w ∈ mGood := mg_ofs [223, 225, 227, 229, 231] (by decide +kernel) (by decide +kernel)
set_option maxRecDepth 20000 in
theorem in_Pa : ∀ w ∈ u_ws R_Pa T_Pa 7, w ∈ mGood := mg_ofs [132, 134, 136, 138, 140, 142, 144] (by decide +kernel) (by decide +kernel)
set_option maxRecDepth 20000 in
theorem in_T8 : ∀ w ∈ u_ws R_T8 T_T8 2, w ∈ mGood := mg_ofs [242, 244] (by decide +kernel) (by decide +kernel)
set_option maxRecDepth 20000 in
theorem in_Mo : ∀ w ∈ u_ws R_Mo T_Mo 31, w ∈ mGood := mg_ofs [845, 847, 849, 851, 853, 855, 857, 859, 861, 863, 865, 867, 869, 871, 873, 875, 877, 879, 881, 883, 885, 887, 889, 891, 893, 895, 897, 899, 901, 903, 905] (by decide +kernel) (by decide +kernel)
def mNest : List Cond := [.fieldLinkNest "StreamFilters$Pass" 42 "StreamFilters$Bytes" "room" "[B" "StreamFilters", .fieldLinkNest "StreamFilters" 97 "StreamFilters$Bytes" "length" "I" "StreamFilters", .fieldLinkNest "StreamFilters$Pass" 39 "StreamFilters$Bytes" "length" "I" "StreamFilters", .fieldLinkNest "StreamFilters$Lzw" 49 "StreamFilters$Bytes" "length" "I" "StreamFilters", .fieldLinkNest "StreamFilters$Link" 48 "StreamFilters$Bytes" "length" "I" "StreamFilters", .fieldLinkNest "StreamFilters$Flate" 126 "StreamFilters$Bytes" "length" "I" "StreamFilters", .methodLinkNest "StreamFilters" 34 ⟨"StreamFilters$Pass", "<init>", "()V"⟩ "StreamFilters", .fieldLinkNest "StreamFilters$Lzw" 45 "StreamFilters$Pass" "output" "LStreamFilters$Bytes;" "StreamFilters", .fieldLinkNest "StreamFilters$Flate" 122 "StreamFilters$Pass" "output" "LStreamFilters$Bytes;" "StreamFilters", .fieldLinkNest "StreamFilters" 199 "StreamFilters$Pass" "begun" "I" "StreamFilters", .fieldLinkNest "StreamFilters" 196 "StreamFilters$Pass" "problem" "I" "StreamFilters", .fieldLinkNest "StreamFilters" 166 "StreamFilters$Pass" "left" "I" "StreamFilters", .methodLinkNest "StreamFilters$Flate" 3 ⟨"StreamFilters$Unpacker", "<init>", "()V"⟩ "StreamFilters", .methodLinkNest "StreamFilters" 48 ⟨"StreamFilters$Lzw", "<init>", "()V"⟩ "StreamFilters", .methodLinkNest "StreamFilters$Lzw" 3 ⟨"StreamFilters$Unpacker", "<init>", "()V"⟩ "StreamFilters", .methodLinkNest "StreamFilters" 55 ⟨"StreamFilters$Text85", "<init>", "()V"⟩ "StreamFilters", .methodLinkNest "StreamFilters$Text85" 3 ⟨"StreamFilters$Unpacker", "<init>", "()V"⟩ "StreamFilters", .methodLinkNest "StreamFilters" 62 ⟨"StreamFilters$Hexadecimal", "<init>", "()V"⟩ "StreamFilters", .methodLinkNest "StreamFilters$Hexadecimal" 3 ⟨"StreamFilters$Unpacker", "<init>", "()V"⟩ "StreamFilters", .methodLinkNest "StreamFilters" 69 ⟨"StreamFilters$Lengths", "<init>", "()V"⟩ "StreamFilters", .methodLinkNest "StreamFilters$Lengths" 3 ⟨"StreamFilters$Unpacker", "<init>", "()V"⟩ "StreamFilters", .methodLinkNest "StreamFilters" 96 ⟨"StreamFilters$Link", "<init>", "()V"⟩ "StreamFilters", .fieldLinkNest "StreamFilters" 176 "StreamFilters$Link" "kind" "I" "StreamFilters", .fieldLinkNest "StreamFilters" 183 "StreamFilters$Link" "early" "I" "StreamFilters", .declares ⟨"StreamFilters$Unpacker", "unpack", "(LStreamFilters$Pass;I)V"⟩, .declares ⟨"java/lang/RuntimeException", "<init>", "()V"⟩, .declares ⟨"java/lang/RuntimeException", "<init>", "(Ljava/lang/String;)V"⟩, .declares ⟨"java/lang/Exception", "<init>", "()V"⟩, .declares ⟨"java/lang/Exception", "<init>", "(Ljava/lang/String;)V"⟩, .declares ⟨"java/lang/Throwable", "<init>", "()V"⟩, .declares ⟨"java/lang/Throwable", "<init>", "(Ljava/lang/String;)V"⟩]
def mNk : Cond → Bool
  | .fieldLinkNest .. => true
  | .methodLinkNest .. => true
  | .declares .. => true
  | _ => false
theorem mNest_k : ∀ w ∈ mNest, mNk w = true := by decide +kernel
theorem mNest_warm (w : Cond) (hw : w ∈ mNest) {s U : State} (hW : s.WarmedH U.vm) (h : va_Nw w s) : va_Nw w U := by
  have hk := mNest_k w hw
  clear hw
  cases w <;> first | exact va_Nw.warmF hW h | exact va_Nw.warmM hW h | exact va_Nw.warmD hW h | (exact absurd hk (by decide)) | (simp [mNk] at hk)
theorem mNest_ot (w : Cond) (hw : w ∈ mNest) : w.onTables = true := by
  have hk := mNest_k w hw
  clear hw
  cases w <;> first | rfl | (exact absurd hk (by decide)) | (simp [mNk] at hk)
def mTys : List FieldType := [.byte, .int, .long, (.object "StreamFilters$Link")]
abbrev mSt : Type := String × String × String × FieldType × Nat × (Nat → Int32)
def mS0 : Nat → Int32 := fun k => ([16, 17, 18, 0, 8, 7, 9, 6, 10, 5, 11, 4, 12, 3, 13, 2, 14, 1, 15] : List Int32).getD k 0
def mS1 : Nat → Int32 := fun k => ([3, 4, 5, 6, 7, 8, 9, 10, 11, 13, 15, 17, 19, 23, 27, 31, 35, 43, 51, 59, 67, 83, 99, 115, 131, 163, 195, 227, 258] : List Int32).getD k 0
def mS2 : Nat → Int32 := fun k => ([0, 0, 0, 0, 0, 0, 0, 0, 1, 1, 1, 1, 2, 2, 2, 2, 3, 3, 3, 3, 4, 4, 4, 4, 5, 5, 5, 5, 0] : List Int32).getD k 0
def mS3 : Nat → Int32 := fun k => ([1, 2, 3, 4, 5, 7, 9, 13, 17, 25, 33, 49, 65, 97, 129, 193, 257, 385, 513, 769, 1025, 1537, 2049, 3073, 4097, 6145, 8193, 12289, 16385, 24577] : List Int32).getD k 0
def mS4 : Nat → Int32 := fun k => ([0, 0, 0, 0, 1, 1, 2, 2, 3, 3, 4, 4, 5, 5, 6, 6, 7, 7, 8, 8, 9, 9, 10, 10, 11, 11, 12, 12, 13, 13] : List Int32).getD k 0
def mSta : List mSt := [("StreamFilters$Flate", "ORDER", "[I", .int, 19, mS0), ("StreamFilters$Flate", "LENGTH_STARTS", "[I", .int, 29, mS1), ("StreamFilters$Flate", "LENGTH_BITS", "[I", .int, 29, mS2), ("StreamFilters$Flate", "DISTANCE_STARTS", "[I", .int, 30, mS3), ("StreamFilters$Flate", "DISTANCE_BITS", "[I", .int, 30, mS4)]
def mR (f c : Nat) : Room := { frames := f, cells := 0, slots := 0, locals := c }
def y_SF_init : MethodName := ⟨R_SF, "<init>", "()V"⟩
abbrev b_SF_init : ByteArray := prog_1_method_1_code
def y_SF_feed : MethodName := ⟨R_SF, "feed", "(IIIII)I"⟩
abbrev b_SF_feed : ByteArray := prog_1_method_2_code
def y_SF_put : MethodName := ⟨R_SF, "put", "(II)I"⟩
abbrev b_SF_put : ByteArray := prog_1_method_3_code
def y_SF_cut : MethodName := ⟨R_SF, "cut", "(I)I"⟩
abbrev b_SF_cut : ByteArray := prog_1_method_4_code
def y_SF_filter : MethodName := ⟨R_SF, "filter", "(II)I"⟩
abbrev b_SF_filter : ByteArray := prog_1_method_5_code
def y_SF_predict : MethodName := ⟨R_SF, "predict", "(IIII)V"⟩
abbrev b_SF_predict : ByteArray := prog_1_method_6_code
def y_SF_drop : MethodName := ⟨R_SF, "drop", "()I"⟩
abbrev b_SF_drop : ByteArray := prog_1_method_7_code
def y_SF_budget : MethodName := ⟨R_SF, "budget", "(I)I"⟩
abbrev b_SF_budget : ByteArray := prog_1_method_8_code
def y_SF_decode : MethodName := ⟨R_SF, "decode", "()I"⟩
abbrev b_SF_decode : ByteArray := prog_1_method_9_code
def y_SF_at : MethodName := ⟨R_SF, "at", "(I)I"⟩
abbrev b_SF_at : ByteArray := prog_1_method_10_code
def y_SF_fault : MethodName := ⟨R_SF, "fault", "(I)I"⟩
abbrev b_SF_fault : ByteArray := prog_1_method_11_code
def y_SF_keep : MethodName := ⟨R_SF, "keep", "()I"⟩
abbrev b_SF_keep : ByteArray := prog_1_method_12_code
def y_SF_isPredictor : MethodName := ⟨R_SF, "isPredictor", "(I)Z"⟩
abbrev b_SF_isPredictor : ByteArray := prog_1_method_13_code
def y_SF_isBits : MethodName := ⟨R_SF, "isBits", "(I)Z"⟩
abbrev b_SF_isBits : ByteArray := prog_1_method_14_code
def y_SF_noteFault : MethodName := ⟨R_SF, "noteFault", "(III)V"⟩
abbrev b_SF_noteFault : ByteArray := prog_1_method_15_code
def y_SF_unpackerOf : MethodName := ⟨R_SF, "unpackerOf", "(I)LStreamFilters$Unpacker;"⟩
abbrev b_SF_unpackerOf : ByteArray := prog_1_method_16_code
def y_Mo_init : MethodName := ⟨R_Mo, "<init>", "()V"⟩
abbrev b_Mo_init : ByteArray := prog_13_method_1_code
def y_Mo_thrown : MethodName := ⟨R_Mo, "thrown", "()I"⟩
abbrev b_Mo_thrown : ByteArray := prog_13_method_2_code
def y_Mo_refused : MethodName := ⟨R_Mo, "refused", "(I)Z"⟩
abbrev b_Mo_refused : ByteArray := prog_13_method_3_code
def y_Mo_isIn : MethodName := ⟨R_Mo, "isIn", "(III)Z"⟩
abbrev b_Mo_isIn : ByteArray := prog_13_method_4_code
def y_Mo_feed : MethodName := ⟨R_Mo, "feed", "(IIIII)I"⟩
abbrev b_Mo_feed : ByteArray := prog_13_method_5_code
def y_Mo_put : MethodName := ⟨R_Mo, "put", "(II)I"⟩
abbrev b_Mo_put : ByteArray := prog_13_method_6_code
def y_Mo_cut : MethodName := ⟨R_Mo, "cut", "(I)I"⟩
abbrev b_Mo_cut : ByteArray := prog_13_method_7_code
def y_Mo_filter : MethodName := ⟨R_Mo, "filter", "(II)I"⟩
abbrev b_Mo_filter : ByteArray := prog_13_method_8_code
def y_Mo_predict : MethodName := ⟨R_Mo, "predict", "(IIII)V"⟩
abbrev b_Mo_predict : ByteArray := prog_13_method_9_code
def y_Mo_drop : MethodName := ⟨R_Mo, "drop", "()I"⟩
abbrev b_Mo_drop : ByteArray := prog_13_method_10_code
def y_Mo_budget : MethodName := ⟨R_Mo, "budget", "(I)I"⟩
abbrev b_Mo_budget : ByteArray := prog_13_method_11_code
def y_Mo_fail : MethodName := ⟨R_Mo, "fail", "(I)V"⟩
abbrev b_Mo_fail : ByteArray := prog_13_method_12_code
def y_Mo_isGood : MethodName := ⟨R_Mo, "isGood", "()Z"⟩
abbrev b_Mo_isGood : ByteArray := prog_13_method_13_code
def y_Mo_next : MethodName := ⟨R_Mo, "next", "()I"⟩
abbrev b_Mo_next : ByteArray := prog_13_method_14_code
def y_Mo_give : MethodName := ⟨R_Mo, "give", "(I)V"⟩
abbrev b_Mo_give : ByteArray := prog_13_method_15_code
def y_Mo_bit : MethodName := ⟨R_Mo, "bit", "()I"⟩
abbrev b_Mo_bit : ByteArray := prog_13_method_16_code
def y_Mo_number : MethodName := ⟨R_Mo, "number", "(I)I"⟩
abbrev b_Mo_number : ByteArray := prog_13_method_17_code
def y_Mo_makeCodes : MethodName := ⟨R_Mo, "makeCodes", "(II)V"⟩
abbrev b_Mo_makeCodes : ByteArray := prog_13_method_18_code
def y_Mo_isWhole : MethodName := ⟨R_Mo, "isWhole", "(IIZ)Z"⟩
abbrev b_Mo_isWhole : ByteArray := prog_13_method_19_code
def y_Mo_symbol : MethodName := ⟨R_Mo, "symbol", "(II)I"⟩
abbrev b_Mo_symbol : ByteArray := prog_13_method_20_code
def y_Mo_fixCodes : MethodName := ⟨R_Mo, "fixCodes", "()V"⟩
abbrev b_Mo_fixCodes : ByteArray := prog_13_method_21_code
def y_Mo_orderOf : MethodName := ⟨R_Mo, "orderOf", "(I)I"⟩
abbrev b_Mo_orderOf : ByteArray := prog_13_method_22_code
def y_Mo_readCodes : MethodName := ⟨R_Mo, "readCodes", "()V"⟩
abbrev b_Mo_readCodes : ByteArray := prog_13_method_23_code
def y_Mo_readLengths : MethodName := ⟨R_Mo, "readLengths", "(II)V"⟩
abbrev b_Mo_readLengths : ByteArray := prog_13_method_24_code
def y_Mo_lengthOf : MethodName := ⟨R_Mo, "lengthOf", "(I)I"⟩
abbrev b_Mo_lengthOf : ByteArray := prog_13_method_25_code
def y_Mo_lengthBits : MethodName := ⟨R_Mo, "lengthBits", "(I)I"⟩
abbrev b_Mo_lengthBits : ByteArray := prog_13_method_26_code
def y_Mo_distanceBits : MethodName := ⟨R_Mo, "distanceBits", "(I)I"⟩
abbrev b_Mo_distanceBits : ByteArray := prog_13_method_27_code
def y_Mo_distanceOf : MethodName := ⟨R_Mo, "distanceOf", "(I)I"⟩
abbrev b_Mo_distanceOf : ByteArray := prog_13_method_28_code
def y_Mo_match : MethodName := ⟨R_Mo, "match", "(I)V"⟩
abbrev b_Mo_match : ByteArray := prog_13_method_29_code
def y_Mo_coded : MethodName := ⟨R_Mo, "coded", "()V"⟩
abbrev b_Mo_coded : ByteArray := prog_13_method_30_code
def y_Mo_stored : MethodName := ⟨R_Mo, "stored", "()V"⟩
abbrev b_Mo_stored : ByteArray := prog_13_method_31_code
def y_Mo_flate : MethodName := ⟨R_Mo, "flate", "()V"⟩
abbrev b_Mo_flate : ByteArray := prog_13_method_32_code
def y_Mo_block : MethodName := ⟨R_Mo, "block", "(I)V"⟩
abbrev b_Mo_block : ByteArray := prog_13_method_33_code
def y_Mo_check : MethodName := ⟨R_Mo, "check", "()J"⟩
abbrev b_Mo_check : ByteArray := prog_13_method_34_code
def y_Mo_wideCode : MethodName := ⟨R_Mo, "wideCode", "(I)I"⟩
abbrev b_Mo_wideCode : ByteArray := prog_13_method_35_code
def y_Mo_firstOf : MethodName := ⟨R_Mo, "firstOf", "(I)I"⟩
abbrev b_Mo_firstOf : ByteArray := prog_13_method_36_code
def y_Mo_byteOf : MethodName := ⟨R_Mo, "byteOf", "(II)I"⟩
abbrev b_Mo_byteOf : ByteArray := prog_13_method_37_code
def y_Mo_widthOf : MethodName := ⟨R_Mo, "widthOf", "(I)I"⟩
abbrev b_Mo_widthOf : ByteArray := prog_13_method_38_code
def y_Mo_lzw : MethodName := ⟨R_Mo, "lzw", "(I)V"⟩
abbrev b_Mo_lzw : ByteArray := prog_13_method_39_code
def y_Mo_isWhite : MethodName := ⟨R_Mo, "isWhite", "(I)Z"⟩
abbrev b_Mo_isWhite : ByteArray := prog_13_method_40_code
def y_Mo_giveWord : MethodName := ⟨R_Mo, "giveWord", "(JI)V"⟩
abbrev b_Mo_giveWord : ByteArray := prog_13_method_41_code
def y_Mo_text85 : MethodName := ⟨R_Mo, "text85", "()V"⟩
abbrev b_Mo_text85 : ByteArray := prog_13_method_42_code
def y_Mo_digit : MethodName := ⟨R_Mo, "digit", "(I)I"⟩
abbrev b_Mo_digit : ByteArray := prog_13_method_43_code
def y_Mo_hexadecimal : MethodName := ⟨R_Mo, "hexadecimal", "()V"⟩
abbrev b_Mo_hexadecimal : ByteArray := prog_13_method_44_code
def y_Mo_runs : MethodName := ⟨R_Mo, "runs", "()V"⟩
abbrev b_Mo_runs : ByteArray := prog_13_method_45_code
def y_Mo_bitAt : MethodName := ⟨R_Mo, "bitAt", "(II)I"⟩
abbrev b_Mo_bitAt : ByteArray := prog_13_method_46_code
def y_Mo_numberAt : MethodName := ⟨R_Mo, "numberAt", "(III)I"⟩
abbrev b_Mo_numberAt : ByteArray := prog_13_method_47_code
def y_Mo_setNumber : MethodName := ⟨R_Mo, "setNumber", "(IIII)V"⟩
abbrev b_Mo_setNumber : ByteArray := prog_13_method_48_code
def y_Mo_rowBytes : MethodName := ⟨R_Mo, "rowBytes", "(I)I"⟩
abbrev b_Mo_rowBytes : ByteArray := prog_13_method_49_code
def y_Mo_addRows : MethodName := ⟨R_Mo, "addRows", "(I)V"⟩
abbrev b_Mo_addRows : ByteArray := prog_13_method_50_code
def y_Mo_far : MethodName := ⟨R_Mo, "far", "(II)I"⟩
abbrev b_Mo_far : ByteArray := prog_13_method_51_code
def y_Mo_nearest : MethodName := ⟨R_Mo, "nearest", "(III)I"⟩
abbrev b_Mo_nearest : ByteArray := prog_13_method_52_code
def y_Mo_added : MethodName := ⟨R_Mo, "added", "(IIII)I"⟩
abbrev b_Mo_added : ByteArray := prog_13_method_53_code
def y_Mo_undoRows : MethodName := ⟨R_Mo, "undoRows", "(I)Z"⟩
abbrev b_Mo_undoRows : ByteArray := prog_13_method_54_code
def y_Mo_run : MethodName := ⟨R_Mo, "run", "(I)V"⟩
abbrev b_Mo_run : ByteArray := prog_13_method_55_code
def y_Mo_decode : MethodName := ⟨R_Mo, "decode", "()I"⟩
abbrev b_Mo_decode : ByteArray := prog_13_method_56_code
def y_Mo_at : MethodName := ⟨R_Mo, "at", "(I)I"⟩
abbrev b_Mo_at : ByteArray := prog_13_method_57_code
def y_Mo_fault : MethodName := ⟨R_Mo, "fault", "(I)I"⟩
abbrev b_Mo_fault : ByteArray := prog_13_method_58_code
def y_Mo_keep : MethodName := ⟨R_Mo, "keep", "()I"⟩
abbrev b_Mo_keep : ByteArray := prog_13_method_59_code
def y_By_init : MethodName := ⟨R_By, "<init>", "(I)V"⟩
abbrev b_By_init : ByteArray := prog_2_method_1_code
def y_By_byteAt : MethodName := ⟨R_By, "byteAt", "(I)I"⟩
abbrev b_By_byteAt : ByteArray := prog_2_method_2_code
def y_By_change : MethodName := ⟨R_By, "change", "(II)V"⟩
abbrev b_By_change : ByteArray := prog_2_method_3_code
def y_By_add : MethodName := ⟨R_By, "add", "(I)V"⟩
abbrev b_By_add : ByteArray := prog_2_method_4_code
def y_By_addFour : MethodName := ⟨R_By, "addFour", "(I)V"⟩
abbrev b_By_addFour : ByteArray := prog_2_method_5_code
def y_By_become : MethodName := ⟨R_By, "become", "(LStreamFilters$Bytes;)V"⟩
abbrev b_By_become : ByteArray := prog_2_method_6_code
def y_Co_init : MethodName := ⟨R_Co, "<init>", "(I)V"⟩
abbrev b_Co_init : ByteArray := prog_3_method_1_code
def y_Co_build : MethodName := ⟨R_Co, "build", "([III)V"⟩
abbrev b_Co_build : ByteArray := prog_3_method_2_code
def y_Co_count : MethodName := ⟨R_Co, "count", "([III)V"⟩
abbrev b_Co_count : ByteArray := prog_3_method_3_code
def y_Co_isLength : MethodName := ⟨R_Co, "isLength", "(I)Z"⟩
abbrev b_Co_isLength : ByteArray := prog_3_method_4_code
def y_Co_isEmpty : MethodName := ⟨R_Co, "isEmpty", "()Z"⟩
abbrev b_Co_isEmpty : ByteArray := prog_3_method_5_code
def y_Co_isGood : MethodName := ⟨R_Co, "isGood", "()Z"⟩
abbrev b_Co_isGood : ByteArray := prog_3_method_6_code
def y_Co_read : MethodName := ⟨R_Co, "read", "(LStreamFilters$Pass;)I"⟩
abbrev b_Co_read : ByteArray := prog_3_method_7_code
def y_Fl_init : MethodName := ⟨R_Fl, "<init>", "()V"⟩
abbrev b_Fl_init : ByteArray := prog_4_method_1_code
def y_Fl_unpack : MethodName := ⟨R_Fl, "unpack", "(LStreamFilters$Pass;I)V"⟩
abbrev b_Fl_unpack : ByteArray := prog_4_method_2_code
def y_Fl_readHeader : MethodName := ⟨R_Fl, "readHeader", "(LStreamFilters$Pass;)Z"⟩
abbrev b_Fl_readHeader : ByteArray := prog_4_method_3_code
def y_Fl_unpackStored : MethodName := ⟨R_Fl, "unpackStored", "(LStreamFilters$Pass;)Z"⟩
abbrev b_Fl_unpackStored : ByteArray := prog_4_method_4_code
def y_Fl_readShort : MethodName := ⟨R_Fl, "readShort", "(LStreamFilters$Pass;)I"⟩
abbrev b_Fl_readShort : ByteArray := prog_4_method_5_code
def y_Fl_readCodes : MethodName := ⟨R_Fl, "readCodes", "(LStreamFilters$Pass;)Z"⟩
abbrev b_Fl_readCodes : ByteArray := prog_4_method_6_code
def y_Fl_readLengthCodes : MethodName := ⟨R_Fl, "readLengthCodes", "(LStreamFilters$Pass;I)Z"⟩
abbrev b_Fl_readLengthCodes : ByteArray := prog_4_method_7_code
def y_Fl_readLengths : MethodName := ⟨R_Fl, "readLengths", "(LStreamFilters$Pass;I)Z"⟩
abbrev b_Fl_readLengths : ByteArray := prog_4_method_8_code
def y_Fl_readTimes : MethodName := ⟨R_Fl, "readTimes", "(LStreamFilters$Pass;I)I"⟩
abbrev b_Fl_readTimes : ByteArray := prog_4_method_9_code
def y_Fl_unpackCodes : MethodName := ⟨R_Fl, "unpackCodes", "(LStreamFilters$Pass;LStreamFilters$Codes;LStreamFilters$Codes;)Z"⟩
abbrev b_Fl_unpackCodes : ByteArray := prog_4_method_10_code
def y_Fl_copy : MethodName := ⟨R_Fl, "copy", "(LStreamFilters$Pass;ILStreamFilters$Codes;)Z"⟩
abbrev b_Fl_copy : ByteArray := prog_4_method_11_code
def y_Fl_readDistance : MethodName := ⟨R_Fl, "readDistance", "(LStreamFilters$Pass;LStreamFilters$Codes;)I"⟩
abbrev b_Fl_readDistance : ByteArray := prog_4_method_12_code
def y_Fl_compareCheck : MethodName := ⟨R_Fl, "compareCheck", "(LStreamFilters$Pass;)V"⟩
abbrev b_Fl_compareCheck : ByteArray := prog_4_method_13_code
def y_Fl_checkOf : MethodName := ⟨R_Fl, "checkOf", "(LStreamFilters$Bytes;)J"⟩
abbrev b_Fl_checkOf : ByteArray := prog_4_method_14_code
def y_Hx_init : MethodName := ⟨R_Hx, "<init>", "()V"⟩
abbrev b_Hx_init : ByteArray := prog_5_method_1_code
def y_Hx_unpack : MethodName := ⟨R_Hx, "unpack", "(LStreamFilters$Pass;I)V"⟩
abbrev b_Hx_unpack : ByteArray := prog_5_method_2_code
def y_Hx_digitOf : MethodName := ⟨R_Hx, "digitOf", "(I)I"⟩
abbrev b_Hx_digitOf : ByteArray := prog_5_method_3_code
def y_Le_init : MethodName := ⟨R_Le, "<init>", "()V"⟩
abbrev b_Le_init : ByteArray := prog_6_method_1_code
def y_Le_unpack : MethodName := ⟨R_Le, "unpack", "(LStreamFilters$Pass;I)V"⟩
abbrev b_Le_unpack : ByteArray := prog_6_method_2_code
def y_Le_giveRun : MethodName := ⟨R_Le, "giveRun", "(LStreamFilters$Pass;I)Z"⟩
abbrev b_Le_giveRun : ByteArray := prog_6_method_3_code
def y_Li_init : MethodName := ⟨R_Li, "<init>", "()V"⟩
abbrev b_Li_init : ByteArray := prog_7_method_1_code
def y_Li_begin : MethodName := ⟨R_Li, "begin", "(II)V"⟩
abbrev b_Li_begin : ByteArray := prog_7_method_2_code
def y_Li_shape : MethodName := ⟨R_Li, "shape", "(IIII)V"⟩
abbrev b_Li_shape : ByteArray := prog_7_method_3_code
def y_Li_undo : MethodName := ⟨R_Li, "undo", "(LStreamFilters$Bytes;)Z"⟩
abbrev b_Li_undo : ByteArray := prog_7_method_4_code
def y_Li_rowSize : MethodName := ⟨R_Li, "rowSize", "()I"⟩
abbrev b_Li_rowSize : ByteArray := prog_7_method_5_code
def y_Li_undoNumbers : MethodName := ⟨R_Li, "undoNumbers", "(LStreamFilters$Bytes;)V"⟩
abbrev b_Li_undoNumbers : ByteArray := prog_7_method_6_code
def y_Li_numberAt : MethodName := ⟨R_Li, "numberAt", "(LStreamFilters$Bytes;II)I"⟩
abbrev b_Li_numberAt : ByteArray := prog_7_method_7_code
def y_Li_setNumber : MethodName := ⟨R_Li, "setNumber", "(LStreamFilters$Bytes;III)V"⟩
abbrev b_Li_setNumber : ByteArray := prog_7_method_8_code
def y_Li_shiftOf : MethodName := ⟨R_Li, "shiftOf", "(I)I"⟩
abbrev b_Li_shiftOf : ByteArray := prog_7_method_9_code
def y_Li_mask : MethodName := ⟨R_Li, "mask", "()I"⟩
abbrev b_Li_mask : ByteArray := prog_7_method_10_code
def y_Li_undoTags : MethodName := ⟨R_Li, "undoTags", "(LStreamFilters$Bytes;)Z"⟩
abbrev b_Li_undoTags : ByteArray := prog_7_method_11_code
def y_Li_undoRow : MethodName := ⟨R_Li, "undoRow", "(LStreamFilters$Bytes;IIII)V"⟩
abbrev b_Li_undoRow : ByteArray := prog_7_method_12_code
def y_Li_guessOf : MethodName := ⟨R_Li, "guessOf", "(IIII)I"⟩
abbrev b_Li_guessOf : ByteArray := prog_7_method_13_code
def y_Li_nearest : MethodName := ⟨R_Li, "nearest", "(III)I"⟩
abbrev b_Li_nearest : ByteArray := prog_7_method_14_code
def y_Lz_init : MethodName := ⟨R_Lz, "<init>", "()V"⟩
abbrev b_Lz_init : ByteArray := prog_8_method_1_code
def y_Lz_unpack : MethodName := ⟨R_Lz, "unpack", "(LStreamFilters$Pass;I)V"⟩
abbrev b_Lz_unpack : ByteArray := prog_8_method_2_code
def y_Lz_clear : MethodName := ⟨R_Lz, "clear", "()V"⟩
abbrev b_Lz_clear : ByteArray := prog_8_method_3_code
def y_Lz_widthFor : MethodName := ⟨R_Lz, "widthFor", "(I)I"⟩
abbrev b_Lz_widthFor : ByteArray := prog_8_method_4_code
def y_Lz_giveString : MethodName := ⟨R_Lz, "giveString", "(LStreamFilters$Pass;I)Z"⟩
abbrev b_Lz_giveString : ByteArray := prog_8_method_5_code
def y_Lz_sizeOf : MethodName := ⟨R_Lz, "sizeOf", "(I)I"⟩
abbrev b_Lz_sizeOf : ByteArray := prog_8_method_6_code
def y_Lz_startOf : MethodName := ⟨R_Lz, "startOf", "(I)I"⟩
abbrev b_Lz_startOf : ByteArray := prog_8_method_7_code
def y_Lz_makeString : MethodName := ⟨R_Lz, "makeString", "()V"⟩
abbrev b_Lz_makeString : ByteArray := prog_8_method_8_code
def y_Pa_init : MethodName := ⟨R_Pa, "<init>", "()V"⟩
abbrev b_Pa_init : ByteArray := prog_9_method_1_code
def y_Pa_begin : MethodName := ⟨R_Pa, "begin", "(LStreamFilters$Bytes;LStreamFilters$Bytes;)V"⟩
abbrev b_Pa_begin : ByteArray := prog_9_method_2_code
def y_Pa_fail : MethodName := ⟨R_Pa, "fail", "(I)Z"⟩
abbrev b_Pa_fail : ByteArray := prog_9_method_3_code
def y_Pa_nextByte : MethodName := ⟨R_Pa, "nextByte", "()I"⟩
abbrev b_Pa_nextByte : ByteArray := prog_9_method_4_code
def y_Pa_nextSign : MethodName := ⟨R_Pa, "nextSign", "()I"⟩
abbrev b_Pa_nextSign : ByteArray := prog_9_method_5_code
def y_Pa_isBlank : MethodName := ⟨R_Pa, "isBlank", "(I)Z"⟩
abbrev b_Pa_isBlank : ByteArray := prog_9_method_6_code
def y_Pa_nextBit : MethodName := ⟨R_Pa, "nextBit", "(Z)I"⟩
abbrev b_Pa_nextBit : ByteArray := prog_9_method_7_code
def y_Pa_lowNumber : MethodName := ⟨R_Pa, "lowNumber", "(I)I"⟩
abbrev b_Pa_lowNumber : ByteArray := prog_9_method_8_code
def y_Pa_highNumber : MethodName := ⟨R_Pa, "highNumber", "(I)I"⟩
abbrev b_Pa_highNumber : ByteArray := prog_9_method_9_code
def y_Pa_give : MethodName := ⟨R_Pa, "give", "(I)Z"⟩
abbrev b_Pa_give : ByteArray := prog_9_method_10_code
def y_Pa_giveTimes : MethodName := ⟨R_Pa, "giveTimes", "(II)Z"⟩
abbrev b_Pa_giveTimes : ByteArray := prog_9_method_11_code
def y_Pa_giveAgain : MethodName := ⟨R_Pa, "giveAgain", "(II)Z"⟩
abbrev b_Pa_giveAgain : ByteArray := prog_9_method_12_code
def y_Pa_giveAsTheyAre : MethodName := ⟨R_Pa, "giveAsTheyAre", "(I)Z"⟩
abbrev b_Pa_giveAsTheyAre : ByteArray := prog_9_method_13_code
def y_T8_init : MethodName := ⟨R_T8, "<init>", "()V"⟩
abbrev b_T8_init : ByteArray := prog_10_method_1_code
def y_T8_unpack : MethodName := ⟨R_T8, "unpack", "(LStreamFilters$Pass;I)V"⟩
abbrev b_T8_unpack : ByteArray := prog_10_method_2_code
def y_T8_addDigit : MethodName := ⟨R_T8, "addDigit", "(I)V"⟩
abbrev b_T8_addDigit : ByteArray := prog_10_method_3_code
def y_T8_giveNumber : MethodName := ⟨R_T8, "giveNumber", "(LStreamFilters$Pass;I)Z"⟩
abbrev b_T8_giveNumber : ByteArray := prog_10_method_4_code
def y_T8_finish : MethodName := ⟨R_T8, "finish", "(LStreamFilters$Pass;)V"⟩
abbrev b_T8_finish : ByteArray := prog_10_method_5_code
def y_Un_init : MethodName := ⟨R_Un, "<init>", "()V"⟩
abbrev b_Un_init : ByteArray := prog_11_method_1_code
def y_La_put : MethodName := ⟨R_La, "put", "(LStreamFilters;II[J)I"⟩
abbrev b_La_put : ByteArray := method_3_code
def y_La_cut : MethodName := ⟨R_La, "cut", "(LStreamFilters;I[J)I"⟩
abbrev b_La_cut : ByteArray := method_4_code
def y_La_filter : MethodName := ⟨R_La, "filter", "(LStreamFilters;II[J)I"⟩
abbrev b_La_filter : ByteArray := method_5_code
def y_La_predict : MethodName := ⟨R_La, "predict", "(LStreamFilters;IIII)I"⟩
abbrev b_La_predict : ByteArray := method_6_code
def y_La_budget : MethodName := ⟨R_La, "budget", "(LStreamFilters;I[J)I"⟩
abbrev b_La_budget : ByteArray := method_7_code
def y_La_keep : MethodName := ⟨R_La, "keep", "(LStreamFilters;[J)I"⟩
abbrev b_La_keep : ByteArray := method_8_code
def y_La_law : MethodName := ⟨R_La, "law", "([I)Z"⟩
theorem wmax_1 : Cond.static Lib.Math.max.name ∈ mGood := mg_of (i := 93) (by decide +kernel) rfl
theorem wmath : Cond.initialized "java/lang/Math" ∈ mGood := mg_of (i := 60) (by decide +kernel) rfl
theorem wmin_1 : Cond.static Lib.Math.min.name ∈ mGood := mg_of (i := 368) (by decide +kernel) rfl
theorem wabs_1 : Cond.static Lib.Math.abs.name ∈ mGood := mg_of (i := 628) (by decide +kernel) rfl
theorem wcopy_1 : Cond.native arraycopyName ∈ mGood := mg_of (i := 372) (by decide +kernel) rfl
theorem wcopy_2 : Cond.static arraycopyName ∈ mGood := mg_of (i := 371) (by decide +kernel) rfl
theorem wsystem : Cond.initialized "java/lang/System" ∈ mGood := mg_of (i := 77) (by decide +kernel) rfl
theorem wmax_2 : Cond.code Lib.Math.max.name Lib.Math.max.code 2 (some .int) ∈ mGood := mg_of (i := 94) (by decide +kernel) rfl
theorem wmin_2 : Cond.code Lib.Math.min.name Lib.Math.min.code 2 (some .int) ∈ mGood := mg_of (i := 369) (by decide +kernel) rfl
theorem wabs_2 : Cond.code Lib.Math.abs.name Lib.Math.abs.code 1 (some .int) ∈ mGood := mg_of (i := 629) (by decide +kernel) rfl
end
section
/-! HEAPS BY NUMBERS. A cell's number is its place in the list; 'ad' tells where it lies. A method's own function (f_..) speaks of numbers alone; the rows here say that the machine does as the function says. -/
abbrev mE : Type := (FieldType × vp_A) ⊕ (Nat × List Value)
abbrev mH : Type := List mE
def mv (ad : Nat → Nat) : Value → Value
  | .ref i => .ref (ad i)
  | v => v
def mg (ad : Nat → Nat) (f : Nat → Option Nat) : Nat → Option Nat := fun k => (f k).map ad
def ma (ad : Nat → Nat) (a : vp_A) : vp_A := match a with
  | (n, .inl f) => (n, .inl f)
  | (n, .inr (.inl f)) => (n, .inr (.inl f))
  | (n, .inr (.inr (.inl f))) => (n, .inr (.inr (.inl f)))
  | (n, .inr (.inr (.inr (.inl f)))) => (n, .inr (.inr (.inr (.inl f))))
  | (n, .inr (.inr (.inr (.inr f)))) => (n, .inr (.inr (.inr (.inr (mg ad f)))))
def me (ad : Nat → Nat) (kA : FieldType → ClassId) (q : mE) : va_E := match q with
  | .inl (ty, a) => .inl (kA ty, ma ad a)
  | .inr (ci, fs) => .inr (ci, fs.map (mv ad))
def mW (ad : Nat → Nat) (kA : FieldType → ClassId) (h : mH) : va_W := h.mapIdx (fun i q => (ad i, me ad kA q))
theorem mW_get {ad : Nat → Nat} {kA : FieldType → ClassId} {h : mH} {i : Nat} {q : mE} (hi : h[i]? = some q) : (mW ad kA h)[i]? = some (ad i, me ad kA q) := by
  simp [mW, List.getElem?_mapIdx, hi]
theorem mW_set {ad : Nat → Nat} {kA : FieldType → ClassId} {h : mH} {i : Nat} {q : mE} : (mW ad kA h).set i (ad i, me ad kA q) = mW ad kA (h.set i q) := by
  apply List.ext_getElem?
  intro j
  simp only [mW, List.getElem?_mapIdx, List.getElem?_set, List.length_mapIdx]
  by_cases hij : i = j
  · subst hij
    by_cases hl : i < h.length
    · simp [hl]
    · simp [hl]
  · simp [hij]
theorem mv_cat (ad : Nat → Nat) (v : Value) : (mv ad v).category = v.category := by cases v <;> rfl
def ml (ad : Nat → Nat) (lv : List (Nat × Value)) : List (Nat × Value) := lv.map (fun q => (q.1, mv ad q.2))
theorem ml_get {ad : Nat → Nat} {lv : List (Nat × Value)} {k i : Nat} {v : Value} (h : lv[k]? = some (i, v)) : (ml ad lv)[k]? = some (i, mv ad v) := by
  simp [ml, h]
theorem ml_st1 {ad : Nat → Nat} {lv lv' : List (Nat × Value)} {i : Nat} {v : Value} (h : (i, v) :: lv.filter (fun q => !(q.1 == i) && !(q.1 + 1 == i && q.2.category == 2)) = lv') : (i, mv ad v) :: (ml ad lv).filter (fun q => !(q.1 == i) && !(q.1 + 1 == i && q.2.category == 2)) = ml ad lv' := by
  subst h
  simp only [ml, List.map_cons, List.filter_map]
  congr 2
  apply List.filter_congr
  intro q _
  simp [mv_cat]
theorem ml_st2 {ad : Nat → Nat} {lv lv' : List (Nat × Value)} {i : Nat} {v : Value} (h : (i, v) :: lv.filter (fun q => !(q.1 == i) && (!(q.1 == i + 1) && !(q.1 + 1 == i && q.2.category == 2))) = lv') : (i, mv ad v) :: (ml ad lv).filter (fun q => !(q.1 == i) && (!(q.1 == i + 1) && !(q.1 + 1 == i && q.2.category == 2))) = ml ad lv' := by
  subst h
  simp only [ml, List.map_cons, List.filter_map]
  congr 2
  apply List.filter_congr
  intro q _
  simp [mv_cat]
theorem ml_pick {ad : Nat → Nat} {lv lv' : List (Nat × Value)} {ks : List Nat} (h : lv_pick lv ks = lv') : lv_pick (ml ad lv) ks = ml ad lv' := by
  subst h
  simp only [lv_pick, ml, List.map_filterMap, List.getElem?_map]
/-! THE WORDS of the methods' functions: each reads or writes the cells, and is none where the machine would not go on so -/
def mgi {α : Type} (h : mH) (i ci k : Nat) (F : Int32 → Option α) : Option α := match h[i]? with
  | some (.inr (c, fs)) => if c = ci then (match fs[k]? with | some (.int v) => F v | _ => none) else none
  | _ => none
def mgl {α : Type} (h : mH) (i ci k : Nat) (F : Int64 → Option α) : Option α := match h[i]? with
  | some (.inr (c, fs)) => if c = ci then (match fs[k]? with | some (.long v) => F v | _ => none) else none
  | _ => none
def mgr {α : Type} (h : mH) (i ci k : Nat) (F : Nat → Option α) : Option α := match h[i]? with
  | some (.inr (c, fs)) => if c = ci then (match fs[k]? with | some (.ref v) => F v | _ => none) else none
  | _ => none
def mpt {α : Type} (h : mH) (i ci k : Nat) (v : Value) (F : mH → Option α) : Option α := match h[i]? with
  | some (.inr (c, fs)) => if c = ci ∧ k < fs.length then F (h.set i (.inr (ci, fs.set k v))) else none
  | _ => none
def mai {α : Type} (h : mH) (a : Nat) (ty : FieldType) (j : Int32) (F : Int32 → Option α) : Option α := match h[a]? with
  | some (.inl (t, (n, .inl f))) => if t = ty ∧ ¬ (j < 0 ∨ n ≤ j.toNatClampNeg) then F (f j.toNatClampNeg) else none
  | _ => none
def mas {α : Type} (h : mH) (a : Nat) (ty : FieldType) (j x : Int32) (F : mH → Option α) : Option α := match h[a]? with
  | some (.inl (t, (n, .inl f))) => if t = ty ∧ ¬ (j < 0 ∨ n ≤ j.toNatClampNeg) then F (h.set a (.inl (ty, (n, .inl (upd f j.toNatClampNeg x))))) else none
  | _ => none
def mar {α : Type} (h : mH) (a : Nat) (ty : FieldType) (j : Int32) (F : Nat → Option α) : Option α := match h[a]? with
  | some (.inl (t, (n, .inr (.inr (.inr (.inr f)))))) => if t = ty ∧ ¬ (j < 0 ∨ n ≤ j.toNatClampNeg) then (match f j.toNatClampNeg with | some r => F r | none => none) else none
  | _ => none
def mln {α : Type} (h : mH) (a : Nat) (ty : FieldType) (F : Int32 → Option α) : Option α := match h[a]? with
  | some (.inl (t, x)) => if t = ty then F (nI x.1) else none
  | _ => none
def mcl {α β : Type} (x : Option (α × mH)) (F : α → mH → Option β) : Option β := match x with
  | some (r, h) => F r h
  | none => none
def mis {α : Type} (h : mH) (i ci : Nat) (F : Option α) : Option α := match h[i]? with
  | some (.inr (c, _)) => if c = ci then F else none
  | _ => none
noncomputable def mgd {α : Type} (P : Prop) (F : Option α) : Option α := @ite _ P (Classical.propDecidable P) F none
def msl {α : Type} (f : Nat → Int32) (n : Nat) (j : Int32) (F : Int32 → Option α) : Option α := if ¬ (j < 0 ∨ n ≤ j.toNatClampNeg) then F (f j.toNatClampNeg) else none
def mnm {α β : Type} (x : β) (F : β → Option α) : Option α := F x
section mWords
variable {α β : Type} {h : mH} {i ci k a : Nat} {ty : FieldType} {j x : Int32} {r : α}
theorem mgi_some {F : Int32 → Option α} (hh : mgi h i ci k F = some r) : ∃ (fs : List Value) (v : Int32), h[i]? = some (.inr (ci, fs)) ∧ fs[k]? = some (.int v) ∧ F v = some r := by
  unfold mgi at hh
  split at hh
  · rename_i c fs e
    split at hh
    · rename_i hc
      subst hc
      split at hh
      · rename_i v hv
        exact ⟨fs, v, e, hv, hh⟩
      · cases hh
    · cases hh
  · cases hh
theorem mgl_some {F : Int64 → Option α} (hh : mgl h i ci k F = some r) : ∃ (fs : List Value) (v : Int64), h[i]? = some (.inr (ci, fs)) ∧ fs[k]? = some (.long v) ∧ F v = some r := by
  unfold mgl at hh
  split at hh
  · rename_i c fs e
    split at hh
    · rename_i hc
      subst hc
      split at hh
      · rename_i v hv
        exact ⟨fs, v, e, hv, hh⟩
      · cases hh
    · cases hh
  · cases hh
theorem mgr_some {F : Nat → Option α} (hh : mgr h i ci k F = some r) : ∃ (fs : List Value) (v : Nat), h[i]? = some (.inr (ci, fs)) ∧ fs[k]? = some (.ref v) ∧ F v = some r := by
  unfold mgr at hh
  split at hh
  · rename_i c fs e
    split at hh
    · rename_i hc
      subst hc
      split at hh
      · rename_i v hv
        exact ⟨fs, v, e, hv, hh⟩
      · cases hh
    · cases hh
  · cases hh
theorem mpt_some {v : Value} {F : mH → Option α} (hh : mpt h i ci k v F = some r) : ∃ (fs : List Value) (h' : mH), h[i]? = some (.inr (ci, fs)) ∧ k < fs.length ∧ h' = h.set i (.inr (ci, fs.set k v)) ∧ F h' = some r := by
  unfold mpt at hh
  split at hh
  · rename_i c fs e
    split at hh
    · rename_i hc
      obtain ⟨rfl, hk⟩ := hc
      exact ⟨fs, _, e, hk, rfl, hh⟩
    · cases hh
  · cases hh
theorem mai_some {F : Int32 → Option α} (hh : mai h a ty j F = some r) : ∃ (n : Nat) (f : Nat → Int32) (v : Int32), h[a]? = some (.inl (ty, (n, .inl f))) ∧ vp_in j n ∧ f j.toNatClampNeg = v ∧ F v = some r := by
  unfold mai at hh
  split at hh
  · rename_i t n f e
    split at hh
    · rename_i hc
      obtain ⟨rfl, hk⟩ := hc
      exact ⟨n, f, _, e, hk, rfl, hh⟩
    · cases hh
  · cases hh
theorem mas_some {F : mH → Option α} (hh : mas h a ty j x F = some r) : ∃ (n : Nat) (f : Nat → Int32) (h' : mH), h[a]? = some (.inl (ty, (n, .inl f))) ∧ vp_in j n ∧ h' = h.set a (.inl (ty, (n, .inl (upd f j.toNatClampNeg x)))) ∧ F h' = some r := by
  unfold mas at hh
  split at hh
  · rename_i t n f e
    split at hh
    · rename_i hc
      obtain ⟨rfl, hk⟩ := hc
      exact ⟨n, f, _, e, hk, rfl, hh⟩
    · cases hh
  · cases hh
theorem mar_some {F : Nat → Option α} (hh : mar h a ty j F = some r) : ∃ (n : Nat) (f : Nat → Option Nat) (v : Nat), h[a]? = some (.inl (ty, (n, .inr (.inr (.inr (.inr f)))))) ∧ vp_in j n ∧ f j.toNatClampNeg = some v ∧ F v = some r := by
  unfold mar at hh
  split at hh
  · rename_i t n f e
    split at hh
    · rename_i hc
      obtain ⟨rfl, hk⟩ := hc
      split at hh
      · rename_i v hv
        exact ⟨n, f, v, e, hk, hv, hh⟩
      · cases hh
    · cases hh
  · cases hh
theorem mln_some {F : Int32 → Option α} (hh : mln h a ty F = some r) : ∃ (x : vp_A) (v : Int32), h[a]? = some (.inl (ty, x)) ∧ nI x.1 = v ∧ F v = some r := by
  unfold mln at hh
  split at hh
  · rename_i t x e
    split at hh
    · rename_i hc
      subst hc
      exact ⟨x, _, e, rfl, hh⟩
    · cases hh
  · cases hh
theorem mcl_some {x : Option (β × mH)} {F : β → mH → Option α} (hh : mcl x F = some r) : ∃ (b : β) (h' : mH), x = some (b, h') ∧ F b h' = some r := by
  unfold mcl at hh
  split at hh
  · exact ⟨_, _, rfl, hh⟩
  · cases hh
theorem mis_some {F : Option α} (hh : mis h i ci F = some r) : ∃ fs : List Value, h[i]? = some (.inr (ci, fs)) ∧ F = some r := by
  unfold mis at hh
  split at hh
  · rename_i c fs e
    split at hh
    · rename_i hc
      subst hc
      exact ⟨fs, e, hh⟩
    · cases hh
  · cases hh
theorem mgd_some {P : Prop} {F : Option α} (hh : mgd P F = some r) : P ∧ F = some r := by
  unfold mgd at hh
  split at hh
  · rename_i hp
    exact ⟨hp, hh⟩
  · cases hh
theorem msl_some {f : Nat → Int32} {n : Nat} {F : Int32 → Option α} (hh : msl f n j F = some r) : ∃ v : Int32, vp_in j n ∧ f j.toNatClampNeg = v ∧ F v = some r := by
  unfold msl at hh
  split at hh
  · rename_i hp
    exact ⟨_, hp, rfl, hh⟩
  · cases hh
theorem mnm_some {x : β} {F : β → Option α} (hh : mnm x F = some r) : ∃ y : β, y = x ∧ F y = some r := ⟨x, rfl, hh⟩
end mWords
/-! what the words come to, where the cells are known -/
section mEv
variable {α β : Type} {h : mH} {i ci k a b : Nat} {ty : FieldType} {j x : Int32} {fs : List Value}
theorem mgi_ev {F : Int32 → Option α} {v : Int32} (hi : h[i]? = some (.inr (ci, fs))) (hk : fs[k]? = some (.int v)) : mgi h i ci k F = F v := by simp [mgi, hi, hk]
theorem mgl_ev {F : Int64 → Option α} {v : Int64} (hi : h[i]? = some (.inr (ci, fs))) (hk : fs[k]? = some (.long v)) : mgl h i ci k F = F v := by simp [mgl, hi, hk]
theorem mgr_ev {F : Nat → Option α} {v : Nat} (hi : h[i]? = some (.inr (ci, fs))) (hk : fs[k]? = some (.ref v)) : mgr h i ci k F = F v := by simp [mgr, hi, hk]
theorem mpt_ev {F : mH → Option α} {v : Value} (hi : h[i]? = some (.inr (ci, fs))) (hk : k < fs.length) : mpt h i ci k v F = F (h.set i (.inr (ci, fs.set k v))) := by simp [mpt, hi, hk]
theorem mai_ev {F : Int32 → Option α} {n : Nat} {f : Nat → Int32} (hi : h[a]? = some (.inl (ty, (n, .inl f)))) (hj : vp_in j n) : mai h a ty j F = F (f j.toNatClampNeg) := by
  have hj' : ¬ (j < 0 ∨ n ≤ j.toNatClampNeg) := hj
  simp only [mai, hi, true_and, hj', not_false_eq_true, if_true]
theorem mas_ev {F : mH → Option α} {n : Nat} {f : Nat → Int32} (hi : h[a]? = some (.inl (ty, (n, .inl f)))) (hj : vp_in j n) : mas h a ty j x F = F (h.set a (.inl (ty, (n, .inl (upd f j.toNatClampNeg x))))) := by
  have hj' : ¬ (j < 0 ∨ n ≤ j.toNatClampNeg) := hj
  simp only [mas, hi, true_and, hj', not_false_eq_true, if_true]
theorem mar_ev {F : Nat → Option α} {n r : Nat} {f : Nat → Option Nat} (hi : h[a]? = some (.inl (ty, (n, .inr (.inr (.inr (.inr f))))))) (hj : vp_in j n) (hr : f j.toNatClampNeg = some r) : mar h a ty j F = F r := by
  have hj' : ¬ (j < 0 ∨ n ≤ j.toNatClampNeg) := hj
  simp only [mar, hi, true_and, hj', not_false_eq_true, if_true, hr]
theorem mln_ev {F : Int32 → Option α} {x : vp_A} (hi : h[a]? = some (.inl (ty, x))) : mln h a ty F = F (nI x.1) := by simp [mln, hi]
theorem mcl_ev {x : Option (β × mH)} {F : β → mH → Option α} {r : β} {h' : mH} (hx : x = some (r, h')) : mcl x F = F r h' := by simp [mcl, hx]
theorem mis_ev {F : Option α} (hi : h[i]? = some (.inr (ci, fs))) : mis h i ci F = F := by simp [mis, hi]
theorem mgd_ev {P : Prop} {F : Option α} (hp : P) : mgd P F = F := by simp [mgd, hp]
theorem msl_ev {f : Nat → Int32} {n : Nat} {F : Int32 → Option α} (hj : vp_in j n) : msl f n j F = F (f j.toNatClampNeg) := by
  have hj' : ¬ (j < 0 ∨ n ≤ j.toNatClampNeg) := hj
  simp only [msl, hj', not_false_eq_true, if_true]
theorem mnm_ev {x : β} {F : β → Option α} : mnm x F = F x := rfl
end mEv
end
section
/-! THE JUDGEMENT mAW: the machine, at a method's frame, with the cells h, comes to X's end. -/
abbrev mX : Type := Program × Launch × Env × Room × State × MethodId × Array Value × List Frame × Method × Code × (State → Prop) × (Nat → Prop) × va_G × (FieldType → ClassId) × Nat
/-- the tables: classes, arrays, and the words that speak of nest mates -/
def mK (D : va_G) (kA : FieldType → ClassId) (U : State) : Prop := (∀ (c : Nat) (q : vw_C), classes[c]? = some q → u_Kn U q.1 q.2.1 q.2.2 (D.1 c) (D.2 c)) ∧ (∀ ty ∈ mTys, ArrOfT U (kA ty) ty ∧ va_RA U (kA ty) ty) ∧ ∀ w ∈ mNest, va_Nw w U
/-- the static arrays: class, name, descriptor, kind, length, what they hold; the k-th lies at ad (10000 + k) -/
def mT (ad : Nat → Nat) (A : Nat → Prop) (U : State) (H : Heap) : Prop := ∀ (k : Nat) (q : mSt), mSta[k]? = some q → va_Z q.1 q.2.1 q.2.2.1 (.ref (ad (10000 + k))) A U H ∧ va_T q.2.2.2.1 (ad (10000 + k)) q.2.2.2.2.1 (fun j => .int (q.2.2.2.2.2 j)) A U H
def mAW (X : mX) (ad : Nat → Nat) (cs ss pc : Nat) (lv : List (Nat × Value)) (st : List Value) (h : mH) : Prop := match X with
  | (p, l, e, R, s, m, args, below, meth, c, Q, A, D, kA, nL) => ∀ (H : Heap) (locs : List Loc) (ls : Array Slot), va_P D classes (mW ad kA h) H → va_D A (mW ad kA h) → va_S A s.heap H locs → lv_has ls nL (ml ad lv) → W p l e R s m args below meth c H locs cs ss Q (F0 m pc ls (st.map (mv ad)))
/-- what holds all through a method's body -/
def mO (X : mX) (ad : Nat → Nat) (own : String) (cc : ByteArray) (N : Nat) (Rm : Room) (ln : Launch) : Prop := match X with
  | (p, l, e, R, s, m, args, below, meth, c, Q, A, D, kA, nL) => (p.tables.exec = Jvm.exec ∧ c.code = cc ∧ c.maxLocals = nL ∧ s.vm.findClass own = some m.cls ∧ meth.locks = false ∧ nL = N ∧ R = Rm ∧ l = ln) ∧ (∀ w ∈ mGood, w.before args s = true) ∧ mK D kA s ∧ mT ad A s s.heap ∧ (∀ q, s.heap.size ≤ q → A q)
theorem mK.moved {D : va_G} {kA : FieldType → ClassId} {u U : State} (hW : u.WarmedH U.vm) (h : mK D kA u) : mK D kA U :=
  ⟨fun c q hq => u_Kn_moved hW.alike (h.1 c q hq), fun ty ht => ⟨arrOfT_moved hW.alike (h.2.1 ty ht).1, (h.2.1 ty ht).2.moved hW.alike⟩, fun w hw => mNest_warm w hw hW (h.2.2 w hw)⟩
theorem mK.same {D : va_G} {kA : FieldType → ClassId} {u U : State} (hvm : u.vm = U.vm) (h : mK D kA u) : mK D kA U :=
  have ha : u.vm.Alike U.vm := by rw [hvm]; exact Vm.Alike.refl _
  ⟨fun c q hq => u_Kn_moved ha (h.1 c q hq), fun ty ht => ⟨arrOfT_moved ha (h.2.1 ty ht).1, (h.2.1 ty ht).2.moved ha⟩, fun w hw => va_Nw.same (mNest_ot w hw) hvm (h.2.2 w hw)⟩
theorem mKt {D : va_G} {kA : FieldType → ClassId} {s : State} (hK : mK D kA s) {ty : FieldType} (ht : ty ∈ mTys) : va_K D classes [(kA ty, ty)] s := ⟨hK.1, fun k q hq => by
  cases k with
  | zero => cases hq; exact hK.2.1 _ ht
  | succ k => simp at hq⟩
theorem mK0 {D : va_G} {kA : FieldType → ClassId} {s : State} (hK : mK D kA s) : va_K D classes [] s := ⟨hK.1, fun k q hq => by simp at hq⟩
theorem mT.moved {ad : Nat → Nat} {A : Nat → Prop} {u U : State} {H : Heap} (hvm : u.vm.Alike U.vm) (h : mT ad A u H) : mT ad A U H := fun k q hq => ⟨(h k q hq).1.moved hvm, (h k q hq).2.moved hvm⟩
theorem mT.kept {ad : Nat → Nat} {A : Nat → Prop} {U : State} {H H1 : Heap} (h : mT ad A U H) (hq : ∀ a : Nat, a < H.size → ¬ A a → H1[a]? = H[a]?) : mT ad A U H1 := fun k q hk => ⟨(h k q hk).1.kept hq, (h k q hk).2.kept hq⟩
theorem mT.narrow {ad : Nat → Nat} {A B : Nat → Prop} {U : State} {H : Heap} (h : mT ad A U H) (hAB : ∀ q, B q → A q) : mT ad B U H := fun k q hk => ⟨(h k q hk).1.narrow hAB, (h k q hk).2.narrow hAB⟩
/-- a field that is read: by the pool's place ix of the class own; of the class number ci, its kf-th -/
def mFg (own : String) (ix ci kf : Nat) : Prop := ∃ (C : String) (T : u_T) (Nf : Nat), classes[ci]? = some (C, T, Nf) ∧ kf < Nf ∧ (∀ w ∈ u_ws C T Nf, w ∈ mGood) ∧ (Cond.fieldLink own ix (T kf).1 (T kf).2.1 (T kf).2.2.1 ∈ mGood ∨ ∃ host : String, Cond.fieldLinkNest own ix (T kf).1 (T kf).2.1 (T kf).2.2.1 host ∈ mNest)
def mFp (own : String) (ix ci kf : Nat) (ty : FieldType) (fin : Bool) : Prop := ∃ (C : String) (T : u_T) (Nf : Nat) (ty0 : Nat → FieldType), classes[ci]? = some (C, T, Nf) ∧ kf < Nf ∧ (∀ w ∈ u_ws C T Nf, w ∈ mGood) ∧ (Cond.fieldLink own ix (T kf).1 (T kf).2.1 (T kf).2.2.1 ∈ mGood ∨ ∃ host : String, Cond.fieldLinkNest own ix (T kf).1 (T kf).2.1 (T kf).2.2.1 host ∈ mNest) ∧ (∀ k, k < Nf → parseFieldDescriptor (T k).2.2.1 = some (ty0 k)) ∧ (∀ a, a < Nf → ∀ b, b < Nf → a ≠ b → (T a).2.1 ≠ (T b).2.1) ∧ (T kf).2.2.2 = fin ∧ ty0 kf = ty ∧ (fin = true → (T kf).1 = own)
/-- a method that may be called -/
def mCw (y : MethodName) (bytes : ByteArray) (maxL : Nat) (ret : Option FieldType) (n : Nat) : Prop := Cond.code y bytes maxL ret ∈ mGood ∧ Cond.initialized y.cls ∈ mGood ∧ (y.cls ≠ "java/lang/invoke/MethodHandle" ∧ y.cls ≠ "java/lang/invoke/VarHandle") ∧ (parseMethodDescriptor y.desc).map (fun d => d.parameters.length) = some n
def mLk (own : String) (ix : Nat) (y : MethodName) : Prop := Cond.methodLink own ix y ∈ mGood ∨ ∃ host : String, Cond.methodLinkNest own ix y host ∈ mNest
def mPre (D : va_G) (kA : FieldType → ClassId) (ad : Nat → Nat) (As : List Value) (h : mH) (sz : Nat) : Array Value → State → Prop := va_Pc (As.map (mv ad)) (fun U => U.heap.size = sz ∧ va_P D classes (mW ad kA h) U.heap ∧ mK D kA U ∧ mT ad (va_A (mW ad kA h) sz) U U.heap ∧ va_D (fun _ => True) (mW ad kA h))
def mPost (A : Nat → Prop) (D : va_G) (kA : FieldType → ClassId) (ad : Nat → Nat) (v : Option Value) (h : mH) : Array Value → State → Outcome → State → Prop := fun _ st oc t => oc = .returned (v.map (mv ad)) ∧ va_P D classes (mW ad kA h) t.heap ∧ va_D A (mW ad kA h) ∧ va_F A st t
/-- THE CONTRACT: from the cells h, called with As, it answers v, and the cells are h' -/
def mMet (l : Launch) (y : MethodName) (bytes : ByteArray) (maxL : Nat) (ret : Option FieldType) (rm : Room) (As : List Value) (h : mH) (v : Option Value) (h' : mH) : Prop := ∀ (D : va_G) (kA : FieldType → ClassId) (ad : Nat → Nat) (sz : Nat), Met l y (Cond.code y bytes maxL ret :: mGood) rm (mPre D kA ad As h sz) (mPost (va_A (mW ad kA h) sz) D kA ad v h') 0 0 (va_A (mW ad kA h) sz)
/-- the end of a body: what it owes -/
def mEnd (X : mX) (ad : Nat → Nat) (ret : Option FieldType) (v : Option Value) (h : mH) : Prop := match X with
  | (_, _, _, _, s, _, args, below, meth, _, Q, A, D, kA, _) => Q = MQ below (mPost A D kA ad v h) args s 0 0 A ∧ meth.sig.returnType = ret
theorem ml_args (ad : Nat → Nat) (As : List Value) : ∀ i : Nat, ml ad (lv_args i As) = lv_args i (As.map (mv ad)) := by
  induction As with
  | nil => intro i; rfl
  | cons v vs ih =>
    intro i
    simp only [lv_args, List.map_cons, mv_cat]
    rw [← ih]
    rfl
theorem lg_len (ad : Nat → Nat) (As : List Value) : (lg_sl (As.map (mv ad))).length = (lg_sl As).length := by
  induction As with
  | nil => rfl
  | cons v vs ih =>
    simp only [lg_sl, List.map_cons, List.flatMap_cons, List.length_append, mv_cat] at ih ⊢
    rw [ih]
    split <;> rfl
theorem mMet_of {ln : Launch} {y : MethodName} {bytes : ByteArray} {maxL : Nat} {ret : Option FieldType} {rm : Room} {As : List Value} {h : mH} {v : Option Value} {h' : mH} (hy : plainName y.cls = true) (hlen : (lg_sl As).length ≤ maxL)
    (body : ∀ (X : mX) (ad : Nat → Nat), mO X ad y.cls bytes maxL rm ln → mEnd X ad ret v h' → mAW X ad 0 0 0 (lv_args 0 As) [] h) : mMet ln y bytes maxL ret rm As h v h' := by
  intro D kA ad sz
  refine Met.ofW (cc := bytes) (maxL := maxL) (ret := ret) hy rfl ?_
  intro p e s m args below meth c s₁ B hml hv
  obtain ⟨hargs, hsz, hP, hK, hT, hD0⟩ := hv
  subst hsz
  subst hargs
  have hD := hD0.self (sz := s.heap.size)
  have hts := atoms_spec (ws := Cond.code y bytes maxL ret :: mGood) B.pre
  have hown : s.vm.findClass y.cls = some m.cls := findClass_of_methodNamed B.named
  have hl := lv_entry (As.map (mv ad)) (n := maxL) (by rw [lg_len]; exact hlen)
  have hb := body (p, ln, e, rm, s, m, (As.map (mv ad)).toArray, below, meth, c, MQ below (mPost (va_A (mW ad kA h) s.heap.size) D kA ad v h') (As.map (mv ad)).toArray s 0 0 (va_A (mW ad kA h) s.heap.size), va_A (mW ad kA h) s.heap.size, D, kA, maxL) ad ⟨⟨B.exec, B.bytes, hml, hown, B.notSynchronized, rfl, rfl, rfl⟩, fun w hw => hts w (List.mem_cons_of_mem _ hw), hK, hT, fun q hq => Or.inr hq⟩ ⟨rfl, B.returns⟩
  rw [lg_entry_eq]
  exact hb s.heap [] _ hP hD va_S.rf (by rw [ml_args]; exact hl)
section mRows
variable {X : mX} {ad : Nat → Nat} {own : String} {cc : ByteArray} {N cs ss pc : Nat} {lv lv' : List (Nat × Value)} {st : List Value} {h : mH} {Rm : Room} {ln : Launch}
theorem ax_iconst (O : mO X ad own cc N Rm ln) {n : Int} {v : Int32} (d : decode cc pc = .ok (.iconst n, 1)) (hv : Int32.ofInt n = v) (k : mAW X ad cs ss (pc + 1) lv (.int v :: st) h) : mAW X ad cs ss pc lv (st) h := by
  obtain ⟨p, l, e, R, s, m, args, below, meth, c, Q, A, D, kA, nL⟩ := X
  exact fun H locs ls hP hD hS hl => lv_iconst O.1.1 O.1.2.1 d hv (k H locs ls hP hD hS hl)
theorem ax_bipush (O : mO X ad own cc N Rm ln) {n : Int} {v : Int32} (d : decode cc pc = .ok (.bipush n, 2)) (hv : (Int8.ofInt n).toInt32 = v) (k : mAW X ad cs ss (pc + 2) lv (.int v :: st) h) : mAW X ad cs ss pc lv (st) h := by
  obtain ⟨p, l, e, R, s, m, args, below, meth, c, Q, A, D, kA, nL⟩ := X
  exact fun H locs ls hP hD hS hl => lv_bipush O.1.1 O.1.2.1 d hv (k H locs ls hP hD hS hl)
theorem ax_sipush (O : mO X ad own cc N Rm ln) {n : Int} {v : Int32} (d : decode cc pc = .ok (.sipush n, 3)) (hv : (Int16.ofInt n).toInt32 = v) (k : mAW X ad cs ss (pc + 3) lv (.int v :: st) h) : mAW X ad cs ss pc lv (st) h := by
  obtain ⟨p, l, e, R, s, m, args, below, meth, c, Q, A, D, kA, nL⟩ := X
  exact fun H locs ls hP hD hS hl => lv_sipush O.1.1 O.1.2.1 d hv (k H locs ls hP hD hS hl)
theorem ax_lconst (O : mO X ad own cc N Rm ln) {n : Fin 2} {v : Int64} (d : decode cc pc = .ok (.lconst n, 1)) (hv : Int64.ofNat (n : Nat) = v) (k : mAW X ad cs ss (pc + 1) lv (.long v :: st) h) : mAW X ad cs ss pc lv (st) h := by
  obtain ⟨p, l, e, R, s, m, args, below, meth, c, Q, A, D, kA, nL⟩ := X
  exact fun H locs ls hP hD hS hl => lv_lconst O.1.1 O.1.2.1 d hv (k H locs ls hP hD hS hl)
theorem ax_ldc (O : mO X ad own cc N Rm ln) {ix : Nat} {v : Int32} (d : decode cc pc = .ok (.ldc ix, 2)) (hw : Cond.constant own ix v ∈ mGood) (k : mAW X ad cs ss (pc + 2) lv (.int v :: st) h) : mAW X ad cs ss pc lv (st) h := by
  obtain ⟨p, l, e, R, s, m, args, below, meth, c, Q, A, D, kA, nL⟩ := X
  exact fun H locs ls hP hD hS hl => lv_ldc O.1.1 O.1.2.1 O.1.2.2.2.1 (O.2.1 _ hw) d (k H locs ls hP hD hS hl)
theorem ax_ldc2 (O : mO X ad own cc N Rm ln) {ix : Nat} {v : Int64} (d : decode cc pc = .ok (.ldc2_w ix, 3)) (hw : Cond.constantLong own ix v ∈ mGood) (k : mAW X ad cs ss (pc + 3) lv (.long v :: st) h) : mAW X ad cs ss pc lv (st) h := by
  obtain ⟨p, l, e, R, s, m, args, below, meth, c, Q, A, D, kA, nL⟩ := X
  exact fun H locs ls hP hD hS hl => lv_ldc2 O.1.1 O.1.2.1 O.1.2.2.2.1 (O.2.1 _ hw) d (k H locs ls hP hD hS hl)
theorem ax_iload_n (O : mO X ad own cc N Rm ln) {n : Fin 4} {i : Nat} {x : Int32} (d : decode cc pc = .ok (.iload_n n, 1)) (hi : (n : Nat) = i) (j : Nat) (hj : lv[j]? = some (i, .int x)) (k : mAW X ad cs ss (pc + 1) lv (.int x :: st) h) : mAW X ad cs ss pc lv (st) h := by
  obtain ⟨p, l, e, R, s, m, args, below, meth, c, Q, A, D, kA, nL⟩ := X
  exact fun H locs ls hP hD hS hl => lv_iload_n O.1.1 O.1.2.1 d hi (lv_at hl j (ml_get hj)) (k H locs ls hP hD hS hl)
theorem ax_iload (O : mO X ad own cc N Rm ln) {i : Nat} {x : Int32} (d : decode cc pc = .ok (.iload i, 2)) (j : Nat) (hj : lv[j]? = some (i, .int x)) (k : mAW X ad cs ss (pc + 2) lv (.int x :: st) h) : mAW X ad cs ss pc lv (st) h := by
  obtain ⟨p, l, e, R, s, m, args, below, meth, c, Q, A, D, kA, nL⟩ := X
  exact fun H locs ls hP hD hS hl => lv_iload O.1.1 O.1.2.1 d (lv_at hl j (ml_get hj)) (k H locs ls hP hD hS hl)
theorem ax_lload_n (O : mO X ad own cc N Rm ln) {n : Fin 4} {i : Nat} {x : Int64} (d : decode cc pc = .ok (.lload_n n, 1)) (hi : (n : Nat) = i) (j : Nat) (hj : lv[j]? = some (i, .long x)) (k : mAW X ad cs ss (pc + 1) lv (.long x :: st) h) : mAW X ad cs ss pc lv (st) h := by
  obtain ⟨p, l, e, R, s, m, args, below, meth, c, Q, A, D, kA, nL⟩ := X
  exact fun H locs ls hP hD hS hl => lv_lload_n O.1.1 O.1.2.1 d hi (lv_at hl j (ml_get hj)) (k H locs ls hP hD hS hl)
theorem ax_lload (O : mO X ad own cc N Rm ln) {i : Nat} {x : Int64} (d : decode cc pc = .ok (.lload i, 2)) (j : Nat) (hj : lv[j]? = some (i, .long x)) (k : mAW X ad cs ss (pc + 2) lv (.long x :: st) h) : mAW X ad cs ss pc lv (st) h := by
  obtain ⟨p, l, e, R, s, m, args, below, meth, c, Q, A, D, kA, nL⟩ := X
  exact fun H locs ls hP hD hS hl => lv_lload O.1.1 O.1.2.1 d (lv_at hl j (ml_get hj)) (k H locs ls hP hD hS hl)
theorem ax_aload_n (O : mO X ad own cc N Rm ln) {n : Fin 4} {i : Nat} {x : Nat} (d : decode cc pc = .ok (.aload_n n, 1)) (hi : (n : Nat) = i) (j : Nat) (hj : lv[j]? = some (i, .ref x)) (k : mAW X ad cs ss (pc + 1) lv (.ref x :: st) h) : mAW X ad cs ss pc lv (st) h := by
  obtain ⟨p, l, e, R, s, m, args, below, meth, c, Q, A, D, kA, nL⟩ := X
  exact fun H locs ls hP hD hS hl => lv_aload_n O.1.1 O.1.2.1 d hi (lv_at hl j (ml_get hj)) (k H locs ls hP hD hS hl)
theorem ax_aload (O : mO X ad own cc N Rm ln) {i : Nat} {x : Nat} (d : decode cc pc = .ok (.aload i, 2)) (j : Nat) (hj : lv[j]? = some (i, .ref x)) (k : mAW X ad cs ss (pc + 2) lv (.ref x :: st) h) : mAW X ad cs ss pc lv (st) h := by
  obtain ⟨p, l, e, R, s, m, args, below, meth, c, Q, A, D, kA, nL⟩ := X
  exact fun H locs ls hP hD hS hl => lv_aload O.1.1 O.1.2.1 d (lv_at hl j (ml_get hj)) (k H locs ls hP hD hS hl)
theorem ax_istore_n (O : mO X ad own cc N Rm ln) {n : Fin 4} {i : Nat} {x : Int32} (d : decode cc pc = .ok (.istore_n n, 1)) (hi : (n : Nat) = i) (hn : i < N) (he : (i, .int x) :: lv.filter (fun q => !(q.1 == i) && !(q.1 + 1 == i && q.2.category == 2)) = lv') (k : mAW X ad cs ss (pc + 1) lv' st h) : mAW X ad cs ss pc lv (.int x :: st) h := by
  obtain ⟨p, l, e, R, s, m, args, below, meth, c, Q, A, D, kA, nL⟩ := X
  obtain ⟨O1, O2⟩ := O
  obtain ⟨hx, hb, hm, ho, hk, rfl, hR, hln⟩ := O1
  exact fun H locs ls hP hD hS hl => lv_istore_n hx hb d hi hl hn (ml_st1 he) (fun ls hl => k H locs ls hP hD hS hl)
theorem ax_istore (O : mO X ad own cc N Rm ln) {i : Nat} {x : Int32} (d : decode cc pc = .ok (.istore i, 2))  (hn : i < N) (he : (i, .int x) :: lv.filter (fun q => !(q.1 == i) && !(q.1 + 1 == i && q.2.category == 2)) = lv') (k : mAW X ad cs ss (pc + 2) lv' st h) : mAW X ad cs ss pc lv (.int x :: st) h := by
  obtain ⟨p, l, e, R, s, m, args, below, meth, c, Q, A, D, kA, nL⟩ := X
  obtain ⟨O1, O2⟩ := O
  obtain ⟨hx, hb, hm, ho, hk, rfl, hR, hln⟩ := O1
  exact fun H locs ls hP hD hS hl => lv_istore hx hb d hl hn (ml_st1 he) (fun ls hl => k H locs ls hP hD hS hl)
theorem ax_astore_n (O : mO X ad own cc N Rm ln) {n : Fin 4} {i : Nat} {x : Nat} (d : decode cc pc = .ok (.astore_n n, 1)) (hi : (n : Nat) = i) (hn : i < N) (he : (i, .ref x) :: lv.filter (fun q => !(q.1 == i) && !(q.1 + 1 == i && q.2.category == 2)) = lv') (k : mAW X ad cs ss (pc + 1) lv' st h) : mAW X ad cs ss pc lv (.ref x :: st) h := by
  obtain ⟨p, l, e, R, s, m, args, below, meth, c, Q, A, D, kA, nL⟩ := X
  obtain ⟨O1, O2⟩ := O
  obtain ⟨hx, hb, hm, ho, hk, rfl, hR, hln⟩ := O1
  exact fun H locs ls hP hD hS hl => lv_astore_n hx hb d hi hl hn (ml_st1 he) (fun ls hl => k H locs ls hP hD hS hl)
theorem ax_astore (O : mO X ad own cc N Rm ln) {i : Nat} {x : Nat} (d : decode cc pc = .ok (.astore i, 2))  (hn : i < N) (he : (i, .ref x) :: lv.filter (fun q => !(q.1 == i) && !(q.1 + 1 == i && q.2.category == 2)) = lv') (k : mAW X ad cs ss (pc + 2) lv' st h) : mAW X ad cs ss pc lv (.ref x :: st) h := by
  obtain ⟨p, l, e, R, s, m, args, below, meth, c, Q, A, D, kA, nL⟩ := X
  obtain ⟨O1, O2⟩ := O
  obtain ⟨hx, hb, hm, ho, hk, rfl, hR, hln⟩ := O1
  exact fun H locs ls hP hD hS hl => lv_astore hx hb d hl hn (ml_st1 he) (fun ls hl => k H locs ls hP hD hS hl)
theorem ax_lstore_n (O : mO X ad own cc N Rm ln) {n : Fin 4} {i : Nat} {x : Int64} (d : decode cc pc = .ok (.lstore_n n, 1)) (hi : (n : Nat) = i) (hn : i + 1 < N) (he : (i, .long x) :: lv.filter (fun q => !(q.1 == i) && (!(q.1 == i + 1) && !(q.1 + 1 == i && q.2.category == 2))) = lv') (k : mAW X ad cs ss (pc + 1) lv' st h) : mAW X ad cs ss pc lv (.long x :: st) h := by
  obtain ⟨p, l, e, R, s, m, args, below, meth, c, Q, A, D, kA, nL⟩ := X
  obtain ⟨O1, O2⟩ := O
  obtain ⟨hx, hb, hm, ho, hk, rfl, hR, hln⟩ := O1
  exact fun H locs ls hP hD hS hl => lv_lstore_n hx hb d hi hl hn (ml_st2 he) (fun ls hl => k H locs ls hP hD hS hl)
theorem ax_lstore (O : mO X ad own cc N Rm ln) {i : Nat} {x : Int64} (d : decode cc pc = .ok (.lstore i, 2))  (hn : i + 1 < N) (he : (i, .long x) :: lv.filter (fun q => !(q.1 == i) && (!(q.1 == i + 1) && !(q.1 + 1 == i && q.2.category == 2))) = lv') (k : mAW X ad cs ss (pc + 2) lv' st h) : mAW X ad cs ss pc lv (.long x :: st) h := by
  obtain ⟨p, l, e, R, s, m, args, below, meth, c, Q, A, D, kA, nL⟩ := X
  obtain ⟨O1, O2⟩ := O
  obtain ⟨hx, hb, hm, ho, hk, rfl, hR, hln⟩ := O1
  exact fun H locs ls hP hD hS hl => lv_lstore hx hb d hl hn (ml_st2 he) (fun ls hl => k H locs ls hP hD hS hl)
theorem ax_iinc (O : mO X ad own cc N Rm ln) {i j : Nat} {n : Int} {x v : Int32} (d : decode cc pc = .ok (.iinc i n, 3)) (hj : lv[j]? = some (i, .int x)) (hv : x + Int32.ofInt n = v) (hn : i < N) (he : (i, Value.int v) :: lv.filter (fun q => !(q.1 == i) && !(q.1 + 1 == i && q.2.category == 2)) = lv') (k : mAW X ad cs ss (pc + 3) lv' st h) : mAW X ad cs ss pc lv st h := by
  obtain ⟨p, l, e, R, s, m, args, below, meth, c, Q, A, D, kA, nL⟩ := X
  obtain ⟨O1, O2⟩ := O
  obtain ⟨hx, hb, hm, ho, hk, rfl, hR, hln⟩ := O1
  exact fun H locs ls hP hD hS hl => lv_iinc (k := j) hx hb d hl (ml_get hj) hv hn (ml_st1 (v := .int v) he) (fun ls hl => k H locs ls hP hD hS hl)
theorem ax_iadd (O : mO X ad own cc N Rm ln) {x y : Int32} (d : decode cc pc = .ok (.iadd, 1))  (k : mAW X ad cs ss (pc + 1) lv (.int (x + y) :: st) h) : mAW X ad cs ss pc lv (.int y :: .int x :: st) h := by
  obtain ⟨p, l, e, R, s, m, args, below, meth, c, Q, A, D, kA, nL⟩ := X
  exact fun H locs ls hP hD hS hl => lv_iadd O.1.1 O.1.2.1 d (k H locs ls hP hD hS hl)
theorem ax_isub (O : mO X ad own cc N Rm ln) {x y : Int32} (d : decode cc pc = .ok (.isub, 1))  (k : mAW X ad cs ss (pc + 1) lv (.int (x - y) :: st) h) : mAW X ad cs ss pc lv (.int y :: .int x :: st) h := by
  obtain ⟨p, l, e, R, s, m, args, below, meth, c, Q, A, D, kA, nL⟩ := X
  exact fun H locs ls hP hD hS hl => lv_isub O.1.1 O.1.2.1 d (k H locs ls hP hD hS hl)
theorem ax_imul (O : mO X ad own cc N Rm ln) {x y : Int32} (d : decode cc pc = .ok (.imul, 1))  (k : mAW X ad cs ss (pc + 1) lv (.int (x * y) :: st) h) : mAW X ad cs ss pc lv (.int y :: .int x :: st) h := by
  obtain ⟨p, l, e, R, s, m, args, below, meth, c, Q, A, D, kA, nL⟩ := X
  exact fun H locs ls hP hD hS hl => lv_imul O.1.1 O.1.2.1 d (k H locs ls hP hD hS hl)
theorem ax_iand (O : mO X ad own cc N Rm ln) {x y : Int32} (d : decode cc pc = .ok (.iand, 1))  (k : mAW X ad cs ss (pc + 1) lv (.int (x &&& y) :: st) h) : mAW X ad cs ss pc lv (.int y :: .int x :: st) h := by
  obtain ⟨p, l, e, R, s, m, args, below, meth, c, Q, A, D, kA, nL⟩ := X
  exact fun H locs ls hP hD hS hl => lv_iand O.1.1 O.1.2.1 d (k H locs ls hP hD hS hl)
theorem ax_ior (O : mO X ad own cc N Rm ln) {x y : Int32} (d : decode cc pc = .ok (.ior, 1))  (k : mAW X ad cs ss (pc + 1) lv (.int (x ||| y) :: st) h) : mAW X ad cs ss pc lv (.int y :: .int x :: st) h := by
  obtain ⟨p, l, e, R, s, m, args, below, meth, c, Q, A, D, kA, nL⟩ := X
  exact fun H locs ls hP hD hS hl => lv_ior O.1.1 O.1.2.1 d (k H locs ls hP hD hS hl)
theorem ax_ixor (O : mO X ad own cc N Rm ln) {x y : Int32} (d : decode cc pc = .ok (.ixor, 1))  (k : mAW X ad cs ss (pc + 1) lv (.int (x ^^^ y) :: st) h) : mAW X ad cs ss pc lv (.int y :: .int x :: st) h := by
  obtain ⟨p, l, e, R, s, m, args, below, meth, c, Q, A, D, kA, nL⟩ := X
  exact fun H locs ls hP hD hS hl => lv_ixor O.1.1 O.1.2.1 d (k H locs ls hP hD hS hl)
theorem ax_ishl (O : mO X ad own cc N Rm ln) {x y : Int32} (d : decode cc pc = .ok (.ishl, 1))  (k : mAW X ad cs ss (pc + 1) lv (.int (x <<< (y &&& 31)) :: st) h) : mAW X ad cs ss pc lv (.int y :: .int x :: st) h := by
  obtain ⟨p, l, e, R, s, m, args, below, meth, c, Q, A, D, kA, nL⟩ := X
  exact fun H locs ls hP hD hS hl => lv_ishl O.1.1 O.1.2.1 d (k H locs ls hP hD hS hl)
theorem ax_ishr (O : mO X ad own cc N Rm ln) {x y : Int32} (d : decode cc pc = .ok (.ishr, 1))  (k : mAW X ad cs ss (pc + 1) lv (.int (x >>> (y &&& 31)) :: st) h) : mAW X ad cs ss pc lv (.int y :: .int x :: st) h := by
  obtain ⟨p, l, e, R, s, m, args, below, meth, c, Q, A, D, kA, nL⟩ := X
  exact fun H locs ls hP hD hS hl => lv_ishr O.1.1 O.1.2.1 d (k H locs ls hP hD hS hl)
theorem ax_idiv (O : mO X ad own cc N Rm ln) {x y : Int32} (d : decode cc pc = .ok (.idiv, 1)) (hne : ¬ y = 0) (k : mAW X ad cs ss (pc + 1) lv (.int (x / y) :: st) h) : mAW X ad cs ss pc lv (.int y :: .int x :: st) h := by
  obtain ⟨p, l, e, R, s, m, args, below, meth, c, Q, A, D, kA, nL⟩ := X
  exact fun H locs ls hP hD hS hl => lv_idiv O.1.1 O.1.2.1 d hne (k H locs ls hP hD hS hl)
theorem ax_irem (O : mO X ad own cc N Rm ln) {x y : Int32} (d : decode cc pc = .ok (.irem, 1)) (hne : ¬ y = 0) (k : mAW X ad cs ss (pc + 1) lv (.int (x - x / y * y) :: st) h) : mAW X ad cs ss pc lv (.int y :: .int x :: st) h := by
  obtain ⟨p, l, e, R, s, m, args, below, meth, c, Q, A, D, kA, nL⟩ := X
  exact fun H locs ls hP hD hS hl => lv_irem O.1.1 O.1.2.1 d hne (k H locs ls hP hD hS hl)
theorem ax_ineg (O : mO X ad own cc N Rm ln) {x : Int32} (d : decode cc pc = .ok (.ineg, 1))  (k : mAW X ad cs ss (pc + 1) lv (.int (-x) :: st) h) : mAW X ad cs ss pc lv (.int x :: st) h := by
  obtain ⟨p, l, e, R, s, m, args, below, meth, c, Q, A, D, kA, nL⟩ := X
  exact fun H locs ls hP hD hS hl => lv_ineg O.1.1 O.1.2.1 d (k H locs ls hP hD hS hl)
theorem ax_iushr (O : mO X ad own cc N Rm ln) {x y : Int32} (d : decode cc pc = .ok (.iushr, 1))  (k : mAW X ad cs ss (pc + 1) lv (.int (x.toUInt32 >>> (y.toUInt32 &&& Int32.toUInt32 31)).toInt32 :: st) h) : mAW X ad cs ss pc lv (.int y :: .int x :: st) h := by
  obtain ⟨p, l, e, R, s, m, args, below, meth, c, Q, A, D, kA, nL⟩ := X
  exact fun H locs ls hP hD hS hl => lv_iushr O.1.1 O.1.2.1 d rfl (k H locs ls hP hD hS hl)
theorem ax_ladd (O : mO X ad own cc N Rm ln) {x y : Int64} (d : decode cc pc = .ok (.ladd, 1))  (k : mAW X ad cs ss (pc + 1) lv (.long (x + y) :: st) h) : mAW X ad cs ss pc lv (.long y :: .long x :: st) h := by
  obtain ⟨p, l, e, R, s, m, args, below, meth, c, Q, A, D, kA, nL⟩ := X
  exact fun H locs ls hP hD hS hl => lv_ladd O.1.1 O.1.2.1 d (k H locs ls hP hD hS hl)
theorem ax_lsub (O : mO X ad own cc N Rm ln) {x y : Int64} (d : decode cc pc = .ok (.lsub, 1))  (k : mAW X ad cs ss (pc + 1) lv (.long (x - y) :: st) h) : mAW X ad cs ss pc lv (.long y :: .long x :: st) h := by
  obtain ⟨p, l, e, R, s, m, args, below, meth, c, Q, A, D, kA, nL⟩ := X
  exact fun H locs ls hP hD hS hl => lv_lsub O.1.1 O.1.2.1 d (k H locs ls hP hD hS hl)
theorem ax_lmul (O : mO X ad own cc N Rm ln) {x y : Int64} (d : decode cc pc = .ok (.lmul, 1))  (k : mAW X ad cs ss (pc + 1) lv (.long (x * y) :: st) h) : mAW X ad cs ss pc lv (.long y :: .long x :: st) h := by
  obtain ⟨p, l, e, R, s, m, args, below, meth, c, Q, A, D, kA, nL⟩ := X
  exact fun H locs ls hP hD hS hl => lv_lmul O.1.1 O.1.2.1 d (k H locs ls hP hD hS hl)
theorem ax_land (O : mO X ad own cc N Rm ln) {x y : Int64} (d : decode cc pc = .ok (.land, 1))  (k : mAW X ad cs ss (pc + 1) lv (.long (x &&& y) :: st) h) : mAW X ad cs ss pc lv (.long y :: .long x :: st) h := by
  obtain ⟨p, l, e, R, s, m, args, below, meth, c, Q, A, D, kA, nL⟩ := X
  exact fun H locs ls hP hD hS hl => lv_land O.1.1 O.1.2.1 d (k H locs ls hP hD hS hl)
theorem ax_lor (O : mO X ad own cc N Rm ln) {x y : Int64} (d : decode cc pc = .ok (.lor, 1))  (k : mAW X ad cs ss (pc + 1) lv (.long (x ||| y) :: st) h) : mAW X ad cs ss pc lv (.long y :: .long x :: st) h := by
  obtain ⟨p, l, e, R, s, m, args, below, meth, c, Q, A, D, kA, nL⟩ := X
  exact fun H locs ls hP hD hS hl => lv_lor O.1.1 O.1.2.1 d (k H locs ls hP hD hS hl)
theorem ax_lxor (O : mO X ad own cc N Rm ln) {x y : Int64} (d : decode cc pc = .ok (.lxor, 1))  (k : mAW X ad cs ss (pc + 1) lv (.long (x ^^^ y) :: st) h) : mAW X ad cs ss pc lv (.long y :: .long x :: st) h := by
  obtain ⟨p, l, e, R, s, m, args, below, meth, c, Q, A, D, kA, nL⟩ := X
  exact fun H locs ls hP hD hS hl => lv_lxor O.1.1 O.1.2.1 d (k H locs ls hP hD hS hl)
theorem ax_ldiv (O : mO X ad own cc N Rm ln) {x y : Int64} (d : decode cc pc = .ok (.ldiv, 1)) (hne : ¬ y = 0) (k : mAW X ad cs ss (pc + 1) lv (.long (x / y) :: st) h) : mAW X ad cs ss pc lv (.long y :: .long x :: st) h := by
  obtain ⟨p, l, e, R, s, m, args, below, meth, c, Q, A, D, kA, nL⟩ := X
  exact fun H locs ls hP hD hS hl => lv_ldiv O.1.1 O.1.2.1 d hne (k H locs ls hP hD hS hl)
theorem ax_lrem (O : mO X ad own cc N Rm ln) {x y : Int64} (d : decode cc pc = .ok (.lrem, 1)) (hne : ¬ y = 0) (k : mAW X ad cs ss (pc + 1) lv (.long (x - x / y * y) :: st) h) : mAW X ad cs ss pc lv (.long y :: .long x :: st) h := by
  obtain ⟨p, l, e, R, s, m, args, below, meth, c, Q, A, D, kA, nL⟩ := X
  exact fun H locs ls hP hD hS hl => lv_lrem O.1.1 O.1.2.1 d hne (k H locs ls hP hD hS hl)
theorem ax_lshr (O : mO X ad own cc N Rm ln) {x : Int64} {y : Int32} (d : decode cc pc = .ok (.lshr, 1))  (k : mAW X ad cs ss (pc + 1) lv (.long (x >>> (y.toInt64 &&& 63)) :: st) h) : mAW X ad cs ss pc lv (.int y :: .long x :: st) h := by
  obtain ⟨p, l, e, R, s, m, args, below, meth, c, Q, A, D, kA, nL⟩ := X
  exact fun H locs ls hP hD hS hl => lv_lshr O.1.1 O.1.2.1 d rfl (k H locs ls hP hD hS hl)
theorem ax_lshl (O : mO X ad own cc N Rm ln) {x : Int64} {y : Int32} (d : decode cc pc = .ok (.lshl, 1))  (k : mAW X ad cs ss (pc + 1) lv (.long (x <<< (y.toInt64 &&& 63)) :: st) h) : mAW X ad cs ss pc lv (.int y :: .long x :: st) h := by
  obtain ⟨p, l, e, R, s, m, args, below, meth, c, Q, A, D, kA, nL⟩ := X
  exact fun H locs ls hP hD hS hl => lv_lshl O.1.1 O.1.2.1 d rfl (k H locs ls hP hD hS hl)
theorem ax_lushr (O : mO X ad own cc N Rm ln) {x : Int64} {y : Int32} (d : decode cc pc = .ok (.lushr, 1))  (k : mAW X ad cs ss (pc + 1) lv (.long (x.toUInt64 >>> (y.toInt64.toUInt64 &&& Int64.toUInt64 63)).toInt64 :: st) h) : mAW X ad cs ss pc lv (.int y :: .long x :: st) h := by
  obtain ⟨p, l, e, R, s, m, args, below, meth, c, Q, A, D, kA, nL⟩ := X
  exact fun H locs ls hP hD hS hl => lv_lushr O.1.1 O.1.2.1 d rfl (k H locs ls hP hD hS hl)
theorem ax_lcmp (O : mO X ad own cc N Rm ln) {x y : Int64} (d : decode cc pc = .ok (.lcmp, 1))  (k : mAW X ad cs ss (pc + 1) lv (.int (lg_cmp x y) :: st) h) : mAW X ad cs ss pc lv (.long y :: .long x :: st) h := by
  obtain ⟨p, l, e, R, s, m, args, below, meth, c, Q, A, D, kA, nL⟩ := X
  exact fun H locs ls hP hD hS hl => W.lcmp O.1.1 O.1.2.1 d (k H locs ls hP hD hS hl)
theorem ax_i2l (O : mO X ad own cc N Rm ln) {x : Int32} (d : decode cc pc = .ok (.i2l, 1))  (k : mAW X ad cs ss (pc + 1) lv (.long x.toInt64 :: st) h) : mAW X ad cs ss pc lv (.int x :: st) h := by
  obtain ⟨p, l, e, R, s, m, args, below, meth, c, Q, A, D, kA, nL⟩ := X
  exact fun H locs ls hP hD hS hl => lv_i2l O.1.1 O.1.2.1 d rfl (k H locs ls hP hD hS hl)
theorem ax_l2i (O : mO X ad own cc N Rm ln) {x : Int64} (d : decode cc pc = .ok (.l2i, 1))  (k : mAW X ad cs ss (pc + 1) lv (.int x.toInt32 :: st) h) : mAW X ad cs ss pc lv (.long x :: st) h := by
  obtain ⟨p, l, e, R, s, m, args, below, meth, c, Q, A, D, kA, nL⟩ := X
  exact fun H locs ls hP hD hS hl => lv_l2i O.1.1 O.1.2.1 d rfl (k H locs ls hP hD hS hl)
theorem ax_i2b (O : mO X ad own cc N Rm ln) {x : Int32} (d : decode cc pc = .ok (.i2b, 1))  (k : mAW X ad cs ss (pc + 1) lv (.int x.toInt8.toInt32 :: st) h) : mAW X ad cs ss pc lv (.int x :: st) h := by
  obtain ⟨p, l, e, R, s, m, args, below, meth, c, Q, A, D, kA, nL⟩ := X
  exact fun H locs ls hP hD hS hl => lv_i2b O.1.1 O.1.2.1 d rfl (k H locs ls hP hD hS hl)
theorem ax_i2c (O : mO X ad own cc N Rm ln) {x : Int32} (d : decode cc pc = .ok (.i2c, 1))  (k : mAW X ad cs ss (pc + 1) lv (.int (x.toUInt32 % 65536).toInt32 :: st) h) : mAW X ad cs ss pc lv (.int x :: st) h := by
  obtain ⟨p, l, e, R, s, m, args, below, meth, c, Q, A, D, kA, nL⟩ := X
  exact fun H locs ls hP hD hS hl => lv_i2c O.1.1 O.1.2.1 d rfl (k H locs ls hP hD hS hl)
theorem ax_dup (O : mO X ad own cc N Rm ln) {v : Value} (d : decode cc pc = .ok (.dup, 1)) (hv : v.category = 1) (k : mAW X ad cs ss (pc + 1) lv (v :: v :: st) h) : mAW X ad cs ss pc lv (v :: st) h := by
  obtain ⟨p, l, e, R, s, m, args, below, meth, c, Q, A, D, kA, nL⟩ := X
  exact fun H locs ls hP hD hS hl => lv_dup O.1.1 O.1.2.1 d ((mv_cat ad v).trans hv) (k H locs ls hP hD hS hl)
theorem ax_pop (O : mO X ad own cc N Rm ln) {v : Value} (d : decode cc pc = .ok (.pop, 1)) (hv : v.category = 1) (k : mAW X ad cs ss (pc + 1) lv (st) h) : mAW X ad cs ss pc lv (v :: st) h := by
  obtain ⟨p, l, e, R, s, m, args, below, meth, c, Q, A, D, kA, nL⟩ := X
  exact fun H locs ls hP hD hS hl => lv_pop O.1.1 O.1.2.1 d ((mv_cat ad v).trans hv) (k H locs ls hP hD hS hl)
theorem ax_pop2 (O : mO X ad own cc N Rm ln) {v : Value} (d : decode cc pc = .ok (.pop2, 1)) (hv : v.category = 2) (k : mAW X ad cs ss (pc + 1) lv (st) h) : mAW X ad cs ss pc lv (v :: st) h := by
  obtain ⟨p, l, e, R, s, m, args, below, meth, c, Q, A, D, kA, nL⟩ := X
  exact fun H locs ls hP hD hS hl => lv_pop2_2 O.1.1 O.1.2.1 d ((mv_cat ad v).trans hv) (k H locs ls hP hD hS hl)
theorem ax_dup_x1 (O : mO X ad own cc N Rm ln) {v w : Value} (d : decode cc pc = .ok (.dup_x1, 1)) (hv : v.category = 1) (hw : w.category = 1) (k : mAW X ad cs ss (pc + 1) lv (v :: w :: v :: st) h) : mAW X ad cs ss pc lv (v :: w :: st) h := by
  obtain ⟨p, l, e, R, s, m, args, below, meth, c, Q, A, D, kA, nL⟩ := X
  exact fun H locs ls hP hD hS hl => lv_dup_x1 O.1.1 O.1.2.1 d ((mv_cat ad v).trans hv) ((mv_cat ad w).trans hw) (k H locs ls hP hD hS hl)
theorem ax_dup_x2 (O : mO X ad own cc N Rm ln) {v w z : Value} (d : decode cc pc = .ok (.dup_x2, 1)) (hv : v.category = 1) (hw : w.category = 1) (hz : z.category = 1) (k : mAW X ad cs ss (pc + 1) lv (v :: w :: z :: v :: st) h) : mAW X ad cs ss pc lv (v :: w :: z :: st) h := by
  obtain ⟨p, l, e, R, s, m, args, below, meth, c, Q, A, D, kA, nL⟩ := X
  exact fun H locs ls hP hD hS hl => lv_dup_x2 O.1.1 O.1.2.1 d ((mv_cat ad v).trans hv) ((mv_cat ad w).trans hw) ((mv_cat ad z).trans hz) (k H locs ls hP hD hS hl)
theorem ax_dup2 (O : mO X ad own cc N Rm ln) {v w : Value} (d : decode cc pc = .ok (.dup2, 1)) (hv : v.category = 1) (hw : w.category = 1) (k : mAW X ad cs ss (pc + 1) lv (v :: w :: v :: w :: st) h) : mAW X ad cs ss pc lv (v :: w :: st) h := by
  obtain ⟨p, l, e, R, s, m, args, below, meth, c, Q, A, D, kA, nL⟩ := X
  exact fun H locs ls hP hD hS hl => lv_dup2_11 O.1.1 O.1.2.1 d ((mv_cat ad v).trans hv) ((mv_cat ad w).trans hw) (k H locs ls hP hD hS hl)
theorem ax_dup2l (O : mO X ad own cc N Rm ln) {v : Value} (d : decode cc pc = .ok (.dup2, 1)) (hv : v.category = 2) (k : mAW X ad cs ss (pc + 1) lv (v :: v :: st) h) : mAW X ad cs ss pc lv (v :: st) h := by
  obtain ⟨p, l, e, R, s, m, args, below, meth, c, Q, A, D, kA, nL⟩ := X
  exact fun H locs ls hP hD hS hl => lv_dup2_2 O.1.1 O.1.2.1 d ((mv_cat ad v).trans hv) (k H locs ls hP hD hS hl)
theorem ax_dup2_x1l (O : mO X ad own cc N Rm ln) {v w : Value} (d : decode cc pc = .ok (.dup2_x1, 1)) (hv : v.category = 2) (hw : w.category = 1) (k : mAW X ad cs ss (pc + 1) lv (v :: w :: v :: st) h) : mAW X ad cs ss pc lv (v :: w :: st) h := by
  obtain ⟨p, l, e, R, s, m, args, below, meth, c, Q, A, D, kA, nL⟩ := X
  exact fun H locs ls hP hD hS hl => lv_dup2_x1_2 O.1.1 O.1.2.1 d ((mv_cat ad v).trans hv) ((mv_cat ad w).trans hw) (k H locs ls hP hD hS hl)
theorem ax_if_eq (O : mO X ad own cc N Rm ln) {x : Int32} {off : Int} {tgt : Nat} (d : decode cc pc = .ok (.ifCond .eq off, 3)) (ht : (pc : Int) + off = (tgt : Int)) (kt : x = 0 → mAW X ad cs ss tgt lv st h) (kf : ¬ x = 0 → mAW X ad cs ss (pc + 3) lv st h) : mAW X ad cs ss pc lv (.int x :: st) h := by
  obtain ⟨p, l, e, R, s, m, args, below, meth, c, Q, A, D, kA, nL⟩ := X
  exact fun H locs ls hP hD hS hl => lv_if_eq O.1.1 O.1.2.1 d ht (fun q => kt q H locs ls hP hD hS hl) (fun q => kf q H locs ls hP hD hS hl)
theorem ax_icmp_eq (O : mO X ad own cc N Rm ln) {x y : Int32} {off : Int} {tgt : Nat} (d : decode cc pc = .ok (.if_icmp .eq off, 3)) (ht : (pc : Int) + off = (tgt : Int)) (kt : x = y → mAW X ad cs ss tgt lv st h) (kf : ¬ x = y → mAW X ad cs ss (pc + 3) lv st h) : mAW X ad cs ss pc lv (.int y :: .int x :: st) h := by
  obtain ⟨p, l, e, R, s, m, args, below, meth, c, Q, A, D, kA, nL⟩ := X
  exact fun H locs ls hP hD hS hl => lv_icmp_eq O.1.1 O.1.2.1 d ht (fun q => kt q H locs ls hP hD hS hl) (fun q => kf q H locs ls hP hD hS hl)
theorem ax_if_ne (O : mO X ad own cc N Rm ln) {x : Int32} {off : Int} {tgt : Nat} (d : decode cc pc = .ok (.ifCond .ne off, 3)) (ht : (pc : Int) + off = (tgt : Int)) (kt : ¬ x = 0 → mAW X ad cs ss tgt lv st h) (kf : x = 0 → mAW X ad cs ss (pc + 3) lv st h) : mAW X ad cs ss pc lv (.int x :: st) h := by
  obtain ⟨p, l, e, R, s, m, args, below, meth, c, Q, A, D, kA, nL⟩ := X
  exact fun H locs ls hP hD hS hl => lv_if_ne O.1.1 O.1.2.1 d ht (fun q => kt q H locs ls hP hD hS hl) (fun q => kf q H locs ls hP hD hS hl)
theorem ax_icmp_ne (O : mO X ad own cc N Rm ln) {x y : Int32} {off : Int} {tgt : Nat} (d : decode cc pc = .ok (.if_icmp .ne off, 3)) (ht : (pc : Int) + off = (tgt : Int)) (kt : ¬ x = y → mAW X ad cs ss tgt lv st h) (kf : x = y → mAW X ad cs ss (pc + 3) lv st h) : mAW X ad cs ss pc lv (.int y :: .int x :: st) h := by
  obtain ⟨p, l, e, R, s, m, args, below, meth, c, Q, A, D, kA, nL⟩ := X
  exact fun H locs ls hP hD hS hl => lv_icmp_ne O.1.1 O.1.2.1 d ht (fun q => kt q H locs ls hP hD hS hl) (fun q => kf q H locs ls hP hD hS hl)
theorem ax_if_lt (O : mO X ad own cc N Rm ln) {x : Int32} {off : Int} {tgt : Nat} (d : decode cc pc = .ok (.ifCond .lt off, 3)) (ht : (pc : Int) + off = (tgt : Int)) (kt : x < 0 → mAW X ad cs ss tgt lv st h) (kf : ¬ x < 0 → mAW X ad cs ss (pc + 3) lv st h) : mAW X ad cs ss pc lv (.int x :: st) h := by
  obtain ⟨p, l, e, R, s, m, args, below, meth, c, Q, A, D, kA, nL⟩ := X
  exact fun H locs ls hP hD hS hl => lv_if_lt O.1.1 O.1.2.1 d ht (fun q => kt q H locs ls hP hD hS hl) (fun q => kf q H locs ls hP hD hS hl)
theorem ax_icmp_lt (O : mO X ad own cc N Rm ln) {x y : Int32} {off : Int} {tgt : Nat} (d : decode cc pc = .ok (.if_icmp .lt off, 3)) (ht : (pc : Int) + off = (tgt : Int)) (kt : x < y → mAW X ad cs ss tgt lv st h) (kf : ¬ x < y → mAW X ad cs ss (pc + 3) lv st h) : mAW X ad cs ss pc lv (.int y :: .int x :: st) h := by
  obtain ⟨p, l, e, R, s, m, args, below, meth, c, Q, A, D, kA, nL⟩ := X
  exact fun H locs ls hP hD hS hl => lv_icmp_lt O.1.1 O.1.2.1 d ht (fun q => kt q H locs ls hP hD hS hl) (fun q => kf q H locs ls hP hD hS hl)
theorem ax_if_ge (O : mO X ad own cc N Rm ln) {x : Int32} {off : Int} {tgt : Nat} (d : decode cc pc = .ok (.ifCond .ge off, 3)) (ht : (pc : Int) + off = (tgt : Int)) (kt : 0 ≤ x → mAW X ad cs ss tgt lv st h) (kf : ¬ 0 ≤ x → mAW X ad cs ss (pc + 3) lv st h) : mAW X ad cs ss pc lv (.int x :: st) h := by
  obtain ⟨p, l, e, R, s, m, args, below, meth, c, Q, A, D, kA, nL⟩ := X
  exact fun H locs ls hP hD hS hl => lv_if_ge O.1.1 O.1.2.1 d ht (fun q => kt q H locs ls hP hD hS hl) (fun q => kf q H locs ls hP hD hS hl)
theorem ax_icmp_ge (O : mO X ad own cc N Rm ln) {x y : Int32} {off : Int} {tgt : Nat} (d : decode cc pc = .ok (.if_icmp .ge off, 3)) (ht : (pc : Int) + off = (tgt : Int)) (kt : y ≤ x → mAW X ad cs ss tgt lv st h) (kf : ¬ y ≤ x → mAW X ad cs ss (pc + 3) lv st h) : mAW X ad cs ss pc lv (.int y :: .int x :: st) h := by
  obtain ⟨p, l, e, R, s, m, args, below, meth, c, Q, A, D, kA, nL⟩ := X
  exact fun H locs ls hP hD hS hl => lv_icmp_ge O.1.1 O.1.2.1 d ht (fun q => kt q H locs ls hP hD hS hl) (fun q => kf q H locs ls hP hD hS hl)
theorem ax_if_gt (O : mO X ad own cc N Rm ln) {x : Int32} {off : Int} {tgt : Nat} (d : decode cc pc = .ok (.ifCond .gt off, 3)) (ht : (pc : Int) + off = (tgt : Int)) (kt : 0 < x → mAW X ad cs ss tgt lv st h) (kf : ¬ 0 < x → mAW X ad cs ss (pc + 3) lv st h) : mAW X ad cs ss pc lv (.int x :: st) h := by
  obtain ⟨p, l, e, R, s, m, args, below, meth, c, Q, A, D, kA, nL⟩ := X
  exact fun H locs ls hP hD hS hl => lv_if_gt O.1.1 O.1.2.1 d ht (fun q => kt q H locs ls hP hD hS hl) (fun q => kf q H locs ls hP hD hS hl)
theorem ax_icmp_gt (O : mO X ad own cc N Rm ln) {x y : Int32} {off : Int} {tgt : Nat} (d : decode cc pc = .ok (.if_icmp .gt off, 3)) (ht : (pc : Int) + off = (tgt : Int)) (kt : y < x → mAW X ad cs ss tgt lv st h) (kf : ¬ y < x → mAW X ad cs ss (pc + 3) lv st h) : mAW X ad cs ss pc lv (.int y :: .int x :: st) h := by
  obtain ⟨p, l, e, R, s, m, args, below, meth, c, Q, A, D, kA, nL⟩ := X
  exact fun H locs ls hP hD hS hl => lv_icmp_gt O.1.1 O.1.2.1 d ht (fun q => kt q H locs ls hP hD hS hl) (fun q => kf q H locs ls hP hD hS hl)
theorem ax_if_le (O : mO X ad own cc N Rm ln) {x : Int32} {off : Int} {tgt : Nat} (d : decode cc pc = .ok (.ifCond .le off, 3)) (ht : (pc : Int) + off = (tgt : Int)) (kt : x ≤ 0 → mAW X ad cs ss tgt lv st h) (kf : ¬ x ≤ 0 → mAW X ad cs ss (pc + 3) lv st h) : mAW X ad cs ss pc lv (.int x :: st) h := by
  obtain ⟨p, l, e, R, s, m, args, below, meth, c, Q, A, D, kA, nL⟩ := X
  exact fun H locs ls hP hD hS hl => lv_if_le O.1.1 O.1.2.1 d ht (fun q => kt q H locs ls hP hD hS hl) (fun q => kf q H locs ls hP hD hS hl)
theorem ax_icmp_le (O : mO X ad own cc N Rm ln) {x y : Int32} {off : Int} {tgt : Nat} (d : decode cc pc = .ok (.if_icmp .le off, 3)) (ht : (pc : Int) + off = (tgt : Int)) (kt : x ≤ y → mAW X ad cs ss tgt lv st h) (kf : ¬ x ≤ y → mAW X ad cs ss (pc + 3) lv st h) : mAW X ad cs ss pc lv (.int y :: .int x :: st) h := by
  obtain ⟨p, l, e, R, s, m, args, below, meth, c, Q, A, D, kA, nL⟩ := X
  exact fun H locs ls hP hD hS hl => lv_icmp_le O.1.1 O.1.2.1 d ht (fun q => kt q H locs ls hP hD hS hl) (fun q => kf q H locs ls hP hD hS hl)
theorem ax_goto (O : mO X ad own cc N Rm ln) {off : Int} {tgt : Nat} (d : decode cc pc = .ok (.goto off, 3)) (ht : (pc : Int) + off = (tgt : Int)) (k : mAW X ad cs ss tgt lv st h) : mAW X ad cs ss pc lv st h := by
  obtain ⟨p, l, e, R, s, m, args, below, meth, c, Q, A, D, kA, nL⟩ := X
  exact fun H locs ls hP hD hS hl => lv_goto O.1.1 O.1.2.1 d ht (k H locs ls hP hD hS hl)
theorem ax_tableOut (O : mO X ad own cc N Rm ln) {dflt lo hi : Int} {offs : Array Int} {len : Nat} {x : Int32} {tgt : Nat} (d : decode cc pc = .ok (.tableswitch dflt lo hi offs, len)) (hq : x.toInt < lo ∨ hi < x.toInt) (ht : (pc : Int) + dflt = (tgt : Int)) (k : mAW X ad cs ss tgt lv st h) : mAW X ad cs ss pc lv (.int x :: st) h := by
  obtain ⟨p, l, e, R, s, m, args, below, meth, c, Q, A, D, kA, nL⟩ := X
  exact fun H locs ls hP hD hS hl => lv_tableOut O.1.1 O.1.2.1 d hq ht (k H locs ls hP hD hS hl)
theorem ax_tableIn (O : mO X ad own cc N Rm ln) {dflt lo hi : Int} {offs : Array Int} {len : Nat} {x : Int32} {off : Int} {tgt : Nat} (d : decode cc pc = .ok (.tableswitch dflt lo hi offs, len)) (h1 : ¬ x.toInt < lo) (h2 : ¬ hi < x.toInt) (ho : offs[(x.toInt - lo).toNat]? = some off) (ht : (pc : Int) + off = (tgt : Int)) (k : mAW X ad cs ss tgt lv st h) : mAW X ad cs ss pc lv (.int x :: st) h := by
  obtain ⟨p, l, e, R, s, m, args, below, meth, c, Q, A, D, kA, nL⟩ := X
  exact fun H locs ls hP hD hS hl => lv_tableIn O.1.1 O.1.2.1 d h1 h2 ho ht (k H locs ls hP hD hS hl)
theorem ax_lookup (O : mO X ad own cc N Rm ln) {dflt : Int} {ps : Array (Int × Int)} {len : Nat} {x : Int32} {off : Int} {tgt : Nat} (d : decode cc pc = .ok (.lookupswitch dflt ps, len)) (hp : (ps.toList.zip (ps.toList.drop 1)).all (fun (a, next) => a.1 < next.1) = true) (ho : Op.lookupswitch.offset ps.toList dflt x.toInt = off) (ht : (pc : Int) + off = (tgt : Int)) (k : mAW X ad cs ss tgt lv st h) : mAW X ad cs ss pc lv (.int x :: st) h := by
  obtain ⟨p, l, e, R, s, m, args, below, meth, c, Q, A, D, kA, nL⟩ := X
  exact fun H locs ls hP hD hS hl => lv_lookup O.1.1 O.1.2.1 d hp ho ht (k H locs ls hP hD hS hl)
theorem ax_sub (ks : List Nat) (he : lv_pick lv ks = lv') (k : mAW X ad cs ss pc lv' st h) : mAW X ad cs ss pc lv st h := by
  obtain ⟨p, l, e, R, s, m, args, below, meth, c, Q, A, D, kA, nL⟩ := X
  exact fun H locs ls hP hD hS hl => k H locs ls hP hD hS (lv_sub hl ks (ml_pick he))
theorem ax_get (O : mO X ad own cc N Rm ln) {ix ci kf i : Nat} (hF : mFg own ix ci kf) {fs : List Value} {v : Value} (hi : h[i]? = some (.inr (ci, fs))) (hv : fs[kf]? = some v) (d : decode cc pc = .ok (.getfield ix, 3)) (k : mAW X ad cs ss (pc + 3) lv (v :: st) h) : mAW X ad cs ss pc lv (.ref i :: st) h := by
  obtain ⟨p, l, e, R, s, m, args, below, meth, c, Q, A, D, kA, nL⟩ := X
  obtain ⟨C, T, Nf, hc, hk, hin, hw⟩ := hF
  intro H locs ls hP hD hS hl
  have hK : va_K D classes [] s := mK0 O.2.2.1
  have hv' : (fs.map (mv ad))[kf]? = some (mv ad v) := by simp [hv]
  rcases hw with hw | ⟨host, hw⟩
  · exact va_get (v := mv ad v) O.1.1 O.1.2.1 O.2.1 hin O.1.2.2.2.1 hK hP i (mW_get hi) hc kf hk (O.2.1 _ hw) (fun _ h => h) hv' d (k H locs ls hP hD hS hl)
  · exact va_getN (v := mv ad v) O.1.1 O.1.2.1 O.2.1 hin O.1.2.2.2.1 hK hP i (mW_get hi) hc kf hk (va_Nw.use rfl (O.2.2.1.2.2 _ hw)) (fun _ h => h) hv' d (k H locs ls hP hD hS hl)
theorem mW_put {ad : Nat → Nat} {kA : FieldType → ClassId} {h h' : mH} {i ci kf : Nat} {fs : List Value} {v : Value} (he : h' = h.set i (.inr (ci, fs.set kf v))) : (mW ad kA h).set i (ad i, .inr (ci, (fs.map (mv ad)).set kf (mv ad v))) = mW ad kA h' := by
  subst he
  rw [← mW_set]
  simp only [me, List.map_set]
theorem ax_put (O : mO X ad own cc N Rm ln) {ix ci kf i : Nat} {ty : FieldType} (hF : mFp own ix ci kf ty false) {fs : List Value} {v : Value} {h' : mH} (hi : h[i]? = some (.inr (ci, fs))) (hlen : kf < fs.length) (he : h' = h.set i (.inr (ci, fs.set kf v))) (hn : narrow ty (mv ad v) = mv ad v) (hfit : fits ty (mv ad v) = true) (d : decode cc pc = .ok (.putfield ix, 3)) (k : mAW X ad cs ss (pc + 3) lv st h') : mAW X ad cs ss pc lv (v :: .ref i :: st) h := by
  obtain ⟨p, l, e, R, s, m, args, below, meth, c, Q, A, D, kA, nL⟩ := X
  obtain ⟨C, T, Nf, ty0, hc, hk, hin, hw, hty, hnm, hfin, hty0, -⟩ := hF
  intro H locs ls hP hD hS hl
  have hK : va_K D classes [] s := mK0 O.2.2.1
  have hl' : kf < (fs.map (mv ad)).length := by simpa using hlen
  have hd : parseFieldDescriptor (T kf).2.2.1 = some ty := by rw [hty kf hk, hty0]
  have he' : (mW ad kA h).set i (ad i, .inr (ci, (fs.map (mv ad)).set kf (mv ad v))) = mW ad kA h' := mW_put he
  rcases hw with hw | ⟨host, hw⟩
  · exact va_put (v := mv ad v) O.1.1 O.1.2.1 O.2.1 hin ty0 hty hnm O.1.2.2.2.1 hK hP hD hS i (mW_get hi) hc kf hk (O.2.1 _ hw) (fun _ h => h) hfin hd hn hfit hl' d (fun H1 locs1 hP1 hD1 hS1 => k H1 locs1 ls (he' ▸ hP1) (he' ▸ hD1) hS1 hl)
  · exact va_putN (v := mv ad v) O.1.1 O.1.2.1 O.2.1 hin ty0 hty hnm O.1.2.2.2.1 hK hP hD hS i (mW_get hi) hc kf hk (va_Nw.use rfl (O.2.2.1.2.2 _ hw)) (fun _ h => h) hfin hd hn hfit hl' d (fun H1 locs1 hP1 hD1 hS1 => k H1 locs1 ls (he' ▸ hP1) (he' ▸ hD1) hS1 hl)
theorem ax_iald (O : mO X ad own cc N Rm ln) {a n : Nat} {f : Nat → Int32} {j v : Int32} (hi : h[a]? = some (.inl (.int, (n, .inl f)))) (hin : vp_in j n) (hv : f j.toNatClampNeg = v) (d : decode cc pc = .ok (.iaload, 1)) (k : mAW X ad cs ss (pc + 1) lv (.int v :: st) h) : mAW X ad cs ss pc lv (.int j :: .ref a :: st) h := by
  obtain ⟨p, l, e, R, s, m, args, below, meth, c, Q, A, D, kA, nL⟩ := X
  subst hv
  exact fun H locs ls hP hD hS hl => va_iald O.1.1 O.1.2.1 (mKt O.2.2.1 (ty := .int) (by decide)) hP a 0 (mW_get hi) rfl hin d (k H locs ls hP hD hS hl)
theorem ax_bald (O : mO X ad own cc N Rm ln) {a n : Nat} {f : Nat → Int32} {j v : Int32} (hi : h[a]? = some (.inl (.byte, (n, .inl f)))) (hin : vp_in j n) (hv : f j.toNatClampNeg = v) (d : decode cc pc = .ok (.baload, 1)) (k : mAW X ad cs ss (pc + 1) lv (.int v :: st) h) : mAW X ad cs ss pc lv (.int j :: .ref a :: st) h := by
  obtain ⟨p, l, e, R, s, m, args, below, meth, c, Q, A, D, kA, nL⟩ := X
  subst hv
  exact fun H locs ls hP hD hS hl => va_bald O.1.1 O.1.2.1 (mKt O.2.2.1 (ty := .byte) (by decide)) hP a 0 (mW_get hi) rfl hin d (k H locs ls hP hD hS hl)
theorem ax_iast (O : mO X ad own cc N Rm ln) {a n : Nat} {f : Nat → Int32} {j x : Int32} {h' : mH} (hi : h[a]? = some (.inl (.int, (n, .inl f)))) (hin : vp_in j n) (he : h' = h.set a (.inl (.int, (n, .inl (upd f j.toNatClampNeg x))))) (d : decode cc pc = .ok (.iastore, 1)) (k : mAW X ad cs ss (pc + 1) lv st h') : mAW X ad cs ss pc lv (.int x :: .int j :: .ref a :: st) h := by
  obtain ⟨p, l, e, R, s, m, args, below, meth, c, Q, A, D, kA, nL⟩ := X
  have he' : (mW ad kA h).set a (ad a, .inl (kA .int, (n, .inl (upd f j.toNatClampNeg x)))) = mW ad kA h' := by rw [he, ← mW_set]; rfl
  exact fun H locs ls hP hD hS hl => va_iast O.1.1 O.1.2.1 (mKt O.2.2.1 (ty := .int) (by decide)) hP hD hS a 0 (mW_get hi) rfl hin d (fun H1 locs1 hP1 hD1 hS1 => k H1 locs1 ls (he' ▸ hP1) (he' ▸ hD1) hS1 hl)
theorem ax_bast (O : mO X ad own cc N Rm ln) {a n : Nat} {f : Nat → Int32} {j x : Int32} {h' : mH} (hi : h[a]? = some (.inl (.byte, (n, .inl f)))) (hin : vp_in j n) (he : h' = h.set a (.inl (.byte, (n, .inl (upd f j.toNatClampNeg x.toInt8.toInt32))))) (d : decode cc pc = .ok (.bastore, 1)) (k : mAW X ad cs ss (pc + 1) lv st h') : mAW X ad cs ss pc lv (.int x :: .int j :: .ref a :: st) h := by
  obtain ⟨p, l, e, R, s, m, args, below, meth, c, Q, A, D, kA, nL⟩ := X
  have he' : (mW ad kA h).set a (ad a, .inl (kA .byte, (n, .inl (upd f j.toNatClampNeg (vp_nar .byte x))))) = mW ad kA h' := by rw [vp_nar_byte, he, ← mW_set]; rfl
  exact fun H locs ls hP hD hS hl => va_bast O.1.1 O.1.2.1 (mKt O.2.2.1 (ty := .byte) (by decide)) hP hD hS a 0 (mW_get hi) rfl hin d (fun H1 locs1 hP1 hD1 hS1 => k H1 locs1 ls (he' ▸ hP1) (he' ▸ hD1) hS1 hl)
theorem ma_len (ad : Nat → Nat) (x : vp_A) : (ma ad x).1 = x.1 := by
  obtain ⟨n, f | f | f | f | f⟩ := x <;> rfl
theorem ax_alen (O : mO X ad own cc N Rm ln) {a : Nat} {ty : FieldType} {x : vp_A} (hty : ty ∈ mTys) {v : Int32} (hi : h[a]? = some (.inl (ty, x))) (hv : nI x.1 = v) (d : decode cc pc = .ok (.arraylength, 1)) (k : mAW X ad cs ss (pc + 1) lv (.int v :: st) h) : mAW X ad cs ss pc lv (.ref a :: st) h := by
  obtain ⟨p, l, e, R, s, m, args, below, meth, c, Q, A, D, kA, nL⟩ := X
  subst hv
  exact fun H locs ls hP hD hS hl => va_alen O.1.1 O.1.2.1 (mKt O.2.2.1 hty) hP a 0 (mW_get hi) rfl (v := nI x.1) (by rw [ma_len]; rfl) d (k H locs ls hP hD hS hl)
theorem ax_aald (O : mO X ad own cc N Rm ln) {a n r : Nat} {C : String} {f : Nat → Option Nat} {j : Int32} (hty : .object C ∈ mTys) (hi : h[a]? = some (.inl (.object C, (n, .inr (.inr (.inr (.inr f))))))) (hin : vp_in j n) (hr : f j.toNatClampNeg = some r) (d : decode cc pc = .ok (.aaload, 1)) (k : mAW X ad cs ss (pc + 1) lv (.ref r :: st) h) : mAW X ad cs ss pc lv (.int j :: .ref a :: st) h := by
  obtain ⟨p, l, e, R, s, m, args, below, meth, c, Q, A, D, kA, nL⟩ := X
  intro H locs ls hP hD hS hl
  refine va_aldq (f := mg ad f) O.1.1 O.1.2.1 (mKt O.2.2.1 hty) hP a 0 (mW_get hi) rfl hin d ?_
  rw [show mg ad f j.toNatClampNeg = some (ad r) by simp [mg, hr]]
  exact k H locs ls hP hD hS hl
/-- a static array's reference is the number 10000 + k -/
theorem ax_gets (O : mO X ad own cc N Rm ln) {ix : Nat} (k : Nat) {q : mSt} (hq : mSta[k]? = some q) (hw : Cond.fieldLink own ix q.1 q.2.1 q.2.2.1 ∈ mGood) (d : decode cc pc = .ok (.getstatic ix, 3)) (kk : mAW X ad cs ss (pc + 3) lv (.ref (10000 + k) :: st) h) : mAW X ad cs ss pc lv st h := by
  obtain ⟨p, l, e, R, s, m, args, below, meth, c, Q, A, D, kA, nL⟩ := X
  exact fun H locs ls hP hD hS hl => va_gets O.1.1 O.1.2.1 (O.2.2.2.1 k q hq).1 hS O.1.2.2.2.1 (O.2.1 _ hw) (fun _ h => h) d (kk H locs ls hP hD hS hl)
theorem ax_sti (O : mO X ad own cc N Rm ln) (k : Nat) {q : mSt} (hq : mSta[k]? = some q) (hty : q.2.2.2.1 = .int) {j v : Int32} (hin : vp_in j q.2.2.2.2.1) (hv : q.2.2.2.2.2 j.toNatClampNeg = v) (d : decode cc pc = .ok (.iaload, 1)) (kk : mAW X ad cs ss (pc + 1) lv (.int v :: st) h) : mAW X ad cs ss pc lv (.int j :: .ref (10000 + k) :: st) h := by
  obtain ⟨p, l, e, R, s, m, args, below, meth, c, Q, A, D, kA, nL⟩ := X
  subst hv
  have hT := (O.2.2.2.1 k q hq).2
  rw [hty] at hT
  exact fun H locs ls hP hD hS hl => va_ti O.1.1 O.1.2.1 hT hS hin rfl d (kk H locs ls hP hD hS hl)
theorem ax_stl (O : mO X ad own cc N Rm ln) (k : Nat) {q : mSt} (hq : mSta[k]? = some q) (d : decode cc pc = .ok (.arraylength, 1)) (kk : mAW X ad cs ss (pc + 1) lv (.int (nI q.2.2.2.2.1) :: st) h) : mAW X ad cs ss pc lv (.ref (10000 + k) :: st) h := by
  obtain ⟨p, l, e, R, s, m, args, below, meth, c, Q, A, D, kA, nL⟩ := X
  exact fun H locs ls hP hD hS hl => va_tlen O.1.1 O.1.2.1 (O.2.2.2.1 k q hq).2 hS rfl d (kk H locs ls hP hD hS hl)
theorem ax_ret (O : mO X ad own cc N Rm ln) {ty : FieldType} {v : Int32} (hE : mEnd X ad (some ty) (some (.int v)) h) (hn : narrow ty (.int v) = .int v) (d : decode cc pc = .ok (.ireturn, 1)) : mAW X ad 0 0 pc lv [.int v] h := by
  obtain ⟨p, l, e, R, s, m, args, below, meth, c, Q, A, D, kA, nL⟩ := X
  obtain ⟨hQ, hr⟩ := hE
  subst hQ
  exact fun H locs ls hP hD hS hl => W.zret O.1.1 O.1.2.1 hr hn (fun t ht hW => ⟨rfl, by rw [ht]; exact hP, hD, hS.F ht⟩) hS.2.2 d O.1.2.2.2.2.1
theorem ax_vret (O : mO X ad own cc N Rm ln) (hE : mEnd X ad none none h) (d : decode cc pc = .ok (.return_, 1)) : mAW X ad 0 0 pc lv [] h := by
  obtain ⟨p, l, e, R, s, m, args, below, meth, c, Q, A, D, kA, nL⟩ := X
  obtain ⟨hQ, hr⟩ := hE
  subst hQ
  exact fun H locs ls hP hD hS hl => W.vret O.1.1 O.1.2.1 hr (fun t ht hW => ⟨rfl, by rw [ht]; exact hP, hD, hS.F ht⟩) hS.2.2 d O.1.2.2.2.2.1
theorem ax_lret (O : mO X ad own cc N Rm ln) {v : Int64} (hE : mEnd X ad (some .long) (some (.long v)) h) (d : decode cc pc = .ok (.lreturn, 1)) : mAW X ad 0 0 pc lv [.long v] h := by
  obtain ⟨p, l, e, R, s, m, args, below, meth, c, Q, A, D, kA, nL⟩ := X
  obtain ⟨hQ, hr⟩ := hE
  subst hQ
  exact fun H locs ls hP hD hS hl => W.lret O.1.1 O.1.2.1 hr (fun t ht hW => ⟨rfl, by rw [ht]; exact hP, hD, hS.F ht⟩) hS.2.2 d O.1.2.2.2.2.1
theorem ax_aret (O : mO X ad own cc N Rm ln) {ty : FieldType} {v : Nat} (hty : (∃ n, ty = .object n) ∨ ∃ t, ty = .array t) (hE : mEnd X ad (some ty) (some (.ref v)) h) (d : decode cc pc = .ok (.areturn, 1)) : mAW X ad 0 0 pc lv [.ref v] h := by
  obtain ⟨p, l, e, R, s, m, args, below, meth, c, Q, A, D, kA, nL⟩ := X
  obtain ⟨hQ, hr⟩ := hE
  subst hQ
  exact fun H locs ls hP hD hS hl => W.aret (v := .ref (ad v)) O.1.1 O.1.2.1 hr hty (Or.inr ⟨_, rfl⟩) (fun t ht hW => ⟨rfl, by rw [ht]; exact hP, hD, hS.F ht⟩) hS.2.2 d O.1.2.2.2.2.1
end mRows
theorem mGoodIn (y : MethodName) (bytes : ByteArray) (maxL : Nat) (ret : Option FieldType) (h : Cond.code y bytes maxL ret ∈ mGood) : GoodIn mGood (Cond.code y bytes maxL ret :: mGood) := by
  intro w hw
  have hm : w ∈ mGood := by
    rcases List.mem_cons.mp hw with e | e
    · rw [e]; exact h
    · exact e
  exact ⟨hm, good_of_word (mGood_good w hm)⟩
theorem mPre_blind {D : va_G} {kA : FieldType → ClassId} {ad : Nat → Nat} {As : List Value} {h : mH} {sz : Nat} : FrameBlind (mPre D kA ad As h sz) := by
  intro a U g mk q
  obtain ⟨q0, q1, qP, qK, qT, qD⟩ := q
  exact ⟨q0, q1, qP, mK.same (u := U) (U := U.calling g mk a) rfl qK, mT.moved (u := U) (U := U.calling g mk a) (Vm.Alike.refl U.vm) qT, qD⟩
section mCalls
variable {X : mX} {ad : Nat → Nat} {own : String} {cc : ByteArray} {N cs ss pc : Nat} {lv lv' : List (Nat × Value)} {h h' : mH} {Rm rm : Room} {ln : Launch} {ix n maxL : Nat} {y : MethodName} {bytes : ByteArray} {ret : Option FieldType} {As rest : List Value} {v : Option Value}
/-- behind a call -/
theorem mAfter {p : Program} {l : Launch} {e : Env} {R : Room} {s : State} {m : MethodId} {args : Array Value} {below : List Frame} {meth : Method} {c : Code} {Q : State → Prop} {A : Nat → Prop} {D : va_G} {kA : FieldType → ClassId} {nL : Nat} {H : Heap} {locs : List Loc} {ls : Array Slot} {st0 : List Value} {a : Array Value}
    (run : va_Run p l e R s m args below meth c H locs cs ss 0 0 (F0 m pc ls st0) (rest.map (mv ad)) (mPost (va_A (mW ad kA h) H.size) D kA ad v h' a) (va_A (mW ad kA h) H.size)) (hF : ∀ q, va_A (mW ad kA h) H.size q → A q) (hS : va_S A s.heap H locs) (hl : lv_has ls nL (ml ad lv))
    (k : mAW (p, l, e, R, s, m, args, below, meth, c, Q, A, D, kA, nL) ad cs ss (pc + 3) lv (v.toList ++ rest) h') : W p l e R s m args below meth c H locs cs ss Q (F0 m pc ls st0) := by
  intro T hT Xs
  obtain ⟨v', st₀, t, T', L, h0, X', hL, e1, e2, ⟨hv, hP', hD', hz, hk⟩, st⟩ := run T hT Xs
  have hv' : v' = v.map (mv ad) := by injection hv
  subst hv'
  rw [h0] at hz hk
  have hS' : va_S A s.heap T'.heap (locs ++ L) := ⟨Nat.le_trans hS.1 (by rw [e1]; exact hz), fun q h1 h2 => by rw [e1, hk q (Nat.lt_of_lt_of_le h1 hS.1) (fun z => h2 (hF q z))]; exact hS.2.1 q h1 h2, fun q hq => by
      rcases List.mem_append.mp hq with h | h
      · exact hS.2.2 q h
      · exact hF _ (hL q h)⟩
  obtain ⟨t2, a1, b1⟩ := k T'.heap (locs ++ L) ls (by rw [e1]; exact hP') (hD'.weaken (fun _ _ _ hq => hF _ hq)) hS' hl T' rfl X'
  refine ⟨t2, st t2 ?_, b1⟩
  have he : (v.toList ++ rest).map (mv ad) = (v.map (mv ad)).toList ++ rest.map (mv ad) := by cases v <;> simp
  rw [← he]
  exact a1
theorem mFree {A : Nat → Prop} {ws : va_W} {H0 H : Heap} {locs : List Loc} (hD : va_D A ws) (hS : va_S A H0 H locs) (hA : ∀ q, H0.size ≤ q → A q) : ∀ q, va_A ws H.size q → A q := by
  intro q hq
  rcases hq with ⟨k, e, hk⟩ | hq
  · exact hD.2 k (q, e) hk
  · exact hA q (Nat.le_trans hS.1 hq)
theorem mPreAt {s : State} {A : Nat → Prop} {D : va_G} {kA : FieldType → ClassId} {H : Heap} {locs : List Loc} (hK : mK D kA s) (hT : mT ad A s s.heap) (hA : ∀ q, s.heap.size ≤ q → A q) (hP : va_P D classes (mW ad kA h) H) (hD : va_D A (mW ad kA h)) (hS : va_S A s.heap H locs) (U : State) (hU : U.heap = H) (hW : s.WarmedH U.vm) : mPre D kA ad As h H.size (As.map (mv ad)).toArray U := by
  refine ⟨rfl, by rw [hU], by rw [hU]; exact hP, hK.moved hW, ?_, hD.weaken (fun _ _ _ _ => trivial)⟩
  rw [hU]
  have h1 : mT ad A s H := hT.kept (fun a ha hn => hS.2.1 a ha hn)
  exact (h1.narrow (mFree hD hS hA)).moved hW.alike
theorem ax_callS (O : mO X ad own cc N Rm ln) (hC : mCw y bytes maxL ret n) (hst : Cond.static y ∈ mGood) (hlk : mLk own ix y) (hM : mMet ln y bytes maxL ret rm As h v h') (hn : As.length = n) (hrm : rm.cells = 0 ∧ rm.slots = 0) (hR : rm.frames + 1 ≤ Rm.frames ∧ 8 + (maxL + 11) + rm.locals ≤ Rm.locals) (hcs : cs ≤ Rm.cells ∧ ss ≤ Rm.slots) (hrs : (rest.map fun v => v.category).sum ≤ 8) (d : decode cc pc = .ok (.invokestatic ix, 3)) (k : mAW X ad cs ss (pc + 3) lv (v.toList ++ rest) h') : mAW X ad cs ss pc lv (As.reverse ++ rest) h := by
  obtain ⟨p, l, e, R, s, m, args, below, meth, c, Q, A, D, kA, nL⟩ := X
  obtain ⟨⟨hx, hb, hml, hown, hlk0, rfl, rfl, rfl⟩, hts, hK, hT, hA⟩ := O
  intro H locs ls hP hD hS hl
  obtain ⟨hc1, hc2, hc3, hc4⟩ := hC
  have hF := mFree hD hS hA
  have hstk : (As.reverse ++ rest).map (mv ad) = (As.map (mv ad)).reverse ++ rest.map (mv ad) := by simp
  have hcat : ((rest.map (mv ad)).map fun v => v.category).sum ≤ 8 := by
    rw [List.map_map, show ((fun v : Value => v.category) ∘ mv ad) = (fun v => v.category) from funext (fun v => mv_cat ad v)]; exact hrs
  rw [hstk]
  rcases hlk with hlk | ⟨host, hlk⟩
  · exact mAfter (va_runS (As := As.map (mv ad)) (rest := rest.map (mv ad)) ⟨hx, hb, hml, hown, hts⟩ (hM D kA ad H.size) ⟨callB_of n hts (mGoodIn y bytes maxL ret hc1) rfl hrm.1 hrm.2 (hts _ hc2) (hts _ hlk) ⟨hc3.1, hc3.2, hc4⟩ hR, hts _ hst⟩ ⟨mPre_blind, fun U hU hW => mPreAt hK hT hA hP hD hS U hU hW⟩ rfl (by rw [List.length_map]; exact hn) hl.1 rfl (lv_room hcat) d ⟨hcs.1, hcs.2⟩) hF hS hl k
  · exact mAfter (va_runSN (As := As.map (mv ad)) (rest := rest.map (mv ad)) ⟨hx, hb, hml, hown, hts⟩ (hM D kA ad H.size) ⟨va_cnB n hts (mGoodIn y bytes maxL ret hc1) rfl hrm.1 hrm.2 (hK.2.2 _ hlk) (hts _ hc2) ⟨hc3.1, hc3.2, hc4⟩ hR, hts _ hst, trivial⟩ ⟨mPre_blind, fun U hU hW => mPreAt hK hT hA hP hD hS U hU hW⟩ rfl (by rw [List.length_map]; exact hn) hl.1 rfl (lv_room hcat) d ⟨hcs.1, hcs.2⟩) hF hS hl k
theorem ax_callV (O : mO X ad own cc N Rm ln) (hC : mCw y bytes maxL ret n) {ci b : Nat} {q : vw_C} {fs : List Value} (hcl : classes[ci]? = some q) (hyc : y.cls = q.1) (hin : Cond.instanceMethod y ∈ mGood) (hse : Cond.selects q.1 y y ∈ mGood) (hlk : mLk own ix y) (hb' : h[b]? = some (.inr (ci, fs))) (hM : mMet ln y bytes maxL ret rm (.ref b :: As) h v h') (hn : As.length = n) (hrm : rm.cells = 0 ∧ rm.slots = 0) (hR : rm.frames + 1 ≤ Rm.frames ∧ 8 + (maxL + 11) + rm.locals ≤ Rm.locals) (hcs : cs ≤ Rm.cells ∧ ss ≤ Rm.slots) (hrs : (rest.map fun v => v.category).sum ≤ 8) (d : decode cc pc = .ok (.invokevirtual ix, 3)) (k : mAW X ad cs ss (pc + 3) lv (v.toList ++ rest) h') : mAW X ad cs ss pc lv (As.reverse ++ .ref b :: rest) h := by
  obtain ⟨p, l, e, R, s, m, args, below, meth, c, Q, A, D, kA, nL⟩ := X
  obtain ⟨⟨hx, hb, hml, hown, hlk0, rfl, rfl, rfl⟩, hts, hK, hT, hA⟩ := O
  intro H locs ls hP hD hS hl
  obtain ⟨hc1, hc2, hc3, hc4⟩ := hC
  have hF := mFree hD hS hA
  have hstk : (As.reverse ++ .ref b :: rest).map (mv ad) = (As.map (mv ad)).reverse ++ .ref (ad b) :: rest.map (mv ad) := by simp [mv]
  have hcat : ((rest.map (mv ad)).map fun v => v.category).sum ≤ 8 := by
    rw [List.map_map, show ((fun v : Value => v.category) ∘ mv ad) = (fun v => v.category) from funext (fun v => mv_cat ad v)]; exact hrs
  rw [hstk]
  have hrecv := va_recv (mK0 hK) hP hcl (mW_get hb')
  rcases hlk with hlk | ⟨host, hlk⟩
  · exact mAfter (va_runV (C := q.1) (As := As.map (mv ad)) (rest := rest.map (mv ad)) ⟨hx, hb, hml, hown, hts⟩ (hM D kA ad H.size) ⟨callB_of n hts (mGoodIn y bytes maxL ret hc1) rfl hrm.1 hrm.2 (hts _ hc2) (hts _ hlk) ⟨hc3.1, hc3.2, hc4⟩ hR, hts _ hin, hts _ hse⟩ ⟨mPre_blind, hrecv, fun U hU hW => mPreAt (As := .ref b :: As) hK hT hA hP hD hS U hU hW⟩ rfl (by rw [List.length_map]; exact hn) hl.1 rfl (lv_room hcat) d ⟨hcs.1, hcs.2⟩) hF hS hl k
  · exact mAfter (va_runVN (C := q.1) (As := As.map (mv ad)) (rest := rest.map (mv ad)) ⟨hx, hb, hml, hown, hts⟩ (hM D kA ad H.size) ⟨va_cnB n hts (mGoodIn y bytes maxL ret hc1) rfl hrm.1 hrm.2 (hK.2.2 _ hlk) (hts _ hc2) ⟨hc3.1, hc3.2, hc4⟩ hR, hts _ hin, hts _ hse⟩ ⟨mPre_blind, hrecv, fun U hU hW => mPreAt (As := .ref b :: As) hK hT hA hP hD hS U hU hW⟩ rfl (by rw [List.length_map]; exact hn) hl.1 rfl (lv_room hcat) d ⟨hcs.1, hcs.2⟩) hF hS hl k
end mCalls
noncomputable def mac {α : Type} (h : mH) (ty : FieldType) (a : Nat) (sp : Int32) (b : Nat) (dp n : Int32) (F : mH → Option α) : Option α := match h[a]?, h[b]? with
  | some (.inl (t0, (n0, .inl f))), some (.inl (t1, (n1, .inl g))) => mgd (t0 = ty ∧ t1 = ty ∧ ¬ sp < 0 ∧ ¬ dp < 0 ∧ ¬ n < 0 ∧ sp.toNatClampNeg + n.toNatClampNeg ≤ n0 ∧ dp.toNatClampNeg + n.toNatClampNeg ≤ n1 ∧ ∀ i, i < n.toNatClampNeg → fits ty (.int (f (sp.toNatClampNeg + i))) = true) (F (h.set b (.inl (ty, (n1, .inl (va_cpy f g sp.toNatClampNeg dp.toNatClampNeg n.toNatClampNeg))))))
  | _, _ => none
def mCp (h : mH) (ty : FieldType) (a : Nat) (sp : Int32) (b : Nat) (dp n : Int32) (h' : mH) : Prop := ∃ (n0 n1 : Nat) (f g : Nat → Int32), h[a]? = some (.inl (ty, (n0, .inl f))) ∧ h[b]? = some (.inl (ty, (n1, .inl g))) ∧ ¬ sp < 0 ∧ ¬ dp < 0 ∧ ¬ n < 0 ∧ sp.toNatClampNeg + n.toNatClampNeg ≤ n0 ∧ dp.toNatClampNeg + n.toNatClampNeg ≤ n1 ∧ (∀ i, i < n.toNatClampNeg → fits ty (.int (f (sp.toNatClampNeg + i))) = true) ∧ h' = h.set b (.inl (ty, (n1, .inl (va_cpy f g sp.toNatClampNeg dp.toNatClampNeg n.toNatClampNeg))))
theorem mac_some {α : Type} {h : mH} {ty : FieldType} {a b : Nat} {sp dp n : Int32} {F : mH → Option α} {r : α} (hh : mac h ty a sp b dp n F = some r) : ∃ h' : mH, mCp h ty a sp b dp n h' ∧ F h' = some r := by
  unfold mac at hh
  split at hh
  · rename_i t0 n0 f t1 n1 g e1 e2
    obtain ⟨⟨rfl, rfl, q1, q2, q3, q4, q5, q6⟩, hh⟩ := mgd_some hh
    exact ⟨_, ⟨n0, n1, f, g, e1, e2, q1, q2, q3, q4, q5, q6, rfl⟩, hh⟩
  · cases hh
section mMore
variable {X : mX} {ad : Nat → Nat} {own : String} {cc : ByteArray} {N cs ss pc : Nat} {lv lv' : List (Nat × Value)} {st : List Value} {h h' : mH} {Rm : Room} {ln : Launch} {ix : Nat}
theorem ax_nmi {x y : Int32} (hy : y = x) (k : mAW X ad cs ss pc lv (.int y :: st) h) : mAW X ad cs ss pc lv (.int x :: st) h := hy ▸ k
theorem ax_nml {x y : Int64} (hy : y = x) (k : mAW X ad cs ss pc lv (.long y :: st) h) : mAW X ad cs ss pc lv (.long x :: st) h := hy ▸ k
theorem mcats (ad : Nat → Nat) (st : List Value) : ((st.map (mv ad)).map fun v => v.category).sum = (st.map fun v => v.category).sum := by
  rw [List.map_map, show ((fun v : Value => v.category) ∘ mv ad) = (fun v => v.category) from funext (fun v => mv_cat ad v)]
theorem ax_mmax (O : mO X ad own cc N Rm ln) (hw : Cond.methodLink own ix Lib.Math.max.name ∈ mGood) (hfr : 1 ≤ Rm.frames ∧ cs ≤ Rm.cells ∧ ss ≤ Rm.slots) (hlo : (st.map fun v => v.category).sum + 13 ≤ Rm.locals) {x y : Int32} (d : decode cc pc = .ok (.invokestatic ix, 3)) (k : mAW X ad cs ss (pc + 3) lv (.int (if x < y then y else x) :: st) h) : mAW X ad cs ss pc lv (.int y :: .int x :: st) h := by
  obtain ⟨p, l, e, R, s, m, args, below, meth, c, Q, A, D, kA, nL⟩ := X
  obtain ⟨⟨hx, hb, hml, hown, hlk0, rfl, rfl, rfl⟩, hts, hK, hT, hA⟩ := O
  exact fun H locs ls hP hD hS hl => va_mmax hx hb (hml.trans hl.1.symm) hown (hts _ hw) (hts _ wmax_1) (hts _ wmath) (hts _ wmax_2) hfr.1 (by rw [mcats]; exact hlo) hfr.2.1 hfr.2.2 d (k H locs ls hP hD hS hl)
theorem ax_mmin (O : mO X ad own cc N Rm ln) (hw : Cond.methodLink own ix Lib.Math.min.name ∈ mGood) (hfr : 1 ≤ Rm.frames ∧ cs ≤ Rm.cells ∧ ss ≤ Rm.slots) (hlo : (st.map fun v => v.category).sum + 13 ≤ Rm.locals) {x y : Int32} (d : decode cc pc = .ok (.invokestatic ix, 3)) (k : mAW X ad cs ss (pc + 3) lv (.int (if y < x then y else x) :: st) h) : mAW X ad cs ss pc lv (.int y :: .int x :: st) h := by
  obtain ⟨p, l, e, R, s, m, args, below, meth, c, Q, A, D, kA, nL⟩ := X
  obtain ⟨⟨hx, hb, hml, hown, hlk0, rfl, rfl, rfl⟩, hts, hK, hT, hA⟩ := O
  exact fun H locs ls hP hD hS hl => va_mmin hx hb (hml.trans hl.1.symm) hown (hts _ hw) (hts _ wmin_1) (hts _ wmath) (hts _ wmin_2) hfr.1 (by rw [mcats]; exact hlo) hfr.2.1 hfr.2.2 d (k H locs ls hP hD hS hl)
theorem ax_mabs (O : mO X ad own cc N Rm ln) (hw : Cond.methodLink own ix Lib.Math.abs.name ∈ mGood) (hfr : 1 ≤ Rm.frames ∧ cs ≤ Rm.cells ∧ ss ≤ Rm.slots) (hlo : (st.map fun v => v.category).sum + 13 ≤ Rm.locals) {x : Int32} (d : decode cc pc = .ok (.invokestatic ix, 3)) (k : mAW X ad cs ss (pc + 3) lv (.int (if 0 ≤ x then x else 0 - x) :: st) h) : mAW X ad cs ss pc lv (.int x :: st) h := by
  obtain ⟨p, l, e, R, s, m, args, below, meth, c, Q, A, D, kA, nL⟩ := X
  obtain ⟨⟨hx, hb, hml, hown, hlk0, rfl, rfl, rfl⟩, hts, hK, hT, hA⟩ := O
  exact fun H locs ls hP hD hS hl => va_mabs hx hb (hml.trans hl.1.symm) hown (hts _ hw) (hts _ wabs_1) (hts _ wmath) (hts _ wabs_2) hfr.1 (by rw [mcats]; exact hlo) hfr.2.1 hfr.2.2 d (k H locs ls hP hD hS hl)
theorem ax_copy (O : mO X ad own cc N Rm ln) (hw : Cond.methodLink own ix arraycopyName ∈ mGood) {ty : FieldType} (hty : ty ∈ mTys ∧ refKind ty = false) (hfr : 1 ≤ Rm.frames) (hlo : (st.map fun v => v.category).sum + (nativeFrameWords "java/lang/System" "arraycopy" 5 + 11) ≤ Rm.locals) {a b : Nat} {sp dp n : Int32} (hc : mCp h ty a sp b dp n h') (d : decode cc pc = .ok (.invokestatic ix, 3)) (k : mAW X ad cs ss (pc + 3) lv st h') : mAW X ad cs ss pc lv (.int n :: .int dp :: .ref b :: .int sp :: .ref a :: st) h := by
  obtain ⟨p, l, e, R, s, m, args, below, meth, c, Q, A, D, kA, nL⟩ := X
  obtain ⟨⟨hx, hb, hml, hown, hlk0, rfl, rfl, rfl⟩, hts, hK, hT, hA⟩ := O
  obtain ⟨n0, n1, f, g, e1, e2, q1, q2, q3, q4, q5, q6, he⟩ := hc
  have he' : (mW ad kA h).set b (ad b, .inl (kA ty, (n1, .inl (va_cpy f g sp.toNatClampNeg dp.toNatClampNeg n.toNatClampNeg)))) = mW ad kA h' := by rw [he, ← mW_set]; rfl
  exact fun H locs ls hP hD hS hl => va_copyi hx hb (hml.trans hl.1.symm) hown (hts _ hw) (hts _ wcopy_1) (hts _ wcopy_2) (hts _ wsystem) (mKt hK hty.1) hP hD hS a b 0 0 (mW_get e1) (mW_get e2) rfl rfl hty.2 q1 q2 q3 q4 q5 q6 hfr (by rw [mcats]; exact hlo) d (fun H1 locs1 hP1 hD1 hS1 => k H1 locs1 ls (he' ▸ hP1) (he' ▸ hD1) hS1 hl)
end mMore
end
section
section mRets
variable {X : mX} {ad : Nat → Nat} {own : String} {cc : ByteArray} {N pc : Nat} {lv : List (Nat × Value)} {h h' : mH} {Rm : Room} {ln : Launch}
theorem ax_retE (O : mO X ad own cc N Rm ln) {ty : FieldType} {v r : Int32} (hE : mEnd X ad (some ty) (some (.int r)) h') (hf : some (v, h) = some (r, h')) (hn : narrow ty (.int v) = .int v) (d : decode cc pc = .ok (.ireturn, 1)) : mAW X ad 0 0 pc lv [.int v] h := by
  cases hf
  exact ax_ret O hE hn d
theorem ax_vretE (O : mO X ad own cc N Rm ln) {r : Unit} (hE : mEnd X ad none none h') (hf : some ((), h) = some (r, h')) (d : decode cc pc = .ok (.return_, 1)) : mAW X ad 0 0 pc lv [] h := by
  cases hf
  exact ax_vret O hE d
theorem ax_lretE (O : mO X ad own cc N Rm ln) {v r : Int64} (hE : mEnd X ad (some .long) (some (.long r)) h') (hf : some (v, h) = some (r, h')) (d : decode cc pc = .ok (.lreturn, 1)) : mAW X ad 0 0 pc lv [.long v] h := by
  cases hf
  exact ax_lret O hE d
theorem ax_aretE (O : mO X ad own cc N Rm ln) {ty : FieldType} {v r : Nat} (hty : (∃ n, ty = .object n) ∨ ∃ t, ty = .array t) (hE : mEnd X ad (some ty) (some (.ref r)) h') (hf : some (v, h) = some (r, h')) (d : decode cc pc = .ok (.areturn, 1)) : mAW X ad 0 0 pc lv [.ref v] h := by
  cases hf
  exact ax_aret O hty hE d
end mRets
theorem mTi {x : Int32} {lo hi : Int} (h : ∀ k : Int, lo ≤ k → k ≤ hi → ¬ x.toInt = k) : x.toInt < lo ∨ hi < x.toInt := by
  rcases Int.lt_or_le x.toInt lo with q | q
  · exact Or.inl q
  · rcases Int.lt_or_le hi x.toInt with q2 | q2
    · exact Or.inr q2
    · exact absurd rfl (h x.toInt q q2)
theorem wd_0 : Cond.methodLink R_Co 25 Lib.Math.max.name ∈ mGood := mg_of (i := 162) (by decide +kernel) rfl
theorem wd_1 : Cond.methodLink R_SF 125 Lib.Math.max.name ∈ mGood := mg_of (i := 740) (by decide +kernel) rfl
theorem wd_2 : Cond.methodLink R_By 27 Lib.Math.min.name ∈ mGood := mg_of (i := 367) (by decide +kernel) rfl
theorem wd_3 : Cond.methodLink R_By 30 arraycopyName ∈ mGood := mg_of (i := 370) (by decide +kernel) rfl
theorem wd_4 : Cond.methodLink R_Li 38 Lib.Math.max.name ∈ mGood := mg_of (i := 590) (by decide +kernel) rfl
theorem wd_5 : Cond.methodLink R_Li 53 Lib.Math.min.name ∈ mGood := mg_of (i := 591) (by decide +kernel) rfl
theorem wd_6 : Cond.methodLink R_Li 90 Lib.Math.abs.name ∈ mGood := mg_of (i := 627) (by decide +kernel) rfl
theorem wd_7 : Cond.constant R_Mo 31 65536 ∈ mGood := mg_of (i := 813) (by decide +kernel) rfl
theorem wd_8 : Cond.constant R_Mo 122 32768 ∈ mGood := mg_of (i := 1035) (by decide +kernel) rfl
theorem wd_9 : Cond.constant R_Mo 163 65535 ∈ mGood := mg_of (i := 987) (by decide +kernel) rfl
theorem wd_10 : Cond.constantLong R_Mo 187 65536 ∈ mGood := mg_of (i := 1046) (by decide +kernel) rfl
theorem wd_11 : Cond.constantLong R_Mo 185 65521 ∈ mGood := mg_of (i := 1045) (by decide +kernel) rfl
theorem wd_12 : Cond.constantLong R_Mo 167 256 ∈ mGood := mg_of (i := 1040) (by decide +kernel) rfl
theorem wd_13 : Cond.constantLong R_Mo 201 4294967295 ∈ mGood := mg_of (i := 1079) (by decide +kernel) rfl
theorem wd_14 : Cond.constantLong R_Mo 203 255 ∈ mGood := mg_of (i := 1080) (by decide +kernel) rfl
theorem wd_15 : Cond.constantLong R_Mo 208 85 ∈ mGood := mg_of (i := 1073) (by decide +kernel) rfl
theorem wd_16 : Cond.constantLong R_Mo 216 84 ∈ mGood := mg_of (i := 1081) (by decide +kernel) rfl
theorem wd_17 : Cond.constantLong R_Mo 210 33 ∈ mGood := mg_of (i := 1074) (by decide +kernel) rfl
theorem wd_18 : Cond.constant R_Co 42 32768 ∈ mGood := mg_of (i := 469) (by decide +kernel) rfl
theorem wd_19 : Cond.constant R_Fl 80 65535 ∈ mGood := mg_of (i := 414) (by decide +kernel) rfl
theorem wd_20 : Cond.fieldLink R_Fl 136 "StreamFilters$Flate" "DISTANCE_STARTS" "[I" ∈ mGood := mg_of (i := 445) (by decide +kernel) rfl
theorem wd_21 : Cond.fieldLink R_Fl 139 "StreamFilters$Flate" "DISTANCE_BITS" "[I" ∈ mGood := mg_of (i := 447) (by decide +kernel) rfl
theorem wd_22 : Cond.fieldLink R_Fl 112 "StreamFilters$Flate" "LENGTH_STARTS" "[I" ∈ mGood := mg_of (i := 438) (by decide +kernel) rfl
theorem wd_23 : Cond.fieldLink R_Fl 115 "StreamFilters$Flate" "LENGTH_BITS" "[I" ∈ mGood := mg_of (i := 440) (by decide +kernel) rfl
theorem wd_24 : Cond.constant R_Fl 47 1000000 ∈ mGood := mg_of (i := 398) (by decide +kernel) rfl
theorem wd_25 : Cond.fieldLink R_Fl 29 "StreamFilters$Flate" "ORDER" "[I" ∈ mGood := mg_of (i := 180) (by decide +kernel) rfl
theorem wd_26 : Cond.constantLong R_Fl 152 65536 ∈ mGood := mg_of (i := 490) (by decide +kernel) rfl
theorem wd_27 : Cond.constant R_Fl 151 65521 ∈ mGood := mg_of (i := 489) (by decide +kernel) rfl
theorem wd_28 : Cond.constantLong R_Fl 142 256 ∈ mGood := mg_of (i := 484) (by decide +kernel) rfl
theorem wd_29 : Cond.constant R_Pa 46 1000000 ∈ mGood := mg_of (i := 499) (by decide +kernel) rfl
theorem wd_30 : Cond.constant R_Hx 9 1000000 ∈ mGood := mg_of (i := 494) (by decide +kernel) rfl
theorem wd_31 : Cond.constant R_Le 9 1000000 ∈ mGood := mg_of (i := 511) (by decide +kernel) rfl
theorem wd_32 : Cond.constant R_Lz 31 1000000 ∈ mGood := mg_of (i := 528) (by decide +kernel) rfl
theorem wd_33 : Cond.constantLong R_T8 46 85 ∈ mGood := mg_of (i := 570) (by decide +kernel) rfl
theorem wd_34 : Cond.constantLong R_T8 48 4294967295 ∈ mGood := mg_of (i := 575) (by decide +kernel) rfl
theorem wd_35 : Cond.constant R_T8 19 1000000 ∈ mGood := mg_of (i := 558) (by decide +kernel) rfl
theorem fg_Co_11 : mFg R_Co 11 2 0 := ⟨R_Co, T_Co, 5, rfl, by decide, in_Co, Or.inl (mg_of (i := 163) (by decide +kernel) rfl)⟩
theorem fg_Co_18 : mFg R_Co 18 2 3 := ⟨R_Co, T_Co, 5, rfl, by decide, in_Co, Or.inl (mg_of (i := 166) (by decide +kernel) rfl)⟩
theorem fg_Co_22 : mFg R_Co 22 2 4 := ⟨R_Co, T_Co, 5, rfl, by decide, in_Co, Or.inl (mg_of (i := 167) (by decide +kernel) rfl)⟩
theorem fg_Co_15 : mFg R_Co 15 2 1 := ⟨R_Co, T_Co, 5, rfl, by decide, in_Co, Or.inl (mg_of (i := 164) (by decide +kernel) rfl)⟩
theorem fg_Co_31 : mFg R_Co 31 2 2 := ⟨R_Co, T_Co, 5, rfl, by decide, in_Co, Or.inl (mg_of (i := 165) (by decide +kernel) rfl)⟩
theorem fg_By_7 : mFg R_By 7 1 1 := ⟨R_By, T_By, 2, rfl, by decide, in_By, Or.inl (mg_of (i := 97) (by decide +kernel) rfl)⟩
theorem fg_By_19 : mFg R_By 19 1 0 := ⟨R_By, T_By, 2, rfl, by decide, in_By, Or.inl (mg_of (i := 95) (by decide +kernel) rfl)⟩
theorem fg_SF_14 : mFg R_SF 14 0 0 := ⟨R_SF, T_SF, 17, rfl, by decide, in_SF, Or.inl (mg_of (i := 287) (by decide +kernel) rfl)⟩
theorem fg_SF_97 : mFg R_SF 97 1 1 := ⟨R_By, T_By, 2, rfl, by decide, in_By, Or.inr ⟨"StreamFilters", List.mem_of_getElem? (i := 1) (by decide +kernel)⟩⟩
theorem fg_SF_24 : mFg R_SF 24 0 2 := ⟨R_SF, T_SF, 17, rfl, by decide, in_SF, Or.inl (mg_of (i := 289) (by decide +kernel) rfl)⟩
theorem fg_Pa_20 : mFg R_Pa 20 8 1 := ⟨R_Pa, T_Pa, 7, rfl, by decide, in_Pa, Or.inl (mg_of (i := 121) (by decide +kernel) rfl)⟩
theorem fg_SF_42 : mFg R_SF 42 0 5 := ⟨R_SF, T_SF, 17, rfl, by decide, in_SF, Or.inl (mg_of (i := 292) (by decide +kernel) rfl)⟩
theorem fg_SF_49 : mFg R_SF 49 0 6 := ⟨R_SF, T_SF, 17, rfl, by decide, in_SF, Or.inl (mg_of (i := 293) (by decide +kernel) rfl)⟩
theorem fg_SF_56 : mFg R_SF 56 0 7 := ⟨R_SF, T_SF, 17, rfl, by decide, in_SF, Or.inl (mg_of (i := 294) (by decide +kernel) rfl)⟩
theorem fg_SF_63 : mFg R_SF 63 0 8 := ⟨R_SF, T_SF, 17, rfl, by decide, in_SF, Or.inl (mg_of (i := 295) (by decide +kernel) rfl)⟩
theorem fg_SF_70 : mFg R_SF 70 0 9 := ⟨R_SF, T_SF, 17, rfl, by decide, in_SF, Or.inl (mg_of (i := 296) (by decide +kernel) rfl)⟩
theorem fg_Li_27 : mFg R_Li 27 6 5 := ⟨R_Li, T_Li, 6, rfl, by decide, in_Li, Or.inl (mg_of (i := 273) (by decide +kernel) rfl)⟩
theorem fg_Li_21 : mFg R_Li 21 6 3 := ⟨R_Li, T_Li, 6, rfl, by decide, in_Li, Or.inl (mg_of (i := 271) (by decide +kernel) rfl)⟩
theorem fg_Li_24 : mFg R_Li 24 6 4 := ⟨R_Li, T_Li, 6, rfl, by decide, in_Li, Or.inl (mg_of (i := 272) (by decide +kernel) rfl)⟩
theorem fg_Li_48 : mFg R_Li 48 1 1 := ⟨R_By, T_By, 2, rfl, by decide, in_By, Or.inr ⟨"StreamFilters", List.mem_of_getElem? (i := 4) (by decide +kernel)⟩⟩
theorem fg_Li_18 : mFg R_Li 18 6 2 := ⟨R_Li, T_Li, 6, rfl, by decide, in_Li, Or.inl (mg_of (i := 270) (by decide +kernel) rfl)⟩
theorem fg_SF_35 : mFg R_SF 35 0 4 := ⟨R_SF, T_SF, 17, rfl, by decide, in_SF, Or.inl (mg_of (i := 291) (by decide +kernel) rfl)⟩
theorem fg_SF_29 : mFg R_SF 29 0 3 := ⟨R_SF, T_SF, 17, rfl, by decide, in_SF, Or.inl (mg_of (i := 290) (by decide +kernel) rfl)⟩
theorem fg_SF_74 : mFg R_SF 74 0 10 := ⟨R_SF, T_SF, 17, rfl, by decide, in_SF, Or.inl (mg_of (i := 297) (by decide +kernel) rfl)⟩
theorem fg_SF_80 : mFg R_SF 80 0 12 := ⟨R_SF, T_SF, 17, rfl, by decide, in_SF, Or.inl (mg_of (i := 299) (by decide +kernel) rfl)⟩
theorem fg_SF_20 : mFg R_SF 20 0 1 := ⟨R_SF, T_SF, 17, rfl, by decide, in_SF, Or.inl (mg_of (i := 288) (by decide +kernel) rfl)⟩
theorem fg_SF_90 : mFg R_SF 90 0 15 := ⟨R_SF, T_SF, 17, rfl, by decide, in_SF, Or.inl (mg_of (i := 302) (by decide +kernel) rfl)⟩
theorem fg_SF_77 : mFg R_SF 77 0 11 := ⟨R_SF, T_SF, 17, rfl, by decide, in_SF, Or.inl (mg_of (i := 298) (by decide +kernel) rfl)⟩
theorem fg_SF_176 : mFg R_SF 176 6 0 := ⟨R_Li, T_Li, 6, rfl, by decide, in_Li, Or.inr ⟨"StreamFilters", List.mem_of_getElem? (i := 22) (by decide +kernel)⟩⟩
theorem fg_SF_183 : mFg R_SF 183 6 1 := ⟨R_Li, T_Li, 6, rfl, by decide, in_Li, Or.inr ⟨"StreamFilters", List.mem_of_getElem? (i := 23) (by decide +kernel)⟩⟩
theorem fg_SF_87 : mFg R_SF 87 0 14 := ⟨R_SF, T_SF, 17, rfl, by decide, in_SF, Or.inl (mg_of (i := 301) (by decide +kernel) rfl)⟩
theorem fg_SF_93 : mFg R_SF 93 0 16 := ⟨R_SF, T_SF, 17, rfl, by decide, in_SF, Or.inl (mg_of (i := 303) (by decide +kernel) rfl)⟩
theorem fg_SF_83 : mFg R_SF 83 0 13 := ⟨R_SF, T_SF, 17, rfl, by decide, in_SF, Or.inl (mg_of (i := 300) (by decide +kernel) rfl)⟩
theorem fg_Mo_69 : mFg R_Mo 69 10 0 := ⟨R_Mo, T_Mo, 31, rfl, by decide, in_Mo, Or.inl (mg_of (i := 814) (by decide +kernel) rfl)⟩
theorem fg_Mo_72 : mFg R_Mo 72 10 1 := ⟨R_Mo, T_Mo, 31, rfl, by decide, in_Mo, Or.inl (mg_of (i := 815) (by decide +kernel) rfl)⟩
theorem fg_Mo_7 : mFg R_Mo 7 10 2 := ⟨R_Mo, T_Mo, 31, rfl, by decide, in_Mo, Or.inl (mg_of (i := 816) (by decide +kernel) rfl)⟩
theorem fg_Mo_13 : mFg R_Mo 13 10 4 := ⟨R_Mo, T_Mo, 31, rfl, by decide, in_Mo, Or.inl (mg_of (i := 818) (by decide +kernel) rfl)⟩
theorem fg_Mo_83 : mFg R_Mo 83 10 3 := ⟨R_Mo, T_Mo, 31, rfl, by decide, in_Mo, Or.inl (mg_of (i := 817) (by decide +kernel) rfl)⟩
theorem fg_Mo_16 : mFg R_Mo 16 10 5 := ⟨R_Mo, T_Mo, 31, rfl, by decide, in_Mo, Or.inl (mg_of (i := 819) (by decide +kernel) rfl)⟩
theorem fg_Mo_19 : mFg R_Mo 19 10 6 := ⟨R_Mo, T_Mo, 31, rfl, by decide, in_Mo, Or.inl (mg_of (i := 820) (by decide +kernel) rfl)⟩
theorem fg_Mo_22 : mFg R_Mo 22 10 7 := ⟨R_Mo, T_Mo, 31, rfl, by decide, in_Mo, Or.inl (mg_of (i := 821) (by decide +kernel) rfl)⟩
theorem fg_Mo_25 : mFg R_Mo 25 10 8 := ⟨R_Mo, T_Mo, 31, rfl, by decide, in_Mo, Or.inl (mg_of (i := 822) (by decide +kernel) rfl)⟩
theorem fg_Mo_28 : mFg R_Mo 28 10 9 := ⟨R_Mo, T_Mo, 31, rfl, by decide, in_Mo, Or.inl (mg_of (i := 823) (by decide +kernel) rfl)⟩
theorem fg_Mo_32 : mFg R_Mo 32 10 10 := ⟨R_Mo, T_Mo, 31, rfl, by decide, in_Mo, Or.inl (mg_of (i := 824) (by decide +kernel) rfl)⟩
theorem fg_Mo_86 : mFg R_Mo 86 10 17 := ⟨R_Mo, T_Mo, 31, rfl, by decide, in_Mo, Or.inl (mg_of (i := 831) (by decide +kernel) rfl)⟩
theorem fg_Mo_93 : mFg R_Mo 93 10 16 := ⟨R_Mo, T_Mo, 31, rfl, by decide, in_Mo, Or.inl (mg_of (i := 830) (by decide +kernel) rfl)⟩
theorem fg_Mo_96 : mFg R_Mo 96 10 11 := ⟨R_Mo, T_Mo, 31, rfl, by decide, in_Mo, Or.inl (mg_of (i := 825) (by decide +kernel) rfl)⟩
theorem fg_Mo_36 : mFg R_Mo 36 10 12 := ⟨R_Mo, T_Mo, 31, rfl, by decide, in_Mo, Or.inl (mg_of (i := 826) (by decide +kernel) rfl)⟩
theorem fg_Mo_39 : mFg R_Mo 39 10 14 := ⟨R_Mo, T_Mo, 31, rfl, by decide, in_Mo, Or.inl (mg_of (i := 828) (by decide +kernel) rfl)⟩
theorem fg_Mo_106 : mFg R_Mo 106 10 13 := ⟨R_Mo, T_Mo, 31, rfl, by decide, in_Mo, Or.inl (mg_of (i := 827) (by decide +kernel) rfl)⟩
theorem fg_Mo_103 : mFg R_Mo 103 10 15 := ⟨R_Mo, T_Mo, 31, rfl, by decide, in_Mo, Or.inl (mg_of (i := 829) (by decide +kernel) rfl)⟩
theorem fg_Mo_109 : mFg R_Mo 109 10 19 := ⟨R_Mo, T_Mo, 31, rfl, by decide, in_Mo, Or.inl (mg_of (i := 833) (by decide +kernel) rfl)⟩
theorem fg_Mo_116 : mFg R_Mo 116 10 18 := ⟨R_Mo, T_Mo, 31, rfl, by decide, in_Mo, Or.inl (mg_of (i := 832) (by decide +kernel) rfl)⟩
theorem fg_Mo_42 : mFg R_Mo 42 10 20 := ⟨R_Mo, T_Mo, 31, rfl, by decide, in_Mo, Or.inl (mg_of (i := 834) (by decide +kernel) rfl)⟩
theorem fg_Mo_45 : mFg R_Mo 45 10 21 := ⟨R_Mo, T_Mo, 31, rfl, by decide, in_Mo, Or.inl (mg_of (i := 835) (by decide +kernel) rfl)⟩
theorem fg_Mo_48 : mFg R_Mo 48 10 22 := ⟨R_Mo, T_Mo, 31, rfl, by decide, in_Mo, Or.inl (mg_of (i := 836) (by decide +kernel) rfl)⟩
theorem fg_Mo_51 : mFg R_Mo 51 10 23 := ⟨R_Mo, T_Mo, 31, rfl, by decide, in_Mo, Or.inl (mg_of (i := 837) (by decide +kernel) rfl)⟩
theorem fg_Mo_54 : mFg R_Mo 54 10 24 := ⟨R_Mo, T_Mo, 31, rfl, by decide, in_Mo, Or.inl (mg_of (i := 838) (by decide +kernel) rfl)⟩
theorem fg_Mo_57 : mFg R_Mo 57 10 27 := ⟨R_Mo, T_Mo, 31, rfl, by decide, in_Mo, Or.inl (mg_of (i := 841) (by decide +kernel) rfl)⟩
theorem fg_Mo_273 : mFg R_Mo 273 10 26 := ⟨R_Mo, T_Mo, 31, rfl, by decide, in_Mo, Or.inl (mg_of (i := 840) (by decide +kernel) rfl)⟩
theorem fg_Mo_66 : mFg R_Mo 66 10 30 := ⟨R_Mo, T_Mo, 31, rfl, by decide, in_Mo, Or.inl (mg_of (i := 844) (by decide +kernel) rfl)⟩
theorem fg_Mo_63 : mFg R_Mo 63 10 29 := ⟨R_Mo, T_Mo, 31, rfl, by decide, in_Mo, Or.inl (mg_of (i := 843) (by decide +kernel) rfl)⟩
theorem fg_Mo_60 : mFg R_Mo 60 10 28 := ⟨R_Mo, T_Mo, 31, rfl, by decide, in_Mo, Or.inl (mg_of (i := 842) (by decide +kernel) rfl)⟩
theorem fg_Mo_269 : mFg R_Mo 269 10 25 := ⟨R_Mo, T_Mo, 31, rfl, by decide, in_Mo, Or.inl (mg_of (i := 839) (by decide +kernel) rfl)⟩
theorem fg_Pa_23 : mFg R_Pa 23 8 2 := ⟨R_Pa, T_Pa, 7, rfl, by decide, in_Pa, Or.inl (mg_of (i := 124) (by decide +kernel) rfl)⟩
theorem fg_Pa_14 : mFg R_Pa 14 8 0 := ⟨R_Pa, T_Pa, 7, rfl, by decide, in_Pa, Or.inl (mg_of (i := 120) (by decide +kernel) rfl)⟩
theorem fg_Pa_39 : mFg R_Pa 39 1 1 := ⟨R_By, T_By, 2, rfl, by decide, in_By, Or.inr ⟨"StreamFilters", List.mem_of_getElem? (i := 2) (by decide +kernel)⟩⟩
theorem fg_Pa_42 : mFg R_Pa 42 1 0 := ⟨R_By, T_By, 2, rfl, by decide, in_By, Or.inr ⟨"StreamFilters", List.mem_of_getElem? (i := 0) (by decide +kernel)⟩⟩
theorem fg_Pa_27 : mFg R_Pa 27 8 3 := ⟨R_Pa, T_Pa, 7, rfl, by decide, in_Pa, Or.inl (mg_of (i := 126) (by decide +kernel) rfl)⟩
theorem fg_Pa_30 : mFg R_Pa 30 8 4 := ⟨R_Pa, T_Pa, 7, rfl, by decide, in_Pa, Or.inl (mg_of (i := 127) (by decide +kernel) rfl)⟩
theorem fg_Pa_36 : mFg R_Pa 36 8 6 := ⟨R_Pa, T_Pa, 7, rfl, by decide, in_Pa, Or.inl (mg_of (i := 130) (by decide +kernel) rfl)⟩
theorem fg_Fl_122 : mFg R_Fl 122 8 1 := ⟨R_Pa, T_Pa, 7, rfl, by decide, in_Pa, Or.inr ⟨"StreamFilters", List.mem_of_getElem? (i := 8) (by decide +kernel)⟩⟩
theorem fg_Fl_126 : mFg R_Fl 126 1 1 := ⟨R_By, T_By, 2, rfl, by decide, in_By, Or.inr ⟨"StreamFilters", List.mem_of_getElem? (i := 5) (by decide +kernel)⟩⟩
theorem fg_Fl_33 : mFg R_Fl 33 3 4 := ⟨R_Fl, T_Fl, 6, rfl, by decide, in_Fl, Or.inl (mg_of (i := 197) (by decide +kernel) rfl)⟩
theorem fg_Fl_36 : mFg R_Fl 36 3 5 := ⟨R_Fl, T_Fl, 6, rfl, by decide, in_Fl, Or.inl (mg_of (i := 198) (by decide +kernel) rfl)⟩
theorem fg_Fl_23 : mFg R_Fl 23 3 2 := ⟨R_Fl, T_Fl, 6, rfl, by decide, in_Fl, Or.inl (mg_of (i := 195) (by decide +kernel) rfl)⟩
theorem fg_Fl_26 : mFg R_Fl 26 3 3 := ⟨R_Fl, T_Fl, 6, rfl, by decide, in_Fl, Or.inl (mg_of (i := 196) (by decide +kernel) rfl)⟩
theorem fg_Fl_16 : mFg R_Fl 16 3 0 := ⟨R_Fl, T_Fl, 6, rfl, by decide, in_Fl, Or.inl (mg_of (i := 193) (by decide +kernel) rfl)⟩
theorem fg_Fl_20 : mFg R_Fl 20 3 1 := ⟨R_Fl, T_Fl, 6, rfl, by decide, in_Fl, Or.inl (mg_of (i := 194) (by decide +kernel) rfl)⟩
theorem fg_Lz_18 : mFg R_Lz 18 7 2 := ⟨R_Lz, T_Lz, 5, rfl, by decide, in_Lz, Or.inl (mg_of (i := 220) (by decide +kernel) rfl)⟩
theorem fg_Lz_25 : mFg R_Lz 25 7 4 := ⟨R_Lz, T_Lz, 5, rfl, by decide, in_Lz, Or.inl (mg_of (i := 222) (by decide +kernel) rfl)⟩
theorem fg_Lz_15 : mFg R_Lz 15 7 1 := ⟨R_Lz, T_Lz, 5, rfl, by decide, in_Lz, Or.inl (mg_of (i := 219) (by decide +kernel) rfl)⟩
theorem fg_Lz_22 : mFg R_Lz 22 7 3 := ⟨R_Lz, T_Lz, 5, rfl, by decide, in_Lz, Or.inl (mg_of (i := 221) (by decide +kernel) rfl)⟩
theorem fg_Lz_11 : mFg R_Lz 11 7 0 := ⟨R_Lz, T_Lz, 5, rfl, by decide, in_Lz, Or.inl (mg_of (i := 218) (by decide +kernel) rfl)⟩
theorem fg_Lz_45 : mFg R_Lz 45 8 1 := ⟨R_Pa, T_Pa, 7, rfl, by decide, in_Pa, Or.inr ⟨"StreamFilters", List.mem_of_getElem? (i := 7) (by decide +kernel)⟩⟩
theorem fg_Lz_49 : mFg R_Lz 49 1 1 := ⟨R_By, T_By, 2, rfl, by decide, in_By, Or.inr ⟨"StreamFilters", List.mem_of_getElem? (i := 3) (by decide +kernel)⟩⟩
theorem fg_T8_9 : mFg R_T8 9 9 0 := ⟨R_T8, T_T8, 2, rfl, by decide, in_T8, Or.inl (mg_of (i := 240) (by decide +kernel) rfl)⟩
theorem fg_T8_15 : mFg R_T8 15 9 1 := ⟨R_T8, T_T8, 2, rfl, by decide, in_T8, Or.inl (mg_of (i := 241) (by decide +kernel) rfl)⟩
theorem fp_Co_18 : mFp R_Co 18 2 3 .int false := ⟨R_Co, T_Co, 5, ty_Co, rfl, by decide, in_Co, Or.inl (mg_of (i := 166) (by decide +kernel) rfl), tyok_Co, nm_Co, rfl, rfl, fun h => absurd h (by decide)⟩
theorem fp_Co_22 : mFp R_Co 22 2 4 .int false := ⟨R_Co, T_Co, 5, ty_Co, rfl, by decide, in_Co, Or.inl (mg_of (i := 167) (by decide +kernel) rfl), tyok_Co, nm_Co, rfl, rfl, fun h => absurd h (by decide)⟩
theorem fp_By_7 : mFp R_By 7 1 1 .int false := ⟨R_By, T_By, 2, ty_By, rfl, by decide, in_By, Or.inl (mg_of (i := 97) (by decide +kernel) rfl), tyok_By, nm_By, rfl, rfl, fun h => absurd h (by decide)⟩
theorem fp_SF_97 : mFp R_SF 97 1 1 .int false := ⟨R_By, T_By, 2, ty_By, rfl, by decide, in_By, Or.inr ⟨"StreamFilters", List.mem_of_getElem? (i := 1) (by decide +kernel)⟩, tyok_By, nm_By, rfl, rfl, fun h => absurd h (by decide)⟩
theorem fp_Li_9 : mFp R_Li 9 6 0 .int false := ⟨R_Li, T_Li, 6, ty_Li, rfl, by decide, in_Li, Or.inl (mg_of (i := 266) (by decide +kernel) rfl), tyok_Li, nm_Li, rfl, rfl, fun h => absurd h (by decide)⟩
theorem fp_Li_15 : mFp R_Li 15 6 1 .int false := ⟨R_Li, T_Li, 6, ty_Li, rfl, by decide, in_Li, Or.inl (mg_of (i := 268) (by decide +kernel) rfl), tyok_Li, nm_Li, rfl, rfl, fun h => absurd h (by decide)⟩
theorem fp_Li_18 : mFp R_Li 18 6 2 .int false := ⟨R_Li, T_Li, 6, ty_Li, rfl, by decide, in_Li, Or.inl (mg_of (i := 270) (by decide +kernel) rfl), tyok_Li, nm_Li, rfl, rfl, fun h => absurd h (by decide)⟩
theorem fp_Li_21 : mFp R_Li 21 6 3 .int false := ⟨R_Li, T_Li, 6, ty_Li, rfl, by decide, in_Li, Or.inl (mg_of (i := 271) (by decide +kernel) rfl), tyok_Li, nm_Li, rfl, rfl, fun h => absurd h (by decide)⟩
theorem fp_Li_24 : mFp R_Li 24 6 4 .int false := ⟨R_Li, T_Li, 6, ty_Li, rfl, by decide, in_Li, Or.inl (mg_of (i := 272) (by decide +kernel) rfl), tyok_Li, nm_Li, rfl, rfl, fun h => absurd h (by decide)⟩
theorem fp_Li_27 : mFp R_Li 27 6 5 .int false := ⟨R_Li, T_Li, 6, ty_Li, rfl, by decide, in_Li, Or.inl (mg_of (i := 273) (by decide +kernel) rfl), tyok_Li, nm_Li, rfl, rfl, fun h => absurd h (by decide)⟩
theorem fp_SF_24 : mFp R_SF 24 0 2 .int false := ⟨R_SF, T_SF, 17, ty_SF, rfl, by decide, in_SF, Or.inl (mg_of (i := 289) (by decide +kernel) rfl), tyok_SF, nm_SF, rfl, rfl, fun h => absurd h (by decide)⟩
theorem fp_SF_87 : mFp R_SF 87 0 14 .int false := ⟨R_SF, T_SF, 17, ty_SF, rfl, by decide, in_SF, Or.inl (mg_of (i := 301) (by decide +kernel) rfl), tyok_SF, nm_SF, rfl, rfl, fun h => absurd h (by decide)⟩
theorem fp_SF_90 : mFp R_SF 90 0 15 .int false := ⟨R_SF, T_SF, 17, ty_SF, rfl, by decide, in_SF, Or.inl (mg_of (i := 302) (by decide +kernel) rfl), tyok_SF, nm_SF, rfl, rfl, fun h => absurd h (by decide)⟩
theorem fp_SF_93 : mFp R_SF 93 0 16 .int false := ⟨R_SF, T_SF, 17, ty_SF, rfl, by decide, in_SF, Or.inl (mg_of (i := 303) (by decide +kernel) rfl), tyok_SF, nm_SF, rfl, rfl, fun h => absurd h (by decide)⟩
theorem fp_Pa_14 : mFp R_Pa 14 8 0 (.object "StreamFilters$Bytes") false := ⟨R_Pa, T_Pa, 7, ty_Pa, rfl, by decide, in_Pa, Or.inl (mg_of (i := 120) (by decide +kernel) rfl), tyok_Pa, nm_Pa, rfl, rfl, fun h => absurd h (by decide)⟩
theorem fp_Pa_20 : mFp R_Pa 20 8 1 (.object "StreamFilters$Bytes") false := ⟨R_Pa, T_Pa, 7, ty_Pa, rfl, by decide, in_Pa, Or.inl (mg_of (i := 121) (by decide +kernel) rfl), tyok_Pa, nm_Pa, rfl, rfl, fun h => absurd h (by decide)⟩
theorem fp_Pa_39 : mFp R_Pa 39 1 1 .int false := ⟨R_By, T_By, 2, ty_By, rfl, by decide, in_By, Or.inr ⟨"StreamFilters", List.mem_of_getElem? (i := 2) (by decide +kernel)⟩, tyok_By, nm_By, rfl, rfl, fun h => absurd h (by decide)⟩
theorem fp_Pa_23 : mFp R_Pa 23 8 2 .int false := ⟨R_Pa, T_Pa, 7, ty_Pa, rfl, by decide, in_Pa, Or.inl (mg_of (i := 124) (by decide +kernel) rfl), tyok_Pa, nm_Pa, rfl, rfl, fun h => absurd h (by decide)⟩
theorem fp_Pa_30 : mFp R_Pa 30 8 4 .int false := ⟨R_Pa, T_Pa, 7, ty_Pa, rfl, by decide, in_Pa, Or.inl (mg_of (i := 127) (by decide +kernel) rfl), tyok_Pa, nm_Pa, rfl, rfl, fun h => absurd h (by decide)⟩
theorem fp_Pa_33 : mFp R_Pa 33 8 5 .int false := ⟨R_Pa, T_Pa, 7, ty_Pa, rfl, by decide, in_Pa, Or.inl (mg_of (i := 128) (by decide +kernel) rfl), tyok_Pa, nm_Pa, rfl, rfl, fun h => absurd h (by decide)⟩
theorem fp_Li_48 : mFp R_Li 48 1 1 .int false := ⟨R_By, T_By, 2, ty_By, rfl, by decide, in_By, Or.inr ⟨"StreamFilters", List.mem_of_getElem? (i := 4) (by decide +kernel)⟩, tyok_By, nm_By, rfl, rfl, fun h => absurd h (by decide)⟩
theorem fp_SF_83 : mFp R_SF 83 0 13 .boolean false := ⟨R_SF, T_SF, 17, ty_SF, rfl, by decide, in_SF, Or.inl (mg_of (i := 300) (by decide +kernel) rfl), tyok_SF, nm_SF, rfl, rfl, fun h => absurd h (by decide)⟩
theorem fp_SF_166 : mFp R_SF 166 8 6 .int false := ⟨R_Pa, T_Pa, 7, ty_Pa, rfl, by decide, in_Pa, Or.inr ⟨"StreamFilters", List.mem_of_getElem? (i := 11) (by decide +kernel)⟩, tyok_Pa, nm_Pa, rfl, rfl, fun h => absurd h (by decide)⟩
theorem fp_SF_80 : mFp R_SF 80 0 12 (.object "StreamFilters$Bytes") false := ⟨R_SF, T_SF, 17, ty_SF, rfl, by decide, in_SF, Or.inl (mg_of (i := 299) (by decide +kernel) rfl), tyok_SF, nm_SF, rfl, rfl, fun h => absurd h (by decide)⟩
theorem fp_Mo_69 : mFp R_Mo 69 10 0 .int false := ⟨R_Mo, T_Mo, 31, ty_Mo, rfl, by decide, in_Mo, Or.inl (mg_of (i := 814) (by decide +kernel) rfl), tyok_Mo, nm_Mo, rfl, rfl, fun h => absurd h (by decide)⟩
theorem fp_Mo_72 : mFp R_Mo 72 10 1 .int false := ⟨R_Mo, T_Mo, 31, ty_Mo, rfl, by decide, in_Mo, Or.inl (mg_of (i := 815) (by decide +kernel) rfl), tyok_Mo, nm_Mo, rfl, rfl, fun h => absurd h (by decide)⟩
theorem fp_Mo_83 : mFp R_Mo 83 10 3 .int false := ⟨R_Mo, T_Mo, 31, ty_Mo, rfl, by decide, in_Mo, Or.inl (mg_of (i := 817) (by decide +kernel) rfl), tyok_Mo, nm_Mo, rfl, rfl, fun h => absurd h (by decide)⟩
theorem fp_Mo_32 : mFp R_Mo 32 10 10 .int false := ⟨R_Mo, T_Mo, 31, ty_Mo, rfl, by decide, in_Mo, Or.inl (mg_of (i := 824) (by decide +kernel) rfl), tyok_Mo, nm_Mo, rfl, rfl, fun h => absurd h (by decide)⟩
theorem fp_Mo_86 : mFp R_Mo 86 10 17 .int false := ⟨R_Mo, T_Mo, 31, ty_Mo, rfl, by decide, in_Mo, Or.inl (mg_of (i := 831) (by decide +kernel) rfl), tyok_Mo, nm_Mo, rfl, rfl, fun h => absurd h (by decide)⟩
theorem fp_Mo_93 : mFp R_Mo 93 10 16 .int false := ⟨R_Mo, T_Mo, 31, ty_Mo, rfl, by decide, in_Mo, Or.inl (mg_of (i := 830) (by decide +kernel) rfl), tyok_Mo, nm_Mo, rfl, rfl, fun h => absurd h (by decide)⟩
theorem fp_Mo_106 : mFp R_Mo 106 10 13 .int false := ⟨R_Mo, T_Mo, 31, ty_Mo, rfl, by decide, in_Mo, Or.inl (mg_of (i := 827) (by decide +kernel) rfl), tyok_Mo, nm_Mo, rfl, rfl, fun h => absurd h (by decide)⟩
theorem fp_Mo_103 : mFp R_Mo 103 10 15 .int false := ⟨R_Mo, T_Mo, 31, ty_Mo, rfl, by decide, in_Mo, Or.inl (mg_of (i := 829) (by decide +kernel) rfl), tyok_Mo, nm_Mo, rfl, rfl, fun h => absurd h (by decide)⟩
theorem fp_Mo_109 : mFp R_Mo 109 10 19 .int false := ⟨R_Mo, T_Mo, 31, ty_Mo, rfl, by decide, in_Mo, Or.inl (mg_of (i := 833) (by decide +kernel) rfl), tyok_Mo, nm_Mo, rfl, rfl, fun h => absurd h (by decide)⟩
theorem fp_Mo_116 : mFp R_Mo 116 10 18 .int false := ⟨R_Mo, T_Mo, 31, ty_Mo, rfl, by decide, in_Mo, Or.inl (mg_of (i := 832) (by decide +kernel) rfl), tyok_Mo, nm_Mo, rfl, rfl, fun h => absurd h (by decide)⟩
theorem fp_Mo_60 : mFp R_Mo 60 10 28 .int false := ⟨R_Mo, T_Mo, 31, ty_Mo, rfl, by decide, in_Mo, Or.inl (mg_of (i := 842) (by decide +kernel) rfl), tyok_Mo, nm_Mo, rfl, rfl, fun h => absurd h (by decide)⟩
theorem fp_Mo_63 : mFp R_Mo 63 10 29 .int false := ⟨R_Mo, T_Mo, 31, ty_Mo, rfl, by decide, in_Mo, Or.inl (mg_of (i := 843) (by decide +kernel) rfl), tyok_Mo, nm_Mo, rfl, rfl, fun h => absurd h (by decide)⟩
theorem fp_Mo_66 : mFp R_Mo 66 10 30 .int false := ⟨R_Mo, T_Mo, 31, ty_Mo, rfl, by decide, in_Mo, Or.inl (mg_of (i := 844) (by decide +kernel) rfl), tyok_Mo, nm_Mo, rfl, rfl, fun h => absurd h (by decide)⟩
theorem fp_Mo_269 : mFp R_Mo 269 10 25 .boolean false := ⟨R_Mo, T_Mo, 31, ty_Mo, rfl, by decide, in_Mo, Or.inl (mg_of (i := 839) (by decide +kernel) rfl), tyok_Mo, nm_Mo, rfl, rfl, fun h => absurd h (by decide)⟩
theorem fp_Mo_273 : mFp R_Mo 273 10 26 .int false := ⟨R_Mo, T_Mo, 31, ty_Mo, rfl, by decide, in_Mo, Or.inl (mg_of (i := 840) (by decide +kernel) rfl), tyok_Mo, nm_Mo, rfl, rfl, fun h => absurd h (by decide)⟩
theorem fp_Mo_96 : mFp R_Mo 96 10 11 .int false := ⟨R_Mo, T_Mo, 31, ty_Mo, rfl, by decide, in_Mo, Or.inl (mg_of (i := 825) (by decide +kernel) rfl), tyok_Mo, nm_Mo, rfl, rfl, fun h => absurd h (by decide)⟩
theorem fp_Pa_27 : mFp R_Pa 27 8 3 .int false := ⟨R_Pa, T_Pa, 7, ty_Pa, rfl, by decide, in_Pa, Or.inl (mg_of (i := 126) (by decide +kernel) rfl), tyok_Pa, nm_Pa, rfl, rfl, fun h => absurd h (by decide)⟩
theorem fp_Pa_36 : mFp R_Pa 36 8 6 .int false := ⟨R_Pa, T_Pa, 7, ty_Pa, rfl, by decide, in_Pa, Or.inl (mg_of (i := 130) (by decide +kernel) rfl), tyok_Pa, nm_Pa, rfl, rfl, fun h => absurd h (by decide)⟩
theorem fp_Lz_18 : mFp R_Lz 18 7 2 .int false := ⟨R_Lz, T_Lz, 5, ty_Lz, rfl, by decide, in_Lz, Or.inl (mg_of (i := 220) (by decide +kernel) rfl), tyok_Lz, nm_Lz, rfl, rfl, fun h => absurd h (by decide)⟩
theorem fp_Lz_25 : mFp R_Lz 25 7 4 .int false := ⟨R_Lz, T_Lz, 5, ty_Lz, rfl, by decide, in_Lz, Or.inl (mg_of (i := 222) (by decide +kernel) rfl), tyok_Lz, nm_Lz, rfl, rfl, fun h => absurd h (by decide)⟩
theorem fp_Lz_22 : mFp R_Lz 22 7 3 .int false := ⟨R_Lz, T_Lz, 5, ty_Lz, rfl, by decide, in_Lz, Or.inl (mg_of (i := 221) (by decide +kernel) rfl), tyok_Lz, nm_Lz, rfl, rfl, fun h => absurd h (by decide)⟩
theorem fp_T8_9 : mFp R_T8 9 9 0 .long false := ⟨R_T8, T_T8, 2, ty_T8, rfl, by decide, in_T8, Or.inl (mg_of (i := 240) (by decide +kernel) rfl), tyok_T8, nm_T8, rfl, rfl, fun h => absurd h (by decide)⟩
theorem fp_T8_15 : mFp R_T8 15 9 1 .int false := ⟨R_T8, T_T8, 2, ty_T8, rfl, by decide, in_T8, Or.inl (mg_of (i := 241) (by decide +kernel) rfl), tyok_T8, nm_T8, rfl, rfl, fun h => absurd h (by decide)⟩
theorem lk_Co_38 : mLk R_Co 38 y_Co_isLength := Or.inl (mg_of (i := 190) (by decide +kernel) rfl)
theorem lk_Co_34 : mLk R_Co 34 y_Co_count := Or.inl (mg_of (i := 186) (by decide +kernel) rfl)
theorem lk_By_23 : mLk R_By 23 y_By_add := Or.inl (mg_of (i := 347) (by decide +kernel) rfl)
theorem lk_SF_100 : mLk R_SF 100 y_By_addFour := Or.inl (mg_of (i := 343) (by decide +kernel) rfl)
theorem lk_SF_143 : mLk R_SF 143 y_SF_isPredictor := Or.inl (mg_of (i := 778) (by decide +kernel) rfl)
theorem lk_Li_64 : mLk R_Li 64 y_By_byteAt := Or.inl (mg_of (i := 596) (by decide +kernel) rfl)
theorem lk_Li_68 : mLk R_Li 68 y_Li_shiftOf := Or.inl (mg_of (i := 597) (by decide +kernel) rfl)
theorem lk_Li_71 : mLk R_Li 71 y_Li_mask := Or.inl (mg_of (i := 601) (by decide +kernel) rfl)
theorem lk_Li_74 : mLk R_Li 74 y_By_change := Or.inl (mg_of (i := 609) (by decide +kernel) rfl)
theorem lk_Li_44 : mLk R_Li 44 y_Li_rowSize := Or.inl (mg_of (i := 586) (by decide +kernel) rfl)
theorem lk_Li_56 : mLk R_Li 56 y_Li_numberAt := Or.inl (mg_of (i := 592) (by decide +kernel) rfl)
theorem lk_Li_60 : mLk R_Li 60 y_Li_setNumber := Or.inl (mg_of (i := 605) (by decide +kernel) rfl)
theorem lk_Li_86 : mLk R_Li 86 y_Li_nearest := Or.inl (mg_of (i := 624) (by decide +kernel) rfl)
theorem lk_Li_82 : mLk R_Li 82 y_Li_guessOf := Or.inl (mg_of (i := 621) (by decide +kernel) rfl)
theorem lk_Li_78 : mLk R_Li 78 y_Li_undoRow := Or.inl (mg_of (i := 617) (by decide +kernel) rfl)
theorem lk_Li_34 : mLk R_Li 34 y_Li_undoTags := Or.inl (mg_of (i := 613) (by decide +kernel) rfl)
theorem lk_Li_30 : mLk R_Li 30 y_Li_undoNumbers := Or.inl (mg_of (i := 582) (by decide +kernel) rfl)
theorem lk_SF_162 : mLk R_SF 162 y_SF_noteFault := Or.inl (mg_of (i := 359) (by decide +kernel) rfl)
theorem lk_SF_173 : mLk R_SF 173 y_Pa_begin := Or.inl (mg_of (i := 373) (by decide +kernel) rfl)
theorem lk_SF_179 : mLk R_SF 179 y_SF_unpackerOf := Or.inl (mg_of (i := 377) (by decide +kernel) rfl)
theorem lk_SF_115 : mLk R_SF 115 y_By_byteAt := Or.inl (mg_of (i := 634) (by decide +kernel) rfl)
theorem lk_SF_169 : mLk R_SF 169 y_By_become := Or.inl (mg_of (i := 363) (by decide +kernel) rfl)
theorem lk_Mo_75 : mLk R_Mo 75 y_Mo_isIn := Or.inl (mg_of (i := 920) (by decide +kernel) rfl)
theorem lk_Mo_79 : mLk R_Mo 79 y_Mo_refused := Or.inl (mg_of (i := 923) (by decide +kernel) rfl)
theorem lk_Mo_89 : mLk R_Mo 89 y_Mo_isGood := Or.inl (mg_of (i := 951) (by decide +kernel) rfl)
theorem lk_Mo_99 : mLk R_Mo 99 y_Mo_fail := Or.inl (mg_of (i := 967) (by decide +kernel) rfl)
theorem lk_Mo_112 : mLk R_Mo 112 y_Mo_next := Or.inl (mg_of (i := 963) (by decide +kernel) rfl)
theorem lk_Mo_119 : mLk R_Mo 119 y_Mo_bit := Or.inl (mg_of (i := 971) (by decide +kernel) rfl)
theorem lk_Mo_123 : mLk R_Mo 123 y_Mo_makeCodes := Or.inl (mg_of (i := 996) (by decide +kernel) rfl)
theorem lk_Mo_141 : mLk R_Mo 141 y_Mo_symbol := Or.inl (mg_of (i := 1004) (by decide +kernel) rfl)
theorem lk_Mo_127 : mLk R_Mo 127 y_Mo_number := Or.inl (mg_of (i := 975) (by decide +kernel) rfl)
theorem lk_Mo_138 : mLk R_Mo 138 y_Mo_readLengths := Or.inl (mg_of (i := 1036) (by decide +kernel) rfl)
theorem lk_Mo_134 : mLk R_Mo 134 y_Mo_isWhole := Or.inl (mg_of (i := 1031) (by decide +kernel) rfl)
theorem lk_Mo_131 : mLk R_Mo 131 y_Mo_orderOf := Or.inl (mg_of (i := 1028) (by decide +kernel) rfl)
theorem lk_Mo_145 : mLk R_Mo 145 y_Mo_lengthBits := Or.inl (mg_of (i := 1015) (by decide +kernel) rfl)
theorem lk_Mo_148 : mLk R_Mo 148 y_Mo_distanceBits := Or.inl (mg_of (i := 1021) (by decide +kernel) rfl)
theorem lk_Mo_151 : mLk R_Mo 151 y_Mo_lengthOf := Or.inl (mg_of (i := 1012) (by decide +kernel) rfl)
theorem lk_Mo_157 : mLk R_Mo 157 y_Mo_give := Or.inl (mg_of (i := 988) (by decide +kernel) rfl)
theorem lk_Mo_154 : mLk R_Mo 154 y_Mo_distanceOf := Or.inl (mg_of (i := 1018) (by decide +kernel) rfl)
theorem lk_Mo_160 : mLk R_Mo 160 y_Mo_match := Or.inl (mg_of (i := 1008) (by decide +kernel) rfl)
theorem lk_Mo_173 : mLk R_Mo 173 y_Mo_stored := Or.inl (mg_of (i := 983) (by decide +kernel) rfl)
theorem lk_Mo_176 : mLk R_Mo 176 y_Mo_fixCodes := Or.inl (mg_of (i := 992) (by decide +kernel) rfl)
theorem lk_Mo_179 : mLk R_Mo 179 y_Mo_coded := Or.inl (mg_of (i := 1000) (by decide +kernel) rfl)
theorem lk_Mo_182 : mLk R_Mo 182 y_Mo_readCodes := Or.inl (mg_of (i := 1024) (by decide +kernel) rfl)
theorem lk_Mo_169 : mLk R_Mo 169 y_Mo_check := Or.inl (mg_of (i := 1041) (by decide +kernel) rfl)
theorem lk_Mo_164 : mLk R_Mo 164 y_Mo_block := Or.inl (mg_of (i := 979) (by decide +kernel) rfl)
theorem lk_Mo_189 : mLk R_Mo 189 y_Mo_widthOf := Or.inl (mg_of (i := 1051) (by decide +kernel) rfl)
theorem lk_Mo_192 : mLk R_Mo 192 y_Mo_wideCode := Or.inl (mg_of (i := 1054) (by decide +kernel) rfl)
theorem lk_Mo_198 : mLk R_Mo 198 y_Mo_byteOf := Or.inl (mg_of (i := 1062) (by decide +kernel) rfl)
theorem lk_Mo_195 : mLk R_Mo 195 y_Mo_firstOf := Or.inl (mg_of (i := 1058) (by decide +kernel) rfl)
theorem lk_Mo_212 : mLk R_Mo 212 y_Mo_giveWord := Or.inl (mg_of (i := 1075) (by decide +kernel) rfl)
theorem lk_Mo_205 : mLk R_Mo 205 y_Mo_isWhite := Or.inl (mg_of (i := 1070) (by decide +kernel) rfl)
theorem lk_Mo_218 : mLk R_Mo 218 y_Mo_digit := Or.inl (mg_of (i := 1086) (by decide +kernel) rfl)
theorem lk_Mo_221 : mLk R_Mo 221 y_Mo_bitAt := Or.inl (mg_of (i := 1105) (by decide +kernel) rfl)
theorem lk_Mo_224 : mLk R_Mo 224 y_Mo_rowBytes := Or.inl (mg_of (i := 1097) (by decide +kernel) rfl)
theorem lk_Mo_227 : mLk R_Mo 227 y_Mo_numberAt := Or.inl (mg_of (i := 1101) (by decide +kernel) rfl)
theorem lk_Mo_231 : mLk R_Mo 231 y_Mo_setNumber := Or.inl (mg_of (i := 1109) (by decide +kernel) rfl)
theorem lk_Mo_235 : mLk R_Mo 235 y_Mo_far := Or.inl (mg_of (i := 1123) (by decide +kernel) rfl)
theorem lk_Mo_238 : mLk R_Mo 238 y_Mo_nearest := Or.inl (mg_of (i := 1120) (by decide +kernel) rfl)
theorem lk_Mo_241 : mLk R_Mo 241 y_Mo_added := Or.inl (mg_of (i := 1117) (by decide +kernel) rfl)
theorem lk_Mo_245 : mLk R_Mo 245 y_Mo_flate := Or.inl (mg_of (i := 959) (by decide +kernel) rfl)
theorem lk_Mo_263 : mLk R_Mo 263 y_Mo_undoRows := Or.inl (mg_of (i := 1113) (by decide +kernel) rfl)
theorem lk_Mo_260 : mLk R_Mo 260 y_Mo_addRows := Or.inl (mg_of (i := 1093) (by decide +kernel) rfl)
theorem lk_Mo_248 : mLk R_Mo 248 y_Mo_lzw := Or.inl (mg_of (i := 1047) (by decide +kernel) rfl)
theorem lk_Mo_251 : mLk R_Mo 251 y_Mo_text85 := Or.inl (mg_of (i := 1066) (by decide +kernel) rfl)
theorem lk_Mo_254 : mLk R_Mo 254 y_Mo_hexadecimal := Or.inl (mg_of (i := 1082) (by decide +kernel) rfl)
theorem lk_Mo_257 : mLk R_Mo 257 y_Mo_runs := Or.inl (mg_of (i := 1089) (by decide +kernel) rfl)
theorem lk_Mo_266 : mLk R_Mo 266 y_Mo_run := Or.inl (mg_of (i := 955) (by decide +kernel) rfl)
theorem lk_Pa_47 : mLk R_Pa 47 y_Pa_nextByte := Or.inl (mg_of (i := 407) (by decide +kernel) rfl)
theorem lk_Co_49 : mLk R_Co 49 y_Pa_fail := Or.inl (mg_of (i := 433) (by decide +kernel) rfl)
theorem lk_Co_43 : mLk R_Co 43 y_Pa_nextBit := Or.inl (mg_of (i := 432) (by decide +kernel) rfl)
theorem lk_Fl_72 : mLk R_Fl 72 y_Pa_nextByte := Or.inl (mg_of (i := 390) (by decide +kernel) rfl)
theorem lk_Fl_64 : mLk R_Fl 64 y_Pa_fail := Or.inl (mg_of (i := 394) (by decide +kernel) rfl)
theorem lk_Pa_55 : mLk R_Pa 55 y_Pa_nextBit := Or.inl (mg_of (i := 403) (by decide +kernel) rfl)
theorem lk_Pa_62 : mLk R_Pa 62 y_By_add := Or.inl (mg_of (i := 424) (by decide +kernel) rfl)
theorem lk_Pa_59 : mLk R_Pa 59 y_Pa_fail := Or.inl (mg_of (i := 423) (by decide +kernel) rfl)
theorem lk_Pa_65 : mLk R_Pa 65 y_Pa_give := Or.inl (mg_of (i := 419) (by decide +kernel) rfl)
theorem lk_Fl_76 : mLk R_Fl 76 y_Fl_readShort := Or.inl (mg_of (i := 411) (by decide +kernel) rfl)
theorem lk_Fl_81 : mLk R_Fl 81 y_Pa_giveAsTheyAre := Or.inl (mg_of (i := 415) (by decide +kernel) rfl)
theorem lk_Fl_98 : mLk R_Fl 98 y_Co_read := Or.inl (mg_of (i := 428) (by decide +kernel) rfl)
theorem lk_Fl_48 : mLk R_Fl 48 y_Pa_lowNumber := Or.inl (mg_of (i := 399) (by decide +kernel) rfl)
theorem lk_Pa_68 : mLk R_Pa 68 y_By_byteAt := Or.inl (mg_of (i := 453) (by decide +kernel) rfl)
theorem lk_Fl_118 : mLk R_Fl 118 y_Fl_readDistance := Or.inl (mg_of (i := 442) (by decide +kernel) rfl)
theorem lk_Fl_132 : mLk R_Fl 132 y_Pa_giveAgain := Or.inl (mg_of (i := 449) (by decide +kernel) rfl)
theorem lk_Fl_108 : mLk R_Fl 108 y_Fl_copy := Or.inl (mg_of (i := 435) (by decide +kernel) rfl)
theorem lk_Fl_105 : mLk R_Fl 105 y_Pa_give := Or.inl (mg_of (i := 434) (by decide +kernel) rfl)
theorem lk_Fl_39 : mLk R_Fl 39 y_Co_build := Or.inl (mg_of (i := 182) (by decide +kernel) rfl)
theorem lk_Fl_91 : mLk R_Fl 91 y_Co_isGood := Or.inl (mg_of (i := 465) (by decide +kernel) rfl)
theorem lk_Fl_101 : mLk R_Fl 101 y_Fl_readTimes := Or.inl (mg_of (i := 474) (by decide +kernel) rfl)
theorem lk_Fl_84 : mLk R_Fl 84 y_Fl_readLengthCodes := Or.inl (mg_of (i := 461) (by decide +kernel) rfl)
theorem lk_Fl_88 : mLk R_Fl 88 y_Fl_readLengths := Or.inl (mg_of (i := 470) (by decide +kernel) rfl)
theorem lk_Fl_95 : mLk R_Fl 95 y_Co_isEmpty := Or.inl (mg_of (i := 477) (by decide +kernel) rfl)
theorem lk_Fl_148 : mLk R_Fl 148 y_By_byteAt := Or.inl (mg_of (i := 488) (by decide +kernel) rfl)
theorem lk_Fl_144 : mLk R_Fl 144 y_Fl_checkOf := Or.inl (mg_of (i := 485) (by decide +kernel) rfl)
theorem lk_Fl_43 : mLk R_Fl 43 y_Fl_readHeader := Or.inl (mg_of (i := 387) (by decide +kernel) rfl)
theorem lk_Fl_68 : mLk R_Fl 68 y_Fl_compareCheck := Or.inl (mg_of (i := 481) (by decide +kernel) rfl)
theorem lk_Fl_54 : mLk R_Fl 54 y_Fl_unpackStored := Or.inl (mg_of (i := 408) (by decide +kernel) rfl)
theorem lk_Fl_57 : mLk R_Fl 57 y_Fl_unpackCodes := Or.inl (mg_of (i := 425) (by decide +kernel) rfl)
theorem lk_Fl_61 : mLk R_Fl 61 y_Fl_readCodes := Or.inl (mg_of (i := 457) (by decide +kernel) rfl)
theorem lk_Pa_51 : mLk R_Pa 51 y_Pa_isBlank := Or.inl (mg_of (i := 500) (by decide +kernel) rfl)
theorem lk_Hx_10 : mLk R_Hx 10 y_Pa_nextSign := Or.inl (mg_of (i := 495) (by decide +kernel) rfl)
theorem lk_Hx_18 : mLk R_Hx 18 y_Hx_digitOf := Or.inl (mg_of (i := 503) (by decide +kernel) rfl)
theorem lk_Hx_26 : mLk R_Hx 26 y_Pa_give := Or.inl (mg_of (i := 507) (by decide +kernel) rfl)
theorem lk_Hx_22 : mLk R_Hx 22 y_Pa_fail := Or.inl (mg_of (i := 506) (by decide +kernel) rfl)
theorem lk_Le_10 : mLk R_Le 10 y_Pa_nextByte := Or.inl (mg_of (i := 512) (by decide +kernel) rfl)
theorem lk_Le_26 : mLk R_Le 26 y_Pa_giveTimes := Or.inl (mg_of (i := 517) (by decide +kernel) rfl)
theorem lk_Le_22 : mLk R_Le 22 y_Le_giveRun := Or.inl (mg_of (i := 514) (by decide +kernel) rfl)
theorem lk_Le_18 : mLk R_Le 18 y_Pa_giveAsTheyAre := Or.inl (mg_of (i := 513) (by decide +kernel) rfl)
theorem lk_Lz_54 : mLk R_Lz 54 y_Lz_sizeOf := Or.inl (mg_of (i := 540) (by decide +kernel) rfl)
theorem lk_Lz_64 : mLk R_Lz 64 y_Lz_startOf := Or.inl (mg_of (i := 546) (by decide +kernel) rfl)
theorem lk_Lz_67 : mLk R_Lz 67 y_Pa_giveAgain := Or.inl (mg_of (i := 550) (by decide +kernel) rfl)
theorem lk_Lz_71 : mLk R_Lz 71 y_Lz_makeString := Or.inl (mg_of (i := 551) (by decide +kernel) rfl)
theorem lk_Lz_61 : mLk R_Lz 61 y_Pa_give := Or.inl (mg_of (i := 545) (by decide +kernel) rfl)
theorem lk_Lz_57 : mLk R_Lz 57 y_Pa_fail := Or.inl (mg_of (i := 544) (by decide +kernel) rfl)
theorem lk_Lz_28 : mLk R_Lz 28 y_Lz_clear := Or.inl (mg_of (i := 524) (by decide +kernel) rfl)
theorem lk_Lz_32 : mLk R_Lz 32 y_Lz_widthFor := Or.inl (mg_of (i := 529) (by decide +kernel) rfl)
theorem lk_Lz_36 : mLk R_Lz 36 y_Pa_highNumber := Or.inl (mg_of (i := 532) (by decide +kernel) rfl)
theorem lk_Lz_41 : mLk R_Lz 41 y_Lz_giveString := Or.inl (mg_of (i := 536) (by decide +kernel) rfl)
theorem lk_T8_50 : mLk R_T8 50 y_Pa_give := Or.inl (mg_of (i := 576) (by decide +kernel) rfl)
theorem lk_T8_42 : mLk R_T8 42 y_Pa_fail := Or.inl (mg_of (i := 565) (by decide +kernel) rfl)
theorem lk_T8_53 : mLk R_T8 53 y_Pa_nextByte := Or.inl (mg_of (i := 564) (by decide +kernel) rfl)
theorem lk_T8_34 : mLk R_T8 34 y_T8_giveNumber := Or.inl (mg_of (i := 571) (by decide +kernel) rfl)
theorem lk_T8_30 : mLk R_T8 30 y_T8_addDigit := Or.inl (mg_of (i := 566) (by decide +kernel) rfl)
theorem lk_T8_20 : mLk R_T8 20 y_Pa_nextSign := Or.inl (mg_of (i := 559) (by decide +kernel) rfl)
theorem lk_T8_38 : mLk R_T8 38 y_Pa_giveTimes := Or.inl (mg_of (i := 577) (by decide +kernel) rfl)
theorem lk_T8_26 : mLk R_T8 26 y_T8_finish := Or.inl (mg_of (i := 560) (by decide +kernel) rfl)
theorem cw_Co_isLength : mCw y_Co_isLength b_Co_isLength 1 (some .boolean) 1 := ⟨mg_of (i := 192) (by decide +kernel) rfl, mg_of (i := 64) (by decide +kernel) rfl, ⟨by decide +kernel, by decide +kernel⟩, by decide +kernel⟩
theorem st_Co_isLength : Cond.static y_Co_isLength ∈ mGood := mg_of (i := 191) (by decide +kernel) rfl
theorem cw_Co_count : mCw y_Co_count b_Co_count 6 none 3 := ⟨mg_of (i := 189) (by decide +kernel) rfl, mg_of (i := 64) (by decide +kernel) rfl, ⟨by decide +kernel, by decide +kernel⟩, by decide +kernel⟩
theorem in_Co_count : Cond.instanceMethod y_Co_count ∈ mGood := mg_of (i := 188) (by decide +kernel) rfl
theorem se_Co_count : Cond.selects R_Co y_Co_count y_Co_count ∈ mGood := mg_of (i := 0) (by decide +kernel) rfl
theorem cw_Co_build : mCw y_Co_build b_Co_build 6 none 3 := ⟨mg_of (i := 185) (by decide +kernel) rfl, mg_of (i := 64) (by decide +kernel) rfl, ⟨by decide +kernel, by decide +kernel⟩, by decide +kernel⟩
theorem in_Co_build : Cond.instanceMethod y_Co_build ∈ mGood := mg_of (i := 183) (by decide +kernel) rfl
theorem se_Co_build : Cond.selects R_Co y_Co_build y_Co_build ∈ mGood := mg_of (i := 184) (by decide +kernel) rfl
theorem cw_By_add : mCw y_By_add b_By_add 2 none 1 := ⟨mg_of (i := 350) (by decide +kernel) rfl, mg_of (i := 59) (by decide +kernel) rfl, ⟨by decide +kernel, by decide +kernel⟩, by decide +kernel⟩
theorem in_By_add : Cond.instanceMethod y_By_add ∈ mGood := mg_of (i := 348) (by decide +kernel) rfl
theorem se_By_add : Cond.selects R_By y_By_add y_By_add ∈ mGood := mg_of (i := 349) (by decide +kernel) rfl
theorem cw_By_addFour : mCw y_By_addFour b_By_addFour 3 none 1 := ⟨mg_of (i := 346) (by decide +kernel) rfl, mg_of (i := 59) (by decide +kernel) rfl, ⟨by decide +kernel, by decide +kernel⟩, by decide +kernel⟩
theorem in_By_addFour : Cond.instanceMethod y_By_addFour ∈ mGood := mg_of (i := 344) (by decide +kernel) rfl
theorem se_By_addFour : Cond.selects R_By y_By_addFour y_By_addFour ∈ mGood := mg_of (i := 345) (by decide +kernel) rfl
theorem cw_SF_feed : mCw y_SF_feed b_SF_feed 6 (some .int) 5 := ⟨mg_of (i := 342) (by decide +kernel) rfl, mg_of (i := 58) (by decide +kernel) rfl, ⟨by decide +kernel, by decide +kernel⟩, by decide +kernel⟩
theorem in_SF_feed : Cond.instanceMethod y_SF_feed ∈ mGood := mg_of (i := 340) (by decide +kernel) rfl
theorem se_SF_feed : Cond.selects R_SF y_SF_feed y_SF_feed ∈ mGood := mg_of (i := 341) (by decide +kernel) rfl
theorem cw_By_byteAt : mCw y_By_byteAt b_By_byteAt 2 (some .int) 1 := ⟨mg_of (i := 456) (by decide +kernel) rfl, mg_of (i := 59) (by decide +kernel) rfl, ⟨by decide +kernel, by decide +kernel⟩, by decide +kernel⟩
theorem in_By_byteAt : Cond.instanceMethod y_By_byteAt ∈ mGood := mg_of (i := 454) (by decide +kernel) rfl
theorem se_By_byteAt : Cond.selects R_By y_By_byteAt y_By_byteAt ∈ mGood := mg_of (i := 455) (by decide +kernel) rfl
theorem cw_By_change : mCw y_By_change b_By_change 3 none 2 := ⟨mg_of (i := 612) (by decide +kernel) rfl, mg_of (i := 59) (by decide +kernel) rfl, ⟨by decide +kernel, by decide +kernel⟩, by decide +kernel⟩
theorem in_By_change : Cond.instanceMethod y_By_change ∈ mGood := mg_of (i := 610) (by decide +kernel) rfl
theorem se_By_change : Cond.selects R_By y_By_change y_By_change ∈ mGood := mg_of (i := 611) (by decide +kernel) rfl
theorem cw_Li_begin : mCw y_Li_begin b_Li_begin 3 none 2 := ⟨mg_of (i := 770) (by decide +kernel) rfl, mg_of (i := 69) (by decide +kernel) rfl, ⟨by decide +kernel, by decide +kernel⟩, by decide +kernel⟩
theorem in_Li_begin : Cond.instanceMethod y_Li_begin ∈ mGood := mg_of (i := 768) (by decide +kernel) rfl
theorem se_Li_begin : Cond.selects R_Li y_Li_begin y_Li_begin ∈ mGood := mg_of (i := 769) (by decide +kernel) rfl
theorem cw_SF_isPredictor : mCw y_SF_isPredictor b_SF_isPredictor 1 (some .boolean) 1 := ⟨mg_of (i := 780) (by decide +kernel) rfl, mg_of (i := 58) (by decide +kernel) rfl, ⟨by decide +kernel, by decide +kernel⟩, by decide +kernel⟩
theorem st_SF_isPredictor : Cond.static y_SF_isPredictor ∈ mGood := mg_of (i := 779) (by decide +kernel) rfl
theorem cw_SF_isBits : mCw y_SF_isBits b_SF_isBits 1 (some .boolean) 1 := ⟨mg_of (i := 784) (by decide +kernel) rfl, mg_of (i := 58) (by decide +kernel) rfl, ⟨by decide +kernel, by decide +kernel⟩, by decide +kernel⟩
theorem st_SF_isBits : Cond.static y_SF_isBits ∈ mGood := mg_of (i := 783) (by decide +kernel) rfl
theorem cw_Li_shape : mCw y_Li_shape b_Li_shape 5 none 4 := ⟨mg_of (i := 790) (by decide +kernel) rfl, mg_of (i := 69) (by decide +kernel) rfl, ⟨by decide +kernel, by decide +kernel⟩, by decide +kernel⟩
theorem in_Li_shape : Cond.instanceMethod y_Li_shape ∈ mGood := mg_of (i := 788) (by decide +kernel) rfl
theorem se_Li_shape : Cond.selects R_Li y_Li_shape y_Li_shape ∈ mGood := mg_of (i := 789) (by decide +kernel) rfl
theorem cw_SF_drop : mCw y_SF_drop b_SF_drop 2 (some .int) 0 := ⟨mg_of (i := 354) (by decide +kernel) rfl, mg_of (i := 58) (by decide +kernel) rfl, ⟨by decide +kernel, by decide +kernel⟩, by decide +kernel⟩
theorem in_SF_drop : Cond.instanceMethod y_SF_drop ∈ mGood := mg_of (i := 352) (by decide +kernel) rfl
theorem se_SF_drop : Cond.selects R_SF y_SF_drop y_SF_drop ∈ mGood := mg_of (i := 353) (by decide +kernel) rfl
theorem cw_SF_noteFault : mCw y_SF_noteFault b_SF_noteFault 4 none 3 := ⟨mg_of (i := 362) (by decide +kernel) rfl, mg_of (i := 58) (by decide +kernel) rfl, ⟨by decide +kernel, by decide +kernel⟩, by decide +kernel⟩
theorem in_SF_noteFault : Cond.instanceMethod y_SF_noteFault ∈ mGood := mg_of (i := 361) (by decide +kernel) rfl
theorem se_SF_noteFault : Cond.selects R_SF y_SF_noteFault y_SF_noteFault ∈ mGood := mg_of (i := 1) (by decide +kernel) rfl
theorem cw_By_become : mCw y_By_become b_By_become 2 none 1 := ⟨mg_of (i := 366) (by decide +kernel) rfl, mg_of (i := 59) (by decide +kernel) rfl, ⟨by decide +kernel, by decide +kernel⟩, by decide +kernel⟩
theorem in_By_become : Cond.instanceMethod y_By_become ∈ mGood := mg_of (i := 364) (by decide +kernel) rfl
theorem se_By_become : Cond.selects R_By y_By_become y_By_become ∈ mGood := mg_of (i := 365) (by decide +kernel) rfl
theorem cw_Pa_begin : mCw y_Pa_begin b_Pa_begin 3 none 2 := ⟨mg_of (i := 376) (by decide +kernel) rfl, mg_of (i := 61) (by decide +kernel) rfl, ⟨by decide +kernel, by decide +kernel⟩, by decide +kernel⟩
theorem in_Pa_begin : Cond.instanceMethod y_Pa_begin ∈ mGood := mg_of (i := 374) (by decide +kernel) rfl
theorem se_Pa_begin : Cond.selects R_Pa y_Pa_begin y_Pa_begin ∈ mGood := mg_of (i := 375) (by decide +kernel) rfl
theorem cw_SF_unpackerOf : mCw y_SF_unpackerOf b_SF_unpackerOf 2 (some (.object "StreamFilters$Unpacker")) 1 := ⟨mg_of (i := 380) (by decide +kernel) rfl, mg_of (i := 58) (by decide +kernel) rfl, ⟨by decide +kernel, by decide +kernel⟩, by decide +kernel⟩
theorem in_SF_unpackerOf : Cond.instanceMethod y_SF_unpackerOf ∈ mGood := mg_of (i := 379) (by decide +kernel) rfl
theorem se_SF_unpackerOf : Cond.selects R_SF y_SF_unpackerOf y_SF_unpackerOf ∈ mGood := mg_of (i := 2) (by decide +kernel) rfl
theorem cw_Li_rowSize : mCw y_Li_rowSize b_Li_rowSize 1 (some .int) 0 := ⟨mg_of (i := 589) (by decide +kernel) rfl, mg_of (i := 69) (by decide +kernel) rfl, ⟨by decide +kernel, by decide +kernel⟩, by decide +kernel⟩
theorem in_Li_rowSize : Cond.instanceMethod y_Li_rowSize ∈ mGood := mg_of (i := 588) (by decide +kernel) rfl
theorem se_Li_rowSize : Cond.selects R_Li y_Li_rowSize y_Li_rowSize ∈ mGood := mg_of (i := 15) (by decide +kernel) rfl
theorem cw_Li_shiftOf : mCw y_Li_shiftOf b_Li_shiftOf 2 (some .int) 1 := ⟨mg_of (i := 600) (by decide +kernel) rfl, mg_of (i := 69) (by decide +kernel) rfl, ⟨by decide +kernel, by decide +kernel⟩, by decide +kernel⟩
theorem in_Li_shiftOf : Cond.instanceMethod y_Li_shiftOf ∈ mGood := mg_of (i := 599) (by decide +kernel) rfl
theorem se_Li_shiftOf : Cond.selects R_Li y_Li_shiftOf y_Li_shiftOf ∈ mGood := mg_of (i := 17) (by decide +kernel) rfl
theorem cw_Li_mask : mCw y_Li_mask b_Li_mask 1 (some .int) 0 := ⟨mg_of (i := 604) (by decide +kernel) rfl, mg_of (i := 69) (by decide +kernel) rfl, ⟨by decide +kernel, by decide +kernel⟩, by decide +kernel⟩
theorem in_Li_mask : Cond.instanceMethod y_Li_mask ∈ mGood := mg_of (i := 603) (by decide +kernel) rfl
theorem se_Li_mask : Cond.selects R_Li y_Li_mask y_Li_mask ∈ mGood := mg_of (i := 18) (by decide +kernel) rfl
theorem cw_Li_numberAt : mCw y_Li_numberAt b_Li_numberAt 5 (some .int) 3 := ⟨mg_of (i := 595) (by decide +kernel) rfl, mg_of (i := 69) (by decide +kernel) rfl, ⟨by decide +kernel, by decide +kernel⟩, by decide +kernel⟩
theorem in_Li_numberAt : Cond.instanceMethod y_Li_numberAt ∈ mGood := mg_of (i := 594) (by decide +kernel) rfl
theorem se_Li_numberAt : Cond.selects R_Li y_Li_numberAt y_Li_numberAt ∈ mGood := mg_of (i := 16) (by decide +kernel) rfl
theorem cw_Li_setNumber : mCw y_Li_setNumber b_Li_setNumber 7 none 4 := ⟨mg_of (i := 608) (by decide +kernel) rfl, mg_of (i := 69) (by decide +kernel) rfl, ⟨by decide +kernel, by decide +kernel⟩, by decide +kernel⟩
theorem in_Li_setNumber : Cond.instanceMethod y_Li_setNumber ∈ mGood := mg_of (i := 607) (by decide +kernel) rfl
theorem se_Li_setNumber : Cond.selects R_Li y_Li_setNumber y_Li_setNumber ∈ mGood := mg_of (i := 19) (by decide +kernel) rfl
theorem cw_Li_undoNumbers : mCw y_Li_undoNumbers b_Li_undoNumbers 8 none 1 := ⟨mg_of (i := 585) (by decide +kernel) rfl, mg_of (i := 69) (by decide +kernel) rfl, ⟨by decide +kernel, by decide +kernel⟩, by decide +kernel⟩
theorem in_Li_undoNumbers : Cond.instanceMethod y_Li_undoNumbers ∈ mGood := mg_of (i := 584) (by decide +kernel) rfl
theorem se_Li_undoNumbers : Cond.selects R_Li y_Li_undoNumbers y_Li_undoNumbers ∈ mGood := mg_of (i := 14) (by decide +kernel) rfl
theorem cw_Li_nearest : mCw y_Li_nearest b_Li_nearest 7 (some .int) 3 := ⟨mg_of (i := 626) (by decide +kernel) rfl, mg_of (i := 69) (by decide +kernel) rfl, ⟨by decide +kernel, by decide +kernel⟩, by decide +kernel⟩
theorem st_Li_nearest : Cond.static y_Li_nearest ∈ mGood := mg_of (i := 625) (by decide +kernel) rfl
theorem cw_Li_guessOf : mCw y_Li_guessOf b_Li_guessOf 4 (some .int) 4 := ⟨mg_of (i := 623) (by decide +kernel) rfl, mg_of (i := 69) (by decide +kernel) rfl, ⟨by decide +kernel, by decide +kernel⟩, by decide +kernel⟩
theorem st_Li_guessOf : Cond.static y_Li_guessOf ∈ mGood := mg_of (i := 622) (by decide +kernel) rfl
theorem cw_Li_undoRow : mCw y_Li_undoRow b_Li_undoRow 16 none 5 := ⟨mg_of (i := 620) (by decide +kernel) rfl, mg_of (i := 69) (by decide +kernel) rfl, ⟨by decide +kernel, by decide +kernel⟩, by decide +kernel⟩
theorem in_Li_undoRow : Cond.instanceMethod y_Li_undoRow ∈ mGood := mg_of (i := 619) (by decide +kernel) rfl
theorem se_Li_undoRow : Cond.selects R_Li y_Li_undoRow y_Li_undoRow ∈ mGood := mg_of (i := 21) (by decide +kernel) rfl
theorem cw_Li_undoTags : mCw y_Li_undoTags b_Li_undoTags 8 (some .boolean) 1 := ⟨mg_of (i := 616) (by decide +kernel) rfl, mg_of (i := 69) (by decide +kernel) rfl, ⟨by decide +kernel, by decide +kernel⟩, by decide +kernel⟩
theorem in_Li_undoTags : Cond.instanceMethod y_Li_undoTags ∈ mGood := mg_of (i := 615) (by decide +kernel) rfl
theorem se_Li_undoTags : Cond.selects R_Li y_Li_undoTags y_Li_undoTags ∈ mGood := mg_of (i := 20) (by decide +kernel) rfl
theorem cw_Li_undo : mCw y_Li_undo b_Li_undo 2 (some .boolean) 1 := ⟨mg_of (i := 581) (by decide +kernel) rfl, mg_of (i := 69) (by decide +kernel) rfl, ⟨by decide +kernel, by decide +kernel⟩, by decide +kernel⟩
theorem in_Li_undo : Cond.instanceMethod y_Li_undo ∈ mGood := mg_of (i := 579) (by decide +kernel) rfl
theorem se_Li_undo : Cond.selects R_Li y_Li_undo y_Li_undo ∈ mGood := mg_of (i := 580) (by decide +kernel) rfl
theorem cw_SF_at : mCw y_SF_at b_SF_at 2 (some .int) 1 := ⟨mg_of (i := 633) (by decide +kernel) rfl, mg_of (i := 58) (by decide +kernel) rfl, ⟨by decide +kernel, by decide +kernel⟩, by decide +kernel⟩
theorem in_SF_at : Cond.instanceMethod y_SF_at ∈ mGood := mg_of (i := 631) (by decide +kernel) rfl
theorem se_SF_at : Cond.selects R_SF y_SF_at y_SF_at ∈ mGood := mg_of (i := 632) (by decide +kernel) rfl
theorem cw_SF_fault : mCw y_SF_fault b_SF_fault 2 (some .int) 1 := ⟨mg_of (i := 638) (by decide +kernel) rfl, mg_of (i := 58) (by decide +kernel) rfl, ⟨by decide +kernel, by decide +kernel⟩, by decide +kernel⟩
theorem in_SF_fault : Cond.instanceMethod y_SF_fault ∈ mGood := mg_of (i := 636) (by decide +kernel) rfl
theorem se_SF_fault : Cond.selects R_SF y_SF_fault y_SF_fault ∈ mGood := mg_of (i := 637) (by decide +kernel) rfl
theorem cw_Mo_thrown : mCw y_Mo_thrown b_Mo_thrown 1 (some .int) 0 := ⟨mg_of (i := 911) (by decide +kernel) rfl, mg_of (i := 70) (by decide +kernel) rfl, ⟨by decide +kernel, by decide +kernel⟩, by decide +kernel⟩
theorem in_Mo_thrown : Cond.instanceMethod y_Mo_thrown ∈ mGood := mg_of (i := 909) (by decide +kernel) rfl
theorem se_Mo_thrown : Cond.selects R_Mo y_Mo_thrown y_Mo_thrown ∈ mGood := mg_of (i := 910) (by decide +kernel) rfl
theorem cw_Mo_refused : mCw y_Mo_refused b_Mo_refused 2 (some .boolean) 1 := ⟨mg_of (i := 926) (by decide +kernel) rfl, mg_of (i := 70) (by decide +kernel) rfl, ⟨by decide +kernel, by decide +kernel⟩, by decide +kernel⟩
theorem in_Mo_refused : Cond.instanceMethod y_Mo_refused ∈ mGood := mg_of (i := 925) (by decide +kernel) rfl
theorem se_Mo_refused : Cond.selects R_Mo y_Mo_refused y_Mo_refused ∈ mGood := mg_of (i := 23) (by decide +kernel) rfl
theorem cw_Mo_isIn : mCw y_Mo_isIn b_Mo_isIn 3 (some .boolean) 3 := ⟨mg_of (i := 922) (by decide +kernel) rfl, mg_of (i := 70) (by decide +kernel) rfl, ⟨by decide +kernel, by decide +kernel⟩, by decide +kernel⟩
theorem st_Mo_isIn : Cond.static y_Mo_isIn ∈ mGood := mg_of (i := 921) (by decide +kernel) rfl
theorem cw_Mo_feed : mCw y_Mo_feed b_Mo_feed 8 (some .int) 5 := ⟨mg_of (i := 915) (by decide +kernel) rfl, mg_of (i := 70) (by decide +kernel) rfl, ⟨by decide +kernel, by decide +kernel⟩, by decide +kernel⟩
theorem in_Mo_feed : Cond.instanceMethod y_Mo_feed ∈ mGood := mg_of (i := 913) (by decide +kernel) rfl
theorem se_Mo_feed : Cond.selects R_Mo y_Mo_feed y_Mo_feed ∈ mGood := mg_of (i := 914) (by decide +kernel) rfl
theorem cw_Mo_put : mCw y_Mo_put b_Mo_put 4 (some .int) 2 := ⟨mg_of (i := 919) (by decide +kernel) rfl, mg_of (i := 70) (by decide +kernel) rfl, ⟨by decide +kernel, by decide +kernel⟩, by decide +kernel⟩
theorem in_Mo_put : Cond.instanceMethod y_Mo_put ∈ mGood := mg_of (i := 917) (by decide +kernel) rfl
theorem se_Mo_put : Cond.selects R_Mo y_Mo_put y_Mo_put ∈ mGood := mg_of (i := 918) (by decide +kernel) rfl
theorem cw_Mo_cut : mCw y_Mo_cut b_Mo_cut 3 (some .int) 1 := ⟨mg_of (i := 930) (by decide +kernel) rfl, mg_of (i := 70) (by decide +kernel) rfl, ⟨by decide +kernel, by decide +kernel⟩, by decide +kernel⟩
theorem in_Mo_cut : Cond.instanceMethod y_Mo_cut ∈ mGood := mg_of (i := 928) (by decide +kernel) rfl
theorem se_Mo_cut : Cond.selects R_Mo y_Mo_cut y_Mo_cut ∈ mGood := mg_of (i := 929) (by decide +kernel) rfl
theorem cw_Mo_filter : mCw y_Mo_filter b_Mo_filter 3 (some .int) 2 := ⟨mg_of (i := 934) (by decide +kernel) rfl, mg_of (i := 70) (by decide +kernel) rfl, ⟨by decide +kernel, by decide +kernel⟩, by decide +kernel⟩
theorem in_Mo_filter : Cond.instanceMethod y_Mo_filter ∈ mGood := mg_of (i := 932) (by decide +kernel) rfl
theorem se_Mo_filter : Cond.selects R_Mo y_Mo_filter y_Mo_filter ∈ mGood := mg_of (i := 933) (by decide +kernel) rfl
theorem cw_Mo_predict : mCw y_Mo_predict b_Mo_predict 8 none 4 := ⟨mg_of (i := 938) (by decide +kernel) rfl, mg_of (i := 70) (by decide +kernel) rfl, ⟨by decide +kernel, by decide +kernel⟩, by decide +kernel⟩
theorem in_Mo_predict : Cond.instanceMethod y_Mo_predict ∈ mGood := mg_of (i := 936) (by decide +kernel) rfl
theorem se_Mo_predict : Cond.selects R_Mo y_Mo_predict y_Mo_predict ∈ mGood := mg_of (i := 937) (by decide +kernel) rfl
theorem cw_Mo_drop : mCw y_Mo_drop b_Mo_drop 2 (some .int) 0 := ⟨mg_of (i := 942) (by decide +kernel) rfl, mg_of (i := 70) (by decide +kernel) rfl, ⟨by decide +kernel, by decide +kernel⟩, by decide +kernel⟩
theorem in_Mo_drop : Cond.instanceMethod y_Mo_drop ∈ mGood := mg_of (i := 940) (by decide +kernel) rfl
theorem se_Mo_drop : Cond.selects R_Mo y_Mo_drop y_Mo_drop ∈ mGood := mg_of (i := 941) (by decide +kernel) rfl
theorem cw_Mo_budget : mCw y_Mo_budget b_Mo_budget 3 (some .int) 1 := ⟨mg_of (i := 946) (by decide +kernel) rfl, mg_of (i := 70) (by decide +kernel) rfl, ⟨by decide +kernel, by decide +kernel⟩, by decide +kernel⟩
theorem in_Mo_budget : Cond.instanceMethod y_Mo_budget ∈ mGood := mg_of (i := 944) (by decide +kernel) rfl
theorem se_Mo_budget : Cond.selects R_Mo y_Mo_budget y_Mo_budget ∈ mGood := mg_of (i := 945) (by decide +kernel) rfl
theorem cw_Mo_fail : mCw y_Mo_fail b_Mo_fail 2 none 1 := ⟨mg_of (i := 970) (by decide +kernel) rfl, mg_of (i := 70) (by decide +kernel) rfl, ⟨by decide +kernel, by decide +kernel⟩, by decide +kernel⟩
theorem in_Mo_fail : Cond.instanceMethod y_Mo_fail ∈ mGood := mg_of (i := 969) (by decide +kernel) rfl
theorem se_Mo_fail : Cond.selects R_Mo y_Mo_fail y_Mo_fail ∈ mGood := mg_of (i := 28) (by decide +kernel) rfl
theorem cw_Mo_isGood : mCw y_Mo_isGood b_Mo_isGood 1 (some .boolean) 0 := ⟨mg_of (i := 954) (by decide +kernel) rfl, mg_of (i := 70) (by decide +kernel) rfl, ⟨by decide +kernel, by decide +kernel⟩, by decide +kernel⟩
theorem in_Mo_isGood : Cond.instanceMethod y_Mo_isGood ∈ mGood := mg_of (i := 953) (by decide +kernel) rfl
theorem se_Mo_isGood : Cond.selects R_Mo y_Mo_isGood y_Mo_isGood ∈ mGood := mg_of (i := 24) (by decide +kernel) rfl
theorem cw_Mo_next : mCw y_Mo_next b_Mo_next 1 (some .int) 0 := ⟨mg_of (i := 966) (by decide +kernel) rfl, mg_of (i := 70) (by decide +kernel) rfl, ⟨by decide +kernel, by decide +kernel⟩, by decide +kernel⟩
theorem in_Mo_next : Cond.instanceMethod y_Mo_next ∈ mGood := mg_of (i := 965) (by decide +kernel) rfl
theorem se_Mo_next : Cond.selects R_Mo y_Mo_next y_Mo_next ∈ mGood := mg_of (i := 27) (by decide +kernel) rfl
theorem cw_Mo_give : mCw y_Mo_give b_Mo_give 2 none 1 := ⟨mg_of (i := 991) (by decide +kernel) rfl, mg_of (i := 70) (by decide +kernel) rfl, ⟨by decide +kernel, by decide +kernel⟩, by decide +kernel⟩
theorem in_Mo_give : Cond.instanceMethod y_Mo_give ∈ mGood := mg_of (i := 990) (by decide +kernel) rfl
theorem se_Mo_give : Cond.selects R_Mo y_Mo_give y_Mo_give ∈ mGood := mg_of (i := 33) (by decide +kernel) rfl
theorem cw_Mo_bit : mCw y_Mo_bit b_Mo_bit 2 (some .int) 0 := ⟨mg_of (i := 974) (by decide +kernel) rfl, mg_of (i := 70) (by decide +kernel) rfl, ⟨by decide +kernel, by decide +kernel⟩, by decide +kernel⟩
theorem in_Mo_bit : Cond.instanceMethod y_Mo_bit ∈ mGood := mg_of (i := 973) (by decide +kernel) rfl
theorem se_Mo_bit : Cond.selects R_Mo y_Mo_bit y_Mo_bit ∈ mGood := mg_of (i := 29) (by decide +kernel) rfl
theorem cw_Mo_number : mCw y_Mo_number b_Mo_number 4 (some .int) 1 := ⟨mg_of (i := 978) (by decide +kernel) rfl, mg_of (i := 70) (by decide +kernel) rfl, ⟨by decide +kernel, by decide +kernel⟩, by decide +kernel⟩
theorem in_Mo_number : Cond.instanceMethod y_Mo_number ∈ mGood := mg_of (i := 977) (by decide +kernel) rfl
theorem se_Mo_number : Cond.selects R_Mo y_Mo_number y_Mo_number ∈ mGood := mg_of (i := 30) (by decide +kernel) rfl
theorem cw_Mo_makeCodes : mCw y_Mo_makeCodes b_Mo_makeCodes 6 none 2 := ⟨mg_of (i := 999) (by decide +kernel) rfl, mg_of (i := 70) (by decide +kernel) rfl, ⟨by decide +kernel, by decide +kernel⟩, by decide +kernel⟩
theorem in_Mo_makeCodes : Cond.instanceMethod y_Mo_makeCodes ∈ mGood := mg_of (i := 998) (by decide +kernel) rfl
theorem se_Mo_makeCodes : Cond.selects R_Mo y_Mo_makeCodes y_Mo_makeCodes ∈ mGood := mg_of (i := 35) (by decide +kernel) rfl
theorem cw_Mo_isWhole : mCw y_Mo_isWhole b_Mo_isWhole 8 (some .boolean) 3 := ⟨mg_of (i := 1034) (by decide +kernel) rfl, mg_of (i := 70) (by decide +kernel) rfl, ⟨by decide +kernel, by decide +kernel⟩, by decide +kernel⟩
theorem in_Mo_isWhole : Cond.instanceMethod y_Mo_isWhole ∈ mGood := mg_of (i := 1033) (by decide +kernel) rfl
theorem se_Mo_isWhole : Cond.selects R_Mo y_Mo_isWhole y_Mo_isWhole ∈ mGood := mg_of (i := 40) (by decide +kernel) rfl
theorem cw_Mo_symbol : mCw y_Mo_symbol b_Mo_symbol 7 (some .int) 2 := ⟨mg_of (i := 1007) (by decide +kernel) rfl, mg_of (i := 70) (by decide +kernel) rfl, ⟨by decide +kernel, by decide +kernel⟩, by decide +kernel⟩
theorem in_Mo_symbol : Cond.instanceMethod y_Mo_symbol ∈ mGood := mg_of (i := 1006) (by decide +kernel) rfl
theorem se_Mo_symbol : Cond.selects R_Mo y_Mo_symbol y_Mo_symbol ∈ mGood := mg_of (i := 37) (by decide +kernel) rfl
theorem cw_Mo_fixCodes : mCw y_Mo_fixCodes b_Mo_fixCodes 2 none 0 := ⟨mg_of (i := 995) (by decide +kernel) rfl, mg_of (i := 70) (by decide +kernel) rfl, ⟨by decide +kernel, by decide +kernel⟩, by decide +kernel⟩
theorem in_Mo_fixCodes : Cond.instanceMethod y_Mo_fixCodes ∈ mGood := mg_of (i := 994) (by decide +kernel) rfl
theorem se_Mo_fixCodes : Cond.selects R_Mo y_Mo_fixCodes y_Mo_fixCodes ∈ mGood := mg_of (i := 34) (by decide +kernel) rfl
theorem cw_Mo_orderOf : mCw y_Mo_orderOf b_Mo_orderOf 1 (some .int) 1 := ⟨mg_of (i := 1030) (by decide +kernel) rfl, mg_of (i := 70) (by decide +kernel) rfl, ⟨by decide +kernel, by decide +kernel⟩, by decide +kernel⟩
theorem st_Mo_orderOf : Cond.static y_Mo_orderOf ∈ mGood := mg_of (i := 1029) (by decide +kernel) rfl
theorem cw_Mo_readLengths : mCw y_Mo_readLengths b_Mo_readLengths 10 none 2 := ⟨mg_of (i := 1039) (by decide +kernel) rfl, mg_of (i := 70) (by decide +kernel) rfl, ⟨by decide +kernel, by decide +kernel⟩, by decide +kernel⟩
theorem in_Mo_readLengths : Cond.instanceMethod y_Mo_readLengths ∈ mGood := mg_of (i := 1038) (by decide +kernel) rfl
theorem se_Mo_readLengths : Cond.selects R_Mo y_Mo_readLengths y_Mo_readLengths ∈ mGood := mg_of (i := 41) (by decide +kernel) rfl
theorem cw_Mo_readCodes : mCw y_Mo_readCodes b_Mo_readCodes 5 none 0 := ⟨mg_of (i := 1027) (by decide +kernel) rfl, mg_of (i := 70) (by decide +kernel) rfl, ⟨by decide +kernel, by decide +kernel⟩, by decide +kernel⟩
theorem in_Mo_readCodes : Cond.instanceMethod y_Mo_readCodes ∈ mGood := mg_of (i := 1026) (by decide +kernel) rfl
theorem se_Mo_readCodes : Cond.selects R_Mo y_Mo_readCodes y_Mo_readCodes ∈ mGood := mg_of (i := 39) (by decide +kernel) rfl
theorem cw_Mo_lengthBits : mCw y_Mo_lengthBits b_Mo_lengthBits 1 (some .int) 1 := ⟨mg_of (i := 1017) (by decide +kernel) rfl, mg_of (i := 70) (by decide +kernel) rfl, ⟨by decide +kernel, by decide +kernel⟩, by decide +kernel⟩
theorem st_Mo_lengthBits : Cond.static y_Mo_lengthBits ∈ mGood := mg_of (i := 1016) (by decide +kernel) rfl
theorem cw_Mo_lengthOf : mCw y_Mo_lengthOf b_Mo_lengthOf 3 (some .int) 1 := ⟨mg_of (i := 1014) (by decide +kernel) rfl, mg_of (i := 70) (by decide +kernel) rfl, ⟨by decide +kernel, by decide +kernel⟩, by decide +kernel⟩
theorem st_Mo_lengthOf : Cond.static y_Mo_lengthOf ∈ mGood := mg_of (i := 1013) (by decide +kernel) rfl
theorem cw_Mo_distanceBits : mCw y_Mo_distanceBits b_Mo_distanceBits 1 (some .int) 1 := ⟨mg_of (i := 1023) (by decide +kernel) rfl, mg_of (i := 70) (by decide +kernel) rfl, ⟨by decide +kernel, by decide +kernel⟩, by decide +kernel⟩
theorem st_Mo_distanceBits : Cond.static y_Mo_distanceBits ∈ mGood := mg_of (i := 1022) (by decide +kernel) rfl
theorem cw_Mo_distanceOf : mCw y_Mo_distanceOf b_Mo_distanceOf 3 (some .int) 1 := ⟨mg_of (i := 1020) (by decide +kernel) rfl, mg_of (i := 70) (by decide +kernel) rfl, ⟨by decide +kernel, by decide +kernel⟩, by decide +kernel⟩
theorem st_Mo_distanceOf : Cond.static y_Mo_distanceOf ∈ mGood := mg_of (i := 1019) (by decide +kernel) rfl
theorem cw_Mo_match : mCw y_Mo_match b_Mo_match 6 none 1 := ⟨mg_of (i := 1011) (by decide +kernel) rfl, mg_of (i := 70) (by decide +kernel) rfl, ⟨by decide +kernel, by decide +kernel⟩, by decide +kernel⟩
theorem in_Mo_match : Cond.instanceMethod y_Mo_match ∈ mGood := mg_of (i := 1010) (by decide +kernel) rfl
theorem se_Mo_match : Cond.selects R_Mo y_Mo_match y_Mo_match ∈ mGood := mg_of (i := 38) (by decide +kernel) rfl
theorem cw_Mo_coded : mCw y_Mo_coded b_Mo_coded 3 none 0 := ⟨mg_of (i := 1003) (by decide +kernel) rfl, mg_of (i := 70) (by decide +kernel) rfl, ⟨by decide +kernel, by decide +kernel⟩, by decide +kernel⟩
theorem in_Mo_coded : Cond.instanceMethod y_Mo_coded ∈ mGood := mg_of (i := 1002) (by decide +kernel) rfl
theorem se_Mo_coded : Cond.selects R_Mo y_Mo_coded y_Mo_coded ∈ mGood := mg_of (i := 36) (by decide +kernel) rfl
theorem cw_Mo_stored : mCw y_Mo_stored b_Mo_stored 5 none 0 := ⟨mg_of (i := 986) (by decide +kernel) rfl, mg_of (i := 70) (by decide +kernel) rfl, ⟨by decide +kernel, by decide +kernel⟩, by decide +kernel⟩
theorem in_Mo_stored : Cond.instanceMethod y_Mo_stored ∈ mGood := mg_of (i := 985) (by decide +kernel) rfl
theorem se_Mo_stored : Cond.selects R_Mo y_Mo_stored y_Mo_stored ∈ mGood := mg_of (i := 32) (by decide +kernel) rfl
theorem cw_Mo_block : mCw y_Mo_block b_Mo_block 2 none 1 := ⟨mg_of (i := 982) (by decide +kernel) rfl, mg_of (i := 70) (by decide +kernel) rfl, ⟨by decide +kernel, by decide +kernel⟩, by decide +kernel⟩
theorem in_Mo_block : Cond.instanceMethod y_Mo_block ∈ mGood := mg_of (i := 981) (by decide +kernel) rfl
theorem se_Mo_block : Cond.selects R_Mo y_Mo_block y_Mo_block ∈ mGood := mg_of (i := 31) (by decide +kernel) rfl
theorem cw_Mo_check : mCw y_Mo_check b_Mo_check 6 (some .long) 0 := ⟨mg_of (i := 1044) (by decide +kernel) rfl, mg_of (i := 70) (by decide +kernel) rfl, ⟨by decide +kernel, by decide +kernel⟩, by decide +kernel⟩
theorem in_Mo_check : Cond.instanceMethod y_Mo_check ∈ mGood := mg_of (i := 1043) (by decide +kernel) rfl
theorem se_Mo_check : Cond.selects R_Mo y_Mo_check y_Mo_check ∈ mGood := mg_of (i := 42) (by decide +kernel) rfl
theorem cw_Mo_flate : mCw y_Mo_flate b_Mo_flate 8 none 0 := ⟨mg_of (i := 962) (by decide +kernel) rfl, mg_of (i := 70) (by decide +kernel) rfl, ⟨by decide +kernel, by decide +kernel⟩, by decide +kernel⟩
theorem in_Mo_flate : Cond.instanceMethod y_Mo_flate ∈ mGood := mg_of (i := 961) (by decide +kernel) rfl
theorem se_Mo_flate : Cond.selects R_Mo y_Mo_flate y_Mo_flate ∈ mGood := mg_of (i := 26) (by decide +kernel) rfl
theorem cw_Mo_wideCode : mCw y_Mo_wideCode b_Mo_wideCode 4 (some .int) 1 := ⟨mg_of (i := 1057) (by decide +kernel) rfl, mg_of (i := 70) (by decide +kernel) rfl, ⟨by decide +kernel, by decide +kernel⟩, by decide +kernel⟩
theorem in_Mo_wideCode : Cond.instanceMethod y_Mo_wideCode ∈ mGood := mg_of (i := 1056) (by decide +kernel) rfl
theorem se_Mo_wideCode : Cond.selects R_Mo y_Mo_wideCode y_Mo_wideCode ∈ mGood := mg_of (i := 44) (by decide +kernel) rfl
theorem cw_Mo_firstOf : mCw y_Mo_firstOf b_Mo_firstOf 3 (some .int) 1 := ⟨mg_of (i := 1061) (by decide +kernel) rfl, mg_of (i := 70) (by decide +kernel) rfl, ⟨by decide +kernel, by decide +kernel⟩, by decide +kernel⟩
theorem in_Mo_firstOf : Cond.instanceMethod y_Mo_firstOf ∈ mGood := mg_of (i := 1060) (by decide +kernel) rfl
theorem se_Mo_firstOf : Cond.selects R_Mo y_Mo_firstOf y_Mo_firstOf ∈ mGood := mg_of (i := 45) (by decide +kernel) rfl
theorem cw_Mo_byteOf : mCw y_Mo_byteOf b_Mo_byteOf 4 (some .int) 2 := ⟨mg_of (i := 1065) (by decide +kernel) rfl, mg_of (i := 70) (by decide +kernel) rfl, ⟨by decide +kernel, by decide +kernel⟩, by decide +kernel⟩
theorem in_Mo_byteOf : Cond.instanceMethod y_Mo_byteOf ∈ mGood := mg_of (i := 1064) (by decide +kernel) rfl
theorem se_Mo_byteOf : Cond.selects R_Mo y_Mo_byteOf y_Mo_byteOf ∈ mGood := mg_of (i := 46) (by decide +kernel) rfl
theorem cw_Mo_widthOf : mCw y_Mo_widthOf b_Mo_widthOf 1 (some .int) 1 := ⟨mg_of (i := 1053) (by decide +kernel) rfl, mg_of (i := 70) (by decide +kernel) rfl, ⟨by decide +kernel, by decide +kernel⟩, by decide +kernel⟩
theorem st_Mo_widthOf : Cond.static y_Mo_widthOf ∈ mGood := mg_of (i := 1052) (by decide +kernel) rfl
theorem cw_Mo_lzw : mCw y_Mo_lzw b_Mo_lzw 10 none 1 := ⟨mg_of (i := 1050) (by decide +kernel) rfl, mg_of (i := 70) (by decide +kernel) rfl, ⟨by decide +kernel, by decide +kernel⟩, by decide +kernel⟩
theorem in_Mo_lzw : Cond.instanceMethod y_Mo_lzw ∈ mGood := mg_of (i := 1049) (by decide +kernel) rfl
theorem se_Mo_lzw : Cond.selects R_Mo y_Mo_lzw y_Mo_lzw ∈ mGood := mg_of (i := 43) (by decide +kernel) rfl
theorem cw_Mo_isWhite : mCw y_Mo_isWhite b_Mo_isWhite 1 (some .boolean) 1 := ⟨mg_of (i := 1072) (by decide +kernel) rfl, mg_of (i := 70) (by decide +kernel) rfl, ⟨by decide +kernel, by decide +kernel⟩, by decide +kernel⟩
theorem st_Mo_isWhite : Cond.static y_Mo_isWhite ∈ mGood := mg_of (i := 1071) (by decide +kernel) rfl
theorem cw_Mo_giveWord : mCw y_Mo_giveWord b_Mo_giveWord 5 none 2 := ⟨mg_of (i := 1078) (by decide +kernel) rfl, mg_of (i := 70) (by decide +kernel) rfl, ⟨by decide +kernel, by decide +kernel⟩, by decide +kernel⟩
theorem in_Mo_giveWord : Cond.instanceMethod y_Mo_giveWord ∈ mGood := mg_of (i := 1077) (by decide +kernel) rfl
theorem se_Mo_giveWord : Cond.selects R_Mo y_Mo_giveWord y_Mo_giveWord ∈ mGood := mg_of (i := 48) (by decide +kernel) rfl
theorem cw_Mo_text85 : mCw y_Mo_text85 b_Mo_text85 7 none 0 := ⟨mg_of (i := 1069) (by decide +kernel) rfl, mg_of (i := 70) (by decide +kernel) rfl, ⟨by decide +kernel, by decide +kernel⟩, by decide +kernel⟩
theorem in_Mo_text85 : Cond.instanceMethod y_Mo_text85 ∈ mGood := mg_of (i := 1068) (by decide +kernel) rfl
theorem se_Mo_text85 : Cond.selects R_Mo y_Mo_text85 y_Mo_text85 ∈ mGood := mg_of (i := 47) (by decide +kernel) rfl
theorem cw_Mo_digit : mCw y_Mo_digit b_Mo_digit 1 (some .int) 1 := ⟨mg_of (i := 1088) (by decide +kernel) rfl, mg_of (i := 70) (by decide +kernel) rfl, ⟨by decide +kernel, by decide +kernel⟩, by decide +kernel⟩
theorem st_Mo_digit : Cond.static y_Mo_digit ∈ mGood := mg_of (i := 1087) (by decide +kernel) rfl
theorem cw_Mo_hexadecimal : mCw y_Mo_hexadecimal b_Mo_hexadecimal 4 none 0 := ⟨mg_of (i := 1085) (by decide +kernel) rfl, mg_of (i := 70) (by decide +kernel) rfl, ⟨by decide +kernel, by decide +kernel⟩, by decide +kernel⟩
theorem in_Mo_hexadecimal : Cond.instanceMethod y_Mo_hexadecimal ∈ mGood := mg_of (i := 1084) (by decide +kernel) rfl
theorem se_Mo_hexadecimal : Cond.selects R_Mo y_Mo_hexadecimal y_Mo_hexadecimal ∈ mGood := mg_of (i := 49) (by decide +kernel) rfl
theorem cw_Mo_runs : mCw y_Mo_runs b_Mo_runs 7 none 0 := ⟨mg_of (i := 1092) (by decide +kernel) rfl, mg_of (i := 70) (by decide +kernel) rfl, ⟨by decide +kernel, by decide +kernel⟩, by decide +kernel⟩
theorem in_Mo_runs : Cond.instanceMethod y_Mo_runs ∈ mGood := mg_of (i := 1091) (by decide +kernel) rfl
theorem se_Mo_runs : Cond.selects R_Mo y_Mo_runs y_Mo_runs ∈ mGood := mg_of (i := 50) (by decide +kernel) rfl
theorem cw_Mo_bitAt : mCw y_Mo_bitAt b_Mo_bitAt 3 (some .int) 2 := ⟨mg_of (i := 1108) (by decide +kernel) rfl, mg_of (i := 70) (by decide +kernel) rfl, ⟨by decide +kernel, by decide +kernel⟩, by decide +kernel⟩
theorem in_Mo_bitAt : Cond.instanceMethod y_Mo_bitAt ∈ mGood := mg_of (i := 1107) (by decide +kernel) rfl
theorem se_Mo_bitAt : Cond.selects R_Mo y_Mo_bitAt y_Mo_bitAt ∈ mGood := mg_of (i := 54) (by decide +kernel) rfl
theorem cw_Mo_numberAt : mCw y_Mo_numberAt b_Mo_numberAt 6 (some .int) 3 := ⟨mg_of (i := 1104) (by decide +kernel) rfl, mg_of (i := 70) (by decide +kernel) rfl, ⟨by decide +kernel, by decide +kernel⟩, by decide +kernel⟩
theorem in_Mo_numberAt : Cond.instanceMethod y_Mo_numberAt ∈ mGood := mg_of (i := 1103) (by decide +kernel) rfl
theorem se_Mo_numberAt : Cond.selects R_Mo y_Mo_numberAt y_Mo_numberAt ∈ mGood := mg_of (i := 53) (by decide +kernel) rfl
theorem cw_Mo_setNumber : mCw y_Mo_setNumber b_Mo_setNumber 9 none 4 := ⟨mg_of (i := 1112) (by decide +kernel) rfl, mg_of (i := 70) (by decide +kernel) rfl, ⟨by decide +kernel, by decide +kernel⟩, by decide +kernel⟩
theorem in_Mo_setNumber : Cond.instanceMethod y_Mo_setNumber ∈ mGood := mg_of (i := 1111) (by decide +kernel) rfl
theorem se_Mo_setNumber : Cond.selects R_Mo y_Mo_setNumber y_Mo_setNumber ∈ mGood := mg_of (i := 55) (by decide +kernel) rfl
theorem cw_Mo_rowBytes : mCw y_Mo_rowBytes b_Mo_rowBytes 2 (some .int) 1 := ⟨mg_of (i := 1100) (by decide +kernel) rfl, mg_of (i := 70) (by decide +kernel) rfl, ⟨by decide +kernel, by decide +kernel⟩, by decide +kernel⟩
theorem in_Mo_rowBytes : Cond.instanceMethod y_Mo_rowBytes ∈ mGood := mg_of (i := 1099) (by decide +kernel) rfl
theorem se_Mo_rowBytes : Cond.selects R_Mo y_Mo_rowBytes y_Mo_rowBytes ∈ mGood := mg_of (i := 52) (by decide +kernel) rfl
theorem cw_Mo_addRows : mCw y_Mo_addRows b_Mo_addRows 9 none 1 := ⟨mg_of (i := 1096) (by decide +kernel) rfl, mg_of (i := 70) (by decide +kernel) rfl, ⟨by decide +kernel, by decide +kernel⟩, by decide +kernel⟩
theorem in_Mo_addRows : Cond.instanceMethod y_Mo_addRows ∈ mGood := mg_of (i := 1095) (by decide +kernel) rfl
theorem se_Mo_addRows : Cond.selects R_Mo y_Mo_addRows y_Mo_addRows ∈ mGood := mg_of (i := 51) (by decide +kernel) rfl
theorem cw_Mo_far : mCw y_Mo_far b_Mo_far 2 (some .int) 2 := ⟨mg_of (i := 1125) (by decide +kernel) rfl, mg_of (i := 70) (by decide +kernel) rfl, ⟨by decide +kernel, by decide +kernel⟩, by decide +kernel⟩
theorem st_Mo_far : Cond.static y_Mo_far ∈ mGood := mg_of (i := 1124) (by decide +kernel) rfl
theorem cw_Mo_nearest : mCw y_Mo_nearest b_Mo_nearest 4 (some .int) 3 := ⟨mg_of (i := 1122) (by decide +kernel) rfl, mg_of (i := 70) (by decide +kernel) rfl, ⟨by decide +kernel, by decide +kernel⟩, by decide +kernel⟩
theorem st_Mo_nearest : Cond.static y_Mo_nearest ∈ mGood := mg_of (i := 1121) (by decide +kernel) rfl
theorem cw_Mo_added : mCw y_Mo_added b_Mo_added 4 (some .int) 4 := ⟨mg_of (i := 1119) (by decide +kernel) rfl, mg_of (i := 70) (by decide +kernel) rfl, ⟨by decide +kernel, by decide +kernel⟩, by decide +kernel⟩
theorem st_Mo_added : Cond.static y_Mo_added ∈ mGood := mg_of (i := 1118) (by decide +kernel) rfl
theorem cw_Mo_undoRows : mCw y_Mo_undoRows b_Mo_undoRows 13 (some .boolean) 1 := ⟨mg_of (i := 1116) (by decide +kernel) rfl, mg_of (i := 70) (by decide +kernel) rfl, ⟨by decide +kernel, by decide +kernel⟩, by decide +kernel⟩
theorem in_Mo_undoRows : Cond.instanceMethod y_Mo_undoRows ∈ mGood := mg_of (i := 1115) (by decide +kernel) rfl
theorem se_Mo_undoRows : Cond.selects R_Mo y_Mo_undoRows y_Mo_undoRows ∈ mGood := mg_of (i := 56) (by decide +kernel) rfl
theorem cw_Mo_run : mCw y_Mo_run b_Mo_run 2 none 1 := ⟨mg_of (i := 958) (by decide +kernel) rfl, mg_of (i := 70) (by decide +kernel) rfl, ⟨by decide +kernel, by decide +kernel⟩, by decide +kernel⟩
theorem in_Mo_run : Cond.instanceMethod y_Mo_run ∈ mGood := mg_of (i := 957) (by decide +kernel) rfl
theorem se_Mo_run : Cond.selects R_Mo y_Mo_run y_Mo_run ∈ mGood := mg_of (i := 25) (by decide +kernel) rfl
theorem cw_Mo_decode : mCw y_Mo_decode b_Mo_decode 3 (some .int) 0 := ⟨mg_of (i := 950) (by decide +kernel) rfl, mg_of (i := 70) (by decide +kernel) rfl, ⟨by decide +kernel, by decide +kernel⟩, by decide +kernel⟩
theorem in_Mo_decode : Cond.instanceMethod y_Mo_decode ∈ mGood := mg_of (i := 948) (by decide +kernel) rfl
theorem se_Mo_decode : Cond.selects R_Mo y_Mo_decode y_Mo_decode ∈ mGood := mg_of (i := 949) (by decide +kernel) rfl
theorem cw_Mo_at : mCw y_Mo_at b_Mo_at 2 (some .int) 1 := ⟨mg_of (i := 1129) (by decide +kernel) rfl, mg_of (i := 70) (by decide +kernel) rfl, ⟨by decide +kernel, by decide +kernel⟩, by decide +kernel⟩
theorem in_Mo_at : Cond.instanceMethod y_Mo_at ∈ mGood := mg_of (i := 1127) (by decide +kernel) rfl
theorem se_Mo_at : Cond.selects R_Mo y_Mo_at y_Mo_at ∈ mGood := mg_of (i := 1128) (by decide +kernel) rfl
theorem cw_Mo_fault : mCw y_Mo_fault b_Mo_fault 2 (some .int) 1 := ⟨mg_of (i := 1133) (by decide +kernel) rfl, mg_of (i := 70) (by decide +kernel) rfl, ⟨by decide +kernel, by decide +kernel⟩, by decide +kernel⟩
theorem in_Mo_fault : Cond.instanceMethod y_Mo_fault ∈ mGood := mg_of (i := 1131) (by decide +kernel) rfl
theorem se_Mo_fault : Cond.selects R_Mo y_Mo_fault y_Mo_fault ∈ mGood := mg_of (i := 1132) (by decide +kernel) rfl
theorem cw_Mo_keep : mCw y_Mo_keep b_Mo_keep 2 (some .int) 0 := ⟨mg_of (i := 1137) (by decide +kernel) rfl, mg_of (i := 70) (by decide +kernel) rfl, ⟨by decide +kernel, by decide +kernel⟩, by decide +kernel⟩
theorem in_Mo_keep : Cond.instanceMethod y_Mo_keep ∈ mGood := mg_of (i := 1135) (by decide +kernel) rfl
theorem se_Mo_keep : Cond.selects R_Mo y_Mo_keep y_Mo_keep ∈ mGood := mg_of (i := 1136) (by decide +kernel) rfl
theorem cw_Co_isEmpty : mCw y_Co_isEmpty b_Co_isEmpty 1 (some .boolean) 0 := ⟨mg_of (i := 480) (by decide +kernel) rfl, mg_of (i := 64) (by decide +kernel) rfl, ⟨by decide +kernel, by decide +kernel⟩, by decide +kernel⟩
theorem in_Co_isEmpty : Cond.instanceMethod y_Co_isEmpty ∈ mGood := mg_of (i := 478) (by decide +kernel) rfl
theorem se_Co_isEmpty : Cond.selects R_Co y_Co_isEmpty y_Co_isEmpty ∈ mGood := mg_of (i := 479) (by decide +kernel) rfl
theorem cw_Co_isGood : mCw y_Co_isGood b_Co_isGood 3 (some .boolean) 0 := ⟨mg_of (i := 468) (by decide +kernel) rfl, mg_of (i := 64) (by decide +kernel) rfl, ⟨by decide +kernel, by decide +kernel⟩, by decide +kernel⟩
theorem in_Co_isGood : Cond.instanceMethod y_Co_isGood ∈ mGood := mg_of (i := 466) (by decide +kernel) rfl
theorem se_Co_isGood : Cond.selects R_Co y_Co_isGood y_Co_isGood ∈ mGood := mg_of (i := 467) (by decide +kernel) rfl
theorem cw_Pa_nextByte : mCw y_Pa_nextByte b_Pa_nextByte 1 (some .int) 0 := ⟨mg_of (i := 393) (by decide +kernel) rfl, mg_of (i := 61) (by decide +kernel) rfl, ⟨by decide +kernel, by decide +kernel⟩, by decide +kernel⟩
theorem in_Pa_nextByte : Cond.instanceMethod y_Pa_nextByte ∈ mGood := mg_of (i := 391) (by decide +kernel) rfl
theorem se_Pa_nextByte : Cond.selects R_Pa y_Pa_nextByte y_Pa_nextByte ∈ mGood := mg_of (i := 392) (by decide +kernel) rfl
theorem cw_Pa_nextBit : mCw y_Pa_nextBit b_Pa_nextBit 2 (some .int) 1 := ⟨mg_of (i := 406) (by decide +kernel) rfl, mg_of (i := 61) (by decide +kernel) rfl, ⟨by decide +kernel, by decide +kernel⟩, by decide +kernel⟩
theorem in_Pa_nextBit : Cond.instanceMethod y_Pa_nextBit ∈ mGood := mg_of (i := 404) (by decide +kernel) rfl
theorem se_Pa_nextBit : Cond.selects R_Pa y_Pa_nextBit y_Pa_nextBit ∈ mGood := mg_of (i := 405) (by decide +kernel) rfl
theorem cw_Pa_fail : mCw y_Pa_fail b_Pa_fail 2 (some .boolean) 1 := ⟨mg_of (i := 397) (by decide +kernel) rfl, mg_of (i := 61) (by decide +kernel) rfl, ⟨by decide +kernel, by decide +kernel⟩, by decide +kernel⟩
theorem in_Pa_fail : Cond.instanceMethod y_Pa_fail ∈ mGood := mg_of (i := 395) (by decide +kernel) rfl
theorem se_Pa_fail : Cond.selects R_Pa y_Pa_fail y_Pa_fail ∈ mGood := mg_of (i := 396) (by decide +kernel) rfl
theorem cw_Co_read : mCw y_Co_read b_Co_read 8 (some .int) 1 := ⟨mg_of (i := 431) (by decide +kernel) rfl, mg_of (i := 64) (by decide +kernel) rfl, ⟨by decide +kernel, by decide +kernel⟩, by decide +kernel⟩
theorem in_Co_read : Cond.instanceMethod y_Co_read ∈ mGood := mg_of (i := 429) (by decide +kernel) rfl
theorem se_Co_read : Cond.selects R_Co y_Co_read y_Co_read ∈ mGood := mg_of (i := 430) (by decide +kernel) rfl
theorem cw_Fl_readHeader : mCw y_Fl_readHeader b_Fl_readHeader 4 (some .boolean) 1 := ⟨mg_of (i := 389) (by decide +kernel) rfl, mg_of (i := 63) (by decide +kernel) rfl, ⟨by decide +kernel, by decide +kernel⟩, by decide +kernel⟩
theorem st_Fl_readHeader : Cond.static y_Fl_readHeader ∈ mGood := mg_of (i := 388) (by decide +kernel) rfl
theorem cw_Pa_lowNumber : mCw y_Pa_lowNumber b_Pa_lowNumber 5 (some .int) 1 := ⟨mg_of (i := 402) (by decide +kernel) rfl, mg_of (i := 61) (by decide +kernel) rfl, ⟨by decide +kernel, by decide +kernel⟩, by decide +kernel⟩
theorem in_Pa_lowNumber : Cond.instanceMethod y_Pa_lowNumber ∈ mGood := mg_of (i := 400) (by decide +kernel) rfl
theorem se_Pa_lowNumber : Cond.selects R_Pa y_Pa_lowNumber y_Pa_lowNumber ∈ mGood := mg_of (i := 401) (by decide +kernel) rfl
theorem cw_Fl_readShort : mCw y_Fl_readShort b_Fl_readShort 3 (some .int) 1 := ⟨mg_of (i := 413) (by decide +kernel) rfl, mg_of (i := 63) (by decide +kernel) rfl, ⟨by decide +kernel, by decide +kernel⟩, by decide +kernel⟩
theorem st_Fl_readShort : Cond.static y_Fl_readShort ∈ mGood := mg_of (i := 412) (by decide +kernel) rfl
theorem cw_Pa_give : mCw y_Pa_give b_Pa_give 2 (some .boolean) 1 := ⟨mg_of (i := 422) (by decide +kernel) rfl, mg_of (i := 61) (by decide +kernel) rfl, ⟨by decide +kernel, by decide +kernel⟩, by decide +kernel⟩
theorem in_Pa_give : Cond.instanceMethod y_Pa_give ∈ mGood := mg_of (i := 420) (by decide +kernel) rfl
theorem se_Pa_give : Cond.selects R_Pa y_Pa_give y_Pa_give ∈ mGood := mg_of (i := 421) (by decide +kernel) rfl
theorem cw_Pa_giveAsTheyAre : mCw y_Pa_giveAsTheyAre b_Pa_giveAsTheyAre 4 (some .boolean) 1 := ⟨mg_of (i := 418) (by decide +kernel) rfl, mg_of (i := 61) (by decide +kernel) rfl, ⟨by decide +kernel, by decide +kernel⟩, by decide +kernel⟩
theorem in_Pa_giveAsTheyAre : Cond.instanceMethod y_Pa_giveAsTheyAre ∈ mGood := mg_of (i := 416) (by decide +kernel) rfl
theorem se_Pa_giveAsTheyAre : Cond.selects R_Pa y_Pa_giveAsTheyAre y_Pa_giveAsTheyAre ∈ mGood := mg_of (i := 417) (by decide +kernel) rfl
theorem cw_Fl_unpackStored : mCw y_Fl_unpackStored b_Fl_unpackStored 3 (some .boolean) 1 := ⟨mg_of (i := 410) (by decide +kernel) rfl, mg_of (i := 63) (by decide +kernel) rfl, ⟨by decide +kernel, by decide +kernel⟩, by decide +kernel⟩
theorem st_Fl_unpackStored : Cond.static y_Fl_unpackStored ∈ mGood := mg_of (i := 409) (by decide +kernel) rfl
theorem cw_Fl_readDistance : mCw y_Fl_readDistance b_Fl_readDistance 4 (some .int) 2 := ⟨mg_of (i := 444) (by decide +kernel) rfl, mg_of (i := 63) (by decide +kernel) rfl, ⟨by decide +kernel, by decide +kernel⟩, by decide +kernel⟩
theorem st_Fl_readDistance : Cond.static y_Fl_readDistance ∈ mGood := mg_of (i := 443) (by decide +kernel) rfl
theorem cw_Pa_giveAgain : mCw y_Pa_giveAgain b_Pa_giveAgain 4 (some .boolean) 2 := ⟨mg_of (i := 452) (by decide +kernel) rfl, mg_of (i := 61) (by decide +kernel) rfl, ⟨by decide +kernel, by decide +kernel⟩, by decide +kernel⟩
theorem in_Pa_giveAgain : Cond.instanceMethod y_Pa_giveAgain ∈ mGood := mg_of (i := 450) (by decide +kernel) rfl
theorem se_Pa_giveAgain : Cond.selects R_Pa y_Pa_giveAgain y_Pa_giveAgain ∈ mGood := mg_of (i := 451) (by decide +kernel) rfl
theorem cw_Fl_copy : mCw y_Fl_copy b_Fl_copy 7 (some .boolean) 3 := ⟨mg_of (i := 437) (by decide +kernel) rfl, mg_of (i := 63) (by decide +kernel) rfl, ⟨by decide +kernel, by decide +kernel⟩, by decide +kernel⟩
theorem st_Fl_copy : Cond.static y_Fl_copy ∈ mGood := mg_of (i := 436) (by decide +kernel) rfl
theorem cw_Fl_unpackCodes : mCw y_Fl_unpackCodes b_Fl_unpackCodes 6 (some .boolean) 3 := ⟨mg_of (i := 427) (by decide +kernel) rfl, mg_of (i := 63) (by decide +kernel) rfl, ⟨by decide +kernel, by decide +kernel⟩, by decide +kernel⟩
theorem st_Fl_unpackCodes : Cond.static y_Fl_unpackCodes ∈ mGood := mg_of (i := 426) (by decide +kernel) rfl
theorem cw_Fl_readLengthCodes : mCw y_Fl_readLengthCodes b_Fl_readLengthCodes 5 (some .boolean) 2 := ⟨mg_of (i := 464) (by decide +kernel) rfl, mg_of (i := 63) (by decide +kernel) rfl, ⟨by decide +kernel, by decide +kernel⟩, by decide +kernel⟩
theorem in_Fl_readLengthCodes : Cond.instanceMethod y_Fl_readLengthCodes ∈ mGood := mg_of (i := 463) (by decide +kernel) rfl
theorem se_Fl_readLengthCodes : Cond.selects R_Fl y_Fl_readLengthCodes y_Fl_readLengthCodes ∈ mGood := mg_of (i := 4) (by decide +kernel) rfl
theorem cw_Fl_readTimes : mCw y_Fl_readTimes b_Fl_readTimes 3 (some .int) 2 := ⟨mg_of (i := 476) (by decide +kernel) rfl, mg_of (i := 63) (by decide +kernel) rfl, ⟨by decide +kernel, by decide +kernel⟩, by decide +kernel⟩
theorem st_Fl_readTimes : Cond.static y_Fl_readTimes ∈ mGood := mg_of (i := 475) (by decide +kernel) rfl
theorem cw_Fl_readLengths : mCw y_Fl_readLengths b_Fl_readLengths 10 (some .boolean) 2 := ⟨mg_of (i := 473) (by decide +kernel) rfl, mg_of (i := 63) (by decide +kernel) rfl, ⟨by decide +kernel, by decide +kernel⟩, by decide +kernel⟩
theorem in_Fl_readLengths : Cond.instanceMethod y_Fl_readLengths ∈ mGood := mg_of (i := 472) (by decide +kernel) rfl
theorem se_Fl_readLengths : Cond.selects R_Fl y_Fl_readLengths y_Fl_readLengths ∈ mGood := mg_of (i := 5) (by decide +kernel) rfl
theorem cw_Fl_readCodes : mCw y_Fl_readCodes b_Fl_readCodes 6 (some .boolean) 1 := ⟨mg_of (i := 460) (by decide +kernel) rfl, mg_of (i := 63) (by decide +kernel) rfl, ⟨by decide +kernel, by decide +kernel⟩, by decide +kernel⟩
theorem in_Fl_readCodes : Cond.instanceMethod y_Fl_readCodes ∈ mGood := mg_of (i := 459) (by decide +kernel) rfl
theorem se_Fl_readCodes : Cond.selects R_Fl y_Fl_readCodes y_Fl_readCodes ∈ mGood := mg_of (i := 3) (by decide +kernel) rfl
theorem cw_Fl_checkOf : mCw y_Fl_checkOf b_Fl_checkOf 4 (some .long) 1 := ⟨mg_of (i := 487) (by decide +kernel) rfl, mg_of (i := 63) (by decide +kernel) rfl, ⟨by decide +kernel, by decide +kernel⟩, by decide +kernel⟩
theorem st_Fl_checkOf : Cond.static y_Fl_checkOf ∈ mGood := mg_of (i := 486) (by decide +kernel) rfl
theorem cw_Fl_compareCheck : mCw y_Fl_compareCheck b_Fl_compareCheck 5 none 1 := ⟨mg_of (i := 483) (by decide +kernel) rfl, mg_of (i := 63) (by decide +kernel) rfl, ⟨by decide +kernel, by decide +kernel⟩, by decide +kernel⟩
theorem st_Fl_compareCheck : Cond.static y_Fl_compareCheck ∈ mGood := mg_of (i := 482) (by decide +kernel) rfl
theorem cw_Fl_unpack : mCw y_Fl_unpack b_Fl_unpack 7 none 2 := ⟨mg_of (i := 386) (by decide +kernel) rfl, mg_of (i := 63) (by decide +kernel) rfl, ⟨by decide +kernel, by decide +kernel⟩, by decide +kernel⟩
theorem in_Fl_unpack : Cond.instanceMethod y_Fl_unpack ∈ mGood := mg_of (i := 385) (by decide +kernel) rfl
theorem cw_Pa_isBlank : mCw y_Pa_isBlank b_Pa_isBlank 1 (some .boolean) 1 := ⟨mg_of (i := 502) (by decide +kernel) rfl, mg_of (i := 61) (by decide +kernel) rfl, ⟨by decide +kernel, by decide +kernel⟩, by decide +kernel⟩
theorem st_Pa_isBlank : Cond.static y_Pa_isBlank ∈ mGood := mg_of (i := 501) (by decide +kernel) rfl
theorem cw_Pa_nextSign : mCw y_Pa_nextSign b_Pa_nextSign 3 (some .int) 0 := ⟨mg_of (i := 498) (by decide +kernel) rfl, mg_of (i := 61) (by decide +kernel) rfl, ⟨by decide +kernel, by decide +kernel⟩, by decide +kernel⟩
theorem in_Pa_nextSign : Cond.instanceMethod y_Pa_nextSign ∈ mGood := mg_of (i := 496) (by decide +kernel) rfl
theorem se_Pa_nextSign : Cond.selects R_Pa y_Pa_nextSign y_Pa_nextSign ∈ mGood := mg_of (i := 497) (by decide +kernel) rfl
theorem cw_Hx_digitOf : mCw y_Hx_digitOf b_Hx_digitOf 1 (some .int) 1 := ⟨mg_of (i := 505) (by decide +kernel) rfl, mg_of (i := 67) (by decide +kernel) rfl, ⟨by decide +kernel, by decide +kernel⟩, by decide +kernel⟩
theorem st_Hx_digitOf : Cond.static y_Hx_digitOf ∈ mGood := mg_of (i := 504) (by decide +kernel) rfl
theorem cw_Hx_unpack : mCw y_Hx_unpack b_Hx_unpack 8 none 2 := ⟨mg_of (i := 493) (by decide +kernel) rfl, mg_of (i := 67) (by decide +kernel) rfl, ⟨by decide +kernel, by decide +kernel⟩, by decide +kernel⟩
theorem in_Hx_unpack : Cond.instanceMethod y_Hx_unpack ∈ mGood := mg_of (i := 492) (by decide +kernel) rfl
theorem cw_Pa_giveTimes : mCw y_Pa_giveTimes b_Pa_giveTimes 4 (some .boolean) 2 := ⟨mg_of (i := 520) (by decide +kernel) rfl, mg_of (i := 61) (by decide +kernel) rfl, ⟨by decide +kernel, by decide +kernel⟩, by decide +kernel⟩
theorem in_Pa_giveTimes : Cond.instanceMethod y_Pa_giveTimes ∈ mGood := mg_of (i := 518) (by decide +kernel) rfl
theorem se_Pa_giveTimes : Cond.selects R_Pa y_Pa_giveTimes y_Pa_giveTimes ∈ mGood := mg_of (i := 519) (by decide +kernel) rfl
theorem cw_Le_giveRun : mCw y_Le_giveRun b_Le_giveRun 3 (some .boolean) 2 := ⟨mg_of (i := 516) (by decide +kernel) rfl, mg_of (i := 68) (by decide +kernel) rfl, ⟨by decide +kernel, by decide +kernel⟩, by decide +kernel⟩
theorem st_Le_giveRun : Cond.static y_Le_giveRun ∈ mGood := mg_of (i := 515) (by decide +kernel) rfl
theorem cw_Le_unpack : mCw y_Le_unpack b_Le_unpack 6 none 2 := ⟨mg_of (i := 510) (by decide +kernel) rfl, mg_of (i := 68) (by decide +kernel) rfl, ⟨by decide +kernel, by decide +kernel⟩, by decide +kernel⟩
theorem in_Le_unpack : Cond.instanceMethod y_Le_unpack ∈ mGood := mg_of (i := 509) (by decide +kernel) rfl
theorem cw_Lz_clear : mCw y_Lz_clear b_Lz_clear 1 none 0 := ⟨mg_of (i := 527) (by decide +kernel) rfl, mg_of (i := 65) (by decide +kernel) rfl, ⟨by decide +kernel, by decide +kernel⟩, by decide +kernel⟩
theorem in_Lz_clear : Cond.instanceMethod y_Lz_clear ∈ mGood := mg_of (i := 526) (by decide +kernel) rfl
theorem se_Lz_clear : Cond.selects R_Lz y_Lz_clear y_Lz_clear ∈ mGood := mg_of (i := 6) (by decide +kernel) rfl
theorem cw_Lz_widthFor : mCw y_Lz_widthFor b_Lz_widthFor 1 (some .int) 1 := ⟨mg_of (i := 531) (by decide +kernel) rfl, mg_of (i := 65) (by decide +kernel) rfl, ⟨by decide +kernel, by decide +kernel⟩, by decide +kernel⟩
theorem st_Lz_widthFor : Cond.static y_Lz_widthFor ∈ mGood := mg_of (i := 530) (by decide +kernel) rfl
theorem cw_Pa_highNumber : mCw y_Pa_highNumber b_Pa_highNumber 5 (some .int) 1 := ⟨mg_of (i := 535) (by decide +kernel) rfl, mg_of (i := 61) (by decide +kernel) rfl, ⟨by decide +kernel, by decide +kernel⟩, by decide +kernel⟩
theorem in_Pa_highNumber : Cond.instanceMethod y_Pa_highNumber ∈ mGood := mg_of (i := 533) (by decide +kernel) rfl
theorem se_Pa_highNumber : Cond.selects R_Pa y_Pa_highNumber y_Pa_highNumber ∈ mGood := mg_of (i := 534) (by decide +kernel) rfl
theorem cw_Lz_sizeOf : mCw y_Lz_sizeOf b_Lz_sizeOf 2 (some .int) 1 := ⟨mg_of (i := 543) (by decide +kernel) rfl, mg_of (i := 65) (by decide +kernel) rfl, ⟨by decide +kernel, by decide +kernel⟩, by decide +kernel⟩
theorem in_Lz_sizeOf : Cond.instanceMethod y_Lz_sizeOf ∈ mGood := mg_of (i := 542) (by decide +kernel) rfl
theorem se_Lz_sizeOf : Cond.selects R_Lz y_Lz_sizeOf y_Lz_sizeOf ∈ mGood := mg_of (i := 8) (by decide +kernel) rfl
theorem cw_Lz_startOf : mCw y_Lz_startOf b_Lz_startOf 2 (some .int) 1 := ⟨mg_of (i := 549) (by decide +kernel) rfl, mg_of (i := 65) (by decide +kernel) rfl, ⟨by decide +kernel, by decide +kernel⟩, by decide +kernel⟩
theorem in_Lz_startOf : Cond.instanceMethod y_Lz_startOf ∈ mGood := mg_of (i := 548) (by decide +kernel) rfl
theorem se_Lz_startOf : Cond.selects R_Lz y_Lz_startOf y_Lz_startOf ∈ mGood := mg_of (i := 9) (by decide +kernel) rfl
theorem cw_Lz_makeString : mCw y_Lz_makeString b_Lz_makeString 1 none 0 := ⟨mg_of (i := 554) (by decide +kernel) rfl, mg_of (i := 65) (by decide +kernel) rfl, ⟨by decide +kernel, by decide +kernel⟩, by decide +kernel⟩
theorem in_Lz_makeString : Cond.instanceMethod y_Lz_makeString ∈ mGood := mg_of (i := 553) (by decide +kernel) rfl
theorem se_Lz_makeString : Cond.selects R_Lz y_Lz_makeString y_Lz_makeString ∈ mGood := mg_of (i := 10) (by decide +kernel) rfl
theorem cw_Lz_giveString : mCw y_Lz_giveString b_Lz_giveString 6 (some .boolean) 2 := ⟨mg_of (i := 539) (by decide +kernel) rfl, mg_of (i := 65) (by decide +kernel) rfl, ⟨by decide +kernel, by decide +kernel⟩, by decide +kernel⟩
theorem in_Lz_giveString : Cond.instanceMethod y_Lz_giveString ∈ mGood := mg_of (i := 538) (by decide +kernel) rfl
theorem se_Lz_giveString : Cond.selects R_Lz y_Lz_giveString y_Lz_giveString ∈ mGood := mg_of (i := 7) (by decide +kernel) rfl
theorem cw_Lz_unpack : mCw y_Lz_unpack b_Lz_unpack 5 none 2 := ⟨mg_of (i := 523) (by decide +kernel) rfl, mg_of (i := 65) (by decide +kernel) rfl, ⟨by decide +kernel, by decide +kernel⟩, by decide +kernel⟩
theorem in_Lz_unpack : Cond.instanceMethod y_Lz_unpack ∈ mGood := mg_of (i := 522) (by decide +kernel) rfl
theorem cw_T8_addDigit : mCw y_T8_addDigit b_T8_addDigit 2 none 1 := ⟨mg_of (i := 569) (by decide +kernel) rfl, mg_of (i := 66) (by decide +kernel) rfl, ⟨by decide +kernel, by decide +kernel⟩, by decide +kernel⟩
theorem in_T8_addDigit : Cond.instanceMethod y_T8_addDigit ∈ mGood := mg_of (i := 568) (by decide +kernel) rfl
theorem se_T8_addDigit : Cond.selects R_T8 y_T8_addDigit y_T8_addDigit ∈ mGood := mg_of (i := 12) (by decide +kernel) rfl
theorem cw_T8_giveNumber : mCw y_T8_giveNumber b_T8_giveNumber 4 (some .boolean) 2 := ⟨mg_of (i := 574) (by decide +kernel) rfl, mg_of (i := 66) (by decide +kernel) rfl, ⟨by decide +kernel, by decide +kernel⟩, by decide +kernel⟩
theorem in_T8_giveNumber : Cond.instanceMethod y_T8_giveNumber ∈ mGood := mg_of (i := 573) (by decide +kernel) rfl
theorem se_T8_giveNumber : Cond.selects R_T8 y_T8_giveNumber y_T8_giveNumber ∈ mGood := mg_of (i := 13) (by decide +kernel) rfl
theorem cw_T8_finish : mCw y_T8_finish b_T8_finish 5 none 1 := ⟨mg_of (i := 563) (by decide +kernel) rfl, mg_of (i := 66) (by decide +kernel) rfl, ⟨by decide +kernel, by decide +kernel⟩, by decide +kernel⟩
theorem in_T8_finish : Cond.instanceMethod y_T8_finish ∈ mGood := mg_of (i := 562) (by decide +kernel) rfl
theorem se_T8_finish : Cond.selects R_T8 y_T8_finish y_T8_finish ∈ mGood := mg_of (i := 11) (by decide +kernel) rfl
theorem cw_T8_unpack : mCw y_T8_unpack b_T8_unpack 6 none 2 := ⟨mg_of (i := 557) (by decide +kernel) rfl, mg_of (i := 66) (by decide +kernel) rfl, ⟨by decide +kernel, by decide +kernel⟩, by decide +kernel⟩
theorem in_T8_unpack : Cond.instanceMethod y_T8_unpack ∈ mGood := mg_of (i := 556) (by decide +kernel) rfl
end
section
/-! ===== StreamFilters$Codes.isLength(I)Z ===== -/
theorem d_Co_isLength_0 : decode b_Co_isLength 0 = .ok (.iload_n 0, 1) := by decide +kernel
theorem d_Co_isLength_1 : decode b_Co_isLength 1 = .ok (.ifCond .le 13, 3) := by decide +kernel
theorem d_Co_isLength_4 : decode b_Co_isLength 4 = .ok (.iload_n 0, 1) := by decide +kernel
theorem d_Co_isLength_5 : decode b_Co_isLength 5 = .ok (.bipush 15, 2) := by decide +kernel
theorem d_Co_isLength_7 : decode b_Co_isLength 7 = .ok (.if_icmp .gt 7, 3) := by decide +kernel
theorem d_Co_isLength_10 : decode b_Co_isLength 10 = .ok (.iconst 1, 1) := by decide +kernel
theorem d_Co_isLength_11 : decode b_Co_isLength 11 = .ok (.goto 4, 3) := by decide +kernel
theorem d_Co_isLength_14 : decode b_Co_isLength 14 = .ok (.iconst 0, 1) := by decide +kernel
theorem d_Co_isLength_15 : decode b_Co_isLength 15 = .ok (.ireturn, 1) := by decide +kernel
noncomputable def f_Co_isLength  (n0 : Nat) (h0 : mH) (x0 : Int32) : Option (Int32 × mH) :=
  if x0 ≤ 0 then
    some (0, h0)
  else
    if 15 < x0 then
      some (0, h0)
    else
      some (1, h0)
set_option maxHeartbeats 4000000 in
set_option maxRecDepth 100000 in
theorem cb_Co_isLength {X : mX} {ad : Nat → Nat} {ln : Launch} (O : mO X ad R_Co b_Co_isLength 1 (mR 0 0) ln) (r' : Int32) (h' : mH) (hE : mEnd X ad (some .boolean) (some (.int r')) h') (n0 : Nat) (h0 : mH) (x0 : Int32) (hf : f_Co_isLength n0 h0 x0 = some (r', h')) : mAW X ad 0 0 0 [(0, .int x0)] [] h0 := by
  unfold f_Co_isLength at hf
  refine ax_iload_n O d_Co_isLength_0 rfl 0 rfl ?_
  refine ax_if_le (tgt := 14) O d_Co_isLength_1 (by decide) (fun q1 => ?_) (fun q1 => ?_)
  · rw [if_pos q1] at hf
    refine ax_iconst (v := 0) O d_Co_isLength_14 (by decide) ?_
    exact ax_retE O hE hf rfl d_Co_isLength_15
  · rw [if_neg q1] at hf
    refine ax_iload_n O d_Co_isLength_4 rfl 0 rfl ?_
    refine ax_bipush (v := 15) O d_Co_isLength_5 (by decide) ?_
    refine ax_icmp_gt (tgt := 14) O d_Co_isLength_7 (by decide) (fun q2 => ?_) (fun q2 => ?_)
    · rw [if_pos q2] at hf
      refine ax_iconst (v := 0) O d_Co_isLength_14 (by decide) ?_
      exact ax_retE O hE hf rfl d_Co_isLength_15
    · rw [if_neg q2] at hf
      refine ax_iconst (v := 1) O d_Co_isLength_10 (by decide) ?_
      refine ax_goto (tgt := 15) O d_Co_isLength_11 (by decide) ?_
      exact ax_retE O hE hf rfl d_Co_isLength_15
theorem c_Co_isLength {ln : Launch} {n0 : Nat} {h0 h' : mH} {x0 : Int32} {r' : Int32} (hf : f_Co_isLength n0 h0 x0 = some (r', h')) : mMet ln y_Co_isLength b_Co_isLength 1 (some .boolean) (mR 0 0) [.int x0] h0 (some (.int r')) h' := mMet_of (by decide +kernel) (Nat.le_of_ble_eq_true rfl) (fun X ad O hE => cb_Co_isLength O r' h' hE n0 h0 x0 hf)
/-! ===== StreamFilters$Codes.count([III)V ===== -/
theorem d_Co_count_0 : decode b_Co_count 0 = .ok (.aload_n 0, 1) := by decide +kernel
theorem d_Co_count_1 : decode b_Co_count 1 = .ok (.iconst 0, 1) := by decide +kernel
theorem d_Co_count_2 : decode b_Co_count 2 = .ok (.putfield 18, 3) := by decide +kernel
theorem d_Co_count_5 : decode b_Co_count 5 = .ok (.aload_n 0, 1) := by decide +kernel
theorem d_Co_count_6 : decode b_Co_count 6 = .ok (.iconst 0, 1) := by decide +kernel
theorem d_Co_count_7 : decode b_Co_count 7 = .ok (.putfield 22, 3) := by decide +kernel
theorem d_Co_count_10 : decode b_Co_count 10 = .ok (.iconst 0, 1) := by decide +kernel
theorem d_Co_count_11 : decode b_Co_count 11 = .ok (.istore 4, 2) := by decide +kernel
theorem d_Co_count_13 : decode b_Co_count 13 = .ok (.iload 4, 2) := by decide +kernel
theorem d_Co_count_15 : decode b_Co_count 15 = .ok (.bipush 15, 2) := by decide +kernel
theorem d_Co_count_17 : decode b_Co_count 17 = .ok (.if_icmp .gt 17, 3) := by decide +kernel
theorem d_Co_count_20 : decode b_Co_count 20 = .ok (.aload_n 0, 1) := by decide +kernel
theorem d_Co_count_21 : decode b_Co_count 21 = .ok (.getfield 11, 3) := by decide +kernel
theorem d_Co_count_24 : decode b_Co_count 24 = .ok (.iload 4, 2) := by decide +kernel
theorem d_Co_count_26 : decode b_Co_count 26 = .ok (.iconst 0, 1) := by decide +kernel
theorem d_Co_count_27 : decode b_Co_count 27 = .ok (.iastore, 1) := by decide +kernel
theorem d_Co_count_28 : decode b_Co_count 28 = .ok (.iinc 4 1, 3) := by decide +kernel
theorem d_Co_count_31 : decode b_Co_count 31 = .ok (.goto (-18), 3) := by decide +kernel
theorem d_Co_count_34 : decode b_Co_count 34 = .ok (.iconst 0, 1) := by decide +kernel
theorem d_Co_count_35 : decode b_Co_count 35 = .ok (.istore 4, 2) := by decide +kernel
theorem d_Co_count_37 : decode b_Co_count 37 = .ok (.iload 4, 2) := by decide +kernel
theorem d_Co_count_39 : decode b_Co_count 39 = .ok (.iload_n 3, 1) := by decide +kernel
theorem d_Co_count_40 : decode b_Co_count 40 = .ok (.if_icmp .ge 68, 3) := by decide +kernel
theorem d_Co_count_43 : decode b_Co_count 43 = .ok (.iload_n 2, 1) := by decide +kernel
theorem d_Co_count_44 : decode b_Co_count 44 = .ok (.iload 4, 2) := by decide +kernel
theorem d_Co_count_46 : decode b_Co_count 46 = .ok (.iadd, 1) := by decide +kernel
theorem d_Co_count_47 : decode b_Co_count 47 = .ok (.aload_n 1, 1) := by decide +kernel
theorem d_Co_count_48 : decode b_Co_count 48 = .ok (.arraylength, 1) := by decide +kernel
theorem d_Co_count_49 : decode b_Co_count 49 = .ok (.if_icmp .ge 59, 3) := by decide +kernel
theorem d_Co_count_52 : decode b_Co_count 52 = .ok (.aload_n 1, 1) := by decide +kernel
theorem d_Co_count_53 : decode b_Co_count 53 = .ok (.iload_n 2, 1) := by decide +kernel
theorem d_Co_count_54 : decode b_Co_count 54 = .ok (.iload 4, 2) := by decide +kernel
theorem d_Co_count_56 : decode b_Co_count 56 = .ok (.iadd, 1) := by decide +kernel
theorem d_Co_count_57 : decode b_Co_count 57 = .ok (.iaload, 1) := by decide +kernel
theorem d_Co_count_58 : decode b_Co_count 58 = .ok (.istore 5, 2) := by decide +kernel
theorem d_Co_count_60 : decode b_Co_count 60 = .ok (.iload 5, 2) := by decide +kernel
theorem d_Co_count_62 : decode b_Co_count 62 = .ok (.invokestatic 38, 3) := by decide +kernel
theorem d_Co_count_65 : decode b_Co_count 65 = .ok (.ifCond .eq 37, 3) := by decide +kernel
theorem d_Co_count_68 : decode b_Co_count 68 = .ok (.aload_n 0, 1) := by decide +kernel
theorem d_Co_count_69 : decode b_Co_count 69 = .ok (.getfield 11, 3) := by decide +kernel
theorem d_Co_count_72 : decode b_Co_count 72 = .ok (.iload 5, 2) := by decide +kernel
theorem d_Co_count_74 : decode b_Co_count 74 = .ok (.dup2, 1) := by decide +kernel
theorem d_Co_count_75 : decode b_Co_count 75 = .ok (.iaload, 1) := by decide +kernel
theorem d_Co_count_76 : decode b_Co_count 76 = .ok (.iconst 1, 1) := by decide +kernel
theorem d_Co_count_77 : decode b_Co_count 77 = .ok (.iadd, 1) := by decide +kernel
theorem d_Co_count_78 : decode b_Co_count 78 = .ok (.iastore, 1) := by decide +kernel
theorem d_Co_count_79 : decode b_Co_count 79 = .ok (.aload_n 0, 1) := by decide +kernel
theorem d_Co_count_80 : decode b_Co_count 80 = .ok (.dup, 1) := by decide +kernel
theorem d_Co_count_81 : decode b_Co_count 81 = .ok (.getfield 18, 3) := by decide +kernel
theorem d_Co_count_84 : decode b_Co_count 84 = .ok (.iconst 1, 1) := by decide +kernel
theorem d_Co_count_85 : decode b_Co_count 85 = .ok (.iadd, 1) := by decide +kernel
theorem d_Co_count_86 : decode b_Co_count 86 = .ok (.putfield 18, 3) := by decide +kernel
theorem d_Co_count_89 : decode b_Co_count 89 = .ok (.aload_n 0, 1) := by decide +kernel
theorem d_Co_count_90 : decode b_Co_count 90 = .ok (.aload_n 0, 1) := by decide +kernel
theorem d_Co_count_91 : decode b_Co_count 91 = .ok (.getfield 22, 3) := by decide +kernel
theorem d_Co_count_94 : decode b_Co_count 94 = .ok (.iload 5, 2) := by decide +kernel
theorem d_Co_count_96 : decode b_Co_count 96 = .ok (.invokestatic 25, 3) := by decide +kernel
theorem d_Co_count_99 : decode b_Co_count 99 = .ok (.putfield 22, 3) := by decide +kernel
theorem d_Co_count_102 : decode b_Co_count 102 = .ok (.iinc 4 1, 3) := by decide +kernel
theorem d_Co_count_105 : decode b_Co_count 105 = .ok (.goto (-68), 3) := by decide +kernel
theorem d_Co_count_108 : decode b_Co_count 108 = .ok (.return_, 1) := by decide +kernel
noncomputable def f_Co_count_L37  (n0 : Nat) : Nat → mH → Nat → Nat → Int32 → Int32 → Int32 → Option (Unit × mH)
  | 0, _, _, _, _, _, _ => none
  | n + 1, h0, a0, a1, x2, x3, x4 =>
    if x3 ≤ x4 then
      some ((), h0)
    else
      mln h0 a1 .int fun v5 =>
      if v5 ≤ (x2 + x4) then
        some ((), h0)
      else
        mai h0 a1 .int (x2 + x4) fun v7 =>
        mcl (f_Co_isLength n0 h0 v7) fun v9 h10 =>
        if v9 = 0 then
          mnm (x4 + 1) fun v12 =>
          (f_Co_count_L37 n0 n) h10 a0 a1 x2 x3 v12
        else
          mgr h10 a0 2 0 fun r13 =>
          mai h10 r13 .int v7 fun v14 =>
          mas h10 r13 .int v7 (v14 + 1) fun h15 =>
          mgi h15 a0 2 3 fun v16 =>
          mpt h15 a0 2 3 (.int (v16 + 1)) fun h17 =>
          mgi h17 a0 2 4 fun v18 =>
          mnm (if v18 < v7 then v7 else v18) fun v19 =>
          mpt h17 a0 2 4 (.int v19) fun h20 =>
          mnm (x4 + 1) fun v21 =>
          (f_Co_count_L37 n0 n) h20 a0 a1 x2 x3 v21
noncomputable def f_Co_count_L13  (n0 : Nat) : Nat → mH → Nat → Nat → Int32 → Int32 → Int32 → Option (Unit × mH)
  | 0, _, _, _, _, _, _ => none
  | n + 1, h0, a0, a1, x2, x3, x4 =>
    if 15 < x4 then
      f_Co_count_L37 n0 n0 h0 a0 a1 x2 x3 0
    else
      mgr h0 a0 2 0 fun r22 =>
      mas h0 r22 .int x4 0 fun h23 =>
      mnm (x4 + 1) fun v24 =>
      (f_Co_count_L13 n0 n) h23 a0 a1 x2 x3 v24
noncomputable def f_Co_count  (n0 : Nat) (h0 : mH) (a0 : Nat) (a1 : Nat) (x2 : Int32) (x3 : Int32) : Option (Unit × mH) :=
  mpt h0 a0 2 3 (.int 0) fun h1 =>
  mpt h1 a0 2 4 (.int 0) fun h2 =>
  f_Co_count_L13 n0 n0 h2 a0 a1 x2 x3 0
set_option maxHeartbeats 4000000 in
set_option maxRecDepth 100000 in
theorem cb_Co_count_L37 {X : mX} {ad : Nat → Nat} {ln : Launch} (O : mO X ad R_Co b_Co_count 6 (mR 1 21) ln) (r' : Unit) (h' : mH) (hE : mEnd X ad none none h') (n0 : Nat) : ∀ (n : Nat) (h0 : mH) (a0 : Nat) (a1 : Nat) (x2 : Int32) (x3 : Int32) (x4 : Int32), f_Co_count_L37 n0 n h0 a0 a1 x2 x3 x4 = some (r', h') → mAW X ad 0 0 37 [(0, .ref a0), (1, .ref a1), (2, .int x2), (3, .int x3), (4, .int x4)] [] h0 := by
  intro n
  induction n with
  | zero =>
    intro h0 a0 a1 x2 x3 x4 hf
    rw [f_Co_count_L37.eq_1] at hf
    cases hf
  | succ n ih =>
    intro h0 a0 a1 x2 x3 x4 hf
    rw [f_Co_count_L37.eq_2] at hf
    refine ax_iload O d_Co_count_37 4 rfl ?_
    refine ax_iload_n O d_Co_count_39 rfl 3 rfl ?_
    refine ax_icmp_ge (tgt := 108) O d_Co_count_40 (by decide) (fun q4 => ?_) (fun q4 => ?_)
    · rw [if_pos q4] at hf
      exact ax_vretE O hE hf d_Co_count_108
    · rw [if_neg q4] at hf
      refine ax_iload_n O d_Co_count_43 rfl 2 rfl ?_
      refine ax_iload O d_Co_count_44 4 rfl ?_
      refine ax_iadd O d_Co_count_46 ?_
      refine ax_aload_n O d_Co_count_47 rfl 1 rfl ?_
      obtain ⟨xv5, v5, cv5, kv5, hf⟩ := mln_some hf
      refine ax_alen O (by decide) cv5 kv5 d_Co_count_48 ?_
      refine ax_icmp_ge (tgt := 108) O d_Co_count_49 (by decide) (fun q6 => ?_) (fun q6 => ?_)
      · rw [if_pos q6] at hf
        exact ax_vretE O hE hf d_Co_count_108
      · rw [if_neg q6] at hf
        refine ax_aload_n O d_Co_count_52 rfl 1 rfl ?_
        refine ax_iload_n O d_Co_count_53 rfl 2 rfl ?_
        refine ax_iload O d_Co_count_54 4 rfl ?_
        refine ax_iadd O d_Co_count_56 ?_
        obtain ⟨nv7, fv7, v7, cv7, iv7, kv7, hf⟩ := mai_some hf
        refine ax_iald O cv7 iv7 kv7 d_Co_count_57 ?_
        refine ax_istore (lv' := [(5, .int v7), (0, .ref a0), (1, .ref a1), (2, .int x2), (3, .int x3), (4, .int x4)]) O d_Co_count_58 (by decide) rfl ?_
        refine ax_iload O d_Co_count_60 0 rfl ?_
        obtain ⟨v9, h10, mh10, hf⟩ := mcl_some hf
        refine ax_callS (As := [.int v7]) (rest := []) O cw_Co_isLength st_Co_isLength lk_Co_38 (c_Co_isLength mh10) rfl ⟨rfl, rfl⟩ (by decide) (by decide) (Nat.le_of_ble_eq_true rfl) d_Co_count_62 ?_
        refine ax_if_eq (tgt := 102) O d_Co_count_65 (by decide) (fun q11 => ?_) (fun q11 => ?_)
        · rw [if_pos q11] at hf
          obtain ⟨v12, ev12, hf⟩ := mnm_some hf
          refine ax_iinc (j := 5) (v := v12) (lv' := [(4, .int v12), (5, .int v7), (0, .ref a0), (1, .ref a1), (2, .int x2), (3, .int x3)]) O d_Co_count_102 rfl (by rw [ev12]; rfl) (by decide) rfl ?_
          refine ax_goto (tgt := 37) O d_Co_count_105 (by decide) ?_
          refine ax_sub [2, 3, 4, 5, 0] rfl ?_
          exact ih _ _ _ _ _ _ hf
        · rw [if_neg q11] at hf
          refine ax_aload_n O d_Co_count_68 rfl 1 rfl ?_
          obtain ⟨fr13, r13, cr13, kr13, hf⟩ := mgr_some hf
          refine ax_get O fg_Co_11 cr13 kr13 d_Co_count_69 ?_
          refine ax_iload O d_Co_count_72 0 rfl ?_
          refine ax_dup2 O d_Co_count_74 rfl rfl ?_
          obtain ⟨nv14, fv14, v14, cv14, iv14, kv14, hf⟩ := mai_some hf
          refine ax_iald O cv14 iv14 kv14 d_Co_count_75 ?_
          refine ax_iconst (v := 1) O d_Co_count_76 (by decide) ?_
          refine ax_iadd O d_Co_count_77 ?_
          obtain ⟨nh15, fh15, h15, ch15, ih15, eh15, hf⟩ := mas_some hf
          refine ax_iast O ch15 ih15 eh15 d_Co_count_78 ?_
          refine ax_aload_n O d_Co_count_79 rfl 1 rfl ?_
          refine ax_dup O d_Co_count_80 rfl ?_
          obtain ⟨fv16, v16, cv16, kv16, hf⟩ := mgi_some hf
          refine ax_get O fg_Co_18 cv16 kv16 d_Co_count_81 ?_
          refine ax_iconst (v := 1) O d_Co_count_84 (by decide) ?_
          refine ax_iadd O d_Co_count_85 ?_
          obtain ⟨fh17, h17, ch17, kh17, eh17, hf⟩ := mpt_some hf
          refine ax_put (v := .int (v16 + 1)) O fp_Co_18 ch17 kh17 eh17 rfl rfl d_Co_count_86 ?_
          refine ax_aload_n O d_Co_count_89 rfl 1 rfl ?_
          refine ax_aload_n O d_Co_count_90 rfl 1 rfl ?_
          obtain ⟨fv18, v18, cv18, kv18, hf⟩ := mgi_some hf
          refine ax_get O fg_Co_22 cv18 kv18 d_Co_count_91 ?_
          refine ax_iload O d_Co_count_94 0 rfl ?_
          obtain ⟨v19, ev19, hf⟩ := mnm_some hf
          refine ax_mmax O wd_0 (by decide) (Nat.le_of_ble_eq_true rfl) d_Co_count_96 ?_
          refine ax_nmi ev19 ?_
          obtain ⟨fh20, h20, ch20, kh20, eh20, hf⟩ := mpt_some hf
          refine ax_put (v := .int v19) O fp_Co_22 ch20 kh20 eh20 rfl rfl d_Co_count_99 ?_
          obtain ⟨v21, ev21, hf⟩ := mnm_some hf
          refine ax_iinc (j := 5) (v := v21) (lv' := [(4, .int v21), (5, .int v7), (0, .ref a0), (1, .ref a1), (2, .int x2), (3, .int x3)]) O d_Co_count_102 rfl (by rw [ev21]; rfl) (by decide) rfl ?_
          refine ax_goto (tgt := 37) O d_Co_count_105 (by decide) ?_
          refine ax_sub [2, 3, 4, 5, 0] rfl ?_
          exact ih _ _ _ _ _ _ hf
set_option maxHeartbeats 4000000 in
set_option maxRecDepth 100000 in
theorem cb_Co_count_L13 {X : mX} {ad : Nat → Nat} {ln : Launch} (O : mO X ad R_Co b_Co_count 6 (mR 1 21) ln) (r' : Unit) (h' : mH) (hE : mEnd X ad none none h') (n0 : Nat) : ∀ (n : Nat) (h0 : mH) (a0 : Nat) (a1 : Nat) (x2 : Int32) (x3 : Int32) (x4 : Int32), f_Co_count_L13 n0 n h0 a0 a1 x2 x3 x4 = some (r', h') → mAW X ad 0 0 13 [(0, .ref a0), (1, .ref a1), (2, .int x2), (3, .int x3), (4, .int x4)] [] h0 := by
  intro n
  induction n with
  | zero =>
    intro h0 a0 a1 x2 x3 x4 hf
    rw [f_Co_count_L13.eq_1] at hf
    cases hf
  | succ n ih =>
    intro h0 a0 a1 x2 x3 x4 hf
    rw [f_Co_count_L13.eq_2] at hf
    refine ax_iload O d_Co_count_13 4 rfl ?_
    refine ax_bipush (v := 15) O d_Co_count_15 (by decide) ?_
    refine ax_icmp_gt (tgt := 34) O d_Co_count_17 (by decide) (fun q3 => ?_) (fun q3 => ?_)
    · rw [if_pos q3] at hf
      refine ax_iconst (v := 0) O d_Co_count_34 (by decide) ?_
      refine ax_istore (lv' := [(4, .int 0), (0, .ref a0), (1, .ref a1), (2, .int x2), (3, .int x3)]) O d_Co_count_35 (by decide) rfl ?_
      refine ax_sub [1, 2, 3, 4, 0] rfl ?_
      exact cb_Co_count_L37 O _ _ hE n0 n0 _ _ _ _ _ _ hf
    · rw [if_neg q3] at hf
      refine ax_aload_n O d_Co_count_20 rfl 0 rfl ?_
      obtain ⟨fr22, r22, cr22, kr22, hf⟩ := mgr_some hf
      refine ax_get O fg_Co_11 cr22 kr22 d_Co_count_21 ?_
      refine ax_iload O d_Co_count_24 4 rfl ?_
      refine ax_iconst (v := 0) O d_Co_count_26 (by decide) ?_
      obtain ⟨nh23, fh23, h23, ch23, ih23, eh23, hf⟩ := mas_some hf
      refine ax_iast O ch23 ih23 eh23 d_Co_count_27 ?_
      obtain ⟨v24, ev24, hf⟩ := mnm_some hf
      refine ax_iinc (j := 4) (v := v24) (lv' := [(4, .int v24), (0, .ref a0), (1, .ref a1), (2, .int x2), (3, .int x3)]) O d_Co_count_28 rfl (by rw [ev24]; rfl) (by decide) rfl ?_
      refine ax_goto (tgt := 13) O d_Co_count_31 (by decide) ?_
      refine ax_sub [1, 2, 3, 4, 0] rfl ?_
      exact ih _ _ _ _ _ _ hf
set_option maxHeartbeats 4000000 in
set_option maxRecDepth 100000 in
theorem cb_Co_count {X : mX} {ad : Nat → Nat} {ln : Launch} (O : mO X ad R_Co b_Co_count 6 (mR 1 21) ln) (r' : Unit) (h' : mH) (hE : mEnd X ad none none h') (n0 : Nat) (h0 : mH) (a0 : Nat) (a1 : Nat) (x2 : Int32) (x3 : Int32) (hf : f_Co_count n0 h0 a0 a1 x2 x3 = some (r', h')) : mAW X ad 0 0 0 [(0, .ref a0), (1, .ref a1), (2, .int x2), (3, .int x3)] [] h0 := by
  unfold f_Co_count at hf
  refine ax_aload_n O d_Co_count_0 rfl 0 rfl ?_
  refine ax_iconst (v := 0) O d_Co_count_1 (by decide) ?_
  obtain ⟨fh1, h1, ch1, kh1, eh1, hf⟩ := mpt_some hf
  refine ax_put (v := .int 0) O fp_Co_18 ch1 kh1 eh1 rfl rfl d_Co_count_2 ?_
  refine ax_aload_n O d_Co_count_5 rfl 0 rfl ?_
  refine ax_iconst (v := 0) O d_Co_count_6 (by decide) ?_
  obtain ⟨fh2, h2, ch2, kh2, eh2, hf⟩ := mpt_some hf
  refine ax_put (v := .int 0) O fp_Co_22 ch2 kh2 eh2 rfl rfl d_Co_count_7 ?_
  refine ax_iconst (v := 0) O d_Co_count_10 (by decide) ?_
  refine ax_istore (lv' := [(4, .int 0), (0, .ref a0), (1, .ref a1), (2, .int x2), (3, .int x3)]) O d_Co_count_11 (by decide) rfl ?_
  refine ax_sub [1, 2, 3, 4, 0] rfl ?_
  exact cb_Co_count_L13 O _ _ hE n0 n0 _ _ _ _ _ _ hf
theorem c_Co_count {ln : Launch} {n0 : Nat} {h0 h' : mH} {a0 : Nat} {a1 : Nat} {x2 : Int32} {x3 : Int32} {r' : Unit} (hf : f_Co_count n0 h0 a0 a1 x2 x3 = some (r', h')) : mMet ln y_Co_count b_Co_count 6 none (mR 1 21) [.ref a0, .ref a1, .int x2, .int x3] h0 none h' := mMet_of (by decide +kernel) (Nat.le_of_ble_eq_true rfl) (fun X ad O hE => cb_Co_count O r' h' hE n0 h0 a0 a1 x2 x3 hf)
/-! ===== StreamFilters$Codes.build([III)V ===== -/
theorem d_Co_build_0 : decode b_Co_build 0 = .ok (.aload_n 0, 1) := by decide +kernel
theorem d_Co_build_1 : decode b_Co_build 1 = .ok (.aload_n 1, 1) := by decide +kernel
theorem d_Co_build_2 : decode b_Co_build 2 = .ok (.iload_n 2, 1) := by decide +kernel
theorem d_Co_build_3 : decode b_Co_build 3 = .ok (.iload_n 3, 1) := by decide +kernel
theorem d_Co_build_4 : decode b_Co_build 4 = .ok (.invokevirtual 34, 3) := by decide +kernel
theorem d_Co_build_7 : decode b_Co_build 7 = .ok (.aload_n 0, 1) := by decide +kernel
theorem d_Co_build_8 : decode b_Co_build 8 = .ok (.getfield 15, 3) := by decide +kernel
theorem d_Co_build_11 : decode b_Co_build 11 = .ok (.iconst 0, 1) := by decide +kernel
theorem d_Co_build_12 : decode b_Co_build 12 = .ok (.iconst 0, 1) := by decide +kernel
theorem d_Co_build_13 : decode b_Co_build 13 = .ok (.iastore, 1) := by decide +kernel
theorem d_Co_build_14 : decode b_Co_build 14 = .ok (.iconst 1, 1) := by decide +kernel
theorem d_Co_build_15 : decode b_Co_build 15 = .ok (.istore 4, 2) := by decide +kernel
theorem d_Co_build_17 : decode b_Co_build 17 = .ok (.iload 4, 2) := by decide +kernel
theorem d_Co_build_19 : decode b_Co_build 19 = .ok (.bipush 15, 2) := by decide +kernel
theorem d_Co_build_21 : decode b_Co_build 21 = .ok (.if_icmp .gt 35, 3) := by decide +kernel
theorem d_Co_build_24 : decode b_Co_build 24 = .ok (.aload_n 0, 1) := by decide +kernel
theorem d_Co_build_25 : decode b_Co_build 25 = .ok (.getfield 15, 3) := by decide +kernel
theorem d_Co_build_28 : decode b_Co_build 28 = .ok (.iload 4, 2) := by decide +kernel
theorem d_Co_build_30 : decode b_Co_build 30 = .ok (.aload_n 0, 1) := by decide +kernel
theorem d_Co_build_31 : decode b_Co_build 31 = .ok (.getfield 15, 3) := by decide +kernel
theorem d_Co_build_34 : decode b_Co_build 34 = .ok (.iload 4, 2) := by decide +kernel
theorem d_Co_build_36 : decode b_Co_build 36 = .ok (.iconst 1, 1) := by decide +kernel
theorem d_Co_build_37 : decode b_Co_build 37 = .ok (.isub, 1) := by decide +kernel
theorem d_Co_build_38 : decode b_Co_build 38 = .ok (.iaload, 1) := by decide +kernel
theorem d_Co_build_39 : decode b_Co_build 39 = .ok (.aload_n 0, 1) := by decide +kernel
theorem d_Co_build_40 : decode b_Co_build 40 = .ok (.getfield 11, 3) := by decide +kernel
theorem d_Co_build_43 : decode b_Co_build 43 = .ok (.iload 4, 2) := by decide +kernel
theorem d_Co_build_45 : decode b_Co_build 45 = .ok (.iconst 1, 1) := by decide +kernel
theorem d_Co_build_46 : decode b_Co_build 46 = .ok (.isub, 1) := by decide +kernel
theorem d_Co_build_47 : decode b_Co_build 47 = .ok (.iaload, 1) := by decide +kernel
theorem d_Co_build_48 : decode b_Co_build 48 = .ok (.iadd, 1) := by decide +kernel
theorem d_Co_build_49 : decode b_Co_build 49 = .ok (.iastore, 1) := by decide +kernel
theorem d_Co_build_50 : decode b_Co_build 50 = .ok (.iinc 4 1, 3) := by decide +kernel
theorem d_Co_build_53 : decode b_Co_build 53 = .ok (.goto (-36), 3) := by decide +kernel
theorem d_Co_build_56 : decode b_Co_build 56 = .ok (.iconst 0, 1) := by decide +kernel
theorem d_Co_build_57 : decode b_Co_build 57 = .ok (.istore 4, 2) := by decide +kernel
theorem d_Co_build_59 : decode b_Co_build 59 = .ok (.iload 4, 2) := by decide +kernel
theorem d_Co_build_61 : decode b_Co_build 61 = .ok (.iload_n 3, 1) := by decide +kernel
theorem d_Co_build_62 : decode b_Co_build 62 = .ok (.if_icmp .ge 74, 3) := by decide +kernel
theorem d_Co_build_65 : decode b_Co_build 65 = .ok (.iload_n 2, 1) := by decide +kernel
theorem d_Co_build_66 : decode b_Co_build 66 = .ok (.iload 4, 2) := by decide +kernel
theorem d_Co_build_68 : decode b_Co_build 68 = .ok (.iadd, 1) := by decide +kernel
theorem d_Co_build_69 : decode b_Co_build 69 = .ok (.aload_n 1, 1) := by decide +kernel
theorem d_Co_build_70 : decode b_Co_build 70 = .ok (.arraylength, 1) := by decide +kernel
theorem d_Co_build_71 : decode b_Co_build 71 = .ok (.if_icmp .ge 65, 3) := by decide +kernel
theorem d_Co_build_74 : decode b_Co_build 74 = .ok (.aload_n 1, 1) := by decide +kernel
theorem d_Co_build_75 : decode b_Co_build 75 = .ok (.iload_n 2, 1) := by decide +kernel
theorem d_Co_build_76 : decode b_Co_build 76 = .ok (.iload 4, 2) := by decide +kernel
theorem d_Co_build_78 : decode b_Co_build 78 = .ok (.iadd, 1) := by decide +kernel
theorem d_Co_build_79 : decode b_Co_build 79 = .ok (.iaload, 1) := by decide +kernel
theorem d_Co_build_80 : decode b_Co_build 80 = .ok (.istore 5, 2) := by decide +kernel
theorem d_Co_build_82 : decode b_Co_build 82 = .ok (.iload 5, 2) := by decide +kernel
theorem d_Co_build_84 : decode b_Co_build 84 = .ok (.invokestatic 38, 3) := by decide +kernel
theorem d_Co_build_87 : decode b_Co_build 87 = .ok (.ifCond .eq 43, 3) := by decide +kernel
theorem d_Co_build_90 : decode b_Co_build 90 = .ok (.aload_n 0, 1) := by decide +kernel
theorem d_Co_build_91 : decode b_Co_build 91 = .ok (.getfield 15, 3) := by decide +kernel
theorem d_Co_build_94 : decode b_Co_build 94 = .ok (.iload 5, 2) := by decide +kernel
theorem d_Co_build_96 : decode b_Co_build 96 = .ok (.iaload, 1) := by decide +kernel
theorem d_Co_build_97 : decode b_Co_build 97 = .ok (.aload_n 0, 1) := by decide +kernel
theorem d_Co_build_98 : decode b_Co_build 98 = .ok (.getfield 31, 3) := by decide +kernel
theorem d_Co_build_101 : decode b_Co_build 101 = .ok (.arraylength, 1) := by decide +kernel
theorem d_Co_build_102 : decode b_Co_build 102 = .ok (.if_icmp .ge 28, 3) := by decide +kernel
theorem d_Co_build_105 : decode b_Co_build 105 = .ok (.aload_n 0, 1) := by decide +kernel
theorem d_Co_build_106 : decode b_Co_build 106 = .ok (.getfield 31, 3) := by decide +kernel
theorem d_Co_build_109 : decode b_Co_build 109 = .ok (.aload_n 0, 1) := by decide +kernel
theorem d_Co_build_110 : decode b_Co_build 110 = .ok (.getfield 15, 3) := by decide +kernel
theorem d_Co_build_113 : decode b_Co_build 113 = .ok (.iload 5, 2) := by decide +kernel
theorem d_Co_build_115 : decode b_Co_build 115 = .ok (.iaload, 1) := by decide +kernel
theorem d_Co_build_116 : decode b_Co_build 116 = .ok (.iload 4, 2) := by decide +kernel
theorem d_Co_build_118 : decode b_Co_build 118 = .ok (.iastore, 1) := by decide +kernel
theorem d_Co_build_119 : decode b_Co_build 119 = .ok (.aload_n 0, 1) := by decide +kernel
theorem d_Co_build_120 : decode b_Co_build 120 = .ok (.getfield 15, 3) := by decide +kernel
theorem d_Co_build_123 : decode b_Co_build 123 = .ok (.iload 5, 2) := by decide +kernel
theorem d_Co_build_125 : decode b_Co_build 125 = .ok (.dup2, 1) := by decide +kernel
theorem d_Co_build_126 : decode b_Co_build 126 = .ok (.iaload, 1) := by decide +kernel
theorem d_Co_build_127 : decode b_Co_build 127 = .ok (.iconst 1, 1) := by decide +kernel
theorem d_Co_build_128 : decode b_Co_build 128 = .ok (.iadd, 1) := by decide +kernel
theorem d_Co_build_129 : decode b_Co_build 129 = .ok (.iastore, 1) := by decide +kernel
theorem d_Co_build_130 : decode b_Co_build 130 = .ok (.iinc 4 1, 3) := by decide +kernel
theorem d_Co_build_133 : decode b_Co_build 133 = .ok (.goto (-74), 3) := by decide +kernel
theorem d_Co_build_136 : decode b_Co_build 136 = .ok (.return_, 1) := by decide +kernel
noncomputable def f_Co_build_L59  (n0 : Nat) : Nat → mH → Nat → Nat → Int32 → Int32 → Int32 → Option (Unit × mH)
  | 0, _, _, _, _, _, _ => none
  | n + 1, h0, a0, a1, x2, x3, x4 =>
    if x3 ≤ x4 then
      some ((), h0)
    else
      mln h0 a1 .int fun v9 =>
      if v9 ≤ (x2 + x4) then
        some ((), h0)
      else
        mai h0 a1 .int (x2 + x4) fun v11 =>
        mcl (f_Co_isLength n0 h0 v11) fun v13 h14 =>
        if v13 = 0 then
          mnm (x4 + 1) fun v16 =>
          (f_Co_build_L59 n0 n) h14 a0 a1 x2 x3 v16
        else
          mgr h14 a0 2 1 fun r17 =>
          mai h14 r17 .int v11 fun v18 =>
          mgr h14 a0 2 2 fun r19 =>
          mln h14 r19 .int fun v20 =>
          if v20 ≤ v18 then
            mnm (x4 + 1) fun v22 =>
            (f_Co_build_L59 n0 n) h14 a0 a1 x2 x3 v22
          else
            mgr h14 a0 2 2 fun r23 =>
            mgr h14 a0 2 1 fun r24 =>
            mai h14 r24 .int v11 fun v25 =>
            mas h14 r23 .int v25 x4 fun h26 =>
            mgr h26 a0 2 1 fun r27 =>
            mai h26 r27 .int v11 fun v28 =>
            mas h26 r27 .int v11 (v28 + 1) fun h29 =>
            mnm (x4 + 1) fun v30 =>
            (f_Co_build_L59 n0 n) h29 a0 a1 x2 x3 v30
noncomputable def f_Co_build_L17  (n0 : Nat) : Nat → mH → Nat → Nat → Int32 → Int32 → Int32 → Option (Unit × mH)
  | 0, _, _, _, _, _, _ => none
  | n + 1, h0, a0, a1, x2, x3, x4 =>
    if 15 < x4 then
      f_Co_build_L59 n0 n0 h0 a0 a1 x2 x3 0
    else
      mgr h0 a0 2 1 fun r31 =>
      mgr h0 a0 2 1 fun r32 =>
      mai h0 r32 .int (x4 - 1) fun v33 =>
      mgr h0 a0 2 0 fun r34 =>
      mai h0 r34 .int (x4 - 1) fun v35 =>
      mas h0 r31 .int x4 (v33 + v35) fun h36 =>
      mnm (x4 + 1) fun v37 =>
      (f_Co_build_L17 n0 n) h36 a0 a1 x2 x3 v37
noncomputable def f_Co_build  (n0 : Nat) (h0 : mH) (a0 : Nat) (a1 : Nat) (x2 : Int32) (x3 : Int32) : Option (Unit × mH) :=
  mis h0 a0 2 <|
  mcl (f_Co_count n0 h0 a0 a1 x2 x3) fun _ h3 =>
  mgr h3 a0 2 1 fun r5 =>
  mas h3 r5 .int 0 0 fun h6 =>
  f_Co_build_L17 n0 n0 h6 a0 a1 x2 x3 1
set_option maxHeartbeats 4000000 in
set_option maxRecDepth 100000 in
theorem cb_Co_build_L59 {X : mX} {ad : Nat → Nat} {ln : Launch} (O : mO X ad R_Co b_Co_build 6 (mR 2 46) ln) (r' : Unit) (h' : mH) (hE : mEnd X ad none none h') (n0 : Nat) : ∀ (n : Nat) (h0 : mH) (a0 : Nat) (a1 : Nat) (x2 : Int32) (x3 : Int32) (x4 : Int32), f_Co_build_L59 n0 n h0 a0 a1 x2 x3 x4 = some (r', h') → mAW X ad 0 0 59 [(0, .ref a0), (1, .ref a1), (2, .int x2), (3, .int x3), (4, .int x4)] [] h0 := by
  intro n
  induction n with
  | zero =>
    intro h0 a0 a1 x2 x3 x4 hf
    rw [f_Co_build_L59.eq_1] at hf
    cases hf
  | succ n ih =>
    intro h0 a0 a1 x2 x3 x4 hf
    rw [f_Co_build_L59.eq_2] at hf
    refine ax_iload O d_Co_build_59 4 rfl ?_
    refine ax_iload_n O d_Co_build_61 rfl 3 rfl ?_
    refine ax_icmp_ge (tgt := 136) O d_Co_build_62 (by decide) (fun q8 => ?_) (fun q8 => ?_)
    · rw [if_pos q8] at hf
      exact ax_vretE O hE hf d_Co_build_136
    · rw [if_neg q8] at hf
      refine ax_iload_n O d_Co_build_65 rfl 2 rfl ?_
      refine ax_iload O d_Co_build_66 4 rfl ?_
      refine ax_iadd O d_Co_build_68 ?_
      refine ax_aload_n O d_Co_build_69 rfl 1 rfl ?_
      obtain ⟨xv9, v9, cv9, kv9, hf⟩ := mln_some hf
      refine ax_alen O (by decide) cv9 kv9 d_Co_build_70 ?_
      refine ax_icmp_ge (tgt := 136) O d_Co_build_71 (by decide) (fun q10 => ?_) (fun q10 => ?_)
      · rw [if_pos q10] at hf
        exact ax_vretE O hE hf d_Co_build_136
      · rw [if_neg q10] at hf
        refine ax_aload_n O d_Co_build_74 rfl 1 rfl ?_
        refine ax_iload_n O d_Co_build_75 rfl 2 rfl ?_
        refine ax_iload O d_Co_build_76 4 rfl ?_
        refine ax_iadd O d_Co_build_78 ?_
        obtain ⟨nv11, fv11, v11, cv11, iv11, kv11, hf⟩ := mai_some hf
        refine ax_iald O cv11 iv11 kv11 d_Co_build_79 ?_
        refine ax_istore (lv' := [(5, .int v11), (0, .ref a0), (1, .ref a1), (2, .int x2), (3, .int x3), (4, .int x4)]) O d_Co_build_80 (by decide) rfl ?_
        refine ax_iload O d_Co_build_82 0 rfl ?_
        obtain ⟨v13, h14, mh14, hf⟩ := mcl_some hf
        refine ax_callS (As := [.int v11]) (rest := []) O cw_Co_isLength st_Co_isLength lk_Co_38 (c_Co_isLength mh14) rfl ⟨rfl, rfl⟩ (by decide) (by decide) (Nat.le_of_ble_eq_true rfl) d_Co_build_84 ?_
        refine ax_if_eq (tgt := 130) O d_Co_build_87 (by decide) (fun q15 => ?_) (fun q15 => ?_)
        · rw [if_pos q15] at hf
          obtain ⟨v16, ev16, hf⟩ := mnm_some hf
          refine ax_iinc (j := 5) (v := v16) (lv' := [(4, .int v16), (5, .int v11), (0, .ref a0), (1, .ref a1), (2, .int x2), (3, .int x3)]) O d_Co_build_130 rfl (by rw [ev16]; rfl) (by decide) rfl ?_
          refine ax_goto (tgt := 59) O d_Co_build_133 (by decide) ?_
          refine ax_sub [2, 3, 4, 5, 0] rfl ?_
          exact ih _ _ _ _ _ _ hf
        · rw [if_neg q15] at hf
          refine ax_aload_n O d_Co_build_90 rfl 1 rfl ?_
          obtain ⟨fr17, r17, cr17, kr17, hf⟩ := mgr_some hf
          refine ax_get O fg_Co_15 cr17 kr17 d_Co_build_91 ?_
          refine ax_iload O d_Co_build_94 0 rfl ?_
          obtain ⟨nv18, fv18, v18, cv18, iv18, kv18, hf⟩ := mai_some hf
          refine ax_iald O cv18 iv18 kv18 d_Co_build_96 ?_
          refine ax_aload_n O d_Co_build_97 rfl 1 rfl ?_
          obtain ⟨fr19, r19, cr19, kr19, hf⟩ := mgr_some hf
          refine ax_get O fg_Co_31 cr19 kr19 d_Co_build_98 ?_
          obtain ⟨xv20, v20, cv20, kv20, hf⟩ := mln_some hf
          refine ax_alen O (by decide) cv20 kv20 d_Co_build_101 ?_
          refine ax_icmp_ge (tgt := 130) O d_Co_build_102 (by decide) (fun q21 => ?_) (fun q21 => ?_)
          · rw [if_pos q21] at hf
            obtain ⟨v22, ev22, hf⟩ := mnm_some hf
            refine ax_iinc (j := 5) (v := v22) (lv' := [(4, .int v22), (5, .int v11), (0, .ref a0), (1, .ref a1), (2, .int x2), (3, .int x3)]) O d_Co_build_130 rfl (by rw [ev22]; rfl) (by decide) rfl ?_
            refine ax_goto (tgt := 59) O d_Co_build_133 (by decide) ?_
            refine ax_sub [2, 3, 4, 5, 0] rfl ?_
            exact ih _ _ _ _ _ _ hf
          · rw [if_neg q21] at hf
            refine ax_aload_n O d_Co_build_105 rfl 1 rfl ?_
            obtain ⟨fr23, r23, cr23, kr23, hf⟩ := mgr_some hf
            refine ax_get O fg_Co_31 cr23 kr23 d_Co_build_106 ?_
            refine ax_aload_n O d_Co_build_109 rfl 1 rfl ?_
            obtain ⟨fr24, r24, cr24, kr24, hf⟩ := mgr_some hf
            refine ax_get O fg_Co_15 cr24 kr24 d_Co_build_110 ?_
            refine ax_iload O d_Co_build_113 0 rfl ?_
            obtain ⟨nv25, fv25, v25, cv25, iv25, kv25, hf⟩ := mai_some hf
            refine ax_iald O cv25 iv25 kv25 d_Co_build_115 ?_
            refine ax_iload O d_Co_build_116 5 rfl ?_
            obtain ⟨nh26, fh26, h26, ch26, ih26, eh26, hf⟩ := mas_some hf
            refine ax_iast O ch26 ih26 eh26 d_Co_build_118 ?_
            refine ax_aload_n O d_Co_build_119 rfl 1 rfl ?_
            obtain ⟨fr27, r27, cr27, kr27, hf⟩ := mgr_some hf
            refine ax_get O fg_Co_15 cr27 kr27 d_Co_build_120 ?_
            refine ax_iload O d_Co_build_123 0 rfl ?_
            refine ax_dup2 O d_Co_build_125 rfl rfl ?_
            obtain ⟨nv28, fv28, v28, cv28, iv28, kv28, hf⟩ := mai_some hf
            refine ax_iald O cv28 iv28 kv28 d_Co_build_126 ?_
            refine ax_iconst (v := 1) O d_Co_build_127 (by decide) ?_
            refine ax_iadd O d_Co_build_128 ?_
            obtain ⟨nh29, fh29, h29, ch29, ih29, eh29, hf⟩ := mas_some hf
            refine ax_iast O ch29 ih29 eh29 d_Co_build_129 ?_
            obtain ⟨v30, ev30, hf⟩ := mnm_some hf
            refine ax_iinc (j := 5) (v := v30) (lv' := [(4, .int v30), (5, .int v11), (0, .ref a0), (1, .ref a1), (2, .int x2), (3, .int x3)]) O d_Co_build_130 rfl (by rw [ev30]; rfl) (by decide) rfl ?_
            refine ax_goto (tgt := 59) O d_Co_build_133 (by decide) ?_
            refine ax_sub [2, 3, 4, 5, 0] rfl ?_
            exact ih _ _ _ _ _ _ hf
set_option maxHeartbeats 4000000 in
set_option maxRecDepth 100000 in
theorem cb_Co_build_L17 {X : mX} {ad : Nat → Nat} {ln : Launch} (O : mO X ad R_Co b_Co_build 6 (mR 2 46) ln) (r' : Unit) (h' : mH) (hE : mEnd X ad none none h') (n0 : Nat) : ∀ (n : Nat) (h0 : mH) (a0 : Nat) (a1 : Nat) (x2 : Int32) (x3 : Int32) (x4 : Int32), f_Co_build_L17 n0 n h0 a0 a1 x2 x3 x4 = some (r', h') → mAW X ad 0 0 17 [(0, .ref a0), (1, .ref a1), (2, .int x2), (3, .int x3), (4, .int x4)] [] h0 := by
  intro n
  induction n with
  | zero =>
    intro h0 a0 a1 x2 x3 x4 hf
    rw [f_Co_build_L17.eq_1] at hf
    cases hf
  | succ n ih =>
    intro h0 a0 a1 x2 x3 x4 hf
    rw [f_Co_build_L17.eq_2] at hf
    refine ax_iload O d_Co_build_17 4 rfl ?_
    refine ax_bipush (v := 15) O d_Co_build_19 (by decide) ?_
    refine ax_icmp_gt (tgt := 56) O d_Co_build_21 (by decide) (fun q7 => ?_) (fun q7 => ?_)
    · rw [if_pos q7] at hf
      refine ax_iconst (v := 0) O d_Co_build_56 (by decide) ?_
      refine ax_istore (lv' := [(4, .int 0), (0, .ref a0), (1, .ref a1), (2, .int x2), (3, .int x3)]) O d_Co_build_57 (by decide) rfl ?_
      refine ax_sub [1, 2, 3, 4, 0] rfl ?_
      exact cb_Co_build_L59 O _ _ hE n0 n0 _ _ _ _ _ _ hf
    · rw [if_neg q7] at hf
      refine ax_aload_n O d_Co_build_24 rfl 0 rfl ?_
      obtain ⟨fr31, r31, cr31, kr31, hf⟩ := mgr_some hf
      refine ax_get O fg_Co_15 cr31 kr31 d_Co_build_25 ?_
      refine ax_iload O d_Co_build_28 4 rfl ?_
      refine ax_aload_n O d_Co_build_30 rfl 0 rfl ?_
      obtain ⟨fr32, r32, cr32, kr32, hf⟩ := mgr_some hf
      refine ax_get O fg_Co_15 cr32 kr32 d_Co_build_31 ?_
      refine ax_iload O d_Co_build_34 4 rfl ?_
      refine ax_iconst (v := 1) O d_Co_build_36 (by decide) ?_
      refine ax_isub O d_Co_build_37 ?_
      obtain ⟨nv33, fv33, v33, cv33, iv33, kv33, hf⟩ := mai_some hf
      refine ax_iald O cv33 iv33 kv33 d_Co_build_38 ?_
      refine ax_aload_n O d_Co_build_39 rfl 0 rfl ?_
      obtain ⟨fr34, r34, cr34, kr34, hf⟩ := mgr_some hf
      refine ax_get O fg_Co_11 cr34 kr34 d_Co_build_40 ?_
      refine ax_iload O d_Co_build_43 4 rfl ?_
      refine ax_iconst (v := 1) O d_Co_build_45 (by decide) ?_
      refine ax_isub O d_Co_build_46 ?_
      obtain ⟨nv35, fv35, v35, cv35, iv35, kv35, hf⟩ := mai_some hf
      refine ax_iald O cv35 iv35 kv35 d_Co_build_47 ?_
      refine ax_iadd O d_Co_build_48 ?_
      obtain ⟨nh36, fh36, h36, ch36, ih36, eh36, hf⟩ := mas_some hf
      refine ax_iast O ch36 ih36 eh36 d_Co_build_49 ?_
      obtain ⟨v37, ev37, hf⟩ := mnm_some hf
      refine ax_iinc (j := 4) (v := v37) (lv' := [(4, .int v37), (0, .ref a0), (1, .ref a1), (2, .int x2), (3, .int x3)]) O d_Co_build_50 rfl (by rw [ev37]; rfl) (by decide) rfl ?_
      refine ax_goto (tgt := 17) O d_Co_build_53 (by decide) ?_
      refine ax_sub [1, 2, 3, 4, 0] rfl ?_
      exact ih _ _ _ _ _ _ hf
set_option maxHeartbeats 4000000 in
set_option maxRecDepth 100000 in
theorem cb_Co_build {X : mX} {ad : Nat → Nat} {ln : Launch} (O : mO X ad R_Co b_Co_build 6 (mR 2 46) ln) (r' : Unit) (h' : mH) (hE : mEnd X ad none none h') (n0 : Nat) (h0 : mH) (a0 : Nat) (a1 : Nat) (x2 : Int32) (x3 : Int32) (hf : f_Co_build n0 h0 a0 a1 x2 x3 = some (r', h')) : mAW X ad 0 0 0 [(0, .ref a0), (1, .ref a1), (2, .int x2), (3, .int x3)] [] h0 := by
  unfold f_Co_build at hf
  refine ax_aload_n O d_Co_build_0 rfl 0 rfl ?_
  refine ax_aload_n O d_Co_build_1 rfl 1 rfl ?_
  refine ax_iload_n O d_Co_build_2 rfl 2 rfl ?_
  refine ax_iload_n O d_Co_build_3 rfl 3 rfl ?_
  obtain ⟨fh3, ch3, hf⟩ := mis_some hf
  obtain ⟨u4, h3, mh3, hf⟩ := mcl_some hf
  refine ax_callV (As := [.ref a1, .int x2, .int x3]) (rest := []) O cw_Co_count (q := (R_Co, T_Co, 5)) rfl rfl in_Co_count se_Co_count lk_Co_34 ch3 (c_Co_count mh3) rfl ⟨rfl, rfl⟩ (by decide) (by decide) (Nat.le_of_ble_eq_true rfl) d_Co_build_4 ?_
  refine ax_aload_n O d_Co_build_7 rfl 0 rfl ?_
  obtain ⟨fr5, r5, cr5, kr5, hf⟩ := mgr_some hf
  refine ax_get O fg_Co_15 cr5 kr5 d_Co_build_8 ?_
  refine ax_iconst (v := 0) O d_Co_build_11 (by decide) ?_
  refine ax_iconst (v := 0) O d_Co_build_12 (by decide) ?_
  obtain ⟨nh6, fh6, h6, ch6, ih6, eh6, hf⟩ := mas_some hf
  refine ax_iast O ch6 ih6 eh6 d_Co_build_13 ?_
  refine ax_iconst (v := 1) O d_Co_build_14 (by decide) ?_
  refine ax_istore (lv' := [(4, .int 1), (0, .ref a0), (1, .ref a1), (2, .int x2), (3, .int x3)]) O d_Co_build_15 (by decide) rfl ?_
  refine ax_sub [1, 2, 3, 4, 0] rfl ?_
  exact cb_Co_build_L17 O _ _ hE n0 n0 _ _ _ _ _ _ hf
theorem c_Co_build {ln : Launch} {n0 : Nat} {h0 h' : mH} {a0 : Nat} {a1 : Nat} {x2 : Int32} {x3 : Int32} {r' : Unit} (hf : f_Co_build n0 h0 a0 a1 x2 x3 = some (r', h')) : mMet ln y_Co_build b_Co_build 6 none (mR 2 46) [.ref a0, .ref a1, .int x2, .int x3] h0 none h' := mMet_of (by decide +kernel) (Nat.le_of_ble_eq_true rfl) (fun X ad O hE => cb_Co_build O r' h' hE n0 h0 a0 a1 x2 x3 hf)
/-! ===== StreamFilters$Bytes.add(I)V ===== -/
theorem d_By_add_0 : decode b_By_add 0 = .ok (.aload_n 0, 1) := by decide +kernel
theorem d_By_add_1 : decode b_By_add 1 = .ok (.getfield 7, 3) := by decide +kernel
theorem d_By_add_4 : decode b_By_add 4 = .ok (.aload_n 0, 1) := by decide +kernel
theorem d_By_add_5 : decode b_By_add 5 = .ok (.getfield 19, 3) := by decide +kernel
theorem d_By_add_8 : decode b_By_add 8 = .ok (.arraylength, 1) := by decide +kernel
theorem d_By_add_9 : decode b_By_add 9 = .ok (.if_icmp .ge 24, 3) := by decide +kernel
theorem d_By_add_12 : decode b_By_add 12 = .ok (.aload_n 0, 1) := by decide +kernel
theorem d_By_add_13 : decode b_By_add 13 = .ok (.getfield 19, 3) := by decide +kernel
theorem d_By_add_16 : decode b_By_add 16 = .ok (.aload_n 0, 1) := by decide +kernel
theorem d_By_add_17 : decode b_By_add 17 = .ok (.getfield 7, 3) := by decide +kernel
theorem d_By_add_20 : decode b_By_add 20 = .ok (.iload_n 1, 1) := by decide +kernel
theorem d_By_add_21 : decode b_By_add 21 = .ok (.i2b, 1) := by decide +kernel
theorem d_By_add_22 : decode b_By_add 22 = .ok (.bastore, 1) := by decide +kernel
theorem d_By_add_23 : decode b_By_add 23 = .ok (.aload_n 0, 1) := by decide +kernel
theorem d_By_add_24 : decode b_By_add 24 = .ok (.dup, 1) := by decide +kernel
theorem d_By_add_25 : decode b_By_add 25 = .ok (.getfield 7, 3) := by decide +kernel
theorem d_By_add_28 : decode b_By_add 28 = .ok (.iconst 1, 1) := by decide +kernel
theorem d_By_add_29 : decode b_By_add 29 = .ok (.iadd, 1) := by decide +kernel
theorem d_By_add_30 : decode b_By_add 30 = .ok (.putfield 7, 3) := by decide +kernel
theorem d_By_add_33 : decode b_By_add 33 = .ok (.return_, 1) := by decide +kernel
noncomputable def f_By_add  (n0 : Nat) (h0 : mH) (a0 : Nat) (x1 : Int32) : Option (Unit × mH) :=
  mgi h0 a0 1 1 fun v1 =>
  mgr h0 a0 1 0 fun r2 =>
  mln h0 r2 .byte fun v3 =>
  if v3 ≤ v1 then
    some ((), h0)
  else
    mgr h0 a0 1 0 fun r5 =>
    mgi h0 a0 1 1 fun v6 =>
    mas h0 r5 .byte v6 (x1.toInt8.toInt32).toInt8.toInt32 fun h7 =>
    mgi h7 a0 1 1 fun v8 =>
    mpt h7 a0 1 1 (.int (v8 + 1)) fun h9 =>
    some ((), h9)
set_option maxHeartbeats 4000000 in
set_option maxRecDepth 100000 in
theorem cb_By_add {X : mX} {ad : Nat → Nat} {ln : Launch} (O : mO X ad R_By b_By_add 2 (mR 0 0) ln) (r' : Unit) (h' : mH) (hE : mEnd X ad none none h') (n0 : Nat) (h0 : mH) (a0 : Nat) (x1 : Int32) (hf : f_By_add n0 h0 a0 x1 = some (r', h')) : mAW X ad 0 0 0 [(0, .ref a0), (1, .int x1)] [] h0 := by
  unfold f_By_add at hf
  refine ax_aload_n O d_By_add_0 rfl 0 rfl ?_
  obtain ⟨fv1, v1, cv1, kv1, hf⟩ := mgi_some hf
  refine ax_get O fg_By_7 cv1 kv1 d_By_add_1 ?_
  refine ax_aload_n O d_By_add_4 rfl 0 rfl ?_
  obtain ⟨fr2, r2, cr2, kr2, hf⟩ := mgr_some hf
  refine ax_get O fg_By_19 cr2 kr2 d_By_add_5 ?_
  obtain ⟨xv3, v3, cv3, kv3, hf⟩ := mln_some hf
  refine ax_alen O (by decide) cv3 kv3 d_By_add_8 ?_
  refine ax_icmp_ge (tgt := 33) O d_By_add_9 (by decide) (fun q4 => ?_) (fun q4 => ?_)
  · rw [if_pos q4] at hf
    exact ax_vretE O hE hf d_By_add_33
  · rw [if_neg q4] at hf
    refine ax_aload_n O d_By_add_12 rfl 0 rfl ?_
    obtain ⟨fr5, r5, cr5, kr5, hf⟩ := mgr_some hf
    refine ax_get O fg_By_19 cr5 kr5 d_By_add_13 ?_
    refine ax_aload_n O d_By_add_16 rfl 0 rfl ?_
    obtain ⟨fv6, v6, cv6, kv6, hf⟩ := mgi_some hf
    refine ax_get O fg_By_7 cv6 kv6 d_By_add_17 ?_
    refine ax_iload_n O d_By_add_20 rfl 1 rfl ?_
    refine ax_i2b O d_By_add_21 ?_
    obtain ⟨nh7, fh7, h7, ch7, ih7, eh7, hf⟩ := mas_some hf
    refine ax_bast O ch7 ih7 eh7 d_By_add_22 ?_
    refine ax_aload_n O d_By_add_23 rfl 0 rfl ?_
    refine ax_dup O d_By_add_24 rfl ?_
    obtain ⟨fv8, v8, cv8, kv8, hf⟩ := mgi_some hf
    refine ax_get O fg_By_7 cv8 kv8 d_By_add_25 ?_
    refine ax_iconst (v := 1) O d_By_add_28 (by decide) ?_
    refine ax_iadd O d_By_add_29 ?_
    obtain ⟨fh9, h9, ch9, kh9, eh9, hf⟩ := mpt_some hf
    refine ax_put (v := .int (v8 + 1)) O fp_By_7 ch9 kh9 eh9 rfl rfl d_By_add_30 ?_
    exact ax_vretE O hE hf d_By_add_33
theorem c_By_add {ln : Launch} {n0 : Nat} {h0 h' : mH} {a0 : Nat} {x1 : Int32} {r' : Unit} (hf : f_By_add n0 h0 a0 x1 = some (r', h')) : mMet ln y_By_add b_By_add 2 none (mR 0 0) [.ref a0, .int x1] h0 none h' := mMet_of (by decide +kernel) (Nat.le_of_ble_eq_true rfl) (fun X ad O hE => cb_By_add O r' h' hE n0 h0 a0 x1 hf)
/-! ===== StreamFilters$Bytes.addFour(I)V ===== -/
theorem d_By_addFour_0 : decode b_By_addFour 0 = .ok (.bipush 24, 2) := by decide +kernel
theorem d_By_addFour_2 : decode b_By_addFour 2 = .ok (.istore_n 2, 1) := by decide +kernel
theorem d_By_addFour_3 : decode b_By_addFour 3 = .ok (.iload_n 2, 1) := by decide +kernel
theorem d_By_addFour_4 : decode b_By_addFour 4 = .ok (.ifCond .lt 16, 3) := by decide +kernel
theorem d_By_addFour_7 : decode b_By_addFour 7 = .ok (.aload_n 0, 1) := by decide +kernel
theorem d_By_addFour_8 : decode b_By_addFour 8 = .ok (.iload_n 1, 1) := by decide +kernel
theorem d_By_addFour_9 : decode b_By_addFour 9 = .ok (.iload_n 2, 1) := by decide +kernel
theorem d_By_addFour_10 : decode b_By_addFour 10 = .ok (.iushr, 1) := by decide +kernel
theorem d_By_addFour_11 : decode b_By_addFour 11 = .ok (.invokevirtual 23, 3) := by decide +kernel
theorem d_By_addFour_14 : decode b_By_addFour 14 = .ok (.iinc 2 (-8), 3) := by decide +kernel
theorem d_By_addFour_17 : decode b_By_addFour 17 = .ok (.goto (-14), 3) := by decide +kernel
theorem d_By_addFour_20 : decode b_By_addFour 20 = .ok (.return_, 1) := by decide +kernel
noncomputable def f_By_addFour_L3  (n0 : Nat) : Nat → mH → Nat → Int32 → Int32 → Option (Unit × mH)
  | 0, _, _, _, _ => none
  | n + 1, h0, a0, x1, x2 =>
    if x2 < 0 then
      some ((), h0)
    else
      mis h0 a0 1 <|
      mcl (f_By_add n0 h0 a0 ((x1.toUInt32 >>> (x2.toUInt32 &&& Int32.toUInt32 31)).toInt32)) fun _ h4 =>
      mnm (x2 + (-8)) fun v6 =>
      (f_By_addFour_L3 n0 n) h4 a0 x1 v6
noncomputable def f_By_addFour  (n0 : Nat) (h0 : mH) (a0 : Nat) (x1 : Int32) : Option (Unit × mH) :=
  f_By_addFour_L3 n0 n0 h0 a0 x1 24
set_option maxHeartbeats 4000000 in
set_option maxRecDepth 100000 in
theorem cb_By_addFour_L3 {X : mX} {ad : Nat → Nat} {ln : Launch} (O : mO X ad R_By b_By_addFour 3 (mR 1 21) ln) (r' : Unit) (h' : mH) (hE : mEnd X ad none none h') (n0 : Nat) : ∀ (n : Nat) (h0 : mH) (a0 : Nat) (x1 : Int32) (x2 : Int32), f_By_addFour_L3 n0 n h0 a0 x1 x2 = some (r', h') → mAW X ad 0 0 3 [(0, .ref a0), (1, .int x1), (2, .int x2)] [] h0 := by
  intro n
  induction n with
  | zero =>
    intro h0 a0 x1 x2 hf
    rw [f_By_addFour_L3.eq_1] at hf
    cases hf
  | succ n ih =>
    intro h0 a0 x1 x2 hf
    rw [f_By_addFour_L3.eq_2] at hf
    refine ax_iload_n O d_By_addFour_3 rfl 2 rfl ?_
    refine ax_if_lt (tgt := 20) O d_By_addFour_4 (by decide) (fun q1 => ?_) (fun q1 => ?_)
    · rw [if_pos q1] at hf
      exact ax_vretE O hE hf d_By_addFour_20
    · rw [if_neg q1] at hf
      refine ax_aload_n O d_By_addFour_7 rfl 0 rfl ?_
      refine ax_iload_n O d_By_addFour_8 rfl 1 rfl ?_
      refine ax_iload_n O d_By_addFour_9 rfl 2 rfl ?_
      refine ax_iushr O d_By_addFour_10 ?_
      obtain ⟨fh4, ch4, hf⟩ := mis_some hf
      obtain ⟨u5, h4, mh4, hf⟩ := mcl_some hf
      refine ax_callV (As := [.int ((x1.toUInt32 >>> (x2.toUInt32 &&& Int32.toUInt32 31)).toInt32)]) (rest := []) O cw_By_add (q := (R_By, T_By, 2)) rfl rfl in_By_add se_By_add lk_By_23 ch4 (c_By_add mh4) rfl ⟨rfl, rfl⟩ (by decide) (by decide) (Nat.le_of_ble_eq_true rfl) d_By_addFour_11 ?_
      obtain ⟨v6, ev6, hf⟩ := mnm_some hf
      refine ax_iinc (j := 2) (v := v6) (lv' := [(2, .int v6), (0, .ref a0), (1, .int x1)]) O d_By_addFour_14 rfl (by rw [ev6]; rfl) (by decide) rfl ?_
      refine ax_goto (tgt := 3) O d_By_addFour_17 (by decide) ?_
      refine ax_sub [1, 2, 0] rfl ?_
      exact ih _ _ _ _ hf
set_option maxHeartbeats 4000000 in
set_option maxRecDepth 100000 in
theorem cb_By_addFour {X : mX} {ad : Nat → Nat} {ln : Launch} (O : mO X ad R_By b_By_addFour 3 (mR 1 21) ln) (r' : Unit) (h' : mH) (hE : mEnd X ad none none h') (n0 : Nat) (h0 : mH) (a0 : Nat) (x1 : Int32) (hf : f_By_addFour n0 h0 a0 x1 = some (r', h')) : mAW X ad 0 0 0 [(0, .ref a0), (1, .int x1)] [] h0 := by
  unfold f_By_addFour at hf
  refine ax_bipush (v := 24) O d_By_addFour_0 (by decide) ?_
  refine ax_istore_n (lv' := [(2, .int 24), (0, .ref a0), (1, .int x1)]) O d_By_addFour_2 rfl (by decide) rfl ?_
  refine ax_sub [1, 2, 0] rfl ?_
  exact cb_By_addFour_L3 O _ _ hE n0 n0 _ _ _ _ hf
theorem c_By_addFour {ln : Launch} {n0 : Nat} {h0 h' : mH} {a0 : Nat} {x1 : Int32} {r' : Unit} (hf : f_By_addFour n0 h0 a0 x1 = some (r', h')) : mMet ln y_By_addFour b_By_addFour 3 none (mR 1 21) [.ref a0, .int x1] h0 none h' := mMet_of (by decide +kernel) (Nat.le_of_ble_eq_true rfl) (fun X ad O hE => cb_By_addFour O r' h' hE n0 h0 a0 x1 hf)
/-! ===== StreamFilters.feed(IIIII)I ===== -/
theorem d_SF_feed_0 : decode b_SF_feed 0 = .ok (.aload_n 0, 1) := by decide +kernel
theorem d_SF_feed_1 : decode b_SF_feed 1 = .ok (.getfield 14, 3) := by decide +kernel
theorem d_SF_feed_4 : decode b_SF_feed 4 = .ok (.getfield 97, 3) := by decide +kernel
theorem d_SF_feed_7 : decode b_SF_feed 7 = .ok (.bipush 20, 2) := by decide +kernel
theorem d_SF_feed_9 : decode b_SF_feed 9 = .ok (.iadd, 1) := by decide +kernel
theorem d_SF_feed_10 : decode b_SF_feed 10 = .ok (.sipush 16384, 3) := by decide +kernel
theorem d_SF_feed_13 : decode b_SF_feed 13 = .ok (.if_icmp .le 5, 3) := by decide +kernel
theorem d_SF_feed_16 : decode b_SF_feed 16 = .ok (.iconst (-1), 1) := by decide +kernel
theorem d_SF_feed_17 : decode b_SF_feed 17 = .ok (.ireturn, 1) := by decide +kernel
theorem d_SF_feed_18 : decode b_SF_feed 18 = .ok (.aload_n 0, 1) := by decide +kernel
theorem d_SF_feed_19 : decode b_SF_feed 19 = .ok (.getfield 14, 3) := by decide +kernel
theorem d_SF_feed_22 : decode b_SF_feed 22 = .ok (.iload_n 1, 1) := by decide +kernel
theorem d_SF_feed_23 : decode b_SF_feed 23 = .ok (.invokevirtual 100, 3) := by decide +kernel
theorem d_SF_feed_26 : decode b_SF_feed 26 = .ok (.aload_n 0, 1) := by decide +kernel
theorem d_SF_feed_27 : decode b_SF_feed 27 = .ok (.getfield 14, 3) := by decide +kernel
theorem d_SF_feed_30 : decode b_SF_feed 30 = .ok (.iload_n 2, 1) := by decide +kernel
theorem d_SF_feed_31 : decode b_SF_feed 31 = .ok (.invokevirtual 100, 3) := by decide +kernel
theorem d_SF_feed_34 : decode b_SF_feed 34 = .ok (.aload_n 0, 1) := by decide +kernel
theorem d_SF_feed_35 : decode b_SF_feed 35 = .ok (.getfield 14, 3) := by decide +kernel
theorem d_SF_feed_38 : decode b_SF_feed 38 = .ok (.iload_n 3, 1) := by decide +kernel
theorem d_SF_feed_39 : decode b_SF_feed 39 = .ok (.invokevirtual 100, 3) := by decide +kernel
theorem d_SF_feed_42 : decode b_SF_feed 42 = .ok (.aload_n 0, 1) := by decide +kernel
theorem d_SF_feed_43 : decode b_SF_feed 43 = .ok (.getfield 14, 3) := by decide +kernel
theorem d_SF_feed_46 : decode b_SF_feed 46 = .ok (.iload 4, 2) := by decide +kernel
theorem d_SF_feed_48 : decode b_SF_feed 48 = .ok (.invokevirtual 100, 3) := by decide +kernel
theorem d_SF_feed_51 : decode b_SF_feed 51 = .ok (.aload_n 0, 1) := by decide +kernel
theorem d_SF_feed_52 : decode b_SF_feed 52 = .ok (.getfield 14, 3) := by decide +kernel
theorem d_SF_feed_55 : decode b_SF_feed 55 = .ok (.iload 5, 2) := by decide +kernel
theorem d_SF_feed_57 : decode b_SF_feed 57 = .ok (.invokevirtual 100, 3) := by decide +kernel
theorem d_SF_feed_60 : decode b_SF_feed 60 = .ok (.aload_n 0, 1) := by decide +kernel
theorem d_SF_feed_61 : decode b_SF_feed 61 = .ok (.getfield 14, 3) := by decide +kernel
theorem d_SF_feed_64 : decode b_SF_feed 64 = .ok (.getfield 97, 3) := by decide +kernel
theorem d_SF_feed_67 : decode b_SF_feed 67 = .ok (.ireturn, 1) := by decide +kernel
noncomputable def f_SF_feed  (n0 : Nat) (h0 : mH) (a0 : Nat) (x1 : Int32) (x2 : Int32) (x3 : Int32) (x4 : Int32) (x5 : Int32) : Option (Int32 × mH) :=
  mgr h0 a0 0 0 fun r1 =>
  mgi h0 r1 1 1 fun v2 =>
  if (v2 + 20) ≤ 16384 then
    mgr h0 a0 0 0 fun r4 =>
    mis h0 r4 1 <|
    mcl (f_By_addFour n0 h0 r4 x1) fun _ h7 =>
    mgr h7 a0 0 0 fun r9 =>
    mis h7 r9 1 <|
    mcl (f_By_addFour n0 h7 r9 x2) fun _ h12 =>
    mgr h12 a0 0 0 fun r14 =>
    mis h12 r14 1 <|
    mcl (f_By_addFour n0 h12 r14 x3) fun _ h17 =>
    mgr h17 a0 0 0 fun r19 =>
    mis h17 r19 1 <|
    mcl (f_By_addFour n0 h17 r19 x4) fun _ h22 =>
    mgr h22 a0 0 0 fun r24 =>
    mis h22 r24 1 <|
    mcl (f_By_addFour n0 h22 r24 x5) fun _ h27 =>
    mgr h27 a0 0 0 fun r29 =>
    mgi h27 r29 1 1 fun v30 =>
    some (v30, h27)
  else
    some ((-1), h0)
set_option maxHeartbeats 4000000 in
set_option maxRecDepth 100000 in
theorem cb_SF_feed {X : mX} {ad : Nat → Nat} {ln : Launch} (O : mO X ad R_SF b_SF_feed 6 (mR 2 43) ln) (r' : Int32) (h' : mH) (hE : mEnd X ad (some .int) (some (.int r')) h') (n0 : Nat) (h0 : mH) (a0 : Nat) (x1 : Int32) (x2 : Int32) (x3 : Int32) (x4 : Int32) (x5 : Int32) (hf : f_SF_feed n0 h0 a0 x1 x2 x3 x4 x5 = some (r', h')) : mAW X ad 0 0 0 [(0, .ref a0), (1, .int x1), (2, .int x2), (3, .int x3), (4, .int x4), (5, .int x5)] [] h0 := by
  unfold f_SF_feed at hf
  refine ax_aload_n O d_SF_feed_0 rfl 0 rfl ?_
  obtain ⟨fr1, r1, cr1, kr1, hf⟩ := mgr_some hf
  refine ax_get O fg_SF_14 cr1 kr1 d_SF_feed_1 ?_
  obtain ⟨fv2, v2, cv2, kv2, hf⟩ := mgi_some hf
  refine ax_get O fg_SF_97 cv2 kv2 d_SF_feed_4 ?_
  refine ax_bipush (v := 20) O d_SF_feed_7 (by decide) ?_
  refine ax_iadd O d_SF_feed_9 ?_
  refine ax_sipush (v := 16384) O d_SF_feed_10 (by decide) ?_
  refine ax_icmp_le (tgt := 18) O d_SF_feed_13 (by decide) (fun q3 => ?_) (fun q3 => ?_)
  · rw [if_pos q3] at hf
    refine ax_aload_n O d_SF_feed_18 rfl 0 rfl ?_
    obtain ⟨fr4, r4, cr4, kr4, hf⟩ := mgr_some hf
    refine ax_get O fg_SF_14 cr4 kr4 d_SF_feed_19 ?_
    refine ax_iload_n O d_SF_feed_22 rfl 1 rfl ?_
    obtain ⟨fh7, ch7, hf⟩ := mis_some hf
    obtain ⟨u8, h7, mh7, hf⟩ := mcl_some hf
    refine ax_callV (As := [.int x1]) (rest := []) O cw_By_addFour (q := (R_By, T_By, 2)) rfl rfl in_By_addFour se_By_addFour lk_SF_100 ch7 (c_By_addFour mh7) rfl ⟨rfl, rfl⟩ (by decide) (by decide) (Nat.le_of_ble_eq_true rfl) d_SF_feed_23 ?_
    refine ax_aload_n O d_SF_feed_26 rfl 0 rfl ?_
    obtain ⟨fr9, r9, cr9, kr9, hf⟩ := mgr_some hf
    refine ax_get O fg_SF_14 cr9 kr9 d_SF_feed_27 ?_
    refine ax_iload_n O d_SF_feed_30 rfl 2 rfl ?_
    obtain ⟨fh12, ch12, hf⟩ := mis_some hf
    obtain ⟨u13, h12, mh12, hf⟩ := mcl_some hf
    refine ax_callV (As := [.int x2]) (rest := []) O cw_By_addFour (q := (R_By, T_By, 2)) rfl rfl in_By_addFour se_By_addFour lk_SF_100 ch12 (c_By_addFour mh12) rfl ⟨rfl, rfl⟩ (by decide) (by decide) (Nat.le_of_ble_eq_true rfl) d_SF_feed_31 ?_
    refine ax_aload_n O d_SF_feed_34 rfl 0 rfl ?_
    obtain ⟨fr14, r14, cr14, kr14, hf⟩ := mgr_some hf
    refine ax_get O fg_SF_14 cr14 kr14 d_SF_feed_35 ?_
    refine ax_iload_n O d_SF_feed_38 rfl 3 rfl ?_
    obtain ⟨fh17, ch17, hf⟩ := mis_some hf
    obtain ⟨u18, h17, mh17, hf⟩ := mcl_some hf
    refine ax_callV (As := [.int x3]) (rest := []) O cw_By_addFour (q := (R_By, T_By, 2)) rfl rfl in_By_addFour se_By_addFour lk_SF_100 ch17 (c_By_addFour mh17) rfl ⟨rfl, rfl⟩ (by decide) (by decide) (Nat.le_of_ble_eq_true rfl) d_SF_feed_39 ?_
    refine ax_aload_n O d_SF_feed_42 rfl 0 rfl ?_
    obtain ⟨fr19, r19, cr19, kr19, hf⟩ := mgr_some hf
    refine ax_get O fg_SF_14 cr19 kr19 d_SF_feed_43 ?_
    refine ax_iload O d_SF_feed_46 4 rfl ?_
    obtain ⟨fh22, ch22, hf⟩ := mis_some hf
    obtain ⟨u23, h22, mh22, hf⟩ := mcl_some hf
    refine ax_callV (As := [.int x4]) (rest := []) O cw_By_addFour (q := (R_By, T_By, 2)) rfl rfl in_By_addFour se_By_addFour lk_SF_100 ch22 (c_By_addFour mh22) rfl ⟨rfl, rfl⟩ (by decide) (by decide) (Nat.le_of_ble_eq_true rfl) d_SF_feed_48 ?_
    refine ax_aload_n O d_SF_feed_51 rfl 0 rfl ?_
    obtain ⟨fr24, r24, cr24, kr24, hf⟩ := mgr_some hf
    refine ax_get O fg_SF_14 cr24 kr24 d_SF_feed_52 ?_
    refine ax_iload O d_SF_feed_55 5 rfl ?_
    obtain ⟨fh27, ch27, hf⟩ := mis_some hf
    obtain ⟨u28, h27, mh27, hf⟩ := mcl_some hf
    refine ax_callV (As := [.int x5]) (rest := []) O cw_By_addFour (q := (R_By, T_By, 2)) rfl rfl in_By_addFour se_By_addFour lk_SF_100 ch27 (c_By_addFour mh27) rfl ⟨rfl, rfl⟩ (by decide) (by decide) (Nat.le_of_ble_eq_true rfl) d_SF_feed_57 ?_
    refine ax_aload_n O d_SF_feed_60 rfl 0 rfl ?_
    obtain ⟨fr29, r29, cr29, kr29, hf⟩ := mgr_some hf
    refine ax_get O fg_SF_14 cr29 kr29 d_SF_feed_61 ?_
    obtain ⟨fv30, v30, cv30, kv30, hf⟩ := mgi_some hf
    refine ax_get O fg_SF_97 cv30 kv30 d_SF_feed_64 ?_
    exact ax_retE O hE hf rfl d_SF_feed_67
  · rw [if_neg q3] at hf
    refine ax_iconst (v := (-1)) O d_SF_feed_16 (by decide) ?_
    exact ax_retE O hE hf rfl d_SF_feed_17
theorem c_SF_feed {ln : Launch} {n0 : Nat} {h0 h' : mH} {a0 : Nat} {x1 : Int32} {x2 : Int32} {x3 : Int32} {x4 : Int32} {x5 : Int32} {r' : Int32} (hf : f_SF_feed n0 h0 a0 x1 x2 x3 x4 x5 = some (r', h')) : mMet ln y_SF_feed b_SF_feed 6 (some .int) (mR 2 43) [.ref a0, .int x1, .int x2, .int x3, .int x4, .int x5] h0 (some (.int r')) h' := mMet_of (by decide +kernel) (Nat.le_of_ble_eq_true rfl) (fun X ad O hE => cb_SF_feed O r' h' hE n0 h0 a0 x1 x2 x3 x4 x5 hf)
/-! ===== StreamFilters$Bytes.byteAt(I)I ===== -/
theorem d_By_byteAt_0 : decode b_By_byteAt 0 = .ok (.iload_n 1, 1) := by decide +kernel
theorem d_By_byteAt_1 : decode b_By_byteAt 1 = .ok (.ifCond .lt 25, 3) := by decide +kernel
theorem d_By_byteAt_4 : decode b_By_byteAt 4 = .ok (.iload_n 1, 1) := by decide +kernel
theorem d_By_byteAt_5 : decode b_By_byteAt 5 = .ok (.aload_n 0, 1) := by decide +kernel
theorem d_By_byteAt_6 : decode b_By_byteAt 6 = .ok (.getfield 19, 3) := by decide +kernel
theorem d_By_byteAt_9 : decode b_By_byteAt 9 = .ok (.arraylength, 1) := by decide +kernel
theorem d_By_byteAt_10 : decode b_By_byteAt 10 = .ok (.if_icmp .ge 16, 3) := by decide +kernel
theorem d_By_byteAt_13 : decode b_By_byteAt 13 = .ok (.aload_n 0, 1) := by decide +kernel
theorem d_By_byteAt_14 : decode b_By_byteAt 14 = .ok (.getfield 19, 3) := by decide +kernel
theorem d_By_byteAt_17 : decode b_By_byteAt 17 = .ok (.iload_n 1, 1) := by decide +kernel
theorem d_By_byteAt_18 : decode b_By_byteAt 18 = .ok (.baload, 1) := by decide +kernel
theorem d_By_byteAt_19 : decode b_By_byteAt 19 = .ok (.sipush 255, 3) := by decide +kernel
theorem d_By_byteAt_22 : decode b_By_byteAt 22 = .ok (.iand, 1) := by decide +kernel
theorem d_By_byteAt_23 : decode b_By_byteAt 23 = .ok (.goto 4, 3) := by decide +kernel
theorem d_By_byteAt_26 : decode b_By_byteAt 26 = .ok (.iconst 0, 1) := by decide +kernel
theorem d_By_byteAt_27 : decode b_By_byteAt 27 = .ok (.ireturn, 1) := by decide +kernel
noncomputable def f_By_byteAt  (n0 : Nat) (h0 : mH) (a0 : Nat) (x1 : Int32) : Option (Int32 × mH) :=
  if x1 < 0 then
    some (0, h0)
  else
    mgr h0 a0 1 0 fun r2 =>
    mln h0 r2 .byte fun v3 =>
    if v3 ≤ x1 then
      some (0, h0)
    else
      mgr h0 a0 1 0 fun r5 =>
      mai h0 r5 .byte x1 fun v6 =>
      some (v6 &&& 255, h0)
set_option maxHeartbeats 4000000 in
set_option maxRecDepth 100000 in
theorem cb_By_byteAt {X : mX} {ad : Nat → Nat} {ln : Launch} (O : mO X ad R_By b_By_byteAt 2 (mR 0 0) ln) (r' : Int32) (h' : mH) (hE : mEnd X ad (some .int) (some (.int r')) h') (n0 : Nat) (h0 : mH) (a0 : Nat) (x1 : Int32) (hf : f_By_byteAt n0 h0 a0 x1 = some (r', h')) : mAW X ad 0 0 0 [(0, .ref a0), (1, .int x1)] [] h0 := by
  unfold f_By_byteAt at hf
  refine ax_iload_n O d_By_byteAt_0 rfl 1 rfl ?_
  refine ax_if_lt (tgt := 26) O d_By_byteAt_1 (by decide) (fun q1 => ?_) (fun q1 => ?_)
  · rw [if_pos q1] at hf
    refine ax_iconst (v := 0) O d_By_byteAt_26 (by decide) ?_
    exact ax_retE O hE hf rfl d_By_byteAt_27
  · rw [if_neg q1] at hf
    refine ax_iload_n O d_By_byteAt_4 rfl 1 rfl ?_
    refine ax_aload_n O d_By_byteAt_5 rfl 0 rfl ?_
    obtain ⟨fr2, r2, cr2, kr2, hf⟩ := mgr_some hf
    refine ax_get O fg_By_19 cr2 kr2 d_By_byteAt_6 ?_
    obtain ⟨xv3, v3, cv3, kv3, hf⟩ := mln_some hf
    refine ax_alen O (by decide) cv3 kv3 d_By_byteAt_9 ?_
    refine ax_icmp_ge (tgt := 26) O d_By_byteAt_10 (by decide) (fun q4 => ?_) (fun q4 => ?_)
    · rw [if_pos q4] at hf
      refine ax_iconst (v := 0) O d_By_byteAt_26 (by decide) ?_
      exact ax_retE O hE hf rfl d_By_byteAt_27
    · rw [if_neg q4] at hf
      refine ax_aload_n O d_By_byteAt_13 rfl 0 rfl ?_
      obtain ⟨fr5, r5, cr5, kr5, hf⟩ := mgr_some hf
      refine ax_get O fg_By_19 cr5 kr5 d_By_byteAt_14 ?_
      refine ax_iload_n O d_By_byteAt_17 rfl 1 rfl ?_
      obtain ⟨nv6, fv6, v6, cv6, iv6, kv6, hf⟩ := mai_some hf
      refine ax_bald O cv6 iv6 kv6 d_By_byteAt_18 ?_
      refine ax_sipush (v := 255) O d_By_byteAt_19 (by decide) ?_
      refine ax_iand O d_By_byteAt_22 ?_
      refine ax_goto (tgt := 27) O d_By_byteAt_23 (by decide) ?_
      exact ax_retE O hE hf rfl d_By_byteAt_27
theorem c_By_byteAt {ln : Launch} {n0 : Nat} {h0 h' : mH} {a0 : Nat} {x1 : Int32} {r' : Int32} (hf : f_By_byteAt n0 h0 a0 x1 = some (r', h')) : mMet ln y_By_byteAt b_By_byteAt 2 (some .int) (mR 0 0) [.ref a0, .int x1] h0 (some (.int r')) h' := mMet_of (by decide +kernel) (Nat.le_of_ble_eq_true rfl) (fun X ad O hE => cb_By_byteAt O r' h' hE n0 h0 a0 x1 hf)
/-! ===== StreamFilters$Bytes.change(II)V ===== -/
theorem d_By_change_0 : decode b_By_change 0 = .ok (.iload_n 1, 1) := by decide +kernel
theorem d_By_change_1 : decode b_By_change 1 = .ok (.ifCond .lt 20, 3) := by decide +kernel
theorem d_By_change_4 : decode b_By_change 4 = .ok (.iload_n 1, 1) := by decide +kernel
theorem d_By_change_5 : decode b_By_change 5 = .ok (.aload_n 0, 1) := by decide +kernel
theorem d_By_change_6 : decode b_By_change 6 = .ok (.getfield 19, 3) := by decide +kernel
theorem d_By_change_9 : decode b_By_change 9 = .ok (.arraylength, 1) := by decide +kernel
theorem d_By_change_10 : decode b_By_change 10 = .ok (.if_icmp .ge 11, 3) := by decide +kernel
theorem d_By_change_13 : decode b_By_change 13 = .ok (.aload_n 0, 1) := by decide +kernel
theorem d_By_change_14 : decode b_By_change 14 = .ok (.getfield 19, 3) := by decide +kernel
theorem d_By_change_17 : decode b_By_change 17 = .ok (.iload_n 1, 1) := by decide +kernel
theorem d_By_change_18 : decode b_By_change 18 = .ok (.iload_n 2, 1) := by decide +kernel
theorem d_By_change_19 : decode b_By_change 19 = .ok (.i2b, 1) := by decide +kernel
theorem d_By_change_20 : decode b_By_change 20 = .ok (.bastore, 1) := by decide +kernel
theorem d_By_change_21 : decode b_By_change 21 = .ok (.return_, 1) := by decide +kernel
noncomputable def f_By_change  (n0 : Nat) (h0 : mH) (a0 : Nat) (x1 : Int32) (x2 : Int32) : Option (Unit × mH) :=
  if x1 < 0 then
    some ((), h0)
  else
    mgr h0 a0 1 0 fun r2 =>
    mln h0 r2 .byte fun v3 =>
    if v3 ≤ x1 then
      some ((), h0)
    else
      mgr h0 a0 1 0 fun r5 =>
      mas h0 r5 .byte x1 (x2.toInt8.toInt32).toInt8.toInt32 fun h6 =>
      some ((), h6)
set_option maxHeartbeats 4000000 in
set_option maxRecDepth 100000 in
theorem cb_By_change {X : mX} {ad : Nat → Nat} {ln : Launch} (O : mO X ad R_By b_By_change 3 (mR 0 0) ln) (r' : Unit) (h' : mH) (hE : mEnd X ad none none h') (n0 : Nat) (h0 : mH) (a0 : Nat) (x1 : Int32) (x2 : Int32) (hf : f_By_change n0 h0 a0 x1 x2 = some (r', h')) : mAW X ad 0 0 0 [(0, .ref a0), (1, .int x1), (2, .int x2)] [] h0 := by
  unfold f_By_change at hf
  refine ax_iload_n O d_By_change_0 rfl 1 rfl ?_
  refine ax_if_lt (tgt := 21) O d_By_change_1 (by decide) (fun q1 => ?_) (fun q1 => ?_)
  · rw [if_pos q1] at hf
    exact ax_vretE O hE hf d_By_change_21
  · rw [if_neg q1] at hf
    refine ax_iload_n O d_By_change_4 rfl 1 rfl ?_
    refine ax_aload_n O d_By_change_5 rfl 0 rfl ?_
    obtain ⟨fr2, r2, cr2, kr2, hf⟩ := mgr_some hf
    refine ax_get O fg_By_19 cr2 kr2 d_By_change_6 ?_
    obtain ⟨xv3, v3, cv3, kv3, hf⟩ := mln_some hf
    refine ax_alen O (by decide) cv3 kv3 d_By_change_9 ?_
    refine ax_icmp_ge (tgt := 21) O d_By_change_10 (by decide) (fun q4 => ?_) (fun q4 => ?_)
    · rw [if_pos q4] at hf
      exact ax_vretE O hE hf d_By_change_21
    · rw [if_neg q4] at hf
      refine ax_aload_n O d_By_change_13 rfl 0 rfl ?_
      obtain ⟨fr5, r5, cr5, kr5, hf⟩ := mgr_some hf
      refine ax_get O fg_By_19 cr5 kr5 d_By_change_14 ?_
      refine ax_iload_n O d_By_change_17 rfl 1 rfl ?_
      refine ax_iload_n O d_By_change_18 rfl 2 rfl ?_
      refine ax_i2b O d_By_change_19 ?_
      obtain ⟨nh6, fh6, h6, ch6, ih6, eh6, hf⟩ := mas_some hf
      refine ax_bast O ch6 ih6 eh6 d_By_change_20 ?_
      exact ax_vretE O hE hf d_By_change_21
theorem c_By_change {ln : Launch} {n0 : Nat} {h0 h' : mH} {a0 : Nat} {x1 : Int32} {x2 : Int32} {r' : Unit} (hf : f_By_change n0 h0 a0 x1 x2 = some (r', h')) : mMet ln y_By_change b_By_change 3 none (mR 0 0) [.ref a0, .int x1, .int x2] h0 none h' := mMet_of (by decide +kernel) (Nat.le_of_ble_eq_true rfl) (fun X ad O hE => cb_By_change O r' h' hE n0 h0 a0 x1 x2 hf)
end
