theorem wd_36 : Cond.methodLink R_By 1 Lib.objectInit ∈ mGood := mg_of (i := 91) (by decide +kernel) rfl
theorem wd_37 : Cond.methodLink R_By 13 Lib.Math.max.name ∈ mGood := mg_of (i := 92) (by decide +kernel) rfl
theorem wd_38 : Cond.arrayClass .byte ∈ mGood := mg_of (i := 108) (by decide +kernel) rfl
theorem wd_39 : Cond.methodLink R_Pa 3 Lib.objectInit ∈ mGood := mg_of (i := 117) (by decide +kernel) rfl
theorem wd_40 : Cond.methodLink R_Un 1 Lib.objectInit ∈ mGood := mg_of (i := 155) (by decide +kernel) rfl
theorem wd_41 : Cond.methodLink R_Co 3 Lib.objectInit ∈ mGood := mg_of (i := 161) (by decide +kernel) rfl
theorem wd_42 : Cond.arrayClass .int ∈ mGood := mg_of (i := 179) (by decide +kernel) rfl
theorem wd_43 : Cond.methodLink R_Li 3 Lib.objectInit ∈ mGood := mg_of (i := 265) (by decide +kernel) rfl
theorem wd_44 : Cond.methodLink R_SF 1 Lib.objectInit ∈ mGood := mg_of (i := 83) (by decide +kernel) rfl
theorem wd_45 : Cond.classLink R_SF 18 "StreamFilters$Link" ∈ mGood := mg_of (i := 109) (by decide +kernel) rfl
theorem wd_46 : Cond.constant R_SF 28 65536 ∈ mGood := mg_of (i := 111) (by decide +kernel) rfl
theorem wd_47 : Cond.methodLink R_Mo 1 Lib.objectInit ∈ mGood := mg_of (i := 812) (by decide +kernel) rfl
theorem fg_SF_74 : mFg R_SF 74 0 10 := ⟨R_SF, T_SF, 17, rfl, by decide, in_SF, Or.inl (mg_of (i := 297) (by decide +kernel) rfl)⟩
theorem fg_SF_20 : mFg R_SF 20 0 1 := ⟨R_SF, T_SF, 17, rfl, by decide, in_SF, Or.inl (mg_of (i := 288) (by decide +kernel) rfl)⟩
theorem fp_SF_29 : mFp R_SF 29 0 3 .int false := ⟨R_SF, T_SF, 17, ty_SF, rfl, by decide, in_SF, Or.inl (mg_of (i := 290) (by decide +kernel) rfl), tyok_SF, nm_SF, rfl, rfl, fun h => absurd h (by decide)⟩
theorem fp_SF_80 : mFp R_SF 80 0 12 (.object "StreamFilters$Bytes") false := ⟨R_SF, T_SF, 17, ty_SF, rfl, by decide, in_SF, Or.inl (mg_of (i := 299) (by decide +kernel) rfl), tyok_SF, nm_SF, rfl, rfl, fun h => absurd h (by decide)⟩
theorem fp_SF_83 : mFp R_SF 83 0 13 .boolean false := ⟨R_SF, T_SF, 17, ty_SF, rfl, by decide, in_SF, Or.inl (mg_of (i := 300) (by decide +kernel) rfl), tyok_SF, nm_SF, rfl, rfl, fun h => absurd h (by decide)⟩
theorem lk_Pa_11 : mLk R_Pa 11 y_By_init := Or.inl (mg_of (i := 119) (by decide +kernel) rfl)
theorem lk_Fl_3 : mLk R_Fl 3 y_Un_init := Or.inr ⟨"StreamFilters", List.mem_of_getElem? (i := 13) (by decide +kernel)⟩
theorem lk_Fl_13 : mLk R_Fl 13 y_Co_init := Or.inl (mg_of (i := 158) (by decide +kernel) rfl)
theorem lk_Lz_3 : mLk R_Lz 3 y_Un_init := Or.inr ⟨"StreamFilters", List.mem_of_getElem? (i := 15) (by decide +kernel)⟩
theorem lk_T8_3 : mLk R_T8 3 y_Un_init := Or.inr ⟨"StreamFilters", List.mem_of_getElem? (i := 17) (by decide +kernel)⟩
theorem lk_Hx_3 : mLk R_Hx 3 y_Un_init := Or.inr ⟨"StreamFilters", List.mem_of_getElem? (i := 19) (by decide +kernel)⟩
theorem lk_Le_3 : mLk R_Le 3 y_Un_init := Or.inr ⟨"StreamFilters", List.mem_of_getElem? (i := 21) (by decide +kernel)⟩
theorem lk_SF_11 : mLk R_SF 11 y_By_init := Or.inl (mg_of (i := 88) (by decide +kernel) rfl)
theorem lk_SF_34 : mLk R_SF 34 y_Pa_init := Or.inr ⟨"StreamFilters", List.mem_of_getElem? (i := 7) (by decide +kernel)⟩
theorem lk_SF_41 : mLk R_SF 41 y_Fl_init := Or.inl (mg_of (i := 149) (by decide +kernel) rfl)
theorem lk_SF_48 : mLk R_SF 48 y_Lz_init := Or.inr ⟨"StreamFilters", List.mem_of_getElem? (i := 14) (by decide +kernel)⟩
theorem lk_SF_55 : mLk R_SF 55 y_T8_init := Or.inr ⟨"StreamFilters", List.mem_of_getElem? (i := 16) (by decide +kernel)⟩
theorem lk_SF_62 : mLk R_SF 62 y_Hx_init := Or.inr ⟨"StreamFilters", List.mem_of_getElem? (i := 18) (by decide +kernel)⟩
theorem lk_SF_69 : mLk R_SF 69 y_Le_init := Or.inr ⟨"StreamFilters", List.mem_of_getElem? (i := 20) (by decide +kernel)⟩
theorem lk_SF_96 : mLk R_SF 96 y_Li_init := Or.inr ⟨"StreamFilters", List.mem_of_getElem? (i := 22) (by decide +kernel)⟩
theorem fq_By_19 : mFq R_By 19 1 0 (.array .byte) := ⟨R_By, T_By, 2, ty_By, rfl, by decide, in_By, mg_of (i := 95) (by decide +kernel) rfl, tyok_By, nm_By, rfl, rfl, rfl⟩
theorem fq_Co_11 : mFq R_Co 11 2 0 (.array .int) := ⟨R_Co, T_Co, 5, ty_Co, rfl, by decide, in_Co, mg_of (i := 163) (by decide +kernel) rfl, tyok_Co, nm_Co, rfl, rfl, rfl⟩
theorem fq_Co_15 : mFq R_Co 15 2 1 (.array .int) := ⟨R_Co, T_Co, 5, ty_Co, rfl, by decide, in_Co, mg_of (i := 164) (by decide +kernel) rfl, tyok_Co, nm_Co, rfl, rfl, rfl⟩
theorem fq_Co_31 : mFq R_Co 31 2 2 (.array .int) := ⟨R_Co, T_Co, 5, ty_Co, rfl, by decide, in_Co, mg_of (i := 165) (by decide +kernel) rfl, tyok_Co, nm_Co, rfl, rfl, rfl⟩
theorem fq_Fl_16 : mFq R_Fl 16 3 0 (.object "StreamFilters$Codes") := ⟨R_Fl, T_Fl, 6, ty_Fl, rfl, by decide, in_Fl, mg_of (i := 193) (by decide +kernel) rfl, tyok_Fl, nm_Fl, rfl, rfl, rfl⟩
theorem fq_Fl_20 : mFq R_Fl 20 3 1 (.object "StreamFilters$Codes") := ⟨R_Fl, T_Fl, 6, ty_Fl, rfl, by decide, in_Fl, mg_of (i := 194) (by decide +kernel) rfl, tyok_Fl, nm_Fl, rfl, rfl, rfl⟩
theorem fq_Fl_23 : mFq R_Fl 23 3 2 (.object "StreamFilters$Codes") := ⟨R_Fl, T_Fl, 6, ty_Fl, rfl, by decide, in_Fl, mg_of (i := 195) (by decide +kernel) rfl, tyok_Fl, nm_Fl, rfl, rfl, rfl⟩
theorem fq_Fl_26 : mFq R_Fl 26 3 3 (.object "StreamFilters$Codes") := ⟨R_Fl, T_Fl, 6, ty_Fl, rfl, by decide, in_Fl, mg_of (i := 196) (by decide +kernel) rfl, tyok_Fl, nm_Fl, rfl, rfl, rfl⟩
theorem fq_Fl_33 : mFq R_Fl 33 3 4 (.object "StreamFilters$Codes") := ⟨R_Fl, T_Fl, 6, ty_Fl, rfl, by decide, in_Fl, mg_of (i := 197) (by decide +kernel) rfl, tyok_Fl, nm_Fl, rfl, rfl, rfl⟩
theorem fq_Fl_36 : mFq R_Fl 36 3 5 (.array .int) := ⟨R_Fl, T_Fl, 6, ty_Fl, rfl, by decide, in_Fl, mg_of (i := 198) (by decide +kernel) rfl, tyok_Fl, nm_Fl, rfl, rfl, rfl⟩
theorem fq_Lz_11 : mFq R_Lz 11 7 0 (.array .int) := ⟨R_Lz, T_Lz, 5, ty_Lz, rfl, by decide, in_Lz, mg_of (i := 218) (by decide +kernel) rfl, tyok_Lz, nm_Lz, rfl, rfl, rfl⟩
theorem fq_Lz_15 : mFq R_Lz 15 7 1 (.array .int) := ⟨R_Lz, T_Lz, 5, ty_Lz, rfl, by decide, in_Lz, mg_of (i := 219) (by decide +kernel) rfl, tyok_Lz, nm_Lz, rfl, rfl, rfl⟩
theorem fq_SF_14 : mFq R_SF 14 0 0 (.object "StreamFilters$Bytes") := ⟨R_SF, T_SF, 17, ty_SF, rfl, by decide, in_SF, mg_of (i := 287) (by decide +kernel) rfl, tyok_SF, nm_SF, rfl, rfl, rfl⟩
theorem fq_SF_20 : mFq R_SF 20 0 1 (.array (.object "StreamFilters$Link")) := ⟨R_SF, T_SF, 17, ty_SF, rfl, by decide, in_SF, mg_of (i := 288) (by decide +kernel) rfl, tyok_SF, nm_SF, rfl, rfl, rfl⟩
theorem fq_SF_35 : mFq R_SF 35 0 4 (.object "StreamFilters$Pass") := ⟨R_SF, T_SF, 17, ty_SF, rfl, by decide, in_SF, mg_of (i := 291) (by decide +kernel) rfl, tyok_SF, nm_SF, rfl, rfl, rfl⟩
theorem fq_SF_42 : mFq R_SF 42 0 5 (.object "StreamFilters$Flate") := ⟨R_SF, T_SF, 17, ty_SF, rfl, by decide, in_SF, mg_of (i := 292) (by decide +kernel) rfl, tyok_SF, nm_SF, rfl, rfl, rfl⟩
theorem fq_SF_49 : mFq R_SF 49 0 6 (.object "StreamFilters$Lzw") := ⟨R_SF, T_SF, 17, ty_SF, rfl, by decide, in_SF, mg_of (i := 293) (by decide +kernel) rfl, tyok_SF, nm_SF, rfl, rfl, rfl⟩
theorem fq_SF_56 : mFq R_SF 56 0 7 (.object "StreamFilters$Text85") := ⟨R_SF, T_SF, 17, ty_SF, rfl, by decide, in_SF, mg_of (i := 294) (by decide +kernel) rfl, tyok_SF, nm_SF, rfl, rfl, rfl⟩
theorem fq_SF_63 : mFq R_SF 63 0 8 (.object "StreamFilters$Hexadecimal") := ⟨R_SF, T_SF, 17, ty_SF, rfl, by decide, in_SF, mg_of (i := 295) (by decide +kernel) rfl, tyok_SF, nm_SF, rfl, rfl, rfl⟩
theorem fq_SF_70 : mFq R_SF 70 0 9 (.object "StreamFilters$Lengths") := ⟨R_SF, T_SF, 17, ty_SF, rfl, by decide, in_SF, mg_of (i := 296) (by decide +kernel) rfl, tyok_SF, nm_SF, rfl, rfl, rfl⟩
theorem fq_SF_74 : mFq R_SF 74 0 10 (.object "StreamFilters$Bytes") := ⟨R_SF, T_SF, 17, ty_SF, rfl, by decide, in_SF, mg_of (i := 297) (by decide +kernel) rfl, tyok_SF, nm_SF, rfl, rfl, rfl⟩
theorem fq_SF_77 : mFq R_SF 77 0 11 (.object "StreamFilters$Bytes") := ⟨R_SF, T_SF, 17, ty_SF, rfl, by decide, in_SF, mg_of (i := 298) (by decide +kernel) rfl, tyok_SF, nm_SF, rfl, rfl, rfl⟩
theorem fq_Mo_7 : mFq R_Mo 7 10 2 (.array .int) := ⟨R_Mo, T_Mo, 31, ty_Mo, rfl, by decide, in_Mo, mg_of (i := 816) (by decide +kernel) rfl, tyok_Mo, nm_Mo, rfl, rfl, rfl⟩
theorem fq_Mo_13 : mFq R_Mo 13 10 4 (.array .int) := ⟨R_Mo, T_Mo, 31, ty_Mo, rfl, by decide, in_Mo, mg_of (i := 818) (by decide +kernel) rfl, tyok_Mo, nm_Mo, rfl, rfl, rfl⟩
theorem fq_Mo_16 : mFq R_Mo 16 10 5 (.array .int) := ⟨R_Mo, T_Mo, 31, ty_Mo, rfl, by decide, in_Mo, mg_of (i := 819) (by decide +kernel) rfl, tyok_Mo, nm_Mo, rfl, rfl, rfl⟩
theorem fq_Mo_19 : mFq R_Mo 19 10 6 (.array .int) := ⟨R_Mo, T_Mo, 31, ty_Mo, rfl, by decide, in_Mo, mg_of (i := 820) (by decide +kernel) rfl, tyok_Mo, nm_Mo, rfl, rfl, rfl⟩
theorem fq_Mo_22 : mFq R_Mo 22 10 7 (.array .int) := ⟨R_Mo, T_Mo, 31, ty_Mo, rfl, by decide, in_Mo, mg_of (i := 821) (by decide +kernel) rfl, tyok_Mo, nm_Mo, rfl, rfl, rfl⟩
theorem fq_Mo_25 : mFq R_Mo 25 10 8 (.array .int) := ⟨R_Mo, T_Mo, 31, ty_Mo, rfl, by decide, in_Mo, mg_of (i := 822) (by decide +kernel) rfl, tyok_Mo, nm_Mo, rfl, rfl, rfl⟩
theorem fq_Mo_28 : mFq R_Mo 28 10 9 (.array .int) := ⟨R_Mo, T_Mo, 31, ty_Mo, rfl, by decide, in_Mo, mg_of (i := 823) (by decide +kernel) rfl, tyok_Mo, nm_Mo, rfl, rfl, rfl⟩
theorem fq_Mo_36 : mFq R_Mo 36 10 12 (.array .int) := ⟨R_Mo, T_Mo, 31, ty_Mo, rfl, by decide, in_Mo, mg_of (i := 826) (by decide +kernel) rfl, tyok_Mo, nm_Mo, rfl, rfl, rfl⟩
theorem fq_Mo_39 : mFq R_Mo 39 10 14 (.array .int) := ⟨R_Mo, T_Mo, 31, ty_Mo, rfl, by decide, in_Mo, mg_of (i := 828) (by decide +kernel) rfl, tyok_Mo, nm_Mo, rfl, rfl, rfl⟩
theorem fq_Mo_42 : mFq R_Mo 42 10 20 (.array .int) := ⟨R_Mo, T_Mo, 31, ty_Mo, rfl, by decide, in_Mo, mg_of (i := 834) (by decide +kernel) rfl, tyok_Mo, nm_Mo, rfl, rfl, rfl⟩
theorem fq_Mo_45 : mFq R_Mo 45 10 21 (.array .int) := ⟨R_Mo, T_Mo, 31, ty_Mo, rfl, by decide, in_Mo, mg_of (i := 835) (by decide +kernel) rfl, tyok_Mo, nm_Mo, rfl, rfl, rfl⟩
theorem fq_Mo_48 : mFq R_Mo 48 10 22 (.array .int) := ⟨R_Mo, T_Mo, 31, ty_Mo, rfl, by decide, in_Mo, mg_of (i := 836) (by decide +kernel) rfl, tyok_Mo, nm_Mo, rfl, rfl, rfl⟩
theorem fq_Mo_51 : mFq R_Mo 51 10 23 (.array .int) := ⟨R_Mo, T_Mo, 31, ty_Mo, rfl, by decide, in_Mo, mg_of (i := 837) (by decide +kernel) rfl, tyok_Mo, nm_Mo, rfl, rfl, rfl⟩
theorem fq_Mo_54 : mFq R_Mo 54 10 24 (.array .int) := ⟨R_Mo, T_Mo, 31, ty_Mo, rfl, by decide, in_Mo, mg_of (i := 838) (by decide +kernel) rfl, tyok_Mo, nm_Mo, rfl, rfl, rfl⟩
theorem fq_Mo_57 : mFq R_Mo 57 10 27 (.array .int) := ⟨R_Mo, T_Mo, 31, ty_Mo, rfl, by decide, in_Mo, mg_of (i := 841) (by decide +kernel) rfl, tyok_Mo, nm_Mo, rfl, rfl, rfl⟩
theorem nc_Pa_9 : mNc R_Pa 9 1 [.null, .int 0] := ⟨R_By, T_By, ty_By, rfl, in_By, tyok_By, mg_of (i := 118) (by decide +kernel) rfl, mg_of (i := 87) (by decide +kernel) rfl, mg_of (i := 59) (by decide +kernel) rfl, by decide +kernel, rfl⟩
theorem nc_Fl_9 : mNc R_Fl 9 2 [.null, .null, .null, .int 0, .int 0] := ⟨R_Co, T_Co, ty_Co, rfl, in_Co, tyok_Co, mg_of (i := 156) (by decide +kernel) rfl, mg_of (i := 157) (by decide +kernel) rfl, mg_of (i := 64) (by decide +kernel) rfl, by decide +kernel, rfl⟩
theorem nc_SF_7 : mNc R_SF 7 1 [.null, .int 0] := ⟨R_By, T_By, ty_By, rfl, in_By, tyok_By, mg_of (i := 86) (by decide +kernel) rfl, mg_of (i := 87) (by decide +kernel) rfl, mg_of (i := 59) (by decide +kernel) rfl, by decide +kernel, rfl⟩
theorem nc_SF_32 : mNc R_SF 32 8 [.null, .null, .int 0, .int 0, .int 0, .int 0, .int 0] := ⟨R_Pa, T_Pa, ty_Pa, rfl, in_Pa, tyok_Pa, mg_of (i := 112) (by decide +kernel) rfl, mg_of (i := 113) (by decide +kernel) rfl, mg_of (i := 61) (by decide +kernel) rfl, by decide +kernel, rfl⟩
theorem nc_SF_39 : mNc R_SF 39 3 [.null, .null, .null, .null, .null, .null] := ⟨R_Fl, T_Fl, ty_Fl, rfl, in_Fl, tyok_Fl, mg_of (i := 147) (by decide +kernel) rfl, mg_of (i := 148) (by decide +kernel) rfl, mg_of (i := 63) (by decide +kernel) rfl, by decide +kernel, rfl⟩
theorem nc_SF_46 : mNc R_SF 46 7 [.null, .null, .int 0, .int 0, .int 0] := ⟨R_Lz, T_Lz, ty_Lz, rfl, in_Lz, tyok_Lz, mg_of (i := 212) (by decide +kernel) rfl, mg_of (i := 213) (by decide +kernel) rfl, mg_of (i := 65) (by decide +kernel) rfl, by decide +kernel, rfl⟩
theorem nc_SF_53 : mNc R_SF 53 9 [.long 0, .int 0] := ⟨R_T8, T_T8, ty_T8, rfl, in_T8, tyok_T8, mg_of (i := 234) (by decide +kernel) rfl, mg_of (i := 235) (by decide +kernel) rfl, mg_of (i := 66) (by decide +kernel) rfl, by decide +kernel, rfl⟩
theorem nc_SF_60 : mNc R_SF 60 4 [] := ⟨R_Hx, T_Hx, ty_Hx, rfl, in_Hx, tyok_Hx, mg_of (i := 247) (by decide +kernel) rfl, mg_of (i := 248) (by decide +kernel) rfl, mg_of (i := 67) (by decide +kernel) rfl, by decide +kernel, rfl⟩
theorem nc_SF_67 : mNc R_SF 67 5 [] := ⟨R_Le, T_Le, ty_Le, rfl, in_Le, tyok_Le, mg_of (i := 254) (by decide +kernel) rfl, mg_of (i := 255) (by decide +kernel) rfl, mg_of (i := 68) (by decide +kernel) rfl, by decide +kernel, rfl⟩
theorem nc_SF_18 : mNc R_SF 18 6 [.int 0, .int 0, .int 0, .int 0, .int 0, .int 0] := ⟨R_Li, T_Li, ty_Li, rfl, in_Li, tyok_Li, mg_of (i := 109) (by decide +kernel) rfl, mg_of (i := 261) (by decide +kernel) rfl, mg_of (i := 69) (by decide +kernel) rfl, by decide +kernel, rfl⟩
theorem cw_By_init : mCw y_By_init b_By_init 2 none 1 := ⟨mg_of (i := 90) (by decide +kernel) rfl, mg_of (i := 59) (by decide +kernel) rfl, ⟨by decide +kernel, by decide +kernel⟩, by decide +kernel⟩
theorem in_By_init : Cond.instanceMethod y_By_init ∈ mGood := mg_of (i := 89) (by decide +kernel) rfl
theorem cw_Pa_init : mCw y_Pa_init b_Pa_init 1 none 0 := ⟨mg_of (i := 116) (by decide +kernel) rfl, mg_of (i := 61) (by decide +kernel) rfl, ⟨by decide +kernel, by decide +kernel⟩, by decide +kernel⟩
theorem in_Pa_init : Cond.instanceMethod y_Pa_init ∈ mGood := mg_of (i := 115) (by decide +kernel) rfl
theorem cw_Un_init : mCw y_Un_init b_Un_init 1 none 0 := ⟨mg_of (i := 154) (by decide +kernel) rfl, mg_of (i := 62) (by decide +kernel) rfl, ⟨by decide +kernel, by decide +kernel⟩, by decide +kernel⟩
theorem in_Un_init : Cond.instanceMethod y_Un_init ∈ mGood := mg_of (i := 153) (by decide +kernel) rfl
theorem cw_Co_init : mCw y_Co_init b_Co_init 2 none 1 := ⟨mg_of (i := 160) (by decide +kernel) rfl, mg_of (i := 64) (by decide +kernel) rfl, ⟨by decide +kernel, by decide +kernel⟩, by decide +kernel⟩
theorem in_Co_init : Cond.instanceMethod y_Co_init ∈ mGood := mg_of (i := 159) (by decide +kernel) rfl
theorem cw_Fl_init : mCw y_Fl_init b_Fl_init 3 none 0 := ⟨mg_of (i := 151) (by decide +kernel) rfl, mg_of (i := 63) (by decide +kernel) rfl, ⟨by decide +kernel, by decide +kernel⟩, by decide +kernel⟩
theorem in_Fl_init : Cond.instanceMethod y_Fl_init ∈ mGood := mg_of (i := 150) (by decide +kernel) rfl
theorem cw_Lz_init : mCw y_Lz_init b_Lz_init 1 none 0 := ⟨mg_of (i := 216) (by decide +kernel) rfl, mg_of (i := 65) (by decide +kernel) rfl, ⟨by decide +kernel, by decide +kernel⟩, by decide +kernel⟩
theorem in_Lz_init : Cond.instanceMethod y_Lz_init ∈ mGood := mg_of (i := 215) (by decide +kernel) rfl
theorem cw_T8_init : mCw y_T8_init b_T8_init 1 none 0 := ⟨mg_of (i := 238) (by decide +kernel) rfl, mg_of (i := 66) (by decide +kernel) rfl, ⟨by decide +kernel, by decide +kernel⟩, by decide +kernel⟩
theorem in_T8_init : Cond.instanceMethod y_T8_init ∈ mGood := mg_of (i := 237) (by decide +kernel) rfl
theorem cw_Hx_init : mCw y_Hx_init b_Hx_init 1 none 0 := ⟨mg_of (i := 251) (by decide +kernel) rfl, mg_of (i := 67) (by decide +kernel) rfl, ⟨by decide +kernel, by decide +kernel⟩, by decide +kernel⟩
theorem in_Hx_init : Cond.instanceMethod y_Hx_init ∈ mGood := mg_of (i := 250) (by decide +kernel) rfl
theorem cw_Le_init : mCw y_Le_init b_Le_init 1 none 0 := ⟨mg_of (i := 258) (by decide +kernel) rfl, mg_of (i := 68) (by decide +kernel) rfl, ⟨by decide +kernel, by decide +kernel⟩, by decide +kernel⟩
theorem in_Le_init : Cond.instanceMethod y_Le_init ∈ mGood := mg_of (i := 257) (by decide +kernel) rfl
theorem cw_Li_init : mCw y_Li_init b_Li_init 1 none 0 := ⟨mg_of (i := 264) (by decide +kernel) rfl, mg_of (i := 69) (by decide +kernel) rfl, ⟨by decide +kernel, by decide +kernel⟩, by decide +kernel⟩
theorem in_Li_init : Cond.instanceMethod y_Li_init ∈ mGood := mg_of (i := 263) (by decide +kernel) rfl
theorem cw_SF_init : mCw y_SF_init b_SF_init 2 none 0 := ⟨mg_of (i := 82) (by decide +kernel) rfl, mg_of (i := 58) (by decide +kernel) rfl, ⟨by decide +kernel, by decide +kernel⟩, by decide +kernel⟩
theorem in_SF_init : Cond.instanceMethod y_SF_init ∈ mGood := mg_of (i := 81) (by decide +kernel) rfl
theorem cw_Mo_init : mCw y_Mo_init b_Mo_init 1 none 0 := ⟨mg_of (i := 811) (by decide +kernel) rfl, mg_of (i := 70) (by decide +kernel) rfl, ⟨by decide +kernel, by decide +kernel⟩, by decide +kernel⟩
theorem in_Mo_init : Cond.instanceMethod y_Mo_init ∈ mGood := mg_of (i := 810) (by decide +kernel) rfl
