section mRets
variable {X : mX} {ad : Nat → Nat} {own : String} {cc : ByteArray} {N pc : Nat} {lv : List (Nat × Value)} {h h' : mH} {Rm : Room} {ln : Launch}
theorem ax_retE (O : mO X ad own cc N Rm ln) {ty : FieldType} {v r : Int32} (hE : mEnd X ad (some ty) (some (.int r)) h') (hf : some (v, h) = some (r, h')) (hn : narrow ty (.int v) = .int v) (d : decode cc pc = .ok (.ireturn, 1)) : mAW X ad 0 0 pc lv [.int v] h := by
  cases hf
  exact ax_ret O hE hn d
theorem ax_vretE (O : mO X ad own cc N Rm ln) {r : Unit} (hE : mEnd X ad none none h') (hf : some ((), h) = some (r, h')) (d : decode cc pc = .ok (.return_, 1)) : mAW X ad 0 0 pc lv [] h := by
  cases hf
  exact ax_vret O hE d
theorem ax_lretE (O : mO X ad own cc N Rm ln) {v r : Int64} (hE : mEnd X ad (some .long) (some (.long r)) h') (hf : some (v, h) = some (r, h')) (d : decode cc pc = .ok (.lreturn, 1)) : mAW X ad 0 0 pc lv [.long v] h := by
  cases hf
  exact ax_lret O hE d
theorem ax_aretE (O : mO X ad own cc N Rm ln) {ty : FieldType} {v r : Nat} (hty : (∃ n, ty = .object n) ∨ ∃ t, ty = .array t) (hE : mEnd X ad (some ty) (some (.ref r)) h') (hf : some (v, h) = some (r, h')) (d : decode cc pc = .ok (.areturn, 1)) : mAW X ad 0 0 pc lv [.ref v] h := by
  cases hf
  exact ax_aret O hty hE d
end mRets
theorem mTi {x : Int32} {lo hi : Int} (h : ∀ k : Int, lo ≤ k → k ≤ hi → ¬ x.toInt = k) : x.toInt < lo ∨ hi < x.toInt := by
  rcases Int.lt_or_le x.toInt lo with q | q
  · exact Or.inl q
  · rcases Int.lt_or_le hi x.toInt with q2 | q2
    · exact Or.inr q2
    · exact absurd rfl (h x.toInt q q2)
theorem wd_0 : Cond.methodLink R_Co 25 Lib.Math.max.name ∈ mGood := mg_of (i := 162) (by decide +kernel) rfl
theorem wd_1 : Cond.methodLink R_SF 125 Lib.Math.max.name ∈ mGood := mg_of (i := 740) (by decide +kernel) rfl
theorem wd_2 : Cond.methodLink R_By 27 Lib.Math.min.name ∈ mGood := mg_of (i := 367) (by decide +kernel) rfl
theorem wd_3 : Cond.methodLink R_By 30 arraycopyName ∈ mGood := mg_of (i := 370) (by decide +kernel) rfl
theorem wd_4 : Cond.methodLink R_Li 38 Lib.Math.max.name ∈ mGood := mg_of (i := 590) (by decide +kernel) rfl
theorem wd_5 : Cond.methodLink R_Li 53 Lib.Math.min.name ∈ mGood := mg_of (i := 591) (by decide +kernel) rfl
theorem wd_6 : Cond.methodLink R_Li 90 Lib.Math.abs.name ∈ mGood := mg_of (i := 627) (by decide +kernel) rfl
theorem wd_7 : Cond.constant R_Mo 31 65536 ∈ mGood := mg_of (i := 813) (by decide +kernel) rfl
theorem wd_8 : Cond.constant R_Mo 122 32768 ∈ mGood := mg_of (i := 1031) (by decide +kernel) rfl
theorem wd_9 : Cond.constant R_Mo 163 65535 ∈ mGood := mg_of (i := 983) (by decide +kernel) rfl
theorem wd_10 : Cond.constantLong R_Mo 187 65536 ∈ mGood := mg_of (i := 1042) (by decide +kernel) rfl
theorem wd_11 : Cond.constantLong R_Mo 185 65521 ∈ mGood := mg_of (i := 1041) (by decide +kernel) rfl
theorem wd_12 : Cond.constantLong R_Mo 167 256 ∈ mGood := mg_of (i := 1036) (by decide +kernel) rfl
theorem wd_13 : Cond.constantLong R_Mo 201 4294967295 ∈ mGood := mg_of (i := 1075) (by decide +kernel) rfl
theorem wd_14 : Cond.constantLong R_Mo 203 255 ∈ mGood := mg_of (i := 1076) (by decide +kernel) rfl
theorem wd_15 : Cond.constantLong R_Mo 208 85 ∈ mGood := mg_of (i := 1069) (by decide +kernel) rfl
theorem wd_16 : Cond.constantLong R_Mo 216 84 ∈ mGood := mg_of (i := 1077) (by decide +kernel) rfl
theorem wd_17 : Cond.constantLong R_Mo 210 33 ∈ mGood := mg_of (i := 1070) (by decide +kernel) rfl
theorem wd_18 : Cond.constant R_Co 42 32768 ∈ mGood := mg_of (i := 469) (by decide +kernel) rfl
theorem wd_19 : Cond.constant R_Fl 80 65535 ∈ mGood := mg_of (i := 414) (by decide +kernel) rfl
theorem wd_20 : Cond.fieldLink R_Fl 136 "StreamFilters$Flate" "DISTANCE_STARTS" "[I" ∈ mGood := mg_of (i := 445) (by decide +kernel) rfl
theorem wd_21 : Cond.fieldLink R_Fl 139 "StreamFilters$Flate" "DISTANCE_BITS" "[I" ∈ mGood := mg_of (i := 447) (by decide +kernel) rfl
theorem wd_22 : Cond.fieldLink R_Fl 112 "StreamFilters$Flate" "LENGTH_STARTS" "[I" ∈ mGood := mg_of (i := 438) (by decide +kernel) rfl
theorem wd_23 : Cond.fieldLink R_Fl 115 "StreamFilters$Flate" "LENGTH_BITS" "[I" ∈ mGood := mg_of (i := 440) (by decide +kernel) rfl
theorem wd_24 : Cond.constant R_Fl 47 1000000 ∈ mGood := mg_of (i := 398) (by decide +kernel) rfl
theorem wd_25 : Cond.fieldLink R_Fl 29 "StreamFilters$Flate" "ORDER" "[I" ∈ mGood := mg_of (i := 180) (by decide +kernel) rfl
theorem wd_26 : Cond.constantLong R_Fl 152 65536 ∈ mGood := mg_of (i := 490) (by decide +kernel) rfl
theorem wd_27 : Cond.constant R_Fl 151 65521 ∈ mGood := mg_of (i := 489) (by decide +kernel) rfl
theorem wd_28 : Cond.constantLong R_Fl 142 256 ∈ mGood := mg_of (i := 484) (by decide +kernel) rfl
theorem wd_29 : Cond.constant R_Pa 46 1000000 ∈ mGood := mg_of (i := 499) (by decide +kernel) rfl
theorem wd_30 : Cond.constant R_Hx 9 1000000 ∈ mGood := mg_of (i := 494) (by decide +kernel) rfl
theorem wd_31 : Cond.constant R_Le 9 1000000 ∈ mGood := mg_of (i := 511) (by decide +kernel) rfl
theorem wd_32 : Cond.constant R_Lz 31 1000000 ∈ mGood := mg_of (i := 528) (by decide +kernel) rfl
theorem wd_33 : Cond.constantLong R_T8 46 85 ∈ mGood := mg_of (i := 570) (by decide +kernel) rfl
theorem wd_34 : Cond.constantLong R_T8 48 4294967295 ∈ mGood := mg_of (i := 575) (by decide +kernel) rfl
theorem wd_35 : Cond.constant R_T8 19 1000000 ∈ mGood := mg_of (i := 558) (by decide +kernel) rfl
theorem fg_Co_11 : mFg R_Co 11 2 0 := ⟨R_Co, T_Co, 5, rfl, by decide, in_Co, Or.inl (mg_of (i := 163) (by decide +kernel) rfl)⟩
theorem fg_Co_18 : mFg R_Co 18 2 3 := ⟨R_Co, T_Co, 5, rfl, by decide, in_Co, Or.inl (mg_of (i := 166) (by decide +kernel) rfl)⟩
theorem fg_Co_22 : mFg R_Co 22 2 4 := ⟨R_Co, T_Co, 5, rfl, by decide, in_Co, Or.inl (mg_of (i := 167) (by decide +kernel) rfl)⟩
theorem fg_Co_15 : mFg R_Co 15 2 1 := ⟨R_Co, T_Co, 5, rfl, by decide, in_Co, Or.inl (mg_of (i := 164) (by decide +kernel) rfl)⟩
theorem fg_Co_31 : mFg R_Co 31 2 2 := ⟨R_Co, T_Co, 5, rfl, by decide, in_Co, Or.inl (mg_of (i := 165) (by decide +kernel) rfl)⟩
theorem fg_By_7 : mFg R_By 7 1 1 := ⟨R_By, T_By, 2, rfl, by decide, in_By, Or.inl (mg_of (i := 97) (by decide +kernel) rfl)⟩
theorem fg_By_19 : mFg R_By 19 1 0 := ⟨R_By, T_By, 2, rfl, by decide, in_By, Or.inl (mg_of (i := 95) (by decide +kernel) rfl)⟩
theorem fg_SF_14 : mFg R_SF 14 0 0 := ⟨R_SF, T_SF, 17, rfl, by decide, in_SF, Or.inl (mg_of (i := 287) (by decide +kernel) rfl)⟩
theorem fg_SF_97 : mFg R_SF 97 1 1 := ⟨R_By, T_By, 2, rfl, by decide, in_By, Or.inr ⟨"StreamFilters", List.mem_of_getElem? (i := 1) (by decide +kernel)⟩⟩
theorem fg_SF_24 : mFg R_SF 24 0 2 := ⟨R_SF, T_SF, 17, rfl, by decide, in_SF, Or.inl (mg_of (i := 289) (by decide +kernel) rfl)⟩
theorem fg_Pa_20 : mFg R_Pa 20 8 1 := ⟨R_Pa, T_Pa, 7, rfl, by decide, in_Pa, Or.inl (mg_of (i := 121) (by decide +kernel) rfl)⟩
theorem fg_SF_42 : mFg R_SF 42 0 5 := ⟨R_SF, T_SF, 17, rfl, by decide, in_SF, Or.inl (mg_of (i := 292) (by decide +kernel) rfl)⟩
theorem fg_SF_49 : mFg R_SF 49 0 6 := ⟨R_SF, T_SF, 17, rfl, by decide, in_SF, Or.inl (mg_of (i := 293) (by decide +kernel) rfl)⟩
theorem fg_SF_56 : mFg R_SF 56 0 7 := ⟨R_SF, T_SF, 17, rfl, by decide, in_SF, Or.inl (mg_of (i := 294) (by decide +kernel) rfl)⟩
theorem fg_SF_63 : mFg R_SF 63 0 8 := ⟨R_SF, T_SF, 17, rfl, by decide, in_SF, Or.inl (mg_of (i := 295) (by decide +kernel) rfl)⟩
theorem fg_SF_70 : mFg R_SF 70 0 9 := ⟨R_SF, T_SF, 17, rfl, by decide, in_SF, Or.inl (mg_of (i := 296) (by decide +kernel) rfl)⟩
theorem fg_Li_27 : mFg R_Li 27 6 5 := ⟨R_Li, T_Li, 6, rfl, by decide, in_Li, Or.inl (mg_of (i := 273) (by decide +kernel) rfl)⟩
theorem fg_Li_21 : mFg R_Li 21 6 3 := ⟨R_Li, T_Li, 6, rfl, by decide, in_Li, Or.inl (mg_of (i := 271) (by decide +kernel) rfl)⟩
theorem fg_Li_24 : mFg R_Li 24 6 4 := ⟨R_Li, T_Li, 6, rfl, by decide, in_Li, Or.inl (mg_of (i := 272) (by decide +kernel) rfl)⟩
theorem fg_Li_48 : mFg R_Li 48 1 1 := ⟨R_By, T_By, 2, rfl, by decide, in_By, Or.inr ⟨"StreamFilters", List.mem_of_getElem? (i := 4) (by decide +kernel)⟩⟩
theorem fg_Li_18 : mFg R_Li 18 6 2 := ⟨R_Li, T_Li, 6, rfl, by decide, in_Li, Or.inl (mg_of (i := 270) (by decide +kernel) rfl)⟩
theorem fg_SF_80 : mFg R_SF 80 0 12 := ⟨R_SF, T_SF, 17, rfl, by decide, in_SF, Or.inl (mg_of (i := 299) (by decide +kernel) rfl)⟩
theorem fg_SF_87 : mFg R_SF 87 0 14 := ⟨R_SF, T_SF, 17, rfl, by decide, in_SF, Or.inl (mg_of (i := 301) (by decide +kernel) rfl)⟩
theorem fg_SF_90 : mFg R_SF 90 0 15 := ⟨R_SF, T_SF, 17, rfl, by decide, in_SF, Or.inl (mg_of (i := 302) (by decide +kernel) rfl)⟩
theorem fg_SF_93 : mFg R_SF 93 0 16 := ⟨R_SF, T_SF, 17, rfl, by decide, in_SF, Or.inl (mg_of (i := 303) (by decide +kernel) rfl)⟩
theorem fg_SF_83 : mFg R_SF 83 0 13 := ⟨R_SF, T_SF, 17, rfl, by decide, in_SF, Or.inl (mg_of (i := 300) (by decide +kernel) rfl)⟩
theorem fg_Mo_72 : mFg R_Mo 72 10 1 := ⟨R_Mo, T_Mo, 31, rfl, by decide, in_Mo, Or.inl (mg_of (i := 815) (by decide +kernel) rfl)⟩
theorem fg_Mo_7 : mFg R_Mo 7 10 2 := ⟨R_Mo, T_Mo, 31, rfl, by decide, in_Mo, Or.inl (mg_of (i := 816) (by decide +kernel) rfl)⟩
theorem fg_Mo_13 : mFg R_Mo 13 10 4 := ⟨R_Mo, T_Mo, 31, rfl, by decide, in_Mo, Or.inl (mg_of (i := 818) (by decide +kernel) rfl)⟩
theorem fg_Mo_83 : mFg R_Mo 83 10 3 := ⟨R_Mo, T_Mo, 31, rfl, by decide, in_Mo, Or.inl (mg_of (i := 817) (by decide +kernel) rfl)⟩
theorem fg_Mo_16 : mFg R_Mo 16 10 5 := ⟨R_Mo, T_Mo, 31, rfl, by decide, in_Mo, Or.inl (mg_of (i := 819) (by decide +kernel) rfl)⟩
theorem fg_Mo_19 : mFg R_Mo 19 10 6 := ⟨R_Mo, T_Mo, 31, rfl, by decide, in_Mo, Or.inl (mg_of (i := 820) (by decide +kernel) rfl)⟩
theorem fg_Mo_22 : mFg R_Mo 22 10 7 := ⟨R_Mo, T_Mo, 31, rfl, by decide, in_Mo, Or.inl (mg_of (i := 821) (by decide +kernel) rfl)⟩
theorem fg_Mo_25 : mFg R_Mo 25 10 8 := ⟨R_Mo, T_Mo, 31, rfl, by decide, in_Mo, Or.inl (mg_of (i := 822) (by decide +kernel) rfl)⟩
theorem fg_Mo_28 : mFg R_Mo 28 10 9 := ⟨R_Mo, T_Mo, 31, rfl, by decide, in_Mo, Or.inl (mg_of (i := 823) (by decide +kernel) rfl)⟩
theorem fg_Mo_32 : mFg R_Mo 32 10 10 := ⟨R_Mo, T_Mo, 31, rfl, by decide, in_Mo, Or.inl (mg_of (i := 824) (by decide +kernel) rfl)⟩
theorem fg_Mo_86 : mFg R_Mo 86 10 17 := ⟨R_Mo, T_Mo, 31, rfl, by decide, in_Mo, Or.inl (mg_of (i := 831) (by decide +kernel) rfl)⟩
theorem fg_Mo_93 : mFg R_Mo 93 10 16 := ⟨R_Mo, T_Mo, 31, rfl, by decide, in_Mo, Or.inl (mg_of (i := 830) (by decide +kernel) rfl)⟩
theorem fg_Mo_96 : mFg R_Mo 96 10 11 := ⟨R_Mo, T_Mo, 31, rfl, by decide, in_Mo, Or.inl (mg_of (i := 825) (by decide +kernel) rfl)⟩
theorem fg_Mo_36 : mFg R_Mo 36 10 12 := ⟨R_Mo, T_Mo, 31, rfl, by decide, in_Mo, Or.inl (mg_of (i := 826) (by decide +kernel) rfl)⟩
theorem fg_Mo_39 : mFg R_Mo 39 10 14 := ⟨R_Mo, T_Mo, 31, rfl, by decide, in_Mo, Or.inl (mg_of (i := 828) (by decide +kernel) rfl)⟩
theorem fg_Mo_106 : mFg R_Mo 106 10 13 := ⟨R_Mo, T_Mo, 31, rfl, by decide, in_Mo, Or.inl (mg_of (i := 827) (by decide +kernel) rfl)⟩
theorem fg_Mo_103 : mFg R_Mo 103 10 15 := ⟨R_Mo, T_Mo, 31, rfl, by decide, in_Mo, Or.inl (mg_of (i := 829) (by decide +kernel) rfl)⟩
theorem fg_Mo_109 : mFg R_Mo 109 10 19 := ⟨R_Mo, T_Mo, 31, rfl, by decide, in_Mo, Or.inl (mg_of (i := 833) (by decide +kernel) rfl)⟩
theorem fg_Mo_116 : mFg R_Mo 116 10 18 := ⟨R_Mo, T_Mo, 31, rfl, by decide, in_Mo, Or.inl (mg_of (i := 832) (by decide +kernel) rfl)⟩
theorem fg_Mo_42 : mFg R_Mo 42 10 20 := ⟨R_Mo, T_Mo, 31, rfl, by decide, in_Mo, Or.inl (mg_of (i := 834) (by decide +kernel) rfl)⟩
theorem fg_Mo_45 : mFg R_Mo 45 10 21 := ⟨R_Mo, T_Mo, 31, rfl, by decide, in_Mo, Or.inl (mg_of (i := 835) (by decide +kernel) rfl)⟩
theorem fg_Mo_48 : mFg R_Mo 48 10 22 := ⟨R_Mo, T_Mo, 31, rfl, by decide, in_Mo, Or.inl (mg_of (i := 836) (by decide +kernel) rfl)⟩
theorem fg_Mo_51 : mFg R_Mo 51 10 23 := ⟨R_Mo, T_Mo, 31, rfl, by decide, in_Mo, Or.inl (mg_of (i := 837) (by decide +kernel) rfl)⟩
theorem fg_Mo_54 : mFg R_Mo 54 10 24 := ⟨R_Mo, T_Mo, 31, rfl, by decide, in_Mo, Or.inl (mg_of (i := 838) (by decide +kernel) rfl)⟩
theorem fg_Mo_57 : mFg R_Mo 57 10 27 := ⟨R_Mo, T_Mo, 31, rfl, by decide, in_Mo, Or.inl (mg_of (i := 841) (by decide +kernel) rfl)⟩
theorem fg_Mo_273 : mFg R_Mo 273 10 26 := ⟨R_Mo, T_Mo, 31, rfl, by decide, in_Mo, Or.inl (mg_of (i := 840) (by decide +kernel) rfl)⟩
theorem fg_Mo_66 : mFg R_Mo 66 10 30 := ⟨R_Mo, T_Mo, 31, rfl, by decide, in_Mo, Or.inl (mg_of (i := 844) (by decide +kernel) rfl)⟩
theorem fg_Mo_63 : mFg R_Mo 63 10 29 := ⟨R_Mo, T_Mo, 31, rfl, by decide, in_Mo, Or.inl (mg_of (i := 843) (by decide +kernel) rfl)⟩
theorem fg_Mo_60 : mFg R_Mo 60 10 28 := ⟨R_Mo, T_Mo, 31, rfl, by decide, in_Mo, Or.inl (mg_of (i := 842) (by decide +kernel) rfl)⟩
theorem fg_Mo_269 : mFg R_Mo 269 10 25 := ⟨R_Mo, T_Mo, 31, rfl, by decide, in_Mo, Or.inl (mg_of (i := 839) (by decide +kernel) rfl)⟩
theorem fg_Pa_23 : mFg R_Pa 23 8 2 := ⟨R_Pa, T_Pa, 7, rfl, by decide, in_Pa, Or.inl (mg_of (i := 124) (by decide +kernel) rfl)⟩
theorem fg_Pa_14 : mFg R_Pa 14 8 0 := ⟨R_Pa, T_Pa, 7, rfl, by decide, in_Pa, Or.inl (mg_of (i := 120) (by decide +kernel) rfl)⟩
theorem fg_Pa_39 : mFg R_Pa 39 1 1 := ⟨R_By, T_By, 2, rfl, by decide, in_By, Or.inr ⟨"StreamFilters", List.mem_of_getElem? (i := 2) (by decide +kernel)⟩⟩
theorem fg_Pa_42 : mFg R_Pa 42 1 0 := ⟨R_By, T_By, 2, rfl, by decide, in_By, Or.inr ⟨"StreamFilters", List.mem_of_getElem? (i := 0) (by decide +kernel)⟩⟩
theorem fg_Pa_27 : mFg R_Pa 27 8 3 := ⟨R_Pa, T_Pa, 7, rfl, by decide, in_Pa, Or.inl (mg_of (i := 126) (by decide +kernel) rfl)⟩
theorem fg_Pa_30 : mFg R_Pa 30 8 4 := ⟨R_Pa, T_Pa, 7, rfl, by decide, in_Pa, Or.inl (mg_of (i := 127) (by decide +kernel) rfl)⟩
theorem fg_Pa_36 : mFg R_Pa 36 8 6 := ⟨R_Pa, T_Pa, 7, rfl, by decide, in_Pa, Or.inl (mg_of (i := 130) (by decide +kernel) rfl)⟩
theorem fg_Fl_122 : mFg R_Fl 122 8 1 := ⟨R_Pa, T_Pa, 7, rfl, by decide, in_Pa, Or.inr ⟨"StreamFilters", List.mem_of_getElem? (i := 9) (by decide +kernel)⟩⟩
theorem fg_Fl_126 : mFg R_Fl 126 1 1 := ⟨R_By, T_By, 2, rfl, by decide, in_By, Or.inr ⟨"StreamFilters", List.mem_of_getElem? (i := 5) (by decide +kernel)⟩⟩
theorem fg_Fl_33 : mFg R_Fl 33 3 4 := ⟨R_Fl, T_Fl, 6, rfl, by decide, in_Fl, Or.inl (mg_of (i := 197) (by decide +kernel) rfl)⟩
theorem fg_Fl_36 : mFg R_Fl 36 3 5 := ⟨R_Fl, T_Fl, 6, rfl, by decide, in_Fl, Or.inl (mg_of (i := 198) (by decide +kernel) rfl)⟩
theorem fg_Fl_23 : mFg R_Fl 23 3 2 := ⟨R_Fl, T_Fl, 6, rfl, by decide, in_Fl, Or.inl (mg_of (i := 195) (by decide +kernel) rfl)⟩
theorem fg_Fl_26 : mFg R_Fl 26 3 3 := ⟨R_Fl, T_Fl, 6, rfl, by decide, in_Fl, Or.inl (mg_of (i := 196) (by decide +kernel) rfl)⟩
theorem fg_Fl_16 : mFg R_Fl 16 3 0 := ⟨R_Fl, T_Fl, 6, rfl, by decide, in_Fl, Or.inl (mg_of (i := 193) (by decide +kernel) rfl)⟩
theorem fg_Fl_20 : mFg R_Fl 20 3 1 := ⟨R_Fl, T_Fl, 6, rfl, by decide, in_Fl, Or.inl (mg_of (i := 194) (by decide +kernel) rfl)⟩
theorem fg_Lz_18 : mFg R_Lz 18 7 2 := ⟨R_Lz, T_Lz, 5, rfl, by decide, in_Lz, Or.inl (mg_of (i := 220) (by decide +kernel) rfl)⟩
theorem fg_Lz_25 : mFg R_Lz 25 7 4 := ⟨R_Lz, T_Lz, 5, rfl, by decide, in_Lz, Or.inl (mg_of (i := 222) (by decide +kernel) rfl)⟩
theorem fg_Lz_15 : mFg R_Lz 15 7 1 := ⟨R_Lz, T_Lz, 5, rfl, by decide, in_Lz, Or.inl (mg_of (i := 219) (by decide +kernel) rfl)⟩
theorem fg_Lz_22 : mFg R_Lz 22 7 3 := ⟨R_Lz, T_Lz, 5, rfl, by decide, in_Lz, Or.inl (mg_of (i := 221) (by decide +kernel) rfl)⟩
theorem fg_Lz_11 : mFg R_Lz 11 7 0 := ⟨R_Lz, T_Lz, 5, rfl, by decide, in_Lz, Or.inl (mg_of (i := 218) (by decide +kernel) rfl)⟩
theorem fg_Lz_45 : mFg R_Lz 45 8 1 := ⟨R_Pa, T_Pa, 7, rfl, by decide, in_Pa, Or.inr ⟨"StreamFilters", List.mem_of_getElem? (i := 8) (by decide +kernel)⟩⟩
theorem fg_Lz_49 : mFg R_Lz 49 1 1 := ⟨R_By, T_By, 2, rfl, by decide, in_By, Or.inr ⟨"StreamFilters", List.mem_of_getElem? (i := 3) (by decide +kernel)⟩⟩
theorem fg_T8_9 : mFg R_T8 9 9 0 := ⟨R_T8, T_T8, 2, rfl, by decide, in_T8, Or.inl (mg_of (i := 240) (by decide +kernel) rfl)⟩
theorem fg_T8_15 : mFg R_T8 15 9 1 := ⟨R_T8, T_T8, 2, rfl, by decide, in_T8, Or.inl (mg_of (i := 241) (by decide +kernel) rfl)⟩
theorem fp_Co_18 : mFp R_Co 18 2 3 .int false := ⟨R_Co, T_Co, 5, ty_Co, rfl, by decide, in_Co, Or.inl (mg_of (i := 166) (by decide +kernel) rfl), tyok_Co, nm_Co, rfl, rfl, fun h => absurd h (by decide)⟩
theorem fp_Co_22 : mFp R_Co 22 2 4 .int false := ⟨R_Co, T_Co, 5, ty_Co, rfl, by decide, in_Co, Or.inl (mg_of (i := 167) (by decide +kernel) rfl), tyok_Co, nm_Co, rfl, rfl, fun h => absurd h (by decide)⟩
theorem fp_By_7 : mFp R_By 7 1 1 .int false := ⟨R_By, T_By, 2, ty_By, rfl, by decide, in_By, Or.inl (mg_of (i := 97) (by decide +kernel) rfl), tyok_By, nm_By, rfl, rfl, fun h => absurd h (by decide)⟩
theorem fp_SF_97 : mFp R_SF 97 1 1 .int false := ⟨R_By, T_By, 2, ty_By, rfl, by decide, in_By, Or.inr ⟨"StreamFilters", List.mem_of_getElem? (i := 1) (by decide +kernel)⟩, tyok_By, nm_By, rfl, rfl, fun h => absurd h (by decide)⟩
theorem fp_Li_9 : mFp R_Li 9 6 0 .int false := ⟨R_Li, T_Li, 6, ty_Li, rfl, by decide, in_Li, Or.inl (mg_of (i := 266) (by decide +kernel) rfl), tyok_Li, nm_Li, rfl, rfl, fun h => absurd h (by decide)⟩
theorem fp_Li_15 : mFp R_Li 15 6 1 .int false := ⟨R_Li, T_Li, 6, ty_Li, rfl, by decide, in_Li, Or.inl (mg_of (i := 268) (by decide +kernel) rfl), tyok_Li, nm_Li, rfl, rfl, fun h => absurd h (by decide)⟩
theorem fp_Li_18 : mFp R_Li 18 6 2 .int false := ⟨R_Li, T_Li, 6, ty_Li, rfl, by decide, in_Li, Or.inl (mg_of (i := 270) (by decide +kernel) rfl), tyok_Li, nm_Li, rfl, rfl, fun h => absurd h (by decide)⟩
theorem fp_Li_21 : mFp R_Li 21 6 3 .int false := ⟨R_Li, T_Li, 6, ty_Li, rfl, by decide, in_Li, Or.inl (mg_of (i := 271) (by decide +kernel) rfl), tyok_Li, nm_Li, rfl, rfl, fun h => absurd h (by decide)⟩
theorem fp_Li_24 : mFp R_Li 24 6 4 .int false := ⟨R_Li, T_Li, 6, ty_Li, rfl, by decide, in_Li, Or.inl (mg_of (i := 272) (by decide +kernel) rfl), tyok_Li, nm_Li, rfl, rfl, fun h => absurd h (by decide)⟩
theorem fp_Li_27 : mFp R_Li 27 6 5 .int false := ⟨R_Li, T_Li, 6, ty_Li, rfl, by decide, in_Li, Or.inl (mg_of (i := 273) (by decide +kernel) rfl), tyok_Li, nm_Li, rfl, rfl, fun h => absurd h (by decide)⟩
theorem fp_SF_24 : mFp R_SF 24 0 2 .int false := ⟨R_SF, T_SF, 17, ty_SF, rfl, by decide, in_SF, Or.inl (mg_of (i := 289) (by decide +kernel) rfl), tyok_SF, nm_SF, rfl, rfl, fun h => absurd h (by decide)⟩
theorem fp_SF_87 : mFp R_SF 87 0 14 .int false := ⟨R_SF, T_SF, 17, ty_SF, rfl, by decide, in_SF, Or.inl (mg_of (i := 301) (by decide +kernel) rfl), tyok_SF, nm_SF, rfl, rfl, fun h => absurd h (by decide)⟩
theorem fp_SF_90 : mFp R_SF 90 0 15 .int false := ⟨R_SF, T_SF, 17, ty_SF, rfl, by decide, in_SF, Or.inl (mg_of (i := 302) (by decide +kernel) rfl), tyok_SF, nm_SF, rfl, rfl, fun h => absurd h (by decide)⟩
theorem fp_SF_93 : mFp R_SF 93 0 16 .int false := ⟨R_SF, T_SF, 17, ty_SF, rfl, by decide, in_SF, Or.inl (mg_of (i := 303) (by decide +kernel) rfl), tyok_SF, nm_SF, rfl, rfl, fun h => absurd h (by decide)⟩
theorem fp_Pa_14 : mFp R_Pa 14 8 0 (.object "StreamFilters$Bytes") false := ⟨R_Pa, T_Pa, 7, ty_Pa, rfl, by decide, in_Pa, Or.inl (mg_of (i := 120) (by decide +kernel) rfl), tyok_Pa, nm_Pa, rfl, rfl, fun h => absurd h (by decide)⟩
theorem fp_Pa_20 : mFp R_Pa 20 8 1 (.object "StreamFilters$Bytes") false := ⟨R_Pa, T_Pa, 7, ty_Pa, rfl, by decide, in_Pa, Or.inl (mg_of (i := 121) (by decide +kernel) rfl), tyok_Pa, nm_Pa, rfl, rfl, fun h => absurd h (by decide)⟩
theorem fp_Pa_39 : mFp R_Pa 39 1 1 .int false := ⟨R_By, T_By, 2, ty_By, rfl, by decide, in_By, Or.inr ⟨"StreamFilters", List.mem_of_getElem? (i := 2) (by decide +kernel)⟩, tyok_By, nm_By, rfl, rfl, fun h => absurd h (by decide)⟩
theorem fp_Pa_23 : mFp R_Pa 23 8 2 .int false := ⟨R_Pa, T_Pa, 7, ty_Pa, rfl, by decide, in_Pa, Or.inl (mg_of (i := 124) (by decide +kernel) rfl), tyok_Pa, nm_Pa, rfl, rfl, fun h => absurd h (by decide)⟩
theorem fp_Pa_30 : mFp R_Pa 30 8 4 .int false := ⟨R_Pa, T_Pa, 7, ty_Pa, rfl, by decide, in_Pa, Or.inl (mg_of (i := 127) (by decide +kernel) rfl), tyok_Pa, nm_Pa, rfl, rfl, fun h => absurd h (by decide)⟩
theorem fp_Pa_33 : mFp R_Pa 33 8 5 .int false := ⟨R_Pa, T_Pa, 7, ty_Pa, rfl, by decide, in_Pa, Or.inl (mg_of (i := 128) (by decide +kernel) rfl), tyok_Pa, nm_Pa, rfl, rfl, fun h => absurd h (by decide)⟩
theorem fp_Li_48 : mFp R_Li 48 1 1 .int false := ⟨R_By, T_By, 2, ty_By, rfl, by decide, in_By, Or.inr ⟨"StreamFilters", List.mem_of_getElem? (i := 4) (by decide +kernel)⟩, tyok_By, nm_By, rfl, rfl, fun h => absurd h (by decide)⟩
theorem fp_Mo_69 : mFp R_Mo 69 10 0 .int false := ⟨R_Mo, T_Mo, 31, ty_Mo, rfl, by decide, in_Mo, Or.inl (mg_of (i := 814) (by decide +kernel) rfl), tyok_Mo, nm_Mo, rfl, rfl, fun h => absurd h (by decide)⟩
theorem fp_Mo_72 : mFp R_Mo 72 10 1 .int false := ⟨R_Mo, T_Mo, 31, ty_Mo, rfl, by decide, in_Mo, Or.inl (mg_of (i := 815) (by decide +kernel) rfl), tyok_Mo, nm_Mo, rfl, rfl, fun h => absurd h (by decide)⟩
theorem fp_Mo_83 : mFp R_Mo 83 10 3 .int false := ⟨R_Mo, T_Mo, 31, ty_Mo, rfl, by decide, in_Mo, Or.inl (mg_of (i := 817) (by decide +kernel) rfl), tyok_Mo, nm_Mo, rfl, rfl, fun h => absurd h (by decide)⟩
theorem fp_Mo_32 : mFp R_Mo 32 10 10 .int false := ⟨R_Mo, T_Mo, 31, ty_Mo, rfl, by decide, in_Mo, Or.inl (mg_of (i := 824) (by decide +kernel) rfl), tyok_Mo, nm_Mo, rfl, rfl, fun h => absurd h (by decide)⟩
theorem fp_Mo_86 : mFp R_Mo 86 10 17 .int false := ⟨R_Mo, T_Mo, 31, ty_Mo, rfl, by decide, in_Mo, Or.inl (mg_of (i := 831) (by decide +kernel) rfl), tyok_Mo, nm_Mo, rfl, rfl, fun h => absurd h (by decide)⟩
theorem fp_Mo_93 : mFp R_Mo 93 10 16 .int false := ⟨R_Mo, T_Mo, 31, ty_Mo, rfl, by decide, in_Mo, Or.inl (mg_of (i := 830) (by decide +kernel) rfl), tyok_Mo, nm_Mo, rfl, rfl, fun h => absurd h (by decide)⟩
theorem fp_Mo_106 : mFp R_Mo 106 10 13 .int false := ⟨R_Mo, T_Mo, 31, ty_Mo, rfl, by decide, in_Mo, Or.inl (mg_of (i := 827) (by decide +kernel) rfl), tyok_Mo, nm_Mo, rfl, rfl, fun h => absurd h (by decide)⟩
theorem fp_Mo_103 : mFp R_Mo 103 10 15 .int false := ⟨R_Mo, T_Mo, 31, ty_Mo, rfl, by decide, in_Mo, Or.inl (mg_of (i := 829) (by decide +kernel) rfl), tyok_Mo, nm_Mo, rfl, rfl, fun h => absurd h (by decide)⟩
theorem fp_Mo_109 : mFp R_Mo 109 10 19 .int false := ⟨R_Mo, T_Mo, 31, ty_Mo, rfl, by decide, in_Mo, Or.inl (mg_of (i := 833) (by decide +kernel) rfl), tyok_Mo, nm_Mo, rfl, rfl, fun h => absurd h (by decide)⟩
theorem fp_Mo_116 : mFp R_Mo 116 10 18 .int false := ⟨R_Mo, T_Mo, 31, ty_Mo, rfl, by decide, in_Mo, Or.inl (mg_of (i := 832) (by decide +kernel) rfl), tyok_Mo, nm_Mo, rfl, rfl, fun h => absurd h (by decide)⟩
theorem fp_Mo_60 : mFp R_Mo 60 10 28 .int false := ⟨R_Mo, T_Mo, 31, ty_Mo, rfl, by decide, in_Mo, Or.inl (mg_of (i := 842) (by decide +kernel) rfl), tyok_Mo, nm_Mo, rfl, rfl, fun h => absurd h (by decide)⟩
theorem fp_Mo_63 : mFp R_Mo 63 10 29 .int false := ⟨R_Mo, T_Mo, 31, ty_Mo, rfl, by decide, in_Mo, Or.inl (mg_of (i := 843) (by decide +kernel) rfl), tyok_Mo, nm_Mo, rfl, rfl, fun h => absurd h (by decide)⟩
theorem fp_Mo_66 : mFp R_Mo 66 10 30 .int false := ⟨R_Mo, T_Mo, 31, ty_Mo, rfl, by decide, in_Mo, Or.inl (mg_of (i := 844) (by decide +kernel) rfl), tyok_Mo, nm_Mo, rfl, rfl, fun h => absurd h (by decide)⟩
theorem fp_Mo_269 : mFp R_Mo 269 10 25 .boolean false := ⟨R_Mo, T_Mo, 31, ty_Mo, rfl, by decide, in_Mo, Or.inl (mg_of (i := 839) (by decide +kernel) rfl), tyok_Mo, nm_Mo, rfl, rfl, fun h => absurd h (by decide)⟩
theorem fp_Mo_273 : mFp R_Mo 273 10 26 .int false := ⟨R_Mo, T_Mo, 31, ty_Mo, rfl, by decide, in_Mo, Or.inl (mg_of (i := 840) (by decide +kernel) rfl), tyok_Mo, nm_Mo, rfl, rfl, fun h => absurd h (by decide)⟩
theorem fp_Mo_96 : mFp R_Mo 96 10 11 .int false := ⟨R_Mo, T_Mo, 31, ty_Mo, rfl, by decide, in_Mo, Or.inl (mg_of (i := 825) (by decide +kernel) rfl), tyok_Mo, nm_Mo, rfl, rfl, fun h => absurd h (by decide)⟩
theorem fp_Pa_27 : mFp R_Pa 27 8 3 .int false := ⟨R_Pa, T_Pa, 7, ty_Pa, rfl, by decide, in_Pa, Or.inl (mg_of (i := 126) (by decide +kernel) rfl), tyok_Pa, nm_Pa, rfl, rfl, fun h => absurd h (by decide)⟩
theorem fp_Pa_36 : mFp R_Pa 36 8 6 .int false := ⟨R_Pa, T_Pa, 7, ty_Pa, rfl, by decide, in_Pa, Or.inl (mg_of (i := 130) (by decide +kernel) rfl), tyok_Pa, nm_Pa, rfl, rfl, fun h => absurd h (by decide)⟩
theorem fp_Lz_18 : mFp R_Lz 18 7 2 .int false := ⟨R_Lz, T_Lz, 5, ty_Lz, rfl, by decide, in_Lz, Or.inl (mg_of (i := 220) (by decide +kernel) rfl), tyok_Lz, nm_Lz, rfl, rfl, fun h => absurd h (by decide)⟩
theorem fp_Lz_25 : mFp R_Lz 25 7 4 .int false := ⟨R_Lz, T_Lz, 5, ty_Lz, rfl, by decide, in_Lz, Or.inl (mg_of (i := 222) (by decide +kernel) rfl), tyok_Lz, nm_Lz, rfl, rfl, fun h => absurd h (by decide)⟩
theorem fp_Lz_22 : mFp R_Lz 22 7 3 .int false := ⟨R_Lz, T_Lz, 5, ty_Lz, rfl, by decide, in_Lz, Or.inl (mg_of (i := 221) (by decide +kernel) rfl), tyok_Lz, nm_Lz, rfl, rfl, fun h => absurd h (by decide)⟩
theorem fp_T8_9 : mFp R_T8 9 9 0 .long false := ⟨R_T8, T_T8, 2, ty_T8, rfl, by decide, in_T8, Or.inl (mg_of (i := 240) (by decide +kernel) rfl), tyok_T8, nm_T8, rfl, rfl, fun h => absurd h (by decide)⟩
theorem fp_T8_15 : mFp R_T8 15 9 1 .int false := ⟨R_T8, T_T8, 2, ty_T8, rfl, by decide, in_T8, Or.inl (mg_of (i := 241) (by decide +kernel) rfl), tyok_T8, nm_T8, rfl, rfl, fun h => absurd h (by decide)⟩
theorem lk_Co_38 : mLk R_Co 38 y_Co_isLength := Or.inl (mg_of (i := 190) (by decide +kernel) rfl)
theorem lk_Co_34 : mLk R_Co 34 y_Co_count := Or.inl (mg_of (i := 186) (by decide +kernel) rfl)
theorem lk_By_23 : mLk R_By 23 y_By_add := Or.inl (mg_of (i := 347) (by decide +kernel) rfl)
theorem lk_SF_100 : mLk R_SF 100 y_By_addFour := Or.inl (mg_of (i := 343) (by decide +kernel) rfl)
theorem lk_SF_143 : mLk R_SF 143 y_SF_isPredictor := Or.inl (mg_of (i := 778) (by decide +kernel) rfl)
theorem lk_Li_64 : mLk R_Li 64 y_By_byteAt := Or.inl (mg_of (i := 596) (by decide +kernel) rfl)
theorem lk_Li_68 : mLk R_Li 68 y_Li_shiftOf := Or.inl (mg_of (i := 597) (by decide +kernel) rfl)
theorem lk_Li_71 : mLk R_Li 71 y_Li_mask := Or.inl (mg_of (i := 601) (by decide +kernel) rfl)
theorem lk_Li_74 : mLk R_Li 74 y_By_change := Or.inl (mg_of (i := 609) (by decide +kernel) rfl)
theorem lk_Li_44 : mLk R_Li 44 y_Li_rowSize := Or.inl (mg_of (i := 586) (by decide +kernel) rfl)
theorem lk_Li_56 : mLk R_Li 56 y_Li_numberAt := Or.inl (mg_of (i := 592) (by decide +kernel) rfl)
theorem lk_Li_60 : mLk R_Li 60 y_Li_setNumber := Or.inl (mg_of (i := 605) (by decide +kernel) rfl)
theorem lk_Li_86 : mLk R_Li 86 y_Li_nearest := Or.inl (mg_of (i := 624) (by decide +kernel) rfl)
theorem lk_Li_82 : mLk R_Li 82 y_Li_guessOf := Or.inl (mg_of (i := 621) (by decide +kernel) rfl)
theorem lk_Li_78 : mLk R_Li 78 y_Li_undoRow := Or.inl (mg_of (i := 617) (by decide +kernel) rfl)
theorem lk_Li_34 : mLk R_Li 34 y_Li_undoTags := Or.inl (mg_of (i := 613) (by decide +kernel) rfl)
theorem lk_Li_30 : mLk R_Li 30 y_Li_undoNumbers := Or.inl (mg_of (i := 582) (by decide +kernel) rfl)
theorem lk_SF_115 : mLk R_SF 115 y_By_byteAt := Or.inl (mg_of (i := 634) (by decide +kernel) rfl)
theorem lk_SF_169 : mLk R_SF 169 y_By_become := Or.inl (mg_of (i := 363) (by decide +kernel) rfl)
theorem lk_Mo_75 : mLk R_Mo 75 y_Mo_isIn := Or.inl (mg_of (i := 916) (by decide +kernel) rfl)
theorem lk_Mo_79 : mLk R_Mo 79 y_Mo_refused := Or.inl (mg_of (i := 919) (by decide +kernel) rfl)
theorem lk_Mo_89 : mLk R_Mo 89 y_Mo_isGood := Or.inl (mg_of (i := 947) (by decide +kernel) rfl)
theorem lk_Mo_99 : mLk R_Mo 99 y_Mo_fail := Or.inl (mg_of (i := 963) (by decide +kernel) rfl)
theorem lk_Mo_112 : mLk R_Mo 112 y_Mo_next := Or.inl (mg_of (i := 959) (by decide +kernel) rfl)
theorem lk_Mo_119 : mLk R_Mo 119 y_Mo_bit := Or.inl (mg_of (i := 967) (by decide +kernel) rfl)
theorem lk_Mo_123 : mLk R_Mo 123 y_Mo_makeCodes := Or.inl (mg_of (i := 992) (by decide +kernel) rfl)
theorem lk_Mo_141 : mLk R_Mo 141 y_Mo_symbol := Or.inl (mg_of (i := 1000) (by decide +kernel) rfl)
theorem lk_Mo_127 : mLk R_Mo 127 y_Mo_number := Or.inl (mg_of (i := 971) (by decide +kernel) rfl)
theorem lk_Mo_138 : mLk R_Mo 138 y_Mo_readLengths := Or.inl (mg_of (i := 1032) (by decide +kernel) rfl)
theorem lk_Mo_134 : mLk R_Mo 134 y_Mo_isWhole := Or.inl (mg_of (i := 1027) (by decide +kernel) rfl)
theorem lk_Mo_131 : mLk R_Mo 131 y_Mo_orderOf := Or.inl (mg_of (i := 1024) (by decide +kernel) rfl)
theorem lk_Mo_145 : mLk R_Mo 145 y_Mo_lengthBits := Or.inl (mg_of (i := 1011) (by decide +kernel) rfl)
theorem lk_Mo_148 : mLk R_Mo 148 y_Mo_distanceBits := Or.inl (mg_of (i := 1017) (by decide +kernel) rfl)
theorem lk_Mo_151 : mLk R_Mo 151 y_Mo_lengthOf := Or.inl (mg_of (i := 1008) (by decide +kernel) rfl)
theorem lk_Mo_157 : mLk R_Mo 157 y_Mo_give := Or.inl (mg_of (i := 984) (by decide +kernel) rfl)
theorem lk_Mo_154 : mLk R_Mo 154 y_Mo_distanceOf := Or.inl (mg_of (i := 1014) (by decide +kernel) rfl)
theorem lk_Mo_160 : mLk R_Mo 160 y_Mo_match := Or.inl (mg_of (i := 1004) (by decide +kernel) rfl)
theorem lk_Mo_173 : mLk R_Mo 173 y_Mo_stored := Or.inl (mg_of (i := 979) (by decide +kernel) rfl)
theorem lk_Mo_176 : mLk R_Mo 176 y_Mo_fixCodes := Or.inl (mg_of (i := 988) (by decide +kernel) rfl)
theorem lk_Mo_179 : mLk R_Mo 179 y_Mo_coded := Or.inl (mg_of (i := 996) (by decide +kernel) rfl)
theorem lk_Mo_182 : mLk R_Mo 182 y_Mo_readCodes := Or.inl (mg_of (i := 1020) (by decide +kernel) rfl)
theorem lk_Mo_169 : mLk R_Mo 169 y_Mo_check := Or.inl (mg_of (i := 1037) (by decide +kernel) rfl)
theorem lk_Mo_164 : mLk R_Mo 164 y_Mo_block := Or.inl (mg_of (i := 975) (by decide +kernel) rfl)
theorem lk_Mo_189 : mLk R_Mo 189 y_Mo_widthOf := Or.inl (mg_of (i := 1047) (by decide +kernel) rfl)
theorem lk_Mo_192 : mLk R_Mo 192 y_Mo_wideCode := Or.inl (mg_of (i := 1050) (by decide +kernel) rfl)
theorem lk_Mo_198 : mLk R_Mo 198 y_Mo_byteOf := Or.inl (mg_of (i := 1058) (by decide +kernel) rfl)
theorem lk_Mo_195 : mLk R_Mo 195 y_Mo_firstOf := Or.inl (mg_of (i := 1054) (by decide +kernel) rfl)
theorem lk_Mo_212 : mLk R_Mo 212 y_Mo_giveWord := Or.inl (mg_of (i := 1071) (by decide +kernel) rfl)
theorem lk_Mo_205 : mLk R_Mo 205 y_Mo_isWhite := Or.inl (mg_of (i := 1066) (by decide +kernel) rfl)
theorem lk_Mo_218 : mLk R_Mo 218 y_Mo_digit := Or.inl (mg_of (i := 1082) (by decide +kernel) rfl)
theorem lk_Mo_221 : mLk R_Mo 221 y_Mo_bitAt := Or.inl (mg_of (i := 1101) (by decide +kernel) rfl)
theorem lk_Mo_224 : mLk R_Mo 224 y_Mo_rowBytes := Or.inl (mg_of (i := 1093) (by decide +kernel) rfl)
theorem lk_Mo_227 : mLk R_Mo 227 y_Mo_numberAt := Or.inl (mg_of (i := 1097) (by decide +kernel) rfl)
theorem lk_Mo_231 : mLk R_Mo 231 y_Mo_setNumber := Or.inl (mg_of (i := 1105) (by decide +kernel) rfl)
theorem lk_Mo_235 : mLk R_Mo 235 y_Mo_far := Or.inl (mg_of (i := 1119) (by decide +kernel) rfl)
theorem lk_Mo_238 : mLk R_Mo 238 y_Mo_nearest := Or.inl (mg_of (i := 1116) (by decide +kernel) rfl)
theorem lk_Mo_241 : mLk R_Mo 241 y_Mo_added := Or.inl (mg_of (i := 1113) (by decide +kernel) rfl)
theorem lk_Mo_245 : mLk R_Mo 245 y_Mo_flate := Or.inl (mg_of (i := 955) (by decide +kernel) rfl)
theorem lk_Mo_263 : mLk R_Mo 263 y_Mo_undoRows := Or.inl (mg_of (i := 1109) (by decide +kernel) rfl)
theorem lk_Mo_260 : mLk R_Mo 260 y_Mo_addRows := Or.inl (mg_of (i := 1089) (by decide +kernel) rfl)
theorem lk_Mo_248 : mLk R_Mo 248 y_Mo_lzw := Or.inl (mg_of (i := 1043) (by decide +kernel) rfl)
theorem lk_Mo_251 : mLk R_Mo 251 y_Mo_text85 := Or.inl (mg_of (i := 1062) (by decide +kernel) rfl)
theorem lk_Mo_254 : mLk R_Mo 254 y_Mo_hexadecimal := Or.inl (mg_of (i := 1078) (by decide +kernel) rfl)
theorem lk_Mo_257 : mLk R_Mo 257 y_Mo_runs := Or.inl (mg_of (i := 1085) (by decide +kernel) rfl)
theorem lk_Mo_266 : mLk R_Mo 266 y_Mo_run := Or.inl (mg_of (i := 951) (by decide +kernel) rfl)
theorem lk_Pa_47 : mLk R_Pa 47 y_Pa_nextByte := Or.inl (mg_of (i := 407) (by decide +kernel) rfl)
theorem lk_Co_49 : mLk R_Co 49 y_Pa_fail := Or.inl (mg_of (i := 433) (by decide +kernel) rfl)
theorem lk_Co_43 : mLk R_Co 43 y_Pa_nextBit := Or.inl (mg_of (i := 432) (by decide +kernel) rfl)
theorem lk_Fl_72 : mLk R_Fl 72 y_Pa_nextByte := Or.inl (mg_of (i := 390) (by decide +kernel) rfl)
theorem lk_Fl_64 : mLk R_Fl 64 y_Pa_fail := Or.inl (mg_of (i := 394) (by decide +kernel) rfl)
theorem lk_Pa_55 : mLk R_Pa 55 y_Pa_nextBit := Or.inl (mg_of (i := 403) (by decide +kernel) rfl)
theorem lk_Pa_62 : mLk R_Pa 62 y_By_add := Or.inl (mg_of (i := 424) (by decide +kernel) rfl)
theorem lk_Pa_59 : mLk R_Pa 59 y_Pa_fail := Or.inl (mg_of (i := 423) (by decide +kernel) rfl)
theorem lk_Pa_65 : mLk R_Pa 65 y_Pa_give := Or.inl (mg_of (i := 419) (by decide +kernel) rfl)
theorem lk_Fl_76 : mLk R_Fl 76 y_Fl_readShort := Or.inl (mg_of (i := 411) (by decide +kernel) rfl)
theorem lk_Fl_81 : mLk R_Fl 81 y_Pa_giveAsTheyAre := Or.inl (mg_of (i := 415) (by decide +kernel) rfl)
theorem lk_Fl_98 : mLk R_Fl 98 y_Co_read := Or.inl (mg_of (i := 428) (by decide +kernel) rfl)
theorem lk_Fl_48 : mLk R_Fl 48 y_Pa_lowNumber := Or.inl (mg_of (i := 399) (by decide +kernel) rfl)
theorem lk_Pa_68 : mLk R_Pa 68 y_By_byteAt := Or.inl (mg_of (i := 453) (by decide +kernel) rfl)
theorem lk_Fl_118 : mLk R_Fl 118 y_Fl_readDistance := Or.inl (mg_of (i := 442) (by decide +kernel) rfl)
theorem lk_Fl_132 : mLk R_Fl 132 y_Pa_giveAgain := Or.inl (mg_of (i := 449) (by decide +kernel) rfl)
theorem lk_Fl_108 : mLk R_Fl 108 y_Fl_copy := Or.inl (mg_of (i := 435) (by decide +kernel) rfl)
theorem lk_Fl_105 : mLk R_Fl 105 y_Pa_give := Or.inl (mg_of (i := 434) (by decide +kernel) rfl)
theorem lk_Fl_39 : mLk R_Fl 39 y_Co_build := Or.inl (mg_of (i := 182) (by decide +kernel) rfl)
theorem lk_Fl_91 : mLk R_Fl 91 y_Co_isGood := Or.inl (mg_of (i := 465) (by decide +kernel) rfl)
theorem lk_Fl_101 : mLk R_Fl 101 y_Fl_readTimes := Or.inl (mg_of (i := 474) (by decide +kernel) rfl)
theorem lk_Fl_84 : mLk R_Fl 84 y_Fl_readLengthCodes := Or.inl (mg_of (i := 461) (by decide +kernel) rfl)
theorem lk_Fl_88 : mLk R_Fl 88 y_Fl_readLengths := Or.inl (mg_of (i := 470) (by decide +kernel) rfl)
theorem lk_Fl_95 : mLk R_Fl 95 y_Co_isEmpty := Or.inl (mg_of (i := 477) (by decide +kernel) rfl)
theorem lk_Fl_148 : mLk R_Fl 148 y_By_byteAt := Or.inl (mg_of (i := 488) (by decide +kernel) rfl)
theorem lk_Fl_144 : mLk R_Fl 144 y_Fl_checkOf := Or.inl (mg_of (i := 485) (by decide +kernel) rfl)
theorem lk_Fl_43 : mLk R_Fl 43 y_Fl_readHeader := Or.inl (mg_of (i := 387) (by decide +kernel) rfl)
theorem lk_Fl_68 : mLk R_Fl 68 y_Fl_compareCheck := Or.inl (mg_of (i := 481) (by decide +kernel) rfl)
theorem lk_Fl_54 : mLk R_Fl 54 y_Fl_unpackStored := Or.inl (mg_of (i := 408) (by decide +kernel) rfl)
theorem lk_Fl_57 : mLk R_Fl 57 y_Fl_unpackCodes := Or.inl (mg_of (i := 425) (by decide +kernel) rfl)
theorem lk_Fl_61 : mLk R_Fl 61 y_Fl_readCodes := Or.inl (mg_of (i := 457) (by decide +kernel) rfl)
theorem lk_Pa_51 : mLk R_Pa 51 y_Pa_isBlank := Or.inl (mg_of (i := 500) (by decide +kernel) rfl)
theorem lk_Hx_10 : mLk R_Hx 10 y_Pa_nextSign := Or.inl (mg_of (i := 495) (by decide +kernel) rfl)
theorem lk_Hx_18 : mLk R_Hx 18 y_Hx_digitOf := Or.inl (mg_of (i := 503) (by decide +kernel) rfl)
theorem lk_Hx_26 : mLk R_Hx 26 y_Pa_give := Or.inl (mg_of (i := 507) (by decide +kernel) rfl)
theorem lk_Hx_22 : mLk R_Hx 22 y_Pa_fail := Or.inl (mg_of (i := 506) (by decide +kernel) rfl)
theorem lk_Le_10 : mLk R_Le 10 y_Pa_nextByte := Or.inl (mg_of (i := 512) (by decide +kernel) rfl)
theorem lk_Le_26 : mLk R_Le 26 y_Pa_giveTimes := Or.inl (mg_of (i := 517) (by decide +kernel) rfl)
theorem lk_Le_22 : mLk R_Le 22 y_Le_giveRun := Or.inl (mg_of (i := 514) (by decide +kernel) rfl)
theorem lk_Le_18 : mLk R_Le 18 y_Pa_giveAsTheyAre := Or.inl (mg_of (i := 513) (by decide +kernel) rfl)
theorem lk_Lz_54 : mLk R_Lz 54 y_Lz_sizeOf := Or.inl (mg_of (i := 540) (by decide +kernel) rfl)
theorem lk_Lz_64 : mLk R_Lz 64 y_Lz_startOf := Or.inl (mg_of (i := 546) (by decide +kernel) rfl)
theorem lk_Lz_67 : mLk R_Lz 67 y_Pa_giveAgain := Or.inl (mg_of (i := 550) (by decide +kernel) rfl)
theorem lk_Lz_71 : mLk R_Lz 71 y_Lz_makeString := Or.inl (mg_of (i := 551) (by decide +kernel) rfl)
theorem lk_Lz_61 : mLk R_Lz 61 y_Pa_give := Or.inl (mg_of (i := 545) (by decide +kernel) rfl)
theorem lk_Lz_57 : mLk R_Lz 57 y_Pa_fail := Or.inl (mg_of (i := 544) (by decide +kernel) rfl)
theorem lk_Lz_28 : mLk R_Lz 28 y_Lz_clear := Or.inl (mg_of (i := 524) (by decide +kernel) rfl)
theorem lk_Lz_32 : mLk R_Lz 32 y_Lz_widthFor := Or.inl (mg_of (i := 529) (by decide +kernel) rfl)
theorem lk_Lz_36 : mLk R_Lz 36 y_Pa_highNumber := Or.inl (mg_of (i := 532) (by decide +kernel) rfl)
theorem lk_Lz_41 : mLk R_Lz 41 y_Lz_giveString := Or.inl (mg_of (i := 536) (by decide +kernel) rfl)
theorem lk_T8_50 : mLk R_T8 50 y_Pa_give := Or.inl (mg_of (i := 576) (by decide +kernel) rfl)
theorem lk_T8_42 : mLk R_T8 42 y_Pa_fail := Or.inl (mg_of (i := 565) (by decide +kernel) rfl)
theorem lk_T8_53 : mLk R_T8 53 y_Pa_nextByte := Or.inl (mg_of (i := 564) (by decide +kernel) rfl)
theorem lk_T8_34 : mLk R_T8 34 y_T8_giveNumber := Or.inl (mg_of (i := 571) (by decide +kernel) rfl)
theorem lk_T8_30 : mLk R_T8 30 y_T8_addDigit := Or.inl (mg_of (i := 566) (by decide +kernel) rfl)
theorem lk_T8_20 : mLk R_T8 20 y_Pa_nextSign := Or.inl (mg_of (i := 559) (by decide +kernel) rfl)
theorem lk_T8_38 : mLk R_T8 38 y_Pa_giveTimes := Or.inl (mg_of (i := 577) (by decide +kernel) rfl)
theorem lk_T8_26 : mLk R_T8 26 y_T8_finish := Or.inl (mg_of (i := 560) (by decide +kernel) rfl)
theorem cw_Co_isLength : mCw y_Co_isLength b_Co_isLength 1 (some .boolean) 1 := ⟨mg_of (i := 192) (by decide +kernel) rfl, mg_of (i := 64) (by decide +kernel) rfl, ⟨by decide +kernel, by decide +kernel⟩, by decide +kernel⟩
theorem st_Co_isLength : Cond.static y_Co_isLength ∈ mGood := mg_of (i := 191) (by decide +kernel) rfl
theorem cw_Co_count : mCw y_Co_count b_Co_count 6 none 3 := ⟨mg_of (i := 189) (by decide +kernel) rfl, mg_of (i := 64) (by decide +kernel) rfl, ⟨by decide +kernel, by decide +kernel⟩, by decide +kernel⟩
theorem in_Co_count : Cond.instanceMethod y_Co_count ∈ mGood := mg_of (i := 188) (by decide +kernel) rfl
theorem se_Co_count : Cond.selects R_Co y_Co_count y_Co_count ∈ mGood := mg_of (i := 0) (by decide +kernel) rfl
theorem cw_Co_build : mCw y_Co_build b_Co_build 6 none 3 := ⟨mg_of (i := 185) (by decide +kernel) rfl, mg_of (i := 64) (by decide +kernel) rfl, ⟨by decide +kernel, by decide +kernel⟩, by decide +kernel⟩
theorem in_Co_build : Cond.instanceMethod y_Co_build ∈ mGood := mg_of (i := 183) (by decide +kernel) rfl
theorem se_Co_build : Cond.selects R_Co y_Co_build y_Co_build ∈ mGood := mg_of (i := 184) (by decide +kernel) rfl
theorem cw_By_add : mCw y_By_add b_By_add 2 none 1 := ⟨mg_of (i := 350) (by decide +kernel) rfl, mg_of (i := 59) (by decide +kernel) rfl, ⟨by decide +kernel, by decide +kernel⟩, by decide +kernel⟩
theorem in_By_add : Cond.instanceMethod y_By_add ∈ mGood := mg_of (i := 348) (by decide +kernel) rfl
theorem se_By_add : Cond.selects R_By y_By_add y_By_add ∈ mGood := mg_of (i := 349) (by decide +kernel) rfl
theorem cw_By_addFour : mCw y_By_addFour b_By_addFour 3 none 1 := ⟨mg_of (i := 346) (by decide +kernel) rfl, mg_of (i := 59) (by decide +kernel) rfl, ⟨by decide +kernel, by decide +kernel⟩, by decide +kernel⟩
theorem in_By_addFour : Cond.instanceMethod y_By_addFour ∈ mGood := mg_of (i := 344) (by decide +kernel) rfl
theorem se_By_addFour : Cond.selects R_By y_By_addFour y_By_addFour ∈ mGood := mg_of (i := 345) (by decide +kernel) rfl
theorem cw_SF_feed : mCw y_SF_feed b_SF_feed 6 (some .int) 5 := ⟨mg_of (i := 342) (by decide +kernel) rfl, mg_of (i := 58) (by decide +kernel) rfl, ⟨by decide +kernel, by decide +kernel⟩, by decide +kernel⟩
theorem in_SF_feed : Cond.instanceMethod y_SF_feed ∈ mGood := mg_of (i := 340) (by decide +kernel) rfl
theorem se_SF_feed : Cond.selects R_SF y_SF_feed y_SF_feed ∈ mGood := mg_of (i := 341) (by decide +kernel) rfl
theorem cw_By_byteAt : mCw y_By_byteAt b_By_byteAt 2 (some .int) 1 := ⟨mg_of (i := 456) (by decide +kernel) rfl, mg_of (i := 59) (by decide +kernel) rfl, ⟨by decide +kernel, by decide +kernel⟩, by decide +kernel⟩
theorem in_By_byteAt : Cond.instanceMethod y_By_byteAt ∈ mGood := mg_of (i := 454) (by decide +kernel) rfl
theorem se_By_byteAt : Cond.selects R_By y_By_byteAt y_By_byteAt ∈ mGood := mg_of (i := 455) (by decide +kernel) rfl
theorem cw_By_change : mCw y_By_change b_By_change 3 none 2 := ⟨mg_of (i := 612) (by decide +kernel) rfl, mg_of (i := 59) (by decide +kernel) rfl, ⟨by decide +kernel, by decide +kernel⟩, by decide +kernel⟩
theorem in_By_change : Cond.instanceMethod y_By_change ∈ mGood := mg_of (i := 610) (by decide +kernel) rfl
theorem se_By_change : Cond.selects R_By y_By_change y_By_change ∈ mGood := mg_of (i := 611) (by decide +kernel) rfl
theorem cw_Li_begin : mCw y_Li_begin b_Li_begin 3 none 2 := ⟨mg_of (i := 770) (by decide +kernel) rfl, mg_of (i := 69) (by decide +kernel) rfl, ⟨by decide +kernel, by decide +kernel⟩, by decide +kernel⟩
theorem in_Li_begin : Cond.instanceMethod y_Li_begin ∈ mGood := mg_of (i := 768) (by decide +kernel) rfl
theorem se_Li_begin : Cond.selects R_Li y_Li_begin y_Li_begin ∈ mGood := mg_of (i := 769) (by decide +kernel) rfl
theorem cw_SF_isPredictor : mCw y_SF_isPredictor b_SF_isPredictor 1 (some .boolean) 1 := ⟨mg_of (i := 780) (by decide +kernel) rfl, mg_of (i := 58) (by decide +kernel) rfl, ⟨by decide +kernel, by decide +kernel⟩, by decide +kernel⟩
theorem st_SF_isPredictor : Cond.static y_SF_isPredictor ∈ mGood := mg_of (i := 779) (by decide +kernel) rfl
theorem cw_SF_isBits : mCw y_SF_isBits b_SF_isBits 1 (some .boolean) 1 := ⟨mg_of (i := 784) (by decide +kernel) rfl, mg_of (i := 58) (by decide +kernel) rfl, ⟨by decide +kernel, by decide +kernel⟩, by decide +kernel⟩
theorem st_SF_isBits : Cond.static y_SF_isBits ∈ mGood := mg_of (i := 783) (by decide +kernel) rfl
theorem cw_Li_shape : mCw y_Li_shape b_Li_shape 5 none 4 := ⟨mg_of (i := 790) (by decide +kernel) rfl, mg_of (i := 69) (by decide +kernel) rfl, ⟨by decide +kernel, by decide +kernel⟩, by decide +kernel⟩
theorem in_Li_shape : Cond.instanceMethod y_Li_shape ∈ mGood := mg_of (i := 788) (by decide +kernel) rfl
theorem se_Li_shape : Cond.selects R_Li y_Li_shape y_Li_shape ∈ mGood := mg_of (i := 789) (by decide +kernel) rfl
theorem cw_SF_drop : mCw y_SF_drop b_SF_drop 2 (some .int) 0 := ⟨mg_of (i := 354) (by decide +kernel) rfl, mg_of (i := 58) (by decide +kernel) rfl, ⟨by decide +kernel, by decide +kernel⟩, by decide +kernel⟩
theorem in_SF_drop : Cond.instanceMethod y_SF_drop ∈ mGood := mg_of (i := 352) (by decide +kernel) rfl
theorem se_SF_drop : Cond.selects R_SF y_SF_drop y_SF_drop ∈ mGood := mg_of (i := 353) (by decide +kernel) rfl
theorem cw_SF_noteFault : mCw y_SF_noteFault b_SF_noteFault 4 none 3 := ⟨mg_of (i := 362) (by decide +kernel) rfl, mg_of (i := 58) (by decide +kernel) rfl, ⟨by decide +kernel, by decide +kernel⟩, by decide +kernel⟩
theorem in_SF_noteFault : Cond.instanceMethod y_SF_noteFault ∈ mGood := mg_of (i := 361) (by decide +kernel) rfl
theorem se_SF_noteFault : Cond.selects R_SF y_SF_noteFault y_SF_noteFault ∈ mGood := mg_of (i := 1) (by decide +kernel) rfl
theorem cw_By_become : mCw y_By_become b_By_become 2 none 1 := ⟨mg_of (i := 366) (by decide +kernel) rfl, mg_of (i := 59) (by decide +kernel) rfl, ⟨by decide +kernel, by decide +kernel⟩, by decide +kernel⟩
theorem in_By_become : Cond.instanceMethod y_By_become ∈ mGood := mg_of (i := 364) (by decide +kernel) rfl
theorem se_By_become : Cond.selects R_By y_By_become y_By_become ∈ mGood := mg_of (i := 365) (by decide +kernel) rfl
theorem cw_Pa_begin : mCw y_Pa_begin b_Pa_begin 3 none 2 := ⟨mg_of (i := 376) (by decide +kernel) rfl, mg_of (i := 61) (by decide +kernel) rfl, ⟨by decide +kernel, by decide +kernel⟩, by decide +kernel⟩
theorem in_Pa_begin : Cond.instanceMethod y_Pa_begin ∈ mGood := mg_of (i := 374) (by decide +kernel) rfl
theorem se_Pa_begin : Cond.selects R_Pa y_Pa_begin y_Pa_begin ∈ mGood := mg_of (i := 375) (by decide +kernel) rfl
theorem cw_SF_unpackerOf : mCw y_SF_unpackerOf b_SF_unpackerOf 2 (some (.object "StreamFilters$Unpacker")) 1 := ⟨mg_of (i := 380) (by decide +kernel) rfl, mg_of (i := 58) (by decide +kernel) rfl, ⟨by decide +kernel, by decide +kernel⟩, by decide +kernel⟩
theorem in_SF_unpackerOf : Cond.instanceMethod y_SF_unpackerOf ∈ mGood := mg_of (i := 379) (by decide +kernel) rfl
theorem se_SF_unpackerOf : Cond.selects R_SF y_SF_unpackerOf y_SF_unpackerOf ∈ mGood := mg_of (i := 2) (by decide +kernel) rfl
theorem cw_Li_rowSize : mCw y_Li_rowSize b_Li_rowSize 1 (some .int) 0 := ⟨mg_of (i := 589) (by decide +kernel) rfl, mg_of (i := 69) (by decide +kernel) rfl, ⟨by decide +kernel, by decide +kernel⟩, by decide +kernel⟩
theorem in_Li_rowSize : Cond.instanceMethod y_Li_rowSize ∈ mGood := mg_of (i := 588) (by decide +kernel) rfl
theorem se_Li_rowSize : Cond.selects R_Li y_Li_rowSize y_Li_rowSize ∈ mGood := mg_of (i := 15) (by decide +kernel) rfl
theorem cw_Li_shiftOf : mCw y_Li_shiftOf b_Li_shiftOf 2 (some .int) 1 := ⟨mg_of (i := 600) (by decide +kernel) rfl, mg_of (i := 69) (by decide +kernel) rfl, ⟨by decide +kernel, by decide +kernel⟩, by decide +kernel⟩
theorem in_Li_shiftOf : Cond.instanceMethod y_Li_shiftOf ∈ mGood := mg_of (i := 599) (by decide +kernel) rfl
theorem se_Li_shiftOf : Cond.selects R_Li y_Li_shiftOf y_Li_shiftOf ∈ mGood := mg_of (i := 17) (by decide +kernel) rfl
theorem cw_Li_mask : mCw y_Li_mask b_Li_mask 1 (some .int) 0 := ⟨mg_of (i := 604) (by decide +kernel) rfl, mg_of (i := 69) (by decide +kernel) rfl, ⟨by decide +kernel, by decide +kernel⟩, by decide +kernel⟩
theorem in_Li_mask : Cond.instanceMethod y_Li_mask ∈ mGood := mg_of (i := 603) (by decide +kernel) rfl
theorem se_Li_mask : Cond.selects R_Li y_Li_mask y_Li_mask ∈ mGood := mg_of (i := 18) (by decide +kernel) rfl
theorem cw_Li_numberAt : mCw y_Li_numberAt b_Li_numberAt 5 (some .int) 3 := ⟨mg_of (i := 595) (by decide +kernel) rfl, mg_of (i := 69) (by decide +kernel) rfl, ⟨by decide +kernel, by decide +kernel⟩, by decide +kernel⟩
theorem in_Li_numberAt : Cond.instanceMethod y_Li_numberAt ∈ mGood := mg_of (i := 594) (by decide +kernel) rfl
theorem se_Li_numberAt : Cond.selects R_Li y_Li_numberAt y_Li_numberAt ∈ mGood := mg_of (i := 16) (by decide +kernel) rfl
theorem cw_Li_setNumber : mCw y_Li_setNumber b_Li_setNumber 7 none 4 := ⟨mg_of (i := 608) (by decide +kernel) rfl, mg_of (i := 69) (by decide +kernel) rfl, ⟨by decide +kernel, by decide +kernel⟩, by decide +kernel⟩
theorem in_Li_setNumber : Cond.instanceMethod y_Li_setNumber ∈ mGood := mg_of (i := 607) (by decide +kernel) rfl
theorem se_Li_setNumber : Cond.selects R_Li y_Li_setNumber y_Li_setNumber ∈ mGood := mg_of (i := 19) (by decide +kernel) rfl
theorem cw_Li_undoNumbers : mCw y_Li_undoNumbers b_Li_undoNumbers 8 none 1 := ⟨mg_of (i := 585) (by decide +kernel) rfl, mg_of (i := 69) (by decide +kernel) rfl, ⟨by decide +kernel, by decide +kernel⟩, by decide +kernel⟩
theorem in_Li_undoNumbers : Cond.instanceMethod y_Li_undoNumbers ∈ mGood := mg_of (i := 584) (by decide +kernel) rfl
theorem se_Li_undoNumbers : Cond.selects R_Li y_Li_undoNumbers y_Li_undoNumbers ∈ mGood := mg_of (i := 14) (by decide +kernel) rfl
theorem cw_Li_nearest : mCw y_Li_nearest b_Li_nearest 7 (some .int) 3 := ⟨mg_of (i := 626) (by decide +kernel) rfl, mg_of (i := 69) (by decide +kernel) rfl, ⟨by decide +kernel, by decide +kernel⟩, by decide +kernel⟩
theorem st_Li_nearest : Cond.static y_Li_nearest ∈ mGood := mg_of (i := 625) (by decide +kernel) rfl
theorem cw_Li_guessOf : mCw y_Li_guessOf b_Li_guessOf 4 (some .int) 4 := ⟨mg_of (i := 623) (by decide +kernel) rfl, mg_of (i := 69) (by decide +kernel) rfl, ⟨by decide +kernel, by decide +kernel⟩, by decide +kernel⟩
theorem st_Li_guessOf : Cond.static y_Li_guessOf ∈ mGood := mg_of (i := 622) (by decide +kernel) rfl
theorem cw_Li_undoRow : mCw y_Li_undoRow b_Li_undoRow 16 none 5 := ⟨mg_of (i := 620) (by decide +kernel) rfl, mg_of (i := 69) (by decide +kernel) rfl, ⟨by decide +kernel, by decide +kernel⟩, by decide +kernel⟩
theorem in_Li_undoRow : Cond.instanceMethod y_Li_undoRow ∈ mGood := mg_of (i := 619) (by decide +kernel) rfl
theorem se_Li_undoRow : Cond.selects R_Li y_Li_undoRow y_Li_undoRow ∈ mGood := mg_of (i := 21) (by decide +kernel) rfl
theorem cw_Li_undoTags : mCw y_Li_undoTags b_Li_undoTags 8 (some .boolean) 1 := ⟨mg_of (i := 616) (by decide +kernel) rfl, mg_of (i := 69) (by decide +kernel) rfl, ⟨by decide +kernel, by decide +kernel⟩, by decide +kernel⟩
theorem in_Li_undoTags : Cond.instanceMethod y_Li_undoTags ∈ mGood := mg_of (i := 615) (by decide +kernel) rfl
theorem se_Li_undoTags : Cond.selects R_Li y_Li_undoTags y_Li_undoTags ∈ mGood := mg_of (i := 20) (by decide +kernel) rfl
theorem cw_Li_undo : mCw y_Li_undo b_Li_undo 2 (some .boolean) 1 := ⟨mg_of (i := 581) (by decide +kernel) rfl, mg_of (i := 69) (by decide +kernel) rfl, ⟨by decide +kernel, by decide +kernel⟩, by decide +kernel⟩
theorem in_Li_undo : Cond.instanceMethod y_Li_undo ∈ mGood := mg_of (i := 579) (by decide +kernel) rfl
theorem se_Li_undo : Cond.selects R_Li y_Li_undo y_Li_undo ∈ mGood := mg_of (i := 580) (by decide +kernel) rfl
theorem cw_SF_at : mCw y_SF_at b_SF_at 2 (some .int) 1 := ⟨mg_of (i := 633) (by decide +kernel) rfl, mg_of (i := 58) (by decide +kernel) rfl, ⟨by decide +kernel, by decide +kernel⟩, by decide +kernel⟩
theorem in_SF_at : Cond.instanceMethod y_SF_at ∈ mGood := mg_of (i := 631) (by decide +kernel) rfl
theorem se_SF_at : Cond.selects R_SF y_SF_at y_SF_at ∈ mGood := mg_of (i := 632) (by decide +kernel) rfl
theorem cw_SF_fault : mCw y_SF_fault b_SF_fault 2 (some .int) 1 := ⟨mg_of (i := 638) (by decide +kernel) rfl, mg_of (i := 58) (by decide +kernel) rfl, ⟨by decide +kernel, by decide +kernel⟩, by decide +kernel⟩
theorem in_SF_fault : Cond.instanceMethod y_SF_fault ∈ mGood := mg_of (i := 636) (by decide +kernel) rfl
theorem se_SF_fault : Cond.selects R_SF y_SF_fault y_SF_fault ∈ mGood := mg_of (i := 637) (by decide +kernel) rfl
theorem cw_Mo_refused : mCw y_Mo_refused b_Mo_refused 2 (some .boolean) 1 := ⟨mg_of (i := 922) (by decide +kernel) rfl, mg_of (i := 70) (by decide +kernel) rfl, ⟨by decide +kernel, by decide +kernel⟩, by decide +kernel⟩
theorem in_Mo_refused : Cond.instanceMethod y_Mo_refused ∈ mGood := mg_of (i := 921) (by decide +kernel) rfl
theorem se_Mo_refused : Cond.selects R_Mo y_Mo_refused y_Mo_refused ∈ mGood := mg_of (i := 23) (by decide +kernel) rfl
theorem cw_Mo_isIn : mCw y_Mo_isIn b_Mo_isIn 3 (some .boolean) 3 := ⟨mg_of (i := 918) (by decide +kernel) rfl, mg_of (i := 70) (by decide +kernel) rfl, ⟨by decide +kernel, by decide +kernel⟩, by decide +kernel⟩
theorem st_Mo_isIn : Cond.static y_Mo_isIn ∈ mGood := mg_of (i := 917) (by decide +kernel) rfl
theorem cw_Mo_feed : mCw y_Mo_feed b_Mo_feed 8 (some .int) 5 := ⟨mg_of (i := 911) (by decide +kernel) rfl, mg_of (i := 70) (by decide +kernel) rfl, ⟨by decide +kernel, by decide +kernel⟩, by decide +kernel⟩
theorem in_Mo_feed : Cond.instanceMethod y_Mo_feed ∈ mGood := mg_of (i := 909) (by decide +kernel) rfl
theorem se_Mo_feed : Cond.selects R_Mo y_Mo_feed y_Mo_feed ∈ mGood := mg_of (i := 910) (by decide +kernel) rfl
theorem cw_Mo_put : mCw y_Mo_put b_Mo_put 4 (some .int) 2 := ⟨mg_of (i := 915) (by decide +kernel) rfl, mg_of (i := 70) (by decide +kernel) rfl, ⟨by decide +kernel, by decide +kernel⟩, by decide +kernel⟩
theorem in_Mo_put : Cond.instanceMethod y_Mo_put ∈ mGood := mg_of (i := 913) (by decide +kernel) rfl
theorem se_Mo_put : Cond.selects R_Mo y_Mo_put y_Mo_put ∈ mGood := mg_of (i := 914) (by decide +kernel) rfl
theorem cw_Mo_cut : mCw y_Mo_cut b_Mo_cut 3 (some .int) 1 := ⟨mg_of (i := 926) (by decide +kernel) rfl, mg_of (i := 70) (by decide +kernel) rfl, ⟨by decide +kernel, by decide +kernel⟩, by decide +kernel⟩
theorem in_Mo_cut : Cond.instanceMethod y_Mo_cut ∈ mGood := mg_of (i := 924) (by decide +kernel) rfl
theorem se_Mo_cut : Cond.selects R_Mo y_Mo_cut y_Mo_cut ∈ mGood := mg_of (i := 925) (by decide +kernel) rfl
theorem cw_Mo_filter : mCw y_Mo_filter b_Mo_filter 3 (some .int) 2 := ⟨mg_of (i := 930) (by decide +kernel) rfl, mg_of (i := 70) (by decide +kernel) rfl, ⟨by decide +kernel, by decide +kernel⟩, by decide +kernel⟩
theorem in_Mo_filter : Cond.instanceMethod y_Mo_filter ∈ mGood := mg_of (i := 928) (by decide +kernel) rfl
theorem se_Mo_filter : Cond.selects R_Mo y_Mo_filter y_Mo_filter ∈ mGood := mg_of (i := 929) (by decide +kernel) rfl
theorem cw_Mo_predict : mCw y_Mo_predict b_Mo_predict 8 none 4 := ⟨mg_of (i := 934) (by decide +kernel) rfl, mg_of (i := 70) (by decide +kernel) rfl, ⟨by decide +kernel, by decide +kernel⟩, by decide +kernel⟩
theorem in_Mo_predict : Cond.instanceMethod y_Mo_predict ∈ mGood := mg_of (i := 932) (by decide +kernel) rfl
theorem se_Mo_predict : Cond.selects R_Mo y_Mo_predict y_Mo_predict ∈ mGood := mg_of (i := 933) (by decide +kernel) rfl
theorem cw_Mo_drop : mCw y_Mo_drop b_Mo_drop 2 (some .int) 0 := ⟨mg_of (i := 938) (by decide +kernel) rfl, mg_of (i := 70) (by decide +kernel) rfl, ⟨by decide +kernel, by decide +kernel⟩, by decide +kernel⟩
theorem in_Mo_drop : Cond.instanceMethod y_Mo_drop ∈ mGood := mg_of (i := 936) (by decide +kernel) rfl
theorem se_Mo_drop : Cond.selects R_Mo y_Mo_drop y_Mo_drop ∈ mGood := mg_of (i := 937) (by decide +kernel) rfl
theorem cw_Mo_budget : mCw y_Mo_budget b_Mo_budget 3 (some .int) 1 := ⟨mg_of (i := 942) (by decide +kernel) rfl, mg_of (i := 70) (by decide +kernel) rfl, ⟨by decide +kernel, by decide +kernel⟩, by decide +kernel⟩
theorem in_Mo_budget : Cond.instanceMethod y_Mo_budget ∈ mGood := mg_of (i := 940) (by decide +kernel) rfl
theorem se_Mo_budget : Cond.selects R_Mo y_Mo_budget y_Mo_budget ∈ mGood := mg_of (i := 941) (by decide +kernel) rfl
theorem cw_Mo_fail : mCw y_Mo_fail b_Mo_fail 2 none 1 := ⟨mg_of (i := 966) (by decide +kernel) rfl, mg_of (i := 70) (by decide +kernel) rfl, ⟨by decide +kernel, by decide +kernel⟩, by decide +kernel⟩
theorem in_Mo_fail : Cond.instanceMethod y_Mo_fail ∈ mGood := mg_of (i := 965) (by decide +kernel) rfl
theorem se_Mo_fail : Cond.selects R_Mo y_Mo_fail y_Mo_fail ∈ mGood := mg_of (i := 28) (by decide +kernel) rfl
theorem cw_Mo_isGood : mCw y_Mo_isGood b_Mo_isGood 1 (some .boolean) 0 := ⟨mg_of (i := 950) (by decide +kernel) rfl, mg_of (i := 70) (by decide +kernel) rfl, ⟨by decide +kernel, by decide +kernel⟩, by decide +kernel⟩
theorem in_Mo_isGood : Cond.instanceMethod y_Mo_isGood ∈ mGood := mg_of (i := 949) (by decide +kernel) rfl
theorem se_Mo_isGood : Cond.selects R_Mo y_Mo_isGood y_Mo_isGood ∈ mGood := mg_of (i := 24) (by decide +kernel) rfl
theorem cw_Mo_next : mCw y_Mo_next b_Mo_next 1 (some .int) 0 := ⟨mg_of (i := 962) (by decide +kernel) rfl, mg_of (i := 70) (by decide +kernel) rfl, ⟨by decide +kernel, by decide +kernel⟩, by decide +kernel⟩
theorem in_Mo_next : Cond.instanceMethod y_Mo_next ∈ mGood := mg_of (i := 961) (by decide +kernel) rfl
theorem se_Mo_next : Cond.selects R_Mo y_Mo_next y_Mo_next ∈ mGood := mg_of (i := 27) (by decide +kernel) rfl
theorem cw_Mo_give : mCw y_Mo_give b_Mo_give 2 none 1 := ⟨mg_of (i := 987) (by decide +kernel) rfl, mg_of (i := 70) (by decide +kernel) rfl, ⟨by decide +kernel, by decide +kernel⟩, by decide +kernel⟩
theorem in_Mo_give : Cond.instanceMethod y_Mo_give ∈ mGood := mg_of (i := 986) (by decide +kernel) rfl
theorem se_Mo_give : Cond.selects R_Mo y_Mo_give y_Mo_give ∈ mGood := mg_of (i := 33) (by decide +kernel) rfl
theorem cw_Mo_bit : mCw y_Mo_bit b_Mo_bit 2 (some .int) 0 := ⟨mg_of (i := 970) (by decide +kernel) rfl, mg_of (i := 70) (by decide +kernel) rfl, ⟨by decide +kernel, by decide +kernel⟩, by decide +kernel⟩
theorem in_Mo_bit : Cond.instanceMethod y_Mo_bit ∈ mGood := mg_of (i := 969) (by decide +kernel) rfl
theorem se_Mo_bit : Cond.selects R_Mo y_Mo_bit y_Mo_bit ∈ mGood := mg_of (i := 29) (by decide +kernel) rfl
theorem cw_Mo_number : mCw y_Mo_number b_Mo_number 4 (some .int) 1 := ⟨mg_of (i := 974) (by decide +kernel) rfl, mg_of (i := 70) (by decide +kernel) rfl, ⟨by decide +kernel, by decide +kernel⟩, by decide +kernel⟩
theorem in_Mo_number : Cond.instanceMethod y_Mo_number ∈ mGood := mg_of (i := 973) (by decide +kernel) rfl
theorem se_Mo_number : Cond.selects R_Mo y_Mo_number y_Mo_number ∈ mGood := mg_of (i := 30) (by decide +kernel) rfl
theorem cw_Mo_makeCodes : mCw y_Mo_makeCodes b_Mo_makeCodes 6 none 2 := ⟨mg_of (i := 995) (by decide +kernel) rfl, mg_of (i := 70) (by decide +kernel) rfl, ⟨by decide +kernel, by decide +kernel⟩, by decide +kernel⟩
theorem in_Mo_makeCodes : Cond.instanceMethod y_Mo_makeCodes ∈ mGood := mg_of (i := 994) (by decide +kernel) rfl
theorem se_Mo_makeCodes : Cond.selects R_Mo y_Mo_makeCodes y_Mo_makeCodes ∈ mGood := mg_of (i := 35) (by decide +kernel) rfl
theorem cw_Mo_isWhole : mCw y_Mo_isWhole b_Mo_isWhole 8 (some .boolean) 3 := ⟨mg_of (i := 1030) (by decide +kernel) rfl, mg_of (i := 70) (by decide +kernel) rfl, ⟨by decide +kernel, by decide +kernel⟩, by decide +kernel⟩
theorem in_Mo_isWhole : Cond.instanceMethod y_Mo_isWhole ∈ mGood := mg_of (i := 1029) (by decide +kernel) rfl
theorem se_Mo_isWhole : Cond.selects R_Mo y_Mo_isWhole y_Mo_isWhole ∈ mGood := mg_of (i := 40) (by decide +kernel) rfl
theorem cw_Mo_symbol : mCw y_Mo_symbol b_Mo_symbol 7 (some .int) 2 := ⟨mg_of (i := 1003) (by decide +kernel) rfl, mg_of (i := 70) (by decide +kernel) rfl, ⟨by decide +kernel, by decide +kernel⟩, by decide +kernel⟩
theorem in_Mo_symbol : Cond.instanceMethod y_Mo_symbol ∈ mGood := mg_of (i := 1002) (by decide +kernel) rfl
theorem se_Mo_symbol : Cond.selects R_Mo y_Mo_symbol y_Mo_symbol ∈ mGood := mg_of (i := 37) (by decide +kernel) rfl
theorem cw_Mo_fixCodes : mCw y_Mo_fixCodes b_Mo_fixCodes 2 none 0 := ⟨mg_of (i := 991) (by decide +kernel) rfl, mg_of (i := 70) (by decide +kernel) rfl, ⟨by decide +kernel, by decide +kernel⟩, by decide +kernel⟩
theorem in_Mo_fixCodes : Cond.instanceMethod y_Mo_fixCodes ∈ mGood := mg_of (i := 990) (by decide +kernel) rfl
theorem se_Mo_fixCodes : Cond.selects R_Mo y_Mo_fixCodes y_Mo_fixCodes ∈ mGood := mg_of (i := 34) (by decide +kernel) rfl
theorem cw_Mo_orderOf : mCw y_Mo_orderOf b_Mo_orderOf 1 (some .int) 1 := ⟨mg_of (i := 1026) (by decide +kernel) rfl, mg_of (i := 70) (by decide +kernel) rfl, ⟨by decide +kernel, by decide +kernel⟩, by decide +kernel⟩
theorem st_Mo_orderOf : Cond.static y_Mo_orderOf ∈ mGood := mg_of (i := 1025) (by decide +kernel) rfl
theorem cw_Mo_readLengths : mCw y_Mo_readLengths b_Mo_readLengths 10 none 2 := ⟨mg_of (i := 1035) (by decide +kernel) rfl, mg_of (i := 70) (by decide +kernel) rfl, ⟨by decide +kernel, by decide +kernel⟩, by decide +kernel⟩
theorem in_Mo_readLengths : Cond.instanceMethod y_Mo_readLengths ∈ mGood := mg_of (i := 1034) (by decide +kernel) rfl
theorem se_Mo_readLengths : Cond.selects R_Mo y_Mo_readLengths y_Mo_readLengths ∈ mGood := mg_of (i := 41) (by decide +kernel) rfl
theorem cw_Mo_readCodes : mCw y_Mo_readCodes b_Mo_readCodes 5 none 0 := ⟨mg_of (i := 1023) (by decide +kernel) rfl, mg_of (i := 70) (by decide +kernel) rfl, ⟨by decide +kernel, by decide +kernel⟩, by decide +kernel⟩
theorem in_Mo_readCodes : Cond.instanceMethod y_Mo_readCodes ∈ mGood := mg_of (i := 1022) (by decide +kernel) rfl
theorem se_Mo_readCodes : Cond.selects R_Mo y_Mo_readCodes y_Mo_readCodes ∈ mGood := mg_of (i := 39) (by decide +kernel) rfl
theorem cw_Mo_lengthBits : mCw y_Mo_lengthBits b_Mo_lengthBits 1 (some .int) 1 := ⟨mg_of (i := 1013) (by decide +kernel) rfl, mg_of (i := 70) (by decide +kernel) rfl, ⟨by decide +kernel, by decide +kernel⟩, by decide +kernel⟩
theorem st_Mo_lengthBits : Cond.static y_Mo_lengthBits ∈ mGood := mg_of (i := 1012) (by decide +kernel) rfl
theorem cw_Mo_lengthOf : mCw y_Mo_lengthOf b_Mo_lengthOf 3 (some .int) 1 := ⟨mg_of (i := 1010) (by decide +kernel) rfl, mg_of (i := 70) (by decide +kernel) rfl, ⟨by decide +kernel, by decide +kernel⟩, by decide +kernel⟩
theorem st_Mo_lengthOf : Cond.static y_Mo_lengthOf ∈ mGood := mg_of (i := 1009) (by decide +kernel) rfl
theorem cw_Mo_distanceBits : mCw y_Mo_distanceBits b_Mo_distanceBits 1 (some .int) 1 := ⟨mg_of (i := 1019) (by decide +kernel) rfl, mg_of (i := 70) (by decide +kernel) rfl, ⟨by decide +kernel, by decide +kernel⟩, by decide +kernel⟩
theorem st_Mo_distanceBits : Cond.static y_Mo_distanceBits ∈ mGood := mg_of (i := 1018) (by decide +kernel) rfl
theorem cw_Mo_distanceOf : mCw y_Mo_distanceOf b_Mo_distanceOf 3 (some .int) 1 := ⟨mg_of (i := 1016) (by decide +kernel) rfl, mg_of (i := 70) (by decide +kernel) rfl, ⟨by decide +kernel, by decide +kernel⟩, by decide +kernel⟩
theorem st_Mo_distanceOf : Cond.static y_Mo_distanceOf ∈ mGood := mg_of (i := 1015) (by decide +kernel) rfl
theorem cw_Mo_match : mCw y_Mo_match b_Mo_match 6 none 1 := ⟨mg_of (i := 1007) (by decide +kernel) rfl, mg_of (i := 70) (by decide +kernel) rfl, ⟨by decide +kernel, by decide +kernel⟩, by decide +kernel⟩
theorem in_Mo_match : Cond.instanceMethod y_Mo_match ∈ mGood := mg_of (i := 1006) (by decide +kernel) rfl
theorem se_Mo_match : Cond.selects R_Mo y_Mo_match y_Mo_match ∈ mGood := mg_of (i := 38) (by decide +kernel) rfl
theorem cw_Mo_coded : mCw y_Mo_coded b_Mo_coded 3 none 0 := ⟨mg_of (i := 999) (by decide +kernel) rfl, mg_of (i := 70) (by decide +kernel) rfl, ⟨by decide +kernel, by decide +kernel⟩, by decide +kernel⟩
theorem in_Mo_coded : Cond.instanceMethod y_Mo_coded ∈ mGood := mg_of (i := 998) (by decide +kernel) rfl
theorem se_Mo_coded : Cond.selects R_Mo y_Mo_coded y_Mo_coded ∈ mGood := mg_of (i := 36) (by decide +kernel) rfl
theorem cw_Mo_stored : mCw y_Mo_stored b_Mo_stored 5 none 0 := ⟨mg_of (i := 982) (by decide +kernel) rfl, mg_of (i := 70) (by decide +kernel) rfl, ⟨by decide +kernel, by decide +kernel⟩, by decide +kernel⟩
theorem in_Mo_stored : Cond.instanceMethod y_Mo_stored ∈ mGood := mg_of (i := 981) (by decide +kernel) rfl
theorem se_Mo_stored : Cond.selects R_Mo y_Mo_stored y_Mo_stored ∈ mGood := mg_of (i := 32) (by decide +kernel) rfl
theorem cw_Mo_block : mCw y_Mo_block b_Mo_block 2 none 1 := ⟨mg_of (i := 978) (by decide +kernel) rfl, mg_of (i := 70) (by decide +kernel) rfl, ⟨by decide +kernel, by decide +kernel⟩, by decide +kernel⟩
theorem in_Mo_block : Cond.instanceMethod y_Mo_block ∈ mGood := mg_of (i := 977) (by decide +kernel) rfl
theorem se_Mo_block : Cond.selects R_Mo y_Mo_block y_Mo_block ∈ mGood := mg_of (i := 31) (by decide +kernel) rfl
theorem cw_Mo_check : mCw y_Mo_check b_Mo_check 6 (some .long) 0 := ⟨mg_of (i := 1040) (by decide +kernel) rfl, mg_of (i := 70) (by decide +kernel) rfl, ⟨by decide +kernel, by decide +kernel⟩, by decide +kernel⟩
theorem in_Mo_check : Cond.instanceMethod y_Mo_check ∈ mGood := mg_of (i := 1039) (by decide +kernel) rfl
theorem se_Mo_check : Cond.selects R_Mo y_Mo_check y_Mo_check ∈ mGood := mg_of (i := 42) (by decide +kernel) rfl
theorem cw_Mo_flate : mCw y_Mo_flate b_Mo_flate 8 none 0 := ⟨mg_of (i := 958) (by decide +kernel) rfl, mg_of (i := 70) (by decide +kernel) rfl, ⟨by decide +kernel, by decide +kernel⟩, by decide +kernel⟩
theorem in_Mo_flate : Cond.instanceMethod y_Mo_flate ∈ mGood := mg_of (i := 957) (by decide +kernel) rfl
theorem se_Mo_flate : Cond.selects R_Mo y_Mo_flate y_Mo_flate ∈ mGood := mg_of (i := 26) (by decide +kernel) rfl
theorem cw_Mo_wideCode : mCw y_Mo_wideCode b_Mo_wideCode 4 (some .int) 1 := ⟨mg_of (i := 1053) (by decide +kernel) rfl, mg_of (i := 70) (by decide +kernel) rfl, ⟨by decide +kernel, by decide +kernel⟩, by decide +kernel⟩
theorem in_Mo_wideCode : Cond.instanceMethod y_Mo_wideCode ∈ mGood := mg_of (i := 1052) (by decide +kernel) rfl
theorem se_Mo_wideCode : Cond.selects R_Mo y_Mo_wideCode y_Mo_wideCode ∈ mGood := mg_of (i := 44) (by decide +kernel) rfl
theorem cw_Mo_firstOf : mCw y_Mo_firstOf b_Mo_firstOf 3 (some .int) 1 := ⟨mg_of (i := 1057) (by decide +kernel) rfl, mg_of (i := 70) (by decide +kernel) rfl, ⟨by decide +kernel, by decide +kernel⟩, by decide +kernel⟩
theorem in_Mo_firstOf : Cond.instanceMethod y_Mo_firstOf ∈ mGood := mg_of (i := 1056) (by decide +kernel) rfl
theorem se_Mo_firstOf : Cond.selects R_Mo y_Mo_firstOf y_Mo_firstOf ∈ mGood := mg_of (i := 45) (by decide +kernel) rfl
theorem cw_Mo_byteOf : mCw y_Mo_byteOf b_Mo_byteOf 4 (some .int) 2 := ⟨mg_of (i := 1061) (by decide +kernel) rfl, mg_of (i := 70) (by decide +kernel) rfl, ⟨by decide +kernel, by decide +kernel⟩, by decide +kernel⟩
theorem in_Mo_byteOf : Cond.instanceMethod y_Mo_byteOf ∈ mGood := mg_of (i := 1060) (by decide +kernel) rfl
theorem se_Mo_byteOf : Cond.selects R_Mo y_Mo_byteOf y_Mo_byteOf ∈ mGood := mg_of (i := 46) (by decide +kernel) rfl
theorem cw_Mo_widthOf : mCw y_Mo_widthOf b_Mo_widthOf 1 (some .int) 1 := ⟨mg_of (i := 1049) (by decide +kernel) rfl, mg_of (i := 70) (by decide +kernel) rfl, ⟨by decide +kernel, by decide +kernel⟩, by decide +kernel⟩
theorem st_Mo_widthOf : Cond.static y_Mo_widthOf ∈ mGood := mg_of (i := 1048) (by decide +kernel) rfl
theorem cw_Mo_lzw : mCw y_Mo_lzw b_Mo_lzw 10 none 1 := ⟨mg_of (i := 1046) (by decide +kernel) rfl, mg_of (i := 70) (by decide +kernel) rfl, ⟨by decide +kernel, by decide +kernel⟩, by decide +kernel⟩
theorem in_Mo_lzw : Cond.instanceMethod y_Mo_lzw ∈ mGood := mg_of (i := 1045) (by decide +kernel) rfl
theorem se_Mo_lzw : Cond.selects R_Mo y_Mo_lzw y_Mo_lzw ∈ mGood := mg_of (i := 43) (by decide +kernel) rfl
theorem cw_Mo_isWhite : mCw y_Mo_isWhite b_Mo_isWhite 1 (some .boolean) 1 := ⟨mg_of (i := 1068) (by decide +kernel) rfl, mg_of (i := 70) (by decide +kernel) rfl, ⟨by decide +kernel, by decide +kernel⟩, by decide +kernel⟩
theorem st_Mo_isWhite : Cond.static y_Mo_isWhite ∈ mGood := mg_of (i := 1067) (by decide +kernel) rfl
theorem cw_Mo_giveWord : mCw y_Mo_giveWord b_Mo_giveWord 5 none 2 := ⟨mg_of (i := 1074) (by decide +kernel) rfl, mg_of (i := 70) (by decide +kernel) rfl, ⟨by decide +kernel, by decide +kernel⟩, by decide +kernel⟩
theorem in_Mo_giveWord : Cond.instanceMethod y_Mo_giveWord ∈ mGood := mg_of (i := 1073) (by decide +kernel) rfl
theorem se_Mo_giveWord : Cond.selects R_Mo y_Mo_giveWord y_Mo_giveWord ∈ mGood := mg_of (i := 48) (by decide +kernel) rfl
theorem cw_Mo_text85 : mCw y_Mo_text85 b_Mo_text85 7 none 0 := ⟨mg_of (i := 1065) (by decide +kernel) rfl, mg_of (i := 70) (by decide +kernel) rfl, ⟨by decide +kernel, by decide +kernel⟩, by decide +kernel⟩
theorem in_Mo_text85 : Cond.instanceMethod y_Mo_text85 ∈ mGood := mg_of (i := 1064) (by decide +kernel) rfl
theorem se_Mo_text85 : Cond.selects R_Mo y_Mo_text85 y_Mo_text85 ∈ mGood := mg_of (i := 47) (by decide +kernel) rfl
theorem cw_Mo_digit : mCw y_Mo_digit b_Mo_digit 1 (some .int) 1 := ⟨mg_of (i := 1084) (by decide +kernel) rfl, mg_of (i := 70) (by decide +kernel) rfl, ⟨by decide +kernel, by decide +kernel⟩, by decide +kernel⟩
theorem st_Mo_digit : Cond.static y_Mo_digit ∈ mGood := mg_of (i := 1083) (by decide +kernel) rfl
theorem cw_Mo_hexadecimal : mCw y_Mo_hexadecimal b_Mo_hexadecimal 4 none 0 := ⟨mg_of (i := 1081) (by decide +kernel) rfl, mg_of (i := 70) (by decide +kernel) rfl, ⟨by decide +kernel, by decide +kernel⟩, by decide +kernel⟩
theorem in_Mo_hexadecimal : Cond.instanceMethod y_Mo_hexadecimal ∈ mGood := mg_of (i := 1080) (by decide +kernel) rfl
theorem se_Mo_hexadecimal : Cond.selects R_Mo y_Mo_hexadecimal y_Mo_hexadecimal ∈ mGood := mg_of (i := 49) (by decide +kernel) rfl
theorem cw_Mo_runs : mCw y_Mo_runs b_Mo_runs 7 none 0 := ⟨mg_of (i := 1088) (by decide +kernel) rfl, mg_of (i := 70) (by decide +kernel) rfl, ⟨by decide +kernel, by decide +kernel⟩, by decide +kernel⟩
theorem in_Mo_runs : Cond.instanceMethod y_Mo_runs ∈ mGood := mg_of (i := 1087) (by decide +kernel) rfl
theorem se_Mo_runs : Cond.selects R_Mo y_Mo_runs y_Mo_runs ∈ mGood := mg_of (i := 50) (by decide +kernel) rfl
theorem cw_Mo_bitAt : mCw y_Mo_bitAt b_Mo_bitAt 3 (some .int) 2 := ⟨mg_of (i := 1104) (by decide +kernel) rfl, mg_of (i := 70) (by decide +kernel) rfl, ⟨by decide +kernel, by decide +kernel⟩, by decide +kernel⟩
theorem in_Mo_bitAt : Cond.instanceMethod y_Mo_bitAt ∈ mGood := mg_of (i := 1103) (by decide +kernel) rfl
theorem se_Mo_bitAt : Cond.selects R_Mo y_Mo_bitAt y_Mo_bitAt ∈ mGood := mg_of (i := 54) (by decide +kernel) rfl
theorem cw_Mo_numberAt : mCw y_Mo_numberAt b_Mo_numberAt 6 (some .int) 3 := ⟨mg_of (i := 1100) (by decide +kernel) rfl, mg_of (i := 70) (by decide +kernel) rfl, ⟨by decide +kernel, by decide +kernel⟩, by decide +kernel⟩
theorem in_Mo_numberAt : Cond.instanceMethod y_Mo_numberAt ∈ mGood := mg_of (i := 1099) (by decide +kernel) rfl
theorem se_Mo_numberAt : Cond.selects R_Mo y_Mo_numberAt y_Mo_numberAt ∈ mGood := mg_of (i := 53) (by decide +kernel) rfl
theorem cw_Mo_setNumber : mCw y_Mo_setNumber b_Mo_setNumber 9 none 4 := ⟨mg_of (i := 1108) (by decide +kernel) rfl, mg_of (i := 70) (by decide +kernel) rfl, ⟨by decide +kernel, by decide +kernel⟩, by decide +kernel⟩
theorem in_Mo_setNumber : Cond.instanceMethod y_Mo_setNumber ∈ mGood := mg_of (i := 1107) (by decide +kernel) rfl
theorem se_Mo_setNumber : Cond.selects R_Mo y_Mo_setNumber y_Mo_setNumber ∈ mGood := mg_of (i := 55) (by decide +kernel) rfl
theorem cw_Mo_rowBytes : mCw y_Mo_rowBytes b_Mo_rowBytes 2 (some .int) 1 := ⟨mg_of (i := 1096) (by decide +kernel) rfl, mg_of (i := 70) (by decide +kernel) rfl, ⟨by decide +kernel, by decide +kernel⟩, by decide +kernel⟩
theorem in_Mo_rowBytes : Cond.instanceMethod y_Mo_rowBytes ∈ mGood := mg_of (i := 1095) (by decide +kernel) rfl
theorem se_Mo_rowBytes : Cond.selects R_Mo y_Mo_rowBytes y_Mo_rowBytes ∈ mGood := mg_of (i := 52) (by decide +kernel) rfl
theorem cw_Mo_addRows : mCw y_Mo_addRows b_Mo_addRows 9 none 1 := ⟨mg_of (i := 1092) (by decide +kernel) rfl, mg_of (i := 70) (by decide +kernel) rfl, ⟨by decide +kernel, by decide +kernel⟩, by decide +kernel⟩
theorem in_Mo_addRows : Cond.instanceMethod y_Mo_addRows ∈ mGood := mg_of (i := 1091) (by decide +kernel) rfl
theorem se_Mo_addRows : Cond.selects R_Mo y_Mo_addRows y_Mo_addRows ∈ mGood := mg_of (i := 51) (by decide +kernel) rfl
theorem cw_Mo_far : mCw y_Mo_far b_Mo_far 2 (some .int) 2 := ⟨mg_of (i := 1121) (by decide +kernel) rfl, mg_of (i := 70) (by decide +kernel) rfl, ⟨by decide +kernel, by decide +kernel⟩, by decide +kernel⟩
theorem st_Mo_far : Cond.static y_Mo_far ∈ mGood := mg_of (i := 1120) (by decide +kernel) rfl
theorem cw_Mo_nearest : mCw y_Mo_nearest b_Mo_nearest 4 (some .int) 3 := ⟨mg_of (i := 1118) (by decide +kernel) rfl, mg_of (i := 70) (by decide +kernel) rfl, ⟨by decide +kernel, by decide +kernel⟩, by decide +kernel⟩
theorem st_Mo_nearest : Cond.static y_Mo_nearest ∈ mGood := mg_of (i := 1117) (by decide +kernel) rfl
theorem cw_Mo_added : mCw y_Mo_added b_Mo_added 4 (some .int) 4 := ⟨mg_of (i := 1115) (by decide +kernel) rfl, mg_of (i := 70) (by decide +kernel) rfl, ⟨by decide +kernel, by decide +kernel⟩, by decide +kernel⟩
theorem st_Mo_added : Cond.static y_Mo_added ∈ mGood := mg_of (i := 1114) (by decide +kernel) rfl
theorem cw_Mo_undoRows : mCw y_Mo_undoRows b_Mo_undoRows 13 (some .boolean) 1 := ⟨mg_of (i := 1112) (by decide +kernel) rfl, mg_of (i := 70) (by decide +kernel) rfl, ⟨by decide +kernel, by decide +kernel⟩, by decide +kernel⟩
theorem in_Mo_undoRows : Cond.instanceMethod y_Mo_undoRows ∈ mGood := mg_of (i := 1111) (by decide +kernel) rfl
theorem se_Mo_undoRows : Cond.selects R_Mo y_Mo_undoRows y_Mo_undoRows ∈ mGood := mg_of (i := 56) (by decide +kernel) rfl
theorem cw_Mo_run : mCw y_Mo_run b_Mo_run 2 none 1 := ⟨mg_of (i := 954) (by decide +kernel) rfl, mg_of (i := 70) (by decide +kernel) rfl, ⟨by decide +kernel, by decide +kernel⟩, by decide +kernel⟩
theorem in_Mo_run : Cond.instanceMethod y_Mo_run ∈ mGood := mg_of (i := 953) (by decide +kernel) rfl
theorem se_Mo_run : Cond.selects R_Mo y_Mo_run y_Mo_run ∈ mGood := mg_of (i := 25) (by decide +kernel) rfl
theorem cw_Mo_decode : mCw y_Mo_decode b_Mo_decode 3 (some .int) 0 := ⟨mg_of (i := 946) (by decide +kernel) rfl, mg_of (i := 70) (by decide +kernel) rfl, ⟨by decide +kernel, by decide +kernel⟩, by decide +kernel⟩
theorem in_Mo_decode : Cond.instanceMethod y_Mo_decode ∈ mGood := mg_of (i := 944) (by decide +kernel) rfl
theorem se_Mo_decode : Cond.selects R_Mo y_Mo_decode y_Mo_decode ∈ mGood := mg_of (i := 945) (by decide +kernel) rfl
theorem cw_Mo_at : mCw y_Mo_at b_Mo_at 2 (some .int) 1 := ⟨mg_of (i := 1125) (by decide +kernel) rfl, mg_of (i := 70) (by decide +kernel) rfl, ⟨by decide +kernel, by decide +kernel⟩, by decide +kernel⟩
theorem in_Mo_at : Cond.instanceMethod y_Mo_at ∈ mGood := mg_of (i := 1123) (by decide +kernel) rfl
theorem se_Mo_at : Cond.selects R_Mo y_Mo_at y_Mo_at ∈ mGood := mg_of (i := 1124) (by decide +kernel) rfl
theorem cw_Mo_fault : mCw y_Mo_fault b_Mo_fault 2 (some .int) 1 := ⟨mg_of (i := 1129) (by decide +kernel) rfl, mg_of (i := 70) (by decide +kernel) rfl, ⟨by decide +kernel, by decide +kernel⟩, by decide +kernel⟩
theorem in_Mo_fault : Cond.instanceMethod y_Mo_fault ∈ mGood := mg_of (i := 1127) (by decide +kernel) rfl
theorem se_Mo_fault : Cond.selects R_Mo y_Mo_fault y_Mo_fault ∈ mGood := mg_of (i := 1128) (by decide +kernel) rfl
theorem cw_Mo_keep : mCw y_Mo_keep b_Mo_keep 2 (some .int) 0 := ⟨mg_of (i := 1133) (by decide +kernel) rfl, mg_of (i := 70) (by decide +kernel) rfl, ⟨by decide +kernel, by decide +kernel⟩, by decide +kernel⟩
theorem in_Mo_keep : Cond.instanceMethod y_Mo_keep ∈ mGood := mg_of (i := 1131) (by decide +kernel) rfl
theorem se_Mo_keep : Cond.selects R_Mo y_Mo_keep y_Mo_keep ∈ mGood := mg_of (i := 1132) (by decide +kernel) rfl
theorem cw_Co_isEmpty : mCw y_Co_isEmpty b_Co_isEmpty 1 (some .boolean) 0 := ⟨mg_of (i := 480) (by decide +kernel) rfl, mg_of (i := 64) (by decide +kernel) rfl, ⟨by decide +kernel, by decide +kernel⟩, by decide +kernel⟩
theorem in_Co_isEmpty : Cond.instanceMethod y_Co_isEmpty ∈ mGood := mg_of (i := 478) (by decide +kernel) rfl
theorem se_Co_isEmpty : Cond.selects R_Co y_Co_isEmpty y_Co_isEmpty ∈ mGood := mg_of (i := 479) (by decide +kernel) rfl
theorem cw_Co_isGood : mCw y_Co_isGood b_Co_isGood 3 (some .boolean) 0 := ⟨mg_of (i := 468) (by decide +kernel) rfl, mg_of (i := 64) (by decide +kernel) rfl, ⟨by decide +kernel, by decide +kernel⟩, by decide +kernel⟩
theorem in_Co_isGood : Cond.instanceMethod y_Co_isGood ∈ mGood := mg_of (i := 466) (by decide +kernel) rfl
theorem se_Co_isGood : Cond.selects R_Co y_Co_isGood y_Co_isGood ∈ mGood := mg_of (i := 467) (by decide +kernel) rfl
theorem cw_Pa_nextByte : mCw y_Pa_nextByte b_Pa_nextByte 1 (some .int) 0 := ⟨mg_of (i := 393) (by decide +kernel) rfl, mg_of (i := 61) (by decide +kernel) rfl, ⟨by decide +kernel, by decide +kernel⟩, by decide +kernel⟩
theorem in_Pa_nextByte : Cond.instanceMethod y_Pa_nextByte ∈ mGood := mg_of (i := 391) (by decide +kernel) rfl
theorem se_Pa_nextByte : Cond.selects R_Pa y_Pa_nextByte y_Pa_nextByte ∈ mGood := mg_of (i := 392) (by decide +kernel) rfl
theorem cw_Pa_nextBit : mCw y_Pa_nextBit b_Pa_nextBit 2 (some .int) 1 := ⟨mg_of (i := 406) (by decide +kernel) rfl, mg_of (i := 61) (by decide +kernel) rfl, ⟨by decide +kernel, by decide +kernel⟩, by decide +kernel⟩
theorem in_Pa_nextBit : Cond.instanceMethod y_Pa_nextBit ∈ mGood := mg_of (i := 404) (by decide +kernel) rfl
theorem se_Pa_nextBit : Cond.selects R_Pa y_Pa_nextBit y_Pa_nextBit ∈ mGood := mg_of (i := 405) (by decide +kernel) rfl
theorem cw_Pa_fail : mCw y_Pa_fail b_Pa_fail 2 (some .boolean) 1 := ⟨mg_of (i := 397) (by decide +kernel) rfl, mg_of (i := 61) (by decide +kernel) rfl, ⟨by decide +kernel, by decide +kernel⟩, by decide +kernel⟩
theorem in_Pa_fail : Cond.instanceMethod y_Pa_fail ∈ mGood := mg_of (i := 395) (by decide +kernel) rfl
theorem se_Pa_fail : Cond.selects R_Pa y_Pa_fail y_Pa_fail ∈ mGood := mg_of (i := 396) (by decide +kernel) rfl
theorem cw_Co_read : mCw y_Co_read b_Co_read 8 (some .int) 1 := ⟨mg_of (i := 431) (by decide +kernel) rfl, mg_of (i := 64) (by decide +kernel) rfl, ⟨by decide +kernel, by decide +kernel⟩, by decide +kernel⟩
theorem in_Co_read : Cond.instanceMethod y_Co_read ∈ mGood := mg_of (i := 429) (by decide +kernel) rfl
theorem se_Co_read : Cond.selects R_Co y_Co_read y_Co_read ∈ mGood := mg_of (i := 430) (by decide +kernel) rfl
theorem cw_Fl_readHeader : mCw y_Fl_readHeader b_Fl_readHeader 4 (some .boolean) 1 := ⟨mg_of (i := 389) (by decide +kernel) rfl, mg_of (i := 63) (by decide +kernel) rfl, ⟨by decide +kernel, by decide +kernel⟩, by decide +kernel⟩
theorem st_Fl_readHeader : Cond.static y_Fl_readHeader ∈ mGood := mg_of (i := 388) (by decide +kernel) rfl
theorem cw_Pa_lowNumber : mCw y_Pa_lowNumber b_Pa_lowNumber 5 (some .int) 1 := ⟨mg_of (i := 402) (by decide +kernel) rfl, mg_of (i := 61) (by decide +kernel) rfl, ⟨by decide +kernel, by decide +kernel⟩, by decide +kernel⟩
theorem in_Pa_lowNumber : Cond.instanceMethod y_Pa_lowNumber ∈ mGood := mg_of (i := 400) (by decide +kernel) rfl
theorem se_Pa_lowNumber : Cond.selects R_Pa y_Pa_lowNumber y_Pa_lowNumber ∈ mGood := mg_of (i := 401) (by decide +kernel) rfl
theorem cw_Fl_readShort : mCw y_Fl_readShort b_Fl_readShort 3 (some .int) 1 := ⟨mg_of (i := 413) (by decide +kernel) rfl, mg_of (i := 63) (by decide +kernel) rfl, ⟨by decide +kernel, by decide +kernel⟩, by decide +kernel⟩
theorem st_Fl_readShort : Cond.static y_Fl_readShort ∈ mGood := mg_of (i := 412) (by decide +kernel) rfl
theorem cw_Pa_give : mCw y_Pa_give b_Pa_give 2 (some .boolean) 1 := ⟨mg_of (i := 422) (by decide +kernel) rfl, mg_of (i := 61) (by decide +kernel) rfl, ⟨by decide +kernel, by decide +kernel⟩, by decide +kernel⟩
theorem in_Pa_give : Cond.instanceMethod y_Pa_give ∈ mGood := mg_of (i := 420) (by decide +kernel) rfl
theorem se_Pa_give : Cond.selects R_Pa y_Pa_give y_Pa_give ∈ mGood := mg_of (i := 421) (by decide +kernel) rfl
theorem cw_Pa_giveAsTheyAre : mCw y_Pa_giveAsTheyAre b_Pa_giveAsTheyAre 4 (some .boolean) 1 := ⟨mg_of (i := 418) (by decide +kernel) rfl, mg_of (i := 61) (by decide +kernel) rfl, ⟨by decide +kernel, by decide +kernel⟩, by decide +kernel⟩
theorem in_Pa_giveAsTheyAre : Cond.instanceMethod y_Pa_giveAsTheyAre ∈ mGood := mg_of (i := 416) (by decide +kernel) rfl
theorem se_Pa_giveAsTheyAre : Cond.selects R_Pa y_Pa_giveAsTheyAre y_Pa_giveAsTheyAre ∈ mGood := mg_of (i := 417) (by decide +kernel) rfl
theorem cw_Fl_unpackStored : mCw y_Fl_unpackStored b_Fl_unpackStored 3 (some .boolean) 1 := ⟨mg_of (i := 410) (by decide +kernel) rfl, mg_of (i := 63) (by decide +kernel) rfl, ⟨by decide +kernel, by decide +kernel⟩, by decide +kernel⟩
theorem st_Fl_unpackStored : Cond.static y_Fl_unpackStored ∈ mGood := mg_of (i := 409) (by decide +kernel) rfl
theorem cw_Fl_readDistance : mCw y_Fl_readDistance b_Fl_readDistance 4 (some .int) 2 := ⟨mg_of (i := 444) (by decide +kernel) rfl, mg_of (i := 63) (by decide +kernel) rfl, ⟨by decide +kernel, by decide +kernel⟩, by decide +kernel⟩
theorem st_Fl_readDistance : Cond.static y_Fl_readDistance ∈ mGood := mg_of (i := 443) (by decide +kernel) rfl
theorem cw_Pa_giveAgain : mCw y_Pa_giveAgain b_Pa_giveAgain 4 (some .boolean) 2 := ⟨mg_of (i := 452) (by decide +kernel) rfl, mg_of (i := 61) (by decide +kernel) rfl, ⟨by decide +kernel, by decide +kernel⟩, by decide +kernel⟩
theorem in_Pa_giveAgain : Cond.instanceMethod y_Pa_giveAgain ∈ mGood := mg_of (i := 450) (by decide +kernel) rfl
theorem se_Pa_giveAgain : Cond.selects R_Pa y_Pa_giveAgain y_Pa_giveAgain ∈ mGood := mg_of (i := 451) (by decide +kernel) rfl
theorem cw_Fl_copy : mCw y_Fl_copy b_Fl_copy 7 (some .boolean) 3 := ⟨mg_of (i := 437) (by decide +kernel) rfl, mg_of (i := 63) (by decide +kernel) rfl, ⟨by decide +kernel, by decide +kernel⟩, by decide +kernel⟩
theorem st_Fl_copy : Cond.static y_Fl_copy ∈ mGood := mg_of (i := 436) (by decide +kernel) rfl
theorem cw_Fl_unpackCodes : mCw y_Fl_unpackCodes b_Fl_unpackCodes 6 (some .boolean) 3 := ⟨mg_of (i := 427) (by decide +kernel) rfl, mg_of (i := 63) (by decide +kernel) rfl, ⟨by decide +kernel, by decide +kernel⟩, by decide +kernel⟩
theorem st_Fl_unpackCodes : Cond.static y_Fl_unpackCodes ∈ mGood := mg_of (i := 426) (by decide +kernel) rfl
theorem cw_Fl_readLengthCodes : mCw y_Fl_readLengthCodes b_Fl_readLengthCodes 5 (some .boolean) 2 := ⟨mg_of (i := 464) (by decide +kernel) rfl, mg_of (i := 63) (by decide +kernel) rfl, ⟨by decide +kernel, by decide +kernel⟩, by decide +kernel⟩
theorem in_Fl_readLengthCodes : Cond.instanceMethod y_Fl_readLengthCodes ∈ mGood := mg_of (i := 463) (by decide +kernel) rfl
theorem se_Fl_readLengthCodes : Cond.selects R_Fl y_Fl_readLengthCodes y_Fl_readLengthCodes ∈ mGood := mg_of (i := 4) (by decide +kernel) rfl
theorem cw_Fl_readTimes : mCw y_Fl_readTimes b_Fl_readTimes 3 (some .int) 2 := ⟨mg_of (i := 476) (by decide +kernel) rfl, mg_of (i := 63) (by decide +kernel) rfl, ⟨by decide +kernel, by decide +kernel⟩, by decide +kernel⟩
theorem st_Fl_readTimes : Cond.static y_Fl_readTimes ∈ mGood := mg_of (i := 475) (by decide +kernel) rfl
theorem cw_Fl_readLengths : mCw y_Fl_readLengths b_Fl_readLengths 10 (some .boolean) 2 := ⟨mg_of (i := 473) (by decide +kernel) rfl, mg_of (i := 63) (by decide +kernel) rfl, ⟨by decide +kernel, by decide +kernel⟩, by decide +kernel⟩
theorem in_Fl_readLengths : Cond.instanceMethod y_Fl_readLengths ∈ mGood := mg_of (i := 472) (by decide +kernel) rfl
theorem se_Fl_readLengths : Cond.selects R_Fl y_Fl_readLengths y_Fl_readLengths ∈ mGood := mg_of (i := 5) (by decide +kernel) rfl
theorem cw_Fl_readCodes : mCw y_Fl_readCodes b_Fl_readCodes 6 (some .boolean) 1 := ⟨mg_of (i := 460) (by decide +kernel) rfl, mg_of (i := 63) (by decide +kernel) rfl, ⟨by decide +kernel, by decide +kernel⟩, by decide +kernel⟩
theorem in_Fl_readCodes : Cond.instanceMethod y_Fl_readCodes ∈ mGood := mg_of (i := 459) (by decide +kernel) rfl
theorem se_Fl_readCodes : Cond.selects R_Fl y_Fl_readCodes y_Fl_readCodes ∈ mGood := mg_of (i := 3) (by decide +kernel) rfl
theorem cw_Fl_checkOf : mCw y_Fl_checkOf b_Fl_checkOf 4 (some .long) 1 := ⟨mg_of (i := 487) (by decide +kernel) rfl, mg_of (i := 63) (by decide +kernel) rfl, ⟨by decide +kernel, by decide +kernel⟩, by decide +kernel⟩
theorem st_Fl_checkOf : Cond.static y_Fl_checkOf ∈ mGood := mg_of (i := 486) (by decide +kernel) rfl
theorem cw_Fl_compareCheck : mCw y_Fl_compareCheck b_Fl_compareCheck 5 none 1 := ⟨mg_of (i := 483) (by decide +kernel) rfl, mg_of (i := 63) (by decide +kernel) rfl, ⟨by decide +kernel, by decide +kernel⟩, by decide +kernel⟩
theorem st_Fl_compareCheck : Cond.static y_Fl_compareCheck ∈ mGood := mg_of (i := 482) (by decide +kernel) rfl
theorem cw_Fl_unpack : mCw y_Fl_unpack b_Fl_unpack 7 none 2 := ⟨mg_of (i := 386) (by decide +kernel) rfl, mg_of (i := 63) (by decide +kernel) rfl, ⟨by decide +kernel, by decide +kernel⟩, by decide +kernel⟩
theorem in_Fl_unpack : Cond.instanceMethod y_Fl_unpack ∈ mGood := mg_of (i := 385) (by decide +kernel) rfl
theorem cw_Pa_isBlank : mCw y_Pa_isBlank b_Pa_isBlank 1 (some .boolean) 1 := ⟨mg_of (i := 502) (by decide +kernel) rfl, mg_of (i := 61) (by decide +kernel) rfl, ⟨by decide +kernel, by decide +kernel⟩, by decide +kernel⟩
theorem st_Pa_isBlank : Cond.static y_Pa_isBlank ∈ mGood := mg_of (i := 501) (by decide +kernel) rfl
theorem cw_Pa_nextSign : mCw y_Pa_nextSign b_Pa_nextSign 3 (some .int) 0 := ⟨mg_of (i := 498) (by decide +kernel) rfl, mg_of (i := 61) (by decide +kernel) rfl, ⟨by decide +kernel, by decide +kernel⟩, by decide +kernel⟩
theorem in_Pa_nextSign : Cond.instanceMethod y_Pa_nextSign ∈ mGood := mg_of (i := 496) (by decide +kernel) rfl
theorem se_Pa_nextSign : Cond.selects R_Pa y_Pa_nextSign y_Pa_nextSign ∈ mGood := mg_of (i := 497) (by decide +kernel) rfl
theorem cw_Hx_digitOf : mCw y_Hx_digitOf b_Hx_digitOf 1 (some .int) 1 := ⟨mg_of (i := 505) (by decide +kernel) rfl, mg_of (i := 67) (by decide +kernel) rfl, ⟨by decide +kernel, by decide +kernel⟩, by decide +kernel⟩
theorem st_Hx_digitOf : Cond.static y_Hx_digitOf ∈ mGood := mg_of (i := 504) (by decide +kernel) rfl
theorem cw_Hx_unpack : mCw y_Hx_unpack b_Hx_unpack 8 none 2 := ⟨mg_of (i := 493) (by decide +kernel) rfl, mg_of (i := 67) (by decide +kernel) rfl, ⟨by decide +kernel, by decide +kernel⟩, by decide +kernel⟩
theorem in_Hx_unpack : Cond.instanceMethod y_Hx_unpack ∈ mGood := mg_of (i := 492) (by decide +kernel) rfl
theorem cw_Pa_giveTimes : mCw y_Pa_giveTimes b_Pa_giveTimes 4 (some .boolean) 2 := ⟨mg_of (i := 520) (by decide +kernel) rfl, mg_of (i := 61) (by decide +kernel) rfl, ⟨by decide +kernel, by decide +kernel⟩, by decide +kernel⟩
theorem in_Pa_giveTimes : Cond.instanceMethod y_Pa_giveTimes ∈ mGood := mg_of (i := 518) (by decide +kernel) rfl
theorem se_Pa_giveTimes : Cond.selects R_Pa y_Pa_giveTimes y_Pa_giveTimes ∈ mGood := mg_of (i := 519) (by decide +kernel) rfl
theorem cw_Le_giveRun : mCw y_Le_giveRun b_Le_giveRun 3 (some .boolean) 2 := ⟨mg_of (i := 516) (by decide +kernel) rfl, mg_of (i := 68) (by decide +kernel) rfl, ⟨by decide +kernel, by decide +kernel⟩, by decide +kernel⟩
theorem st_Le_giveRun : Cond.static y_Le_giveRun ∈ mGood := mg_of (i := 515) (by decide +kernel) rfl
theorem cw_Le_unpack : mCw y_Le_unpack b_Le_unpack 6 none 2 := ⟨mg_of (i := 510) (by decide +kernel) rfl, mg_of (i := 68) (by decide +kernel) rfl, ⟨by decide +kernel, by decide +kernel⟩, by decide +kernel⟩
theorem in_Le_unpack : Cond.instanceMethod y_Le_unpack ∈ mGood := mg_of (i := 509) (by decide +kernel) rfl
theorem cw_Lz_clear : mCw y_Lz_clear b_Lz_clear 1 none 0 := ⟨mg_of (i := 527) (by decide +kernel) rfl, mg_of (i := 65) (by decide +kernel) rfl, ⟨by decide +kernel, by decide +kernel⟩, by decide +kernel⟩
theorem in_Lz_clear : Cond.instanceMethod y_Lz_clear ∈ mGood := mg_of (i := 526) (by decide +kernel) rfl
theorem se_Lz_clear : Cond.selects R_Lz y_Lz_clear y_Lz_clear ∈ mGood := mg_of (i := 6) (by decide +kernel) rfl
theorem cw_Lz_widthFor : mCw y_Lz_widthFor b_Lz_widthFor 1 (some .int) 1 := ⟨mg_of (i := 531) (by decide +kernel) rfl, mg_of (i := 65) (by decide +kernel) rfl, ⟨by decide +kernel, by decide +kernel⟩, by decide +kernel⟩
theorem st_Lz_widthFor : Cond.static y_Lz_widthFor ∈ mGood := mg_of (i := 530) (by decide +kernel) rfl
theorem cw_Pa_highNumber : mCw y_Pa_highNumber b_Pa_highNumber 5 (some .int) 1 := ⟨mg_of (i := 535) (by decide +kernel) rfl, mg_of (i := 61) (by decide +kernel) rfl, ⟨by decide +kernel, by decide +kernel⟩, by decide +kernel⟩
theorem in_Pa_highNumber : Cond.instanceMethod y_Pa_highNumber ∈ mGood := mg_of (i := 533) (by decide +kernel) rfl
theorem se_Pa_highNumber : Cond.selects R_Pa y_Pa_highNumber y_Pa_highNumber ∈ mGood := mg_of (i := 534) (by decide +kernel) rfl
theorem cw_Lz_sizeOf : mCw y_Lz_sizeOf b_Lz_sizeOf 2 (some .int) 1 := ⟨mg_of (i := 543) (by decide +kernel) rfl, mg_of (i := 65) (by decide +kernel) rfl, ⟨by decide +kernel, by decide +kernel⟩, by decide +kernel⟩
theorem in_Lz_sizeOf : Cond.instanceMethod y_Lz_sizeOf ∈ mGood := mg_of (i := 542) (by decide +kernel) rfl
theorem se_Lz_sizeOf : Cond.selects R_Lz y_Lz_sizeOf y_Lz_sizeOf ∈ mGood := mg_of (i := 8) (by decide +kernel) rfl
theorem cw_Lz_startOf : mCw y_Lz_startOf b_Lz_startOf 2 (some .int) 1 := ⟨mg_of (i := 549) (by decide +kernel) rfl, mg_of (i := 65) (by decide +kernel) rfl, ⟨by decide +kernel, by decide +kernel⟩, by decide +kernel⟩
theorem in_Lz_startOf : Cond.instanceMethod y_Lz_startOf ∈ mGood := mg_of (i := 548) (by decide +kernel) rfl
theorem se_Lz_startOf : Cond.selects R_Lz y_Lz_startOf y_Lz_startOf ∈ mGood := mg_of (i := 9) (by decide +kernel) rfl
theorem cw_Lz_makeString : mCw y_Lz_makeString b_Lz_makeString 1 none 0 := ⟨mg_of (i := 554) (by decide +kernel) rfl, mg_of (i := 65) (by decide +kernel) rfl, ⟨by decide +kernel, by decide +kernel⟩, by decide +kernel⟩
theorem in_Lz_makeString : Cond.instanceMethod y_Lz_makeString ∈ mGood := mg_of (i := 553) (by decide +kernel) rfl
theorem se_Lz_makeString : Cond.selects R_Lz y_Lz_makeString y_Lz_makeString ∈ mGood := mg_of (i := 10) (by decide +kernel) rfl
theorem cw_Lz_giveString : mCw y_Lz_giveString b_Lz_giveString 6 (some .boolean) 2 := ⟨mg_of (i := 539) (by decide +kernel) rfl, mg_of (i := 65) (by decide +kernel) rfl, ⟨by decide +kernel, by decide +kernel⟩, by decide +kernel⟩
theorem in_Lz_giveString : Cond.instanceMethod y_Lz_giveString ∈ mGood := mg_of (i := 538) (by decide +kernel) rfl
theorem se_Lz_giveString : Cond.selects R_Lz y_Lz_giveString y_Lz_giveString ∈ mGood := mg_of (i := 7) (by decide +kernel) rfl
theorem cw_Lz_unpack : mCw y_Lz_unpack b_Lz_unpack 5 none 2 := ⟨mg_of (i := 523) (by decide +kernel) rfl, mg_of (i := 65) (by decide +kernel) rfl, ⟨by decide +kernel, by decide +kernel⟩, by decide +kernel⟩
theorem in_Lz_unpack : Cond.instanceMethod y_Lz_unpack ∈ mGood := mg_of (i := 522) (by decide +kernel) rfl
theorem cw_T8_addDigit : mCw y_T8_addDigit b_T8_addDigit 2 none 1 := ⟨mg_of (i := 569) (by decide +kernel) rfl, mg_of (i := 66) (by decide +kernel) rfl, ⟨by decide +kernel, by decide +kernel⟩, by decide +kernel⟩
theorem in_T8_addDigit : Cond.instanceMethod y_T8_addDigit ∈ mGood := mg_of (i := 568) (by decide +kernel) rfl
theorem se_T8_addDigit : Cond.selects R_T8 y_T8_addDigit y_T8_addDigit ∈ mGood := mg_of (i := 12) (by decide +kernel) rfl
theorem cw_T8_giveNumber : mCw y_T8_giveNumber b_T8_giveNumber 4 (some .boolean) 2 := ⟨mg_of (i := 574) (by decide +kernel) rfl, mg_of (i := 66) (by decide +kernel) rfl, ⟨by decide +kernel, by decide +kernel⟩, by decide +kernel⟩
theorem in_T8_giveNumber : Cond.instanceMethod y_T8_giveNumber ∈ mGood := mg_of (i := 573) (by decide +kernel) rfl
theorem se_T8_giveNumber : Cond.selects R_T8 y_T8_giveNumber y_T8_giveNumber ∈ mGood := mg_of (i := 13) (by decide +kernel) rfl
theorem cw_T8_finish : mCw y_T8_finish b_T8_finish 5 none 1 := ⟨mg_of (i := 563) (by decide +kernel) rfl, mg_of (i := 66) (by decide +kernel) rfl, ⟨by decide +kernel, by decide +kernel⟩, by decide +kernel⟩
theorem in_T8_finish : Cond.instanceMethod y_T8_finish ∈ mGood := mg_of (i := 562) (by decide +kernel) rfl
theorem se_T8_finish : Cond.selects R_T8 y_T8_finish y_T8_finish ∈ mGood := mg_of (i := 11) (by decide +kernel) rfl
theorem cw_T8_unpack : mCw y_T8_unpack b_T8_unpack 6 none 2 := ⟨mg_of (i := 557) (by decide +kernel) rfl, mg_of (i := 66) (by decide +kernel) rfl, ⟨by decide +kernel, by decide +kernel⟩, by decide +kernel⟩
theorem in_T8_unpack : Cond.instanceMethod y_T8_unpack ∈ mGood := mg_of (i := 556) (by decide +kernel) rfl
