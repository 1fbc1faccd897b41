/-! EVERY CALL ENDS: the cells as one state S (ints, rows, references that change, the long, the law's row) -/
abbrev mS : Type := (Nat → Int32) × (Nat → Nat → Int32) × (Nat → Nat) × Int64 × (Nat → Int64)
def uV (S : mS) (k : Nat) (x : Int32) : mS := (upd S.1 k x, S.2)
def uA (S : mS) (k : Nat) (f : Nat → Int32) : mS := (S.1, va_up S.2.1 k f, S.2.2)
def uR (S : mS) (k r : Nat) : mS := (S.1, S.2.1, va_up S.2.2.1 k r, S.2.2.2)
def uW (S : mS) (w : Int64) : mS := (S.1, S.2.1, S.2.2.1, w, S.2.2.2.2)
def uL (S : mS) (f : Nat → Int64) : mS := (S.1, S.2.1, S.2.2.1, S.2.2.2.1, f)
def hp (S : mS) : mH := [.inr (0, [.ref 1, .ref 3, .int (S.1 2), .int (S.1 3), .ref 4, .ref 9, .ref 32, .ref 35, .ref 36, .ref 37, .ref 38, .ref 40, .ref (S.2.2.1 12), .int (S.1 13), .int (S.1 14), .int (S.1 15), .int (S.1 16)]), .inr (1, [.ref 2, .int (S.1 101)]), .inl (.byte, (16384, .inl (S.2.1 2))), zL [(7, 49), (6, 48), (5, 47), (4, 46), (3, 45), (2, 44), (1, 43), (0, 42)], .inr (8, [.ref (S.2.2.1 400), .ref (S.2.2.1 401), .int (S.1 402), .int (S.1 403), .int (S.1 404), .int (S.1 405), .int (S.1 406)]), .inr (1, [.ref 6, .int (S.1 501)]), .inl (.byte, (0, .inl (S.2.1 6))), .inr (1, [.ref 8, .int (S.1 701)]), .inl (.byte, (0, .inl (S.2.1 8))), .inr (3, [.ref 10, .ref 14, .ref 18, .ref 22, .ref 26, .ref 30]), .inr (2, [.ref 11, .ref 12, .ref 13, .int (S.1 1003), .int (S.1 1004)]), .inl (.int, (16, .inl (S.2.1 11))), .inl (.int, (16, .inl (S.2.1 12))), .inl (.int, (288, .inl (S.2.1 13))), .inr (2, [.ref 15, .ref 16, .ref 17, .int (S.1 1403), .int (S.1 1404)]), .inl (.int, (16, .inl (S.2.1 15))), .inl (.int, (16, .inl (S.2.1 16))), .inl (.int, (32, .inl (S.2.1 17))), .inr (2, [.ref 19, .ref 20, .ref 21, .int (S.1 1803), .int (S.1 1804)]), .inl (.int, (16, .inl (S.2.1 19))), .inl (.int, (16, .inl (S.2.1 20))), .inl (.int, (288, .inl (S.2.1 21))), .inr (2, [.ref 23, .ref 24, .ref 25, .int (S.1 2203), .int (S.1 2204)]), .inl (.int, (16, .inl (S.2.1 23))), .inl (.int, (16, .inl (S.2.1 24))), .inl (.int, (32, .inl (S.2.1 25))), .inr (2, [.ref 27, .ref 28, .ref 29, .int (S.1 2603), .int (S.1 2604)]), .inl (.int, (16, .inl (S.2.1 27))), .inl (.int, (16, .inl (S.2.1 28))), .inl (.int, (19, .inl (S.2.1 29))), .inl (.int, (320, .inl (S.2.1 30))), .inl (.int, (320, .inl (S.2.1 31))), .inr (7, [.ref 33, .ref 34, .int (S.1 3202), .int (S.1 3203), .int (S.1 3204)]), .inl (.int, (4096, .inl (S.2.1 33))), .inl (.int, (4096, .inl (S.2.1 34))), .inr (9, [.long S.2.2.2.1, .int (S.1 3501)]), .inr (4, []), .inr (5, []), .inr (1, [.ref 39, .int (S.1 3801)]), .inl (.byte, (65536, .inl (S.2.1 39))), .inr (1, [.ref 41, .int (S.1 4001)]), .inl (.byte, (65536, .inl (S.2.1 41))), .inr (6, [.int (S.1 4200), .int (S.1 4201), .int (S.1 4202), .int (S.1 4203), .int (S.1 4204), .int (S.1 4205)]), .inr (6, [.int (S.1 4300), .int (S.1 4301), .int (S.1 4302), .int (S.1 4303), .int (S.1 4304), .int (S.1 4305)]), .inr (6, [.int (S.1 4400), .int (S.1 4401), .int (S.1 4402), .int (S.1 4403), .int (S.1 4404), .int (S.1 4405)]), .inr (6, [.int (S.1 4500), .int (S.1 4501), .int (S.1 4502), .int (S.1 4503), .int (S.1 4504), .int (S.1 4505)]), .inr (6, [.int (S.1 4600), .int (S.1 4601), .int (S.1 4602), .int (S.1 4603), .int (S.1 4604), .int (S.1 4605)]), .inr (6, [.int (S.1 4700), .int (S.1 4701), .int (S.1 4702), .int (S.1 4703), .int (S.1 4704), .int (S.1 4705)]), .inr (6, [.int (S.1 4800), .int (S.1 4801), .int (S.1 4802), .int (S.1 4803), .int (S.1 4804), .int (S.1 4805)]), .inr (6, [.int (S.1 4900), .int (S.1 4901), .int (S.1 4902), .int (S.1 4903), .int (S.1 4904), .int (S.1 4905)]), .inr (10, [.int (S.1 5000), .int (S.1 5001), .ref 51, .int (S.1 5003), .ref 52, .ref 53, .ref 54, .ref 55, .ref 56, .ref 57, .int (S.1 5010), .int (S.1 5011), .ref 58, .int (S.1 5013), .ref 59, .int (S.1 5015), .int (S.1 5016), .int (S.1 5017), .int (S.1 5018), .int (S.1 5019), .ref 60, .ref 61, .ref 62, .ref 63, .ref 64, .int (S.1 5025), .int (S.1 5026), .ref 65, .int (S.1 5028), .int (S.1 5029), .int (S.1 5030)]), .inl (.int, (16384, .inl (S.2.1 51))), .inl (.int, (8, .inl (S.2.1 52))), .inl (.int, (8, .inl (S.2.1 53))), .inl (.int, (8, .inl (S.2.1 54))), .inl (.int, (8, .inl (S.2.1 55))), .inl (.int, (8, .inl (S.2.1 56))), .inl (.int, (8, .inl (S.2.1 57))), .inl (.int, (65536, .inl (S.2.1 58))), .inl (.int, (65536, .inl (S.2.1 59))), .inl (.int, (339, .inl (S.2.1 60))), .inl (.int, (339, .inl (S.2.1 61))), .inl (.int, (4096, .inl (S.2.1 62))), .inl (.int, (4096, .inl (S.2.1 63))), .inl (.int, (4096, .inl (S.2.1 64))), .inl (.int, (65536, .inl (S.2.1 65))), .inl (.long, (1, .inr (.inl S.2.2.2.2)))]
theorem hp_0 (S : mS) : (hp S)[0]? = some (.inr (0, [.ref 1, .ref 3, .int (S.1 2), .int (S.1 3), .ref 4, .ref 9, .ref 32, .ref 35, .ref 36, .ref 37, .ref 38, .ref 40, .ref (S.2.2.1 12), .int (S.1 13), .int (S.1 14), .int (S.1 15), .int (S.1 16)])) := rfl
theorem hp_1 (S : mS) : (hp S)[1]? = some (.inr (1, [.ref 2, .int (S.1 101)])) := rfl
theorem hp_2 (S : mS) : (hp S)[2]? = some (.inl (.byte, (16384, .inl (S.2.1 2)))) := rfl
theorem hp_3 (S : mS) : (hp S)[3]? = some (zL [(7, 49), (6, 48), (5, 47), (4, 46), (3, 45), (2, 44), (1, 43), (0, 42)]) := rfl
theorem hp_4 (S : mS) : (hp S)[4]? = some (.inr (8, [.ref (S.2.2.1 400), .ref (S.2.2.1 401), .int (S.1 402), .int (S.1 403), .int (S.1 404), .int (S.1 405), .int (S.1 406)])) := rfl
theorem hp_5 (S : mS) : (hp S)[5]? = some (.inr (1, [.ref 6, .int (S.1 501)])) := rfl
theorem hp_6 (S : mS) : (hp S)[6]? = some (.inl (.byte, (0, .inl (S.2.1 6)))) := rfl
theorem hp_7 (S : mS) : (hp S)[7]? = some (.inr (1, [.ref 8, .int (S.1 701)])) := rfl
theorem hp_8 (S : mS) : (hp S)[8]? = some (.inl (.byte, (0, .inl (S.2.1 8)))) := rfl
theorem hp_9 (S : mS) : (hp S)[9]? = some (.inr (3, [.ref 10, .ref 14, .ref 18, .ref 22, .ref 26, .ref 30])) := rfl
theorem hp_10 (S : mS) : (hp S)[10]? = some (.inr (2, [.ref 11, .ref 12, .ref 13, .int (S.1 1003), .int (S.1 1004)])) := rfl
theorem hp_11 (S : mS) : (hp S)[11]? = some (.inl (.int, (16, .inl (S.2.1 11)))) := rfl
theorem hp_12 (S : mS) : (hp S)[12]? = some (.inl (.int, (16, .inl (S.2.1 12)))) := rfl
theorem hp_13 (S : mS) : (hp S)[13]? = some (.inl (.int, (288, .inl (S.2.1 13)))) := rfl
theorem hp_14 (S : mS) : (hp S)[14]? = some (.inr (2, [.ref 15, .ref 16, .ref 17, .int (S.1 1403), .int (S.1 1404)])) := rfl
theorem hp_15 (S : mS) : (hp S)[15]? = some (.inl (.int, (16, .inl (S.2.1 15)))) := rfl
theorem hp_16 (S : mS) : (hp S)[16]? = some (.inl (.int, (16, .inl (S.2.1 16)))) := rfl
theorem hp_17 (S : mS) : (hp S)[17]? = some (.inl (.int, (32, .inl (S.2.1 17)))) := rfl
theorem hp_18 (S : mS) : (hp S)[18]? = some (.inr (2, [.ref 19, .ref 20, .ref 21, .int (S.1 1803), .int (S.1 1804)])) := rfl
theorem hp_19 (S : mS) : (hp S)[19]? = some (.inl (.int, (16, .inl (S.2.1 19)))) := rfl
theorem hp_20 (S : mS) : (hp S)[20]? = some (.inl (.int, (16, .inl (S.2.1 20)))) := rfl
theorem hp_21 (S : mS) : (hp S)[21]? = some (.inl (.int, (288, .inl (S.2.1 21)))) := rfl
theorem hp_22 (S : mS) : (hp S)[22]? = some (.inr (2, [.ref 23, .ref 24, .ref 25, .int (S.1 2203), .int (S.1 2204)])) := rfl
theorem hp_23 (S : mS) : (hp S)[23]? = some (.inl (.int, (16, .inl (S.2.1 23)))) := rfl
theorem hp_24 (S : mS) : (hp S)[24]? = some (.inl (.int, (16, .inl (S.2.1 24)))) := rfl
theorem hp_25 (S : mS) : (hp S)[25]? = some (.inl (.int, (32, .inl (S.2.1 25)))) := rfl
theorem hp_26 (S : mS) : (hp S)[26]? = some (.inr (2, [.ref 27, .ref 28, .ref 29, .int (S.1 2603), .int (S.1 2604)])) := rfl
theorem hp_27 (S : mS) : (hp S)[27]? = some (.inl (.int, (16, .inl (S.2.1 27)))) := rfl
theorem hp_28 (S : mS) : (hp S)[28]? = some (.inl (.int, (16, .inl (S.2.1 28)))) := rfl
theorem hp_29 (S : mS) : (hp S)[29]? = some (.inl (.int, (19, .inl (S.2.1 29)))) := rfl
theorem hp_30 (S : mS) : (hp S)[30]? = some (.inl (.int, (320, .inl (S.2.1 30)))) := rfl
theorem hp_31 (S : mS) : (hp S)[31]? = some (.inl (.int, (320, .inl (S.2.1 31)))) := rfl
theorem hp_32 (S : mS) : (hp S)[32]? = some (.inr (7, [.ref 33, .ref 34, .int (S.1 3202), .int (S.1 3203), .int (S.1 3204)])) := rfl
theorem hp_33 (S : mS) : (hp S)[33]? = some (.inl (.int, (4096, .inl (S.2.1 33)))) := rfl
theorem hp_34 (S : mS) : (hp S)[34]? = some (.inl (.int, (4096, .inl (S.2.1 34)))) := rfl
theorem hp_35 (S : mS) : (hp S)[35]? = some (.inr (9, [.long S.2.2.2.1, .int (S.1 3501)])) := rfl
theorem hp_36 (S : mS) : (hp S)[36]? = some (.inr (4, [])) := rfl
theorem hp_37 (S : mS) : (hp S)[37]? = some (.inr (5, [])) := rfl
theorem hp_38 (S : mS) : (hp S)[38]? = some (.inr (1, [.ref 39, .int (S.1 3801)])) := rfl
theorem hp_39 (S : mS) : (hp S)[39]? = some (.inl (.byte, (65536, .inl (S.2.1 39)))) := rfl
theorem hp_40 (S : mS) : (hp S)[40]? = some (.inr (1, [.ref 41, .int (S.1 4001)])) := rfl
theorem hp_41 (S : mS) : (hp S)[41]? = some (.inl (.byte, (65536, .inl (S.2.1 41)))) := rfl
theorem hp_42 (S : mS) : (hp S)[42]? = some (.inr (6, [.int (S.1 4200), .int (S.1 4201), .int (S.1 4202), .int (S.1 4203), .int (S.1 4204), .int (S.1 4205)])) := rfl
theorem hp_43 (S : mS) : (hp S)[43]? = some (.inr (6, [.int (S.1 4300), .int (S.1 4301), .int (S.1 4302), .int (S.1 4303), .int (S.1 4304), .int (S.1 4305)])) := rfl
theorem hp_44 (S : mS) : (hp S)[44]? = some (.inr (6, [.int (S.1 4400), .int (S.1 4401), .int (S.1 4402), .int (S.1 4403), .int (S.1 4404), .int (S.1 4405)])) := rfl
theorem hp_45 (S : mS) : (hp S)[45]? = some (.inr (6, [.int (S.1 4500), .int (S.1 4501), .int (S.1 4502), .int (S.1 4503), .int (S.1 4504), .int (S.1 4505)])) := rfl
theorem hp_46 (S : mS) : (hp S)[46]? = some (.inr (6, [.int (S.1 4600), .int (S.1 4601), .int (S.1 4602), .int (S.1 4603), .int (S.1 4604), .int (S.1 4605)])) := rfl
theorem hp_47 (S : mS) : (hp S)[47]? = some (.inr (6, [.int (S.1 4700), .int (S.1 4701), .int (S.1 4702), .int (S.1 4703), .int (S.1 4704), .int (S.1 4705)])) := rfl
theorem hp_48 (S : mS) : (hp S)[48]? = some (.inr (6, [.int (S.1 4800), .int (S.1 4801), .int (S.1 4802), .int (S.1 4803), .int (S.1 4804), .int (S.1 4805)])) := rfl
theorem hp_49 (S : mS) : (hp S)[49]? = some (.inr (6, [.int (S.1 4900), .int (S.1 4901), .int (S.1 4902), .int (S.1 4903), .int (S.1 4904), .int (S.1 4905)])) := rfl
theorem hp_50 (S : mS) : (hp S)[50]? = some (.inr (10, [.int (S.1 5000), .int (S.1 5001), .ref 51, .int (S.1 5003), .ref 52, .ref 53, .ref 54, .ref 55, .ref 56, .ref 57, .int (S.1 5010), .int (S.1 5011), .ref 58, .int (S.1 5013), .ref 59, .int (S.1 5015), .int (S.1 5016), .int (S.1 5017), .int (S.1 5018), .int (S.1 5019), .ref 60, .ref 61, .ref 62, .ref 63, .ref 64, .int (S.1 5025), .int (S.1 5026), .ref 65, .int (S.1 5028), .int (S.1 5029), .int (S.1 5030)])) := rfl
theorem hp_51 (S : mS) : (hp S)[51]? = some (.inl (.int, (16384, .inl (S.2.1 51)))) := rfl
theorem hp_52 (S : mS) : (hp S)[52]? = some (.inl (.int, (8, .inl (S.2.1 52)))) := rfl
theorem hp_53 (S : mS) : (hp S)[53]? = some (.inl (.int, (8, .inl (S.2.1 53)))) := rfl
theorem hp_54 (S : mS) : (hp S)[54]? = some (.inl (.int, (8, .inl (S.2.1 54)))) := rfl
theorem hp_55 (S : mS) : (hp S)[55]? = some (.inl (.int, (8, .inl (S.2.1 55)))) := rfl
theorem hp_56 (S : mS) : (hp S)[56]? = some (.inl (.int, (8, .inl (S.2.1 56)))) := rfl
theorem hp_57 (S : mS) : (hp S)[57]? = some (.inl (.int, (8, .inl (S.2.1 57)))) := rfl
theorem hp_58 (S : mS) : (hp S)[58]? = some (.inl (.int, (65536, .inl (S.2.1 58)))) := rfl
theorem hp_59 (S : mS) : (hp S)[59]? = some (.inl (.int, (65536, .inl (S.2.1 59)))) := rfl
theorem hp_60 (S : mS) : (hp S)[60]? = some (.inl (.int, (339, .inl (S.2.1 60)))) := rfl
theorem hp_61 (S : mS) : (hp S)[61]? = some (.inl (.int, (339, .inl (S.2.1 61)))) := rfl
theorem hp_62 (S : mS) : (hp S)[62]? = some (.inl (.int, (4096, .inl (S.2.1 62)))) := rfl
theorem hp_63 (S : mS) : (hp S)[63]? = some (.inl (.int, (4096, .inl (S.2.1 63)))) := rfl
theorem hp_64 (S : mS) : (hp S)[64]? = some (.inl (.int, (4096, .inl (S.2.1 64)))) := rfl
theorem hp_65 (S : mS) : (hp S)[65]? = some (.inl (.int, (65536, .inl (S.2.1 65)))) := rfl
theorem hp_66 (S : mS) : (hp S)[66]? = some (.inl (.long, (1, .inr (.inl S.2.2.2.2)))) := rfl
theorem hs_0_2 (S : mS) (x : Int32) : (hp S).set 0 (.inr (0, ([.ref 1, .ref 3, .int (S.1 2), .int (S.1 3), .ref 4, .ref 9, .ref 32, .ref 35, .ref 36, .ref 37, .ref 38, .ref 40, .ref (S.2.2.1 12), .int (S.1 13), .int (S.1 14), .int (S.1 15), .int (S.1 16)] : List Value).set 2 (.int x))) = hp (uV S 2 x) := rfl
theorem hs_0_3 (S : mS) (x : Int32) : (hp S).set 0 (.inr (0, ([.ref 1, .ref 3, .int (S.1 2), .int (S.1 3), .ref 4, .ref 9, .ref 32, .ref 35, .ref 36, .ref 37, .ref 38, .ref 40, .ref (S.2.2.1 12), .int (S.1 13), .int (S.1 14), .int (S.1 15), .int (S.1 16)] : List Value).set 3 (.int x))) = hp (uV S 3 x) := rfl
theorem hs_0_12 (S : mS) (r : Nat) : (hp S).set 0 (.inr (0, ([.ref 1, .ref 3, .int (S.1 2), .int (S.1 3), .ref 4, .ref 9, .ref 32, .ref 35, .ref 36, .ref 37, .ref 38, .ref 40, .ref (S.2.2.1 12), .int (S.1 13), .int (S.1 14), .int (S.1 15), .int (S.1 16)] : List Value).set 12 (.ref r))) = hp (uR S 12 r) := rfl
theorem hs_0_13 (S : mS) (x : Int32) : (hp S).set 0 (.inr (0, ([.ref 1, .ref 3, .int (S.1 2), .int (S.1 3), .ref 4, .ref 9, .ref 32, .ref 35, .ref 36, .ref 37, .ref 38, .ref 40, .ref (S.2.2.1 12), .int (S.1 13), .int (S.1 14), .int (S.1 15), .int (S.1 16)] : List Value).set 13 (.int x))) = hp (uV S 13 x) := rfl
theorem hs_0_14 (S : mS) (x : Int32) : (hp S).set 0 (.inr (0, ([.ref 1, .ref 3, .int (S.1 2), .int (S.1 3), .ref 4, .ref 9, .ref 32, .ref 35, .ref 36, .ref 37, .ref 38, .ref 40, .ref (S.2.2.1 12), .int (S.1 13), .int (S.1 14), .int (S.1 15), .int (S.1 16)] : List Value).set 14 (.int x))) = hp (uV S 14 x) := rfl
theorem hs_0_15 (S : mS) (x : Int32) : (hp S).set 0 (.inr (0, ([.ref 1, .ref 3, .int (S.1 2), .int (S.1 3), .ref 4, .ref 9, .ref 32, .ref 35, .ref 36, .ref 37, .ref 38, .ref 40, .ref (S.2.2.1 12), .int (S.1 13), .int (S.1 14), .int (S.1 15), .int (S.1 16)] : List Value).set 15 (.int x))) = hp (uV S 15 x) := rfl
theorem hs_0_16 (S : mS) (x : Int32) : (hp S).set 0 (.inr (0, ([.ref 1, .ref 3, .int (S.1 2), .int (S.1 3), .ref 4, .ref 9, .ref 32, .ref 35, .ref 36, .ref 37, .ref 38, .ref 40, .ref (S.2.2.1 12), .int (S.1 13), .int (S.1 14), .int (S.1 15), .int (S.1 16)] : List Value).set 16 (.int x))) = hp (uV S 16 x) := rfl
theorem hs_4_0 (S : mS) (r : Nat) : (hp S).set 4 (.inr (8, ([.ref (S.2.2.1 400), .ref (S.2.2.1 401), .int (S.1 402), .int (S.1 403), .int (S.1 404), .int (S.1 405), .int (S.1 406)] : List Value).set 0 (.ref r))) = hp (uR S 400 r) := rfl
theorem hs_4_1 (S : mS) (r : Nat) : (hp S).set 4 (.inr (8, ([.ref (S.2.2.1 400), .ref (S.2.2.1 401), .int (S.1 402), .int (S.1 403), .int (S.1 404), .int (S.1 405), .int (S.1 406)] : List Value).set 1 (.ref r))) = hp (uR S 401 r) := rfl
theorem hs_4_2 (S : mS) (x : Int32) : (hp S).set 4 (.inr (8, ([.ref (S.2.2.1 400), .ref (S.2.2.1 401), .int (S.1 402), .int (S.1 403), .int (S.1 404), .int (S.1 405), .int (S.1 406)] : List Value).set 2 (.int x))) = hp (uV S 402 x) := rfl
theorem hs_4_3 (S : mS) (x : Int32) : (hp S).set 4 (.inr (8, ([.ref (S.2.2.1 400), .ref (S.2.2.1 401), .int (S.1 402), .int (S.1 403), .int (S.1 404), .int (S.1 405), .int (S.1 406)] : List Value).set 3 (.int x))) = hp (uV S 403 x) := rfl
theorem hs_4_4 (S : mS) (x : Int32) : (hp S).set 4 (.inr (8, ([.ref (S.2.2.1 400), .ref (S.2.2.1 401), .int (S.1 402), .int (S.1 403), .int (S.1 404), .int (S.1 405), .int (S.1 406)] : List Value).set 4 (.int x))) = hp (uV S 404 x) := rfl
theorem hs_4_5 (S : mS) (x : Int32) : (hp S).set 4 (.inr (8, ([.ref (S.2.2.1 400), .ref (S.2.2.1 401), .int (S.1 402), .int (S.1 403), .int (S.1 404), .int (S.1 405), .int (S.1 406)] : List Value).set 5 (.int x))) = hp (uV S 405 x) := rfl
theorem hs_4_6 (S : mS) (x : Int32) : (hp S).set 4 (.inr (8, ([.ref (S.2.2.1 400), .ref (S.2.2.1 401), .int (S.1 402), .int (S.1 403), .int (S.1 404), .int (S.1 405), .int (S.1 406)] : List Value).set 6 (.int x))) = hp (uV S 406 x) := rfl
theorem hs_32_2 (S : mS) (x : Int32) : (hp S).set 32 (.inr (7, ([.ref 33, .ref 34, .int (S.1 3202), .int (S.1 3203), .int (S.1 3204)] : List Value).set 2 (.int x))) = hp (uV S 3202 x) := rfl
theorem hs_32_3 (S : mS) (x : Int32) : (hp S).set 32 (.inr (7, ([.ref 33, .ref 34, .int (S.1 3202), .int (S.1 3203), .int (S.1 3204)] : List Value).set 3 (.int x))) = hp (uV S 3203 x) := rfl
theorem hs_32_4 (S : mS) (x : Int32) : (hp S).set 32 (.inr (7, ([.ref 33, .ref 34, .int (S.1 3202), .int (S.1 3203), .int (S.1 3204)] : List Value).set 4 (.int x))) = hp (uV S 3204 x) := rfl
theorem hs_35_0 (S : mS) (w : Int64) : (hp S).set 35 (.inr (9, ([.long S.2.2.2.1, .int (S.1 3501)] : List Value).set 0 (.long w))) = hp (uW S w) := rfl
theorem hs_35_1 (S : mS) (x : Int32) : (hp S).set 35 (.inr (9, ([.long S.2.2.2.1, .int (S.1 3501)] : List Value).set 1 (.int x))) = hp (uV S 3501 x) := rfl
theorem hs_50_0 (S : mS) (x : Int32) : (hp S).set 50 (.inr (10, ([.int (S.1 5000), .int (S.1 5001), .ref 51, .int (S.1 5003), .ref 52, .ref 53, .ref 54, .ref 55, .ref 56, .ref 57, .int (S.1 5010), .int (S.1 5011), .ref 58, .int (S.1 5013), .ref 59, .int (S.1 5015), .int (S.1 5016), .int (S.1 5017), .int (S.1 5018), .int (S.1 5019), .ref 60, .ref 61, .ref 62, .ref 63, .ref 64, .int (S.1 5025), .int (S.1 5026), .ref 65, .int (S.1 5028), .int (S.1 5029), .int (S.1 5030)] : List Value).set 0 (.int x))) = hp (uV S 5000 x) := rfl
theorem hs_50_1 (S : mS) (x : Int32) : (hp S).set 50 (.inr (10, ([.int (S.1 5000), .int (S.1 5001), .ref 51, .int (S.1 5003), .ref 52, .ref 53, .ref 54, .ref 55, .ref 56, .ref 57, .int (S.1 5010), .int (S.1 5011), .ref 58, .int (S.1 5013), .ref 59, .int (S.1 5015), .int (S.1 5016), .int (S.1 5017), .int (S.1 5018), .int (S.1 5019), .ref 60, .ref 61, .ref 62, .ref 63, .ref 64, .int (S.1 5025), .int (S.1 5026), .ref 65, .int (S.1 5028), .int (S.1 5029), .int (S.1 5030)] : List Value).set 1 (.int x))) = hp (uV S 5001 x) := rfl
theorem hs_50_3 (S : mS) (x : Int32) : (hp S).set 50 (.inr (10, ([.int (S.1 5000), .int (S.1 5001), .ref 51, .int (S.1 5003), .ref 52, .ref 53, .ref 54, .ref 55, .ref 56, .ref 57, .int (S.1 5010), .int (S.1 5011), .ref 58, .int (S.1 5013), .ref 59, .int (S.1 5015), .int (S.1 5016), .int (S.1 5017), .int (S.1 5018), .int (S.1 5019), .ref 60, .ref 61, .ref 62, .ref 63, .ref 64, .int (S.1 5025), .int (S.1 5026), .ref 65, .int (S.1 5028), .int (S.1 5029), .int (S.1 5030)] : List Value).set 3 (.int x))) = hp (uV S 5003 x) := rfl
theorem hs_50_10 (S : mS) (x : Int32) : (hp S).set 50 (.inr (10, ([.int (S.1 5000), .int (S.1 5001), .ref 51, .int (S.1 5003), .ref 52, .ref 53, .ref 54, .ref 55, .ref 56, .ref 57, .int (S.1 5010), .int (S.1 5011), .ref 58, .int (S.1 5013), .ref 59, .int (S.1 5015), .int (S.1 5016), .int (S.1 5017), .int (S.1 5018), .int (S.1 5019), .ref 60, .ref 61, .ref 62, .ref 63, .ref 64, .int (S.1 5025), .int (S.1 5026), .ref 65, .int (S.1 5028), .int (S.1 5029), .int (S.1 5030)] : List Value).set 10 (.int x))) = hp (uV S 5010 x) := rfl
theorem hs_50_11 (S : mS) (x : Int32) : (hp S).set 50 (.inr (10, ([.int (S.1 5000), .int (S.1 5001), .ref 51, .int (S.1 5003), .ref 52, .ref 53, .ref 54, .ref 55, .ref 56, .ref 57, .int (S.1 5010), .int (S.1 5011), .ref 58, .int (S.1 5013), .ref 59, .int (S.1 5015), .int (S.1 5016), .int (S.1 5017), .int (S.1 5018), .int (S.1 5019), .ref 60, .ref 61, .ref 62, .ref 63, .ref 64, .int (S.1 5025), .int (S.1 5026), .ref 65, .int (S.1 5028), .int (S.1 5029), .int (S.1 5030)] : List Value).set 11 (.int x))) = hp (uV S 5011 x) := rfl
theorem hs_50_13 (S : mS) (x : Int32) : (hp S).set 50 (.inr (10, ([.int (S.1 5000), .int (S.1 5001), .ref 51, .int (S.1 5003), .ref 52, .ref 53, .ref 54, .ref 55, .ref 56, .ref 57, .int (S.1 5010), .int (S.1 5011), .ref 58, .int (S.1 5013), .ref 59, .int (S.1 5015), .int (S.1 5016), .int (S.1 5017), .int (S.1 5018), .int (S.1 5019), .ref 60, .ref 61, .ref 62, .ref 63, .ref 64, .int (S.1 5025), .int (S.1 5026), .ref 65, .int (S.1 5028), .int (S.1 5029), .int (S.1 5030)] : List Value).set 13 (.int x))) = hp (uV S 5013 x) := rfl
theorem hs_50_15 (S : mS) (x : Int32) : (hp S).set 50 (.inr (10, ([.int (S.1 5000), .int (S.1 5001), .ref 51, .int (S.1 5003), .ref 52, .ref 53, .ref 54, .ref 55, .ref 56, .ref 57, .int (S.1 5010), .int (S.1 5011), .ref 58, .int (S.1 5013), .ref 59, .int (S.1 5015), .int (S.1 5016), .int (S.1 5017), .int (S.1 5018), .int (S.1 5019), .ref 60, .ref 61, .ref 62, .ref 63, .ref 64, .int (S.1 5025), .int (S.1 5026), .ref 65, .int (S.1 5028), .int (S.1 5029), .int (S.1 5030)] : List Value).set 15 (.int x))) = hp (uV S 5015 x) := rfl
theorem hs_50_16 (S : mS) (x : Int32) : (hp S).set 50 (.inr (10, ([.int (S.1 5000), .int (S.1 5001), .ref 51, .int (S.1 5003), .ref 52, .ref 53, .ref 54, .ref 55, .ref 56, .ref 57, .int (S.1 5010), .int (S.1 5011), .ref 58, .int (S.1 5013), .ref 59, .int (S.1 5015), .int (S.1 5016), .int (S.1 5017), .int (S.1 5018), .int (S.1 5019), .ref 60, .ref 61, .ref 62, .ref 63, .ref 64, .int (S.1 5025), .int (S.1 5026), .ref 65, .int (S.1 5028), .int (S.1 5029), .int (S.1 5030)] : List Value).set 16 (.int x))) = hp (uV S 5016 x) := rfl
theorem hs_50_17 (S : mS) (x : Int32) : (hp S).set 50 (.inr (10, ([.int (S.1 5000), .int (S.1 5001), .ref 51, .int (S.1 5003), .ref 52, .ref 53, .ref 54, .ref 55, .ref 56, .ref 57, .int (S.1 5010), .int (S.1 5011), .ref 58, .int (S.1 5013), .ref 59, .int (S.1 5015), .int (S.1 5016), .int (S.1 5017), .int (S.1 5018), .int (S.1 5019), .ref 60, .ref 61, .ref 62, .ref 63, .ref 64, .int (S.1 5025), .int (S.1 5026), .ref 65, .int (S.1 5028), .int (S.1 5029), .int (S.1 5030)] : List Value).set 17 (.int x))) = hp (uV S 5017 x) := rfl
theorem hs_50_18 (S : mS) (x : Int32) : (hp S).set 50 (.inr (10, ([.int (S.1 5000), .int (S.1 5001), .ref 51, .int (S.1 5003), .ref 52, .ref 53, .ref 54, .ref 55, .ref 56, .ref 57, .int (S.1 5010), .int (S.1 5011), .ref 58, .int (S.1 5013), .ref 59, .int (S.1 5015), .int (S.1 5016), .int (S.1 5017), .int (S.1 5018), .int (S.1 5019), .ref 60, .ref 61, .ref 62, .ref 63, .ref 64, .int (S.1 5025), .int (S.1 5026), .ref 65, .int (S.1 5028), .int (S.1 5029), .int (S.1 5030)] : List Value).set 18 (.int x))) = hp (uV S 5018 x) := rfl
theorem hs_50_19 (S : mS) (x : Int32) : (hp S).set 50 (.inr (10, ([.int (S.1 5000), .int (S.1 5001), .ref 51, .int (S.1 5003), .ref 52, .ref 53, .ref 54, .ref 55, .ref 56, .ref 57, .int (S.1 5010), .int (S.1 5011), .ref 58, .int (S.1 5013), .ref 59, .int (S.1 5015), .int (S.1 5016), .int (S.1 5017), .int (S.1 5018), .int (S.1 5019), .ref 60, .ref 61, .ref 62, .ref 63, .ref 64, .int (S.1 5025), .int (S.1 5026), .ref 65, .int (S.1 5028), .int (S.1 5029), .int (S.1 5030)] : List Value).set 19 (.int x))) = hp (uV S 5019 x) := rfl
theorem hs_50_25 (S : mS) (x : Int32) : (hp S).set 50 (.inr (10, ([.int (S.1 5000), .int (S.1 5001), .ref 51, .int (S.1 5003), .ref 52, .ref 53, .ref 54, .ref 55, .ref 56, .ref 57, .int (S.1 5010), .int (S.1 5011), .ref 58, .int (S.1 5013), .ref 59, .int (S.1 5015), .int (S.1 5016), .int (S.1 5017), .int (S.1 5018), .int (S.1 5019), .ref 60, .ref 61, .ref 62, .ref 63, .ref 64, .int (S.1 5025), .int (S.1 5026), .ref 65, .int (S.1 5028), .int (S.1 5029), .int (S.1 5030)] : List Value).set 25 (.int x))) = hp (uV S 5025 x) := rfl
theorem hs_50_26 (S : mS) (x : Int32) : (hp S).set 50 (.inr (10, ([.int (S.1 5000), .int (S.1 5001), .ref 51, .int (S.1 5003), .ref 52, .ref 53, .ref 54, .ref 55, .ref 56, .ref 57, .int (S.1 5010), .int (S.1 5011), .ref 58, .int (S.1 5013), .ref 59, .int (S.1 5015), .int (S.1 5016), .int (S.1 5017), .int (S.1 5018), .int (S.1 5019), .ref 60, .ref 61, .ref 62, .ref 63, .ref 64, .int (S.1 5025), .int (S.1 5026), .ref 65, .int (S.1 5028), .int (S.1 5029), .int (S.1 5030)] : List Value).set 26 (.int x))) = hp (uV S 5026 x) := rfl
theorem hs_50_28 (S : mS) (x : Int32) : (hp S).set 50 (.inr (10, ([.int (S.1 5000), .int (S.1 5001), .ref 51, .int (S.1 5003), .ref 52, .ref 53, .ref 54, .ref 55, .ref 56, .ref 57, .int (S.1 5010), .int (S.1 5011), .ref 58, .int (S.1 5013), .ref 59, .int (S.1 5015), .int (S.1 5016), .int (S.1 5017), .int (S.1 5018), .int (S.1 5019), .ref 60, .ref 61, .ref 62, .ref 63, .ref 64, .int (S.1 5025), .int (S.1 5026), .ref 65, .int (S.1 5028), .int (S.1 5029), .int (S.1 5030)] : List Value).set 28 (.int x))) = hp (uV S 5028 x) := rfl
theorem hs_50_29 (S : mS) (x : Int32) : (hp S).set 50 (.inr (10, ([.int (S.1 5000), .int (S.1 5001), .ref 51, .int (S.1 5003), .ref 52, .ref 53, .ref 54, .ref 55, .ref 56, .ref 57, .int (S.1 5010), .int (S.1 5011), .ref 58, .int (S.1 5013), .ref 59, .int (S.1 5015), .int (S.1 5016), .int (S.1 5017), .int (S.1 5018), .int (S.1 5019), .ref 60, .ref 61, .ref 62, .ref 63, .ref 64, .int (S.1 5025), .int (S.1 5026), .ref 65, .int (S.1 5028), .int (S.1 5029), .int (S.1 5030)] : List Value).set 29 (.int x))) = hp (uV S 5029 x) := rfl
theorem hs_50_30 (S : mS) (x : Int32) : (hp S).set 50 (.inr (10, ([.int (S.1 5000), .int (S.1 5001), .ref 51, .int (S.1 5003), .ref 52, .ref 53, .ref 54, .ref 55, .ref 56, .ref 57, .int (S.1 5010), .int (S.1 5011), .ref 58, .int (S.1 5013), .ref 59, .int (S.1 5015), .int (S.1 5016), .int (S.1 5017), .int (S.1 5018), .int (S.1 5019), .ref 60, .ref 61, .ref 62, .ref 63, .ref 64, .int (S.1 5025), .int (S.1 5026), .ref 65, .int (S.1 5028), .int (S.1 5029), .int (S.1 5030)] : List Value).set 30 (.int x))) = hp (uV S 5030 x) := rfl
theorem ha_11 (S : mS) (f : Nat → Int32) : (hp S).set 11 (.inl (.int, (16, .inl f))) = hp (uA S 11 f) := rfl
theorem ha_12 (S : mS) (f : Nat → Int32) : (hp S).set 12 (.inl (.int, (16, .inl f))) = hp (uA S 12 f) := rfl
theorem ha_13 (S : mS) (f : Nat → Int32) : (hp S).set 13 (.inl (.int, (288, .inl f))) = hp (uA S 13 f) := rfl
theorem ha_15 (S : mS) (f : Nat → Int32) : (hp S).set 15 (.inl (.int, (16, .inl f))) = hp (uA S 15 f) := rfl
theorem ha_16 (S : mS) (f : Nat → Int32) : (hp S).set 16 (.inl (.int, (16, .inl f))) = hp (uA S 16 f) := rfl
theorem ha_17 (S : mS) (f : Nat → Int32) : (hp S).set 17 (.inl (.int, (32, .inl f))) = hp (uA S 17 f) := rfl
theorem ha_19 (S : mS) (f : Nat → Int32) : (hp S).set 19 (.inl (.int, (16, .inl f))) = hp (uA S 19 f) := rfl
theorem ha_20 (S : mS) (f : Nat → Int32) : (hp S).set 20 (.inl (.int, (16, .inl f))) = hp (uA S 20 f) := rfl
theorem ha_21 (S : mS) (f : Nat → Int32) : (hp S).set 21 (.inl (.int, (288, .inl f))) = hp (uA S 21 f) := rfl
theorem ha_23 (S : mS) (f : Nat → Int32) : (hp S).set 23 (.inl (.int, (16, .inl f))) = hp (uA S 23 f) := rfl
theorem ha_24 (S : mS) (f : Nat → Int32) : (hp S).set 24 (.inl (.int, (16, .inl f))) = hp (uA S 24 f) := rfl
theorem ha_25 (S : mS) (f : Nat → Int32) : (hp S).set 25 (.inl (.int, (32, .inl f))) = hp (uA S 25 f) := rfl
theorem ha_27 (S : mS) (f : Nat → Int32) : (hp S).set 27 (.inl (.int, (16, .inl f))) = hp (uA S 27 f) := rfl
theorem ha_28 (S : mS) (f : Nat → Int32) : (hp S).set 28 (.inl (.int, (16, .inl f))) = hp (uA S 28 f) := rfl
theorem ha_29 (S : mS) (f : Nat → Int32) : (hp S).set 29 (.inl (.int, (19, .inl f))) = hp (uA S 29 f) := rfl
theorem ha_30 (S : mS) (f : Nat → Int32) : (hp S).set 30 (.inl (.int, (320, .inl f))) = hp (uA S 30 f) := rfl
theorem ha_31 (S : mS) (f : Nat → Int32) : (hp S).set 31 (.inl (.int, (320, .inl f))) = hp (uA S 31 f) := rfl
theorem ha_33 (S : mS) (f : Nat → Int32) : (hp S).set 33 (.inl (.int, (4096, .inl f))) = hp (uA S 33 f) := rfl
theorem ha_34 (S : mS) (f : Nat → Int32) : (hp S).set 34 (.inl (.int, (4096, .inl f))) = hp (uA S 34 f) := rfl
theorem ha_51 (S : mS) (f : Nat → Int32) : (hp S).set 51 (.inl (.int, (16384, .inl f))) = hp (uA S 51 f) := rfl
theorem ha_52 (S : mS) (f : Nat → Int32) : (hp S).set 52 (.inl (.int, (8, .inl f))) = hp (uA S 52 f) := rfl
theorem ha_53 (S : mS) (f : Nat → Int32) : (hp S).set 53 (.inl (.int, (8, .inl f))) = hp (uA S 53 f) := rfl
theorem ha_54 (S : mS) (f : Nat → Int32) : (hp S).set 54 (.inl (.int, (8, .inl f))) = hp (uA S 54 f) := rfl
theorem ha_55 (S : mS) (f : Nat → Int32) : (hp S).set 55 (.inl (.int, (8, .inl f))) = hp (uA S 55 f) := rfl
theorem ha_56 (S : mS) (f : Nat → Int32) : (hp S).set 56 (.inl (.int, (8, .inl f))) = hp (uA S 56 f) := rfl
theorem ha_57 (S : mS) (f : Nat → Int32) : (hp S).set 57 (.inl (.int, (8, .inl f))) = hp (uA S 57 f) := rfl
theorem ha_58 (S : mS) (f : Nat → Int32) : (hp S).set 58 (.inl (.int, (65536, .inl f))) = hp (uA S 58 f) := rfl
theorem ha_59 (S : mS) (f : Nat → Int32) : (hp S).set 59 (.inl (.int, (65536, .inl f))) = hp (uA S 59 f) := rfl
theorem ha_60 (S : mS) (f : Nat → Int32) : (hp S).set 60 (.inl (.int, (339, .inl f))) = hp (uA S 60 f) := rfl
theorem ha_61 (S : mS) (f : Nat → Int32) : (hp S).set 61 (.inl (.int, (339, .inl f))) = hp (uA S 61 f) := rfl
theorem ha_62 (S : mS) (f : Nat → Int32) : (hp S).set 62 (.inl (.int, (4096, .inl f))) = hp (uA S 62 f) := rfl
theorem ha_63 (S : mS) (f : Nat → Int32) : (hp S).set 63 (.inl (.int, (4096, .inl f))) = hp (uA S 63 f) := rfl
theorem ha_64 (S : mS) (f : Nat → Int32) : (hp S).set 64 (.inl (.int, (4096, .inl f))) = hp (uA S 64 f) := rfl
theorem ha_65 (S : mS) (f : Nat → Int32) : (hp S).set 65 (.inl (.int, (65536, .inl f))) = hp (uA S 65 f) := rfl
theorem ha_66 (S : mS) (f : Nat → Int64) : (hp S).set 66 (.inl (.long, (1, .inr (.inl f)))) = hp (uL S f) := rfl
def isBy (b : Nat) : Prop := b = 1 ∨ b = 5 ∨ b = 7 ∨ b = 38 ∨ b = 40
def isCo (c : Nat) : Prop := c = 10 ∨ c = 14 ∨ c = 18 ∨ c = 22 ∨ c = 26
def isLi (c : Nat) : Prop := c = 42 ∨ c = 43 ∨ c = 44 ∨ c = 45 ∨ c = 46 ∨ c = 47 ∨ c = 48 ∨ c = 49
def nB (b : Nat) : Nat := if b = 1 then 16384 else if b = 5 then 0 else if b = 7 then 0 else if b = 38 then 65536 else if b = 40 then 65536 else 0
def nC (c : Nat) : Nat := if c = 10 then 288 else if c = 14 then 32 else if c = 18 then 288 else if c = 22 then 32 else if c = 26 then 19 else 0
theorem hp_by {b : Nat} (h : isBy b) (S : mS) : (hp S)[b]? = some (.inr (1, [.ref (b + 1), .int (S.1 (100 * b + 1))])) := by rcases h with rfl | rfl | rfl | rfl | rfl <;> rfl
theorem hp_ba {b : Nat} (h : isBy b) (S : mS) : (hp S)[b + 1]? = some (.inl (.byte, (nB b, .inl (S.2.1 (b + 1))))) := by rcases h with rfl | rfl | rfl | rfl | rfl <;> rfl
theorem hs_by {b : Nat} (h : isBy b) (S : mS) (x : Int32) : (hp S).set b (.inr (1, ([.ref (b + 1), .int (S.1 (100 * b + 1))] : List Value).set 1 (.int x))) = hp (uV S (100 * b + 1) x) := by rcases h with rfl | rfl | rfl | rfl | rfl <;> rfl
theorem ha_by {b : Nat} (h : isBy b) (S : mS) (f : Nat → Int32) : (hp S).set (b + 1) (.inl (.byte, (nB b, .inl f))) = hp (uA S (b + 1) f) := by rcases h with rfl | rfl | rfl | rfl | rfl <;> rfl
theorem hp_co {c : Nat} (h : isCo c) (S : mS) : (hp S)[c]? = some (.inr (2, [.ref (c + 1), .ref (c + 2), .ref (c + 3), .int (S.1 (100 * c + 3)), .int (S.1 (100 * c + 4))])) := by rcases h with rfl | rfl | rfl | rfl | rfl <;> rfl
theorem hp_c1 {c : Nat} (h : isCo c) (S : mS) : (hp S)[c + 1]? = some (.inl (.int, (16, .inl (S.2.1 (c + 1))))) := by rcases h with rfl | rfl | rfl | rfl | rfl <;> rfl
theorem hp_c2 {c : Nat} (h : isCo c) (S : mS) : (hp S)[c + 2]? = some (.inl (.int, (16, .inl (S.2.1 (c + 2))))) := by rcases h with rfl | rfl | rfl | rfl | rfl <;> rfl
theorem hp_c3 {c : Nat} (h : isCo c) (S : mS) : (hp S)[c + 3]? = some (.inl (.int, (nC c, .inl (S.2.1 (c + 3))))) := by rcases h with rfl | rfl | rfl | rfl | rfl <;> rfl
theorem hp_li {c : Nat} (h : isLi c) (S : mS) : (hp S)[c]? = some (.inr (6, [.int (S.1 (100 * c)), .int (S.1 (100 * c + 1)), .int (S.1 (100 * c + 2)), .int (S.1 (100 * c + 3)), .int (S.1 (100 * c + 4)), .int (S.1 (100 * c + 5))])) := by rcases h with rfl | rfl | rfl | rfl | rfl | rfl | rfl | rfl <;> rfl
theorem hs_li_0 {c : Nat} (h : isLi c) (S : mS) (x : Int32) : (hp S).set c (.inr (6, ([.int (S.1 (100 * c)), .int (S.1 (100 * c + 1)), .int (S.1 (100 * c + 2)), .int (S.1 (100 * c + 3)), .int (S.1 (100 * c + 4)), .int (S.1 (100 * c + 5))] : List Value).set 0 (.int x))) = hp (uV S (100 * c + 0) x) := by rcases h with rfl | rfl | rfl | rfl | rfl | rfl | rfl | rfl <;> rfl
theorem hs_li_1 {c : Nat} (h : isLi c) (S : mS) (x : Int32) : (hp S).set c (.inr (6, ([.int (S.1 (100 * c)), .int (S.1 (100 * c + 1)), .int (S.1 (100 * c + 2)), .int (S.1 (100 * c + 3)), .int (S.1 (100 * c + 4)), .int (S.1 (100 * c + 5))] : List Value).set 1 (.int x))) = hp (uV S (100 * c + 1) x) := by rcases h with rfl | rfl | rfl | rfl | rfl | rfl | rfl | rfl <;> rfl
theorem hs_li_2 {c : Nat} (h : isLi c) (S : mS) (x : Int32) : (hp S).set c (.inr (6, ([.int (S.1 (100 * c)), .int (S.1 (100 * c + 1)), .int (S.1 (100 * c + 2)), .int (S.1 (100 * c + 3)), .int (S.1 (100 * c + 4)), .int (S.1 (100 * c + 5))] : List Value).set 2 (.int x))) = hp (uV S (100 * c + 2) x) := by rcases h with rfl | rfl | rfl | rfl | rfl | rfl | rfl | rfl <;> rfl
theorem hs_li_3 {c : Nat} (h : isLi c) (S : mS) (x : Int32) : (hp S).set c (.inr (6, ([.int (S.1 (100 * c)), .int (S.1 (100 * c + 1)), .int (S.1 (100 * c + 2)), .int (S.1 (100 * c + 3)), .int (S.1 (100 * c + 4)), .int (S.1 (100 * c + 5))] : List Value).set 3 (.int x))) = hp (uV S (100 * c + 3) x) := by rcases h with rfl | rfl | rfl | rfl | rfl | rfl | rfl | rfl <;> rfl
theorem hs_li_4 {c : Nat} (h : isLi c) (S : mS) (x : Int32) : (hp S).set c (.inr (6, ([.int (S.1 (100 * c)), .int (S.1 (100 * c + 1)), .int (S.1 (100 * c + 2)), .int (S.1 (100 * c + 3)), .int (S.1 (100 * c + 4)), .int (S.1 (100 * c + 5))] : List Value).set 4 (.int x))) = hp (uV S (100 * c + 4) x) := by rcases h with rfl | rfl | rfl | rfl | rfl | rfl | rfl | rfl <;> rfl
theorem hs_li_5 {c : Nat} (h : isLi c) (S : mS) (x : Int32) : (hp S).set c (.inr (6, ([.int (S.1 (100 * c)), .int (S.1 (100 * c + 1)), .int (S.1 (100 * c + 2)), .int (S.1 (100 * c + 3)), .int (S.1 (100 * c + 4)), .int (S.1 (100 * c + 5))] : List Value).set 5 (.int x))) = hp (uV S (100 * c + 5) x) := by rcases h with rfl | rfl | rfl | rfl | rfl | rfl | rfl | rfl <;> rfl
theorem co_hp {c : Nat} (h : isCo c) (S : mS) : coH (hp S) c (c + 1) (c + 2) (c + 3) (nC c) (S.1 (100 * c + 3)) (S.1 (100 * c + 4)) (S.2.1 (c + 1)) (S.2.1 (c + 2)) (S.2.1 (c + 3)) = hp S := by rcases h with rfl | rfl | rfl | rfl | rfl <;> rfl
theorem co_hq {c : Nat} (h : isCo c) (S : mS) (u l : Int32) (fc fp fs : Nat → Int32) : coH (hp S) c (c + 1) (c + 2) (c + 3) (nC c) u l fc fp fs = hp (uA (uA (uA (uV (uV S (100 * c + 3) u) (100 * c + 4) l) (c + 1) fc) (c + 2) fp) (c + 3) fs) := by rcases h with rfl | rfl | rfl | rfl | rfl <;> rfl
theorem by_1 : isBy 1 := by unfold isBy; decide
theorem by_5 : isBy 5 := by unfold isBy; decide
theorem by_7 : isBy 7 := by unfold isBy; decide
theorem by_38 : isBy 38 := by unfold isBy; decide
theorem by_40 : isBy 40 := by unfold isBy; decide
theorem co_10 : isCo 10 := by unfold isCo; decide
theorem co_14 : isCo 14 := by unfold isCo; decide
theorem co_18 : isCo 18 := by unfold isCo; decide
theorem co_22 : isCo 22 := by unfold isCo; decide
theorem co_26 : isCo 26 := by unfold isCo; decide
