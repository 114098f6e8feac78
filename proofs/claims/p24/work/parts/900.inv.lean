/-! both worlds, cell by cell, between two calls of the law -/
abbrev CP_0 (cy : Nat → ClassId) (ad : Nat → Nat) (e : va_E) : Prop := ∃ (x0_1 : Int32) (x0_13 : Int32), e = .inr (11, [.ref (ad 1), .int x0_1, .ref (ad 2), .ref (ad 21), .ref (ad 38), .ref (ad 42), .ref (ad 55), .ref (ad 59), .ref (ad 62), .ref (ad 74), .ref (ad 88), .ref (ad 101), .ref (ad 118), .int x0_13]) ∧ zi 0 1600 x0_1 ∧ zi 0 24 x0_13
abbrev CP_1 (cy : Nat → ClassId) (ad : Nat → Nat) (e : va_E) : Prop := ∃ (f1 : Nat → Int32), e = .inl (cy 0, 1600, .inl f1)
abbrev CP_2 (cy : Nat → ClassId) (ad : Nat → Nat) (e : va_E) : Prop := ∃ (x2_1 : Int32) (x2_2 : Int32) (u2_3 : Value) (x2_4 : Int32) (x2_5 : Int32) (x2_6 : Int32) (x2_7 : Int32) (x2_8 : Int32) (x2_9 : Int32) (x2_10 : Int32) (w2_11 : Int64), e = .inr (6, [.ref (ad 3), .int x2_1, .int x2_2, u2_3, .int x2_4, .int x2_5, .int x2_6, .int x2_7, .int x2_8, .int x2_9, .int x2_10, .long w2_11]) ∧ zi 0 1600 x2_4 ∧ zi 0 1600 x2_5 ∧ zi 0 1600 x2_7 ∧ ((x2_6 : Int32) = 1 → (x2_7 : Int32).toInt + (x2_8 : Int32).toInt ≤ 1600)
abbrev CP_3 (cy : Nat → ClassId) (ad : Nat → Nat) (e : va_E) : Prop := ∃ (x3_5 : Int32) (x3_11 : Int32) (x3_15 : Int32) (x3_16 : Int32), e = .inr (7, [.ref (ad 4), .ref (ad 5), .ref (ad 6), .ref (ad 7), .ref (ad 8), .int x3_5, .ref (ad 9), .ref (ad 10), .ref (ad 11), .ref (ad 12), .ref (ad 13), .int x3_11, .ref (ad 14), .ref (ad 15), .ref (ad 16), .int x3_15, .int x3_16, .ref (ad 17)]) ∧ zi 0 5 x3_5 ∧ zi 0 4 x3_11 ∧ zi 0 12 x3_16
abbrev CP_4 (cy : Nat → ClassId) (ad : Nat → Nat) (e : va_E) : Prop := ∃ (f4 : Nat → Int64), e = .inl (cy 1, 5, .inr (.inl f4))
abbrev CP_5 (cy : Nat → ClassId) (ad : Nat → Nat) (e : va_E) : Prop := ∃ (f5 : Nat → Int32), e = .inl (cy 0, 5, .inl f5)
abbrev CP_6 (cy : Nat → ClassId) (ad : Nat → Nat) (e : va_E) : Prop := ∃ (f6 : Nat → Int32), e = .inl (cy 0, 5, .inl f6)
abbrev CP_7 (cy : Nat → ClassId) (ad : Nat → Nat) (e : va_E) : Prop := ∃ (f7 : Nat → Int32), e = .inl (cy 0, 5, .inl f7)
abbrev CP_8 (cy : Nat → ClassId) (ad : Nat → Nat) (e : va_E) : Prop := ∃ (f8 : Nat → Int32), e = .inl (cy 0, 5, .inl f8) ∧ za (-1) 3 f8
abbrev CP_9 (cy : Nat → ClassId) (ad : Nat → Nat) (e : va_E) : Prop := ∃ (f9 : Nat → Int64), e = .inl (cy 1, 4, .inr (.inl f9))
abbrev CP_10 (cy : Nat → ClassId) (ad : Nat → Nat) (e : va_E) : Prop := ∃ (f10 : Nat → Int32), e = .inl (cy 0, 4, .inl f10)
abbrev CP_11 (cy : Nat → ClassId) (ad : Nat → Nat) (e : va_E) : Prop := ∃ (f11 : Nat → Int32), e = .inl (cy 0, 4, .inl f11)
abbrev CP_12 (cy : Nat → ClassId) (ad : Nat → Nat) (e : va_E) : Prop := ∃ (f12 : Nat → Int32), e = .inl (cy 0, 20, .inl f12) ∧ za 0 4 f12
abbrev CP_13 (cy : Nat → ClassId) (ad : Nat → Nat) (e : va_E) : Prop := ∃ (f13 : Nat → Int32), e = .inl (cy 0, 4, .inl f13) ∧ za 0 5 f13
abbrev CP_14 (cy : Nat → ClassId) (ad : Nat → Nat) (e : va_E) : Prop := ∃ (f14 : Nat → Int64), e = .inl (cy 1, 12, .inr (.inl f14))
abbrev CP_15 (cy : Nat → ClassId) (ad : Nat → Nat) (e : va_E) : Prop := ∃ (f15 : Nat → Int32), e = .inl (cy 0, 12, .inl f15)
abbrev CP_16 (cy : Nat → ClassId) (ad : Nat → Nat) (e : va_E) : Prop := ∃ (f16 : Nat → Int32), e = .inl (cy 0, 12, .inl f16)
abbrev CP_17 (cy : Nat → ClassId) (ad : Nat → Nat) (e : va_E) : Prop := ∃ (x17_1 : Int32) (x17_2 : Int32) (x17_3 : Int32), e = .inr (4, [.ref (ad 18), .int x17_1, .int x17_2, .int x17_3, .ref (ad 19)]) ∧ zi 0 300 x17_1 ∧ zi 0 1 x17_3
abbrev CP_18 (cy : Nat → ClassId) (ad : Nat → Nat) (e : va_E) : Prop := ∃ (f18 : Nat → Int32), e = .inl (cy 0, 300, .inl f18)
abbrev CP_19 (cy : Nat → ClassId) (ad : Nat → Nat) (e : va_E) : Prop := ∃ (f19 : Nat → Int32), e = .inl (cy 0, 30, .inl f19)
abbrev CP_20 (cy : Nat → ClassId) (ad : Nat → Nat) (e : va_E) : Prop := ∃ (f20 : Nat → Int32), e = .inl (cy 0, 0, .inl f20)
abbrev CP_21 (cy : Nat → ClassId) (ad : Nat → Nat) (e : va_E) : Prop := ∃ (x21_5 : Int32) (x21_11 : Int32) (x21_15 : Int32) (x21_16 : Int32), e = .inr (7, [.ref (ad 22), .ref (ad 23), .ref (ad 24), .ref (ad 25), .ref (ad 26), .int x21_5, .ref (ad 27), .ref (ad 28), .ref (ad 29), .ref (ad 30), .ref (ad 31), .int x21_11, .ref (ad 32), .ref (ad 33), .ref (ad 34), .int x21_15, .int x21_16, .ref (ad 35)]) ∧ zi 0 5 x21_5 ∧ zi 0 4 x21_11 ∧ zi 0 12 x21_16
abbrev CP_22 (cy : Nat → ClassId) (ad : Nat → Nat) (e : va_E) : Prop := ∃ (f22 : Nat → Int64), e = .inl (cy 1, 5, .inr (.inl f22))
abbrev CP_23 (cy : Nat → ClassId) (ad : Nat → Nat) (e : va_E) : Prop := ∃ (f23 : Nat → Int32), e = .inl (cy 0, 5, .inl f23)
abbrev CP_24 (cy : Nat → ClassId) (ad : Nat → Nat) (e : va_E) : Prop := ∃ (f24 : Nat → Int32), e = .inl (cy 0, 5, .inl f24)
abbrev CP_25 (cy : Nat → ClassId) (ad : Nat → Nat) (e : va_E) : Prop := ∃ (f25 : Nat → Int32), e = .inl (cy 0, 5, .inl f25)
abbrev CP_26 (cy : Nat → ClassId) (ad : Nat → Nat) (e : va_E) : Prop := ∃ (f26 : Nat → Int32), e = .inl (cy 0, 5, .inl f26) ∧ za (-1) 3 f26
abbrev CP_27 (cy : Nat → ClassId) (ad : Nat → Nat) (e : va_E) : Prop := ∃ (f27 : Nat → Int64), e = .inl (cy 1, 4, .inr (.inl f27))
abbrev CP_28 (cy : Nat → ClassId) (ad : Nat → Nat) (e : va_E) : Prop := ∃ (f28 : Nat → Int32), e = .inl (cy 0, 4, .inl f28)
abbrev CP_29 (cy : Nat → ClassId) (ad : Nat → Nat) (e : va_E) : Prop := ∃ (f29 : Nat → Int32), e = .inl (cy 0, 4, .inl f29)
abbrev CP_30 (cy : Nat → ClassId) (ad : Nat → Nat) (e : va_E) : Prop := ∃ (f30 : Nat → Int32), e = .inl (cy 0, 20, .inl f30) ∧ za 0 4 f30
abbrev CP_31 (cy : Nat → ClassId) (ad : Nat → Nat) (e : va_E) : Prop := ∃ (f31 : Nat → Int32), e = .inl (cy 0, 4, .inl f31) ∧ za 0 5 f31
abbrev CP_32 (cy : Nat → ClassId) (ad : Nat → Nat) (e : va_E) : Prop := ∃ (f32 : Nat → Int64), e = .inl (cy 1, 12, .inr (.inl f32))
abbrev CP_33 (cy : Nat → ClassId) (ad : Nat → Nat) (e : va_E) : Prop := ∃ (f33 : Nat → Int32), e = .inl (cy 0, 12, .inl f33)
abbrev CP_34 (cy : Nat → ClassId) (ad : Nat → Nat) (e : va_E) : Prop := ∃ (f34 : Nat → Int32), e = .inl (cy 0, 12, .inl f34)
abbrev CP_35 (cy : Nat → ClassId) (ad : Nat → Nat) (e : va_E) : Prop := ∃ (x35_1 : Int32) (x35_2 : Int32) (x35_3 : Int32), e = .inr (4, [.ref (ad 36), .int x35_1, .int x35_2, .int x35_3, .ref (ad 37)]) ∧ zi 0 300 x35_1 ∧ zi 0 1 x35_3
abbrev CP_36 (cy : Nat → ClassId) (ad : Nat → Nat) (e : va_E) : Prop := ∃ (f36 : Nat → Int32), e = .inl (cy 0, 300, .inl f36)
abbrev CP_37 (cy : Nat → ClassId) (ad : Nat → Nat) (e : va_E) : Prop := ∃ (f37 : Nat → Int32), e = .inl (cy 0, 30, .inl f37)
abbrev CP_38 (cy : Nat → ClassId) (ad : Nat → Nat) (e : va_E) : Prop := ∃ (x38_2 : Int32) (x38_4 : Int32), e = .inr (9, [.ref (ad 39), .ref (ad 40), .int x38_2, .ref (ad 41), .int x38_4]) ∧ zi 0 24 x38_4
abbrev CP_39 (cy : Nat → ClassId) (ad : Nat → Nat) (e : va_E) : Prop := ∃ (f39 : Nat → Int32), e = .inl (cy 0, 24, .inl f39)
abbrev CP_40 (cy : Nat → ClassId) (ad : Nat → Nat) (e : va_E) : Prop := ∃ (f40 : Nat → Int32), e = .inl (cy 0, 24, .inl f40)
abbrev CP_41 (cy : Nat → ClassId) (ad : Nat → Nat) (e : va_E) : Prop := ∃ (f41 : Nat → Int32), e = .inl (cy 0, 5, .inl f41)
abbrev CP_42 (cy : Nat → ClassId) (ad : Nat → Nat) (e : va_E) : Prop := e = .inl (cy 4, 3, .inr (.inr (.inr (.inr (va_up (va_up (va_up (fun _ => none) (0 : Int32).toNatClampNeg (some (ad 43))) (1 : Int32).toNatClampNeg (some (ad 47))) (2 : Int32).toNatClampNeg (some (ad 51)))))))
abbrev CP_43 (cy : Nat → ClassId) (ad : Nat → Nat) (e : va_E) : Prop := ∃ (x43_2 : Int32) (x43_4 : Int32), e = .inr (9, [.ref (ad 44), .ref (ad 45), .int x43_2, .ref (ad 46), .int x43_4]) ∧ zi (-1) 24 x43_4
abbrev CP_44 (cy : Nat → ClassId) (ad : Nat → Nat) (e : va_E) : Prop := ∃ (f44 : Nat → Int32), e = .inl (cy 0, 24, .inl f44)
abbrev CP_45 (cy : Nat → ClassId) (ad : Nat → Nat) (e : va_E) : Prop := ∃ (f45 : Nat → Int32), e = .inl (cy 0, 24, .inl f45)
abbrev CP_46 (cy : Nat → ClassId) (ad : Nat → Nat) (e : va_E) : Prop := ∃ (f46 : Nat → Int32), e = .inl (cy 0, 5, .inl f46)
abbrev CP_47 (cy : Nat → ClassId) (ad : Nat → Nat) (e : va_E) : Prop := ∃ (x47_2 : Int32) (x47_4 : Int32), e = .inr (9, [.ref (ad 48), .ref (ad 49), .int x47_2, .ref (ad 50), .int x47_4]) ∧ zi (-1) 24 x47_4
abbrev CP_48 (cy : Nat → ClassId) (ad : Nat → Nat) (e : va_E) : Prop := ∃ (f48 : Nat → Int32), e = .inl (cy 0, 24, .inl f48)
abbrev CP_49 (cy : Nat → ClassId) (ad : Nat → Nat) (e : va_E) : Prop := ∃ (f49 : Nat → Int32), e = .inl (cy 0, 24, .inl f49)
abbrev CP_50 (cy : Nat → ClassId) (ad : Nat → Nat) (e : va_E) : Prop := ∃ (f50 : Nat → Int32), e = .inl (cy 0, 5, .inl f50)
abbrev CP_51 (cy : Nat → ClassId) (ad : Nat → Nat) (e : va_E) : Prop := ∃ (x51_2 : Int32) (x51_4 : Int32), e = .inr (9, [.ref (ad 52), .ref (ad 53), .int x51_2, .ref (ad 54), .int x51_4]) ∧ zi (-1) 24 x51_4
abbrev CP_52 (cy : Nat → ClassId) (ad : Nat → Nat) (e : va_E) : Prop := ∃ (f52 : Nat → Int32), e = .inl (cy 0, 24, .inl f52)
abbrev CP_53 (cy : Nat → ClassId) (ad : Nat → Nat) (e : va_E) : Prop := ∃ (f53 : Nat → Int32), e = .inl (cy 0, 24, .inl f53)
abbrev CP_54 (cy : Nat → ClassId) (ad : Nat → Nat) (e : va_E) : Prop := ∃ (f54 : Nat → Int32), e = .inl (cy 0, 5, .inl f54)
abbrev CP_55 (cy : Nat → ClassId) (ad : Nat → Nat) (e : va_E) : Prop := ∃ (x55_3 : Int32) (x55_4 : Int32), e = .inr (0, [.ref (ad 56), .ref (ad 57), .ref (ad 58), .int x55_3, .int x55_4]) ∧ zi 0 40 x55_3 ∧ zi 0 40 x55_4
abbrev CP_56 (cy : Nat → ClassId) (ad : Nat → Nat) (e : va_E) : Prop := ∃ (f56 : Nat → Int32), e = .inl (cy 0, 40, .inl f56)
abbrev CP_57 (cy : Nat → ClassId) (ad : Nat → Nat) (e : va_E) : Prop := ∃ (f57 : Nat → Int32), e = .inl (cy 0, 40, .inl f57)
abbrev CP_58 (cy : Nat → ClassId) (ad : Nat → Nat) (e : va_E) : Prop := ∃ (f58 : Nat → Int32), e = .inl (cy 0, 40, .inl f58)
abbrev CP_59 (cy : Nat → ClassId) (ad : Nat → Nat) (e : va_E) : Prop := e = .inr (5, [.ref (ad 21), .ref (ad 60), .ref (ad 61)])
abbrev CP_60 (cy : Nat → ClassId) (ad : Nat → Nat) (e : va_E) : Prop := ∃ (f60 : Nat → Int32), e = .inl (cy 0, 80, .inl f60)
abbrev CP_61 (cy : Nat → ClassId) (ad : Nat → Nat) (e : va_E) : Prop := ∃ (f61 : Nat → Int32), e = .inl (cy 0, 80, .inl f61)
abbrev CP_62 (cy : Nat → ClassId) (ad : Nat → Nat) (e : va_E) : Prop := e = .inr (1, [.ref (ad 21), .ref (ad 38), .ref (ad 59), .ref (ad 66), .ref (ad 63), .ref (ad 64), .ref (ad 65)])
abbrev CP_63 (cy : Nat → ClassId) (ad : Nat → Nat) (e : va_E) : Prop := ∃ (f63 : Nat → Int32), e = .inl (cy 0, 96, .inl f63)
abbrev CP_64 (cy : Nat → ClassId) (ad : Nat → Nat) (e : va_E) : Prop := ∃ (f64 : Nat → Int32), e = .inl (cy 0, 96, .inl f64)
abbrev CP_65 (cy : Nat → ClassId) (ad : Nat → Nat) (e : va_E) : Prop := ∃ (f65 : Nat → Int32), e = .inl (cy 0, 24, .inl f65) ∧ za 0 23 f65
abbrev CP_66 (cy : Nat → ClassId) (ad : Nat → Nat) (e : va_E) : Prop := e = .inr (10, [.ref (ad 21), .ref (ad 67), .ref (ad 68), .ref (ad 69), .ref (ad 70), .ref (ad 71), .ref (ad 72), .ref (ad 73)])
abbrev CP_67 (cy : Nat → ClassId) (ad : Nat → Nat) (e : va_E) : Prop := ∃ (f67 : Nat → Int32), e = .inl (cy 0, 5, .inl f67)
abbrev CP_68 (cy : Nat → ClassId) (ad : Nat → Nat) (e : va_E) : Prop := ∃ (f68 : Nat → Int32), e = .inl (cy 0, 20, .inl f68) ∧ za 0 4 f68
abbrev CP_69 (cy : Nat → ClassId) (ad : Nat → Nat) (e : va_E) : Prop := ∃ (f69 : Nat → Int32), e = .inl (cy 0, 4, .inl f69) ∧ za 0 5 f69
abbrev CP_70 (cy : Nat → ClassId) (ad : Nat → Nat) (e : va_E) : Prop := ∃ (f70 : Nat → Int32), e = .inl (cy 0, 5, .inl f70)
abbrev CP_71 (cy : Nat → ClassId) (ad : Nat → Nat) (e : va_E) : Prop := ∃ (f71 : Nat → Int32), e = .inl (cy 0, 5, .inl f71)
abbrev CP_72 (cy : Nat → ClassId) (ad : Nat → Nat) (e : va_E) : Prop := ∃ (f72 : Nat → Int32), e = .inl (cy 0, 5, .inl f72)
abbrev CP_73 (cy : Nat → ClassId) (ad : Nat → Nat) (e : va_E) : Prop := ∃ (f73 : Nat → Int32), e = .inl (cy 0, 5, .inl f73)
abbrev CP_74 (cy : Nat → ClassId) (ad : Nat → Nat) (e : va_E) : Prop := ∃ (x74_5 : Int32) (x74_10 : Int32), e = .inr (2, [.ref (ad 21), .ref (ad 38), .ref (ad 59), .ref (ad 80), .ref (ad 75), .int x74_5, .ref (ad 76), .ref (ad 77), .ref (ad 78), .ref (ad 79), .int x74_10]) ∧ zi 0 24 x74_5
abbrev CP_75 (cy : Nat → ClassId) (ad : Nat → Nat) (e : va_E) : Prop := ∃ (f75 : Nat → Int32), e = .inl (cy 0, 24, .inl f75) ∧ za 0 23 f75
abbrev CP_76 (cy : Nat → ClassId) (ad : Nat → Nat) (e : va_E) : Prop := ∃ (f76 : Nat → Int32), e = .inl (cy 0, 24, .inl f76) ∧ za 0 23 f76
abbrev CP_77 (cy : Nat → ClassId) (ad : Nat → Nat) (e : va_E) : Prop := ∃ (f77 : Nat → Int32), e = .inl (cy 0, 24, .inl f77)
abbrev CP_78 (cy : Nat → ClassId) (ad : Nat → Nat) (e : va_E) : Prop := ∃ (f78 : Nat → Int32), e = .inl (cy 0, 3, .inl f78)
abbrev CP_79 (cy : Nat → ClassId) (ad : Nat → Nat) (e : va_E) : Prop := ∃ (f79 : Nat → Int32), e = .inl (cy 0, 24, .inl f79)
abbrev CP_80 (cy : Nat → ClassId) (ad : Nat → Nat) (e : va_E) : Prop := e = .inr (10, [.ref (ad 21), .ref (ad 81), .ref (ad 82), .ref (ad 83), .ref (ad 84), .ref (ad 85), .ref (ad 86), .ref (ad 87)])
abbrev CP_81 (cy : Nat → ClassId) (ad : Nat → Nat) (e : va_E) : Prop := ∃ (f81 : Nat → Int32), e = .inl (cy 0, 5, .inl f81)
abbrev CP_82 (cy : Nat → ClassId) (ad : Nat → Nat) (e : va_E) : Prop := ∃ (f82 : Nat → Int32), e = .inl (cy 0, 20, .inl f82) ∧ za 0 4 f82
abbrev CP_83 (cy : Nat → ClassId) (ad : Nat → Nat) (e : va_E) : Prop := ∃ (f83 : Nat → Int32), e = .inl (cy 0, 4, .inl f83) ∧ za 0 5 f83
abbrev CP_84 (cy : Nat → ClassId) (ad : Nat → Nat) (e : va_E) : Prop := ∃ (f84 : Nat → Int32), e = .inl (cy 0, 5, .inl f84)
abbrev CP_85 (cy : Nat → ClassId) (ad : Nat → Nat) (e : va_E) : Prop := ∃ (f85 : Nat → Int32), e = .inl (cy 0, 5, .inl f85)
abbrev CP_86 (cy : Nat → ClassId) (ad : Nat → Nat) (e : va_E) : Prop := ∃ (f86 : Nat → Int32), e = .inl (cy 0, 5, .inl f86)
abbrev CP_87 (cy : Nat → ClassId) (ad : Nat → Nat) (e : va_E) : Prop := ∃ (f87 : Nat → Int32), e = .inl (cy 0, 5, .inl f87)
abbrev CP_88 (cy : Nat → ClassId) (ad : Nat → Nat) (e : va_E) : Prop := ∃ (x88_5 : Int32), e = .inr (3, [.ref (ad 21), .ref (ad 38), .ref (ad 59), .ref (ad 93), .ref (ad 89), .int x88_5, .ref (ad 90), .ref (ad 91), .ref (ad 92)]) ∧ zi 0 24 x88_5
abbrev CP_89 (cy : Nat → ClassId) (ad : Nat → Nat) (e : va_E) : Prop := ∃ (f89 : Nat → Int32), e = .inl (cy 0, 24, .inl f89) ∧ za 0 23 f89
abbrev CP_90 (cy : Nat → ClassId) (ad : Nat → Nat) (e : va_E) : Prop := ∃ (f90 : Nat → Int32), e = .inl (cy 0, 5, .inl f90)
abbrev CP_91 (cy : Nat → ClassId) (ad : Nat → Nat) (e : va_E) : Prop := ∃ (f91 : Nat → Int32), e = .inl (cy 0, 128, .inl f91)
abbrev CP_92 (cy : Nat → ClassId) (ad : Nat → Nat) (e : va_E) : Prop := ∃ (f92 : Nat → Int32), e = .inl (cy 0, 5, .inl f92)
abbrev CP_93 (cy : Nat → ClassId) (ad : Nat → Nat) (e : va_E) : Prop := e = .inr (10, [.ref (ad 21), .ref (ad 94), .ref (ad 95), .ref (ad 96), .ref (ad 97), .ref (ad 98), .ref (ad 99), .ref (ad 100)])
abbrev CP_94 (cy : Nat → ClassId) (ad : Nat → Nat) (e : va_E) : Prop := ∃ (f94 : Nat → Int32), e = .inl (cy 0, 5, .inl f94)
abbrev CP_95 (cy : Nat → ClassId) (ad : Nat → Nat) (e : va_E) : Prop := ∃ (f95 : Nat → Int32), e = .inl (cy 0, 20, .inl f95) ∧ za 0 4 f95
abbrev CP_96 (cy : Nat → ClassId) (ad : Nat → Nat) (e : va_E) : Prop := ∃ (f96 : Nat → Int32), e = .inl (cy 0, 4, .inl f96) ∧ za 0 5 f96
abbrev CP_97 (cy : Nat → ClassId) (ad : Nat → Nat) (e : va_E) : Prop := ∃ (f97 : Nat → Int32), e = .inl (cy 0, 5, .inl f97)
abbrev CP_98 (cy : Nat → ClassId) (ad : Nat → Nat) (e : va_E) : Prop := ∃ (f98 : Nat → Int32), e = .inl (cy 0, 5, .inl f98)
abbrev CP_99 (cy : Nat → ClassId) (ad : Nat → Nat) (e : va_E) : Prop := ∃ (f99 : Nat → Int32), e = .inl (cy 0, 5, .inl f99)
abbrev CP_100 (cy : Nat → ClassId) (ad : Nat → Nat) (e : va_E) : Prop := ∃ (f100 : Nat → Int32), e = .inl (cy 0, 5, .inl f100)
abbrev CP_101 (cy : Nat → ClassId) (ad : Nat → Nat) (e : va_E) : Prop := ∃ (x101_7 : Int32) (x101_8 : Int32) (x101_11 : Int32) (x101_13 : Int32) (x101_14 : Int32) (x101_15 : Int32), e = .inr (8, [.ref (ad 21), .ref (ad 110), .ref (ad 102), .ref (ad 103), .ref (ad 104), .ref (ad 105), .ref (ad 106), .int x101_7, .int x101_8, .ref (ad 107), .ref (ad 108), .int x101_11, .ref (ad 109), .int x101_13, .int x101_14, .int x101_15]) ∧ zi 0 30 x101_7 ∧ zi 0 100000 x101_8
abbrev CP_102 (cy : Nat → ClassId) (ad : Nat → Nat) (e : va_E) : Prop := ∃ (f102 : Nat → Int32), e = .inl (cy 0, 30, .inl f102)
abbrev CP_103 (cy : Nat → ClassId) (ad : Nat → Nat) (e : va_E) : Prop := ∃ (f103 : Nat → Int32), e = .inl (cy 0, 30, .inl f103) ∧ za 0 4 f103
abbrev CP_104 (cy : Nat → ClassId) (ad : Nat → Nat) (e : va_E) : Prop := ∃ (f104 : Nat → Int32), e = .inl (cy 0, 30, .inl f104)
abbrev CP_105 (cy : Nat → ClassId) (ad : Nat → Nat) (e : va_E) : Prop := ∃ (f105 : Nat → Int32), e = .inl (cy 0, 30, .inl f105)
abbrev CP_106 (cy : Nat → ClassId) (ad : Nat → Nat) (e : va_E) : Prop := ∃ (f106 : Nat → Int32), e = .inl (cy 0, 30, .inl f106)
abbrev CP_107 (cy : Nat → ClassId) (ad : Nat → Nat) (e : va_E) : Prop := ∃ (f107 : Nat → Int32), e = .inl (cy 0, 12, .inl f107) ∧ za 0 11 f107
abbrev CP_108 (cy : Nat → ClassId) (ad : Nat → Nat) (e : va_E) : Prop := ∃ (f108 : Nat → Int32), e = .inl (cy 0, 180, .inl f108)
abbrev CP_109 (cy : Nat → ClassId) (ad : Nat → Nat) (e : va_E) : Prop := ∃ (f109 : Nat → Int32), e = .inl (cy 0, 30, .inl f109)
abbrev CP_110 (cy : Nat → ClassId) (ad : Nat → Nat) (e : va_E) : Prop := e = .inr (10, [.ref (ad 21), .ref (ad 111), .ref (ad 112), .ref (ad 113), .ref (ad 114), .ref (ad 115), .ref (ad 116), .ref (ad 117)])
abbrev CP_111 (cy : Nat → ClassId) (ad : Nat → Nat) (e : va_E) : Prop := ∃ (f111 : Nat → Int32), e = .inl (cy 0, 5, .inl f111)
abbrev CP_112 (cy : Nat → ClassId) (ad : Nat → Nat) (e : va_E) : Prop := ∃ (f112 : Nat → Int32), e = .inl (cy 0, 20, .inl f112) ∧ za 0 4 f112
abbrev CP_113 (cy : Nat → ClassId) (ad : Nat → Nat) (e : va_E) : Prop := ∃ (f113 : Nat → Int32), e = .inl (cy 0, 4, .inl f113) ∧ za 0 5 f113
abbrev CP_114 (cy : Nat → ClassId) (ad : Nat → Nat) (e : va_E) : Prop := ∃ (f114 : Nat → Int32), e = .inl (cy 0, 5, .inl f114)
abbrev CP_115 (cy : Nat → ClassId) (ad : Nat → Nat) (e : va_E) : Prop := ∃ (f115 : Nat → Int32), e = .inl (cy 0, 5, .inl f115)
abbrev CP_116 (cy : Nat → ClassId) (ad : Nat → Nat) (e : va_E) : Prop := ∃ (f116 : Nat → Int32), e = .inl (cy 0, 5, .inl f116)
abbrev CP_117 (cy : Nat → ClassId) (ad : Nat → Nat) (e : va_E) : Prop := ∃ (f117 : Nat → Int32), e = .inl (cy 0, 5, .inl f117)
abbrev CP_118 (cy : Nat → ClassId) (ad : Nat → Nat) (e : va_E) : Prop := ∃ (f118 : Nat → Int32), e = .inl (cy 0, 24, .inl f118)
abbrev CP_119 (cy : Nat → ClassId) (ad : Nat → Nat) (e : va_E) : Prop := ∃ (x119_2 : Int32) (x119_3 : Int32) (x119_4 : Int32) (x119_5 : Int32) (x119_6 : Int32) (x119_7 : Int32) (x119_8 : Int32) (x119_9 : Int32) (w119_10 : Int64) (x119_36 : Int32) (x119_37 : Int32) (x119_38 : Int32) (x119_39 : Int32) (x119_40 : Int32) (x119_56 : Int32) (x119_57 : Int32) (x119_59 : Int32) (x119_60 : Int32) (x119_62 : Int32) (x119_70 : Int32) (x119_71 : Int32), e = .inr (12, [.ref (ad 120), .ref (ad 121), .int x119_2, .int x119_3, .int x119_4, .int x119_5, .int x119_6, .int x119_7, .int x119_8, .int x119_9, .long w119_10, .ref (ad 122), .ref (ad 123), .ref (ad 124), .ref (ad 125), .ref (ad 126), .ref (ad 127), .ref (ad 128), .ref (ad 129), .ref (ad 130), .ref (ad 131), .ref (ad 132), .ref (ad 133), .ref (ad 134), .ref (ad 135), .ref (ad 136), .ref (ad 137), .ref (ad 138), .ref (ad 139), .ref (ad 140), .ref (ad 141), .ref (ad 142), .ref (ad 143), .ref (ad 144), .ref (ad 145), .ref (ad 146), .int x119_36, .int x119_37, .int x119_38, .int x119_39, .int x119_40, .ref (ad 147), .ref (ad 148), .ref (ad 149), .ref (ad 150), .ref (ad 151), .ref (ad 152), .ref (ad 153), .ref (ad 154), .ref (ad 155), .ref (ad 156), .ref (ad 157), .ref (ad 158), .ref (ad 159), .ref (ad 160), .ref (ad 161), .int x119_56, .int x119_57, .ref (ad 162), .int x119_59, .int x119_60, .ref (ad 163), .int x119_62, .ref (ad 164), .ref (ad 165), .ref (ad 166), .ref (ad 167), .ref (ad 168), .ref (ad 169), .ref (ad 170), .int x119_70, .int x119_71, .ref (ad 171), .ref (ad 172)]) ∧ zi 0 1600 x119_2 ∧ zi 0 1600 x119_3 ∧ zi 0 5 x119_4 ∧ zi 0 1600 x119_6 ∧ zi 0 1600 x119_7 ∧ zi 0 5 x119_8 ∧ zi 0 1 x119_36 ∧ zi 0 1 x119_37 ∧ zi 0 980 x119_38 ∧ zi 0 7 x119_39 ∧ zi 0 90 x119_40 ∧ zi 0 30 x119_56 ∧ zi 0 40 x119_59 ∧ zi 0 40 x119_60 ∧ zi 0 24 x119_62 ∧ zi 0 30 x119_70 ∧ zi 0 100000 x119_71 ∧ ((x119_59 : Int32).toInt + (x119_60 : Int32).toInt ≤ 40)
abbrev CP_120 (cy : Nat → ClassId) (ad : Nat → Nat) (e : va_E) : Prop := ∃ (f120 : Nat → Int32), e = .inl (cy 3, 1620, .inl f120)
abbrev CP_121 (cy : Nat → ClassId) (ad : Nat → Nat) (e : va_E) : Prop := ∃ (f121 : Nat → Int32), e = .inl (cy 3, 1600, .inl f121)
abbrev CP_122 (cy : Nat → ClassId) (ad : Nat → Nat) (e : va_E) : Prop := ∃ (f122 : Nat → Int32), e = .inl (cy 0, 2, .inl f122) ∧ za 0 5 f122
abbrev CP_123 (cy : Nat → ClassId) (ad : Nat → Nat) (e : va_E) : Prop := ∃ (f123 : Nat → Int32), e = .inl (cy 0, 2, .inl f123) ∧ za 0 4 f123
abbrev CP_124 (cy : Nat → ClassId) (ad : Nat → Nat) (e : va_E) : Prop := ∃ (f124 : Nat → Int32), e = .inl (cy 0, 2, .inl f124) ∧ za 0 12 f124
abbrev CP_125 (cy : Nat → ClassId) (ad : Nat → Nat) (e : va_E) : Prop := ∃ (f125 : Nat → Int32), e = .inl (cy 0, 2, .inl f125) ∧ za 0 30 f125
abbrev CP_126 (cy : Nat → ClassId) (ad : Nat → Nat) (e : va_E) : Prop := ∃ (f126 : Nat → Int32), e = .inl (cy 0, 10, .inl f126)
abbrev CP_127 (cy : Nat → ClassId) (ad : Nat → Nat) (e : va_E) : Prop := ∃ (f127 : Nat → Int32), e = .inl (cy 0, 10, .inl f127)
abbrev CP_128 (cy : Nat → ClassId) (ad : Nat → Nat) (e : va_E) : Prop := ∃ (f128 : Nat → Int32), e = .inl (cy 0, 10, .inl f128)
abbrev CP_129 (cy : Nat → ClassId) (ad : Nat → Nat) (e : va_E) : Prop := ∃ (f129 : Nat → Int32), e = .inl (cy 0, 10, .inl f129)
abbrev CP_130 (cy : Nat → ClassId) (ad : Nat → Nat) (e : va_E) : Prop := ∃ (f130 : Nat → Int32), e = .inl (cy 0, 8, .inl f130)
abbrev CP_131 (cy : Nat → ClassId) (ad : Nat → Nat) (e : va_E) : Prop := ∃ (f131 : Nat → Int32), e = .inl (cy 0, 8, .inl f131)
abbrev CP_132 (cy : Nat → ClassId) (ad : Nat → Nat) (e : va_E) : Prop := ∃ (f132 : Nat → Int32), e = .inl (cy 0, 8, .inl f132) ∧ za 0 5 f132
abbrev CP_133 (cy : Nat → ClassId) (ad : Nat → Nat) (e : va_E) : Prop := ∃ (f133 : Nat → Int32), e = .inl (cy 0, 40, .inl f133) ∧ za 0 4 f133
abbrev CP_134 (cy : Nat → ClassId) (ad : Nat → Nat) (e : va_E) : Prop := ∃ (f134 : Nat → Int32), e = .inl (cy 0, 24, .inl f134)
abbrev CP_135 (cy : Nat → ClassId) (ad : Nat → Nat) (e : va_E) : Prop := ∃ (f135 : Nat → Int32), e = .inl (cy 0, 24, .inl f135)
abbrev CP_136 (cy : Nat → ClassId) (ad : Nat → Nat) (e : va_E) : Prop := ∃ (f136 : Nat → Int32), e = .inl (cy 0, 2, .inl f136) ∧ za 0 980 f136
abbrev CP_137 (cy : Nat → ClassId) (ad : Nat → Nat) (e : va_E) : Prop := ∃ (f137 : Nat → Int32), e = .inl (cy 2, 24, .inl f137) ∧ za 0 1 f137
abbrev CP_138 (cy : Nat → ClassId) (ad : Nat → Nat) (e : va_E) : Prop := ∃ (f138 : Nat → Int32), e = .inl (cy 2, 2, .inl f138) ∧ za 0 1 f138
abbrev CP_139 (cy : Nat → ClassId) (ad : Nat → Nat) (e : va_E) : Prop := ∃ (f139 : Nat → Int64), e = .inl (cy 1, 10, .inr (.inl f139))
abbrev CP_140 (cy : Nat → ClassId) (ad : Nat → Nat) (e : va_E) : Prop := ∃ (f140 : Nat → Int64), e = .inl (cy 1, 8, .inr (.inl f140))
abbrev CP_141 (cy : Nat → ClassId) (ad : Nat → Nat) (e : va_E) : Prop := ∃ (f141 : Nat → Int64), e = .inl (cy 1, 24, .inr (.inl f141))
abbrev CP_142 (cy : Nat → ClassId) (ad : Nat → Nat) (e : va_E) : Prop := ∃ (f142 : Nat → Int32), e = .inl (cy 0, 980, .inl f142)
abbrev CP_143 (cy : Nat → ClassId) (ad : Nat → Nat) (e : va_E) : Prop := ∃ (f143 : Nat → Int32), e = .inl (cy 0, 980, .inl f143)
abbrev CP_144 (cy : Nat → ClassId) (ad : Nat → Nat) (e : va_E) : Prop := ∃ (f144 : Nat → Int32), e = .inl (cy 0, 90, .inl f144)
abbrev CP_145 (cy : Nat → ClassId) (ad : Nat → Nat) (e : va_E) : Prop := ∃ (f145 : Nat → Int32), e = .inl (cy 0, 90, .inl f145)
abbrev CP_146 (cy : Nat → ClassId) (ad : Nat → Nat) (e : va_E) : Prop := ∃ (f146 : Nat → Int32), e = .inl (cy 0, 60, .inl f146)
abbrev CP_147 (cy : Nat → ClassId) (ad : Nat → Nat) (e : va_E) : Prop := ∃ (f147 : Nat → Int32), e = .inl (cy 0, 80, .inl f147) ∧ zs f147
abbrev CP_148 (cy : Nat → ClassId) (ad : Nat → Nat) (e : va_E) : Prop := ∃ (f148 : Nat → Int32), e = .inl (cy 0, 30, .inl f148)
abbrev CP_149 (cy : Nat → ClassId) (ad : Nat → Nat) (e : va_E) : Prop := ∃ (f149 : Nat → Int32), e = .inl (cy 0, 30, .inl f149)
abbrev CP_150 (cy : Nat → ClassId) (ad : Nat → Nat) (e : va_E) : Prop := ∃ (f150 : Nat → Int32), e = .inl (cy 0, 5, .inl f150)
abbrev CP_151 (cy : Nat → ClassId) (ad : Nat → Nat) (e : va_E) : Prop := ∃ (f151 : Nat → Int32), e = .inl (cy 0, 4, .inl f151) ∧ za 0 5 f151
abbrev CP_152 (cy : Nat → ClassId) (ad : Nat → Nat) (e : va_E) : Prop := ∃ (f152 : Nat → Int32), e = .inl (cy 0, 20, .inl f152) ∧ za 0 4 f152
abbrev CP_153 (cy : Nat → ClassId) (ad : Nat → Nat) (e : va_E) : Prop := ∃ (f153 : Nat → Int32), e = .inl (cy 0, 30, .inl f153) ∧ za 0 29 f153
abbrev CP_154 (cy : Nat → ClassId) (ad : Nat → Nat) (e : va_E) : Prop := ∃ (f154 : Nat → Int32), e = .inl (cy 0, 120, .inl f154)
abbrev CP_155 (cy : Nat → ClassId) (ad : Nat → Nat) (e : va_E) : Prop := ∃ (f155 : Nat → Int32), e = .inl (cy 0, 120, .inl f155)
abbrev CP_156 (cy : Nat → ClassId) (ad : Nat → Nat) (e : va_E) : Prop := ∃ (f156 : Nat → Int32), e = .inl (cy 0, 5, .inl f156)
abbrev CP_157 (cy : Nat → ClassId) (ad : Nat → Nat) (e : va_E) : Prop := ∃ (f157 : Nat → Int32), e = .inl (cy 0, 5, .inl f157)
abbrev CP_158 (cy : Nat → ClassId) (ad : Nat → Nat) (e : va_E) : Prop := ∃ (f158 : Nat → Int32), e = .inl (cy 0, 5, .inl f158)
abbrev CP_159 (cy : Nat → ClassId) (ad : Nat → Nat) (e : va_E) : Prop := ∃ (f159 : Nat → Int32), e = .inl (cy 0, 5, .inl f159)
abbrev CP_160 (cy : Nat → ClassId) (ad : Nat → Nat) (e : va_E) : Prop := ∃ (f160 : Nat → Int32), e = .inl (cy 2, 30, .inl f160) ∧ za 0 1 f160
abbrev CP_161 (cy : Nat → ClassId) (ad : Nat → Nat) (e : va_E) : Prop := ∃ (f161 : Nat → Int32), e = .inl (cy 2, 5, .inl f161) ∧ za 0 1 f161
abbrev CP_162 (cy : Nat → ClassId) (ad : Nat → Nat) (e : va_E) : Prop := ∃ (f162 : Nat → Int32), e = .inl (cy 0, 3280, .inl f162) ∧ zs f162
abbrev CP_163 (cy : Nat → ClassId) (ad : Nat → Nat) (e : va_E) : Prop := ∃ (f163 : Nat → Int32), e = .inl (cy 0, 24, .inl f163)
abbrev CP_164 (cy : Nat → ClassId) (ad : Nat → Nat) (e : va_E) : Prop := ∃ (f164 : Nat → Int32), e = .inl (cy 0, 24, .inl f164)
abbrev CP_165 (cy : Nat → ClassId) (ad : Nat → Nat) (e : va_E) : Prop := ∃ (f165 : Nat → Int32), e = .inl (cy 0, 5, .inl f165) ∧ za 0 3 f165
abbrev CP_166 (cy : Nat → ClassId) (ad : Nat → Nat) (e : va_E) : Prop := ∃ (f166 : Nat → Int32), e = .inl (cy 0, 30, .inl f166)
abbrev CP_167 (cy : Nat → ClassId) (ad : Nat → Nat) (e : va_E) : Prop := ∃ (f167 : Nat → Int32), e = .inl (cy 0, 30, .inl f167) ∧ za 0 4 f167
abbrev CP_168 (cy : Nat → ClassId) (ad : Nat → Nat) (e : va_E) : Prop := ∃ (f168 : Nat → Int32), e = .inl (cy 0, 30, .inl f168)
abbrev CP_169 (cy : Nat → ClassId) (ad : Nat → Nat) (e : va_E) : Prop := ∃ (f169 : Nat → Int32), e = .inl (cy 0, 30, .inl f169)
abbrev CP_170 (cy : Nat → ClassId) (ad : Nat → Nat) (e : va_E) : Prop := ∃ (f170 : Nat → Int32), e = .inl (cy 0, 30, .inl f170)
abbrev CP_171 (cy : Nat → ClassId) (ad : Nat → Nat) (e : va_E) : Prop := ∃ (f171 : Nat → Int32), e = .inl (cy 0, 240, .inl f171) ∧ zs f171
abbrev CP_172 (cy : Nat → ClassId) (ad : Nat → Nat) (e : va_E) : Prop := ∃ (f172 : Nat → Int32), e = .inl (cy 2, 3, .inl f172) ∧ za 0 1 f172
def CPf (cy : Nat → ClassId) (ad : Nat → Nat) (i : Nat) (e : va_E) : Prop := cond (Nat.blt i 86) (cond (Nat.blt i 43) (cond (Nat.blt i 21) (cond (Nat.blt i 10) (cond (Nat.blt i 5) (cond (Nat.blt i 2) (cond (Nat.blt i 1) (CP_0 cy ad e) (CP_1 cy ad e)) (cond (Nat.blt i 3) (CP_2 cy ad e) (cond (Nat.blt i 4) (CP_3 cy ad e) (CP_4 cy ad e)))) (cond (Nat.blt i 7) (cond (Nat.blt i 6) (CP_5 cy ad e) (CP_6 cy ad e)) (cond (Nat.blt i 8) (CP_7 cy ad e) (cond (Nat.blt i 9) (CP_8 cy ad e) (CP_9 cy ad e))))) (cond (Nat.blt i 15) (cond (Nat.blt i 12) (cond (Nat.blt i 11) (CP_10 cy ad e) (CP_11 cy ad e)) (cond (Nat.blt i 13) (CP_12 cy ad e) (cond (Nat.blt i 14) (CP_13 cy ad e) (CP_14 cy ad e)))) (cond (Nat.blt i 18) (cond (Nat.blt i 16) (CP_15 cy ad e) (cond (Nat.blt i 17) (CP_16 cy ad e) (CP_17 cy ad e))) (cond (Nat.blt i 19) (CP_18 cy ad e) (cond (Nat.blt i 20) (CP_19 cy ad e) (CP_20 cy ad e)))))) (cond (Nat.blt i 32) (cond (Nat.blt i 26) (cond (Nat.blt i 23) (cond (Nat.blt i 22) (CP_21 cy ad e) (CP_22 cy ad e)) (cond (Nat.blt i 24) (CP_23 cy ad e) (cond (Nat.blt i 25) (CP_24 cy ad e) (CP_25 cy ad e)))) (cond (Nat.blt i 29) (cond (Nat.blt i 27) (CP_26 cy ad e) (cond (Nat.blt i 28) (CP_27 cy ad e) (CP_28 cy ad e))) (cond (Nat.blt i 30) (CP_29 cy ad e) (cond (Nat.blt i 31) (CP_30 cy ad e) (CP_31 cy ad e))))) (cond (Nat.blt i 37) (cond (Nat.blt i 34) (cond (Nat.blt i 33) (CP_32 cy ad e) (CP_33 cy ad e)) (cond (Nat.blt i 35) (CP_34 cy ad e) (cond (Nat.blt i 36) (CP_35 cy ad e) (CP_36 cy ad e)))) (cond (Nat.blt i 40) (cond (Nat.blt i 38) (CP_37 cy ad e) (cond (Nat.blt i 39) (CP_38 cy ad e) (CP_39 cy ad e))) (cond (Nat.blt i 41) (CP_40 cy ad e) (cond (Nat.blt i 42) (CP_41 cy ad e) (CP_42 cy ad e))))))) (cond (Nat.blt i 64) (cond (Nat.blt i 53) (cond (Nat.blt i 48) (cond (Nat.blt i 45) (cond (Nat.blt i 44) (CP_43 cy ad e) (CP_44 cy ad e)) (cond (Nat.blt i 46) (CP_45 cy ad e) (cond (Nat.blt i 47) (CP_46 cy ad e) (CP_47 cy ad e)))) (cond (Nat.blt i 50) (cond (Nat.blt i 49) (CP_48 cy ad e) (CP_49 cy ad e)) (cond (Nat.blt i 51) (CP_50 cy ad e) (cond (Nat.blt i 52) (CP_51 cy ad e) (CP_52 cy ad e))))) (cond (Nat.blt i 58) (cond (Nat.blt i 55) (cond (Nat.blt i 54) (CP_53 cy ad e) (CP_54 cy ad e)) (cond (Nat.blt i 56) (CP_55 cy ad e) (cond (Nat.blt i 57) (CP_56 cy ad e) (CP_57 cy ad e)))) (cond (Nat.blt i 61) (cond (Nat.blt i 59) (CP_58 cy ad e) (cond (Nat.blt i 60) (CP_59 cy ad e) (CP_60 cy ad e))) (cond (Nat.blt i 62) (CP_61 cy ad e) (cond (Nat.blt i 63) (CP_62 cy ad e) (CP_63 cy ad e)))))) (cond (Nat.blt i 75) (cond (Nat.blt i 69) (cond (Nat.blt i 66) (cond (Nat.blt i 65) (CP_64 cy ad e) (CP_65 cy ad e)) (cond (Nat.blt i 67) (CP_66 cy ad e) (cond (Nat.blt i 68) (CP_67 cy ad e) (CP_68 cy ad e)))) (cond (Nat.blt i 72) (cond (Nat.blt i 70) (CP_69 cy ad e) (cond (Nat.blt i 71) (CP_70 cy ad e) (CP_71 cy ad e))) (cond (Nat.blt i 73) (CP_72 cy ad e) (cond (Nat.blt i 74) (CP_73 cy ad e) (CP_74 cy ad e))))) (cond (Nat.blt i 80) (cond (Nat.blt i 77) (cond (Nat.blt i 76) (CP_75 cy ad e) (CP_76 cy ad e)) (cond (Nat.blt i 78) (CP_77 cy ad e) (cond (Nat.blt i 79) (CP_78 cy ad e) (CP_79 cy ad e)))) (cond (Nat.blt i 83) (cond (Nat.blt i 81) (CP_80 cy ad e) (cond (Nat.blt i 82) (CP_81 cy ad e) (CP_82 cy ad e))) (cond (Nat.blt i 84) (CP_83 cy ad e) (cond (Nat.blt i 85) (CP_84 cy ad e) (CP_85 cy ad e)))))))) (cond (Nat.blt i 129) (cond (Nat.blt i 107) (cond (Nat.blt i 96) (cond (Nat.blt i 91) (cond (Nat.blt i 88) (cond (Nat.blt i 87) (CP_86 cy ad e) (CP_87 cy ad e)) (cond (Nat.blt i 89) (CP_88 cy ad e) (cond (Nat.blt i 90) (CP_89 cy ad e) (CP_90 cy ad e)))) (cond (Nat.blt i 93) (cond (Nat.blt i 92) (CP_91 cy ad e) (CP_92 cy ad e)) (cond (Nat.blt i 94) (CP_93 cy ad e) (cond (Nat.blt i 95) (CP_94 cy ad e) (CP_95 cy ad e))))) (cond (Nat.blt i 101) (cond (Nat.blt i 98) (cond (Nat.blt i 97) (CP_96 cy ad e) (CP_97 cy ad e)) (cond (Nat.blt i 99) (CP_98 cy ad e) (cond (Nat.blt i 100) (CP_99 cy ad e) (CP_100 cy ad e)))) (cond (Nat.blt i 104) (cond (Nat.blt i 102) (CP_101 cy ad e) (cond (Nat.blt i 103) (CP_102 cy ad e) (CP_103 cy ad e))) (cond (Nat.blt i 105) (CP_104 cy ad e) (cond (Nat.blt i 106) (CP_105 cy ad e) (CP_106 cy ad e)))))) (cond (Nat.blt i 118) (cond (Nat.blt i 112) (cond (Nat.blt i 109) (cond (Nat.blt i 108) (CP_107 cy ad e) (CP_108 cy ad e)) (cond (Nat.blt i 110) (CP_109 cy ad e) (cond (Nat.blt i 111) (CP_110 cy ad e) (CP_111 cy ad e)))) (cond (Nat.blt i 115) (cond (Nat.blt i 113) (CP_112 cy ad e) (cond (Nat.blt i 114) (CP_113 cy ad e) (CP_114 cy ad e))) (cond (Nat.blt i 116) (CP_115 cy ad e) (cond (Nat.blt i 117) (CP_116 cy ad e) (CP_117 cy ad e))))) (cond (Nat.blt i 123) (cond (Nat.blt i 120) (cond (Nat.blt i 119) (CP_118 cy ad e) (CP_119 cy ad e)) (cond (Nat.blt i 121) (CP_120 cy ad e) (cond (Nat.blt i 122) (CP_121 cy ad e) (CP_122 cy ad e)))) (cond (Nat.blt i 126) (cond (Nat.blt i 124) (CP_123 cy ad e) (cond (Nat.blt i 125) (CP_124 cy ad e) (CP_125 cy ad e))) (cond (Nat.blt i 127) (CP_126 cy ad e) (cond (Nat.blt i 128) (CP_127 cy ad e) (CP_128 cy ad e))))))) (cond (Nat.blt i 151) (cond (Nat.blt i 140) (cond (Nat.blt i 134) (cond (Nat.blt i 131) (cond (Nat.blt i 130) (CP_129 cy ad e) (CP_130 cy ad e)) (cond (Nat.blt i 132) (CP_131 cy ad e) (cond (Nat.blt i 133) (CP_132 cy ad e) (CP_133 cy ad e)))) (cond (Nat.blt i 137) (cond (Nat.blt i 135) (CP_134 cy ad e) (cond (Nat.blt i 136) (CP_135 cy ad e) (CP_136 cy ad e))) (cond (Nat.blt i 138) (CP_137 cy ad e) (cond (Nat.blt i 139) (CP_138 cy ad e) (CP_139 cy ad e))))) (cond (Nat.blt i 145) (cond (Nat.blt i 142) (cond (Nat.blt i 141) (CP_140 cy ad e) (CP_141 cy ad e)) (cond (Nat.blt i 143) (CP_142 cy ad e) (cond (Nat.blt i 144) (CP_143 cy ad e) (CP_144 cy ad e)))) (cond (Nat.blt i 148) (cond (Nat.blt i 146) (CP_145 cy ad e) (cond (Nat.blt i 147) (CP_146 cy ad e) (CP_147 cy ad e))) (cond (Nat.blt i 149) (CP_148 cy ad e) (cond (Nat.blt i 150) (CP_149 cy ad e) (CP_150 cy ad e)))))) (cond (Nat.blt i 162) (cond (Nat.blt i 156) (cond (Nat.blt i 153) (cond (Nat.blt i 152) (CP_151 cy ad e) (CP_152 cy ad e)) (cond (Nat.blt i 154) (CP_153 cy ad e) (cond (Nat.blt i 155) (CP_154 cy ad e) (CP_155 cy ad e)))) (cond (Nat.blt i 159) (cond (Nat.blt i 157) (CP_156 cy ad e) (cond (Nat.blt i 158) (CP_157 cy ad e) (CP_158 cy ad e))) (cond (Nat.blt i 160) (CP_159 cy ad e) (cond (Nat.blt i 161) (CP_160 cy ad e) (CP_161 cy ad e))))) (cond (Nat.blt i 167) (cond (Nat.blt i 164) (cond (Nat.blt i 163) (CP_162 cy ad e) (CP_163 cy ad e)) (cond (Nat.blt i 165) (CP_164 cy ad e) (cond (Nat.blt i 166) (CP_165 cy ad e) (CP_166 cy ad e)))) (cond (Nat.blt i 170) (cond (Nat.blt i 168) (CP_167 cy ad e) (cond (Nat.blt i 169) (CP_168 cy ad e) (CP_169 cy ad e))) (cond (Nat.blt i 171) (CP_170 cy ad e) (cond (Nat.blt i 172) (CP_171 cy ad e) (CP_172 cy ad e))))))))
def fo (e : va_E) (k : Nat) : Option Value := match e with
  | .inr (_, fs) => fs[k]?
  | .inl _ => none
def co (e : va_E) : Nat → Int32 := match e with
  | .inl (_, _, .inl f) => f
  | _ => fun _ => 0
def fi (e : va_E) (k : Nat) : Int32 := match fo e k with
  | some (.int v) => v
  | _ => 0
def INV (cy : Nat → ClassId) (ad : Nat → Nat) (g : Nat → va_E) : Prop := (∀ i, i < 173 → CPf cy ad i (g i)) ∧ zk (co (g 56)) (co (g 57)) ∧ zf (co (g 138)) (co (g 142)) (co (g 136)) (fi (g 119) 36)
abbrev TK (g g' : Nat → va_E) : Prop := fo (g' 101) 8 = fo (g 101) 8 ∧ fo (g' 119) 71 = fo (g 119) 71
abbrev TE (g : Nat → va_E) : Prop := fo (g 101) 8 = fo (g 119) 71
theorem TK.te {g g' : Nat → va_E} (h : TK g g') (k : TE g) : TE g' := h.1.trans (k.trans h.2.symm)
theorem cup_two (lk : List (Nat × va_E)) (g : Nat → va_E) (i : Nat) : (∃ q ∈ lk, q.1 = i ∧ cup lk g i = q.2) ∨ cup lk g i = g i := by
  induction lk with
  | nil => exact Or.inr rfl
  | cons q r ih =>
    rw [cup_cons]
    by_cases e : i = q.1
    · rw [if_pos e]
      exact Or.inl ⟨q, List.mem_cons_self, e.symm, rfl⟩
    · rw [if_neg e]
      rcases ih with ⟨x, h1, h2, h3⟩ | h
      · exact Or.inl ⟨x, List.mem_cons_of_mem _ h1, h2, h3⟩
      · exact Or.inr h
theorem INV_up {cy : Nat → ClassId} {ad : Nat → Nat} {g : Nat → va_E} {lk : List (Nat × va_E)} (hI : INV cy ad g) (hc : ∀ q ∈ lk, CPf cy ad q.1 q.2) (hz : zk (co (cup lk g 56)) (co (cup lk g 57))) (hf : zf (co (cup lk g 138)) (co (cup lk g 142)) (co (cup lk g 136)) (fi (cup lk g 119) 36)) : INV cy ad (cup lk g) := by
  refine ⟨fun i hi => ?_, hz, hf⟩
  rcases cup_two lk g i with ⟨q, h1, h2, h3⟩ | h
  · rw [h3, ← h2]
    exact hc q h1
  · rw [h]
    exact hI.1 i hi
theorem mrg_fun {k : Nat} {ps : List Nat} {l' lk : List (Nat × va_E)} {g : Nat → va_E} (e : l'.map (fun q => (ckey 173 k ps q.1, q.2)) = lk) : cup (cmrg 173 k ps l' []) g = cup lk g := funext fun j => by
  rw [cmrg_cup, e]
  rfl
theorem INV_mrg {cy : Nat → ClassId} {ad : Nat → Nat} {g : Nat → va_E} {k : Nat} {ps : List Nat} {l' lk : List (Nat × va_E)} (hI : INV cy ad g) (e : l'.map (fun q => (ckey 173 k ps q.1, q.2)) = lk) (hc : ∀ q ∈ lk, CPf cy ad q.1 q.2) (hz : zk (co (cup lk g 56)) (co (cup lk g 57))) (hf : zf (co (cup lk g 138)) (co (cup lk g 142)) (co (cup lk g 136)) (fi (cup lk g 119) 36)) : INV cy ad (cup (cmrg 173 k ps l' []) g) := by
  rw [mrg_fun e]
  exact INV_up hI hc hz hf
theorem fo_mrg {k : Nat} {ps : List Nat} {l' lk : List (Nat × va_E)} {g : Nat → va_E} (e : l'.map (fun q => (ckey 173 k ps q.1, q.2)) = lk) {S K : Nat} {v : Option Value} (h : fo (cup lk g S) K = v) : fo (cup (cmrg 173 k ps l' []) g S) K = v := by
  rw [mrg_fun e]
  exact h
theorem mrg_case {k : Nat} {ps : List Nat} {l' lk : List (Nat × va_E)} {g : Nat → va_E} {P : (Nat → va_E) → Prop} (e : l'.map (fun q => (ckey 173 k ps q.1, q.2)) = lk) (h : P (cup lk g)) : P (cup (cmrg 173 k ps l' []) g) := by
  rw [mrg_fun e]
  exact h
theorem cup_far {lk : List (Nat × va_E)} {g : Nat → va_E} {S : Nat} (h : lk.all (fun q => !(Nat.beq q.1 S)) = true) : cup lk g S = g S := by
  refine cup_out (fun q hq e => ?_)
  have z := List.all_eq_true.mp h q hq
  rw [e, Nat.beq_refl] at z
  cases z
def LTm (t b r t' : Int32) : Prop := (0 ≤ b.toInt ∧ b.toInt ≤ 1000 ∧ t.toInt + b.toInt ≤ 100000 ∧ r.toInt = t.toInt + b.toInt ∧ t'.toInt = t.toInt + b.toInt) ∨ (¬ (0 ≤ b.toInt ∧ b.toInt ≤ 1000 ∧ t.toInt + b.toInt ≤ 100000) ∧ r.toInt = -1 ∧ t'.toInt = t.toInt)
theorem LTm_one {t b r t' r2 t2 : Int32} (h : LTm t b r t') (k : LTm t b r2 t2) : r = r2 ∧ t' = t2 := by
  unfold LTm at h k
  exact ⟨Int32.toInt_inj.mp (by omega), Int32.toInt_inj.mp (by omega)⟩

theorem cp_0 {cy : Nat → ClassId} {ad : Nat → Nat} {g : Nat → va_E} (h : INV cy ad g) : CP_0 cy ad (g 0) := h.1 0 (by decide)
theorem cs_0 {cy : Nat → ClassId} {ad : Nat → Nat} {e : va_E} (h : CP_0 cy ad e) : CPf cy ad 0 e := h
theorem cp_1 {cy : Nat → ClassId} {ad : Nat → Nat} {g : Nat → va_E} (h : INV cy ad g) : CP_1 cy ad (g 1) := h.1 1 (by decide)
theorem cs_1 {cy : Nat → ClassId} {ad : Nat → Nat} {e : va_E} (h : CP_1 cy ad e) : CPf cy ad 1 e := h
theorem cp_2 {cy : Nat → ClassId} {ad : Nat → Nat} {g : Nat → va_E} (h : INV cy ad g) : CP_2 cy ad (g 2) := h.1 2 (by decide)
theorem cs_2 {cy : Nat → ClassId} {ad : Nat → Nat} {e : va_E} (h : CP_2 cy ad e) : CPf cy ad 2 e := h
theorem cp_3 {cy : Nat → ClassId} {ad : Nat → Nat} {g : Nat → va_E} (h : INV cy ad g) : CP_3 cy ad (g 3) := h.1 3 (by decide)
theorem cs_3 {cy : Nat → ClassId} {ad : Nat → Nat} {e : va_E} (h : CP_3 cy ad e) : CPf cy ad 3 e := h
theorem cp_4 {cy : Nat → ClassId} {ad : Nat → Nat} {g : Nat → va_E} (h : INV cy ad g) : CP_4 cy ad (g 4) := h.1 4 (by decide)
theorem cs_4 {cy : Nat → ClassId} {ad : Nat → Nat} {e : va_E} (h : CP_4 cy ad e) : CPf cy ad 4 e := h
theorem cp_5 {cy : Nat → ClassId} {ad : Nat → Nat} {g : Nat → va_E} (h : INV cy ad g) : CP_5 cy ad (g 5) := h.1 5 (by decide)
theorem cs_5 {cy : Nat → ClassId} {ad : Nat → Nat} {e : va_E} (h : CP_5 cy ad e) : CPf cy ad 5 e := h
theorem cp_6 {cy : Nat → ClassId} {ad : Nat → Nat} {g : Nat → va_E} (h : INV cy ad g) : CP_6 cy ad (g 6) := h.1 6 (by decide)
theorem cs_6 {cy : Nat → ClassId} {ad : Nat → Nat} {e : va_E} (h : CP_6 cy ad e) : CPf cy ad 6 e := h
theorem cp_7 {cy : Nat → ClassId} {ad : Nat → Nat} {g : Nat → va_E} (h : INV cy ad g) : CP_7 cy ad (g 7) := h.1 7 (by decide)
theorem cs_7 {cy : Nat → ClassId} {ad : Nat → Nat} {e : va_E} (h : CP_7 cy ad e) : CPf cy ad 7 e := h
theorem cp_8 {cy : Nat → ClassId} {ad : Nat → Nat} {g : Nat → va_E} (h : INV cy ad g) : CP_8 cy ad (g 8) := h.1 8 (by decide)
theorem cs_8 {cy : Nat → ClassId} {ad : Nat → Nat} {e : va_E} (h : CP_8 cy ad e) : CPf cy ad 8 e := h
theorem cp_9 {cy : Nat → ClassId} {ad : Nat → Nat} {g : Nat → va_E} (h : INV cy ad g) : CP_9 cy ad (g 9) := h.1 9 (by decide)
theorem cs_9 {cy : Nat → ClassId} {ad : Nat → Nat} {e : va_E} (h : CP_9 cy ad e) : CPf cy ad 9 e := h
theorem cp_10 {cy : Nat → ClassId} {ad : Nat → Nat} {g : Nat → va_E} (h : INV cy ad g) : CP_10 cy ad (g 10) := h.1 10 (by decide)
theorem cs_10 {cy : Nat → ClassId} {ad : Nat → Nat} {e : va_E} (h : CP_10 cy ad e) : CPf cy ad 10 e := h
theorem cp_11 {cy : Nat → ClassId} {ad : Nat → Nat} {g : Nat → va_E} (h : INV cy ad g) : CP_11 cy ad (g 11) := h.1 11 (by decide)
theorem cs_11 {cy : Nat → ClassId} {ad : Nat → Nat} {e : va_E} (h : CP_11 cy ad e) : CPf cy ad 11 e := h
theorem cp_12 {cy : Nat → ClassId} {ad : Nat → Nat} {g : Nat → va_E} (h : INV cy ad g) : CP_12 cy ad (g 12) := h.1 12 (by decide)
theorem cs_12 {cy : Nat → ClassId} {ad : Nat → Nat} {e : va_E} (h : CP_12 cy ad e) : CPf cy ad 12 e := h
theorem cp_13 {cy : Nat → ClassId} {ad : Nat → Nat} {g : Nat → va_E} (h : INV cy ad g) : CP_13 cy ad (g 13) := h.1 13 (by decide)
theorem cs_13 {cy : Nat → ClassId} {ad : Nat → Nat} {e : va_E} (h : CP_13 cy ad e) : CPf cy ad 13 e := h
theorem cp_14 {cy : Nat → ClassId} {ad : Nat → Nat} {g : Nat → va_E} (h : INV cy ad g) : CP_14 cy ad (g 14) := h.1 14 (by decide)
theorem cs_14 {cy : Nat → ClassId} {ad : Nat → Nat} {e : va_E} (h : CP_14 cy ad e) : CPf cy ad 14 e := h
theorem cp_15 {cy : Nat → ClassId} {ad : Nat → Nat} {g : Nat → va_E} (h : INV cy ad g) : CP_15 cy ad (g 15) := h.1 15 (by decide)
theorem cs_15 {cy : Nat → ClassId} {ad : Nat → Nat} {e : va_E} (h : CP_15 cy ad e) : CPf cy ad 15 e := h
theorem cp_16 {cy : Nat → ClassId} {ad : Nat → Nat} {g : Nat → va_E} (h : INV cy ad g) : CP_16 cy ad (g 16) := h.1 16 (by decide)
theorem cs_16 {cy : Nat → ClassId} {ad : Nat → Nat} {e : va_E} (h : CP_16 cy ad e) : CPf cy ad 16 e := h
theorem cp_17 {cy : Nat → ClassId} {ad : Nat → Nat} {g : Nat → va_E} (h : INV cy ad g) : CP_17 cy ad (g 17) := h.1 17 (by decide)
theorem cs_17 {cy : Nat → ClassId} {ad : Nat → Nat} {e : va_E} (h : CP_17 cy ad e) : CPf cy ad 17 e := h
theorem cp_18 {cy : Nat → ClassId} {ad : Nat → Nat} {g : Nat → va_E} (h : INV cy ad g) : CP_18 cy ad (g 18) := h.1 18 (by decide)
theorem cs_18 {cy : Nat → ClassId} {ad : Nat → Nat} {e : va_E} (h : CP_18 cy ad e) : CPf cy ad 18 e := h
theorem cp_19 {cy : Nat → ClassId} {ad : Nat → Nat} {g : Nat → va_E} (h : INV cy ad g) : CP_19 cy ad (g 19) := h.1 19 (by decide)
theorem cs_19 {cy : Nat → ClassId} {ad : Nat → Nat} {e : va_E} (h : CP_19 cy ad e) : CPf cy ad 19 e := h
theorem cp_20 {cy : Nat → ClassId} {ad : Nat → Nat} {g : Nat → va_E} (h : INV cy ad g) : CP_20 cy ad (g 20) := h.1 20 (by decide)
theorem cs_20 {cy : Nat → ClassId} {ad : Nat → Nat} {e : va_E} (h : CP_20 cy ad e) : CPf cy ad 20 e := h
theorem cp_21 {cy : Nat → ClassId} {ad : Nat → Nat} {g : Nat → va_E} (h : INV cy ad g) : CP_21 cy ad (g 21) := h.1 21 (by decide)
theorem cs_21 {cy : Nat → ClassId} {ad : Nat → Nat} {e : va_E} (h : CP_21 cy ad e) : CPf cy ad 21 e := h
theorem cp_22 {cy : Nat → ClassId} {ad : Nat → Nat} {g : Nat → va_E} (h : INV cy ad g) : CP_22 cy ad (g 22) := h.1 22 (by decide)
theorem cs_22 {cy : Nat → ClassId} {ad : Nat → Nat} {e : va_E} (h : CP_22 cy ad e) : CPf cy ad 22 e := h
theorem cp_23 {cy : Nat → ClassId} {ad : Nat → Nat} {g : Nat → va_E} (h : INV cy ad g) : CP_23 cy ad (g 23) := h.1 23 (by decide)
theorem cs_23 {cy : Nat → ClassId} {ad : Nat → Nat} {e : va_E} (h : CP_23 cy ad e) : CPf cy ad 23 e := h
theorem cp_24 {cy : Nat → ClassId} {ad : Nat → Nat} {g : Nat → va_E} (h : INV cy ad g) : CP_24 cy ad (g 24) := h.1 24 (by decide)
theorem cs_24 {cy : Nat → ClassId} {ad : Nat → Nat} {e : va_E} (h : CP_24 cy ad e) : CPf cy ad 24 e := h
theorem cp_25 {cy : Nat → ClassId} {ad : Nat → Nat} {g : Nat → va_E} (h : INV cy ad g) : CP_25 cy ad (g 25) := h.1 25 (by decide)
theorem cs_25 {cy : Nat → ClassId} {ad : Nat → Nat} {e : va_E} (h : CP_25 cy ad e) : CPf cy ad 25 e := h
theorem cp_26 {cy : Nat → ClassId} {ad : Nat → Nat} {g : Nat → va_E} (h : INV cy ad g) : CP_26 cy ad (g 26) := h.1 26 (by decide)
theorem cs_26 {cy : Nat → ClassId} {ad : Nat → Nat} {e : va_E} (h : CP_26 cy ad e) : CPf cy ad 26 e := h
theorem cp_27 {cy : Nat → ClassId} {ad : Nat → Nat} {g : Nat → va_E} (h : INV cy ad g) : CP_27 cy ad (g 27) := h.1 27 (by decide)
theorem cs_27 {cy : Nat → ClassId} {ad : Nat → Nat} {e : va_E} (h : CP_27 cy ad e) : CPf cy ad 27 e := h
theorem cp_28 {cy : Nat → ClassId} {ad : Nat → Nat} {g : Nat → va_E} (h : INV cy ad g) : CP_28 cy ad (g 28) := h.1 28 (by decide)
theorem cs_28 {cy : Nat → ClassId} {ad : Nat → Nat} {e : va_E} (h : CP_28 cy ad e) : CPf cy ad 28 e := h
theorem cp_29 {cy : Nat → ClassId} {ad : Nat → Nat} {g : Nat → va_E} (h : INV cy ad g) : CP_29 cy ad (g 29) := h.1 29 (by decide)
theorem cs_29 {cy : Nat → ClassId} {ad : Nat → Nat} {e : va_E} (h : CP_29 cy ad e) : CPf cy ad 29 e := h
theorem cp_30 {cy : Nat → ClassId} {ad : Nat → Nat} {g : Nat → va_E} (h : INV cy ad g) : CP_30 cy ad (g 30) := h.1 30 (by decide)
theorem cs_30 {cy : Nat → ClassId} {ad : Nat → Nat} {e : va_E} (h : CP_30 cy ad e) : CPf cy ad 30 e := h
theorem cp_31 {cy : Nat → ClassId} {ad : Nat → Nat} {g : Nat → va_E} (h : INV cy ad g) : CP_31 cy ad (g 31) := h.1 31 (by decide)
theorem cs_31 {cy : Nat → ClassId} {ad : Nat → Nat} {e : va_E} (h : CP_31 cy ad e) : CPf cy ad 31 e := h
theorem cp_32 {cy : Nat → ClassId} {ad : Nat → Nat} {g : Nat → va_E} (h : INV cy ad g) : CP_32 cy ad (g 32) := h.1 32 (by decide)
theorem cs_32 {cy : Nat → ClassId} {ad : Nat → Nat} {e : va_E} (h : CP_32 cy ad e) : CPf cy ad 32 e := h
theorem cp_33 {cy : Nat → ClassId} {ad : Nat → Nat} {g : Nat → va_E} (h : INV cy ad g) : CP_33 cy ad (g 33) := h.1 33 (by decide)
theorem cs_33 {cy : Nat → ClassId} {ad : Nat → Nat} {e : va_E} (h : CP_33 cy ad e) : CPf cy ad 33 e := h
theorem cp_34 {cy : Nat → ClassId} {ad : Nat → Nat} {g : Nat → va_E} (h : INV cy ad g) : CP_34 cy ad (g 34) := h.1 34 (by decide)
theorem cs_34 {cy : Nat → ClassId} {ad : Nat → Nat} {e : va_E} (h : CP_34 cy ad e) : CPf cy ad 34 e := h
theorem cp_35 {cy : Nat → ClassId} {ad : Nat → Nat} {g : Nat → va_E} (h : INV cy ad g) : CP_35 cy ad (g 35) := h.1 35 (by decide)
theorem cs_35 {cy : Nat → ClassId} {ad : Nat → Nat} {e : va_E} (h : CP_35 cy ad e) : CPf cy ad 35 e := h
theorem cp_36 {cy : Nat → ClassId} {ad : Nat → Nat} {g : Nat → va_E} (h : INV cy ad g) : CP_36 cy ad (g 36) := h.1 36 (by decide)
theorem cs_36 {cy : Nat → ClassId} {ad : Nat → Nat} {e : va_E} (h : CP_36 cy ad e) : CPf cy ad 36 e := h
theorem cp_37 {cy : Nat → ClassId} {ad : Nat → Nat} {g : Nat → va_E} (h : INV cy ad g) : CP_37 cy ad (g 37) := h.1 37 (by decide)
theorem cs_37 {cy : Nat → ClassId} {ad : Nat → Nat} {e : va_E} (h : CP_37 cy ad e) : CPf cy ad 37 e := h
theorem cp_38 {cy : Nat → ClassId} {ad : Nat → Nat} {g : Nat → va_E} (h : INV cy ad g) : CP_38 cy ad (g 38) := h.1 38 (by decide)
theorem cs_38 {cy : Nat → ClassId} {ad : Nat → Nat} {e : va_E} (h : CP_38 cy ad e) : CPf cy ad 38 e := h
theorem cp_39 {cy : Nat → ClassId} {ad : Nat → Nat} {g : Nat → va_E} (h : INV cy ad g) : CP_39 cy ad (g 39) := h.1 39 (by decide)
theorem cs_39 {cy : Nat → ClassId} {ad : Nat → Nat} {e : va_E} (h : CP_39 cy ad e) : CPf cy ad 39 e := h
theorem cp_40 {cy : Nat → ClassId} {ad : Nat → Nat} {g : Nat → va_E} (h : INV cy ad g) : CP_40 cy ad (g 40) := h.1 40 (by decide)
theorem cs_40 {cy : Nat → ClassId} {ad : Nat → Nat} {e : va_E} (h : CP_40 cy ad e) : CPf cy ad 40 e := h
theorem cp_41 {cy : Nat → ClassId} {ad : Nat → Nat} {g : Nat → va_E} (h : INV cy ad g) : CP_41 cy ad (g 41) := h.1 41 (by decide)
theorem cs_41 {cy : Nat → ClassId} {ad : Nat → Nat} {e : va_E} (h : CP_41 cy ad e) : CPf cy ad 41 e := h
theorem cp_42 {cy : Nat → ClassId} {ad : Nat → Nat} {g : Nat → va_E} (h : INV cy ad g) : CP_42 cy ad (g 42) := h.1 42 (by decide)
theorem cs_42 {cy : Nat → ClassId} {ad : Nat → Nat} {e : va_E} (h : CP_42 cy ad e) : CPf cy ad 42 e := h
theorem cp_43 {cy : Nat → ClassId} {ad : Nat → Nat} {g : Nat → va_E} (h : INV cy ad g) : CP_43 cy ad (g 43) := h.1 43 (by decide)
theorem cs_43 {cy : Nat → ClassId} {ad : Nat → Nat} {e : va_E} (h : CP_43 cy ad e) : CPf cy ad 43 e := h
theorem cp_44 {cy : Nat → ClassId} {ad : Nat → Nat} {g : Nat → va_E} (h : INV cy ad g) : CP_44 cy ad (g 44) := h.1 44 (by decide)
theorem cs_44 {cy : Nat → ClassId} {ad : Nat → Nat} {e : va_E} (h : CP_44 cy ad e) : CPf cy ad 44 e := h
theorem cp_45 {cy : Nat → ClassId} {ad : Nat → Nat} {g : Nat → va_E} (h : INV cy ad g) : CP_45 cy ad (g 45) := h.1 45 (by decide)
theorem cs_45 {cy : Nat → ClassId} {ad : Nat → Nat} {e : va_E} (h : CP_45 cy ad e) : CPf cy ad 45 e := h
theorem cp_46 {cy : Nat → ClassId} {ad : Nat → Nat} {g : Nat → va_E} (h : INV cy ad g) : CP_46 cy ad (g 46) := h.1 46 (by decide)
theorem cs_46 {cy : Nat → ClassId} {ad : Nat → Nat} {e : va_E} (h : CP_46 cy ad e) : CPf cy ad 46 e := h
theorem cp_47 {cy : Nat → ClassId} {ad : Nat → Nat} {g : Nat → va_E} (h : INV cy ad g) : CP_47 cy ad (g 47) := h.1 47 (by decide)
theorem cs_47 {cy : Nat → ClassId} {ad : Nat → Nat} {e : va_E} (h : CP_47 cy ad e) : CPf cy ad 47 e := h
theorem cp_48 {cy : Nat → ClassId} {ad : Nat → Nat} {g : Nat → va_E} (h : INV cy ad g) : CP_48 cy ad (g 48) := h.1 48 (by decide)
theorem cs_48 {cy : Nat → ClassId} {ad : Nat → Nat} {e : va_E} (h : CP_48 cy ad e) : CPf cy ad 48 e := h
theorem cp_49 {cy : Nat → ClassId} {ad : Nat → Nat} {g : Nat → va_E} (h : INV cy ad g) : CP_49 cy ad (g 49) := h.1 49 (by decide)
theorem cs_49 {cy : Nat → ClassId} {ad : Nat → Nat} {e : va_E} (h : CP_49 cy ad e) : CPf cy ad 49 e := h
theorem cp_50 {cy : Nat → ClassId} {ad : Nat → Nat} {g : Nat → va_E} (h : INV cy ad g) : CP_50 cy ad (g 50) := h.1 50 (by decide)
theorem cs_50 {cy : Nat → ClassId} {ad : Nat → Nat} {e : va_E} (h : CP_50 cy ad e) : CPf cy ad 50 e := h
theorem cp_51 {cy : Nat → ClassId} {ad : Nat → Nat} {g : Nat → va_E} (h : INV cy ad g) : CP_51 cy ad (g 51) := h.1 51 (by decide)
theorem cs_51 {cy : Nat → ClassId} {ad : Nat → Nat} {e : va_E} (h : CP_51 cy ad e) : CPf cy ad 51 e := h
theorem cp_52 {cy : Nat → ClassId} {ad : Nat → Nat} {g : Nat → va_E} (h : INV cy ad g) : CP_52 cy ad (g 52) := h.1 52 (by decide)
theorem cs_52 {cy : Nat → ClassId} {ad : Nat → Nat} {e : va_E} (h : CP_52 cy ad e) : CPf cy ad 52 e := h
theorem cp_53 {cy : Nat → ClassId} {ad : Nat → Nat} {g : Nat → va_E} (h : INV cy ad g) : CP_53 cy ad (g 53) := h.1 53 (by decide)
theorem cs_53 {cy : Nat → ClassId} {ad : Nat → Nat} {e : va_E} (h : CP_53 cy ad e) : CPf cy ad 53 e := h
theorem cp_54 {cy : Nat → ClassId} {ad : Nat → Nat} {g : Nat → va_E} (h : INV cy ad g) : CP_54 cy ad (g 54) := h.1 54 (by decide)
theorem cs_54 {cy : Nat → ClassId} {ad : Nat → Nat} {e : va_E} (h : CP_54 cy ad e) : CPf cy ad 54 e := h
theorem cp_55 {cy : Nat → ClassId} {ad : Nat → Nat} {g : Nat → va_E} (h : INV cy ad g) : CP_55 cy ad (g 55) := h.1 55 (by decide)
theorem cs_55 {cy : Nat → ClassId} {ad : Nat → Nat} {e : va_E} (h : CP_55 cy ad e) : CPf cy ad 55 e := h
theorem cp_56 {cy : Nat → ClassId} {ad : Nat → Nat} {g : Nat → va_E} (h : INV cy ad g) : CP_56 cy ad (g 56) := h.1 56 (by decide)
theorem cs_56 {cy : Nat → ClassId} {ad : Nat → Nat} {e : va_E} (h : CP_56 cy ad e) : CPf cy ad 56 e := h
theorem cp_57 {cy : Nat → ClassId} {ad : Nat → Nat} {g : Nat → va_E} (h : INV cy ad g) : CP_57 cy ad (g 57) := h.1 57 (by decide)
theorem cs_57 {cy : Nat → ClassId} {ad : Nat → Nat} {e : va_E} (h : CP_57 cy ad e) : CPf cy ad 57 e := h
theorem cp_58 {cy : Nat → ClassId} {ad : Nat → Nat} {g : Nat → va_E} (h : INV cy ad g) : CP_58 cy ad (g 58) := h.1 58 (by decide)
theorem cs_58 {cy : Nat → ClassId} {ad : Nat → Nat} {e : va_E} (h : CP_58 cy ad e) : CPf cy ad 58 e := h
theorem cp_59 {cy : Nat → ClassId} {ad : Nat → Nat} {g : Nat → va_E} (h : INV cy ad g) : CP_59 cy ad (g 59) := h.1 59 (by decide)
theorem cs_59 {cy : Nat → ClassId} {ad : Nat → Nat} {e : va_E} (h : CP_59 cy ad e) : CPf cy ad 59 e := h
theorem cp_60 {cy : Nat → ClassId} {ad : Nat → Nat} {g : Nat → va_E} (h : INV cy ad g) : CP_60 cy ad (g 60) := h.1 60 (by decide)
theorem cs_60 {cy : Nat → ClassId} {ad : Nat → Nat} {e : va_E} (h : CP_60 cy ad e) : CPf cy ad 60 e := h
theorem cp_61 {cy : Nat → ClassId} {ad : Nat → Nat} {g : Nat → va_E} (h : INV cy ad g) : CP_61 cy ad (g 61) := h.1 61 (by decide)
theorem cs_61 {cy : Nat → ClassId} {ad : Nat → Nat} {e : va_E} (h : CP_61 cy ad e) : CPf cy ad 61 e := h
theorem cp_62 {cy : Nat → ClassId} {ad : Nat → Nat} {g : Nat → va_E} (h : INV cy ad g) : CP_62 cy ad (g 62) := h.1 62 (by decide)
theorem cs_62 {cy : Nat → ClassId} {ad : Nat → Nat} {e : va_E} (h : CP_62 cy ad e) : CPf cy ad 62 e := h
theorem cp_63 {cy : Nat → ClassId} {ad : Nat → Nat} {g : Nat → va_E} (h : INV cy ad g) : CP_63 cy ad (g 63) := h.1 63 (by decide)
theorem cs_63 {cy : Nat → ClassId} {ad : Nat → Nat} {e : va_E} (h : CP_63 cy ad e) : CPf cy ad 63 e := h
theorem cp_64 {cy : Nat → ClassId} {ad : Nat → Nat} {g : Nat → va_E} (h : INV cy ad g) : CP_64 cy ad (g 64) := h.1 64 (by decide)
theorem cs_64 {cy : Nat → ClassId} {ad : Nat → Nat} {e : va_E} (h : CP_64 cy ad e) : CPf cy ad 64 e := h
theorem cp_65 {cy : Nat → ClassId} {ad : Nat → Nat} {g : Nat → va_E} (h : INV cy ad g) : CP_65 cy ad (g 65) := h.1 65 (by decide)
theorem cs_65 {cy : Nat → ClassId} {ad : Nat → Nat} {e : va_E} (h : CP_65 cy ad e) : CPf cy ad 65 e := h
theorem cp_66 {cy : Nat → ClassId} {ad : Nat → Nat} {g : Nat → va_E} (h : INV cy ad g) : CP_66 cy ad (g 66) := h.1 66 (by decide)
theorem cs_66 {cy : Nat → ClassId} {ad : Nat → Nat} {e : va_E} (h : CP_66 cy ad e) : CPf cy ad 66 e := h
theorem cp_67 {cy : Nat → ClassId} {ad : Nat → Nat} {g : Nat → va_E} (h : INV cy ad g) : CP_67 cy ad (g 67) := h.1 67 (by decide)
theorem cs_67 {cy : Nat → ClassId} {ad : Nat → Nat} {e : va_E} (h : CP_67 cy ad e) : CPf cy ad 67 e := h
theorem cp_68 {cy : Nat → ClassId} {ad : Nat → Nat} {g : Nat → va_E} (h : INV cy ad g) : CP_68 cy ad (g 68) := h.1 68 (by decide)
theorem cs_68 {cy : Nat → ClassId} {ad : Nat → Nat} {e : va_E} (h : CP_68 cy ad e) : CPf cy ad 68 e := h
theorem cp_69 {cy : Nat → ClassId} {ad : Nat → Nat} {g : Nat → va_E} (h : INV cy ad g) : CP_69 cy ad (g 69) := h.1 69 (by decide)
theorem cs_69 {cy : Nat → ClassId} {ad : Nat → Nat} {e : va_E} (h : CP_69 cy ad e) : CPf cy ad 69 e := h
theorem cp_70 {cy : Nat → ClassId} {ad : Nat → Nat} {g : Nat → va_E} (h : INV cy ad g) : CP_70 cy ad (g 70) := h.1 70 (by decide)
theorem cs_70 {cy : Nat → ClassId} {ad : Nat → Nat} {e : va_E} (h : CP_70 cy ad e) : CPf cy ad 70 e := h
theorem cp_71 {cy : Nat → ClassId} {ad : Nat → Nat} {g : Nat → va_E} (h : INV cy ad g) : CP_71 cy ad (g 71) := h.1 71 (by decide)
theorem cs_71 {cy : Nat → ClassId} {ad : Nat → Nat} {e : va_E} (h : CP_71 cy ad e) : CPf cy ad 71 e := h
theorem cp_72 {cy : Nat → ClassId} {ad : Nat → Nat} {g : Nat → va_E} (h : INV cy ad g) : CP_72 cy ad (g 72) := h.1 72 (by decide)
theorem cs_72 {cy : Nat → ClassId} {ad : Nat → Nat} {e : va_E} (h : CP_72 cy ad e) : CPf cy ad 72 e := h
theorem cp_73 {cy : Nat → ClassId} {ad : Nat → Nat} {g : Nat → va_E} (h : INV cy ad g) : CP_73 cy ad (g 73) := h.1 73 (by decide)
theorem cs_73 {cy : Nat → ClassId} {ad : Nat → Nat} {e : va_E} (h : CP_73 cy ad e) : CPf cy ad 73 e := h
theorem cp_74 {cy : Nat → ClassId} {ad : Nat → Nat} {g : Nat → va_E} (h : INV cy ad g) : CP_74 cy ad (g 74) := h.1 74 (by decide)
theorem cs_74 {cy : Nat → ClassId} {ad : Nat → Nat} {e : va_E} (h : CP_74 cy ad e) : CPf cy ad 74 e := h
theorem cp_75 {cy : Nat → ClassId} {ad : Nat → Nat} {g : Nat → va_E} (h : INV cy ad g) : CP_75 cy ad (g 75) := h.1 75 (by decide)
theorem cs_75 {cy : Nat → ClassId} {ad : Nat → Nat} {e : va_E} (h : CP_75 cy ad e) : CPf cy ad 75 e := h
theorem cp_76 {cy : Nat → ClassId} {ad : Nat → Nat} {g : Nat → va_E} (h : INV cy ad g) : CP_76 cy ad (g 76) := h.1 76 (by decide)
theorem cs_76 {cy : Nat → ClassId} {ad : Nat → Nat} {e : va_E} (h : CP_76 cy ad e) : CPf cy ad 76 e := h
theorem cp_77 {cy : Nat → ClassId} {ad : Nat → Nat} {g : Nat → va_E} (h : INV cy ad g) : CP_77 cy ad (g 77) := h.1 77 (by decide)
theorem cs_77 {cy : Nat → ClassId} {ad : Nat → Nat} {e : va_E} (h : CP_77 cy ad e) : CPf cy ad 77 e := h
theorem cp_78 {cy : Nat → ClassId} {ad : Nat → Nat} {g : Nat → va_E} (h : INV cy ad g) : CP_78 cy ad (g 78) := h.1 78 (by decide)
theorem cs_78 {cy : Nat → ClassId} {ad : Nat → Nat} {e : va_E} (h : CP_78 cy ad e) : CPf cy ad 78 e := h
theorem cp_79 {cy : Nat → ClassId} {ad : Nat → Nat} {g : Nat → va_E} (h : INV cy ad g) : CP_79 cy ad (g 79) := h.1 79 (by decide)
theorem cs_79 {cy : Nat → ClassId} {ad : Nat → Nat} {e : va_E} (h : CP_79 cy ad e) : CPf cy ad 79 e := h
theorem cp_80 {cy : Nat → ClassId} {ad : Nat → Nat} {g : Nat → va_E} (h : INV cy ad g) : CP_80 cy ad (g 80) := h.1 80 (by decide)
theorem cs_80 {cy : Nat → ClassId} {ad : Nat → Nat} {e : va_E} (h : CP_80 cy ad e) : CPf cy ad 80 e := h
theorem cp_81 {cy : Nat → ClassId} {ad : Nat → Nat} {g : Nat → va_E} (h : INV cy ad g) : CP_81 cy ad (g 81) := h.1 81 (by decide)
theorem cs_81 {cy : Nat → ClassId} {ad : Nat → Nat} {e : va_E} (h : CP_81 cy ad e) : CPf cy ad 81 e := h
theorem cp_82 {cy : Nat → ClassId} {ad : Nat → Nat} {g : Nat → va_E} (h : INV cy ad g) : CP_82 cy ad (g 82) := h.1 82 (by decide)
theorem cs_82 {cy : Nat → ClassId} {ad : Nat → Nat} {e : va_E} (h : CP_82 cy ad e) : CPf cy ad 82 e := h
theorem cp_83 {cy : Nat → ClassId} {ad : Nat → Nat} {g : Nat → va_E} (h : INV cy ad g) : CP_83 cy ad (g 83) := h.1 83 (by decide)
theorem cs_83 {cy : Nat → ClassId} {ad : Nat → Nat} {e : va_E} (h : CP_83 cy ad e) : CPf cy ad 83 e := h
theorem cp_84 {cy : Nat → ClassId} {ad : Nat → Nat} {g : Nat → va_E} (h : INV cy ad g) : CP_84 cy ad (g 84) := h.1 84 (by decide)
theorem cs_84 {cy : Nat → ClassId} {ad : Nat → Nat} {e : va_E} (h : CP_84 cy ad e) : CPf cy ad 84 e := h
theorem cp_85 {cy : Nat → ClassId} {ad : Nat → Nat} {g : Nat → va_E} (h : INV cy ad g) : CP_85 cy ad (g 85) := h.1 85 (by decide)
theorem cs_85 {cy : Nat → ClassId} {ad : Nat → Nat} {e : va_E} (h : CP_85 cy ad e) : CPf cy ad 85 e := h
theorem cp_86 {cy : Nat → ClassId} {ad : Nat → Nat} {g : Nat → va_E} (h : INV cy ad g) : CP_86 cy ad (g 86) := h.1 86 (by decide)
theorem cs_86 {cy : Nat → ClassId} {ad : Nat → Nat} {e : va_E} (h : CP_86 cy ad e) : CPf cy ad 86 e := h
theorem cp_87 {cy : Nat → ClassId} {ad : Nat → Nat} {g : Nat → va_E} (h : INV cy ad g) : CP_87 cy ad (g 87) := h.1 87 (by decide)
theorem cs_87 {cy : Nat → ClassId} {ad : Nat → Nat} {e : va_E} (h : CP_87 cy ad e) : CPf cy ad 87 e := h
theorem cp_88 {cy : Nat → ClassId} {ad : Nat → Nat} {g : Nat → va_E} (h : INV cy ad g) : CP_88 cy ad (g 88) := h.1 88 (by decide)
theorem cs_88 {cy : Nat → ClassId} {ad : Nat → Nat} {e : va_E} (h : CP_88 cy ad e) : CPf cy ad 88 e := h
theorem cp_89 {cy : Nat → ClassId} {ad : Nat → Nat} {g : Nat → va_E} (h : INV cy ad g) : CP_89 cy ad (g 89) := h.1 89 (by decide)
theorem cs_89 {cy : Nat → ClassId} {ad : Nat → Nat} {e : va_E} (h : CP_89 cy ad e) : CPf cy ad 89 e := h
theorem cp_90 {cy : Nat → ClassId} {ad : Nat → Nat} {g : Nat → va_E} (h : INV cy ad g) : CP_90 cy ad (g 90) := h.1 90 (by decide)
theorem cs_90 {cy : Nat → ClassId} {ad : Nat → Nat} {e : va_E} (h : CP_90 cy ad e) : CPf cy ad 90 e := h
theorem cp_91 {cy : Nat → ClassId} {ad : Nat → Nat} {g : Nat → va_E} (h : INV cy ad g) : CP_91 cy ad (g 91) := h.1 91 (by decide)
theorem cs_91 {cy : Nat → ClassId} {ad : Nat → Nat} {e : va_E} (h : CP_91 cy ad e) : CPf cy ad 91 e := h
theorem cp_92 {cy : Nat → ClassId} {ad : Nat → Nat} {g : Nat → va_E} (h : INV cy ad g) : CP_92 cy ad (g 92) := h.1 92 (by decide)
theorem cs_92 {cy : Nat → ClassId} {ad : Nat → Nat} {e : va_E} (h : CP_92 cy ad e) : CPf cy ad 92 e := h
theorem cp_93 {cy : Nat → ClassId} {ad : Nat → Nat} {g : Nat → va_E} (h : INV cy ad g) : CP_93 cy ad (g 93) := h.1 93 (by decide)
theorem cs_93 {cy : Nat → ClassId} {ad : Nat → Nat} {e : va_E} (h : CP_93 cy ad e) : CPf cy ad 93 e := h
theorem cp_94 {cy : Nat → ClassId} {ad : Nat → Nat} {g : Nat → va_E} (h : INV cy ad g) : CP_94 cy ad (g 94) := h.1 94 (by decide)
theorem cs_94 {cy : Nat → ClassId} {ad : Nat → Nat} {e : va_E} (h : CP_94 cy ad e) : CPf cy ad 94 e := h
theorem cp_95 {cy : Nat → ClassId} {ad : Nat → Nat} {g : Nat → va_E} (h : INV cy ad g) : CP_95 cy ad (g 95) := h.1 95 (by decide)
theorem cs_95 {cy : Nat → ClassId} {ad : Nat → Nat} {e : va_E} (h : CP_95 cy ad e) : CPf cy ad 95 e := h
theorem cp_96 {cy : Nat → ClassId} {ad : Nat → Nat} {g : Nat → va_E} (h : INV cy ad g) : CP_96 cy ad (g 96) := h.1 96 (by decide)
theorem cs_96 {cy : Nat → ClassId} {ad : Nat → Nat} {e : va_E} (h : CP_96 cy ad e) : CPf cy ad 96 e := h
theorem cp_97 {cy : Nat → ClassId} {ad : Nat → Nat} {g : Nat → va_E} (h : INV cy ad g) : CP_97 cy ad (g 97) := h.1 97 (by decide)
theorem cs_97 {cy : Nat → ClassId} {ad : Nat → Nat} {e : va_E} (h : CP_97 cy ad e) : CPf cy ad 97 e := h
theorem cp_98 {cy : Nat → ClassId} {ad : Nat → Nat} {g : Nat → va_E} (h : INV cy ad g) : CP_98 cy ad (g 98) := h.1 98 (by decide)
theorem cs_98 {cy : Nat → ClassId} {ad : Nat → Nat} {e : va_E} (h : CP_98 cy ad e) : CPf cy ad 98 e := h
theorem cp_99 {cy : Nat → ClassId} {ad : Nat → Nat} {g : Nat → va_E} (h : INV cy ad g) : CP_99 cy ad (g 99) := h.1 99 (by decide)
theorem cs_99 {cy : Nat → ClassId} {ad : Nat → Nat} {e : va_E} (h : CP_99 cy ad e) : CPf cy ad 99 e := h
theorem cp_100 {cy : Nat → ClassId} {ad : Nat → Nat} {g : Nat → va_E} (h : INV cy ad g) : CP_100 cy ad (g 100) := h.1 100 (by decide)
theorem cs_100 {cy : Nat → ClassId} {ad : Nat → Nat} {e : va_E} (h : CP_100 cy ad e) : CPf cy ad 100 e := h
theorem cp_101 {cy : Nat → ClassId} {ad : Nat → Nat} {g : Nat → va_E} (h : INV cy ad g) : CP_101 cy ad (g 101) := h.1 101 (by decide)
theorem cs_101 {cy : Nat → ClassId} {ad : Nat → Nat} {e : va_E} (h : CP_101 cy ad e) : CPf cy ad 101 e := h
theorem cp_102 {cy : Nat → ClassId} {ad : Nat → Nat} {g : Nat → va_E} (h : INV cy ad g) : CP_102 cy ad (g 102) := h.1 102 (by decide)
theorem cs_102 {cy : Nat → ClassId} {ad : Nat → Nat} {e : va_E} (h : CP_102 cy ad e) : CPf cy ad 102 e := h
theorem cp_103 {cy : Nat → ClassId} {ad : Nat → Nat} {g : Nat → va_E} (h : INV cy ad g) : CP_103 cy ad (g 103) := h.1 103 (by decide)
theorem cs_103 {cy : Nat → ClassId} {ad : Nat → Nat} {e : va_E} (h : CP_103 cy ad e) : CPf cy ad 103 e := h
theorem cp_104 {cy : Nat → ClassId} {ad : Nat → Nat} {g : Nat → va_E} (h : INV cy ad g) : CP_104 cy ad (g 104) := h.1 104 (by decide)
theorem cs_104 {cy : Nat → ClassId} {ad : Nat → Nat} {e : va_E} (h : CP_104 cy ad e) : CPf cy ad 104 e := h
theorem cp_105 {cy : Nat → ClassId} {ad : Nat → Nat} {g : Nat → va_E} (h : INV cy ad g) : CP_105 cy ad (g 105) := h.1 105 (by decide)
theorem cs_105 {cy : Nat → ClassId} {ad : Nat → Nat} {e : va_E} (h : CP_105 cy ad e) : CPf cy ad 105 e := h
theorem cp_106 {cy : Nat → ClassId} {ad : Nat → Nat} {g : Nat → va_E} (h : INV cy ad g) : CP_106 cy ad (g 106) := h.1 106 (by decide)
theorem cs_106 {cy : Nat → ClassId} {ad : Nat → Nat} {e : va_E} (h : CP_106 cy ad e) : CPf cy ad 106 e := h
theorem cp_107 {cy : Nat → ClassId} {ad : Nat → Nat} {g : Nat → va_E} (h : INV cy ad g) : CP_107 cy ad (g 107) := h.1 107 (by decide)
theorem cs_107 {cy : Nat → ClassId} {ad : Nat → Nat} {e : va_E} (h : CP_107 cy ad e) : CPf cy ad 107 e := h
theorem cp_108 {cy : Nat → ClassId} {ad : Nat → Nat} {g : Nat → va_E} (h : INV cy ad g) : CP_108 cy ad (g 108) := h.1 108 (by decide)
theorem cs_108 {cy : Nat → ClassId} {ad : Nat → Nat} {e : va_E} (h : CP_108 cy ad e) : CPf cy ad 108 e := h
theorem cp_109 {cy : Nat → ClassId} {ad : Nat → Nat} {g : Nat → va_E} (h : INV cy ad g) : CP_109 cy ad (g 109) := h.1 109 (by decide)
theorem cs_109 {cy : Nat → ClassId} {ad : Nat → Nat} {e : va_E} (h : CP_109 cy ad e) : CPf cy ad 109 e := h
theorem cp_110 {cy : Nat → ClassId} {ad : Nat → Nat} {g : Nat → va_E} (h : INV cy ad g) : CP_110 cy ad (g 110) := h.1 110 (by decide)
theorem cs_110 {cy : Nat → ClassId} {ad : Nat → Nat} {e : va_E} (h : CP_110 cy ad e) : CPf cy ad 110 e := h
theorem cp_111 {cy : Nat → ClassId} {ad : Nat → Nat} {g : Nat → va_E} (h : INV cy ad g) : CP_111 cy ad (g 111) := h.1 111 (by decide)
theorem cs_111 {cy : Nat → ClassId} {ad : Nat → Nat} {e : va_E} (h : CP_111 cy ad e) : CPf cy ad 111 e := h
theorem cp_112 {cy : Nat → ClassId} {ad : Nat → Nat} {g : Nat → va_E} (h : INV cy ad g) : CP_112 cy ad (g 112) := h.1 112 (by decide)
theorem cs_112 {cy : Nat → ClassId} {ad : Nat → Nat} {e : va_E} (h : CP_112 cy ad e) : CPf cy ad 112 e := h
theorem cp_113 {cy : Nat → ClassId} {ad : Nat → Nat} {g : Nat → va_E} (h : INV cy ad g) : CP_113 cy ad (g 113) := h.1 113 (by decide)
theorem cs_113 {cy : Nat → ClassId} {ad : Nat → Nat} {e : va_E} (h : CP_113 cy ad e) : CPf cy ad 113 e := h
theorem cp_114 {cy : Nat → ClassId} {ad : Nat → Nat} {g : Nat → va_E} (h : INV cy ad g) : CP_114 cy ad (g 114) := h.1 114 (by decide)
theorem cs_114 {cy : Nat → ClassId} {ad : Nat → Nat} {e : va_E} (h : CP_114 cy ad e) : CPf cy ad 114 e := h
theorem cp_115 {cy : Nat → ClassId} {ad : Nat → Nat} {g : Nat → va_E} (h : INV cy ad g) : CP_115 cy ad (g 115) := h.1 115 (by decide)
theorem cs_115 {cy : Nat → ClassId} {ad : Nat → Nat} {e : va_E} (h : CP_115 cy ad e) : CPf cy ad 115 e := h
theorem cp_116 {cy : Nat → ClassId} {ad : Nat → Nat} {g : Nat → va_E} (h : INV cy ad g) : CP_116 cy ad (g 116) := h.1 116 (by decide)
theorem cs_116 {cy : Nat → ClassId} {ad : Nat → Nat} {e : va_E} (h : CP_116 cy ad e) : CPf cy ad 116 e := h
theorem cp_117 {cy : Nat → ClassId} {ad : Nat → Nat} {g : Nat → va_E} (h : INV cy ad g) : CP_117 cy ad (g 117) := h.1 117 (by decide)
theorem cs_117 {cy : Nat → ClassId} {ad : Nat → Nat} {e : va_E} (h : CP_117 cy ad e) : CPf cy ad 117 e := h
theorem cp_118 {cy : Nat → ClassId} {ad : Nat → Nat} {g : Nat → va_E} (h : INV cy ad g) : CP_118 cy ad (g 118) := h.1 118 (by decide)
theorem cs_118 {cy : Nat → ClassId} {ad : Nat → Nat} {e : va_E} (h : CP_118 cy ad e) : CPf cy ad 118 e := h
theorem cp_119 {cy : Nat → ClassId} {ad : Nat → Nat} {g : Nat → va_E} (h : INV cy ad g) : CP_119 cy ad (g 119) := h.1 119 (by decide)
theorem cs_119 {cy : Nat → ClassId} {ad : Nat → Nat} {e : va_E} (h : CP_119 cy ad e) : CPf cy ad 119 e := h
theorem cp_120 {cy : Nat → ClassId} {ad : Nat → Nat} {g : Nat → va_E} (h : INV cy ad g) : CP_120 cy ad (g 120) := h.1 120 (by decide)
theorem cs_120 {cy : Nat → ClassId} {ad : Nat → Nat} {e : va_E} (h : CP_120 cy ad e) : CPf cy ad 120 e := h
theorem cp_121 {cy : Nat → ClassId} {ad : Nat → Nat} {g : Nat → va_E} (h : INV cy ad g) : CP_121 cy ad (g 121) := h.1 121 (by decide)
theorem cs_121 {cy : Nat → ClassId} {ad : Nat → Nat} {e : va_E} (h : CP_121 cy ad e) : CPf cy ad 121 e := h
theorem cp_122 {cy : Nat → ClassId} {ad : Nat → Nat} {g : Nat → va_E} (h : INV cy ad g) : CP_122 cy ad (g 122) := h.1 122 (by decide)
theorem cs_122 {cy : Nat → ClassId} {ad : Nat → Nat} {e : va_E} (h : CP_122 cy ad e) : CPf cy ad 122 e := h
theorem cp_123 {cy : Nat → ClassId} {ad : Nat → Nat} {g : Nat → va_E} (h : INV cy ad g) : CP_123 cy ad (g 123) := h.1 123 (by decide)
theorem cs_123 {cy : Nat → ClassId} {ad : Nat → Nat} {e : va_E} (h : CP_123 cy ad e) : CPf cy ad 123 e := h
theorem cp_124 {cy : Nat → ClassId} {ad : Nat → Nat} {g : Nat → va_E} (h : INV cy ad g) : CP_124 cy ad (g 124) := h.1 124 (by decide)
theorem cs_124 {cy : Nat → ClassId} {ad : Nat → Nat} {e : va_E} (h : CP_124 cy ad e) : CPf cy ad 124 e := h
theorem cp_125 {cy : Nat → ClassId} {ad : Nat → Nat} {g : Nat → va_E} (h : INV cy ad g) : CP_125 cy ad (g 125) := h.1 125 (by decide)
theorem cs_125 {cy : Nat → ClassId} {ad : Nat → Nat} {e : va_E} (h : CP_125 cy ad e) : CPf cy ad 125 e := h
theorem cp_126 {cy : Nat → ClassId} {ad : Nat → Nat} {g : Nat → va_E} (h : INV cy ad g) : CP_126 cy ad (g 126) := h.1 126 (by decide)
theorem cs_126 {cy : Nat → ClassId} {ad : Nat → Nat} {e : va_E} (h : CP_126 cy ad e) : CPf cy ad 126 e := h
theorem cp_127 {cy : Nat → ClassId} {ad : Nat → Nat} {g : Nat → va_E} (h : INV cy ad g) : CP_127 cy ad (g 127) := h.1 127 (by decide)
theorem cs_127 {cy : Nat → ClassId} {ad : Nat → Nat} {e : va_E} (h : CP_127 cy ad e) : CPf cy ad 127 e := h
theorem cp_128 {cy : Nat → ClassId} {ad : Nat → Nat} {g : Nat → va_E} (h : INV cy ad g) : CP_128 cy ad (g 128) := h.1 128 (by decide)
theorem cs_128 {cy : Nat → ClassId} {ad : Nat → Nat} {e : va_E} (h : CP_128 cy ad e) : CPf cy ad 128 e := h
theorem cp_129 {cy : Nat → ClassId} {ad : Nat → Nat} {g : Nat → va_E} (h : INV cy ad g) : CP_129 cy ad (g 129) := h.1 129 (by decide)
theorem cs_129 {cy : Nat → ClassId} {ad : Nat → Nat} {e : va_E} (h : CP_129 cy ad e) : CPf cy ad 129 e := h
theorem cp_130 {cy : Nat → ClassId} {ad : Nat → Nat} {g : Nat → va_E} (h : INV cy ad g) : CP_130 cy ad (g 130) := h.1 130 (by decide)
theorem cs_130 {cy : Nat → ClassId} {ad : Nat → Nat} {e : va_E} (h : CP_130 cy ad e) : CPf cy ad 130 e := h
theorem cp_131 {cy : Nat → ClassId} {ad : Nat → Nat} {g : Nat → va_E} (h : INV cy ad g) : CP_131 cy ad (g 131) := h.1 131 (by decide)
theorem cs_131 {cy : Nat → ClassId} {ad : Nat → Nat} {e : va_E} (h : CP_131 cy ad e) : CPf cy ad 131 e := h
theorem cp_132 {cy : Nat → ClassId} {ad : Nat → Nat} {g : Nat → va_E} (h : INV cy ad g) : CP_132 cy ad (g 132) := h.1 132 (by decide)
theorem cs_132 {cy : Nat → ClassId} {ad : Nat → Nat} {e : va_E} (h : CP_132 cy ad e) : CPf cy ad 132 e := h
theorem cp_133 {cy : Nat → ClassId} {ad : Nat → Nat} {g : Nat → va_E} (h : INV cy ad g) : CP_133 cy ad (g 133) := h.1 133 (by decide)
theorem cs_133 {cy : Nat → ClassId} {ad : Nat → Nat} {e : va_E} (h : CP_133 cy ad e) : CPf cy ad 133 e := h
theorem cp_134 {cy : Nat → ClassId} {ad : Nat → Nat} {g : Nat → va_E} (h : INV cy ad g) : CP_134 cy ad (g 134) := h.1 134 (by decide)
theorem cs_134 {cy : Nat → ClassId} {ad : Nat → Nat} {e : va_E} (h : CP_134 cy ad e) : CPf cy ad 134 e := h
theorem cp_135 {cy : Nat → ClassId} {ad : Nat → Nat} {g : Nat → va_E} (h : INV cy ad g) : CP_135 cy ad (g 135) := h.1 135 (by decide)
theorem cs_135 {cy : Nat → ClassId} {ad : Nat → Nat} {e : va_E} (h : CP_135 cy ad e) : CPf cy ad 135 e := h
theorem cp_136 {cy : Nat → ClassId} {ad : Nat → Nat} {g : Nat → va_E} (h : INV cy ad g) : CP_136 cy ad (g 136) := h.1 136 (by decide)
theorem cs_136 {cy : Nat → ClassId} {ad : Nat → Nat} {e : va_E} (h : CP_136 cy ad e) : CPf cy ad 136 e := h
theorem cp_137 {cy : Nat → ClassId} {ad : Nat → Nat} {g : Nat → va_E} (h : INV cy ad g) : CP_137 cy ad (g 137) := h.1 137 (by decide)
theorem cs_137 {cy : Nat → ClassId} {ad : Nat → Nat} {e : va_E} (h : CP_137 cy ad e) : CPf cy ad 137 e := h
theorem cp_138 {cy : Nat → ClassId} {ad : Nat → Nat} {g : Nat → va_E} (h : INV cy ad g) : CP_138 cy ad (g 138) := h.1 138 (by decide)
theorem cs_138 {cy : Nat → ClassId} {ad : Nat → Nat} {e : va_E} (h : CP_138 cy ad e) : CPf cy ad 138 e := h
theorem cp_139 {cy : Nat → ClassId} {ad : Nat → Nat} {g : Nat → va_E} (h : INV cy ad g) : CP_139 cy ad (g 139) := h.1 139 (by decide)
theorem cs_139 {cy : Nat → ClassId} {ad : Nat → Nat} {e : va_E} (h : CP_139 cy ad e) : CPf cy ad 139 e := h
theorem cp_140 {cy : Nat → ClassId} {ad : Nat → Nat} {g : Nat → va_E} (h : INV cy ad g) : CP_140 cy ad (g 140) := h.1 140 (by decide)
theorem cs_140 {cy : Nat → ClassId} {ad : Nat → Nat} {e : va_E} (h : CP_140 cy ad e) : CPf cy ad 140 e := h
theorem cp_141 {cy : Nat → ClassId} {ad : Nat → Nat} {g : Nat → va_E} (h : INV cy ad g) : CP_141 cy ad (g 141) := h.1 141 (by decide)
theorem cs_141 {cy : Nat → ClassId} {ad : Nat → Nat} {e : va_E} (h : CP_141 cy ad e) : CPf cy ad 141 e := h
theorem cp_142 {cy : Nat → ClassId} {ad : Nat → Nat} {g : Nat → va_E} (h : INV cy ad g) : CP_142 cy ad (g 142) := h.1 142 (by decide)
theorem cs_142 {cy : Nat → ClassId} {ad : Nat → Nat} {e : va_E} (h : CP_142 cy ad e) : CPf cy ad 142 e := h
theorem cp_143 {cy : Nat → ClassId} {ad : Nat → Nat} {g : Nat → va_E} (h : INV cy ad g) : CP_143 cy ad (g 143) := h.1 143 (by decide)
theorem cs_143 {cy : Nat → ClassId} {ad : Nat → Nat} {e : va_E} (h : CP_143 cy ad e) : CPf cy ad 143 e := h
theorem cp_144 {cy : Nat → ClassId} {ad : Nat → Nat} {g : Nat → va_E} (h : INV cy ad g) : CP_144 cy ad (g 144) := h.1 144 (by decide)
theorem cs_144 {cy : Nat → ClassId} {ad : Nat → Nat} {e : va_E} (h : CP_144 cy ad e) : CPf cy ad 144 e := h
theorem cp_145 {cy : Nat → ClassId} {ad : Nat → Nat} {g : Nat → va_E} (h : INV cy ad g) : CP_145 cy ad (g 145) := h.1 145 (by decide)
theorem cs_145 {cy : Nat → ClassId} {ad : Nat → Nat} {e : va_E} (h : CP_145 cy ad e) : CPf cy ad 145 e := h
theorem cp_146 {cy : Nat → ClassId} {ad : Nat → Nat} {g : Nat → va_E} (h : INV cy ad g) : CP_146 cy ad (g 146) := h.1 146 (by decide)
theorem cs_146 {cy : Nat → ClassId} {ad : Nat → Nat} {e : va_E} (h : CP_146 cy ad e) : CPf cy ad 146 e := h
theorem cp_147 {cy : Nat → ClassId} {ad : Nat → Nat} {g : Nat → va_E} (h : INV cy ad g) : CP_147 cy ad (g 147) := h.1 147 (by decide)
theorem cs_147 {cy : Nat → ClassId} {ad : Nat → Nat} {e : va_E} (h : CP_147 cy ad e) : CPf cy ad 147 e := h
theorem cp_148 {cy : Nat → ClassId} {ad : Nat → Nat} {g : Nat → va_E} (h : INV cy ad g) : CP_148 cy ad (g 148) := h.1 148 (by decide)
theorem cs_148 {cy : Nat → ClassId} {ad : Nat → Nat} {e : va_E} (h : CP_148 cy ad e) : CPf cy ad 148 e := h
theorem cp_149 {cy : Nat → ClassId} {ad : Nat → Nat} {g : Nat → va_E} (h : INV cy ad g) : CP_149 cy ad (g 149) := h.1 149 (by decide)
theorem cs_149 {cy : Nat → ClassId} {ad : Nat → Nat} {e : va_E} (h : CP_149 cy ad e) : CPf cy ad 149 e := h
theorem cp_150 {cy : Nat → ClassId} {ad : Nat → Nat} {g : Nat → va_E} (h : INV cy ad g) : CP_150 cy ad (g 150) := h.1 150 (by decide)
theorem cs_150 {cy : Nat → ClassId} {ad : Nat → Nat} {e : va_E} (h : CP_150 cy ad e) : CPf cy ad 150 e := h
theorem cp_151 {cy : Nat → ClassId} {ad : Nat → Nat} {g : Nat → va_E} (h : INV cy ad g) : CP_151 cy ad (g 151) := h.1 151 (by decide)
theorem cs_151 {cy : Nat → ClassId} {ad : Nat → Nat} {e : va_E} (h : CP_151 cy ad e) : CPf cy ad 151 e := h
theorem cp_152 {cy : Nat → ClassId} {ad : Nat → Nat} {g : Nat → va_E} (h : INV cy ad g) : CP_152 cy ad (g 152) := h.1 152 (by decide)
theorem cs_152 {cy : Nat → ClassId} {ad : Nat → Nat} {e : va_E} (h : CP_152 cy ad e) : CPf cy ad 152 e := h
theorem cp_153 {cy : Nat → ClassId} {ad : Nat → Nat} {g : Nat → va_E} (h : INV cy ad g) : CP_153 cy ad (g 153) := h.1 153 (by decide)
theorem cs_153 {cy : Nat → ClassId} {ad : Nat → Nat} {e : va_E} (h : CP_153 cy ad e) : CPf cy ad 153 e := h
theorem cp_154 {cy : Nat → ClassId} {ad : Nat → Nat} {g : Nat → va_E} (h : INV cy ad g) : CP_154 cy ad (g 154) := h.1 154 (by decide)
theorem cs_154 {cy : Nat → ClassId} {ad : Nat → Nat} {e : va_E} (h : CP_154 cy ad e) : CPf cy ad 154 e := h
theorem cp_155 {cy : Nat → ClassId} {ad : Nat → Nat} {g : Nat → va_E} (h : INV cy ad g) : CP_155 cy ad (g 155) := h.1 155 (by decide)
theorem cs_155 {cy : Nat → ClassId} {ad : Nat → Nat} {e : va_E} (h : CP_155 cy ad e) : CPf cy ad 155 e := h
theorem cp_156 {cy : Nat → ClassId} {ad : Nat → Nat} {g : Nat → va_E} (h : INV cy ad g) : CP_156 cy ad (g 156) := h.1 156 (by decide)
theorem cs_156 {cy : Nat → ClassId} {ad : Nat → Nat} {e : va_E} (h : CP_156 cy ad e) : CPf cy ad 156 e := h
theorem cp_157 {cy : Nat → ClassId} {ad : Nat → Nat} {g : Nat → va_E} (h : INV cy ad g) : CP_157 cy ad (g 157) := h.1 157 (by decide)
theorem cs_157 {cy : Nat → ClassId} {ad : Nat → Nat} {e : va_E} (h : CP_157 cy ad e) : CPf cy ad 157 e := h
theorem cp_158 {cy : Nat → ClassId} {ad : Nat → Nat} {g : Nat → va_E} (h : INV cy ad g) : CP_158 cy ad (g 158) := h.1 158 (by decide)
theorem cs_158 {cy : Nat → ClassId} {ad : Nat → Nat} {e : va_E} (h : CP_158 cy ad e) : CPf cy ad 158 e := h
theorem cp_159 {cy : Nat → ClassId} {ad : Nat → Nat} {g : Nat → va_E} (h : INV cy ad g) : CP_159 cy ad (g 159) := h.1 159 (by decide)
theorem cs_159 {cy : Nat → ClassId} {ad : Nat → Nat} {e : va_E} (h : CP_159 cy ad e) : CPf cy ad 159 e := h
theorem cp_160 {cy : Nat → ClassId} {ad : Nat → Nat} {g : Nat → va_E} (h : INV cy ad g) : CP_160 cy ad (g 160) := h.1 160 (by decide)
theorem cs_160 {cy : Nat → ClassId} {ad : Nat → Nat} {e : va_E} (h : CP_160 cy ad e) : CPf cy ad 160 e := h
theorem cp_161 {cy : Nat → ClassId} {ad : Nat → Nat} {g : Nat → va_E} (h : INV cy ad g) : CP_161 cy ad (g 161) := h.1 161 (by decide)
theorem cs_161 {cy : Nat → ClassId} {ad : Nat → Nat} {e : va_E} (h : CP_161 cy ad e) : CPf cy ad 161 e := h
theorem cp_162 {cy : Nat → ClassId} {ad : Nat → Nat} {g : Nat → va_E} (h : INV cy ad g) : CP_162 cy ad (g 162) := h.1 162 (by decide)
theorem cs_162 {cy : Nat → ClassId} {ad : Nat → Nat} {e : va_E} (h : CP_162 cy ad e) : CPf cy ad 162 e := h
theorem cp_163 {cy : Nat → ClassId} {ad : Nat → Nat} {g : Nat → va_E} (h : INV cy ad g) : CP_163 cy ad (g 163) := h.1 163 (by decide)
theorem cs_163 {cy : Nat → ClassId} {ad : Nat → Nat} {e : va_E} (h : CP_163 cy ad e) : CPf cy ad 163 e := h
theorem cp_164 {cy : Nat → ClassId} {ad : Nat → Nat} {g : Nat → va_E} (h : INV cy ad g) : CP_164 cy ad (g 164) := h.1 164 (by decide)
theorem cs_164 {cy : Nat → ClassId} {ad : Nat → Nat} {e : va_E} (h : CP_164 cy ad e) : CPf cy ad 164 e := h
theorem cp_165 {cy : Nat → ClassId} {ad : Nat → Nat} {g : Nat → va_E} (h : INV cy ad g) : CP_165 cy ad (g 165) := h.1 165 (by decide)
theorem cs_165 {cy : Nat → ClassId} {ad : Nat → Nat} {e : va_E} (h : CP_165 cy ad e) : CPf cy ad 165 e := h
theorem cp_166 {cy : Nat → ClassId} {ad : Nat → Nat} {g : Nat → va_E} (h : INV cy ad g) : CP_166 cy ad (g 166) := h.1 166 (by decide)
theorem cs_166 {cy : Nat → ClassId} {ad : Nat → Nat} {e : va_E} (h : CP_166 cy ad e) : CPf cy ad 166 e := h
theorem cp_167 {cy : Nat → ClassId} {ad : Nat → Nat} {g : Nat → va_E} (h : INV cy ad g) : CP_167 cy ad (g 167) := h.1 167 (by decide)
theorem cs_167 {cy : Nat → ClassId} {ad : Nat → Nat} {e : va_E} (h : CP_167 cy ad e) : CPf cy ad 167 e := h
theorem cp_168 {cy : Nat → ClassId} {ad : Nat → Nat} {g : Nat → va_E} (h : INV cy ad g) : CP_168 cy ad (g 168) := h.1 168 (by decide)
theorem cs_168 {cy : Nat → ClassId} {ad : Nat → Nat} {e : va_E} (h : CP_168 cy ad e) : CPf cy ad 168 e := h
theorem cp_169 {cy : Nat → ClassId} {ad : Nat → Nat} {g : Nat → va_E} (h : INV cy ad g) : CP_169 cy ad (g 169) := h.1 169 (by decide)
theorem cs_169 {cy : Nat → ClassId} {ad : Nat → Nat} {e : va_E} (h : CP_169 cy ad e) : CPf cy ad 169 e := h
theorem cp_170 {cy : Nat → ClassId} {ad : Nat → Nat} {g : Nat → va_E} (h : INV cy ad g) : CP_170 cy ad (g 170) := h.1 170 (by decide)
theorem cs_170 {cy : Nat → ClassId} {ad : Nat → Nat} {e : va_E} (h : CP_170 cy ad e) : CPf cy ad 170 e := h
theorem cp_171 {cy : Nat → ClassId} {ad : Nat → Nat} {g : Nat → va_E} (h : INV cy ad g) : CP_171 cy ad (g 171) := h.1 171 (by decide)
theorem cs_171 {cy : Nat → ClassId} {ad : Nat → Nat} {e : va_E} (h : CP_171 cy ad e) : CPf cy ad 171 e := h
theorem cp_172 {cy : Nat → ClassId} {ad : Nat → Nat} {g : Nat → va_E} (h : INV cy ad g) : CP_172 cy ad (g 172) := h.1 172 (by decide)
theorem cs_172 {cy : Nat → ClassId} {ad : Nat → Nat} {e : va_E} (h : CP_172 cy ad e) : CPf cy ad 172 e := h
