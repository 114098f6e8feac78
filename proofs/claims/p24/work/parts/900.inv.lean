/-! both worlds, cell by cell, between two calls of the law -/
abbrev CP_0 (cy : Nat → ClassId) (ad : Nat → Nat) (e : va_E) : Prop := ∃ (x0_1 : Int32) (x0_13 : Int32), e = .inr (11, [.ref (ad 1), .int x0_1, .ref (ad 2), .ref (ad 21), .ref (ad 38), .ref (ad 42), .ref (ad 55), .ref (ad 59), .ref (ad 62), .ref (ad 74), .ref (ad 88), .ref (ad 101), .ref (ad 118), .int x0_13]) ∧ zi 0 1600 x0_1 ∧ zi 0 24 x0_13
abbrev CP_1 (cy : Nat → ClassId) (ad : Nat → Nat) (e : va_E) : Prop := ∃ (f1 : Nat → Int32), e = .inl (cy 0, 1600, .inl f1)
abbrev CP_2 (cy : Nat → ClassId) (ad : Nat → Nat) (e : va_E) : Prop := ∃ (x2_1 : Int32) (x2_2 : Int32) (u2_3 : Value) (x2_4 : Int32) (x2_5 : Int32) (x2_6 : Int32) (x2_7 : Int32) (x2_8 : Int32) (x2_9 : Int32) (x2_10 : Int32) (w2_11 : Int64), e = .inr (6, [.ref (ad 3), .int x2_1, .int x2_2, u2_3, .int x2_4, .int x2_5, .int x2_6, .int x2_7, .int x2_8, .int x2_9, .int x2_10, .long w2_11]) ∧ zi 0 1600 x2_4 ∧ zi 0 1600 x2_5 ∧ zi 0 1600 x2_7 ∧ ((x2_6 : Int32) = 1 → (x2_7 : Int32).toInt + (x2_8 : Int32).toInt ≤ 1600)
abbrev CP_3 (cy : Nat → ClassId) (ad : Nat → Nat) (e : va_E) : Prop := ∃ (x3_5 : Int32) (x3_11 : Int32) (x3_15 : Int32) (x3_16 : Int32), e = .inr (7, [.ref (ad 4), .ref (ad 5), .ref (ad 6), .ref (ad 7), .ref (ad 8), .int x3_5, .ref (ad 9), .ref (ad 10), .ref (ad 11), .ref (ad 12), .ref (ad 13), .int x3_11, .ref (ad 14), .ref (ad 15), .ref (ad 16), .int x3_15, .int x3_16, .ref (ad 17)]) ∧ zi 0 5 x3_5 ∧ zi 0 4 x3_11 ∧ zi 0 12 x3_16
abbrev CP_4 (cy : Nat → ClassId) (ad : Nat → Nat) (e : va_E) : Prop := ∃ (f4 : Nat → Int64), e = .inl (cy 1, 5, .inr (.inl f4))
abbrev CP_5 (cy : Nat → ClassId) (ad : Nat → Nat) (e : va_E) : Prop := ∃ (f5 : Nat → Int32), e = .inl (cy 0, 5, .inl f5)
abbrev CP_6 (cy : Nat → ClassId) (ad : Nat → Nat) (e : va_E) : Prop := ∃ (f6 : Nat → Int32), e = .inl (cy 0, 5, .inl f6)
abbrev CP_7 (cy : Nat → ClassId) (ad : Nat → Nat) (e : va_E) : Prop := ∃ (f7 : Nat → Int32), e = .inl (cy 0, 5, .inl f7)
abbrev CP_8 (cy : Nat → ClassId) (ad : Nat → Nat) (e : va_E) : Prop := ∃ (f8 : Nat → Int32), e = .inl (cy 0, 5, .inl f8) ∧ za (-1) 3 f8
abbrev CP_9 (cy : Nat → ClassId) (ad : Nat → Nat) (e : va_E) : Prop := ∃ (f9 : Nat → Int64), e = .inl (cy 1, 4, .inr (.inl f9))
abbrev CP_10 (cy : Nat → ClassId) (ad : Nat → Nat) (e : va_E) : Prop := ∃ (f10 : Nat → Int32), e = .inl (cy 0, 4, .inl f10)
abbrev CP_11 (cy : Nat → ClassId) (ad : Nat → Nat) (e : va_E) : Prop := ∃ (f11 : Nat → Int32), e = .inl (cy 0, 4, .inl f11)
abbrev CP_12 (cy : Nat → ClassId) (ad : Nat → Nat) (e : va_E) : Prop := ∃ (f12 : Nat → Int32), e = .inl (cy 0, 20, .inl f12) ∧ za 0 4 f12
abbrev CP_13 (cy : Nat → ClassId) (ad : Nat → Nat) (e : va_E) : Prop := ∃ (f13 : Nat → Int32), e = .inl (cy 0, 4, .inl f13) ∧ za 0 5 f13
abbrev CP_14 (cy : Nat → ClassId) (ad : Nat → Nat) (e : va_E) : Prop := ∃ (f14 : Nat → Int64), e = .inl (cy 1, 12, .inr (.inl f14))
abbrev CP_15 (cy : Nat → ClassId) (ad : Nat → Nat) (e : va_E) : Prop := ∃ (f15 : Nat → Int32), e = .inl (cy 0, 12, .inl f15)
abbrev CP_16 (cy : Nat → ClassId) (ad : Nat → Nat) (e : va_E) : Prop := ∃ (f16 : Nat → Int32), e = .inl (cy 0, 12, .inl f16)
abbrev CP_17 (cy : Nat → ClassId) (ad : Nat → Nat) (e : va_E) : Prop := ∃ (x17_1 : Int32) (x17_2 : Int32) (x17_3 : Int32), e = .inr (4, [.ref (ad 18), .int x17_1, .int x17_2, .int x17_3, .ref (ad 19)]) ∧ zi 0 300 x17_1 ∧ zi 0 1 x17_3
abbrev CP_18 (cy : Nat → ClassId) (ad : Nat → Nat) (e : va_E) : Prop := ∃ (f18 : Nat → Int32), e = .inl (cy 0, 300, .inl f18)
abbrev CP_19 (cy : Nat → ClassId) (ad : Nat → Nat) (e : va_E) : Prop := ∃ (f19 : Nat → Int32), e = .inl (cy 0, 30, .inl f19)
abbrev CP_20 (cy : Nat → ClassId) (ad : Nat → Nat) (e : va_E) : Prop := ∃ (f20 : Nat → Int32), e = .inl (cy 0, 0, .inl f20)
abbrev CP_21 (cy : Nat → ClassId) (ad : Nat → Nat) (e : va_E) : Prop := ∃ (x21_5 : Int32) (x21_11 : Int32) (x21_15 : Int32) (x21_16 : Int32), e = .inr (7, [.ref (ad 22), .ref (ad 23), .ref (ad 24), .ref (ad 25), .ref (ad 26), .int x21_5, .ref (ad 27), .ref (ad 28), .ref (ad 29), .ref (ad 30), .ref (ad 31), .int x21_11, .ref (ad 32), .ref (ad 33), .ref (ad 34), .int x21_15, .int x21_16, .ref (ad 35)]) ∧ zi 0 5 x21_5 ∧ zi 0 4 x21_11 ∧ zi 0 12 x21_16
abbrev CP_22 (cy : Nat → ClassId) (ad : Nat → Nat) (e : va_E) : Prop := ∃ (f22 : Nat → Int64), e = .inl (cy 1, 5, .inr (.inl f22))
abbrev CP_23 (cy : Nat → ClassId) (ad : Nat → Nat) (e : va_E) : Prop := ∃ (f23 : Nat → Int32), e = .inl (cy 0, 5, .inl f23)
abbrev CP_24 (cy : Nat → ClassId) (ad : Nat → Nat) (e : va_E) : Prop := ∃ (f24 : Nat → Int32), e = .inl (cy 0, 5, .inl f24)
abbrev CP_25 (cy : Nat → ClassId) (ad : Nat → Nat) (e : va_E) : Prop := ∃ (f25 : Nat → Int32), e = .inl (cy 0, 5, .inl f25)
abbrev CP_26 (cy : Nat → ClassId) (ad : Nat → Nat) (e : va_E) : Prop := ∃ (f26 : Nat → Int32), e = .inl (cy 0, 5, .inl f26) ∧ za (-1) 3 f26
abbrev CP_27 (cy : Nat → ClassId) (ad : Nat → Nat) (e : va_E) : Prop := ∃ (f27 : Nat → Int64), e = .inl (cy 1, 4, .inr (.inl f27))
abbrev CP_28 (cy : Nat → ClassId) (ad : Nat → Nat) (e : va_E) : Prop := ∃ (f28 : Nat → Int32), e = .inl (cy 0, 4, .inl f28)
abbrev CP_29 (cy : Nat → ClassId) (ad : Nat → Nat) (e : va_E) : Prop := ∃ (f29 : Nat → Int32), e = .inl (cy 0, 4, .inl f29)
abbrev CP_30 (cy : Nat → ClassId) (ad : Nat → Nat) (e : va_E) : Prop := ∃ (f30 : Nat → Int32), e = .inl (cy 0, 20, .inl f30) ∧ za 0 4 f30
abbrev CP_31 (cy : Nat → ClassId) (ad : Nat → Nat) (e : va_E) : Prop := ∃ (f31 : Nat → Int32), e = .inl (cy 0, 4, .inl f31) ∧ za 0 5 f31
abbrev CP_32 (cy : Nat → ClassId) (ad : Nat → Nat) (e : va_E) : Prop := ∃ (f32 : Nat → Int64), e = .inl (cy 1, 12, .inr (.inl f32))
abbrev CP_33 (cy : Nat → ClassId) (ad : Nat → Nat) (e : va_E) : Prop := ∃ (f33 : Nat → Int32), e = .inl (cy 0, 12, .inl f33)
abbrev CP_34 (cy : Nat → ClassId) (ad : Nat → Nat) (e : va_E) : Prop := ∃ (f34 : Nat → Int32), e = .inl (cy 0, 12, .inl f34)
abbrev CP_35 (cy : Nat → ClassId) (ad : Nat → Nat) (e : va_E) : Prop := ∃ (x35_1 : Int32) (x35_2 : Int32) (x35_3 : Int32), e = .inr (4, [.ref (ad 36), .int x35_1, .int x35_2, .int x35_3, .ref (ad 37)]) ∧ zi 0 300 x35_1 ∧ zi 0 1 x35_3
abbrev CP_36 (cy : Nat → ClassId) (ad : Nat → Nat) (e : va_E) : Prop := ∃ (f36 : Nat → Int32), e = .inl (cy 0, 300, .inl f36)
abbrev CP_37 (cy : Nat → ClassId) (ad : Nat → Nat) (e : va_E) : Prop := ∃ (f37 : Nat → Int32), e = .inl (cy 0, 30, .inl f37)
abbrev CP_38 (cy : Nat → ClassId) (ad : Nat → Nat) (e : va_E) : Prop := ∃ (x38_2 : Int32) (x38_4 : Int32), e = .inr (9, [.ref (ad 39), .ref (ad 40), .int x38_2, .ref (ad 41), .int x38_4]) ∧ zi 0 24 x38_4
abbrev CP_39 (cy : Nat → ClassId) (ad : Nat → Nat) (e : va_E) : Prop := ∃ (f39 : Nat → Int32), e = .inl (cy 0, 24, .inl f39)
abbrev CP_40 (cy : Nat → ClassId) (ad : Nat → Nat) (e : va_E) : Prop := ∃ (f40 : Nat → Int32), e = .inl (cy 0, 24, .inl f40)
abbrev CP_41 (cy : Nat → ClassId) (ad : Nat → Nat) (e : va_E) : Prop := ∃ (f41 : Nat → Int32), e = .inl (cy 0, 5, .inl f41)
abbrev CP_42 (cy : Nat → ClassId) (ad : Nat → Nat) (e : va_E) : Prop := e = .inl (cy 4, 3, .inr (.inr (.inr (.inr (va_up (va_up (va_up (fun _ => none) (0 : Int32).toNatClampNeg (some (ad 43))) (1 : Int32).toNatClampNeg (some (ad 47))) (2 : Int32).toNatClampNeg (some (ad 51)))))))
abbrev CP_43 (cy : Nat → ClassId) (ad : Nat → Nat) (e : va_E) : Prop := ∃ (x43_2 : Int32) (x43_4 : Int32), e = .inr (9, [.ref (ad 44), .ref (ad 45), .int x43_2, .ref (ad 46), .int x43_4]) ∧ zi (-1) 24 x43_4
abbrev CP_44 (cy : Nat → ClassId) (ad : Nat → Nat) (e : va_E) : Prop := ∃ (f44 : Nat → Int32), e = .inl (cy 0, 24, .inl f44)
abbrev CP_45 (cy : Nat → ClassId) (ad : Nat → Nat) (e : va_E) : Prop := ∃ (f45 : Nat → Int32), e = .inl (cy 0, 24, .inl f45)
abbrev CP_46 (cy : Nat → ClassId) (ad : Nat → Nat) (e : va_E) : Prop := ∃ (f46 : Nat → Int32), e = .inl (cy 0, 5, .inl f46)
abbrev CP_47 (cy : Nat → ClassId) (ad : Nat → Nat) (e : va_E) : Prop := ∃ (x47_2 : Int32) (x47_4 : Int32), e = .inr (9, [.ref (ad 48), .ref (ad 49), .int x47_2, .ref (ad 50), .int x47_4]) ∧ zi (-1) 24 x47_4
abbrev CP_48 (cy : Nat → ClassId) (ad : Nat → Nat) (e : va_E) : Prop := ∃ (f48 : Nat → Int32), e = .inl (cy 0, 24, .inl f48)
abbrev CP_49 (cy : Nat → ClassId) (ad : Nat → Nat) (e : va_E) : Prop := ∃ (f49 : Nat → Int32), e = .inl (cy 0, 24, .inl f49)
abbrev CP_50 (cy : Nat → ClassId) (ad : Nat → Nat) (e : va_E) : Prop := ∃ (f50 : Nat → Int32), e = .inl (cy 0, 5, .inl f50)
abbrev CP_51 (cy : Nat → ClassId) (ad : Nat → Nat) (e : va_E) : Prop := ∃ (x51_2 : Int32) (x51_4 : Int32), e = .inr (9, [.ref (ad 52), .ref (ad 53), .int x51_2, .ref (ad 54), .int x51_4]) ∧ zi (-1) 24 x51_4
abbrev CP_52 (cy : Nat → ClassId) (ad : Nat → Nat) (e : va_E) : Prop := ∃ (f52 : Nat → Int32), e = .inl (cy 0, 24, .inl f52)
abbrev CP_53 (cy : Nat → ClassId) (ad : Nat → Nat) (e : va_E) : Prop := ∃ (f53 : Nat → Int32), e = .inl (cy 0, 24, .inl f53)
abbrev CP_54 (cy : Nat → ClassId) (ad : Nat → Nat) (e : va_E) : Prop := ∃ (f54 : Nat → Int32), e = .inl (cy 0, 5, .inl f54)
abbrev CP_55 (cy : Nat → ClassId) (ad : Nat → Nat) (e : va_E) : Prop := ∃ (x55_3 : Int32) (x55_4 : Int32), e = .inr (0, [.ref (ad 56), .ref (ad 57), .ref (ad 58), .int x55_3, .int x55_4]) ∧ zi 0 40 x55_3 ∧ zi 0 40 x55_4
abbrev CP_56 (cy : Nat → ClassId) (ad : Nat → Nat) (e : va_E) : Prop := ∃ (f56 : Nat → Int32), e = .inl (cy 0, 40, .inl f56)
abbrev CP_57 (cy : Nat → ClassId) (ad : Nat → Nat) (e : va_E) : Prop := ∃ (f57 : Nat → Int32), e = .inl (cy 0, 40, .inl f57)
abbrev CP_58 (cy : Nat → ClassId) (ad : Nat → Nat) (e : va_E) : Prop := ∃ (f58 : Nat → Int32), e = .inl (cy 0, 40, .inl f58)
abbrev CP_59 (cy : Nat → ClassId) (ad : Nat → Nat) (e : va_E) : Prop := e = .inr (5, [.ref (ad 21), .ref (ad 60), .ref (ad 61)])
abbrev CP_60 (cy : Nat → ClassId) (ad : Nat → Nat) (e : va_E) : Prop := ∃ (f60 : Nat → Int32), e = .inl (cy 0, 80, .inl f60)
abbrev CP_61 (cy : Nat → ClassId) (ad : Nat → Nat) (e : va_E) : Prop := ∃ (f61 : Nat → Int32), e = .inl (cy 0, 80, .inl f61)
abbrev CP_62 (cy : Nat → ClassId) (ad : Nat → Nat) (e : va_E) : Prop := e = .inr (1, [.ref (ad 21), .ref (ad 38), .ref (ad 59), .ref (ad 66), .ref (ad 63), .ref (ad 64), .ref (ad 65)])
abbrev CP_63 (cy : Nat → ClassId) (ad : Nat → Nat) (e : va_E) : Prop := ∃ (f63 : Nat → Int32), e = .inl (cy 0, 96, .inl f63)
abbrev CP_64 (cy : Nat → ClassId) (ad : Nat → Nat) (e : va_E) : Prop := ∃ (f64 : Nat → Int32), e = .inl (cy 0, 96, .inl f64)
abbrev CP_65 (cy : Nat → ClassId) (ad : Nat → Nat) (e : va_E) : Prop := ∃ (f65 : Nat → Int32), e = .inl (cy 0, 24, .inl f65) ∧ za 0 23 f65
abbrev CP_66 (cy : Nat → ClassId) (ad : Nat → Nat) (e : va_E) : Prop := e = .inr (10, [.ref (ad 21), .ref (ad 67), .ref (ad 68), .ref (ad 69), .ref (ad 70), .ref (ad 71), .ref (ad 72), .ref (ad 73)])
abbrev CP_67 (cy : Nat → ClassId) (ad : Nat → Nat) (e : va_E) : Prop := ∃ (f67 : Nat → Int32), e = .inl (cy 0, 5, .inl f67)
abbrev CP_68 (cy : Nat → ClassId) (ad : Nat → Nat) (e : va_E) : Prop := ∃ (f68 : Nat → Int32), e = .inl (cy 0, 20, .inl f68) ∧ za 0 4 f68
abbrev CP_69 (cy : Nat → ClassId) (ad : Nat → Nat) (e : va_E) : Prop := ∃ (f69 : Nat → Int32), e = .inl (cy 0, 4, .inl f69) ∧ za 0 5 f69
abbrev CP_70 (cy : Nat → ClassId) (ad : Nat → Nat) (e : va_E) : Prop := ∃ (f70 : Nat → Int32), e = .inl (cy 0, 5, .inl f70)
abbrev CP_71 (cy : Nat → ClassId) (ad : Nat → Nat) (e : va_E) : Prop := ∃ (f71 : Nat → Int32), e = .inl (cy 0, 5, .inl f71)
abbrev CP_72 (cy : Nat → ClassId) (ad : Nat → Nat) (e : va_E) : Prop := ∃ (f72 : Nat → Int32), e = .inl (cy 0, 5, .inl f72)
abbrev CP_73 (cy : Nat → ClassId) (ad : Nat → Nat) (e : va_E) : Prop := ∃ (f73 : Nat → Int32), e = .inl (cy 0, 5, .inl f73)
abbrev CP_74 (cy : Nat → ClassId) (ad : Nat → Nat) (e : va_E) : Prop := ∃ (x74_5 : Int32) (x74_10 : Int32), e = .inr (2, [.ref (ad 21), .ref (ad 38), .ref (ad 59), .ref (ad 80), .ref (ad 75), .int x74_5, .ref (ad 76), .ref (ad 77), .ref (ad 78), .ref (ad 79), .int x74_10]) ∧ zi 0 24 x74_5
abbrev CP_75 (cy : Nat → ClassId) (ad : Nat → Nat) (e : va_E) : Prop := ∃ (f75 : Nat → Int32), e = .inl (cy 0, 24, .inl f75) ∧ za 0 23 f75
abbrev CP_76 (cy : Nat → ClassId) (ad : Nat → Nat) (e : va_E) : Prop := ∃ (f76 : Nat → Int32), e = .inl (cy 0, 24, .inl f76) ∧ za 0 23 f76
abbrev CP_77 (cy : Nat → ClassId) (ad : Nat → Nat) (e : va_E) : Prop := ∃ (f77 : Nat → Int32), e = .inl (cy 0, 24, .inl f77)
abbrev CP_78 (cy : Nat → ClassId) (ad : Nat → Nat) (e : va_E) : Prop := ∃ (f78 : Nat → Int32), e = .inl (cy 0, 3, .inl f78)
abbrev CP_79 (cy : Nat → ClassId) (ad : Nat → Nat) (e : va_E) : Prop := ∃ (f79 : Nat → Int32), e = .inl (cy 0, 24, .inl f79)
abbrev CP_80 (cy : Nat → ClassId) (ad : Nat → Nat) (e : va_E) : Prop := e = .inr (10, [.ref (ad 21), .ref (ad 81), .ref (ad 82), .ref (ad 83), .ref (ad 84), .ref (ad 85), .ref (ad 86), .ref (ad 87)])
abbrev CP_81 (cy : Nat → ClassId) (ad : Nat → Nat) (e : va_E) : Prop := ∃ (f81 : Nat → Int32), e = .inl (cy 0, 5, .inl f81)
abbrev CP_82 (cy : Nat → ClassId) (ad : Nat → Nat) (e : va_E) : Prop := ∃ (f82 : Nat → Int32), e = .inl (cy 0, 20, .inl f82) ∧ za 0 4 f82
abbrev CP_83 (cy : Nat → ClassId) (ad : Nat → Nat) (e : va_E) : Prop := ∃ (f83 : Nat → Int32), e = .inl (cy 0, 4, .inl f83) ∧ za 0 5 f83
abbrev CP_84 (cy : Nat → ClassId) (ad : Nat → Nat) (e : va_E) : Prop := ∃ (f84 : Nat → Int32), e = .inl (cy 0, 5, .inl f84)
abbrev CP_85 (cy : Nat → ClassId) (ad : Nat → Nat) (e : va_E) : Prop := ∃ (f85 : Nat → Int32), e = .inl (cy 0, 5, .inl f85)
abbrev CP_86 (cy : Nat → ClassId) (ad : Nat → Nat) (e : va_E) : Prop := ∃ (f86 : Nat → Int32), e = .inl (cy 0, 5, .inl f86)
abbrev CP_87 (cy : Nat → ClassId) (ad : Nat → Nat) (e : va_E) : Prop := ∃ (f87 : Nat → Int32), e = .inl (cy 0, 5, .inl f87)
abbrev CP_88 (cy : Nat → ClassId) (ad : Nat → Nat) (e : va_E) : Prop := ∃ (x88_5 : Int32), e = .inr (3, [.ref (ad 21), .ref (ad 38), .ref (ad 59), .ref (ad 93), .ref (ad 89), .int x88_5, .ref (ad 90), .ref (ad 91), .ref (ad 92)]) ∧ zi 0 24 x88_5
abbrev CP_89 (cy : Nat → ClassId) (ad : Nat → Nat) (e : va_E) : Prop := ∃ (f89 : Nat → Int32), e = .inl (cy 0, 24, .inl f89) ∧ za 0 23 f89
abbrev CP_90 (cy : Nat → ClassId) (ad : Nat → Nat) (e : va_E) : Prop := ∃ (f90 : Nat → Int32), e = .inl (cy 0, 5, .inl f90)
abbrev CP_91 (cy : Nat → ClassId) (ad : Nat → Nat) (e : va_E) : Prop := ∃ (f91 : Nat → Int32), e = .inl (cy 0, 128, .inl f91)
abbrev CP_92 (cy : Nat → ClassId) (ad : Nat → Nat) (e : va_E) : Prop := ∃ (f92 : Nat → Int32), e = .inl (cy 0, 5, .inl f92)
abbrev CP_93 (cy : Nat → ClassId) (ad : Nat → Nat) (e : va_E) : Prop := e = .inr (10, [.ref (ad 21), .ref (ad 94), .ref (ad 95), .ref (ad 96), .ref (ad 97), .ref (ad 98), .ref (ad 99), .ref (ad 100)])
abbrev CP_94 (cy : Nat → ClassId) (ad : Nat → Nat) (e : va_E) : Prop := ∃ (f94 : Nat → Int32), e = .inl (cy 0, 5, .inl f94)
abbrev CP_95 (cy : Nat → ClassId) (ad : Nat → Nat) (e : va_E) : Prop := ∃ (f95 : Nat → Int32), e = .inl (cy 0, 20, .inl f95) ∧ za 0 4 f95
abbrev CP_96 (cy : Nat → ClassId) (ad : Nat → Nat) (e : va_E) : Prop := ∃ (f96 : Nat → Int32), e = .inl (cy 0, 4, .inl f96) ∧ za 0 5 f96
abbrev CP_97 (cy : Nat → ClassId) (ad : Nat → Nat) (e : va_E) : Prop := ∃ (f97 : Nat → Int32), e = .inl (cy 0, 5, .inl f97)
abbrev CP_98 (cy : Nat → ClassId) (ad : Nat → Nat) (e : va_E) : Prop := ∃ (f98 : Nat → Int32), e = .inl (cy 0, 5, .inl f98)
abbrev CP_99 (cy : Nat → ClassId) (ad : Nat → Nat) (e : va_E) : Prop := ∃ (f99 : Nat → Int32), e = .inl (cy 0, 5, .inl f99)
abbrev CP_100 (cy : Nat → ClassId) (ad : Nat → Nat) (e : va_E) : Prop := ∃ (f100 : Nat → Int32), e = .inl (cy 0, 5, .inl f100)
abbrev CP_101 (cy : Nat → ClassId) (ad : Nat → Nat) (e : va_E) : Prop := ∃ (x101_7 : Int32) (x101_8 : Int32) (x101_11 : Int32) (x101_13 : Int32) (x101_14 : Int32) (x101_15 : Int32), e = .inr (8, [.ref (ad 21), .ref (ad 110), .ref (ad 102), .ref (ad 103), .ref (ad 104), .ref (ad 105), .ref (ad 106), .int x101_7, .int x101_8, .ref (ad 107), .ref (ad 108), .int x101_11, .ref (ad 109), .int x101_13, .int x101_14, .int x101_15]) ∧ zi 0 30 x101_7 ∧ zi 0 100000 x101_8
abbrev CP_102 (cy : Nat → ClassId) (ad : Nat → Nat) (e : va_E) : Prop := ∃ (f102 : Nat → Int32), e = .inl (cy 0, 30, .inl f102)
abbrev CP_103 (cy : Nat → ClassId) (ad : Nat → Nat) (e : va_E) : Prop := ∃ (f103 : Nat → Int32), e = .inl (cy 0, 30, .inl f103) ∧ za 0 4 f103
abbrev CP_104 (cy : Nat → ClassId) (ad : Nat → Nat) (e : va_E) : Prop := ∃ (f104 : Nat → Int32), e = .inl (cy 0, 30, .inl f104)
abbrev CP_105 (cy : Nat → ClassId) (ad : Nat → Nat) (e : va_E) : Prop := ∃ (f105 : Nat → Int32), e = .inl (cy 0, 30, .inl f105)
abbrev CP_106 (cy : Nat → ClassId) (ad : Nat → Nat) (e : va_E) : Prop := ∃ (f106 : Nat → Int32), e = .inl (cy 0, 30, .inl f106)
abbrev CP_107 (cy : Nat → ClassId) (ad : Nat → Nat) (e : va_E) : Prop := ∃ (f107 : Nat → Int32), e = .inl (cy 0, 12, .inl f107) ∧ za 0 11 f107
abbrev CP_108 (cy : Nat → ClassId) (ad : Nat → Nat) (e : va_E) : Prop := ∃ (f108 : Nat → Int32), e = .inl (cy 0, 180, .inl f108)
abbrev CP_109 (cy : Nat → ClassId) (ad : Nat → Nat) (e : va_E) : Prop := ∃ (f109 : Nat → Int32), e = .inl (cy 0, 30, .inl f109)
abbrev CP_110 (cy : Nat → ClassId) (ad : Nat → Nat) (e : va_E) : Prop := e = .inr (10, [.ref (ad 21), .ref (ad 111), .ref (ad 112), .ref (ad 113), .ref (ad 114), .ref (ad 115), .ref (ad 116), .ref (ad 117)])
abbrev CP_111 (cy : Nat → ClassId) (ad : Nat → Nat) (e : va_E) : Prop := ∃ (f111 : Nat → Int32), e = .inl (cy 0, 5, .inl f111)
abbrev CP_112 (cy : Nat → ClassId) (ad : Nat → Nat) (e : va_E) : Prop := ∃ (f112 : Nat → Int32), e = .inl (cy 0, 20, .inl f112) ∧ za 0 4 f112
abbrev CP_113 (cy : Nat → ClassId) (ad : Nat → Nat) (e : va_E) : Prop := ∃ (f113 : Nat → Int32), e = .inl (cy 0, 4, .inl f113) ∧ za 0 5 f113
abbrev CP_114 (cy : Nat → ClassId) (ad : Nat → Nat) (e : va_E) : Prop := ∃ (f114 : Nat → Int32), e = .inl (cy 0, 5, .inl f114)
abbrev CP_115 (cy : Nat → ClassId) (ad : Nat → Nat) (e : va_E) : Prop := ∃ (f115 : Nat → Int32), e = .inl (cy 0, 5, .inl f115)
abbrev CP_116 (cy : Nat → ClassId) (ad : Nat → Nat) (e : va_E) : Prop := ∃ (f116 : Nat → Int32), e = .inl (cy 0, 5, .inl f116)
abbrev CP_117 (cy : Nat → ClassId) (ad : Nat → Nat) (e : va_E) : Prop := ∃ (f117 : Nat → Int32), e = .inl (cy 0, 5, .inl f117)
abbrev CP_118 (cy : Nat → ClassId) (ad : Nat → Nat) (e : va_E) : Prop := ∃ (f118 : Nat → Int32), e = .inl (cy 0, 24, .inl f118)
abbrev CP_119 (cy : Nat → ClassId) (ad : Nat → Nat) (e : va_E) : Prop := ∃ (x119_2 : Int32) (x119_3 : Int32) (x119_4 : Int32) (x119_5 : Int32) (x119_6 : Int32) (x119_7 : Int32) (x119_8 : Int32) (x119_9 : Int32) (w119_10 : Int64) (x119_36 : Int32) (x119_37 : Int32) (x119_38 : Int32) (x119_39 : Int32) (x119_40 : Int32) (x119_56 : Int32) (x119_57 : Int32) (x119_59 : Int32) (x119_60 : Int32) (x119_62 : Int32) (x119_70 : Int32) (x119_71 : Int32), e = .inr (12, [.ref (ad 120), .ref (ad 121), .int x119_2, .int x119_3, .int x119_4, .int x119_5, .int x119_6, .int x119_7, .int x119_8, .int x119_9, .long w119_10, .ref (ad 122), .ref (ad 123), .ref (ad 124), .ref (ad 125), .ref (ad 126), .ref (ad 127), .ref (ad 128), .ref (ad 129), .ref (ad 130), .ref (ad 131), .ref (ad 132), .ref (ad 133), .ref (ad 134), .ref (ad 135), .ref (ad 136), .ref (ad 137), .ref (ad 138), .ref (ad 139), .ref (ad 140), .ref (ad 141), .ref (ad 142), .ref (ad 143), .ref (ad 144), .ref (ad 145), .ref (ad 146), .int x119_36, .int x119_37, .int x119_38, .int x119_39, .int x119_40, .ref (ad 147), .ref (ad 148), .ref (ad 149), .ref (ad 150), .ref (ad 151), .ref (ad 152), .ref (ad 153), .ref (ad 154), .ref (ad 155), .ref (ad 156), .ref (ad 157), .ref (ad 158), .ref (ad 159), .ref (ad 160), .ref (ad 161), .int x119_56, .int x119_57, .ref (ad 162), .int x119_59, .int x119_60, .ref (ad 163), .int x119_62, .ref (ad 164), .ref (ad 165), .ref (ad 166), .ref (ad 167), .ref (ad 168), .ref (ad 169), .ref (ad 170), .int x119_70, .int x119_71, .ref (ad 171), .ref (ad 172)]) ∧ zi 0 1600 x119_2 ∧ zi 0 1600 x119_3 ∧ zi 0 5 x119_4 ∧ zi 0 1600 x119_6 ∧ zi 0 1600 x119_7 ∧ zi 0 5 x119_8 ∧ zi 0 1 x119_36 ∧ zi 0 1 x119_37 ∧ zi 0 980 x119_38 ∧ zi 0 7 x119_39 ∧ zi 0 90 x119_40 ∧ zi 0 30 x119_56 ∧ zi 0 40 x119_59 ∧ zi 0 40 x119_60 ∧ zi 0 24 x119_62 ∧ zi 0 30 x119_70 ∧ zi 0 100000 x119_71 ∧ ((x119_59 : Int32).toInt + (x119_60 : Int32).toInt ≤ 40)
abbrev CP_120 (cy : Nat → ClassId) (ad : Nat → Nat) (e : va_E) : Prop := ∃ (f120 : Nat → Int32), e = .inl (cy 3, 1620, .inl f120)
abbrev CP_121 (cy : Nat → ClassId) (ad : Nat → Nat) (e : va_E) : Prop := ∃ (f121 : Nat → Int32), e = .inl (cy 3, 1600, .inl f121)
abbrev CP_122 (cy : Nat → ClassId) (ad : Nat → Nat) (e : va_E) : Prop := ∃ (f122 : Nat → Int32), e = .inl (cy 0, 2, .inl f122) ∧ za 0 5 f122
abbrev CP_123 (cy : Nat → ClassId) (ad : Nat → Nat) (e : va_E) : Prop := ∃ (f123 : Nat → Int32), e = .inl (cy 0, 2, .inl f123) ∧ za 0 4 f123
abbrev CP_124 (cy : Nat → ClassId) (ad : Nat → Nat) (e : va_E) : Prop := ∃ (f124 : Nat → Int32), e = .inl (cy 0, 2, .inl f124) ∧ za 0 12 f124
abbrev CP_125 (cy : Nat → ClassId) (ad : Nat → Nat) (e : va_E) : Prop := ∃ (f125 : Nat → Int32), e = .inl (cy 0, 2, .inl f125) ∧ za 0 30 f125
abbrev CP_126 (cy : Nat → ClassId) (ad : Nat → Nat) (e : va_E) : Prop := ∃ (f126 : Nat → Int32), e = .inl (cy 0, 10, .inl f126)
abbrev CP_127 (cy : Nat → ClassId) (ad : Nat → Nat) (e : va_E) : Prop := ∃ (f127 : Nat → Int32), e = .inl (cy 0, 10, .inl f127)
abbrev CP_128 (cy : Nat → ClassId) (ad : Nat → Nat) (e : va_E) : Prop := ∃ (f128 : Nat → Int32), e = .inl (cy 0, 10, .inl f128)
abbrev CP_129 (cy : Nat → ClassId) (ad : Nat → Nat) (e : va_E) : Prop := ∃ (f129 : Nat → Int32), e = .inl (cy 0, 10, .inl f129)
abbrev CP_130 (cy : Nat → ClassId) (ad : Nat → Nat) (e : va_E) : Prop := ∃ (f130 : Nat → Int32), e = .inl (cy 0, 8, .inl f130)
abbrev CP_131 (cy : Nat → ClassId) (ad : Nat → Nat) (e : va_E) : Prop := ∃ (f131 : Nat → Int32), e = .inl (cy 0, 8, .inl f131)
abbrev CP_132 (cy : Nat → ClassId) (ad : Nat → Nat) (e : va_E) : Prop := ∃ (f132 : Nat → Int32), e = .inl (cy 0, 8, .inl f132) ∧ za 0 5 f132
abbrev CP_133 (cy : Nat → ClassId) (ad : Nat → Nat) (e : va_E) : Prop := ∃ (f133 : Nat → Int32), e = .inl (cy 0, 40, .inl f133) ∧ za 0 4 f133
abbrev CP_134 (cy : Nat → ClassId) (ad : Nat → Nat) (e : va_E) : Prop := ∃ (f134 : Nat → Int32), e = .inl (cy 0, 24, .inl f134)
abbrev CP_135 (cy : Nat → ClassId) (ad : Nat → Nat) (e : va_E) : Prop := ∃ (f135 : Nat → Int32), e = .inl (cy 0, 24, .inl f135)
abbrev CP_136 (cy : Nat → ClassId) (ad : Nat → Nat) (e : va_E) : Prop := ∃ (f136 : Nat → Int32), e = .inl (cy 0, 2, .inl f136) ∧ za 0 980 f136
abbrev CP_137 (cy : Nat → ClassId) (ad : Nat → Nat) (e : va_E) : Prop := ∃ (f137 : Nat → Int32), e = .inl (cy 2, 24, .inl f137) ∧ za 0 1 f137
abbrev CP_138 (cy : Nat → ClassId) (ad : Nat → Nat) (e : va_E) : Prop := ∃ (f138 : Nat → Int32), e = .inl (cy 2, 2, .inl f138) ∧ za 0 1 f138
abbrev CP_139 (cy : Nat → ClassId) (ad : Nat → Nat) (e : va_E) : Prop := ∃ (f139 : Nat → Int64), e = .inl (cy 1, 10, .inr (.inl f139))
abbrev CP_140 (cy : Nat → ClassId) (ad : Nat → Nat) (e : va_E) : Prop := ∃ (f140 : Nat → Int64), e = .inl (cy 1, 8, .inr (.inl f140))
abbrev CP_141 (cy : Nat → ClassId) (ad : Nat → Nat) (e : va_E) : Prop := ∃ (f141 : Nat → Int64), e = .inl (cy 1, 24, .inr (.inl f141))
abbrev CP_142 (cy : Nat → ClassId) (ad : Nat → Nat) (e : va_E) : Prop := ∃ (f142 : Nat → Int32), e = .inl (cy 0, 980, .inl f142)
abbrev CP_143 (cy : Nat → ClassId) (ad : Nat → Nat) (e : va_E) : Prop := ∃ (f143 : Nat → Int32), e = .inl (cy 0, 980, .inl f143)
abbrev CP_144 (cy : Nat → ClassId) (ad : Nat → Nat) (e : va_E) : Prop := ∃ (f144 : Nat → Int32), e = .inl (cy 0, 90, .inl f144)
abbrev CP_145 (cy : Nat → ClassId) (ad : Nat → Nat) (e : va_E) : Prop := ∃ (f145 : Nat → Int32), e = .inl (cy 0, 90, .inl f145)
abbrev CP_146 (cy : Nat → ClassId) (ad : Nat → Nat) (e : va_E) : Prop := ∃ (f146 : Nat → Int32), e = .inl (cy 0, 60, .inl f146)
abbrev CP_147 (cy : Nat → ClassId) (ad : Nat → Nat) (e : va_E) : Prop := ∃ (f147 : Nat → Int32), e = .inl (cy 0, 80, .inl f147) ∧ zs f147
abbrev CP_148 (cy : Nat → ClassId) (ad : Nat → Nat) (e : va_E) : Prop := ∃ (f148 : Nat → Int32), e = .inl (cy 0, 30, .inl f148)
abbrev CP_149 (cy : Nat → ClassId) (ad : Nat → Nat) (e : va_E) : Prop := ∃ (f149 : Nat → Int32), e = .inl (cy 0, 30, .inl f149)
abbrev CP_150 (cy : Nat → ClassId) (ad : Nat → Nat) (e : va_E) : Prop := ∃ (f150 : Nat → Int32), e = .inl (cy 0, 5, .inl f150)
abbrev CP_151 (cy : Nat → ClassId) (ad : Nat → Nat) (e : va_E) : Prop := ∃ (f151 : Nat → Int32), e = .inl (cy 0, 4, .inl f151) ∧ za 0 5 f151
abbrev CP_152 (cy : Nat → ClassId) (ad : Nat → Nat) (e : va_E) : Prop := ∃ (f152 : Nat → Int32), e = .inl (cy 0, 20, .inl f152) ∧ za 0 4 f152
abbrev CP_153 (cy : Nat → ClassId) (ad : Nat → Nat) (e : va_E) : Prop := ∃ (f153 : Nat → Int32), e = .inl (cy 0, 30, .inl f153) ∧ za 0 29 f153
abbrev CP_154 (cy : Nat → ClassId) (ad : Nat → Nat) (e : va_E) : Prop := ∃ (f154 : Nat → Int32), e = .inl (cy 0, 120, .inl f154)
abbrev CP_155 (cy : Nat → ClassId) (ad : Nat → Nat) (e : va_E) : Prop := ∃ (f155 : Nat → Int32), e = .inl (cy 0, 120, .inl f155)
abbrev CP_156 (cy : Nat → ClassId) (ad : Nat → Nat) (e : va_E) : Prop := ∃ (f156 : Nat → Int32), e = .inl (cy 0, 5, .inl f156)
abbrev CP_157 (cy : Nat → ClassId) (ad : Nat → Nat) (e : va_E) : Prop := ∃ (f157 : Nat → Int32), e = .inl (cy 0, 5, .inl f157)
abbrev CP_158 (cy : Nat → ClassId) (ad : Nat → Nat) (e : va_E) : Prop := ∃ (f158 : Nat → Int32), e = .inl (cy 0, 5, .inl f158)
abbrev CP_159 (cy : Nat → ClassId) (ad : Nat → Nat) (e : va_E) : Prop := ∃ (f159 : Nat → Int32), e = .inl (cy 0, 5, .inl f159)
abbrev CP_160 (cy : Nat → ClassId) (ad : Nat → Nat) (e : va_E) : Prop := ∃ (f160 : Nat → Int32), e = .inl (cy 2, 30, .inl f160) ∧ za 0 1 f160
abbrev CP_161 (cy : Nat → ClassId) (ad : Nat → Nat) (e : va_E) : Prop := ∃ (f161 : Nat → Int32), e = .inl (cy 2, 5, .inl f161) ∧ za 0 1 f161
abbrev CP_162 (cy : Nat → ClassId) (ad : Nat → Nat) (e : va_E) : Prop := ∃ (f162 : Nat → Int32), e = .inl (cy 0, 3280, .inl f162) ∧ zs f162
abbrev CP_163 (cy : Nat → ClassId) (ad : Nat → Nat) (e : va_E) : Prop := ∃ (f163 : Nat → Int32), e = .inl (cy 0, 24, .inl f163)
abbrev CP_164 (cy : Nat → ClassId) (ad : Nat → Nat) (e : va_E) : Prop := ∃ (f164 : Nat → Int32), e = .inl (cy 0, 24, .inl f164)
abbrev CP_165 (cy : Nat → ClassId) (ad : Nat → Nat) (e : va_E) : Prop := ∃ (f165 : Nat → Int32), e = .inl (cy 0, 5, .inl f165) ∧ za 0 3 f165
abbrev CP_166 (cy : Nat → ClassId) (ad : Nat → Nat) (e : va_E) : Prop := ∃ (f166 : Nat → Int32), e = .inl (cy 0, 30, .inl f166)
abbrev CP_167 (cy : Nat → ClassId) (ad : Nat → Nat) (e : va_E) : Prop := ∃ (f167 : Nat → Int32), e = .inl (cy 0, 30, .inl f167) ∧ za 0 4 f167
abbrev CP_168 (cy : Nat → ClassId) (ad : Nat → Nat) (e : va_E) : Prop := ∃ (f168 : Nat → Int32), e = .inl (cy 0, 30, .inl f168)
abbrev CP_169 (cy : Nat → ClassId) (ad : Nat → Nat) (e : va_E) : Prop := ∃ (f169 : Nat → Int32), e = .inl (cy 0, 30, .inl f169)
abbrev CP_170 (cy : Nat → ClassId) (ad : Nat → Nat) (e : va_E) : Prop := ∃ (f170 : Nat → Int32), e = .inl (cy 0, 30, .inl f170)
abbrev CP_171 (cy : Nat → ClassId) (ad : Nat → Nat) (e : va_E) : Prop := ∃ (f171 : Nat → Int32), e = .inl (cy 0, 240, .inl f171) ∧ zs f171
abbrev CP_172 (cy : Nat → ClassId) (ad : Nat → Nat) (e : va_E) : Prop := ∃ (f172 : Nat → Int32), e = .inl (cy 2, 3, .inl f172) ∧ za 0 1 f172
def CPs (cy : Nat → ClassId) (ad : Nat → Nat) : List (va_E → Prop) := [CP_0 cy ad, CP_1 cy ad, CP_2 cy ad, CP_3 cy ad, CP_4 cy ad, CP_5 cy ad, CP_6 cy ad, CP_7 cy ad, CP_8 cy ad, CP_9 cy ad, CP_10 cy ad, CP_11 cy ad, CP_12 cy ad, CP_13 cy ad, CP_14 cy ad, CP_15 cy ad, CP_16 cy ad, CP_17 cy ad, CP_18 cy ad, CP_19 cy ad, CP_20 cy ad, CP_21 cy ad, CP_22 cy ad, CP_23 cy ad, CP_24 cy ad, CP_25 cy ad, CP_26 cy ad, CP_27 cy ad, CP_28 cy ad, CP_29 cy ad, CP_30 cy ad, CP_31 cy ad, CP_32 cy ad, CP_33 cy ad, CP_34 cy ad, CP_35 cy ad, CP_36 cy ad, CP_37 cy ad, CP_38 cy ad, CP_39 cy ad, CP_40 cy ad, CP_41 cy ad, CP_42 cy ad, CP_43 cy ad, CP_44 cy ad, CP_45 cy ad, CP_46 cy ad, CP_47 cy ad, CP_48 cy ad, CP_49 cy ad, CP_50 cy ad, CP_51 cy ad, CP_52 cy ad, CP_53 cy ad, CP_54 cy ad, CP_55 cy ad, CP_56 cy ad, CP_57 cy ad, CP_58 cy ad, CP_59 cy ad, CP_60 cy ad, CP_61 cy ad, CP_62 cy ad, CP_63 cy ad, CP_64 cy ad, CP_65 cy ad, CP_66 cy ad, CP_67 cy ad, CP_68 cy ad, CP_69 cy ad, CP_70 cy ad, CP_71 cy ad, CP_72 cy ad, CP_73 cy ad, CP_74 cy ad, CP_75 cy ad, CP_76 cy ad, CP_77 cy ad, CP_78 cy ad, CP_79 cy ad, CP_80 cy ad, CP_81 cy ad, CP_82 cy ad, CP_83 cy ad, CP_84 cy ad, CP_85 cy ad, CP_86 cy ad, CP_87 cy ad, CP_88 cy ad, CP_89 cy ad, CP_90 cy ad, CP_91 cy ad, CP_92 cy ad, CP_93 cy ad, CP_94 cy ad, CP_95 cy ad, CP_96 cy ad, CP_97 cy ad, CP_98 cy ad, CP_99 cy ad, CP_100 cy ad, CP_101 cy ad, CP_102 cy ad, CP_103 cy ad, CP_104 cy ad, CP_105 cy ad, CP_106 cy ad, CP_107 cy ad, CP_108 cy ad, CP_109 cy ad, CP_110 cy ad, CP_111 cy ad, CP_112 cy ad, CP_113 cy ad, CP_114 cy ad, CP_115 cy ad, CP_116 cy ad, CP_117 cy ad, CP_118 cy ad, CP_119 cy ad, CP_120 cy ad, CP_121 cy ad, CP_122 cy ad, CP_123 cy ad, CP_124 cy ad, CP_125 cy ad, CP_126 cy ad, CP_127 cy ad, CP_128 cy ad, CP_129 cy ad, CP_130 cy ad, CP_131 cy ad, CP_132 cy ad, CP_133 cy ad, CP_134 cy ad, CP_135 cy ad, CP_136 cy ad, CP_137 cy ad, CP_138 cy ad, CP_139 cy ad, CP_140 cy ad, CP_141 cy ad, CP_142 cy ad, CP_143 cy ad, CP_144 cy ad, CP_145 cy ad, CP_146 cy ad, CP_147 cy ad, CP_148 cy ad, CP_149 cy ad, CP_150 cy ad, CP_151 cy ad, CP_152 cy ad, CP_153 cy ad, CP_154 cy ad, CP_155 cy ad, CP_156 cy ad, CP_157 cy ad, CP_158 cy ad, CP_159 cy ad, CP_160 cy ad, CP_161 cy ad, CP_162 cy ad, CP_163 cy ad, CP_164 cy ad, CP_165 cy ad, CP_166 cy ad, CP_167 cy ad, CP_168 cy ad, CP_169 cy ad, CP_170 cy ad, CP_171 cy ad, CP_172 cy ad]
def fo (e : va_E) (k : Nat) : Option Value := match e with
  | .inr (_, fs) => fs[k]?
  | .inl _ => none
def co (e : va_E) : Nat → Int32 := match e with
  | .inl (_, _, .inl f) => f
  | _ => fun _ => 0
def fi (e : va_E) (k : Nat) : Int32 := match fo e k with
  | some (.int v) => v
  | _ => 0
def INV (cy : Nat → ClassId) (ad : Nat → Nat) (g : Nat → va_E) : Prop := (∀ i, i < 173 → (CPs cy ad).getD i (fun _ => True) (g i)) ∧ zk (co (g 56)) (co (g 57)) ∧ zf (co (g 138)) (co (g 142)) (co (g 136)) (fi (g 119) 36)
abbrev TK (g g' : Nat → va_E) : Prop := fo (g' 101) 8 = fo (g 101) 8 ∧ fo (g' 119) 71 = fo (g 119) 71
abbrev TE (g : Nat → va_E) : Prop := fo (g 101) 8 = fo (g 119) 71
theorem TK.te {g g' : Nat → va_E} (h : TK g g') (k : TE g) : TE g' := h.1.trans (k.trans h.2.symm)
theorem cup_two (lk : List (Nat × va_E)) (g : Nat → va_E) (i : Nat) : (∃ q ∈ lk, q.1 = i ∧ cup lk g i = q.2) ∨ cup lk g i = g i := by
  induction lk with
  | nil => exact Or.inr rfl
  | cons q r ih =>
    rw [cup_cons]
    by_cases e : i = q.1
    · rw [if_pos e]
      exact Or.inl ⟨q, List.mem_cons_self, e.symm, rfl⟩
    · rw [if_neg e]
      rcases ih with ⟨x, h1, h2, h3⟩ | h
      · exact Or.inl ⟨x, List.mem_cons_of_mem _ h1, h2, h3⟩
      · exact Or.inr h
theorem INV_up {cy : Nat → ClassId} {ad : Nat → Nat} {g : Nat → va_E} {lk : List (Nat × va_E)} (hI : INV cy ad g) (hc : ∀ q ∈ lk, (CPs cy ad).getD q.1 (fun _ => True) q.2) (hz : zk (co (cup lk g 56)) (co (cup lk g 57))) (hf : zf (co (cup lk g 138)) (co (cup lk g 142)) (co (cup lk g 136)) (fi (cup lk g 119) 36)) : INV cy ad (cup lk g) := by
  refine ⟨fun i hi => ?_, hz, hf⟩
  rcases cup_two lk g i with ⟨q, h1, h2, h3⟩ | h
  · rw [h3, ← h2]
    exact hc q h1
  · rw [h]
    exact hI.1 i hi
theorem mrg_fun {k : Nat} {ps : List Nat} {l' lk : List (Nat × va_E)} {g : Nat → va_E} (e : l'.map (fun q => (ckey 173 k ps q.1, q.2)) = lk) : cup (cmrg 173 k ps l' []) g = cup lk g := funext fun j => by
  rw [cmrg_cup, e]
  rfl
theorem INV_mrg {cy : Nat → ClassId} {ad : Nat → Nat} {g : Nat → va_E} {k : Nat} {ps : List Nat} {l' lk : List (Nat × va_E)} (hI : INV cy ad g) (e : l'.map (fun q => (ckey 173 k ps q.1, q.2)) = lk) (hc : ∀ q ∈ lk, (CPs cy ad).getD q.1 (fun _ => True) q.2) (hz : zk (co (cup lk g 56)) (co (cup lk g 57))) (hf : zf (co (cup lk g 138)) (co (cup lk g 142)) (co (cup lk g 136)) (fi (cup lk g 119) 36)) : INV cy ad (cup (cmrg 173 k ps l' []) g) := by
  rw [mrg_fun e]
  exact INV_up hI hc hz hf
theorem fo_mrg {k : Nat} {ps : List Nat} {l' lk : List (Nat × va_E)} {g : Nat → va_E} (e : l'.map (fun q => (ckey 173 k ps q.1, q.2)) = lk) {S K : Nat} {v : Option Value} (h : fo (cup lk g S) K = v) : fo (cup (cmrg 173 k ps l' []) g S) K = v := by
  rw [mrg_fun e]
  exact h
def LTm (t b r t' : Int32) : Prop := (0 ≤ b.toInt ∧ b.toInt ≤ 1000 ∧ t.toInt + b.toInt ≤ 100000 ∧ r.toInt = t.toInt + b.toInt ∧ t'.toInt = t.toInt + b.toInt) ∨ (¬ (0 ≤ b.toInt ∧ b.toInt ≤ 1000 ∧ t.toInt + b.toInt ≤ 100000) ∧ r.toInt = -1 ∧ t'.toInt = t.toInt)
theorem LTm_one {t b r t' r2 t2 : Int32} (h : LTm t b r t') (k : LTm t b r2 t2) : r = r2 ∧ t' = t2 := by
  unfold LTm at h k
  exact ⟨Int32.toInt_inj.mp (by omega), Int32.toInt_inj.mp (by omega)⟩

