def SHl : List (Nat × Nat) := [(11, 0), (8, 0), (13, 10), (13, 10), (13, 10), (13, 10), (13, 10), (13, 10), (16, 30), (13, 10), (13, 10), (13, 10), (8, 0), (13, 10), (13, 10), (13, 10), (13, 10), (13, 10), (13, 10), (16, 30), (13, 10), (13, 10), (13, 10), (1, 0), (5, 0), (14, 10), (14, 30), (13, 30), (13, 30), (13, 10), (13, 30), (13, 11), (16, 30), (13, 21), (13, 6), (13, 6), (13, 256), (13, 256), (14, 2560), (14, 256), (14, 256), (15, 256), (9, 0), (13, 10), (13, 10), (13, 51), (17, 4), (13, 40), (13, 40), (13, 40), (13, 40), (13, 4), (13, 4), (14, 61), (12, 0), (13, 10), (13, 10), (13, 10), (13, 10), (13, 10), (13, 30), (13, 30), (13, 30), (13, 30), (13, 30), (13, 30), (13, 30), (13, 30), (13, 30), (13, 30), (13, 30), (13, 30), (13, 10), (13, 10), (13, 10), (13, 7), (13, 450), (13, 10), (13, 10), (13, 10), (14, 2560), (13, 256), (13, 256), (15, 256), (13, 30), (13, 30), (15, 10), (15, 256), (14, 64), (14, 64), (13, 50), (13, 4), (13, 4), (13, 160)]
def RSl : List (List (Option (Option Nat))) := [[some (some 1), some (some 12), some (some 23), none, none, none, some (some 42), none, some (some 43), some (some 44), none, some (some 45), some (some 46), some (some 51), some (some 52), some (some 53)], [none, some (some 2), some (some 3), some (some 4), some (some 5), some (some 6), some (some 7), none, some (some 8), none, some (some 9), some (some 10), some (some 11), none, none, none, none], [], [], [], [], [], [], [], [], [], [], [none, some (some 13), some (some 14), some (some 15), some (some 16), some (some 17), some (some 18), none, some (some 19), none, some (some 20), some (some 21), some (some 22), none, none, none, none], [], [], [], [], [], [], [], [], [], [], [some (some 1), some (some 24), none, some (some 36), some (some 37), some (some 38), some (some 39), some (some 40), none, some (some 41)], [some (some 25), some (some 26), some (some 27), some (some 28), none, none, none, some (some 29), some (some 30), some (some 31), some (some 32), none, some (some 33), some (some 34), some (some 35)], [], [], [], [], [], [], [], [], [], [], [], [], [], [], [], [], [], [none, none, none], [], [], [], [], [], [], [], [], [], [], [], [some (some 55), some (some 56), some (some 57), some (some 58), some (some 59), some (some 60), some (some 61), some (some 62), some (some 63), some (some 64), some (some 65), some (some 66), some (some 67), some (some 68), some (some 69), some (some 70), some (some 71), some (some 72), some (some 73), some (some 74), some (some 75), some (some 76), none, none, none, none, none, none, some (some 77), some (some 78), some (some 79), none, none, some (some 80), some (some 81), some (some 82), some (some 83), none, none, none, some (some 84), some (some 85), some (some 86), some (some 87), some (some 88), some (some 89), some (some 90), none, some (some 91), some (some 92), some (some 93)], [], [], [], [], [], [], [], [], [], [], [], [], [], [], [], [], [], [], [], [], [], [], [], [], [], [], [], [], [], [], [], [], [], [], [], [], [], [], []]
def E1 : EV := (94, fun a => SHl.getD a (0, 0), fun a j => (RSl.getD a []).getD j none)
def E0 : EV := (0, fun _ => (0, 0), fun _ _ => none)
theorem sh_0 {h : HP} : Sh E1 h 0 11 0 := Sh.st (by decide) (by decide) rfl
theorem sh_1 {h : HP} : Sh E1 h 1 8 0 := Sh.st (by decide) (by decide) rfl
theorem sh_2 {h : HP} : Sh E1 h 2 13 10 := Sh.st (by decide) (by decide) rfl
theorem sh_3 {h : HP} : Sh E1 h 3 13 10 := Sh.st (by decide) (by decide) rfl
theorem sh_4 {h : HP} : Sh E1 h 4 13 10 := Sh.st (by decide) (by decide) rfl
theorem sh_5 {h : HP} : Sh E1 h 5 13 10 := Sh.st (by decide) (by decide) rfl
theorem sh_6 {h : HP} : Sh E1 h 6 13 10 := Sh.st (by decide) (by decide) rfl
theorem sh_7 {h : HP} : Sh E1 h 7 13 10 := Sh.st (by decide) (by decide) rfl
theorem sh_8 {h : HP} : Sh E1 h 8 16 30 := Sh.st (by decide) (by decide) rfl
theorem sh_9 {h : HP} : Sh E1 h 9 13 10 := Sh.st (by decide) (by decide) rfl
theorem sh_10 {h : HP} : Sh E1 h 10 13 10 := Sh.st (by decide) (by decide) rfl
theorem sh_11 {h : HP} : Sh E1 h 11 13 10 := Sh.st (by decide) (by decide) rfl
theorem sh_12 {h : HP} : Sh E1 h 12 8 0 := Sh.st (by decide) (by decide) rfl
theorem sh_13 {h : HP} : Sh E1 h 13 13 10 := Sh.st (by decide) (by decide) rfl
theorem sh_14 {h : HP} : Sh E1 h 14 13 10 := Sh.st (by decide) (by decide) rfl
theorem sh_15 {h : HP} : Sh E1 h 15 13 10 := Sh.st (by decide) (by decide) rfl
theorem sh_16 {h : HP} : Sh E1 h 16 13 10 := Sh.st (by decide) (by decide) rfl
theorem sh_17 {h : HP} : Sh E1 h 17 13 10 := Sh.st (by decide) (by decide) rfl
theorem sh_18 {h : HP} : Sh E1 h 18 13 10 := Sh.st (by decide) (by decide) rfl
theorem sh_19 {h : HP} : Sh E1 h 19 16 30 := Sh.st (by decide) (by decide) rfl
theorem sh_20 {h : HP} : Sh E1 h 20 13 10 := Sh.st (by decide) (by decide) rfl
theorem sh_21 {h : HP} : Sh E1 h 21 13 10 := Sh.st (by decide) (by decide) rfl
theorem sh_22 {h : HP} : Sh E1 h 22 13 10 := Sh.st (by decide) (by decide) rfl
theorem sh_23 {h : HP} : Sh E1 h 23 1 0 := Sh.st (by decide) (by decide) rfl
theorem sh_24 {h : HP} : Sh E1 h 24 5 0 := Sh.st (by decide) (by decide) rfl
theorem sh_25 {h : HP} : Sh E1 h 25 14 10 := Sh.st (by decide) (by decide) rfl
theorem sh_26 {h : HP} : Sh E1 h 26 14 30 := Sh.st (by decide) (by decide) rfl
theorem sh_27 {h : HP} : Sh E1 h 27 13 30 := Sh.st (by decide) (by decide) rfl
theorem sh_28 {h : HP} : Sh E1 h 28 13 30 := Sh.st (by decide) (by decide) rfl
theorem sh_29 {h : HP} : Sh E1 h 29 13 10 := Sh.st (by decide) (by decide) rfl
theorem sh_30 {h : HP} : Sh E1 h 30 13 30 := Sh.st (by decide) (by decide) rfl
theorem sh_31 {h : HP} : Sh E1 h 31 13 11 := Sh.st (by decide) (by decide) rfl
theorem sh_32 {h : HP} : Sh E1 h 32 16 30 := Sh.st (by decide) (by decide) rfl
theorem sh_33 {h : HP} : Sh E1 h 33 13 21 := Sh.st (by decide) (by decide) rfl
theorem sh_34 {h : HP} : Sh E1 h 34 13 6 := Sh.st (by decide) (by decide) rfl
theorem sh_35 {h : HP} : Sh E1 h 35 13 6 := Sh.st (by decide) (by decide) rfl
theorem sh_36 {h : HP} : Sh E1 h 36 13 256 := Sh.st (by decide) (by decide) rfl
theorem sh_37 {h : HP} : Sh E1 h 37 13 256 := Sh.st (by decide) (by decide) rfl
theorem sh_38 {h : HP} : Sh E1 h 38 14 2560 := Sh.st (by decide) (by decide) rfl
theorem sh_39 {h : HP} : Sh E1 h 39 14 256 := Sh.st (by decide) (by decide) rfl
theorem sh_40 {h : HP} : Sh E1 h 40 14 256 := Sh.st (by decide) (by decide) rfl
theorem sh_41 {h : HP} : Sh E1 h 41 15 256 := Sh.st (by decide) (by decide) rfl
theorem sh_42 {h : HP} : Sh E1 h 42 9 0 := Sh.st (by decide) (by decide) rfl
theorem sh_43 {h : HP} : Sh E1 h 43 13 10 := Sh.st (by decide) (by decide) rfl
theorem sh_44 {h : HP} : Sh E1 h 44 13 10 := Sh.st (by decide) (by decide) rfl
theorem sh_45 {h : HP} : Sh E1 h 45 13 51 := Sh.st (by decide) (by decide) rfl
theorem sh_46 {h : HP} : Sh E1 h 46 17 4 := Sh.st (by decide) (by decide) rfl
theorem sh_47 {h : HP} : Sh E1 h 47 13 40 := Sh.st (by decide) (by decide) rfl
theorem sh_48 {h : HP} : Sh E1 h 48 13 40 := Sh.st (by decide) (by decide) rfl
theorem sh_49 {h : HP} : Sh E1 h 49 13 40 := Sh.st (by decide) (by decide) rfl
theorem sh_50 {h : HP} : Sh E1 h 50 13 40 := Sh.st (by decide) (by decide) rfl
theorem sh_51 {h : HP} : Sh E1 h 51 13 4 := Sh.st (by decide) (by decide) rfl
theorem sh_52 {h : HP} : Sh E1 h 52 13 4 := Sh.st (by decide) (by decide) rfl
theorem sh_53 {h : HP} : Sh E1 h 53 14 61 := Sh.st (by decide) (by decide) rfl
theorem sh_54 {h : HP} : Sh E1 h 54 12 0 := Sh.st (by decide) (by decide) rfl
theorem sh_55 {h : HP} : Sh E1 h 55 13 10 := Sh.st (by decide) (by decide) rfl
theorem sh_56 {h : HP} : Sh E1 h 56 13 10 := Sh.st (by decide) (by decide) rfl
theorem sh_57 {h : HP} : Sh E1 h 57 13 10 := Sh.st (by decide) (by decide) rfl
theorem sh_58 {h : HP} : Sh E1 h 58 13 10 := Sh.st (by decide) (by decide) rfl
theorem sh_59 {h : HP} : Sh E1 h 59 13 10 := Sh.st (by decide) (by decide) rfl
theorem sh_60 {h : HP} : Sh E1 h 60 13 30 := Sh.st (by decide) (by decide) rfl
theorem sh_61 {h : HP} : Sh E1 h 61 13 30 := Sh.st (by decide) (by decide) rfl
theorem sh_62 {h : HP} : Sh E1 h 62 13 30 := Sh.st (by decide) (by decide) rfl
theorem sh_63 {h : HP} : Sh E1 h 63 13 30 := Sh.st (by decide) (by decide) rfl
theorem sh_64 {h : HP} : Sh E1 h 64 13 30 := Sh.st (by decide) (by decide) rfl
theorem sh_65 {h : HP} : Sh E1 h 65 13 30 := Sh.st (by decide) (by decide) rfl
theorem sh_66 {h : HP} : Sh E1 h 66 13 30 := Sh.st (by decide) (by decide) rfl
theorem sh_67 {h : HP} : Sh E1 h 67 13 30 := Sh.st (by decide) (by decide) rfl
theorem sh_68 {h : HP} : Sh E1 h 68 13 30 := Sh.st (by decide) (by decide) rfl
theorem sh_69 {h : HP} : Sh E1 h 69 13 30 := Sh.st (by decide) (by decide) rfl
theorem sh_70 {h : HP} : Sh E1 h 70 13 30 := Sh.st (by decide) (by decide) rfl
theorem sh_71 {h : HP} : Sh E1 h 71 13 30 := Sh.st (by decide) (by decide) rfl
theorem sh_72 {h : HP} : Sh E1 h 72 13 10 := Sh.st (by decide) (by decide) rfl
theorem sh_73 {h : HP} : Sh E1 h 73 13 10 := Sh.st (by decide) (by decide) rfl
theorem sh_74 {h : HP} : Sh E1 h 74 13 10 := Sh.st (by decide) (by decide) rfl
theorem sh_75 {h : HP} : Sh E1 h 75 13 7 := Sh.st (by decide) (by decide) rfl
theorem sh_76 {h : HP} : Sh E1 h 76 13 450 := Sh.st (by decide) (by decide) rfl
theorem sh_77 {h : HP} : Sh E1 h 77 13 10 := Sh.st (by decide) (by decide) rfl
theorem sh_78 {h : HP} : Sh E1 h 78 13 10 := Sh.st (by decide) (by decide) rfl
theorem sh_79 {h : HP} : Sh E1 h 79 13 10 := Sh.st (by decide) (by decide) rfl
theorem sh_80 {h : HP} : Sh E1 h 80 14 2560 := Sh.st (by decide) (by decide) rfl
theorem sh_81 {h : HP} : Sh E1 h 81 13 256 := Sh.st (by decide) (by decide) rfl
theorem sh_82 {h : HP} : Sh E1 h 82 13 256 := Sh.st (by decide) (by decide) rfl
theorem sh_83 {h : HP} : Sh E1 h 83 15 256 := Sh.st (by decide) (by decide) rfl
theorem sh_84 {h : HP} : Sh E1 h 84 13 30 := Sh.st (by decide) (by decide) rfl
theorem sh_85 {h : HP} : Sh E1 h 85 13 30 := Sh.st (by decide) (by decide) rfl
theorem sh_86 {h : HP} : Sh E1 h 86 15 10 := Sh.st (by decide) (by decide) rfl
theorem sh_87 {h : HP} : Sh E1 h 87 15 256 := Sh.st (by decide) (by decide) rfl
theorem sh_88 {h : HP} : Sh E1 h 88 14 64 := Sh.st (by decide) (by decide) rfl
theorem sh_89 {h : HP} : Sh E1 h 89 14 64 := Sh.st (by decide) (by decide) rfl
theorem sh_90 {h : HP} : Sh E1 h 90 13 50 := Sh.st (by decide) (by decide) rfl
theorem sh_91 {h : HP} : Sh E1 h 91 13 4 := Sh.st (by decide) (by decide) rfl
theorem sh_92 {h : HP} : Sh E1 h 92 13 4 := Sh.st (by decide) (by decide) rfl
theorem sh_93 {h : HP} : Sh E1 h 93 13 160 := Sh.st (by decide) (by decide) rfl
theorem fa_X8_9_8 : FA RX8 9 8 0 := ⟨by decide, "HeroSheet$State", fl_X8_9, Or.inl rfl⟩
theorem fa_X5_62_8 : FA RX5 62 8 0 := ⟨by decide, "HeroSheet$State", fl_X5_62, Or.inl rfl⟩
theorem fa_X11_91_8 : FA RX11 91 8 0 := ⟨by decide, "HeroSheet$State", fl_X11_91, Or.inl rfl⟩
theorem fa_X8_15_8 : FA RX8 15 8 1 := ⟨by decide, "HeroSheet$State", fl_X8_15, Or.inl rfl⟩
theorem fa_X5_120_8 : FA RX5 120 8 1 := ⟨by decide, "HeroSheet$State", fl_X5_120, Or.inl rfl⟩
theorem fa_X11_179_8 : FA RX11 179 8 1 := ⟨by decide, "HeroSheet$State", fl_X11_179, Or.inl rfl⟩
theorem fa_X8_19_8 : FA RX8 19 8 2 := ⟨by decide, "HeroSheet$State", fl_X8_19, Or.inl rfl⟩
theorem fa_X5_156_8 : FA RX5 156 8 2 := ⟨by decide, "HeroSheet$State", fl_X5_156, Or.inl rfl⟩
theorem fa_X11_182_8 : FA RX11 182 8 2 := ⟨by decide, "HeroSheet$State", fl_X11_182, Or.inl rfl⟩
theorem fa_X8_22_8 : FA RX8 22 8 3 := ⟨by decide, "HeroSheet$State", fl_X8_22, Or.inl rfl⟩
theorem fa_X5_123_8 : FA RX5 123 8 3 := ⟨by decide, "HeroSheet$State", fl_X5_123, Or.inl rfl⟩
theorem fa_X11_173_8 : FA RX11 173 8 3 := ⟨by decide, "HeroSheet$State", fl_X11_173, Or.inl rfl⟩
theorem fa_X8_25_8 : FA RX8 25 8 4 := ⟨by decide, "HeroSheet$State", fl_X8_25, Or.inl rfl⟩
theorem fa_X8_28_8 : FA RX8 28 8 5 := ⟨by decide, "HeroSheet$State", fl_X8_28, Or.inl rfl⟩
theorem fa_X11_407_8 : FA RX11 407 8 5 := ⟨by decide, "HeroSheet$State", fl_X11_407, Or.inl rfl⟩
theorem fa_X8_31_8 : FA RX8 31 8 6 := ⟨by decide, "HeroSheet$State", fl_X8_31, Or.inl rfl⟩
theorem fa_X5_67_8 : FA RX5 67 8 6 := ⟨by decide, "HeroSheet$State", fl_X5_67, Or.inl rfl⟩
theorem fa_X11_262_8 : FA RX11 262 8 6 := ⟨by decide, "HeroSheet$State", fl_X11_262, Or.inl rfl⟩
theorem fa_X8_34_8 : FA RX8 34 8 7 := ⟨by decide, "HeroSheet$State", fl_X8_34, Or.inl rfl⟩
theorem fa_X5_80_8 : FA RX5 80 8 7 := ⟨by decide, "HeroSheet$State", fl_X5_80, Or.inl rfl⟩
theorem fa_X11_133_8 : FA RX11 133 8 7 := ⟨by decide, "HeroSheet$State", fl_X11_133, Or.inl rfl⟩
theorem fa_X8_39_8 : FA RX8 39 8 8 := ⟨by decide, "HeroSheet$State", fl_X8_39, Or.inl rfl⟩
theorem fa_X5_83_8 : FA RX5 83 8 8 := ⟨by decide, "HeroSheet$State", fl_X5_83, Or.inl rfl⟩
theorem fa_X11_354_8 : FA RX11 354 8 8 := ⟨by decide, "HeroSheet$State", fl_X11_354, Or.inl rfl⟩
theorem fa_X8_43_8 : FA RX8 43 8 9 := ⟨by decide, "HeroSheet$State", fl_X8_43, Or.inl rfl⟩
theorem fa_X11_153_8 : FA RX11 153 8 9 := ⟨by decide, "HeroSheet$State", fl_X11_153, Or.inl rfl⟩
theorem fa_X8_46_8 : FA RX8 46 8 10 := ⟨by decide, "HeroSheet$State", fl_X8_46, Or.inl rfl⟩
theorem fa_X8_49_8 : FA RX8 49 8 11 := ⟨by decide, "HeroSheet$State", fl_X8_49, Or.inl rfl⟩
theorem fa_X8_52_8 : FA RX8 52 8 12 := ⟨by decide, "HeroSheet$State", fl_X8_52, Or.inl rfl⟩
theorem fa_X8_55_8 : FA RX8 55 8 13 := ⟨by decide, "HeroSheet$State", fl_X8_55, Or.inl rfl⟩
theorem fa_X11_156_8 : FA RX11 156 8 13 := ⟨by decide, "HeroSheet$State", fl_X11_156, Or.inl rfl⟩
theorem fa_X8_58_8 : FA RX8 58 8 14 := ⟨by decide, "HeroSheet$State", fl_X8_58, Or.inl rfl⟩
theorem fa_X11_142_8 : FA RX11 142 8 14 := ⟨by decide, "HeroSheet$State", fl_X11_142, Or.inl rfl⟩
theorem fa_X8_61_8 : FA RX8 61 8 15 := ⟨by decide, "HeroSheet$State", fl_X8_61, Or.inl rfl⟩
theorem fa_X11_106_8 : FA RX11 106 8 15 := ⟨by decide, "HeroSheet$State", fl_X11_106, Or.inl rfl⟩
theorem fa_X5_208_8 : FA RX5 208 8 15 := ⟨by decide, "HeroSheet$State", fl_X5_208, Or.inl rfl⟩
theorem fa_X8_64_8 : FA RX8 64 8 16 := ⟨by decide, "HeroSheet$State", fl_X8_64, Or.inl rfl⟩
theorem fa_X11_139_8 : FA RX11 139 8 16 := ⟨by decide, "HeroSheet$State", fl_X11_139, Or.inl rfl⟩
theorem fa_X5_182_8 : FA RX5 182 8 16 := ⟨by decide, "HeroSheet$State", fl_X5_182, Or.inl rfl⟩
theorem fa_X5_9_5 : FA RX5 9 5 0 := ⟨by decide, "HeroSheet$Reckoning", fl_X5_9, Or.inl rfl⟩
theorem fa_X1_60_5 : FA RX1 60 5 0 := ⟨by decide, "HeroSheet$Reckoning", fl_X1_60, Or.inl rfl⟩
theorem fa_X11_243_5 : FA RX11 243 5 0 := ⟨by decide, "HeroSheet$Reckoning", fl_X11_243, Or.inl rfl⟩
theorem fa_X5_15_5 : FA RX5 15 5 1 := ⟨by decide, "HeroSheet$Reckoning", fl_X5_15, Or.inl rfl⟩
theorem fa_X11_259_5 : FA RX11 259 5 1 := ⟨by decide, "HeroSheet$Reckoning", fl_X11_259, Or.inl rfl⟩
theorem fa_X5_18_5 : FA RX5 18 5 2 := ⟨by decide, "HeroSheet$Reckoning", fl_X5_18, Or.inl rfl⟩
theorem fa_X11_253_5 : FA RX11 253 5 2 := ⟨by decide, "HeroSheet$Reckoning", fl_X11_253, Or.inl rfl⟩
theorem fa_X5_22_5 : FA RX5 22 5 3 := ⟨by decide, "HeroSheet$Reckoning", fl_X5_22, Or.inl rfl⟩
theorem fa_X11_256_5 : FA RX11 256 5 3 := ⟨by decide, "HeroSheet$Reckoning", fl_X11_256, Or.inl rfl⟩
theorem fa_X5_25_5 : FA RX5 25 5 4 := ⟨by decide, "HeroSheet$Reckoning", fl_X5_25, Or.inl rfl⟩
theorem fa_X11_237_5 : FA RX11 237 5 4 := ⟨by decide, "HeroSheet$Reckoning", fl_X11_237, Or.inl rfl⟩
theorem fa_X5_29_5 : FA RX5 29 5 5 := ⟨by decide, "HeroSheet$Reckoning", fl_X5_29, Or.inl rfl⟩
theorem fa_X11_195_5 : FA RX11 195 5 5 := ⟨by decide, "HeroSheet$Reckoning", fl_X11_195, Or.inl rfl⟩
theorem fa_X5_32_5 : FA RX5 32 5 6 := ⟨by decide, "HeroSheet$Reckoning", fl_X5_32, Or.inl rfl⟩
theorem fa_X1_58_5 : FA RX1 58 5 6 := ⟨by decide, "HeroSheet$Reckoning", fl_X1_58, Or.inl rfl⟩
theorem fa_X5_35_5 : FA RX5 35 5 7 := ⟨by decide, "HeroSheet$Reckoning", fl_X5_35, Or.inl rfl⟩
theorem fa_X5_38_5 : FA RX5 38 5 8 := ⟨by decide, "HeroSheet$Reckoning", fl_X5_38, Or.inl rfl⟩
theorem fa_X5_41_5 : FA RX5 41 5 9 := ⟨by decide, "HeroSheet$Reckoning", fl_X5_41, Or.inl rfl⟩
theorem fa_X5_46_5 : FA RX5 46 5 10 := ⟨by decide, "HeroSheet$Reckoning", fl_X5_46, Or.inl rfl⟩
theorem fa_X5_50_5 : FA RX5 50 5 11 := ⟨by decide, "HeroSheet$Reckoning", fl_X5_50, Or.inl rfl⟩
theorem fa_X5_53_5 : FA RX5 53 5 12 := ⟨by decide, "HeroSheet$Reckoning", fl_X5_53, Or.inl rfl⟩
theorem fa_X5_56_5 : FA RX5 56 5 13 := ⟨by decide, "HeroSheet$Reckoning", fl_X5_56, Or.inl rfl⟩
theorem fa_X5_59_5 : FA RX5 59 5 14 := ⟨by decide, "HeroSheet$Reckoning", fl_X5_59, Or.inl rfl⟩
theorem fa_X1_46_1 : FA RX1 46 1 0 := ⟨by decide, "HeroSheet$Book", fl_X1_46, Or.inl rfl⟩
theorem fa_X1_12_1 : FA RX1 12 1 1 := ⟨by decide, "HeroSheet$Book", fl_X1_12, Or.inl rfl⟩
theorem fa_X11_410_1 : FA RX11 410 1 1 := ⟨by decide, "HeroSheet$Book", fl_X11_410, Or.inl rfl⟩
theorem fa_X1_18_1 : FA RX1 18 1 2 := ⟨by decide, "HeroSheet$Book", fl_X1_18, Or.inl rfl⟩
theorem fa_X1_22_1 : FA RX1 22 1 3 := ⟨by decide, "HeroSheet$Book", fl_X1_22, Or.inl rfl⟩
theorem fa_X1_26_1 : FA RX1 26 1 4 := ⟨by decide, "HeroSheet$Book", fl_X1_26, Or.inl rfl⟩
theorem fa_X1_29_1 : FA RX1 29 1 5 := ⟨by decide, "HeroSheet$Book", fl_X1_29, Or.inl rfl⟩
theorem fa_X1_33_1 : FA RX1 33 1 6 := ⟨by decide, "HeroSheet$Book", fl_X1_33, Or.inl rfl⟩
theorem fa_X1_36_1 : FA RX1 36 1 7 := ⟨by decide, "HeroSheet$Book", fl_X1_36, Or.inl rfl⟩
theorem fa_X1_39_1 : FA RX1 39 1 8 := ⟨by decide, "HeroSheet$Book", fl_X1_39, Or.inl rfl⟩
theorem fa_X1_42_1 : FA RX1 42 1 9 := ⟨by decide, "HeroSheet$Book", fl_X1_42, Or.inl rfl⟩
theorem fa_X9_9_9 : FA RX9 9 9 0 := ⟨by decide, "HeroSheet$Test", fl_X9_9, Or.inl rfl⟩
theorem fa_X9_15_9 : FA RX9 15 9 1 := ⟨by decide, "HeroSheet$Test", fl_X9_15, Or.inl rfl⟩
theorem fa_X9_18_9 : FA RX9 18 9 2 := ⟨by decide, "HeroSheet$Test", fl_X9_18, Or.inl rfl⟩
theorem fa_X11_10_11 : FA RX11 10 11 0 := ⟨by decide, "HeroSheet", fl_X11_10, Or.inl rfl⟩
theorem fa_X11_16_11 : FA RX11 16 11 1 := ⟨by decide, "HeroSheet", fl_X11_16, Or.inl rfl⟩
theorem fa_X11_24_11 : FA RX11 24 11 2 := ⟨by decide, "HeroSheet", fl_X11_24, Or.inl rfl⟩
theorem fa_X11_28_11 : FA RX11 28 11 3 := ⟨by decide, "HeroSheet", fl_X11_28, Or.inl rfl⟩
theorem fa_X11_32_11 : FA RX11 32 11 4 := ⟨by decide, "HeroSheet", fl_X11_32, Or.inl rfl⟩
theorem fa_X11_36_11 : FA RX11 36 11 5 := ⟨by decide, "HeroSheet", fl_X11_36, Or.inl rfl⟩
theorem fa_X11_44_11 : FA RX11 44 11 6 := ⟨by decide, "HeroSheet", fl_X11_44, Or.inl rfl⟩
theorem fa_X11_48_11 : FA RX11 48 11 7 := ⟨by decide, "HeroSheet", fl_X11_48, Or.inl rfl⟩
theorem fa_X11_51_11 : FA RX11 51 11 8 := ⟨by decide, "HeroSheet", fl_X11_51, Or.inl rfl⟩
theorem fa_X11_55_11 : FA RX11 55 11 9 := ⟨by decide, "HeroSheet", fl_X11_55, Or.inl rfl⟩
theorem fa_X11_58_11 : FA RX11 58 11 10 := ⟨by decide, "HeroSheet", fl_X11_58, Or.inl rfl⟩
theorem fa_X11_61_11 : FA RX11 61 11 11 := ⟨by decide, "HeroSheet", fl_X11_61, Or.inl rfl⟩
theorem fa_X11_66_11 : FA RX11 66 11 12 := ⟨by decide, "HeroSheet", fl_X11_66, Or.inl rfl⟩
theorem fa_X11_69_11 : FA RX11 69 11 13 := ⟨by decide, "HeroSheet", fl_X11_69, Or.inl rfl⟩
theorem fa_X11_72_11 : FA RX11 72 11 14 := ⟨by decide, "HeroSheet", fl_X11_72, Or.inl rfl⟩
theorem fa_X11_75_11 : FA RX11 75 11 15 := ⟨by decide, "HeroSheet", fl_X11_75, Or.inl rfl⟩
theorem fa_X6_9_0 : FA RX6 9 0 0 := ⟨by decide, "HeroSheet$Rule", fl_X6_9, Or.inl rfl⟩
theorem fa_X6_9_2 : FA RX6 9 2 0 := ⟨by decide, "HeroSheet$Rule", fl_X6_9, Or.inl rfl⟩
theorem fa_X6_9_3 : FA RX6 9 3 0 := ⟨by decide, "HeroSheet$Rule", fl_X6_9, Or.inl rfl⟩
theorem fa_X6_9_4 : FA RX6 9 4 0 := ⟨by decide, "HeroSheet$Rule", fl_X6_9, Or.inl rfl⟩
theorem fa_X6_9_6 : FA RX6 9 6 0 := ⟨by decide, "HeroSheet$Rule", fl_X6_9, Or.inl rfl⟩
theorem fa_X6_9_7 : FA RX6 9 7 0 := ⟨by decide, "HeroSheet$Rule", fl_X6_9, Or.inl rfl⟩
theorem fa_X6_9_10 : FA RX6 9 10 0 := ⟨by decide, "HeroSheet$Rule", fl_X6_9, Or.inl rfl⟩
theorem fr_X6_9 {ci : Nat} (h : rk ci = true) : FA RX6 9 ci 0 := by
  rcases rk_of h with rfl | rfl | rfl | rfl | rfl | rfl | rfl
  · exact fa_X6_9_0
  · exact fa_X6_9_2
  · exact fa_X6_9_3
  · exact fa_X6_9_4
  · exact fa_X6_9_6
  · exact fa_X6_9_7
  · exact fa_X6_9_10
theorem fa_X5_129_0 : FA RX5 129 0 0 := ⟨by decide, "HeroSheet$Rule", fl_X5_129, Or.inl rfl⟩
theorem fa_X5_129_2 : FA RX5 129 2 0 := ⟨by decide, "HeroSheet$Rule", fl_X5_129, Or.inl rfl⟩
theorem fa_X5_129_3 : FA RX5 129 3 0 := ⟨by decide, "HeroSheet$Rule", fl_X5_129, Or.inl rfl⟩
theorem fa_X5_129_4 : FA RX5 129 4 0 := ⟨by decide, "HeroSheet$Rule", fl_X5_129, Or.inl rfl⟩
theorem fa_X5_129_6 : FA RX5 129 6 0 := ⟨by decide, "HeroSheet$Rule", fl_X5_129, Or.inl rfl⟩
theorem fa_X5_129_7 : FA RX5 129 7 0 := ⟨by decide, "HeroSheet$Rule", fl_X5_129, Or.inl rfl⟩
theorem fa_X5_129_10 : FA RX5 129 10 0 := ⟨by decide, "HeroSheet$Rule", fl_X5_129, Or.inl rfl⟩
theorem fr_X5_129 {ci : Nat} (h : rk ci = true) : FA RX5 129 ci 0 := by
  rcases rk_of h with rfl | rfl | rfl | rfl | rfl | rfl | rfl
  · exact fa_X5_129_0
  · exact fa_X5_129_2
  · exact fa_X5_129_3
  · exact fa_X5_129_4
  · exact fa_X5_129_6
  · exact fa_X5_129_7
  · exact fa_X5_129_10
theorem fa_X11_220_0 : FA RX11 220 0 0 := ⟨by decide, "HeroSheet$Rule", fl_X11_220, Or.inl rfl⟩
theorem fa_X11_220_2 : FA RX11 220 2 0 := ⟨by decide, "HeroSheet$Rule", fl_X11_220, Or.inl rfl⟩
theorem fa_X11_220_3 : FA RX11 220 3 0 := ⟨by decide, "HeroSheet$Rule", fl_X11_220, Or.inl rfl⟩
theorem fa_X11_220_4 : FA RX11 220 4 0 := ⟨by decide, "HeroSheet$Rule", fl_X11_220, Or.inl rfl⟩
theorem fa_X11_220_6 : FA RX11 220 6 0 := ⟨by decide, "HeroSheet$Rule", fl_X11_220, Or.inl rfl⟩
theorem fa_X11_220_7 : FA RX11 220 7 0 := ⟨by decide, "HeroSheet$Rule", fl_X11_220, Or.inl rfl⟩
theorem fa_X11_220_10 : FA RX11 220 10 0 := ⟨by decide, "HeroSheet$Rule", fl_X11_220, Or.inl rfl⟩
theorem fr_X11_220 {ci : Nat} (h : rk ci = true) : FA RX11 220 ci 0 := by
  rcases rk_of h with rfl | rfl | rfl | rfl | rfl | rfl | rfl
  · exact fa_X11_220_0
  · exact fa_X11_220_2
  · exact fa_X11_220_3
  · exact fa_X11_220_4
  · exact fa_X11_220_6
  · exact fa_X11_220_7
  · exact fa_X11_220_10
theorem fa_X6_15_0 : FA RX6 15 0 1 := ⟨by decide, "HeroSheet$Rule", fl_X6_15, Or.inl rfl⟩
theorem fa_X6_15_2 : FA RX6 15 2 1 := ⟨by decide, "HeroSheet$Rule", fl_X6_15, Or.inl rfl⟩
theorem fa_X6_15_3 : FA RX6 15 3 1 := ⟨by decide, "HeroSheet$Rule", fl_X6_15, Or.inl rfl⟩
theorem fa_X6_15_4 : FA RX6 15 4 1 := ⟨by decide, "HeroSheet$Rule", fl_X6_15, Or.inl rfl⟩
theorem fa_X6_15_6 : FA RX6 15 6 1 := ⟨by decide, "HeroSheet$Rule", fl_X6_15, Or.inl rfl⟩
theorem fa_X6_15_7 : FA RX6 15 7 1 := ⟨by decide, "HeroSheet$Rule", fl_X6_15, Or.inl rfl⟩
theorem fa_X6_15_10 : FA RX6 15 10 1 := ⟨by decide, "HeroSheet$Rule", fl_X6_15, Or.inl rfl⟩
theorem fr_X6_15 {ci : Nat} (h : rk ci = true) : FA RX6 15 ci 1 := by
  rcases rk_of h with rfl | rfl | rfl | rfl | rfl | rfl | rfl
  · exact fa_X6_15_0
  · exact fa_X6_15_2
  · exact fa_X6_15_3
  · exact fa_X6_15_4
  · exact fa_X6_15_6
  · exact fa_X6_15_7
  · exact fa_X6_15_10
theorem fa_X10_23_0 : FA RX10 23 0 1 := ⟨by decide, "HeroSheet$Typed", fl_X10_23, Or.inr sf_X10_number⟩
theorem fa_X10_23_2 : FA RX10 23 2 1 := ⟨by decide, "HeroSheet$Typed", fl_X10_23, Or.inr sf_X10_number⟩
theorem fa_X10_23_3 : FA RX10 23 3 1 := ⟨by decide, "HeroSheet$Typed", fl_X10_23, Or.inr sf_X10_number⟩
theorem fa_X10_23_4 : FA RX10 23 4 1 := ⟨by decide, "HeroSheet$Typed", fl_X10_23, Or.inr sf_X10_number⟩
theorem fa_X10_23_6 : FA RX10 23 6 1 := ⟨by decide, "HeroSheet$Typed", fl_X10_23, Or.inr sf_X10_number⟩
theorem fa_X10_23_7 : FA RX10 23 7 1 := ⟨by decide, "HeroSheet$Typed", fl_X10_23, Or.inr sf_X10_number⟩
theorem fa_X10_23_10 : FA RX10 23 10 1 := ⟨by decide, "HeroSheet$Typed", fl_X10_23, Or.inr sf_X10_number⟩
theorem fr_X10_23 {ci : Nat} (h : rk ci = true) : FA RX10 23 ci 1 := by
  rcases rk_of h with rfl | rfl | rfl | rfl | rfl | rfl | rfl
  · exact fa_X10_23_0
  · exact fa_X10_23_2
  · exact fa_X10_23_3
  · exact fa_X10_23_4
  · exact fa_X10_23_6
  · exact fa_X10_23_7
  · exact fa_X10_23_10
theorem fa_X5_159_0 : FA RX5 159 0 1 := ⟨by decide, "HeroSheet$Rule", fl_X5_159, Or.inl rfl⟩
theorem fa_X5_159_2 : FA RX5 159 2 1 := ⟨by decide, "HeroSheet$Rule", fl_X5_159, Or.inl rfl⟩
theorem fa_X5_159_3 : FA RX5 159 3 1 := ⟨by decide, "HeroSheet$Rule", fl_X5_159, Or.inl rfl⟩
theorem fa_X5_159_4 : FA RX5 159 4 1 := ⟨by decide, "HeroSheet$Rule", fl_X5_159, Or.inl rfl⟩
theorem fa_X5_159_6 : FA RX5 159 6 1 := ⟨by decide, "HeroSheet$Rule", fl_X5_159, Or.inl rfl⟩
theorem fa_X5_159_7 : FA RX5 159 7 1 := ⟨by decide, "HeroSheet$Rule", fl_X5_159, Or.inl rfl⟩
theorem fa_X5_159_10 : FA RX5 159 10 1 := ⟨by decide, "HeroSheet$Rule", fl_X5_159, Or.inl rfl⟩
theorem fr_X5_159 {ci : Nat} (h : rk ci = true) : FA RX5 159 ci 1 := by
  rcases rk_of h with rfl | rfl | rfl | rfl | rfl | rfl | rfl
  · exact fa_X5_159_0
  · exact fa_X5_159_2
  · exact fa_X5_159_3
  · exact fa_X5_159_4
  · exact fa_X5_159_6
  · exact fa_X5_159_7
  · exact fa_X5_159_10
theorem fa_X5_177_0 : FA RX5 177 0 1 := ⟨by decide, "HeroSheet$Typed", fl_X5_177, Or.inr sf_X10_number⟩
theorem fa_X5_177_2 : FA RX5 177 2 1 := ⟨by decide, "HeroSheet$Typed", fl_X5_177, Or.inr sf_X10_number⟩
theorem fa_X5_177_3 : FA RX5 177 3 1 := ⟨by decide, "HeroSheet$Typed", fl_X5_177, Or.inr sf_X10_number⟩
theorem fa_X5_177_4 : FA RX5 177 4 1 := ⟨by decide, "HeroSheet$Typed", fl_X5_177, Or.inr sf_X10_number⟩
theorem fa_X5_177_6 : FA RX5 177 6 1 := ⟨by decide, "HeroSheet$Typed", fl_X5_177, Or.inr sf_X10_number⟩
theorem fa_X5_177_7 : FA RX5 177 7 1 := ⟨by decide, "HeroSheet$Typed", fl_X5_177, Or.inr sf_X10_number⟩
theorem fa_X5_177_10 : FA RX5 177 10 1 := ⟨by decide, "HeroSheet$Typed", fl_X5_177, Or.inr sf_X10_number⟩
theorem fr_X5_177 {ci : Nat} (h : rk ci = true) : FA RX5 177 ci 1 := by
  rcases rk_of h with rfl | rfl | rfl | rfl | rfl | rfl | rfl
  · exact fa_X5_177_0
  · exact fa_X5_177_2
  · exact fa_X5_177_3
  · exact fa_X5_177_4
  · exact fa_X5_177_6
  · exact fa_X5_177_7
  · exact fa_X5_177_10
theorem fa_X5_198_0 : FA RX5 198 0 1 := ⟨by decide, "HeroSheet$Cap", fl_X5_198, Or.inr sf_X2_number⟩
theorem fa_X5_198_2 : FA RX5 198 2 1 := ⟨by decide, "HeroSheet$Cap", fl_X5_198, Or.inr sf_X2_number⟩
theorem fa_X5_198_3 : FA RX5 198 3 1 := ⟨by decide, "HeroSheet$Cap", fl_X5_198, Or.inr sf_X2_number⟩
theorem fa_X5_198_4 : FA RX5 198 4 1 := ⟨by decide, "HeroSheet$Cap", fl_X5_198, Or.inr sf_X2_number⟩
theorem fa_X5_198_6 : FA RX5 198 6 1 := ⟨by decide, "HeroSheet$Cap", fl_X5_198, Or.inr sf_X2_number⟩
theorem fa_X5_198_7 : FA RX5 198 7 1 := ⟨by decide, "HeroSheet$Cap", fl_X5_198, Or.inr sf_X2_number⟩
theorem fa_X5_198_10 : FA RX5 198 10 1 := ⟨by decide, "HeroSheet$Cap", fl_X5_198, Or.inr sf_X2_number⟩
theorem fr_X5_198 {ci : Nat} (h : rk ci = true) : FA RX5 198 ci 1 := by
  rcases rk_of h with rfl | rfl | rfl | rfl | rfl | rfl | rfl
  · exact fa_X5_198_0
  · exact fa_X5_198_2
  · exact fa_X5_198_3
  · exact fa_X5_198_4
  · exact fa_X5_198_6
  · exact fa_X5_198_7
  · exact fa_X5_198_10
theorem fa_X11_395_0 : FA RX11 395 0 1 := ⟨by decide, "HeroSheet$Rule", fl_X11_395, Or.inl rfl⟩
theorem fa_X11_395_2 : FA RX11 395 2 1 := ⟨by decide, "HeroSheet$Rule", fl_X11_395, Or.inl rfl⟩
theorem fa_X11_395_3 : FA RX11 395 3 1 := ⟨by decide, "HeroSheet$Rule", fl_X11_395, Or.inl rfl⟩
theorem fa_X11_395_4 : FA RX11 395 4 1 := ⟨by decide, "HeroSheet$Rule", fl_X11_395, Or.inl rfl⟩
theorem fa_X11_395_6 : FA RX11 395 6 1 := ⟨by decide, "HeroSheet$Rule", fl_X11_395, Or.inl rfl⟩
theorem fa_X11_395_7 : FA RX11 395 7 1 := ⟨by decide, "HeroSheet$Rule", fl_X11_395, Or.inl rfl⟩
theorem fa_X11_395_10 : FA RX11 395 10 1 := ⟨by decide, "HeroSheet$Rule", fl_X11_395, Or.inl rfl⟩
theorem fr_X11_395 {ci : Nat} (h : rk ci = true) : FA RX11 395 ci 1 := by
  rcases rk_of h with rfl | rfl | rfl | rfl | rfl | rfl | rfl
  · exact fa_X11_395_0
  · exact fa_X11_395_2
  · exact fa_X11_395_3
  · exact fa_X11_395_4
  · exact fa_X11_395_6
  · exact fa_X11_395_7
  · exact fa_X11_395_10
theorem fa_X6_18_0 : FA RX6 18 0 2 := ⟨by decide, "HeroSheet$Rule", fl_X6_18, Or.inl rfl⟩
theorem fa_X6_18_2 : FA RX6 18 2 2 := ⟨by decide, "HeroSheet$Rule", fl_X6_18, Or.inl rfl⟩
theorem fa_X6_18_3 : FA RX6 18 3 2 := ⟨by decide, "HeroSheet$Rule", fl_X6_18, Or.inl rfl⟩
theorem fa_X6_18_4 : FA RX6 18 4 2 := ⟨by decide, "HeroSheet$Rule", fl_X6_18, Or.inl rfl⟩
theorem fa_X6_18_6 : FA RX6 18 6 2 := ⟨by decide, "HeroSheet$Rule", fl_X6_18, Or.inl rfl⟩
theorem fa_X6_18_7 : FA RX6 18 7 2 := ⟨by decide, "HeroSheet$Rule", fl_X6_18, Or.inl rfl⟩
theorem fa_X6_18_10 : FA RX6 18 10 2 := ⟨by decide, "HeroSheet$Rule", fl_X6_18, Or.inl rfl⟩
theorem fr_X6_18 {ci : Nat} (h : rk ci = true) : FA RX6 18 ci 2 := by
  rcases rk_of h with rfl | rfl | rfl | rfl | rfl | rfl | rfl
  · exact fa_X6_18_0
  · exact fa_X6_18_2
  · exact fa_X6_18_3
  · exact fa_X6_18_4
  · exact fa_X6_18_6
  · exact fa_X6_18_7
  · exact fa_X6_18_10
theorem fa_X5_136_0 : FA RX5 136 0 2 := ⟨by decide, "HeroSheet$Rule", fl_X5_136, Or.inl rfl⟩
theorem fa_X5_136_2 : FA RX5 136 2 2 := ⟨by decide, "HeroSheet$Rule", fl_X5_136, Or.inl rfl⟩
theorem fa_X5_136_3 : FA RX5 136 3 2 := ⟨by decide, "HeroSheet$Rule", fl_X5_136, Or.inl rfl⟩
theorem fa_X5_136_4 : FA RX5 136 4 2 := ⟨by decide, "HeroSheet$Rule", fl_X5_136, Or.inl rfl⟩
theorem fa_X5_136_6 : FA RX5 136 6 2 := ⟨by decide, "HeroSheet$Rule", fl_X5_136, Or.inl rfl⟩
theorem fa_X5_136_7 : FA RX5 136 7 2 := ⟨by decide, "HeroSheet$Rule", fl_X5_136, Or.inl rfl⟩
theorem fa_X5_136_10 : FA RX5 136 10 2 := ⟨by decide, "HeroSheet$Rule", fl_X5_136, Or.inl rfl⟩
theorem fr_X5_136 {ci : Nat} (h : rk ci = true) : FA RX5 136 ci 2 := by
  rcases rk_of h with rfl | rfl | rfl | rfl | rfl | rfl | rfl
  · exact fa_X5_136_0
  · exact fa_X5_136_2
  · exact fa_X5_136_3
  · exact fa_X5_136_4
  · exact fa_X5_136_6
  · exact fa_X5_136_7
  · exact fa_X5_136_10
theorem fa_X11_240_0 : FA RX11 240 0 2 := ⟨by decide, "HeroSheet$Rule", fl_X11_240, Or.inl rfl⟩
theorem fa_X11_240_2 : FA RX11 240 2 2 := ⟨by decide, "HeroSheet$Rule", fl_X11_240, Or.inl rfl⟩
theorem fa_X11_240_3 : FA RX11 240 3 2 := ⟨by decide, "HeroSheet$Rule", fl_X11_240, Or.inl rfl⟩
theorem fa_X11_240_4 : FA RX11 240 4 2 := ⟨by decide, "HeroSheet$Rule", fl_X11_240, Or.inl rfl⟩
theorem fa_X11_240_6 : FA RX11 240 6 2 := ⟨by decide, "HeroSheet$Rule", fl_X11_240, Or.inl rfl⟩
theorem fa_X11_240_7 : FA RX11 240 7 2 := ⟨by decide, "HeroSheet$Rule", fl_X11_240, Or.inl rfl⟩
theorem fa_X11_240_10 : FA RX11 240 10 2 := ⟨by decide, "HeroSheet$Rule", fl_X11_240, Or.inl rfl⟩
theorem fr_X11_240 {ci : Nat} (h : rk ci = true) : FA RX11 240 ci 2 := by
  rcases rk_of h with rfl | rfl | rfl | rfl | rfl | rfl | rfl
  · exact fa_X11_240_0
  · exact fa_X11_240_2
  · exact fa_X11_240_3
  · exact fa_X11_240_4
  · exact fa_X11_240_6
  · exact fa_X11_240_7
  · exact fa_X11_240_10
theorem fa_X6_22_0 : FA RX6 22 0 3 := ⟨by decide, "HeroSheet$Rule", fl_X6_22, Or.inl rfl⟩
theorem fa_X6_22_2 : FA RX6 22 2 3 := ⟨by decide, "HeroSheet$Rule", fl_X6_22, Or.inl rfl⟩
theorem fa_X6_22_3 : FA RX6 22 3 3 := ⟨by decide, "HeroSheet$Rule", fl_X6_22, Or.inl rfl⟩
theorem fa_X6_22_4 : FA RX6 22 4 3 := ⟨by decide, "HeroSheet$Rule", fl_X6_22, Or.inl rfl⟩
theorem fa_X6_22_6 : FA RX6 22 6 3 := ⟨by decide, "HeroSheet$Rule", fl_X6_22, Or.inl rfl⟩
theorem fa_X6_22_7 : FA RX6 22 7 3 := ⟨by decide, "HeroSheet$Rule", fl_X6_22, Or.inl rfl⟩
theorem fa_X6_22_10 : FA RX6 22 10 3 := ⟨by decide, "HeroSheet$Rule", fl_X6_22, Or.inl rfl⟩
theorem fr_X6_22 {ci : Nat} (h : rk ci = true) : FA RX6 22 ci 3 := by
  rcases rk_of h with rfl | rfl | rfl | rfl | rfl | rfl | rfl
  · exact fa_X6_22_0
  · exact fa_X6_22_2
  · exact fa_X6_22_3
  · exact fa_X6_22_4
  · exact fa_X6_22_6
  · exact fa_X6_22_7
  · exact fa_X6_22_10
theorem fa_X5_146_0 : FA RX5 146 0 3 := ⟨by decide, "HeroSheet$Rule", fl_X5_146, Or.inl rfl⟩
theorem fa_X5_146_2 : FA RX5 146 2 3 := ⟨by decide, "HeroSheet$Rule", fl_X5_146, Or.inl rfl⟩
theorem fa_X5_146_3 : FA RX5 146 3 3 := ⟨by decide, "HeroSheet$Rule", fl_X5_146, Or.inl rfl⟩
theorem fa_X5_146_4 : FA RX5 146 4 3 := ⟨by decide, "HeroSheet$Rule", fl_X5_146, Or.inl rfl⟩
theorem fa_X5_146_6 : FA RX5 146 6 3 := ⟨by decide, "HeroSheet$Rule", fl_X5_146, Or.inl rfl⟩
theorem fa_X5_146_7 : FA RX5 146 7 3 := ⟨by decide, "HeroSheet$Rule", fl_X5_146, Or.inl rfl⟩
theorem fa_X5_146_10 : FA RX5 146 10 3 := ⟨by decide, "HeroSheet$Rule", fl_X5_146, Or.inl rfl⟩
theorem fr_X5_146 {ci : Nat} (h : rk ci = true) : FA RX5 146 ci 3 := by
  rcases rk_of h with rfl | rfl | rfl | rfl | rfl | rfl | rfl
  · exact fa_X5_146_0
  · exact fa_X5_146_2
  · exact fa_X5_146_3
  · exact fa_X5_146_4
  · exact fa_X5_146_6
  · exact fa_X5_146_7
  · exact fa_X5_146_10
theorem fa_X11_225_0 : FA RX11 225 0 3 := ⟨by decide, "HeroSheet$Rule", fl_X11_225, Or.inl rfl⟩
theorem fa_X11_225_2 : FA RX11 225 2 3 := ⟨by decide, "HeroSheet$Rule", fl_X11_225, Or.inl rfl⟩
theorem fa_X11_225_3 : FA RX11 225 3 3 := ⟨by decide, "HeroSheet$Rule", fl_X11_225, Or.inl rfl⟩
theorem fa_X11_225_4 : FA RX11 225 4 3 := ⟨by decide, "HeroSheet$Rule", fl_X11_225, Or.inl rfl⟩
theorem fa_X11_225_6 : FA RX11 225 6 3 := ⟨by decide, "HeroSheet$Rule", fl_X11_225, Or.inl rfl⟩
theorem fa_X11_225_7 : FA RX11 225 7 3 := ⟨by decide, "HeroSheet$Rule", fl_X11_225, Or.inl rfl⟩
theorem fa_X11_225_10 : FA RX11 225 10 3 := ⟨by decide, "HeroSheet$Rule", fl_X11_225, Or.inl rfl⟩
theorem fr_X11_225 {ci : Nat} (h : rk ci = true) : FA RX11 225 ci 3 := by
  rcases rk_of h with rfl | rfl | rfl | rfl | rfl | rfl | rfl
  · exact fa_X11_225_0
  · exact fa_X11_225_2
  · exact fa_X11_225_3
  · exact fa_X11_225_4
  · exact fa_X11_225_6
  · exact fa_X11_225_7
  · exact fa_X11_225_10
theorem fa_X6_25_0 : FA RX6 25 0 4 := ⟨by decide, "HeroSheet$Rule", fl_X6_25, Or.inl rfl⟩
theorem fa_X6_25_2 : FA RX6 25 2 4 := ⟨by decide, "HeroSheet$Rule", fl_X6_25, Or.inl rfl⟩
theorem fa_X6_25_3 : FA RX6 25 3 4 := ⟨by decide, "HeroSheet$Rule", fl_X6_25, Or.inl rfl⟩
theorem fa_X6_25_4 : FA RX6 25 4 4 := ⟨by decide, "HeroSheet$Rule", fl_X6_25, Or.inl rfl⟩
theorem fa_X6_25_6 : FA RX6 25 6 4 := ⟨by decide, "HeroSheet$Rule", fl_X6_25, Or.inl rfl⟩
theorem fa_X6_25_7 : FA RX6 25 7 4 := ⟨by decide, "HeroSheet$Rule", fl_X6_25, Or.inl rfl⟩
theorem fa_X6_25_10 : FA RX6 25 10 4 := ⟨by decide, "HeroSheet$Rule", fl_X6_25, Or.inl rfl⟩
theorem fr_X6_25 {ci : Nat} (h : rk ci = true) : FA RX6 25 ci 4 := by
  rcases rk_of h with rfl | rfl | rfl | rfl | rfl | rfl | rfl
  · exact fa_X6_25_0
  · exact fa_X6_25_2
  · exact fa_X6_25_3
  · exact fa_X6_25_4
  · exact fa_X6_25_6
  · exact fa_X6_25_7
  · exact fa_X6_25_10
theorem fa_X4_19_0 : FA RX4 19 0 4 := ⟨by decide, "HeroSheet$Opens", fl_X4_19, Or.inr sf_X4_rank⟩
theorem fa_X4_19_2 : FA RX4 19 2 4 := ⟨by decide, "HeroSheet$Opens", fl_X4_19, Or.inr sf_X4_rank⟩
theorem fa_X4_19_3 : FA RX4 19 3 4 := ⟨by decide, "HeroSheet$Opens", fl_X4_19, Or.inr sf_X4_rank⟩
theorem fa_X4_19_4 : FA RX4 19 4 4 := ⟨by decide, "HeroSheet$Opens", fl_X4_19, Or.inr sf_X4_rank⟩
theorem fa_X4_19_6 : FA RX4 19 6 4 := ⟨by decide, "HeroSheet$Opens", fl_X4_19, Or.inr sf_X4_rank⟩
theorem fa_X4_19_7 : FA RX4 19 7 4 := ⟨by decide, "HeroSheet$Opens", fl_X4_19, Or.inr sf_X4_rank⟩
theorem fa_X4_19_10 : FA RX4 19 10 4 := ⟨by decide, "HeroSheet$Opens", fl_X4_19, Or.inr sf_X4_rank⟩
theorem fr_X4_19 {ci : Nat} (h : rk ci = true) : FA RX4 19 ci 4 := by
  rcases rk_of h with rfl | rfl | rfl | rfl | rfl | rfl | rfl
  · exact fa_X4_19_0
  · exact fa_X4_19_2
  · exact fa_X4_19_3
  · exact fa_X4_19_4
  · exact fa_X4_19_6
  · exact fa_X4_19_7
  · exact fa_X4_19_10
theorem fa_X5_153_0 : FA RX5 153 0 4 := ⟨by decide, "HeroSheet$Rule", fl_X5_153, Or.inl rfl⟩
theorem fa_X5_153_2 : FA RX5 153 2 4 := ⟨by decide, "HeroSheet$Rule", fl_X5_153, Or.inl rfl⟩
theorem fa_X5_153_3 : FA RX5 153 3 4 := ⟨by decide, "HeroSheet$Rule", fl_X5_153, Or.inl rfl⟩
theorem fa_X5_153_4 : FA RX5 153 4 4 := ⟨by decide, "HeroSheet$Rule", fl_X5_153, Or.inl rfl⟩
theorem fa_X5_153_6 : FA RX5 153 6 4 := ⟨by decide, "HeroSheet$Rule", fl_X5_153, Or.inl rfl⟩
theorem fa_X5_153_7 : FA RX5 153 7 4 := ⟨by decide, "HeroSheet$Rule", fl_X5_153, Or.inl rfl⟩
theorem fa_X5_153_10 : FA RX5 153 10 4 := ⟨by decide, "HeroSheet$Rule", fl_X5_153, Or.inl rfl⟩
theorem fr_X5_153 {ci : Nat} (h : rk ci = true) : FA RX5 153 ci 4 := by
  rcases rk_of h with rfl | rfl | rfl | rfl | rfl | rfl | rfl
  · exact fa_X5_153_0
  · exact fa_X5_153_2
  · exact fa_X5_153_3
  · exact fa_X5_153_4
  · exact fa_X5_153_6
  · exact fa_X5_153_7
  · exact fa_X5_153_10
theorem fa_X11_228_0 : FA RX11 228 0 4 := ⟨by decide, "HeroSheet$Rule", fl_X11_228, Or.inl rfl⟩
theorem fa_X11_228_2 : FA RX11 228 2 4 := ⟨by decide, "HeroSheet$Rule", fl_X11_228, Or.inl rfl⟩
theorem fa_X11_228_3 : FA RX11 228 3 4 := ⟨by decide, "HeroSheet$Rule", fl_X11_228, Or.inl rfl⟩
theorem fa_X11_228_4 : FA RX11 228 4 4 := ⟨by decide, "HeroSheet$Rule", fl_X11_228, Or.inl rfl⟩
theorem fa_X11_228_6 : FA RX11 228 6 4 := ⟨by decide, "HeroSheet$Rule", fl_X11_228, Or.inl rfl⟩
theorem fa_X11_228_7 : FA RX11 228 7 4 := ⟨by decide, "HeroSheet$Rule", fl_X11_228, Or.inl rfl⟩
theorem fa_X11_228_10 : FA RX11 228 10 4 := ⟨by decide, "HeroSheet$Rule", fl_X11_228, Or.inl rfl⟩
theorem fr_X11_228 {ci : Nat} (h : rk ci = true) : FA RX11 228 ci 4 := by
  rcases rk_of h with rfl | rfl | rfl | rfl | rfl | rfl | rfl
  · exact fa_X11_228_0
  · exact fa_X11_228_2
  · exact fa_X11_228_3
  · exact fa_X11_228_4
  · exact fa_X11_228_6
  · exact fa_X11_228_7
  · exact fa_X11_228_10
theorem fa_X6_28_0 : FA RX6 28 0 5 := ⟨by decide, "HeroSheet$Rule", fl_X6_28, Or.inl rfl⟩
theorem fa_X6_28_2 : FA RX6 28 2 5 := ⟨by decide, "HeroSheet$Rule", fl_X6_28, Or.inl rfl⟩
theorem fa_X6_28_3 : FA RX6 28 3 5 := ⟨by decide, "HeroSheet$Rule", fl_X6_28, Or.inl rfl⟩
theorem fa_X6_28_4 : FA RX6 28 4 5 := ⟨by decide, "HeroSheet$Rule", fl_X6_28, Or.inl rfl⟩
theorem fa_X6_28_6 : FA RX6 28 6 5 := ⟨by decide, "HeroSheet$Rule", fl_X6_28, Or.inl rfl⟩
theorem fa_X6_28_7 : FA RX6 28 7 5 := ⟨by decide, "HeroSheet$Rule", fl_X6_28, Or.inl rfl⟩
theorem fa_X6_28_10 : FA RX6 28 10 5 := ⟨by decide, "HeroSheet$Rule", fl_X6_28, Or.inl rfl⟩
theorem fr_X6_28 {ci : Nat} (h : rk ci = true) : FA RX6 28 ci 5 := by
  rcases rk_of h with rfl | rfl | rfl | rfl | rfl | rfl | rfl
  · exact fa_X6_28_0
  · exact fa_X6_28_2
  · exact fa_X6_28_3
  · exact fa_X6_28_4
  · exact fa_X6_28_6
  · exact fa_X6_28_7
  · exact fa_X6_28_10
theorem fa_X4_23_0 : FA RX4 23 0 5 := ⟨by decide, "HeroSheet$Opens", fl_X4_23, Or.inr sf_X4_source⟩
theorem fa_X4_23_2 : FA RX4 23 2 5 := ⟨by decide, "HeroSheet$Opens", fl_X4_23, Or.inr sf_X4_source⟩
theorem fa_X4_23_3 : FA RX4 23 3 5 := ⟨by decide, "HeroSheet$Opens", fl_X4_23, Or.inr sf_X4_source⟩
theorem fa_X4_23_4 : FA RX4 23 4 5 := ⟨by decide, "HeroSheet$Opens", fl_X4_23, Or.inr sf_X4_source⟩
theorem fa_X4_23_6 : FA RX4 23 6 5 := ⟨by decide, "HeroSheet$Opens", fl_X4_23, Or.inr sf_X4_source⟩
theorem fa_X4_23_7 : FA RX4 23 7 5 := ⟨by decide, "HeroSheet$Opens", fl_X4_23, Or.inr sf_X4_source⟩
theorem fa_X4_23_10 : FA RX4 23 10 5 := ⟨by decide, "HeroSheet$Opens", fl_X4_23, Or.inr sf_X4_source⟩
theorem fr_X4_23 {ci : Nat} (h : rk ci = true) : FA RX4 23 ci 5 := by
  rcases rk_of h with rfl | rfl | rfl | rfl | rfl | rfl | rfl
  · exact fa_X4_23_0
  · exact fa_X4_23_2
  · exact fa_X4_23_3
  · exact fa_X4_23_4
  · exact fa_X4_23_6
  · exact fa_X4_23_7
  · exact fa_X4_23_10
theorem fa_X5_172_0 : FA RX5 172 0 5 := ⟨by decide, "HeroSheet$Rule", fl_X5_172, Or.inl rfl⟩
theorem fa_X5_172_2 : FA RX5 172 2 5 := ⟨by decide, "HeroSheet$Rule", fl_X5_172, Or.inl rfl⟩
theorem fa_X5_172_3 : FA RX5 172 3 5 := ⟨by decide, "HeroSheet$Rule", fl_X5_172, Or.inl rfl⟩
theorem fa_X5_172_4 : FA RX5 172 4 5 := ⟨by decide, "HeroSheet$Rule", fl_X5_172, Or.inl rfl⟩
theorem fa_X5_172_6 : FA RX5 172 6 5 := ⟨by decide, "HeroSheet$Rule", fl_X5_172, Or.inl rfl⟩
theorem fa_X5_172_7 : FA RX5 172 7 5 := ⟨by decide, "HeroSheet$Rule", fl_X5_172, Or.inl rfl⟩
theorem fa_X5_172_10 : FA RX5 172 10 5 := ⟨by decide, "HeroSheet$Rule", fl_X5_172, Or.inl rfl⟩
theorem fr_X5_172 {ci : Nat} (h : rk ci = true) : FA RX5 172 ci 5 := by
  rcases rk_of h with rfl | rfl | rfl | rfl | rfl | rfl | rfl
  · exact fa_X5_172_0
  · exact fa_X5_172_2
  · exact fa_X5_172_3
  · exact fa_X5_172_4
  · exact fa_X5_172_6
  · exact fa_X5_172_7
  · exact fa_X5_172_10
theorem fa_X11_231_0 : FA RX11 231 0 5 := ⟨by decide, "HeroSheet$Rule", fl_X11_231, Or.inl rfl⟩
theorem fa_X11_231_2 : FA RX11 231 2 5 := ⟨by decide, "HeroSheet$Rule", fl_X11_231, Or.inl rfl⟩
theorem fa_X11_231_3 : FA RX11 231 3 5 := ⟨by decide, "HeroSheet$Rule", fl_X11_231, Or.inl rfl⟩
theorem fa_X11_231_4 : FA RX11 231 4 5 := ⟨by decide, "HeroSheet$Rule", fl_X11_231, Or.inl rfl⟩
theorem fa_X11_231_6 : FA RX11 231 6 5 := ⟨by decide, "HeroSheet$Rule", fl_X11_231, Or.inl rfl⟩
theorem fa_X11_231_7 : FA RX11 231 7 5 := ⟨by decide, "HeroSheet$Rule", fl_X11_231, Or.inl rfl⟩
theorem fa_X11_231_10 : FA RX11 231 10 5 := ⟨by decide, "HeroSheet$Rule", fl_X11_231, Or.inl rfl⟩
theorem fr_X11_231 {ci : Nat} (h : rk ci = true) : FA RX11 231 ci 5 := by
  rcases rk_of h with rfl | rfl | rfl | rfl | rfl | rfl | rfl
  · exact fa_X11_231_0
  · exact fa_X11_231_2
  · exact fa_X11_231_3
  · exact fa_X11_231_4
  · exact fa_X11_231_6
  · exact fa_X11_231_7
  · exact fa_X11_231_10
theorem fa_X6_31_0 : FA RX6 31 0 6 := ⟨by decide, "HeroSheet$Rule", fl_X6_31, Or.inl rfl⟩
theorem fa_X6_31_2 : FA RX6 31 2 6 := ⟨by decide, "HeroSheet$Rule", fl_X6_31, Or.inl rfl⟩
theorem fa_X6_31_3 : FA RX6 31 3 6 := ⟨by decide, "HeroSheet$Rule", fl_X6_31, Or.inl rfl⟩
theorem fa_X6_31_4 : FA RX6 31 4 6 := ⟨by decide, "HeroSheet$Rule", fl_X6_31, Or.inl rfl⟩
theorem fa_X6_31_6 : FA RX6 31 6 6 := ⟨by decide, "HeroSheet$Rule", fl_X6_31, Or.inl rfl⟩
theorem fa_X6_31_7 : FA RX6 31 7 6 := ⟨by decide, "HeroSheet$Rule", fl_X6_31, Or.inl rfl⟩
theorem fa_X6_31_10 : FA RX6 31 10 6 := ⟨by decide, "HeroSheet$Rule", fl_X6_31, Or.inl rfl⟩
theorem fr_X6_31 {ci : Nat} (h : rk ci = true) : FA RX6 31 ci 6 := by
  rcases rk_of h with rfl | rfl | rfl | rfl | rfl | rfl | rfl
  · exact fa_X6_31_0
  · exact fa_X6_31_2
  · exact fa_X6_31_3
  · exact fa_X6_31_4
  · exact fa_X6_31_6
  · exact fa_X6_31_7
  · exact fa_X6_31_10
theorem fa_X5_86_0 : FA RX5 86 0 6 := ⟨by decide, "HeroSheet$Rule", fl_X5_86, Or.inl rfl⟩
theorem fa_X5_86_2 : FA RX5 86 2 6 := ⟨by decide, "HeroSheet$Rule", fl_X5_86, Or.inl rfl⟩
theorem fa_X5_86_3 : FA RX5 86 3 6 := ⟨by decide, "HeroSheet$Rule", fl_X5_86, Or.inl rfl⟩
theorem fa_X5_86_4 : FA RX5 86 4 6 := ⟨by decide, "HeroSheet$Rule", fl_X5_86, Or.inl rfl⟩
theorem fa_X5_86_6 : FA RX5 86 6 6 := ⟨by decide, "HeroSheet$Rule", fl_X5_86, Or.inl rfl⟩
theorem fa_X5_86_7 : FA RX5 86 7 6 := ⟨by decide, "HeroSheet$Rule", fl_X5_86, Or.inl rfl⟩
theorem fa_X5_86_10 : FA RX5 86 10 6 := ⟨by decide, "HeroSheet$Rule", fl_X5_86, Or.inl rfl⟩
theorem fr_X5_86 {ci : Nat} (h : rk ci = true) : FA RX5 86 ci 6 := by
  rcases rk_of h with rfl | rfl | rfl | rfl | rfl | rfl | rfl
  · exact fa_X5_86_0
  · exact fa_X5_86_2
  · exact fa_X5_86_3
  · exact fa_X5_86_4
  · exact fa_X5_86_6
  · exact fa_X5_86_7
  · exact fa_X5_86_10
theorem fa_X8_73_0 : FA RX8 73 0 6 := ⟨by decide, "HeroSheet$Rule", fl_X8_73, Or.inl rfl⟩
theorem fa_X8_73_2 : FA RX8 73 2 6 := ⟨by decide, "HeroSheet$Rule", fl_X8_73, Or.inl rfl⟩
theorem fa_X8_73_3 : FA RX8 73 3 6 := ⟨by decide, "HeroSheet$Rule", fl_X8_73, Or.inl rfl⟩
theorem fa_X8_73_4 : FA RX8 73 4 6 := ⟨by decide, "HeroSheet$Rule", fl_X8_73, Or.inl rfl⟩
theorem fa_X8_73_6 : FA RX8 73 6 6 := ⟨by decide, "HeroSheet$Rule", fl_X8_73, Or.inl rfl⟩
theorem fa_X8_73_7 : FA RX8 73 7 6 := ⟨by decide, "HeroSheet$Rule", fl_X8_73, Or.inl rfl⟩
theorem fa_X8_73_10 : FA RX8 73 10 6 := ⟨by decide, "HeroSheet$Rule", fl_X8_73, Or.inl rfl⟩
theorem fr_X8_73 {ci : Nat} (h : rk ci = true) : FA RX8 73 ci 6 := by
  rcases rk_of h with rfl | rfl | rfl | rfl | rfl | rfl | rfl
  · exact fa_X8_73_0
  · exact fa_X8_73_2
  · exact fa_X8_73_3
  · exact fa_X8_73_4
  · exact fa_X8_73_6
  · exact fa_X8_73_7
  · exact fa_X8_73_10
theorem fa_X11_250_0 : FA RX11 250 0 6 := ⟨by decide, "HeroSheet$Rule", fl_X11_250, Or.inl rfl⟩
theorem fa_X11_250_2 : FA RX11 250 2 6 := ⟨by decide, "HeroSheet$Rule", fl_X11_250, Or.inl rfl⟩
theorem fa_X11_250_3 : FA RX11 250 3 6 := ⟨by decide, "HeroSheet$Rule", fl_X11_250, Or.inl rfl⟩
theorem fa_X11_250_4 : FA RX11 250 4 6 := ⟨by decide, "HeroSheet$Rule", fl_X11_250, Or.inl rfl⟩
theorem fa_X11_250_6 : FA RX11 250 6 6 := ⟨by decide, "HeroSheet$Rule", fl_X11_250, Or.inl rfl⟩
theorem fa_X11_250_7 : FA RX11 250 7 6 := ⟨by decide, "HeroSheet$Rule", fl_X11_250, Or.inl rfl⟩
theorem fa_X11_250_10 : FA RX11 250 10 6 := ⟨by decide, "HeroSheet$Rule", fl_X11_250, Or.inl rfl⟩
theorem fr_X11_250 {ci : Nat} (h : rk ci = true) : FA RX11 250 ci 6 := by
  rcases rk_of h with rfl | rfl | rfl | rfl | rfl | rfl | rfl
  · exact fa_X11_250_0
  · exact fa_X11_250_2
  · exact fa_X11_250_3
  · exact fa_X11_250_4
  · exact fa_X11_250_6
  · exact fa_X11_250_7
  · exact fa_X11_250_10
theorem fa_X6_34_0 : FA RX6 34 0 7 := ⟨by decide, "HeroSheet$Rule", fl_X6_34, Or.inl rfl⟩
theorem fa_X6_34_2 : FA RX6 34 2 7 := ⟨by decide, "HeroSheet$Rule", fl_X6_34, Or.inl rfl⟩
theorem fa_X6_34_3 : FA RX6 34 3 7 := ⟨by decide, "HeroSheet$Rule", fl_X6_34, Or.inl rfl⟩
theorem fa_X6_34_4 : FA RX6 34 4 7 := ⟨by decide, "HeroSheet$Rule", fl_X6_34, Or.inl rfl⟩
theorem fa_X6_34_6 : FA RX6 34 6 7 := ⟨by decide, "HeroSheet$Rule", fl_X6_34, Or.inl rfl⟩
theorem fa_X6_34_7 : FA RX6 34 7 7 := ⟨by decide, "HeroSheet$Rule", fl_X6_34, Or.inl rfl⟩
theorem fa_X6_34_10 : FA RX6 34 10 7 := ⟨by decide, "HeroSheet$Rule", fl_X6_34, Or.inl rfl⟩
theorem fr_X6_34 {ci : Nat} (h : rk ci = true) : FA RX6 34 ci 7 := by
  rcases rk_of h with rfl | rfl | rfl | rfl | rfl | rfl | rfl
  · exact fa_X6_34_0
  · exact fa_X6_34_2
  · exact fa_X6_34_3
  · exact fa_X6_34_4
  · exact fa_X6_34_6
  · exact fa_X6_34_7
  · exact fa_X6_34_10
theorem fa_X6_37_0 : FA RX6 37 0 8 := ⟨by decide, "HeroSheet$Rule", fl_X6_37, Or.inl rfl⟩
theorem fa_X6_37_2 : FA RX6 37 2 8 := ⟨by decide, "HeroSheet$Rule", fl_X6_37, Or.inl rfl⟩
theorem fa_X6_37_3 : FA RX6 37 3 8 := ⟨by decide, "HeroSheet$Rule", fl_X6_37, Or.inl rfl⟩
theorem fa_X6_37_4 : FA RX6 37 4 8 := ⟨by decide, "HeroSheet$Rule", fl_X6_37, Or.inl rfl⟩
theorem fa_X6_37_6 : FA RX6 37 6 8 := ⟨by decide, "HeroSheet$Rule", fl_X6_37, Or.inl rfl⟩
theorem fa_X6_37_7 : FA RX6 37 7 8 := ⟨by decide, "HeroSheet$Rule", fl_X6_37, Or.inl rfl⟩
theorem fa_X6_37_10 : FA RX6 37 10 8 := ⟨by decide, "HeroSheet$Rule", fl_X6_37, Or.inl rfl⟩
theorem fr_X6_37 {ci : Nat} (h : rk ci = true) : FA RX6 37 ci 8 := by
  rcases rk_of h with rfl | rfl | rfl | rfl | rfl | rfl | rfl
  · exact fa_X6_37_0
  · exact fa_X6_37_2
  · exact fa_X6_37_3
  · exact fa_X6_37_4
  · exact fa_X6_37_6
  · exact fa_X6_37_7
  · exact fa_X6_37_10
theorem fa_X6_40_0 : FA RX6 40 0 9 := ⟨by decide, "HeroSheet$Rule", fl_X6_40, Or.inl rfl⟩
theorem fa_X6_40_2 : FA RX6 40 2 9 := ⟨by decide, "HeroSheet$Rule", fl_X6_40, Or.inl rfl⟩
theorem fa_X6_40_3 : FA RX6 40 3 9 := ⟨by decide, "HeroSheet$Rule", fl_X6_40, Or.inl rfl⟩
theorem fa_X6_40_4 : FA RX6 40 4 9 := ⟨by decide, "HeroSheet$Rule", fl_X6_40, Or.inl rfl⟩
theorem fa_X6_40_6 : FA RX6 40 6 9 := ⟨by decide, "HeroSheet$Rule", fl_X6_40, Or.inl rfl⟩
theorem fa_X6_40_7 : FA RX6 40 7 9 := ⟨by decide, "HeroSheet$Rule", fl_X6_40, Or.inl rfl⟩
theorem fa_X6_40_10 : FA RX6 40 10 9 := ⟨by decide, "HeroSheet$Rule", fl_X6_40, Or.inl rfl⟩
theorem fr_X6_40 {ci : Nat} (h : rk ci = true) : FA RX6 40 ci 9 := by
  rcases rk_of h with rfl | rfl | rfl | rfl | rfl | rfl | rfl
  · exact fa_X6_40_0
  · exact fa_X6_40_2
  · exact fa_X6_40_3
  · exact fa_X6_40_4
  · exact fa_X6_40_6
  · exact fa_X6_40_7
  · exact fa_X6_40_10
theorem fa_X2_9_2 : FA RX2 9 2 10 := ⟨by decide, "HeroSheet$Cap", fl_X2_9, Or.inl rfl⟩
theorem fa_X5_194_2 : FA RX5 194 2 10 := ⟨by decide, "HeroSheet$Cap", fl_X5_194, Or.inl rfl⟩
theorem fa_X10_9_10 : FA RX10 9 10 10 := ⟨by decide, "HeroSheet$Typed", fl_X10_9, Or.inl rfl⟩
theorem fa_X5_185_10 : FA RX5 185 10 10 := ⟨by decide, "HeroSheet$Typed", fl_X5_185, Or.inl rfl⟩
theorem fa_X11_234_10 : FA RX11 234 10 10 := ⟨by decide, "HeroSheet$Typed", fl_X11_234, Or.inl rfl⟩
theorem fa_X12_7_12 : FA RX12 7 12 0 := ⟨by decide, "HeroSheetModel", fl_X12_7, Or.inl rfl⟩
theorem fa_X12_13_12 : FA RX12 13 12 1 := ⟨by decide, "HeroSheetModel", fl_X12_13, Or.inl rfl⟩
theorem fa_X12_16_12 : FA RX12 16 12 2 := ⟨by decide, "HeroSheetModel", fl_X12_16, Or.inl rfl⟩
theorem fa_X12_19_12 : FA RX12 19 12 3 := ⟨by decide, "HeroSheetModel", fl_X12_19, Or.inl rfl⟩
theorem fa_X12_22_12 : FA RX12 22 12 4 := ⟨by decide, "HeroSheetModel", fl_X12_22, Or.inl rfl⟩
theorem fa_X12_25_12 : FA RX12 25 12 5 := ⟨by decide, "HeroSheetModel", fl_X12_25, Or.inl rfl⟩
theorem fa_X12_28_12 : FA RX12 28 12 6 := ⟨by decide, "HeroSheetModel", fl_X12_28, Or.inl rfl⟩
theorem fa_X12_31_12 : FA RX12 31 12 7 := ⟨by decide, "HeroSheetModel", fl_X12_31, Or.inl rfl⟩
theorem fa_X12_34_12 : FA RX12 34 12 8 := ⟨by decide, "HeroSheetModel", fl_X12_34, Or.inl rfl⟩
theorem fa_X12_37_12 : FA RX12 37 12 9 := ⟨by decide, "HeroSheetModel", fl_X12_37, Or.inl rfl⟩
theorem fa_X12_40_12 : FA RX12 40 12 10 := ⟨by decide, "HeroSheetModel", fl_X12_40, Or.inl rfl⟩
theorem fa_X12_43_12 : FA RX12 43 12 11 := ⟨by decide, "HeroSheetModel", fl_X12_43, Or.inl rfl⟩
theorem fa_X12_46_12 : FA RX12 46 12 12 := ⟨by decide, "HeroSheetModel", fl_X12_46, Or.inl rfl⟩
theorem fa_X12_49_12 : FA RX12 49 12 13 := ⟨by decide, "HeroSheetModel", fl_X12_49, Or.inl rfl⟩
theorem fa_X12_52_12 : FA RX12 52 12 14 := ⟨by decide, "HeroSheetModel", fl_X12_52, Or.inl rfl⟩
theorem fa_X12_55_12 : FA RX12 55 12 15 := ⟨by decide, "HeroSheetModel", fl_X12_55, Or.inl rfl⟩
theorem fa_X12_58_12 : FA RX12 58 12 16 := ⟨by decide, "HeroSheetModel", fl_X12_58, Or.inl rfl⟩
theorem fa_X12_61_12 : FA RX12 61 12 17 := ⟨by decide, "HeroSheetModel", fl_X12_61, Or.inl rfl⟩
theorem fa_X12_64_12 : FA RX12 64 12 18 := ⟨by decide, "HeroSheetModel", fl_X12_64, Or.inl rfl⟩
theorem fa_X12_67_12 : FA RX12 67 12 19 := ⟨by decide, "HeroSheetModel", fl_X12_67, Or.inl rfl⟩
theorem fa_X12_70_12 : FA RX12 70 12 20 := ⟨by decide, "HeroSheetModel", fl_X12_70, Or.inl rfl⟩
theorem fa_X12_73_12 : FA RX12 73 12 21 := ⟨by decide, "HeroSheetModel", fl_X12_73, Or.inl rfl⟩
theorem fa_X12_222_12 : FA RX12 222 12 22 := ⟨by decide, "HeroSheetModel", fl_X12_222, Or.inl rfl⟩
theorem fa_X12_225_12 : FA RX12 225 12 23 := ⟨by decide, "HeroSheetModel", fl_X12_225, Or.inl rfl⟩
theorem fa_X12_129_12 : FA RX12 129 12 24 := ⟨by decide, "HeroSheetModel", fl_X12_129, Or.inl rfl⟩
theorem fa_X12_164_12 : FA RX12 164 12 25 := ⟨by decide, "HeroSheetModel", fl_X12_164, Or.inl rfl⟩
theorem fa_X12_167_12 : FA RX12 167 12 26 := ⟨by decide, "HeroSheetModel", fl_X12_167, Or.inl rfl⟩
theorem fa_X12_177_12 : FA RX12 177 12 27 := ⟨by decide, "HeroSheetModel", fl_X12_177, Or.inl rfl⟩
theorem fa_X12_76_12 : FA RX12 76 12 28 := ⟨by decide, "HeroSheetModel", fl_X12_76, Or.inl rfl⟩
theorem fa_X12_79_12 : FA RX12 79 12 29 := ⟨by decide, "HeroSheetModel", fl_X12_79, Or.inl rfl⟩
theorem fa_X12_82_12 : FA RX12 82 12 30 := ⟨by decide, "HeroSheetModel", fl_X12_82, Or.inl rfl⟩
theorem fa_X12_200_12 : FA RX12 200 12 31 := ⟨by decide, "HeroSheetModel", fl_X12_200, Or.inl rfl⟩
theorem fa_X12_211_12 : FA RX12 211 12 32 := ⟨by decide, "HeroSheetModel", fl_X12_211, Or.inl rfl⟩
theorem fa_X12_85_12 : FA RX12 85 12 33 := ⟨by decide, "HeroSheetModel", fl_X12_85, Or.inl rfl⟩
theorem fa_X12_89_12 : FA RX12 89 12 34 := ⟨by decide, "HeroSheetModel", fl_X12_89, Or.inl rfl⟩
theorem fa_X12_92_12 : FA RX12 92 12 35 := ⟨by decide, "HeroSheetModel", fl_X12_92, Or.inl rfl⟩
theorem fa_X12_95_12 : FA RX12 95 12 36 := ⟨by decide, "HeroSheetModel", fl_X12_95, Or.inl rfl⟩
theorem fa_X12_153_12 : FA RX12 153 12 37 := ⟨by decide, "HeroSheetModel", fl_X12_153, Or.inl rfl⟩
theorem fa_X12_228_12 : FA RX12 228 12 38 := ⟨by decide, "HeroSheetModel", fl_X12_228, Or.inl rfl⟩
theorem fa_X12_271_12 : FA RX12 271 12 39 := ⟨by decide, "HeroSheetModel", fl_X12_271, Or.inl rfl⟩
theorem fa_X12_99_12 : FA RX12 99 12 40 := ⟨by decide, "HeroSheetModel", fl_X12_99, Or.inl rfl⟩
theorem fa_X12_102_12 : FA RX12 102 12 41 := ⟨by decide, "HeroSheetModel", fl_X12_102, Or.inl rfl⟩
theorem fa_X12_105_12 : FA RX12 105 12 42 := ⟨by decide, "HeroSheetModel", fl_X12_105, Or.inl rfl⟩
theorem fa_X12_108_12 : FA RX12 108 12 43 := ⟨by decide, "HeroSheetModel", fl_X12_108, Or.inl rfl⟩
theorem fa_X12_111_12 : FA RX12 111 12 44 := ⟨by decide, "HeroSheetModel", fl_X12_111, Or.inl rfl⟩
theorem fa_X12_114_12 : FA RX12 114 12 45 := ⟨by decide, "HeroSheetModel", fl_X12_114, Or.inl rfl⟩
theorem fa_X12_117_12 : FA RX12 117 12 46 := ⟨by decide, "HeroSheetModel", fl_X12_117, Or.inl rfl⟩
theorem fa_X12_304_12 : FA RX12 304 12 47 := ⟨by decide, "HeroSheetModel", fl_X12_304, Or.inl rfl⟩
theorem fa_X12_120_12 : FA RX12 120 12 48 := ⟨by decide, "HeroSheetModel", fl_X12_120, Or.inl rfl⟩
theorem fa_X12_123_12 : FA RX12 123 12 49 := ⟨by decide, "HeroSheetModel", fl_X12_123, Or.inl rfl⟩
theorem fa_X12_126_12 : FA RX12 126 12 50 := ⟨by decide, "HeroSheetModel", fl_X12_126, Or.inl rfl⟩
theorem rk_ft {ci j : Nat} (h : rk ci = true) (hj : j < 10) : ft ci j = ft 6 j := by
  have : ∀ ci ∈ [0, 2, 3, 4, 6, 7, 10], ∀ j, j < 10 → ft ci j = ft 6 j := by decide
  exact this ci (by simpa [rk] using h) j hj
section TW
variable {E : EV} {M : MD} {κ : Option Value → HP → Prop} {pc pc' : Nat} {L st : List Value} {N : Nat} {S : Nat → Nat × Nat} {I : Nat → Nat → Int32} {J : Nat → Nat → Int64} {Q : Nat → Nat → Option Nat} {cs ss : Nat} {a ci n q j idx : Nat} {i : Int32}
theorem t_getI (hd : decode M.2.1 pc = .ok (.getfield idx, 3)) (hp : pc + 3 = pc') (hs : Sh E (N, S, I, J, Q) a ci n) (hc : ci < 13) (hF : FA M.1.cls idx ci j) (ht : (ft ci j == 2) = false) (k : SP E M κ pc' L (.int (I a j) :: st) (N, S, I, J, Q) cs ss) : SP E M κ pc L (.ref a :: st) (N, S, I, J, Q) cs ss := s_getI hd hp hs hc hF ht k
theorem t_getR {b : Nat} (hd : decode M.2.1 pc = .ok (.getfield idx, 3)) (hp : pc + 3 = pc') (hs : Sh E (N, S, I, J, Q) a ci n) (hc : ci < 13) (hF : FA M.1.cls idx ci j) (ht : ft ci j = 2) (hr : Q a j = some b) (k : SP E M κ pc' L (.ref b :: st) (N, S, I, J, Q) cs ss) : SP E M κ pc L (.ref a :: st) (N, S, I, J, Q) cs ss := s_getR hd hp hs hc hF ht hr k
theorem t_putI {x : Int32} (hd : decode M.2.1 pc = .ok (.putfield idx, 3)) (hp : pc + 3 = pc') (hs : Sh E (N, S, I, J, Q) a ci n) (hc : ci < 13) (hF : FA M.1.cls idx ci j) (hfin : ((cQ ci).2.1 j).2.2.2 = false ∨ (((cQ ci).2.1 j).2.2.2 = true ∧ M.1.name = "<init>" ∧ ((cQ ci).2.1 j).1 = M.1.cls)) (ht : (ft ci j == 2) = false) (hn : narrow (cTy ci j) (.int x) = .int x) (hfit : fits (cTy ci j) (.int x) = true) (k : SP E M κ pc' L st (N, S, up2 I a j x, J, Q) cs ss) : SP E M κ pc L (.int x :: .ref a :: st) (N, S, I, J, Q) cs ss := s_putI hd hp hs hc hF hfin ht hn hfit k
theorem t_putR {r : Option Nat} {v : Value} (hd : decode M.2.1 pc = .ok (.putfield idx, 3)) (hp : pc + 3 = pc') (hv : v = vr r) (hs : Sh E (N, S, I, J, Q) a ci n) (hc : ci < 13) (hF : FA M.1.cls idx ci j) (hfin : ((cQ ci).2.1 j).2.2.2 = false ∨ (((cQ ci).2.1 j).2.2.2 = true ∧ M.1.name = "<init>" ∧ ((cQ ci).2.1 j).1 = M.1.cls)) (ht : ft ci j = 2) (hx : a < E.1 → E.2.2 a j = none) (k : SP E M κ pc' L st (N, S, I, J, up2 Q a j r) cs ss) : SP E M κ pc L (v :: .ref a :: st) (N, S, I, J, Q) cs ss := by
  subst hv; exact s_putR hd hp hs hc hF hfin ht hx k
theorem t_iald (hd : decode M.2.1 pc = .ok (.iaload, 1)) (hp : pc + 1 = pc') (hs : Sh E (N, S, I, J, Q) a 13 n) (hi : i = nI q) (hq : q < n) (k : SP E M κ pc' L (.int (I a q) :: st) (N, S, I, J, Q) cs ss) : SP E M κ pc L (.int i :: .ref a :: st) (N, S, I, J, Q) cs ss := s_iald hd hp hs hi hq k
theorem t_zald (hd : decode M.2.1 pc = .ok (.baload, 1)) (hp : pc + 1 = pc') (hs : Sh E (N, S, I, J, Q) a 15 n) (hi : i = nI q) (hq : q < n) (k : SP E M κ pc' L (.int (I a q) :: st) (N, S, I, J, Q) cs ss) : SP E M κ pc L (.int i :: .ref a :: st) (N, S, I, J, Q) cs ss := s_zald hd hp hs hi hq k
theorem t_lald (hd : decode M.2.1 pc = .ok (.laload, 1)) (hp : pc + 1 = pc') (hs : Sh E (N, S, I, J, Q) a 14 n) (hi : i = nI q) (hq : q < n) (k : SP E M κ pc' L (.long (J a q) :: st) (N, S, I, J, Q) cs ss) : SP E M κ pc L (.int i :: .ref a :: st) (N, S, I, J, Q) cs ss := s_lald hd hp hs hi hq k
theorem t_aald {b : Nat} (hd : decode M.2.1 pc = .ok (.aaload, 1)) (hp : pc + 1 = pc') (hk : ci = 16 ∨ ci = 17) (hs : Sh E (N, S, I, J, Q) a ci n) (hi : i = nI q) (hq : q < n) (hb : Q a q = some b) (k : SP E M κ pc' L (.ref b :: st) (N, S, I, J, Q) cs ss) : SP E M κ pc L (.int i :: .ref a :: st) (N, S, I, J, Q) cs ss := s_aald hd hp hk hs hi hq hb k
theorem t_aaldV (hd : decode M.2.1 pc = .ok (.aaload, 1)) (hp : pc + 1 = pc') (hk : ci = 16 ∨ ci = 17) (hs : Sh E (N, S, I, J, Q) a ci n) (hi : i = nI q) (hq : q < n) (k : SP E M κ pc' L (vr (Q a q) :: st) (N, S, I, J, Q) cs ss) : SP E M κ pc L (.int i :: .ref a :: st) (N, S, I, J, Q) cs ss := s_aaldV hd hp hk hs hi hq k
theorem t_iast {x : Int32} (hd : decode M.2.1 pc = .ok (.iastore, 1)) (hp : pc + 1 = pc') (hs : Sh E (N, S, I, J, Q) a 13 n) (hi : i = nI q) (hq : q < n) (k : SP E M κ pc' L st (N, S, up2 I a q x, J, Q) cs ss) : SP E M κ pc L (.int x :: .int i :: .ref a :: st) (N, S, I, J, Q) cs ss := s_iast hd hp hs hi hq k
theorem t_zast {x : Int32} (hd : decode M.2.1 pc = .ok (.bastore, 1)) (hp : pc + 1 = pc') (hs : Sh E (N, S, I, J, Q) a 15 n) (hi : i = nI q) (hq : q < n) (hx : narrow .boolean (.int x) = .int x) (k : SP E M κ pc' L st (N, S, up2 I a q x, J, Q) cs ss) : SP E M κ pc L (.int x :: .int i :: .ref a :: st) (N, S, I, J, Q) cs ss := s_zast hd hp hs hi hq hx k
theorem t_last {x : Int64} (hd : decode M.2.1 pc = .ok (.lastore, 1)) (hp : pc + 1 = pc') (hs : Sh E (N, S, I, J, Q) a 14 n) (hi : i = nI q) (hq : q < n) (k : SP E M κ pc' L st (N, S, I, up2 J a q x, Q) cs ss) : SP E M κ pc L (.long x :: .int i :: .ref a :: st) (N, S, I, J, Q) cs ss := s_last hd hp hs hi hq k
theorem t_aast {b : Nat} (hd : decode M.2.1 pc = .ok (.aastore, 1)) (hp : pc + 1 = pc') (hs : Sh E (N, S, I, J, Q) a 16 n) (hi : i = nI q) (hq : q < n) (hb : Sh E (N, S, I, J, Q) b ci 0) (hk : rk ci = true) (hx : a < E.1 → ∀ j, E.2.2 a j = none) (k : SP E M κ pc' L st (N, S, I, J, up2 Q a q (some b)) cs ss) : SP E M κ pc L (.ref b :: .int i :: .ref a :: st) (N, S, I, J, Q) cs ss := s_aast hd hp hs hi hq hb hk hx k
end TW
theorem s_ifeqT {E : EV} {M : MD} {κ : Option Value → HP → Prop} {pc : Nat} {L st : List Value} {h : HP} {cs ss : Nat} {x : Int32} {off : Int} {tgt : Nat} (hd : decode M.2.1 pc = .ok (.ifCond .eq off, 3)) (ht : (pc : Int) + off = (tgt : Int)) (hx : x = 0) (k : SP E M κ tgt L st h cs ss) : SP E M κ pc L (.int x :: st) h cs ss := s_ifeq hd ht rfl (fun _ => k) (fun z => absurd hx z)
theorem s_ifeqF {E : EV} {M : MD} {κ : Option Value → HP → Prop} {pc pc' : Nat} {L st : List Value} {h : HP} {cs ss : Nat} {x : Int32} {off : Int} (hd : decode M.2.1 pc = .ok (.ifCond .eq off, 3)) {tgt : Nat} (ht : (pc : Int) + off = (tgt : Int)) (hp : pc + 3 = pc') (hx : ¬ x = 0) (k : SP E M κ pc' L st h cs ss) : SP E M κ pc L (.int x :: st) h cs ss := s_ifeq hd ht hp (fun z => absurd z hx) (fun _ => k)
theorem s_ifneT {E : EV} {M : MD} {κ : Option Value → HP → Prop} {pc : Nat} {L st : List Value} {h : HP} {cs ss : Nat} {x : Int32} {off : Int} {tgt : Nat} (hd : decode M.2.1 pc = .ok (.ifCond .ne off, 3)) (ht : (pc : Int) + off = (tgt : Int)) (hx : x ≠ 0) (k : SP E M κ tgt L st h cs ss) : SP E M κ pc L (.int x :: st) h cs ss := s_ifne hd ht rfl (fun _ => k) (fun z => absurd z hx)
theorem s_ifneF {E : EV} {M : MD} {κ : Option Value → HP → Prop} {pc pc' : Nat} {L st : List Value} {h : HP} {cs ss : Nat} {x : Int32} {off : Int} (hd : decode M.2.1 pc = .ok (.ifCond .ne off, 3)) {tgt : Nat} (ht : (pc : Int) + off = (tgt : Int)) (hp : pc + 3 = pc') (hx : x = 0) (k : SP E M κ pc' L st h cs ss) : SP E M κ pc L (.int x :: st) h cs ss := s_ifne hd ht hp (fun z => absurd hx z) (fun _ => k)
theorem s_ifltT {E : EV} {M : MD} {κ : Option Value → HP → Prop} {pc : Nat} {L st : List Value} {h : HP} {cs ss : Nat} {x : Int32} {off : Int} {tgt : Nat} (hd : decode M.2.1 pc = .ok (.ifCond .lt off, 3)) (ht : (pc : Int) + off = (tgt : Int)) (hx : x < 0) (k : SP E M κ tgt L st h cs ss) : SP E M κ pc L (.int x :: st) h cs ss := s_iflt hd ht rfl (fun _ => k) (fun z => absurd hx z)
theorem s_ifltF {E : EV} {M : MD} {κ : Option Value → HP → Prop} {pc pc' : Nat} {L st : List Value} {h : HP} {cs ss : Nat} {x : Int32} {off : Int} (hd : decode M.2.1 pc = .ok (.ifCond .lt off, 3)) {tgt : Nat} (ht : (pc : Int) + off = (tgt : Int)) (hp : pc + 3 = pc') (hx : ¬ x < 0) (k : SP E M κ pc' L st h cs ss) : SP E M κ pc L (.int x :: st) h cs ss := s_iflt hd ht hp (fun z => absurd z hx) (fun _ => k)
theorem s_ifgeT {E : EV} {M : MD} {κ : Option Value → HP → Prop} {pc : Nat} {L st : List Value} {h : HP} {cs ss : Nat} {x : Int32} {off : Int} {tgt : Nat} (hd : decode M.2.1 pc = .ok (.ifCond .ge off, 3)) (ht : (pc : Int) + off = (tgt : Int)) (hx : 0 ≤ x) (k : SP E M κ tgt L st h cs ss) : SP E M κ pc L (.int x :: st) h cs ss := s_ifge hd ht rfl (fun _ => k) (fun z => absurd hx z)
theorem s_ifgeF {E : EV} {M : MD} {κ : Option Value → HP → Prop} {pc pc' : Nat} {L st : List Value} {h : HP} {cs ss : Nat} {x : Int32} {off : Int} (hd : decode M.2.1 pc = .ok (.ifCond .ge off, 3)) {tgt : Nat} (ht : (pc : Int) + off = (tgt : Int)) (hp : pc + 3 = pc') (hx : ¬ 0 ≤ x) (k : SP E M κ pc' L st h cs ss) : SP E M κ pc L (.int x :: st) h cs ss := s_ifge hd ht hp (fun z => absurd z hx) (fun _ => k)
theorem s_ifgtT {E : EV} {M : MD} {κ : Option Value → HP → Prop} {pc : Nat} {L st : List Value} {h : HP} {cs ss : Nat} {x : Int32} {off : Int} {tgt : Nat} (hd : decode M.2.1 pc = .ok (.ifCond .gt off, 3)) (ht : (pc : Int) + off = (tgt : Int)) (hx : 0 < x) (k : SP E M κ tgt L st h cs ss) : SP E M κ pc L (.int x :: st) h cs ss := s_ifgt hd ht rfl (fun _ => k) (fun z => absurd hx z)
theorem s_ifgtF {E : EV} {M : MD} {κ : Option Value → HP → Prop} {pc pc' : Nat} {L st : List Value} {h : HP} {cs ss : Nat} {x : Int32} {off : Int} (hd : decode M.2.1 pc = .ok (.ifCond .gt off, 3)) {tgt : Nat} (ht : (pc : Int) + off = (tgt : Int)) (hp : pc + 3 = pc') (hx : ¬ 0 < x) (k : SP E M κ pc' L st h cs ss) : SP E M κ pc L (.int x :: st) h cs ss := s_ifgt hd ht hp (fun z => absurd z hx) (fun _ => k)
theorem s_ifleT {E : EV} {M : MD} {κ : Option Value → HP → Prop} {pc : Nat} {L st : List Value} {h : HP} {cs ss : Nat} {x : Int32} {off : Int} {tgt : Nat} (hd : decode M.2.1 pc = .ok (.ifCond .le off, 3)) (ht : (pc : Int) + off = (tgt : Int)) (hx : x ≤ 0) (k : SP E M κ tgt L st h cs ss) : SP E M κ pc L (.int x :: st) h cs ss := s_ifle hd ht rfl (fun _ => k) (fun z => absurd hx z)
theorem s_ifleF {E : EV} {M : MD} {κ : Option Value → HP → Prop} {pc pc' : Nat} {L st : List Value} {h : HP} {cs ss : Nat} {x : Int32} {off : Int} (hd : decode M.2.1 pc = .ok (.ifCond .le off, 3)) {tgt : Nat} (ht : (pc : Int) + off = (tgt : Int)) (hp : pc + 3 = pc') (hx : ¬ x ≤ 0) (k : SP E M κ pc' L st h cs ss) : SP E M κ pc L (.int x :: st) h cs ss := s_ifle hd ht hp (fun z => absurd z hx) (fun _ => k)
theorem s_icmpeqT {E : EV} {M : MD} {κ : Option Value → HP → Prop} {pc : Nat} {L st : List Value} {h : HP} {cs ss : Nat} {x y : Int32} {off : Int} {tgt : Nat} (hd : decode M.2.1 pc = .ok (.if_icmp .eq off, 3)) (ht : (pc : Int) + off = (tgt : Int)) (hx : x = y) (k : SP E M κ tgt L st h cs ss) : SP E M κ pc L (.int y :: .int x :: st) h cs ss := s_icmpeq hd ht rfl (fun _ => k) (fun z => absurd hx z)
theorem s_icmpeqF {E : EV} {M : MD} {κ : Option Value → HP → Prop} {pc pc' : Nat} {L st : List Value} {h : HP} {cs ss : Nat} {x y : Int32} {off : Int} (hd : decode M.2.1 pc = .ok (.if_icmp .eq off, 3)) {tgt : Nat} (ht : (pc : Int) + off = (tgt : Int)) (hp : pc + 3 = pc') (hx : ¬ (x = y)) (k : SP E M κ pc' L st h cs ss) : SP E M κ pc L (.int y :: .int x :: st) h cs ss := s_icmpeq hd ht hp (fun z => absurd z hx) (fun _ => k)
theorem s_icmpneT {E : EV} {M : MD} {κ : Option Value → HP → Prop} {pc : Nat} {L st : List Value} {h : HP} {cs ss : Nat} {x y : Int32} {off : Int} {tgt : Nat} (hd : decode M.2.1 pc = .ok (.if_icmp .ne off, 3)) (ht : (pc : Int) + off = (tgt : Int)) (hx : x ≠ y) (k : SP E M κ tgt L st h cs ss) : SP E M κ pc L (.int y :: .int x :: st) h cs ss := s_icmpne hd ht rfl (fun _ => k) (fun z => absurd z hx)
theorem s_icmpneF {E : EV} {M : MD} {κ : Option Value → HP → Prop} {pc pc' : Nat} {L st : List Value} {h : HP} {cs ss : Nat} {x y : Int32} {off : Int} (hd : decode M.2.1 pc = .ok (.if_icmp .ne off, 3)) {tgt : Nat} (ht : (pc : Int) + off = (tgt : Int)) (hp : pc + 3 = pc') (hx : x = y) (k : SP E M κ pc' L st h cs ss) : SP E M κ pc L (.int y :: .int x :: st) h cs ss := s_icmpne hd ht hp (fun z => absurd hx z) (fun _ => k)
theorem s_icmpltT {E : EV} {M : MD} {κ : Option Value → HP → Prop} {pc : Nat} {L st : List Value} {h : HP} {cs ss : Nat} {x y : Int32} {off : Int} {tgt : Nat} (hd : decode M.2.1 pc = .ok (.if_icmp .lt off, 3)) (ht : (pc : Int) + off = (tgt : Int)) (hx : x < y) (k : SP E M κ tgt L st h cs ss) : SP E M κ pc L (.int y :: .int x :: st) h cs ss := s_icmplt hd ht rfl (fun _ => k) (fun z => absurd hx z)
theorem s_icmpltF {E : EV} {M : MD} {κ : Option Value → HP → Prop} {pc pc' : Nat} {L st : List Value} {h : HP} {cs ss : Nat} {x y : Int32} {off : Int} (hd : decode M.2.1 pc = .ok (.if_icmp .lt off, 3)) {tgt : Nat} (ht : (pc : Int) + off = (tgt : Int)) (hp : pc + 3 = pc') (hx : ¬ (x < y)) (k : SP E M κ pc' L st h cs ss) : SP E M κ pc L (.int y :: .int x :: st) h cs ss := s_icmplt hd ht hp (fun z => absurd z hx) (fun _ => k)
theorem s_icmpgeT {E : EV} {M : MD} {κ : Option Value → HP → Prop} {pc : Nat} {L st : List Value} {h : HP} {cs ss : Nat} {x y : Int32} {off : Int} {tgt : Nat} (hd : decode M.2.1 pc = .ok (.if_icmp .ge off, 3)) (ht : (pc : Int) + off = (tgt : Int)) (hx : y ≤ x) (k : SP E M κ tgt L st h cs ss) : SP E M κ pc L (.int y :: .int x :: st) h cs ss := s_icmpge hd ht rfl (fun _ => k) (fun z => absurd hx z)
theorem s_icmpgeF {E : EV} {M : MD} {κ : Option Value → HP → Prop} {pc pc' : Nat} {L st : List Value} {h : HP} {cs ss : Nat} {x y : Int32} {off : Int} (hd : decode M.2.1 pc = .ok (.if_icmp .ge off, 3)) {tgt : Nat} (ht : (pc : Int) + off = (tgt : Int)) (hp : pc + 3 = pc') (hx : ¬ (y ≤ x)) (k : SP E M κ pc' L st h cs ss) : SP E M κ pc L (.int y :: .int x :: st) h cs ss := s_icmpge hd ht hp (fun z => absurd z hx) (fun _ => k)
theorem s_icmpgtT {E : EV} {M : MD} {κ : Option Value → HP → Prop} {pc : Nat} {L st : List Value} {h : HP} {cs ss : Nat} {x y : Int32} {off : Int} {tgt : Nat} (hd : decode M.2.1 pc = .ok (.if_icmp .gt off, 3)) (ht : (pc : Int) + off = (tgt : Int)) (hx : y < x) (k : SP E M κ tgt L st h cs ss) : SP E M κ pc L (.int y :: .int x :: st) h cs ss := s_icmpgt hd ht rfl (fun _ => k) (fun z => absurd hx z)
theorem s_icmpgtF {E : EV} {M : MD} {κ : Option Value → HP → Prop} {pc pc' : Nat} {L st : List Value} {h : HP} {cs ss : Nat} {x y : Int32} {off : Int} (hd : decode M.2.1 pc = .ok (.if_icmp .gt off, 3)) {tgt : Nat} (ht : (pc : Int) + off = (tgt : Int)) (hp : pc + 3 = pc') (hx : ¬ (y < x)) (k : SP E M κ pc' L st h cs ss) : SP E M κ pc L (.int y :: .int x :: st) h cs ss := s_icmpgt hd ht hp (fun z => absurd z hx) (fun _ => k)
theorem s_icmpleT {E : EV} {M : MD} {κ : Option Value → HP → Prop} {pc : Nat} {L st : List Value} {h : HP} {cs ss : Nat} {x y : Int32} {off : Int} {tgt : Nat} (hd : decode M.2.1 pc = .ok (.if_icmp .le off, 3)) (ht : (pc : Int) + off = (tgt : Int)) (hx : x ≤ y) (k : SP E M κ tgt L st h cs ss) : SP E M κ pc L (.int y :: .int x :: st) h cs ss := s_icmple hd ht rfl (fun _ => k) (fun z => absurd hx z)
theorem s_icmpleF {E : EV} {M : MD} {κ : Option Value → HP → Prop} {pc pc' : Nat} {L st : List Value} {h : HP} {cs ss : Nat} {x y : Int32} {off : Int} (hd : decode M.2.1 pc = .ok (.if_icmp .le off, 3)) {tgt : Nat} (ht : (pc : Int) + off = (tgt : Int)) (hp : pc + 3 = pc') (hx : ¬ (x ≤ y)) (k : SP E M κ pc' L st h cs ss) : SP E M κ pc L (.int y :: .int x :: st) h cs ss := s_icmple hd ht hp (fun z => absurd z hx) (fun _ => k)
section TS
variable {E : EV} {M : MD} {κ : Option Value → HP → Prop} {pc pc' : Nat} {L L' st : List Value} {h : HP} {cs ss : Nat}
theorem t_istore_n {q : Fin 4} {x : Int32} (hd : decode M.2.1 pc = .ok (.istore_n q, 1)) (hp : pc + 1 = pc') (hn : (q : Nat) < L.length) (hL : st1 L (q : Nat) (.int x) = L') (k : SP E M κ pc' L' st h cs ss) : SP E M κ pc L (.int x :: st) h cs ss := by subst hL; exact s_istore_n hd hp hn k
theorem t_istore {q : Nat} {x : Int32} (hd : decode M.2.1 pc = .ok (.istore q, 2)) (hp : pc + 2 = pc') (hn : q < L.length) (hL : st1 L q (.int x) = L') (k : SP E M κ pc' L' st h cs ss) : SP E M κ pc L (.int x :: st) h cs ss := by subst hL; exact s_istore hd hp hn k
theorem t_lstore_n {q : Fin 4} {x : Int64} (hd : decode M.2.1 pc = .ok (.lstore_n q, 1)) (hp : pc + 1 = pc') (hn : (q : Nat) + 1 < L.length) (hL : st2 L (q : Nat) (.long x) = L') (k : SP E M κ pc' L' st h cs ss) : SP E M κ pc L (.long x :: st) h cs ss := by subst hL; exact s_lstore_n hd hp hn k
theorem t_lstore {q : Nat} {x : Int64} (hd : decode M.2.1 pc = .ok (.lstore q, 2)) (hp : pc + 2 = pc') (hn : q + 1 < L.length) (hL : st2 L q (.long x) = L') (k : SP E M κ pc' L' st h cs ss) : SP E M κ pc L (.long x :: st) h cs ss := by subst hL; exact s_lstore hd hp hn k
theorem t_astore_n {q : Fin 4} {x : Nat} (hd : decode M.2.1 pc = .ok (.astore_n q, 1)) (hp : pc + 1 = pc') (hn : (q : Nat) < L.length) (hL : st1 L (q : Nat) (.ref x) = L') (k : SP E M κ pc' L' st h cs ss) : SP E M κ pc L (.ref x :: st) h cs ss := by subst hL; exact s_astore_n hd hp hn k
theorem t_astore {q : Nat} {x : Nat} (hd : decode M.2.1 pc = .ok (.astore q, 2)) (hp : pc + 2 = pc') (hn : q < L.length) (hL : st1 L q (.ref x) = L') (k : SP E M κ pc' L' st h cs ss) : SP E M κ pc L (.ref x :: st) h cs ss := by subst hL; exact s_astore hd hp hn k
theorem t_astore_nN {q : Fin 4} (hd : decode M.2.1 pc = .ok (.astore_n q, 1)) (hp : pc + 1 = pc') (hn : (q : Nat) < L.length) (hL : st1 L (q : Nat) .null = L') (k : SP E M κ pc' L' st h cs ss) : SP E M κ pc L (.null :: st) h cs ss := by subst hL; exact s_astore_nN hd hp hn k
theorem t_astoreN {q : Nat} (hd : decode M.2.1 pc = .ok (.astore q, 2)) (hp : pc + 2 = pc') (hn : q < L.length) (hL : st1 L q .null = L') (k : SP E M κ pc' L' st h cs ss) : SP E M κ pc L (.null :: st) h cs ss := by subst hL; exact s_astoreN hd hp hn k
theorem t_iinc {q : Nat} {n : Int} {x v : Int32} (hd : decode M.2.1 pc = .ok (.iinc q n, 3)) (hp : pc + 3 = pc') (hl : L[q]? = some (.int x)) (hv : x + Int32.ofInt n = v) (hL : st1 L q (.int v) = L') (k : SP E M κ pc' L' st h cs ss) : SP E M κ pc L st h cs ss := by subst hL; exact s_iinc hd hp hl hv k
end TS
