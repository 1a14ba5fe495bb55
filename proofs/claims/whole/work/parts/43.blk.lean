/-! ===== the blocks of each method as rules: printed by program ===== -/
theorem bk0_0 : am_blk 0 0 = am_B0_0 := rfl
theorem bh0_5 : am_blk 0 5 = am_B0_5 := rfl
theorem bn0_5 : am_blk 0 (Int.toNat 5) = am_blk 0 5 := rfl
theorem bk0_20 : am_blk 0 (Int.toNat 20) = am_B0_20 := rfl
theorem bs0 : am_blk 0 0 = am_B0_0 ∧ am_blk 0 (Int.toNat 5) = am_blk 0 5 ∧ am_blk 0 (Int.toNat 20) = am_B0_20 := ⟨rfl, rfl, rfl⟩
theorem bk1_0 : am_blk 1 0 = am_B1_0 := rfl
theorem bs1 : am_blk 1 0 = am_B1_0 := rfl
theorem bk2_0 : am_blk 2 0 = am_B2_0 := rfl
theorem bs2 : am_blk 2 0 = am_B2_0 := rfl
theorem bk3_0 : am_blk 3 0 = am_B3_0 := rfl
theorem bk3_13 : am_blk 3 (Int.toNat 13) = am_B3_13 := rfl
theorem bk3_14 : am_blk 3 (Int.toNat 14) = am_B3_14 := rfl
theorem bs3 : am_blk 3 0 = am_B3_0 ∧ am_blk 3 (Int.toNat 13) = am_B3_13 ∧ am_blk 3 (Int.toNat 14) = am_B3_14 := ⟨rfl, rfl, rfl⟩
theorem bk4_0 : am_blk 4 0 = am_B4_0 := rfl
theorem bs4 : am_blk 4 0 = am_B4_0 := rfl
theorem bk5_0 : am_blk 5 0 = am_B5_0 := rfl
theorem bk5_17 : am_blk 5 (Int.toNat 17) = am_B5_17 := rfl
theorem bk5_18 : am_blk 5 (Int.toNat 18) = am_B5_18 := rfl
theorem bs5 : am_blk 5 0 = am_B5_0 ∧ am_blk 5 (Int.toNat 17) = am_B5_17 ∧ am_blk 5 (Int.toNat 18) = am_B5_18 := ⟨rfl, rfl, rfl⟩
theorem bk6_0 : am_blk 6 0 = am_B6_0 := rfl
theorem bs6 : am_blk 6 0 = am_B6_0 := rfl
theorem bk7_0 : am_blk 7 0 = am_B7_0 := rfl
theorem bs7 : am_blk 7 0 = am_B7_0 := rfl
theorem bk8_0 : am_blk 8 0 = am_B8_0 := rfl
theorem bk8_16 : am_blk 8 (Int.toNat 16) = am_B8_16 := rfl
theorem bs8 : am_blk 8 0 = am_B8_0 ∧ am_blk 8 (Int.toNat 16) = am_B8_16 := ⟨rfl, rfl⟩
theorem bk9_0 : am_blk 9 0 = am_B9_0 := rfl
theorem bk9_18 : am_blk 9 (Int.toNat 18) = am_B9_18 := rfl
theorem bk9_25 : am_blk 9 (Int.toNat 25) = am_B9_25 := rfl
theorem bs9 : am_blk 9 0 = am_B9_0 ∧ am_blk 9 (Int.toNat 18) = am_B9_18 ∧ am_blk 9 (Int.toNat 25) = am_B9_25 := ⟨rfl, rfl, rfl⟩
theorem bk10_0 : am_blk 10 0 = am_B10_0 := rfl
theorem bk10_14 : am_blk 10 (Int.toNat 14) = am_B10_14 := rfl
theorem bk10_15 : am_blk 10 (Int.toNat 15) = am_B10_15 := rfl
theorem bs10 : am_blk 10 0 = am_B10_0 ∧ am_blk 10 (Int.toNat 14) = am_B10_14 ∧ am_blk 10 (Int.toNat 15) = am_B10_15 := ⟨rfl, rfl, rfl⟩
theorem bk11_0 : am_blk 11 0 = am_B11_0 := rfl
theorem bk11_14 : am_blk 11 (Int.toNat 14) = am_B11_14 := rfl
theorem bk11_15 : am_blk 11 (Int.toNat 15) = am_B11_15 := rfl
theorem bs11 : am_blk 11 0 = am_B11_0 ∧ am_blk 11 (Int.toNat 14) = am_B11_14 ∧ am_blk 11 (Int.toNat 15) = am_B11_15 := ⟨rfl, rfl, rfl⟩
theorem bk12_0 : am_blk 12 0 = am_B12_0 := rfl
theorem bk12_25 : am_blk 12 (Int.toNat 25) = am_B12_25 := rfl
theorem bs12 : am_blk 12 0 = am_B12_0 ∧ am_blk 12 (Int.toNat 25) = am_B12_25 := ⟨rfl, rfl⟩
theorem bk13_0 : am_blk 13 0 = am_B13_0 := rfl
theorem bk13_26 : am_blk 13 (Int.toNat 26) = am_B13_26 := rfl
theorem bk13_32 : am_blk 13 (Int.toNat 32) = am_B13_32 := rfl
theorem bs13 : am_blk 13 0 = am_B13_0 ∧ am_blk 13 (Int.toNat 26) = am_B13_26 ∧ am_blk 13 (Int.toNat 32) = am_B13_32 := ⟨rfl, rfl, rfl⟩
theorem bk14_0 : am_blk 14 0 = am_B14_0 := rfl
theorem bs14 : am_blk 14 0 = am_B14_0 := rfl
theorem bk15_0 : am_blk 15 0 = am_B15_0 := rfl
theorem bk15_14 : am_blk 15 (Int.toNat 14) = am_B15_14 := rfl
theorem bk15_15 : am_blk 15 (Int.toNat 15) = am_B15_15 := rfl
theorem bs15 : am_blk 15 0 = am_B15_0 ∧ am_blk 15 (Int.toNat 14) = am_B15_14 ∧ am_blk 15 (Int.toNat 15) = am_B15_15 := ⟨rfl, rfl, rfl⟩
theorem bk16_0 : am_blk 16 0 = am_B16_0 := rfl
theorem bs16 : am_blk 16 0 = am_B16_0 := rfl
theorem bk17_0 : am_blk 17 0 = am_B17_0 := rfl
theorem bs17 : am_blk 17 0 = am_B17_0 := rfl
theorem bk18_0 : am_blk 18 0 = am_B18_0 := rfl
theorem bs18 : am_blk 18 0 = am_B18_0 := rfl
theorem bk19_0 : am_blk 19 0 = am_B19_0 := rfl
theorem bk19_16 : am_blk 19 (Int.toNat 16) = am_B19_16 := rfl
theorem bk19_23 : am_blk 19 (Int.toNat 23) = am_B19_23 := rfl
theorem bk19_37 : am_blk 19 (Int.toNat 37) = am_B19_37 := rfl
theorem bk19_60 : am_blk 19 (Int.toNat 60) = am_B19_60 := rfl
theorem bk19_68 : am_blk 19 (Int.toNat 68) = am_B19_68 := rfl
theorem bs19 : am_blk 19 0 = am_B19_0 ∧ am_blk 19 (Int.toNat 16) = am_B19_16 ∧ am_blk 19 (Int.toNat 23) = am_B19_23 ∧ am_blk 19 (Int.toNat 37) = am_B19_37 ∧ am_blk 19 (Int.toNat 60) = am_B19_60 ∧ am_blk 19 (Int.toNat 68) = am_B19_68 := ⟨rfl, rfl, rfl, rfl, rfl, rfl⟩
theorem bk20_0 : am_blk 20 0 = am_B20_0 := rfl
theorem bh20_18 : am_blk 20 18 = am_B20_18 := rfl
theorem bn20_18 : am_blk 20 (Int.toNat 18) = am_blk 20 18 := rfl
theorem bk20_53 : am_blk 20 (Int.toNat 53) = am_B20_53 := rfl
theorem bk20_59 : am_blk 20 (Int.toNat 59) = am_B20_59 := rfl
theorem bh20_61 : am_blk 20 61 = am_B20_61 := rfl
theorem bn20_61 : am_blk 20 (Int.toNat 61) = am_blk 20 61 := rfl
theorem bk20_99 : am_blk 20 (Int.toNat 99) = am_B20_99 := rfl
theorem bk20_105 : am_blk 20 (Int.toNat 105) = am_B20_105 := rfl
theorem bs20 : am_blk 20 0 = am_B20_0 ∧ am_blk 20 (Int.toNat 18) = am_blk 20 18 ∧ am_blk 20 (Int.toNat 53) = am_B20_53 ∧ am_blk 20 (Int.toNat 59) = am_B20_59 ∧ am_blk 20 (Int.toNat 61) = am_blk 20 61 ∧ am_blk 20 (Int.toNat 99) = am_B20_99 ∧ am_blk 20 (Int.toNat 105) = am_B20_105 := ⟨rfl, rfl, rfl, rfl, rfl, rfl, rfl⟩
theorem bk21_0 : am_blk 21 0 = am_B21_0 := rfl
theorem bk21_16 : am_blk 21 (Int.toNat 16) = am_B21_16 := rfl
theorem bh21_55 : am_blk 21 55 = am_B21_55 := rfl
theorem bn21_55 : am_blk 21 (Int.toNat 55) = am_blk 21 55 := rfl
theorem bk21_85 : am_blk 21 (Int.toNat 85) = am_B21_85 := rfl
theorem bk21_91 : am_blk 21 (Int.toNat 91) = am_B21_91 := rfl
theorem bs21 : am_blk 21 0 = am_B21_0 ∧ am_blk 21 (Int.toNat 16) = am_B21_16 ∧ am_blk 21 (Int.toNat 55) = am_blk 21 55 ∧ am_blk 21 (Int.toNat 85) = am_B21_85 ∧ am_blk 21 (Int.toNat 91) = am_B21_91 := ⟨rfl, rfl, rfl, rfl, rfl⟩
theorem bk22_0 : am_blk 22 0 = am_B22_0 := rfl
theorem bk22_14 : am_blk 22 (Int.toNat 14) = am_B22_14 := rfl
theorem bk22_15 : am_blk 22 (Int.toNat 15) = am_B22_15 := rfl
theorem bk22_30 : am_blk 22 (Int.toNat 30) = am_B22_30 := rfl
theorem bk22_31 : am_blk 22 (Int.toNat 31) = am_B22_31 := rfl
theorem bk22_53 : am_blk 22 (Int.toNat 53) = am_B22_53 := rfl
theorem bk22_54 : am_blk 22 (Int.toNat 54) = am_B22_54 := rfl
theorem bk22_70 : am_blk 22 (Int.toNat 70) = am_B22_70 := rfl
theorem bk22_71 : am_blk 22 (Int.toNat 71) = am_B22_71 := rfl
theorem bk22_111 : am_blk 22 (Int.toNat 111) = am_B22_111 := rfl
theorem bk22_112 : am_blk 22 (Int.toNat 112) = am_B22_112 := rfl
theorem bk22_160 : am_blk 22 (Int.toNat 160) = am_B22_160 := rfl
theorem bk22_163 : am_blk 22 (Int.toNat 163) = am_B22_163 := rfl
theorem bk22_169 : am_blk 22 (Int.toNat 169) = am_B22_169 := rfl
theorem bk22_180 : am_blk 22 (Int.toNat 180) = am_B22_180 := rfl
theorem bk22_197 : am_blk 22 (Int.toNat 197) = am_B22_197 := rfl
theorem bk22_205 : am_blk 22 (Int.toNat 205) = am_B22_205 := rfl
theorem bk22_206 : am_blk 22 (Int.toNat 206) = am_B22_206 := rfl
theorem bk22_207 : am_blk 22 (Int.toNat 207) = am_B22_207 := rfl
theorem bk22_216 : am_blk 22 (Int.toNat 216) = am_B22_216 := rfl
theorem bk22_217 : am_blk 22 (Int.toNat 217) = am_B22_217 := rfl
theorem bk22_218 : am_blk 22 (Int.toNat 218) = am_B22_218 := rfl
theorem bs22 : am_blk 22 0 = am_B22_0 ∧ am_blk 22 (Int.toNat 14) = am_B22_14 ∧ am_blk 22 (Int.toNat 15) = am_B22_15 ∧ am_blk 22 (Int.toNat 30) = am_B22_30 ∧ am_blk 22 (Int.toNat 31) = am_B22_31 ∧ am_blk 22 (Int.toNat 53) = am_B22_53 ∧ am_blk 22 (Int.toNat 54) = am_B22_54 ∧ am_blk 22 (Int.toNat 70) = am_B22_70 ∧ am_blk 22 (Int.toNat 71) = am_B22_71 ∧ am_blk 22 (Int.toNat 111) = am_B22_111 ∧ am_blk 22 (Int.toNat 112) = am_B22_112 ∧ am_blk 22 (Int.toNat 160) = am_B22_160 ∧ am_blk 22 (Int.toNat 163) = am_B22_163 ∧ am_blk 22 (Int.toNat 169) = am_B22_169 ∧ am_blk 22 (Int.toNat 180) = am_B22_180 ∧ am_blk 22 (Int.toNat 197) = am_B22_197 ∧ am_blk 22 (Int.toNat 205) = am_B22_205 ∧ am_blk 22 (Int.toNat 206) = am_B22_206 ∧ am_blk 22 (Int.toNat 207) = am_B22_207 ∧ am_blk 22 (Int.toNat 216) = am_B22_216 ∧ am_blk 22 (Int.toNat 217) = am_B22_217 ∧ am_blk 22 (Int.toNat 218) = am_B22_218 := ⟨rfl, rfl, rfl, rfl, rfl, rfl, rfl, rfl, rfl, rfl, rfl, rfl, rfl, rfl, rfl, rfl, rfl, rfl, rfl, rfl, rfl, rfl⟩
theorem bk23_0 : am_blk 23 0 = am_B23_0 := rfl
theorem bh23_4 : am_blk 23 4 = am_B23_4 := rfl
theorem bn23_4 : am_blk 23 (Int.toNat 4) = am_blk 23 4 := rfl
theorem bk23_29 : am_blk 23 (Int.toNat 29) = am_B23_29 := rfl
theorem bk23_30 : am_blk 23 (Int.toNat 30) = am_B23_30 := rfl
theorem bk23_38 : am_blk 23 (Int.toNat 38) = am_B23_38 := rfl
theorem bs23 : am_blk 23 0 = am_B23_0 ∧ am_blk 23 (Int.toNat 4) = am_blk 23 4 ∧ am_blk 23 (Int.toNat 29) = am_B23_29 ∧ am_blk 23 (Int.toNat 30) = am_B23_30 ∧ am_blk 23 (Int.toNat 38) = am_B23_38 := ⟨rfl, rfl, rfl, rfl, rfl⟩
theorem bk24_0 : am_blk 24 0 = am_B24_0 := rfl
theorem bh24_4 : am_blk 24 4 = am_B24_4 := rfl
theorem bn24_4 : am_blk 24 (Int.toNat 4) = am_blk 24 4 := rfl
theorem bk24_29 : am_blk 24 (Int.toNat 29) = am_B24_29 := rfl
theorem bk24_30 : am_blk 24 (Int.toNat 30) = am_B24_30 := rfl
theorem bk24_38 : am_blk 24 (Int.toNat 38) = am_B24_38 := rfl
theorem bs24 : am_blk 24 0 = am_B24_0 ∧ am_blk 24 (Int.toNat 4) = am_blk 24 4 ∧ am_blk 24 (Int.toNat 29) = am_B24_29 ∧ am_blk 24 (Int.toNat 30) = am_B24_30 ∧ am_blk 24 (Int.toNat 38) = am_B24_38 := ⟨rfl, rfl, rfl, rfl, rfl⟩
theorem bk25_0 : am_blk 25 0 = am_B25_0 := rfl
theorem bk25_16 : am_blk 25 (Int.toNat 16) = am_B25_16 := rfl
theorem bk25_23 : am_blk 25 (Int.toNat 23) = am_B25_23 := rfl
theorem bk25_43 : am_blk 25 (Int.toNat 43) = am_B25_43 := rfl
theorem bk25_56 : am_blk 25 (Int.toNat 56) = am_B25_56 := rfl
theorem bk25_61 : am_blk 25 (Int.toNat 61) = am_B25_61 := rfl
theorem bs25 : am_blk 25 0 = am_B25_0 ∧ am_blk 25 (Int.toNat 16) = am_B25_16 ∧ am_blk 25 (Int.toNat 23) = am_B25_23 ∧ am_blk 25 (Int.toNat 43) = am_B25_43 ∧ am_blk 25 (Int.toNat 56) = am_B25_56 ∧ am_blk 25 (Int.toNat 61) = am_B25_61 := ⟨rfl, rfl, rfl, rfl, rfl, rfl⟩
theorem bk26_0 : am_blk 26 0 = am_B26_0 := rfl
theorem bh26_2 : am_blk 26 2 = am_B26_2 := rfl
theorem bn26_2 : am_blk 26 (Int.toNat 2) = am_blk 26 2 := rfl
theorem bk26_29 : am_blk 26 (Int.toNat 29) = am_B26_29 := rfl
theorem bk26_34 : am_blk 26 (Int.toNat 34) = am_B26_34 := rfl
theorem bk26_41 : am_blk 26 (Int.toNat 41) = am_B26_41 := rfl
theorem bh26_43 : am_blk 26 43 = am_B26_43 := rfl
theorem bn26_43 : am_blk 26 (Int.toNat 43) = am_blk 26 43 := rfl
theorem bk26_70 : am_blk 26 (Int.toNat 70) = am_B26_70 := rfl
theorem bk26_98 : am_blk 26 (Int.toNat 98) = am_B26_98 := rfl
theorem bk26_105 : am_blk 26 (Int.toNat 105) = am_B26_105 := rfl
theorem bs26 : am_blk 26 0 = am_B26_0 ∧ am_blk 26 (Int.toNat 2) = am_blk 26 2 ∧ am_blk 26 (Int.toNat 29) = am_B26_29 ∧ am_blk 26 (Int.toNat 34) = am_B26_34 ∧ am_blk 26 (Int.toNat 41) = am_B26_41 ∧ am_blk 26 (Int.toNat 43) = am_blk 26 43 ∧ am_blk 26 (Int.toNat 70) = am_B26_70 ∧ am_blk 26 (Int.toNat 98) = am_B26_98 ∧ am_blk 26 (Int.toNat 105) = am_B26_105 := ⟨rfl, rfl, rfl, rfl, rfl, rfl, rfl, rfl, rfl⟩
theorem bk27_0 : am_blk 27 0 = am_B27_0 := rfl
theorem bh27_17 : am_blk 27 17 = am_B27_17 := rfl
theorem bn27_17 : am_blk 27 (Int.toNat 17) = am_blk 27 17 := rfl
theorem bk27_56 : am_blk 27 (Int.toNat 56) = am_B27_56 := rfl
theorem bk27_62 : am_blk 27 (Int.toNat 62) = am_B27_62 := rfl
theorem bs27 : am_blk 27 0 = am_B27_0 ∧ am_blk 27 (Int.toNat 17) = am_blk 27 17 ∧ am_blk 27 (Int.toNat 56) = am_B27_56 ∧ am_blk 27 (Int.toNat 62) = am_B27_62 := ⟨rfl, rfl, rfl, rfl⟩
theorem bk28_0 : am_blk 28 0 = am_B28_0 := rfl
theorem bs28 : am_blk 28 0 = am_B28_0 := rfl
theorem bk29_0 : am_blk 29 0 = am_B29_0 := rfl
theorem bs29 : am_blk 29 0 = am_B29_0 := rfl
theorem bk30_0 : am_blk 30 0 = am_B30_0 := rfl
theorem bk30_21 : am_blk 30 (Int.toNat 21) = am_B30_21 := rfl
theorem bk30_22 : am_blk 30 (Int.toNat 22) = am_B30_22 := rfl
theorem bk30_68 : am_blk 30 (Int.toNat 68) = am_B30_68 := rfl
theorem bk30_84 : am_blk 30 (Int.toNat 84) = am_B30_84 := rfl
theorem bk30_85 : am_blk 30 (Int.toNat 85) = am_B30_85 := rfl
theorem bk30_86 : am_blk 30 (Int.toNat 86) = am_B30_86 := rfl
theorem bk30_94 : am_blk 30 (Int.toNat 94) = am_B30_94 := rfl
theorem bk30_106 : am_blk 30 (Int.toNat 106) = am_B30_106 := rfl
theorem bk30_118 : am_blk 30 (Int.toNat 118) = am_B30_118 := rfl
theorem bk30_127 : am_blk 30 (Int.toNat 127) = am_B30_127 := rfl
theorem bk30_128 : am_blk 30 (Int.toNat 128) = am_B30_128 := rfl
theorem bk30_129 : am_blk 30 (Int.toNat 129) = am_B30_129 := rfl
theorem bk30_150 : am_blk 30 (Int.toNat 150) = am_B30_150 := rfl
theorem bk30_151 : am_blk 30 (Int.toNat 151) = am_B30_151 := rfl
theorem bk30_152 : am_blk 30 (Int.toNat 152) = am_B30_152 := rfl
theorem bs30 : am_blk 30 0 = am_B30_0 ∧ am_blk 30 (Int.toNat 21) = am_B30_21 ∧ am_blk 30 (Int.toNat 22) = am_B30_22 ∧ am_blk 30 (Int.toNat 68) = am_B30_68 ∧ am_blk 30 (Int.toNat 84) = am_B30_84 ∧ am_blk 30 (Int.toNat 85) = am_B30_85 ∧ am_blk 30 (Int.toNat 86) = am_B30_86 ∧ am_blk 30 (Int.toNat 94) = am_B30_94 ∧ am_blk 30 (Int.toNat 106) = am_B30_106 ∧ am_blk 30 (Int.toNat 118) = am_B30_118 ∧ am_blk 30 (Int.toNat 127) = am_B30_127 ∧ am_blk 30 (Int.toNat 128) = am_B30_128 ∧ am_blk 30 (Int.toNat 129) = am_B30_129 ∧ am_blk 30 (Int.toNat 150) = am_B30_150 ∧ am_blk 30 (Int.toNat 151) = am_B30_151 ∧ am_blk 30 (Int.toNat 152) = am_B30_152 := ⟨rfl, rfl, rfl, rfl, rfl, rfl, rfl, rfl, rfl, rfl, rfl, rfl, rfl, rfl, rfl, rfl⟩
theorem bk31_0 : am_blk 31 0 = am_B31_0 := rfl
theorem bs31 : am_blk 31 0 = am_B31_0 := rfl
theorem bk32_0 : am_blk 32 0 = am_B32_0 := rfl
theorem bh32_4 : am_blk 32 4 = am_B32_4 := rfl
theorem bn32_4 : am_blk 32 (Int.toNat 4) = am_blk 32 4 := rfl
theorem bk32_39 : am_blk 32 (Int.toNat 39) = am_B32_39 := rfl
theorem bk32_40 : am_blk 32 (Int.toNat 40) = am_B32_40 := rfl
theorem bk32_48 : am_blk 32 (Int.toNat 48) = am_B32_48 := rfl
theorem bs32 : am_blk 32 0 = am_B32_0 ∧ am_blk 32 (Int.toNat 4) = am_blk 32 4 ∧ am_blk 32 (Int.toNat 39) = am_B32_39 ∧ am_blk 32 (Int.toNat 40) = am_B32_40 ∧ am_blk 32 (Int.toNat 48) = am_B32_48 := ⟨rfl, rfl, rfl, rfl, rfl⟩
theorem bk33_0 : am_blk 33 0 = am_B33_0 := rfl
theorem bh33_4 : am_blk 33 4 = am_B33_4 := rfl
theorem bn33_4 : am_blk 33 (Int.toNat 4) = am_blk 33 4 := rfl
theorem bk33_20 : am_blk 33 (Int.toNat 20) = am_B33_20 := rfl
theorem bs33 : am_blk 33 0 = am_B33_0 ∧ am_blk 33 (Int.toNat 4) = am_blk 33 4 ∧ am_blk 33 (Int.toNat 20) = am_B33_20 := ⟨rfl, rfl, rfl⟩
theorem bk34_0 : am_blk 34 0 = am_B34_0 := rfl
theorem bk34_37 : am_blk 34 (Int.toNat 37) = am_B34_37 := rfl
theorem bk34_38 : am_blk 34 (Int.toNat 38) = am_B34_38 := rfl
theorem bk34_63 : am_blk 34 (Int.toNat 63) = am_B34_63 := rfl
theorem bk34_64 : am_blk 34 (Int.toNat 64) = am_B34_64 := rfl
theorem bs34 : am_blk 34 0 = am_B34_0 ∧ am_blk 34 (Int.toNat 37) = am_B34_37 ∧ am_blk 34 (Int.toNat 38) = am_B34_38 ∧ am_blk 34 (Int.toNat 63) = am_B34_63 ∧ am_blk 34 (Int.toNat 64) = am_B34_64 := ⟨rfl, rfl, rfl, rfl, rfl⟩
theorem bk35_0 : am_blk 35 0 = am_B35_0 := rfl
theorem bk35_24 : am_blk 35 (Int.toNat 24) = am_B35_24 := rfl
theorem bk35_25 : am_blk 35 (Int.toNat 25) = am_B35_25 := rfl
theorem bs35 : am_blk 35 0 = am_B35_0 ∧ am_blk 35 (Int.toNat 24) = am_B35_24 ∧ am_blk 35 (Int.toNat 25) = am_B35_25 := ⟨rfl, rfl, rfl⟩
theorem bk36_0 : am_blk 36 0 = am_B36_0 := rfl
theorem bh36_4 : am_blk 36 4 = am_B36_4 := rfl
theorem bn36_4 : am_blk 36 (Int.toNat 4) = am_blk 36 4 := rfl
theorem bk36_31 : am_blk 36 (Int.toNat 31) = am_B36_31 := rfl
theorem bk36_32 : am_blk 36 (Int.toNat 32) = am_B36_32 := rfl
theorem bk36_40 : am_blk 36 (Int.toNat 40) = am_B36_40 := rfl
theorem bs36 : am_blk 36 0 = am_B36_0 ∧ am_blk 36 (Int.toNat 4) = am_blk 36 4 ∧ am_blk 36 (Int.toNat 31) = am_B36_31 ∧ am_blk 36 (Int.toNat 32) = am_B36_32 ∧ am_blk 36 (Int.toNat 40) = am_B36_40 := ⟨rfl, rfl, rfl, rfl, rfl⟩
theorem bk37_0 : am_blk 37 0 = am_B37_0 := rfl
theorem bk37_14 : am_blk 37 (Int.toNat 14) = am_B37_14 := rfl
theorem bk37_21 : am_blk 37 (Int.toNat 21) = am_B37_21 := rfl
theorem bk37_45 : am_blk 37 (Int.toNat 45) = am_B37_45 := rfl
theorem bk37_46 : am_blk 37 (Int.toNat 46) = am_B37_46 := rfl
theorem bs37 : am_blk 37 0 = am_B37_0 ∧ am_blk 37 (Int.toNat 14) = am_B37_14 ∧ am_blk 37 (Int.toNat 21) = am_B37_21 ∧ am_blk 37 (Int.toNat 45) = am_B37_45 ∧ am_blk 37 (Int.toNat 46) = am_B37_46 := ⟨rfl, rfl, rfl, rfl, rfl⟩
theorem bk38_0 : am_blk 38 0 = am_B38_0 := rfl
theorem bs38 : am_blk 38 0 = am_B38_0 := rfl
theorem bk39_0 : am_blk 39 0 = am_B39_0 := rfl
theorem bk39_13 : am_blk 39 (Int.toNat 13) = am_B39_13 := rfl
theorem bs39 : am_blk 39 0 = am_B39_0 ∧ am_blk 39 (Int.toNat 13) = am_B39_13 := ⟨rfl, rfl⟩
theorem bk40_0 : am_blk 40 0 = am_B40_0 := rfl
theorem bk40_14 : am_blk 40 (Int.toNat 14) = am_B40_14 := rfl
theorem bk40_21 : am_blk 40 (Int.toNat 21) = am_B40_21 := rfl
theorem bk40_41 : am_blk 40 (Int.toNat 41) = am_B40_41 := rfl
theorem bk40_49 : am_blk 40 (Int.toNat 49) = am_B40_49 := rfl
theorem bs40 : am_blk 40 0 = am_B40_0 ∧ am_blk 40 (Int.toNat 14) = am_B40_14 ∧ am_blk 40 (Int.toNat 21) = am_B40_21 ∧ am_blk 40 (Int.toNat 41) = am_B40_41 ∧ am_blk 40 (Int.toNat 49) = am_B40_49 := ⟨rfl, rfl, rfl, rfl, rfl⟩
theorem bk41_0 : am_blk 41 0 = am_B41_0 := rfl
theorem bs41 : am_blk 41 0 = am_B41_0 := rfl
theorem bk42_0 : am_blk 42 0 = am_B42_0 := rfl
theorem bs42 : am_blk 42 0 = am_B42_0 := rfl
theorem bk43_0 : am_blk 43 0 = am_B43_0 := rfl
theorem bk43_18 : am_blk 43 (Int.toNat 18) = am_B43_18 := rfl
theorem bk43_25 : am_blk 43 (Int.toNat 25) = am_B43_25 := rfl
theorem bk43_40 : am_blk 43 (Int.toNat 40) = am_B43_40 := rfl
theorem bk43_62 : am_blk 43 (Int.toNat 62) = am_B43_62 := rfl
theorem bk43_77 : am_blk 43 (Int.toNat 77) = am_B43_77 := rfl
theorem bk43_92 : am_blk 43 (Int.toNat 92) = am_B43_92 := rfl
theorem bk43_93 : am_blk 43 (Int.toNat 93) = am_B43_93 := rfl
theorem bs43 : am_blk 43 0 = am_B43_0 ∧ am_blk 43 (Int.toNat 18) = am_B43_18 ∧ am_blk 43 (Int.toNat 25) = am_B43_25 ∧ am_blk 43 (Int.toNat 40) = am_B43_40 ∧ am_blk 43 (Int.toNat 62) = am_B43_62 ∧ am_blk 43 (Int.toNat 77) = am_B43_77 ∧ am_blk 43 (Int.toNat 92) = am_B43_92 ∧ am_blk 43 (Int.toNat 93) = am_B43_93 := ⟨rfl, rfl, rfl, rfl, rfl, rfl, rfl, rfl⟩
theorem bk44_0 : am_blk 44 0 = am_B44_0 := rfl
theorem bs44 : am_blk 44 0 = am_B44_0 := rfl
theorem bk45_0 : am_blk 45 0 = am_B45_0 := rfl
theorem bk45_32 : am_blk 45 (Int.toNat 32) = am_B45_32 := rfl
theorem bk45_39 : am_blk 45 (Int.toNat 39) = am_B45_39 := rfl
theorem bk45_46 : am_blk 45 (Int.toNat 46) = am_B45_46 := rfl
theorem bk45_53 : am_blk 45 (Int.toNat 53) = am_B45_53 := rfl
theorem bk45_60 : am_blk 45 (Int.toNat 60) = am_B45_60 := rfl
theorem bs45 : am_blk 45 0 = am_B45_0 ∧ am_blk 45 (Int.toNat 32) = am_B45_32 ∧ am_blk 45 (Int.toNat 39) = am_B45_39 ∧ am_blk 45 (Int.toNat 46) = am_B45_46 ∧ am_blk 45 (Int.toNat 53) = am_B45_53 ∧ am_blk 45 (Int.toNat 60) = am_B45_60 := ⟨rfl, rfl, rfl, rfl, rfl, rfl⟩
theorem bk46_0 : am_blk 46 0 = am_B46_0 := rfl
theorem bk46_32 : am_blk 46 (Int.toNat 32) = am_B46_32 := rfl
theorem bk46_33 : am_blk 46 (Int.toNat 33) = am_B46_33 := rfl
theorem bs46 : am_blk 46 0 = am_B46_0 ∧ am_blk 46 (Int.toNat 32) = am_B46_32 ∧ am_blk 46 (Int.toNat 33) = am_B46_33 := ⟨rfl, rfl, rfl⟩
theorem bk47_0 : am_blk 47 0 = am_B47_0 := rfl
theorem bk47_10 : am_blk 47 (Int.toNat 10) = am_B47_10 := rfl
theorem bk47_11 : am_blk 47 (Int.toNat 11) = am_B47_11 := rfl
theorem bs47 : am_blk 47 0 = am_B47_0 ∧ am_blk 47 (Int.toNat 10) = am_B47_10 ∧ am_blk 47 (Int.toNat 11) = am_B47_11 := ⟨rfl, rfl, rfl⟩
theorem bk48_0 : am_blk 48 0 = am_B48_0 := rfl
theorem bh48_8 : am_blk 48 8 = am_B48_8 := rfl
theorem bn48_8 : am_blk 48 (Int.toNat 8) = am_blk 48 8 := rfl
theorem bk48_47 : am_blk 48 (Int.toNat 47) = am_B48_47 := rfl
theorem bk48_53 : am_blk 48 (Int.toNat 53) = am_B48_53 := rfl
theorem bs48 : am_blk 48 0 = am_B48_0 ∧ am_blk 48 (Int.toNat 8) = am_blk 48 8 ∧ am_blk 48 (Int.toNat 47) = am_B48_47 ∧ am_blk 48 (Int.toNat 53) = am_B48_53 := ⟨rfl, rfl, rfl, rfl⟩
theorem bk49_0 : am_blk 49 0 = am_B49_0 := rfl
theorem bk49_18 : am_blk 49 (Int.toNat 18) = am_B49_18 := rfl
theorem bk49_25 : am_blk 49 (Int.toNat 25) = am_B49_25 := rfl
theorem bk49_56 : am_blk 49 (Int.toNat 56) = am_B49_56 := rfl
theorem bk49_63 : am_blk 49 (Int.toNat 63) = am_B49_63 := rfl
theorem bk49_70 : am_blk 49 (Int.toNat 70) = am_B49_70 := rfl
theorem bk49_82 : am_blk 49 (Int.toNat 82) = am_B49_82 := rfl
theorem bk49_83 : am_blk 49 (Int.toNat 83) = am_B49_83 := rfl
theorem bk49_84 : am_blk 49 (Int.toNat 84) = am_B49_84 := rfl
theorem bs49 : am_blk 49 0 = am_B49_0 ∧ am_blk 49 (Int.toNat 18) = am_B49_18 ∧ am_blk 49 (Int.toNat 25) = am_B49_25 ∧ am_blk 49 (Int.toNat 56) = am_B49_56 ∧ am_blk 49 (Int.toNat 63) = am_B49_63 ∧ am_blk 49 (Int.toNat 70) = am_B49_70 ∧ am_blk 49 (Int.toNat 82) = am_B49_82 ∧ am_blk 49 (Int.toNat 83) = am_B49_83 ∧ am_blk 49 (Int.toNat 84) = am_B49_84 := ⟨rfl, rfl, rfl, rfl, rfl, rfl, rfl, rfl, rfl⟩
theorem bk50_0 : am_blk 50 0 = am_B50_0 := rfl
theorem bs50 : am_blk 50 0 = am_B50_0 := rfl
theorem bk51_0 : am_blk 51 0 = am_B51_0 := rfl
theorem bh51_4 : am_blk 51 4 = am_B51_4 := rfl
theorem bn51_4 : am_blk 51 (Int.toNat 4) = am_blk 51 4 := rfl
theorem bk51_53 : am_blk 51 (Int.toNat 53) = am_B51_53 := rfl
theorem bk51_57 : am_blk 51 (Int.toNat 57) = am_B51_57 := rfl
theorem bk51_58 : am_blk 51 (Int.toNat 58) = am_B51_58 := rfl
theorem bk51_65 : am_blk 51 (Int.toNat 65) = am_B51_65 := rfl
theorem bs51 : am_blk 51 0 = am_B51_0 ∧ am_blk 51 (Int.toNat 4) = am_blk 51 4 ∧ am_blk 51 (Int.toNat 53) = am_B51_53 ∧ am_blk 51 (Int.toNat 57) = am_B51_57 ∧ am_blk 51 (Int.toNat 58) = am_B51_58 ∧ am_blk 51 (Int.toNat 65) = am_B51_65 := ⟨rfl, rfl, rfl, rfl, rfl, rfl⟩
theorem bk52_0 : am_blk 52 0 = am_B52_0 := rfl
theorem bk52_21 : am_blk 52 (Int.toNat 21) = am_B52_21 := rfl
theorem bk52_28 : am_blk 52 (Int.toNat 28) = am_B52_28 := rfl
theorem bs52 : am_blk 52 0 = am_B52_0 ∧ am_blk 52 (Int.toNat 21) = am_B52_21 ∧ am_blk 52 (Int.toNat 28) = am_B52_28 := ⟨rfl, rfl, rfl⟩
theorem bk53_0 : am_blk 53 0 = am_B53_0 := rfl
theorem bk53_36 : am_blk 53 (Int.toNat 36) = am_B53_36 := rfl
theorem bk53_41 : am_blk 53 (Int.toNat 41) = am_B53_41 := rfl
theorem bk53_46 : am_blk 53 (Int.toNat 46) = am_B53_46 := rfl
theorem bk53_54 : am_blk 53 (Int.toNat 54) = am_B53_54 := rfl
theorem bk53_77 : am_blk 53 (Int.toNat 77) = am_B53_77 := rfl
theorem bk53_78 : am_blk 53 (Int.toNat 78) = am_B53_78 := rfl
theorem bk53_79 : am_blk 53 (Int.toNat 79) = am_B53_79 := rfl
theorem bk53_87 : am_blk 53 (Int.toNat 87) = am_B53_87 := rfl
theorem bs53 : am_blk 53 0 = am_B53_0 ∧ am_blk 53 (Int.toNat 36) = am_B53_36 ∧ am_blk 53 (Int.toNat 41) = am_B53_41 ∧ am_blk 53 (Int.toNat 46) = am_B53_46 ∧ am_blk 53 (Int.toNat 54) = am_B53_54 ∧ am_blk 53 (Int.toNat 77) = am_B53_77 ∧ am_blk 53 (Int.toNat 78) = am_B53_78 ∧ am_blk 53 (Int.toNat 79) = am_B53_79 ∧ am_blk 53 (Int.toNat 87) = am_B53_87 := ⟨rfl, rfl, rfl, rfl, rfl, rfl, rfl, rfl, rfl⟩
theorem bk54_0 : am_blk 54 0 = am_B54_0 := rfl
theorem bk54_32 : am_blk 54 (Int.toNat 32) = am_B54_32 := rfl
theorem bk54_42 : am_blk 54 (Int.toNat 42) = am_B54_42 := rfl
theorem bk54_52 : am_blk 54 (Int.toNat 52) = am_B54_52 := rfl
theorem bk54_62 : am_blk 54 (Int.toNat 62) = am_B54_62 := rfl
theorem bk54_72 : am_blk 54 (Int.toNat 72) = am_B54_72 := rfl
theorem bk54_79 : am_blk 54 (Int.toNat 79) = am_B54_79 := rfl
theorem bs54 : am_blk 54 0 = am_B54_0 ∧ am_blk 54 (Int.toNat 32) = am_B54_32 ∧ am_blk 54 (Int.toNat 42) = am_B54_42 ∧ am_blk 54 (Int.toNat 52) = am_B54_52 ∧ am_blk 54 (Int.toNat 62) = am_B54_62 ∧ am_blk 54 (Int.toNat 72) = am_B54_72 ∧ am_blk 54 (Int.toNat 79) = am_B54_79 := ⟨rfl, rfl, rfl, rfl, rfl, rfl, rfl⟩
theorem bk55_0 : am_blk 55 0 = am_B55_0 := rfl
theorem bk55_31 : am_blk 55 (Int.toNat 31) = am_B55_31 := rfl
theorem bk55_37 : am_blk 55 (Int.toNat 37) = am_B55_37 := rfl
theorem bs55 : am_blk 55 0 = am_B55_0 ∧ am_blk 55 (Int.toNat 31) = am_B55_31 ∧ am_blk 55 (Int.toNat 37) = am_B55_37 := ⟨rfl, rfl, rfl⟩
theorem bk56_0 : am_blk 56 0 = am_B56_0 := rfl
theorem bk56_36 : am_blk 56 (Int.toNat 36) = am_B56_36 := rfl
theorem bk56_41 : am_blk 56 (Int.toNat 41) = am_B56_41 := rfl
theorem bk56_46 : am_blk 56 (Int.toNat 46) = am_B56_46 := rfl
theorem bk56_64 : am_blk 56 (Int.toNat 64) = am_B56_64 := rfl
theorem bk56_68 : am_blk 56 (Int.toNat 68) = am_B56_68 := rfl
theorem bk56_69 : am_blk 56 (Int.toNat 69) = am_B56_69 := rfl
theorem bk56_70 : am_blk 56 (Int.toNat 70) = am_B56_70 := rfl
theorem bk56_78 : am_blk 56 (Int.toNat 78) = am_B56_78 := rfl
theorem bs56 : am_blk 56 0 = am_B56_0 ∧ am_blk 56 (Int.toNat 36) = am_B56_36 ∧ am_blk 56 (Int.toNat 41) = am_B56_41 ∧ am_blk 56 (Int.toNat 46) = am_B56_46 ∧ am_blk 56 (Int.toNat 64) = am_B56_64 ∧ am_blk 56 (Int.toNat 68) = am_B56_68 ∧ am_blk 56 (Int.toNat 69) = am_B56_69 ∧ am_blk 56 (Int.toNat 70) = am_B56_70 ∧ am_blk 56 (Int.toNat 78) = am_B56_78 := ⟨rfl, rfl, rfl, rfl, rfl, rfl, rfl, rfl, rfl⟩
theorem bk57_0 : am_blk 57 0 = am_B57_0 := rfl
theorem bk57_15 : am_blk 57 (Int.toNat 15) = am_B57_15 := rfl
theorem bk57_22 : am_blk 57 (Int.toNat 22) = am_B57_22 := rfl
theorem bk57_41 : am_blk 57 (Int.toNat 41) = am_B57_41 := rfl
theorem bs57 : am_blk 57 0 = am_B57_0 ∧ am_blk 57 (Int.toNat 15) = am_B57_15 ∧ am_blk 57 (Int.toNat 22) = am_B57_22 ∧ am_blk 57 (Int.toNat 41) = am_B57_41 := ⟨rfl, rfl, rfl, rfl⟩
theorem bk58_0 : am_blk 58 0 = am_B58_0 := rfl
theorem bk58_24 : am_blk 58 (Int.toNat 24) = am_B58_24 := rfl
theorem bk58_25 : am_blk 58 (Int.toNat 25) = am_B58_25 := rfl
theorem bs58 : am_blk 58 0 = am_B58_0 ∧ am_blk 58 (Int.toNat 24) = am_B58_24 ∧ am_blk 58 (Int.toNat 25) = am_B58_25 := ⟨rfl, rfl, rfl⟩
theorem bk59_0 : am_blk 59 0 = am_B59_0 := rfl
theorem bk59_20 : am_blk 59 (Int.toNat 20) = am_B59_20 := rfl
theorem bk59_21 : am_blk 59 (Int.toNat 21) = am_B59_21 := rfl
theorem bs59 : am_blk 59 0 = am_B59_0 ∧ am_blk 59 (Int.toNat 20) = am_B59_20 ∧ am_blk 59 (Int.toNat 21) = am_B59_21 := ⟨rfl, rfl, rfl⟩
theorem bk60_0 : am_blk 60 0 = am_B60_0 := rfl
theorem bk60_15 : am_blk 60 (Int.toNat 15) = am_B60_15 := rfl
theorem bk60_22 : am_blk 60 (Int.toNat 22) = am_B60_22 := rfl
theorem bk60_40 : am_blk 60 (Int.toNat 40) = am_B60_40 := rfl
theorem bk60_46 : am_blk 60 (Int.toNat 46) = am_B60_46 := rfl
theorem bs60 : am_blk 60 0 = am_B60_0 ∧ am_blk 60 (Int.toNat 15) = am_B60_15 ∧ am_blk 60 (Int.toNat 22) = am_B60_22 ∧ am_blk 60 (Int.toNat 40) = am_B60_40 ∧ am_blk 60 (Int.toNat 46) = am_B60_46 := ⟨rfl, rfl, rfl, rfl, rfl⟩
theorem bk61_0 : am_blk 61 0 = am_B61_0 := rfl
theorem bk61_15 : am_blk 61 (Int.toNat 15) = am_B61_15 := rfl
theorem bk61_22 : am_blk 61 (Int.toNat 22) = am_B61_22 := rfl
theorem bk61_41 : am_blk 61 (Int.toNat 41) = am_B61_41 := rfl
theorem bs61 : am_blk 61 0 = am_B61_0 ∧ am_blk 61 (Int.toNat 15) = am_B61_15 ∧ am_blk 61 (Int.toNat 22) = am_B61_22 ∧ am_blk 61 (Int.toNat 41) = am_B61_41 := ⟨rfl, rfl, rfl, rfl⟩
theorem bk62_0 : am_blk 62 0 = am_B62_0 := rfl
theorem bk62_15 : am_blk 62 (Int.toNat 15) = am_B62_15 := rfl
theorem bk62_22 : am_blk 62 (Int.toNat 22) = am_B62_22 := rfl
theorem bk62_40 : am_blk 62 (Int.toNat 40) = am_B62_40 := rfl
theorem bk62_46 : am_blk 62 (Int.toNat 46) = am_B62_46 := rfl
theorem bs62 : am_blk 62 0 = am_B62_0 ∧ am_blk 62 (Int.toNat 15) = am_B62_15 ∧ am_blk 62 (Int.toNat 22) = am_B62_22 ∧ am_blk 62 (Int.toNat 40) = am_B62_40 ∧ am_blk 62 (Int.toNat 46) = am_B62_46 := ⟨rfl, rfl, rfl, rfl, rfl⟩
theorem bk63_0 : am_blk 63 0 = am_B63_0 := rfl
theorem bk63_17 : am_blk 63 (Int.toNat 17) = am_B63_17 := rfl
theorem bk63_38 : am_blk 63 (Int.toNat 38) = am_B63_38 := rfl
theorem bs63 : am_blk 63 0 = am_B63_0 ∧ am_blk 63 (Int.toNat 17) = am_B63_17 ∧ am_blk 63 (Int.toNat 38) = am_B63_38 := ⟨rfl, rfl, rfl⟩
theorem bk64_0 : am_blk 64 0 = am_B64_0 := rfl
theorem bh64_2 : am_blk 64 2 = am_B64_2 := rfl
theorem bn64_2 : am_blk 64 (Int.toNat 2) = am_blk 64 2 := rfl
theorem bh64_13 : am_blk 64 13 = am_B64_13 := rfl
theorem bn64_13 : am_blk 64 (Int.toNat 13) = am_blk 64 13 := rfl
theorem bk64_50 : am_blk 64 (Int.toNat 50) = am_B64_50 := rfl
theorem bh64_52 : am_blk 64 52 = am_B64_52 := rfl
theorem bn64_52 : am_blk 64 (Int.toNat 52) = am_blk 64 52 := rfl
theorem bk64_93 : am_blk 64 (Int.toNat 93) = am_B64_93 := rfl
theorem bk64_99 : am_blk 64 (Int.toNat 99) = am_B64_99 := rfl
theorem bk64_120 : am_blk 64 (Int.toNat 120) = am_B64_120 := rfl
theorem bs64 : am_blk 64 0 = am_B64_0 ∧ am_blk 64 (Int.toNat 2) = am_blk 64 2 ∧ am_blk 64 (Int.toNat 13) = am_blk 64 13 ∧ am_blk 64 (Int.toNat 50) = am_B64_50 ∧ am_blk 64 (Int.toNat 52) = am_blk 64 52 ∧ am_blk 64 (Int.toNat 93) = am_B64_93 ∧ am_blk 64 (Int.toNat 99) = am_B64_99 ∧ am_blk 64 (Int.toNat 120) = am_B64_120 := ⟨rfl, rfl, rfl, rfl, rfl, rfl, rfl, rfl⟩
theorem bk65_0 : am_blk 65 0 = am_B65_0 := rfl
theorem bh65_4 : am_blk 65 4 = am_B65_4 := rfl
theorem bn65_4 : am_blk 65 (Int.toNat 4) = am_blk 65 4 := rfl
theorem bk65_27 : am_blk 65 (Int.toNat 27) = am_B65_27 := rfl
theorem bs65 : am_blk 65 0 = am_B65_0 ∧ am_blk 65 (Int.toNat 4) = am_blk 65 4 ∧ am_blk 65 (Int.toNat 27) = am_B65_27 := ⟨rfl, rfl, rfl⟩
theorem bk66_0 : am_blk 66 0 = am_B66_0 := rfl
theorem bk66_17 : am_blk 66 (Int.toNat 17) = am_B66_17 := rfl
theorem bk66_37 : am_blk 66 (Int.toNat 37) = am_B66_37 := rfl
theorem bs66 : am_blk 66 0 = am_B66_0 ∧ am_blk 66 (Int.toNat 17) = am_B66_17 ∧ am_blk 66 (Int.toNat 37) = am_B66_37 := ⟨rfl, rfl, rfl⟩
theorem bk67_0 : am_blk 67 0 = am_B67_0 := rfl
theorem bh67_2 : am_blk 67 2 = am_B67_2 := rfl
theorem bn67_2 : am_blk 67 (Int.toNat 2) = am_blk 67 2 := rfl
theorem bk67_17 : am_blk 67 (Int.toNat 17) = am_B67_17 := rfl
theorem bs67 : am_blk 67 0 = am_B67_0 ∧ am_blk 67 (Int.toNat 2) = am_blk 67 2 ∧ am_blk 67 (Int.toNat 17) = am_B67_17 := ⟨rfl, rfl, rfl⟩
theorem bk68_0 : am_blk 68 0 = am_B68_0 := rfl
theorem bh68_6 : am_blk 68 6 = am_B68_6 := rfl
theorem bn68_6 : am_blk 68 (Int.toNat 6) = am_blk 68 6 := rfl
theorem bk68_73 : am_blk 68 (Int.toNat 73) = am_B68_73 := rfl
theorem bk68_77 : am_blk 68 (Int.toNat 77) = am_B68_77 := rfl
theorem bk68_78 : am_blk 68 (Int.toNat 78) = am_B68_78 := rfl
theorem bk68_101 : am_blk 68 (Int.toNat 101) = am_B68_101 := rfl
theorem bk68_107 : am_blk 68 (Int.toNat 107) = am_B68_107 := rfl
theorem bk68_114 : am_blk 68 (Int.toNat 114) = am_B68_114 := rfl
theorem bs68 : am_blk 68 0 = am_B68_0 ∧ am_blk 68 (Int.toNat 6) = am_blk 68 6 ∧ am_blk 68 (Int.toNat 73) = am_B68_73 ∧ am_blk 68 (Int.toNat 77) = am_B68_77 ∧ am_blk 68 (Int.toNat 78) = am_B68_78 ∧ am_blk 68 (Int.toNat 101) = am_B68_101 ∧ am_blk 68 (Int.toNat 107) = am_B68_107 ∧ am_blk 68 (Int.toNat 114) = am_B68_114 := ⟨rfl, rfl, rfl, rfl, rfl, rfl, rfl, rfl⟩
theorem bk69_0 : am_blk 69 0 = am_B69_0 := rfl
theorem bh69_4 : am_blk 69 4 = am_B69_4 := rfl
theorem bn69_4 : am_blk 69 (Int.toNat 4) = am_blk 69 4 := rfl
theorem bk69_29 : am_blk 69 (Int.toNat 29) = am_B69_29 := rfl
theorem bs69 : am_blk 69 0 = am_B69_0 ∧ am_blk 69 (Int.toNat 4) = am_blk 69 4 ∧ am_blk 69 (Int.toNat 29) = am_B69_29 := ⟨rfl, rfl, rfl⟩
theorem bk70_0 : am_blk 70 0 = am_B70_0 := rfl
theorem bk70_16 : am_blk 70 (Int.toNat 16) = am_B70_16 := rfl
theorem bk70_60 : am_blk 70 (Int.toNat 60) = am_B70_60 := rfl
theorem bk70_68 : am_blk 70 (Int.toNat 68) = am_B70_68 := rfl
theorem bk70_76 : am_blk 70 (Int.toNat 76) = am_B70_76 := rfl
theorem bk70_84 : am_blk 70 (Int.toNat 84) = am_B70_84 := rfl
theorem bk70_92 : am_blk 70 (Int.toNat 92) = am_B70_92 := rfl
theorem bk70_100 : am_blk 70 (Int.toNat 100) = am_B70_100 := rfl
theorem bs70 : am_blk 70 0 = am_B70_0 ∧ am_blk 70 (Int.toNat 16) = am_B70_16 ∧ am_blk 70 (Int.toNat 60) = am_B70_60 ∧ am_blk 70 (Int.toNat 68) = am_B70_68 ∧ am_blk 70 (Int.toNat 76) = am_B70_76 ∧ am_blk 70 (Int.toNat 84) = am_B70_84 ∧ am_blk 70 (Int.toNat 92) = am_B70_92 ∧ am_blk 70 (Int.toNat 100) = am_B70_100 := ⟨rfl, rfl, rfl, rfl, rfl, rfl, rfl, rfl⟩
theorem bk71_0 : am_blk 71 0 = am_B71_0 := rfl
theorem bh71_4 : am_blk 71 4 = am_B71_4 := rfl
theorem bn71_4 : am_blk 71 (Int.toNat 4) = am_blk 71 4 := rfl
theorem bk71_27 : am_blk 71 (Int.toNat 27) = am_B71_27 := rfl
theorem bk71_28 : am_blk 71 (Int.toNat 28) = am_B71_28 := rfl
theorem bk71_36 : am_blk 71 (Int.toNat 36) = am_B71_36 := rfl
theorem bs71 : am_blk 71 0 = am_B71_0 ∧ am_blk 71 (Int.toNat 4) = am_blk 71 4 ∧ am_blk 71 (Int.toNat 27) = am_B71_27 ∧ am_blk 71 (Int.toNat 28) = am_B71_28 ∧ am_blk 71 (Int.toNat 36) = am_B71_36 := ⟨rfl, rfl, rfl, rfl, rfl⟩
theorem bk72_0 : am_blk 72 0 = am_B72_0 := rfl
theorem bh72_4 : am_blk 72 4 = am_B72_4 := rfl
theorem bn72_4 : am_blk 72 (Int.toNat 4) = am_blk 72 4 := rfl
theorem bk72_26 : am_blk 72 (Int.toNat 26) = am_B72_26 := rfl
theorem bk72_27 : am_blk 72 (Int.toNat 27) = am_B72_27 := rfl
theorem bk72_35 : am_blk 72 (Int.toNat 35) = am_B72_35 := rfl
theorem bs72 : am_blk 72 0 = am_B72_0 ∧ am_blk 72 (Int.toNat 4) = am_blk 72 4 ∧ am_blk 72 (Int.toNat 26) = am_B72_26 ∧ am_blk 72 (Int.toNat 27) = am_B72_27 ∧ am_blk 72 (Int.toNat 35) = am_B72_35 := ⟨rfl, rfl, rfl, rfl, rfl⟩
theorem bk73_0 : am_blk 73 0 = am_B73_0 := rfl
theorem bh73_4 : am_blk 73 4 = am_B73_4 := rfl
theorem bn73_4 : am_blk 73 (Int.toNat 4) = am_blk 73 4 := rfl
theorem bk73_34 : am_blk 73 (Int.toNat 34) = am_B73_34 := rfl
theorem bk73_35 : am_blk 73 (Int.toNat 35) = am_B73_35 := rfl
theorem bk73_43 : am_blk 73 (Int.toNat 43) = am_B73_43 := rfl
theorem bs73 : am_blk 73 0 = am_B73_0 ∧ am_blk 73 (Int.toNat 4) = am_blk 73 4 ∧ am_blk 73 (Int.toNat 34) = am_B73_34 ∧ am_blk 73 (Int.toNat 35) = am_B73_35 ∧ am_blk 73 (Int.toNat 43) = am_B73_43 := ⟨rfl, rfl, rfl, rfl, rfl⟩
theorem bk74_0 : am_blk 74 0 = am_B74_0 := rfl
theorem bh74_4 : am_blk 74 4 = am_B74_4 := rfl
theorem bn74_4 : am_blk 74 (Int.toNat 4) = am_blk 74 4 := rfl
theorem bk74_32 : am_blk 74 (Int.toNat 32) = am_B74_32 := rfl
theorem bk74_34 : am_blk 74 (Int.toNat 34) = am_B74_34 := rfl
theorem bk74_40 : am_blk 74 (Int.toNat 40) = am_B74_40 := rfl
theorem bs74 : am_blk 74 0 = am_B74_0 ∧ am_blk 74 (Int.toNat 4) = am_blk 74 4 ∧ am_blk 74 (Int.toNat 32) = am_B74_32 ∧ am_blk 74 (Int.toNat 34) = am_B74_34 ∧ am_blk 74 (Int.toNat 40) = am_B74_40 := ⟨rfl, rfl, rfl, rfl, rfl⟩
theorem bk75_0 : am_blk 75 0 = am_B75_0 := rfl
theorem bk75_40 : am_blk 75 (Int.toNat 40) = am_B75_40 := rfl
theorem bk75_47 : am_blk 75 (Int.toNat 47) = am_B75_47 := rfl
theorem bk75_52 : am_blk 75 (Int.toNat 52) = am_B75_52 := rfl
theorem bk75_57 : am_blk 75 (Int.toNat 57) = am_B75_57 := rfl
theorem bk75_62 : am_blk 75 (Int.toNat 62) = am_B75_62 := rfl
theorem bk75_67 : am_blk 75 (Int.toNat 67) = am_B75_67 := rfl
theorem bk75_72 : am_blk 75 (Int.toNat 72) = am_B75_72 := rfl
theorem bs75 : am_blk 75 0 = am_B75_0 ∧ am_blk 75 (Int.toNat 40) = am_B75_40 ∧ am_blk 75 (Int.toNat 47) = am_B75_47 ∧ am_blk 75 (Int.toNat 52) = am_B75_52 ∧ am_blk 75 (Int.toNat 57) = am_B75_57 ∧ am_blk 75 (Int.toNat 62) = am_B75_62 ∧ am_blk 75 (Int.toNat 67) = am_B75_67 ∧ am_blk 75 (Int.toNat 72) = am_B75_72 := ⟨rfl, rfl, rfl, rfl, rfl, rfl, rfl, rfl⟩
theorem bk76_0 : am_blk 76 0 = am_B76_0 := rfl
theorem bh76_8 : am_blk 76 8 = am_B76_8 := rfl
theorem bn76_8 : am_blk 76 (Int.toNat 8) = am_blk 76 8 := rfl
theorem bk76_33 : am_blk 76 (Int.toNat 33) = am_B76_33 := rfl
theorem bk76_34 : am_blk 76 (Int.toNat 34) = am_B76_34 := rfl
theorem bk76_42 : am_blk 76 (Int.toNat 42) = am_B76_42 := rfl
theorem bs76 : am_blk 76 0 = am_B76_0 ∧ am_blk 76 (Int.toNat 8) = am_blk 76 8 ∧ am_blk 76 (Int.toNat 33) = am_B76_33 ∧ am_blk 76 (Int.toNat 34) = am_B76_34 ∧ am_blk 76 (Int.toNat 42) = am_B76_42 := ⟨rfl, rfl, rfl, rfl, rfl⟩
theorem bk77_0 : am_blk 77 0 = am_B77_0 := rfl
theorem bh77_8 : am_blk 77 8 = am_B77_8 := rfl
theorem bn77_8 : am_blk 77 (Int.toNat 8) = am_blk 77 8 := rfl
theorem bk77_35 : am_blk 77 (Int.toNat 35) = am_B77_35 := rfl
theorem bs77 : am_blk 77 0 = am_B77_0 ∧ am_blk 77 (Int.toNat 8) = am_blk 77 8 ∧ am_blk 77 (Int.toNat 35) = am_B77_35 := ⟨rfl, rfl, rfl⟩
theorem bk78_0 : am_blk 78 0 = am_B78_0 := rfl
theorem bh78_8 : am_blk 78 8 = am_B78_8 := rfl
theorem bn78_8 : am_blk 78 (Int.toNat 8) = am_blk 78 8 := rfl
theorem bk78_40 : am_blk 78 (Int.toNat 40) = am_B78_40 := rfl
theorem bk78_41 : am_blk 78 (Int.toNat 41) = am_B78_41 := rfl
theorem bk78_49 : am_blk 78 (Int.toNat 49) = am_B78_49 := rfl
theorem bs78 : am_blk 78 0 = am_B78_0 ∧ am_blk 78 (Int.toNat 8) = am_blk 78 8 ∧ am_blk 78 (Int.toNat 40) = am_B78_40 ∧ am_blk 78 (Int.toNat 41) = am_B78_41 ∧ am_blk 78 (Int.toNat 49) = am_B78_49 := ⟨rfl, rfl, rfl, rfl, rfl⟩
theorem bk79_0 : am_blk 79 0 = am_B79_0 := rfl
theorem bh79_4 : am_blk 79 4 = am_B79_4 := rfl
theorem bn79_4 : am_blk 79 (Int.toNat 4) = am_blk 79 4 := rfl
theorem bk79_33 : am_blk 79 (Int.toNat 33) = am_B79_33 := rfl
theorem bk79_37 : am_blk 79 (Int.toNat 37) = am_B79_37 := rfl
theorem bk79_38 : am_blk 79 (Int.toNat 38) = am_B79_38 := rfl
theorem bk79_45 : am_blk 79 (Int.toNat 45) = am_B79_45 := rfl
theorem bs79 : am_blk 79 0 = am_B79_0 ∧ am_blk 79 (Int.toNat 4) = am_blk 79 4 ∧ am_blk 79 (Int.toNat 33) = am_B79_33 ∧ am_blk 79 (Int.toNat 37) = am_B79_37 ∧ am_blk 79 (Int.toNat 38) = am_B79_38 ∧ am_blk 79 (Int.toNat 45) = am_B79_45 := ⟨rfl, rfl, rfl, rfl, rfl, rfl⟩
theorem bk80_0 : am_blk 80 0 = am_B80_0 := rfl
theorem bk80_18 : am_blk 80 (Int.toNat 18) = am_B80_18 := rfl
theorem bk80_25 : am_blk 80 (Int.toNat 25) = am_B80_25 := rfl
theorem bs80 : am_blk 80 0 = am_B80_0 ∧ am_blk 80 (Int.toNat 18) = am_B80_18 ∧ am_blk 80 (Int.toNat 25) = am_B80_25 := ⟨rfl, rfl, rfl⟩
theorem bk81_0 : am_blk 81 0 = am_B81_0 := rfl
theorem bs81 : am_blk 81 0 = am_B81_0 := rfl
theorem bk82_0 : am_blk 82 0 = am_B82_0 := rfl
theorem bk82_28 : am_blk 82 (Int.toNat 28) = am_B82_28 := rfl
theorem bk82_34 : am_blk 82 (Int.toNat 34) = am_B82_34 := rfl
theorem bs82 : am_blk 82 0 = am_B82_0 ∧ am_blk 82 (Int.toNat 28) = am_B82_28 ∧ am_blk 82 (Int.toNat 34) = am_B82_34 := ⟨rfl, rfl, rfl⟩
theorem bk83_0 : am_blk 83 0 = am_B83_0 := rfl
theorem bs83 : am_blk 83 0 = am_B83_0 := rfl
theorem bk84_0 : am_blk 84 0 = am_B84_0 := rfl
theorem bs84 : am_blk 84 0 = am_B84_0 := rfl
theorem bk85_0 : am_blk 85 0 = am_B85_0 := rfl
theorem bh85_2 : am_blk 85 2 = am_B85_2 := rfl
theorem bn85_2 : am_blk 85 (Int.toNat 2) = am_blk 85 2 := rfl
theorem bk85_20 : am_blk 85 (Int.toNat 20) = am_B85_20 := rfl
theorem bs85 : am_blk 85 0 = am_B85_0 ∧ am_blk 85 (Int.toNat 2) = am_blk 85 2 ∧ am_blk 85 (Int.toNat 20) = am_B85_20 := ⟨rfl, rfl, rfl⟩
theorem bk86_0 : am_blk 86 0 = am_B86_0 := rfl
theorem bs86 : am_blk 86 0 = am_B86_0 := rfl
theorem bk87_0 : am_blk 87 0 = am_B87_0 := rfl
theorem bk87_18 : am_blk 87 (Int.toNat 18) = am_B87_18 := rfl
theorem bk87_25 : am_blk 87 (Int.toNat 25) = am_B87_25 := rfl
theorem bs87 : am_blk 87 0 = am_B87_0 ∧ am_blk 87 (Int.toNat 18) = am_B87_18 ∧ am_blk 87 (Int.toNat 25) = am_B87_25 := ⟨rfl, rfl, rfl⟩
theorem bk88_0 : am_blk 88 0 = am_B88_0 := rfl
theorem bk88_28 : am_blk 88 (Int.toNat 28) = am_B88_28 := rfl
theorem bk88_34 : am_blk 88 (Int.toNat 34) = am_B88_34 := rfl
theorem bs88 : am_blk 88 0 = am_B88_0 ∧ am_blk 88 (Int.toNat 28) = am_B88_28 ∧ am_blk 88 (Int.toNat 34) = am_B88_34 := ⟨rfl, rfl, rfl⟩
theorem bk89_0 : am_blk 89 0 = am_B89_0 := rfl
theorem bh89_13 : am_blk 89 13 = am_B89_13 := rfl
theorem bn89_13 : am_blk 89 (Int.toNat 13) = am_blk 89 13 := rfl
theorem bk89_38 : am_blk 89 (Int.toNat 38) = am_B89_38 := rfl
theorem bk89_52 : am_blk 89 (Int.toNat 52) = am_B89_52 := rfl
theorem bs89 : am_blk 89 0 = am_B89_0 ∧ am_blk 89 (Int.toNat 13) = am_blk 89 13 ∧ am_blk 89 (Int.toNat 38) = am_B89_38 ∧ am_blk 89 (Int.toNat 52) = am_B89_52 := ⟨rfl, rfl, rfl, rfl⟩
theorem bk90_0 : am_blk 90 0 = am_B90_0 := rfl
theorem bh90_13 : am_blk 90 13 = am_B90_13 := rfl
theorem bn90_13 : am_blk 90 (Int.toNat 13) = am_blk 90 13 := rfl
theorem bk90_36 : am_blk 90 (Int.toNat 36) = am_B90_36 := rfl
theorem bk90_49 : am_blk 90 (Int.toNat 49) = am_B90_49 := rfl
theorem bk90_50 : am_blk 90 (Int.toNat 50) = am_B90_50 := rfl
theorem bs90 : am_blk 90 0 = am_B90_0 ∧ am_blk 90 (Int.toNat 13) = am_blk 90 13 ∧ am_blk 90 (Int.toNat 36) = am_B90_36 ∧ am_blk 90 (Int.toNat 49) = am_B90_49 ∧ am_blk 90 (Int.toNat 50) = am_B90_50 := ⟨rfl, rfl, rfl, rfl, rfl⟩
theorem bk91_0 : am_blk 91 0 = am_B91_0 := rfl
theorem bk91_13 : am_blk 91 (Int.toNat 13) = am_B91_13 := rfl
theorem bk91_14 : am_blk 91 (Int.toNat 14) = am_B91_14 := rfl
theorem bs91 : am_blk 91 0 = am_B91_0 ∧ am_blk 91 (Int.toNat 13) = am_B91_13 ∧ am_blk 91 (Int.toNat 14) = am_B91_14 := ⟨rfl, rfl, rfl⟩
theorem bk92_0 : am_blk 92 0 = am_B92_0 := rfl
theorem bh92_13 : am_blk 92 13 = am_B92_13 := rfl
theorem bn92_13 : am_blk 92 (Int.toNat 13) = am_blk 92 13 := rfl
theorem bk92_43 : am_blk 92 (Int.toNat 43) = am_B92_43 := rfl
theorem bk92_49 : am_blk 92 (Int.toNat 49) = am_B92_49 := rfl
theorem bs92 : am_blk 92 0 = am_B92_0 ∧ am_blk 92 (Int.toNat 13) = am_blk 92 13 ∧ am_blk 92 (Int.toNat 43) = am_B92_43 ∧ am_blk 92 (Int.toNat 49) = am_B92_49 := ⟨rfl, rfl, rfl, rfl⟩
theorem bk93_0 : am_blk 93 0 = am_B93_0 := rfl
theorem bh93_2 : am_blk 93 2 = am_B93_2 := rfl
theorem bn93_2 : am_blk 93 (Int.toNat 2) = am_blk 93 2 := rfl
theorem bk93_27 : am_blk 93 (Int.toNat 27) = am_B93_27 := rfl
theorem bk93_33 : am_blk 93 (Int.toNat 33) = am_B93_33 := rfl
theorem bs93 : am_blk 93 0 = am_B93_0 ∧ am_blk 93 (Int.toNat 2) = am_blk 93 2 ∧ am_blk 93 (Int.toNat 27) = am_B93_27 ∧ am_blk 93 (Int.toNat 33) = am_B93_33 := ⟨rfl, rfl, rfl, rfl⟩
theorem bk94_0 : am_blk 94 0 = am_B94_0 := rfl
theorem bh94_17 : am_blk 94 17 = am_B94_17 := rfl
theorem bn94_17 : am_blk 94 (Int.toNat 17) = am_blk 94 17 := rfl
theorem bk94_40 : am_blk 94 (Int.toNat 40) = am_B94_40 := rfl
theorem bk94_53 : am_blk 94 (Int.toNat 53) = am_B94_53 := rfl
theorem bk94_54 : am_blk 94 (Int.toNat 54) = am_B94_54 := rfl
theorem bs94 : am_blk 94 0 = am_B94_0 ∧ am_blk 94 (Int.toNat 17) = am_blk 94 17 ∧ am_blk 94 (Int.toNat 40) = am_B94_40 ∧ am_blk 94 (Int.toNat 53) = am_B94_53 ∧ am_blk 94 (Int.toNat 54) = am_B94_54 := ⟨rfl, rfl, rfl, rfl, rfl⟩
theorem bk95_0 : am_blk 95 0 = am_B95_0 := rfl
theorem bh95_4 : am_blk 95 4 = am_B95_4 := rfl
theorem bn95_4 : am_blk 95 (Int.toNat 4) = am_blk 95 4 := rfl
theorem bk95_45 : am_blk 95 (Int.toNat 45) = am_B95_45 := rfl
theorem bk95_46 : am_blk 95 (Int.toNat 46) = am_B95_46 := rfl
theorem bk95_53 : am_blk 95 (Int.toNat 53) = am_B95_53 := rfl
theorem bs95 : am_blk 95 0 = am_B95_0 ∧ am_blk 95 (Int.toNat 4) = am_blk 95 4 ∧ am_blk 95 (Int.toNat 45) = am_B95_45 ∧ am_blk 95 (Int.toNat 46) = am_B95_46 ∧ am_blk 95 (Int.toNat 53) = am_B95_53 := ⟨rfl, rfl, rfl, rfl, rfl⟩
theorem bk96_0 : am_blk 96 0 = am_B96_0 := rfl
theorem bk96_21 : am_blk 96 (Int.toNat 21) = am_B96_21 := rfl
theorem bk96_28 : am_blk 96 (Int.toNat 28) = am_B96_28 := rfl
theorem bh96_41 : am_blk 96 41 = am_B96_41 := rfl
theorem bn96_41 : am_blk 96 (Int.toNat 41) = am_blk 96 41 := rfl
theorem bk96_77 : am_blk 96 (Int.toNat 77) = am_B96_77 := rfl
theorem bk96_91 : am_blk 96 (Int.toNat 91) = am_B96_91 := rfl
theorem bs96 : am_blk 96 0 = am_B96_0 ∧ am_blk 96 (Int.toNat 21) = am_B96_21 ∧ am_blk 96 (Int.toNat 28) = am_B96_28 ∧ am_blk 96 (Int.toNat 41) = am_blk 96 41 ∧ am_blk 96 (Int.toNat 77) = am_B96_77 ∧ am_blk 96 (Int.toNat 91) = am_B96_91 := ⟨rfl, rfl, rfl, rfl, rfl, rfl⟩
theorem bk97_0 : am_blk 97 0 = am_B97_0 := rfl
theorem bk97_21 : am_blk 97 (Int.toNat 21) = am_B97_21 := rfl
theorem bk97_28 : am_blk 97 (Int.toNat 28) = am_B97_28 := rfl
theorem bh97_41 : am_blk 97 41 = am_B97_41 := rfl
theorem bn97_41 : am_blk 97 (Int.toNat 41) = am_blk 97 41 := rfl
theorem bk97_66 : am_blk 97 (Int.toNat 66) = am_B97_66 := rfl
theorem bk97_81 : am_blk 97 (Int.toNat 81) = am_B97_81 := rfl
theorem bk97_82 : am_blk 97 (Int.toNat 82) = am_B97_82 := rfl
theorem bs97 : am_blk 97 0 = am_B97_0 ∧ am_blk 97 (Int.toNat 21) = am_B97_21 ∧ am_blk 97 (Int.toNat 28) = am_B97_28 ∧ am_blk 97 (Int.toNat 41) = am_blk 97 41 ∧ am_blk 97 (Int.toNat 66) = am_B97_66 ∧ am_blk 97 (Int.toNat 81) = am_B97_81 ∧ am_blk 97 (Int.toNat 82) = am_B97_82 := ⟨rfl, rfl, rfl, rfl, rfl, rfl, rfl⟩
theorem bk98_0 : am_blk 98 0 = am_B98_0 := rfl
theorem bk98_23 : am_blk 98 (Int.toNat 23) = am_B98_23 := rfl
theorem bk98_24 : am_blk 98 (Int.toNat 24) = am_B98_24 := rfl
theorem bs98 : am_blk 98 0 = am_B98_0 ∧ am_blk 98 (Int.toNat 23) = am_B98_23 ∧ am_blk 98 (Int.toNat 24) = am_B98_24 := ⟨rfl, rfl, rfl⟩
theorem bk99_0 : am_blk 99 0 = am_B99_0 := rfl
theorem bk99_26 : am_blk 99 (Int.toNat 26) = am_B99_26 := rfl
theorem bk99_33 : am_blk 99 (Int.toNat 33) = am_B99_33 := rfl
theorem bh99_54 : am_blk 99 54 = am_B99_54 := rfl
theorem bn99_54 : am_blk 99 (Int.toNat 54) = am_blk 99 54 := rfl
theorem bk99_106 : am_blk 99 (Int.toNat 106) = am_B99_106 := rfl
theorem bk99_115 : am_blk 99 (Int.toNat 115) = am_B99_115 := rfl
theorem bk99_117 : am_blk 99 (Int.toNat 117) = am_B99_117 := rfl
theorem bs99 : am_blk 99 0 = am_B99_0 ∧ am_blk 99 (Int.toNat 26) = am_B99_26 ∧ am_blk 99 (Int.toNat 33) = am_B99_33 ∧ am_blk 99 (Int.toNat 54) = am_blk 99 54 ∧ am_blk 99 (Int.toNat 106) = am_B99_106 ∧ am_blk 99 (Int.toNat 115) = am_B99_115 ∧ am_blk 99 (Int.toNat 117) = am_B99_117 := ⟨rfl, rfl, rfl, rfl, rfl, rfl, rfl⟩
theorem bk100_0 : am_blk 100 0 = am_B100_0 := rfl
theorem bk100_26 : am_blk 100 (Int.toNat 26) = am_B100_26 := rfl
theorem bk100_33 : am_blk 100 (Int.toNat 33) = am_B100_33 := rfl
theorem bh100_54 : am_blk 100 54 = am_B100_54 := rfl
theorem bn100_54 : am_blk 100 (Int.toNat 54) = am_blk 100 54 := rfl
theorem bk100_102 : am_blk 100 (Int.toNat 102) = am_B100_102 := rfl
theorem bk100_112 : am_blk 100 (Int.toNat 112) = am_B100_112 := rfl
theorem bk100_114 : am_blk 100 (Int.toNat 114) = am_B100_114 := rfl
theorem bs100 : am_blk 100 0 = am_B100_0 ∧ am_blk 100 (Int.toNat 26) = am_B100_26 ∧ am_blk 100 (Int.toNat 33) = am_B100_33 ∧ am_blk 100 (Int.toNat 54) = am_blk 100 54 ∧ am_blk 100 (Int.toNat 102) = am_B100_102 ∧ am_blk 100 (Int.toNat 112) = am_B100_112 ∧ am_blk 100 (Int.toNat 114) = am_B100_114 := ⟨rfl, rfl, rfl, rfl, rfl, rfl, rfl⟩
theorem bk101_0 : am_blk 101 0 = am_B101_0 := rfl
theorem bs101 : am_blk 101 0 = am_B101_0 := rfl
theorem bk102_0 : am_blk 102 0 = am_B102_0 := rfl
theorem bk102_18 : am_blk 102 (Int.toNat 18) = am_B102_18 := rfl
theorem bk102_25 : am_blk 102 (Int.toNat 25) = am_B102_25 := rfl
theorem bh102_34 : am_blk 102 34 = am_B102_34 := rfl
theorem bn102_34 : am_blk 102 (Int.toNat 34) = am_blk 102 34 := rfl
theorem bk102_58 : am_blk 102 (Int.toNat 58) = am_B102_58 := rfl
theorem bk102_117 : am_blk 102 (Int.toNat 117) = am_B102_117 := rfl
theorem bk102_123 : am_blk 102 (Int.toNat 123) = am_B102_123 := rfl
theorem bs102 : am_blk 102 0 = am_B102_0 ∧ am_blk 102 (Int.toNat 18) = am_B102_18 ∧ am_blk 102 (Int.toNat 25) = am_B102_25 ∧ am_blk 102 (Int.toNat 34) = am_blk 102 34 ∧ am_blk 102 (Int.toNat 58) = am_B102_58 ∧ am_blk 102 (Int.toNat 117) = am_B102_117 ∧ am_blk 102 (Int.toNat 123) = am_B102_123 := ⟨rfl, rfl, rfl, rfl, rfl, rfl, rfl⟩
theorem bk103_0 : am_blk 103 0 = am_B103_0 := rfl
theorem bk103_22 : am_blk 103 (Int.toNat 22) = am_B103_22 := rfl
theorem bk103_28 : am_blk 103 (Int.toNat 28) = am_B103_28 := rfl
theorem bs103 : am_blk 103 0 = am_B103_0 ∧ am_blk 103 (Int.toNat 22) = am_B103_22 ∧ am_blk 103 (Int.toNat 28) = am_B103_28 := ⟨rfl, rfl, rfl⟩
theorem bk104_0 : am_blk 104 0 = am_B104_0 := rfl
theorem bk104_22 : am_blk 104 (Int.toNat 22) = am_B104_22 := rfl
theorem bk104_23 : am_blk 104 (Int.toNat 23) = am_B104_23 := rfl
theorem bs104 : am_blk 104 0 = am_B104_0 ∧ am_blk 104 (Int.toNat 22) = am_B104_22 ∧ am_blk 104 (Int.toNat 23) = am_B104_23 := ⟨rfl, rfl, rfl⟩
theorem bk105_0 : am_blk 105 0 = am_B105_0 := rfl
theorem bh105_17 : am_blk 105 17 = am_B105_17 := rfl
theorem bn105_17 : am_blk 105 (Int.toNat 17) = am_blk 105 17 := rfl
theorem bk105_51 : am_blk 105 (Int.toNat 51) = am_B105_51 := rfl
theorem bk105_62 : am_blk 105 (Int.toNat 62) = am_B105_62 := rfl
theorem bk105_76 : am_blk 105 (Int.toNat 76) = am_B105_76 := rfl
theorem bk105_78 : am_blk 105 (Int.toNat 78) = am_B105_78 := rfl
theorem bk105_95 : am_blk 105 (Int.toNat 95) = am_B105_95 := rfl
theorem bs105 : am_blk 105 0 = am_B105_0 ∧ am_blk 105 (Int.toNat 17) = am_blk 105 17 ∧ am_blk 105 (Int.toNat 51) = am_B105_51 ∧ am_blk 105 (Int.toNat 62) = am_B105_62 ∧ am_blk 105 (Int.toNat 76) = am_B105_76 ∧ am_blk 105 (Int.toNat 78) = am_B105_78 ∧ am_blk 105 (Int.toNat 95) = am_B105_95 := ⟨rfl, rfl, rfl, rfl, rfl, rfl, rfl⟩
theorem bk106_0 : am_blk 106 0 = am_B106_0 := rfl
theorem bs106 : am_blk 106 0 = am_B106_0 := rfl
theorem bk107_0 : am_blk 107 0 = am_B107_0 := rfl
theorem bk107_22 : am_blk 107 (Int.toNat 22) = am_B107_22 := rfl
theorem bk107_28 : am_blk 107 (Int.toNat 28) = am_B107_28 := rfl
theorem bs107 : am_blk 107 0 = am_B107_0 ∧ am_blk 107 (Int.toNat 22) = am_B107_22 ∧ am_blk 107 (Int.toNat 28) = am_B107_28 := ⟨rfl, rfl, rfl⟩
theorem bk108_0 : am_blk 108 0 = am_B108_0 := rfl
theorem bs108 : am_blk 108 0 = am_B108_0 := rfl
theorem bk109_0 : am_blk 109 0 = am_B109_0 := rfl
theorem bk109_22 : am_blk 109 (Int.toNat 22) = am_B109_22 := rfl
theorem bk109_28 : am_blk 109 (Int.toNat 28) = am_B109_28 := rfl
theorem bs109 : am_blk 109 0 = am_B109_0 ∧ am_blk 109 (Int.toNat 22) = am_B109_22 ∧ am_blk 109 (Int.toNat 28) = am_B109_28 := ⟨rfl, rfl, rfl⟩
theorem bk110_0 : am_blk 110 0 = am_B110_0 := rfl
theorem bs110 : am_blk 110 0 = am_B110_0 := rfl
theorem bk111_0 : am_blk 111 0 = am_B111_0 := rfl
theorem bk111_28 : am_blk 111 (Int.toNat 28) = am_B111_28 := rfl
theorem bk111_34 : am_blk 111 (Int.toNat 34) = am_B111_34 := rfl
theorem bs111 : am_blk 111 0 = am_B111_0 ∧ am_blk 111 (Int.toNat 28) = am_B111_28 ∧ am_blk 111 (Int.toNat 34) = am_B111_34 := ⟨rfl, rfl, rfl⟩
theorem bk112_0 : am_blk 112 0 = am_B112_0 := rfl
theorem bk112_17 : am_blk 112 (Int.toNat 17) = am_B112_17 := rfl
theorem bk112_24 : am_blk 112 (Int.toNat 24) = am_B112_24 := rfl
theorem bh112_37 : am_blk 112 37 = am_B112_37 := rfl
theorem bn112_37 : am_blk 112 (Int.toNat 37) = am_blk 112 37 := rfl
theorem bk112_76 : am_blk 112 (Int.toNat 76) = am_B112_76 := rfl
theorem bk112_82 : am_blk 112 (Int.toNat 82) = am_B112_82 := rfl
theorem bs112 : am_blk 112 0 = am_B112_0 ∧ am_blk 112 (Int.toNat 17) = am_B112_17 ∧ am_blk 112 (Int.toNat 24) = am_B112_24 ∧ am_blk 112 (Int.toNat 37) = am_blk 112 37 ∧ am_blk 112 (Int.toNat 76) = am_B112_76 ∧ am_blk 112 (Int.toNat 82) = am_B112_82 := ⟨rfl, rfl, rfl, rfl, rfl, rfl⟩
theorem bk113_0 : am_blk 113 0 = am_B113_0 := rfl
theorem bk113_17 : am_blk 113 (Int.toNat 17) = am_B113_17 := rfl
theorem bk113_24 : am_blk 113 (Int.toNat 24) = am_B113_24 := rfl
theorem bh113_42 : am_blk 113 42 = am_B113_42 := rfl
theorem bn113_42 : am_blk 113 (Int.toNat 42) = am_blk 113 42 := rfl
theorem bk113_72 : am_blk 113 (Int.toNat 72) = am_B113_72 := rfl
theorem bk113_74 : am_blk 113 (Int.toNat 74) = am_B113_74 := rfl
theorem bk113_82 : am_blk 113 (Int.toNat 82) = am_B113_82 := rfl
theorem bs113 : am_blk 113 0 = am_B113_0 ∧ am_blk 113 (Int.toNat 17) = am_B113_17 ∧ am_blk 113 (Int.toNat 24) = am_B113_24 ∧ am_blk 113 (Int.toNat 42) = am_blk 113 42 ∧ am_blk 113 (Int.toNat 72) = am_B113_72 ∧ am_blk 113 (Int.toNat 74) = am_B113_74 ∧ am_blk 113 (Int.toNat 82) = am_B113_82 := ⟨rfl, rfl, rfl, rfl, rfl, rfl, rfl⟩
theorem bk114_0 : am_blk 114 0 = am_B114_0 := rfl
theorem bs114 : am_blk 114 0 = am_B114_0 := rfl
theorem bk115_0 : am_blk 115 0 = am_B115_0 := rfl
theorem bk115_17 : am_blk 115 (Int.toNat 17) = am_B115_17 := rfl
theorem bk115_24 : am_blk 115 (Int.toNat 24) = am_B115_24 := rfl
theorem bh115_29 : am_blk 115 29 = am_B115_29 := rfl
theorem bn115_29 : am_blk 115 (Int.toNat 29) = am_blk 115 29 := rfl
theorem bk115_59 : am_blk 115 (Int.toNat 59) = am_B115_59 := rfl
theorem bk115_63 : am_blk 115 (Int.toNat 63) = am_B115_63 := rfl
theorem bk115_64 : am_blk 115 (Int.toNat 64) = am_B115_64 := rfl
theorem bk115_85 : am_blk 115 (Int.toNat 85) = am_B115_85 := rfl
theorem bk115_91 : am_blk 115 (Int.toNat 91) = am_B115_91 := rfl
theorem bk115_104 : am_blk 115 (Int.toNat 104) = am_B115_104 := rfl
theorem bk115_105 : am_blk 115 (Int.toNat 105) = am_B115_105 := rfl
theorem bs115 : am_blk 115 0 = am_B115_0 ∧ am_blk 115 (Int.toNat 17) = am_B115_17 ∧ am_blk 115 (Int.toNat 24) = am_B115_24 ∧ am_blk 115 (Int.toNat 29) = am_blk 115 29 ∧ am_blk 115 (Int.toNat 59) = am_B115_59 ∧ am_blk 115 (Int.toNat 63) = am_B115_63 ∧ am_blk 115 (Int.toNat 64) = am_B115_64 ∧ am_blk 115 (Int.toNat 85) = am_B115_85 ∧ am_blk 115 (Int.toNat 91) = am_B115_91 ∧ am_blk 115 (Int.toNat 104) = am_B115_104 ∧ am_blk 115 (Int.toNat 105) = am_B115_105 := ⟨rfl, rfl, rfl, rfl, rfl, rfl, rfl, rfl, rfl, rfl, rfl⟩
theorem bk116_0 : am_blk 116 0 = am_B116_0 := rfl
theorem bh116_13 : am_blk 116 13 = am_B116_13 := rfl
theorem bn116_13 : am_blk 116 (Int.toNat 13) = am_blk 116 13 := rfl
theorem bk116_43 : am_blk 116 (Int.toNat 43) = am_B116_43 := rfl
theorem bk116_49 : am_blk 116 (Int.toNat 49) = am_B116_49 := rfl
theorem bs116 : am_blk 116 0 = am_B116_0 ∧ am_blk 116 (Int.toNat 13) = am_blk 116 13 ∧ am_blk 116 (Int.toNat 43) = am_B116_43 ∧ am_blk 116 (Int.toNat 49) = am_B116_49 := ⟨rfl, rfl, rfl, rfl⟩
theorem bk117_0 : am_blk 117 0 = am_B117_0 := rfl
theorem bk117_17 : am_blk 117 (Int.toNat 17) = am_B117_17 := rfl
theorem bk117_24 : am_blk 117 (Int.toNat 24) = am_B117_24 := rfl
theorem bh117_29 : am_blk 117 29 = am_B117_29 := rfl
theorem bn117_29 : am_blk 117 (Int.toNat 29) = am_blk 117 29 := rfl
theorem bk117_58 : am_blk 117 (Int.toNat 58) = am_B117_58 := rfl
theorem bk117_62 : am_blk 117 (Int.toNat 62) = am_B117_62 := rfl
theorem bk117_63 : am_blk 117 (Int.toNat 63) = am_B117_63 := rfl
theorem bk117_86 : am_blk 117 (Int.toNat 86) = am_B117_86 := rfl
theorem bk117_87 : am_blk 117 (Int.toNat 87) = am_B117_87 := rfl
theorem bk117_94 : am_blk 117 (Int.toNat 94) = am_B117_94 := rfl
theorem bs117 : am_blk 117 0 = am_B117_0 ∧ am_blk 117 (Int.toNat 17) = am_B117_17 ∧ am_blk 117 (Int.toNat 24) = am_B117_24 ∧ am_blk 117 (Int.toNat 29) = am_blk 117 29 ∧ am_blk 117 (Int.toNat 58) = am_B117_58 ∧ am_blk 117 (Int.toNat 62) = am_B117_62 ∧ am_blk 117 (Int.toNat 63) = am_B117_63 ∧ am_blk 117 (Int.toNat 86) = am_B117_86 ∧ am_blk 117 (Int.toNat 87) = am_B117_87 ∧ am_blk 117 (Int.toNat 94) = am_B117_94 := ⟨rfl, rfl, rfl, rfl, rfl, rfl, rfl, rfl, rfl, rfl⟩
theorem bk118_0 : am_blk 118 0 = am_B118_0 := rfl
theorem bh118_13 : am_blk 118 13 = am_B118_13 := rfl
theorem bn118_13 : am_blk 118 (Int.toNat 13) = am_blk 118 13 := rfl
theorem bk118_44 : am_blk 118 (Int.toNat 44) = am_B118_44 := rfl
theorem bk118_50 : am_blk 118 (Int.toNat 50) = am_B118_50 := rfl
theorem bk118_57 : am_blk 118 (Int.toNat 57) = am_B118_57 := rfl
theorem bs118 : am_blk 118 0 = am_B118_0 ∧ am_blk 118 (Int.toNat 13) = am_blk 118 13 ∧ am_blk 118 (Int.toNat 44) = am_B118_44 ∧ am_blk 118 (Int.toNat 50) = am_B118_50 ∧ am_blk 118 (Int.toNat 57) = am_B118_57 := ⟨rfl, rfl, rfl, rfl, rfl⟩
theorem bk119_0 : am_blk 119 0 = am_B119_0 := rfl
theorem bk119_13 : am_blk 119 (Int.toNat 13) = am_B119_13 := rfl
theorem bk119_14 : am_blk 119 (Int.toNat 14) = am_B119_14 := rfl
theorem bs119 : am_blk 119 0 = am_B119_0 ∧ am_blk 119 (Int.toNat 13) = am_B119_13 ∧ am_blk 119 (Int.toNat 14) = am_B119_14 := ⟨rfl, rfl, rfl⟩
theorem bk120_0 : am_blk 120 0 = am_B120_0 := rfl
theorem bk120_17 : am_blk 120 (Int.toNat 17) = am_B120_17 := rfl
theorem bh120_23 : am_blk 120 23 = am_B120_23 := rfl
theorem bn120_23 : am_blk 120 (Int.toNat 23) = am_blk 120 23 := rfl
theorem bk120_93 : am_blk 120 (Int.toNat 93) = am_B120_93 := rfl
theorem bk120_99 : am_blk 120 (Int.toNat 99) = am_B120_99 := rfl
theorem bs120 : am_blk 120 0 = am_B120_0 ∧ am_blk 120 (Int.toNat 17) = am_B120_17 ∧ am_blk 120 (Int.toNat 23) = am_blk 120 23 ∧ am_blk 120 (Int.toNat 93) = am_B120_93 ∧ am_blk 120 (Int.toNat 99) = am_B120_99 := ⟨rfl, rfl, rfl, rfl, rfl⟩
theorem bk121_0 : am_blk 121 0 = am_B121_0 := rfl
theorem bh121_6 : am_blk 121 6 = am_B121_6 := rfl
theorem bn121_6 : am_blk 121 (Int.toNat 6) = am_blk 121 6 := rfl
theorem bk121_33 : am_blk 121 (Int.toNat 33) = am_B121_33 := rfl
theorem bk121_34 : am_blk 121 (Int.toNat 34) = am_B121_34 := rfl
theorem bk121_48 : am_blk 121 (Int.toNat 48) = am_B121_48 := rfl
theorem bs121 : am_blk 121 0 = am_B121_0 ∧ am_blk 121 (Int.toNat 6) = am_blk 121 6 ∧ am_blk 121 (Int.toNat 33) = am_B121_33 ∧ am_blk 121 (Int.toNat 34) = am_B121_34 ∧ am_blk 121 (Int.toNat 48) = am_B121_48 := ⟨rfl, rfl, rfl, rfl, rfl⟩
theorem bk122_0 : am_blk 122 0 = am_B122_0 := rfl
theorem bs122 : am_blk 122 0 = am_B122_0 := rfl
theorem bk123_0 : am_blk 123 0 = am_B123_0 := rfl
theorem bk123_17 : am_blk 123 (Int.toNat 17) = am_B123_17 := rfl
theorem bk123_35 : am_blk 123 (Int.toNat 35) = am_B123_35 := rfl
theorem bh123_42 : am_blk 123 42 = am_B123_42 := rfl
theorem bn123_42 : am_blk 123 (Int.toNat 42) = am_blk 123 42 := rfl
theorem bh123_60 : am_blk 123 60 = am_B123_60 := rfl
theorem bn123_60 : am_blk 123 (Int.toNat 60) = am_blk 123 60 := rfl
theorem bk123_101 : am_blk 123 (Int.toNat 101) = am_B123_101 := rfl
theorem bk123_107 : am_blk 123 (Int.toNat 107) = am_B123_107 := rfl
theorem bk123_113 : am_blk 123 (Int.toNat 113) = am_B123_113 := rfl
theorem bs123 : am_blk 123 0 = am_B123_0 ∧ am_blk 123 (Int.toNat 17) = am_B123_17 ∧ am_blk 123 (Int.toNat 35) = am_B123_35 ∧ am_blk 123 (Int.toNat 42) = am_blk 123 42 ∧ am_blk 123 (Int.toNat 60) = am_blk 123 60 ∧ am_blk 123 (Int.toNat 101) = am_B123_101 ∧ am_blk 123 (Int.toNat 107) = am_B123_107 ∧ am_blk 123 (Int.toNat 113) = am_B123_113 := ⟨rfl, rfl, rfl, rfl, rfl, rfl, rfl, rfl⟩
theorem bk124_0 : am_blk 124 0 = am_B124_0 := rfl
theorem bs124 : am_blk 124 0 = am_B124_0 := rfl
theorem bk125_0 : am_blk 125 0 = am_B125_0 := rfl
theorem bk125_17 : am_blk 125 (Int.toNat 17) = am_B125_17 := rfl
theorem bh125_24 : am_blk 125 24 = am_B125_24 := rfl
theorem bn125_24 : am_blk 125 (Int.toNat 24) = am_blk 125 24 := rfl
theorem bh125_41 : am_blk 125 41 = am_B125_41 := rfl
theorem bn125_41 : am_blk 125 (Int.toNat 41) = am_blk 125 41 := rfl
theorem bk125_80 : am_blk 125 (Int.toNat 80) = am_B125_80 := rfl
theorem bk125_81 : am_blk 125 (Int.toNat 81) = am_B125_81 := rfl
theorem bk125_95 : am_blk 125 (Int.toNat 95) = am_B125_95 := rfl
theorem bk125_101 : am_blk 125 (Int.toNat 101) = am_B125_101 := rfl
theorem bs125 : am_blk 125 0 = am_B125_0 ∧ am_blk 125 (Int.toNat 17) = am_B125_17 ∧ am_blk 125 (Int.toNat 24) = am_blk 125 24 ∧ am_blk 125 (Int.toNat 41) = am_blk 125 41 ∧ am_blk 125 (Int.toNat 80) = am_B125_80 ∧ am_blk 125 (Int.toNat 81) = am_B125_81 ∧ am_blk 125 (Int.toNat 95) = am_B125_95 ∧ am_blk 125 (Int.toNat 101) = am_B125_101 := ⟨rfl, rfl, rfl, rfl, rfl, rfl, rfl, rfl⟩
theorem bk126_0 : am_blk 126 0 = am_B126_0 := rfl
theorem bs126 : am_blk 126 0 = am_B126_0 := rfl
theorem bk127_0 : am_blk 127 0 = am_B127_0 := rfl
theorem bs127 : am_blk 127 0 = am_B127_0 := rfl
theorem bk128_0 : am_blk 128 0 = am_B128_0 := rfl
theorem bk128_14 : am_blk 128 (Int.toNat 14) = am_B128_14 := rfl
theorem bk128_33 : am_blk 128 (Int.toNat 33) = am_B128_33 := rfl
theorem bk128_48 : am_blk 128 (Int.toNat 48) = am_B128_48 := rfl
theorem bh128_54 : am_blk 128 54 = am_B128_54 := rfl
theorem bn128_54 : am_blk 128 (Int.toNat 54) = am_blk 128 54 := rfl
theorem bk128_101 : am_blk 128 (Int.toNat 101) = am_B128_101 := rfl
theorem bk128_107 : am_blk 128 (Int.toNat 107) = am_B128_107 := rfl
theorem bs128 : am_blk 128 0 = am_B128_0 ∧ am_blk 128 (Int.toNat 14) = am_B128_14 ∧ am_blk 128 (Int.toNat 33) = am_B128_33 ∧ am_blk 128 (Int.toNat 48) = am_B128_48 ∧ am_blk 128 (Int.toNat 54) = am_blk 128 54 ∧ am_blk 128 (Int.toNat 101) = am_B128_101 ∧ am_blk 128 (Int.toNat 107) = am_B128_107 := ⟨rfl, rfl, rfl, rfl, rfl, rfl, rfl⟩
theorem bk129_0 : am_blk 129 0 = am_B129_0 := rfl
theorem bs129 : am_blk 129 0 = am_B129_0 := rfl
theorem bk130_0 : am_blk 130 0 = am_B130_0 := rfl
theorem bk130_11 : am_blk 130 (Int.toNat 11) = am_B130_11 := rfl
theorem bk130_12 : am_blk 130 (Int.toNat 12) = am_B130_12 := rfl
theorem bs130 : am_blk 130 0 = am_B130_0 ∧ am_blk 130 (Int.toNat 11) = am_B130_11 ∧ am_blk 130 (Int.toNat 12) = am_B130_12 := ⟨rfl, rfl, rfl⟩
theorem bk131_0 : am_blk 131 0 = am_B131_0 := rfl
theorem bh131_25 : am_blk 131 25 = am_B131_25 := rfl
theorem bn131_25 : am_blk 131 (Int.toNat 25) = am_blk 131 25 := rfl
theorem bk131_65 : am_blk 131 (Int.toNat 65) = am_B131_65 := rfl
theorem bk131_79 : am_blk 131 (Int.toNat 79) = am_B131_79 := rfl
theorem bs131 : am_blk 131 0 = am_B131_0 ∧ am_blk 131 (Int.toNat 25) = am_blk 131 25 ∧ am_blk 131 (Int.toNat 65) = am_B131_65 ∧ am_blk 131 (Int.toNat 79) = am_B131_79 := ⟨rfl, rfl, rfl, rfl⟩
theorem bk132_0 : am_blk 132 0 = am_B132_0 := rfl
theorem bk132_18 : am_blk 132 (Int.toNat 18) = am_B132_18 := rfl
theorem bk132_38 : am_blk 132 (Int.toNat 38) = am_B132_38 := rfl
theorem bk132_44 : am_blk 132 (Int.toNat 44) = am_B132_44 := rfl
theorem bs132 : am_blk 132 0 = am_B132_0 ∧ am_blk 132 (Int.toNat 18) = am_B132_18 ∧ am_blk 132 (Int.toNat 38) = am_B132_38 ∧ am_blk 132 (Int.toNat 44) = am_B132_44 := ⟨rfl, rfl, rfl, rfl⟩
theorem bk133_0 : am_blk 133 0 = am_B133_0 := rfl
theorem bk133_12 : am_blk 133 (Int.toNat 12) = am_B133_12 := rfl
theorem bk133_26 : am_blk 133 (Int.toNat 26) = am_B133_26 := rfl
theorem bk133_27 : am_blk 133 (Int.toNat 27) = am_B133_27 := rfl
theorem bs133 : am_blk 133 0 = am_B133_0 ∧ am_blk 133 (Int.toNat 12) = am_B133_12 ∧ am_blk 133 (Int.toNat 26) = am_B133_26 ∧ am_blk 133 (Int.toNat 27) = am_B133_27 := ⟨rfl, rfl, rfl, rfl⟩
theorem bk134_0 : am_blk 134 0 = am_B134_0 := rfl
theorem bs134 : am_blk 134 0 = am_B134_0 := rfl
theorem bk135_0 : am_blk 135 0 = am_B135_0 := rfl
theorem bh135_14 : am_blk 135 14 = am_B135_14 := rfl
theorem bn135_14 : am_blk 135 (Int.toNat 14) = am_blk 135 14 := rfl
theorem bk135_51 : am_blk 135 (Int.toNat 51) = am_B135_51 := rfl
theorem bk135_52 : am_blk 135 (Int.toNat 52) = am_B135_52 := rfl
theorem bk135_61 : am_blk 135 (Int.toNat 61) = am_B135_61 := rfl
theorem bs135 : am_blk 135 0 = am_B135_0 ∧ am_blk 135 (Int.toNat 14) = am_blk 135 14 ∧ am_blk 135 (Int.toNat 51) = am_B135_51 ∧ am_blk 135 (Int.toNat 52) = am_B135_52 ∧ am_blk 135 (Int.toNat 61) = am_B135_61 := ⟨rfl, rfl, rfl, rfl, rfl⟩
theorem bk136_0 : am_blk 136 0 = am_B136_0 := rfl
theorem bh136_16 : am_blk 136 16 = am_B136_16 := rfl
theorem bn136_16 : am_blk 136 (Int.toNat 16) = am_blk 136 16 := rfl
theorem bk136_62 : am_blk 136 (Int.toNat 62) = am_B136_62 := rfl
theorem bk136_66 : am_blk 136 (Int.toNat 66) = am_B136_66 := rfl
theorem bk136_67 : am_blk 136 (Int.toNat 67) = am_B136_67 := rfl
theorem bk136_78 : am_blk 136 (Int.toNat 78) = am_B136_78 := rfl
theorem bs136 : am_blk 136 0 = am_B136_0 ∧ am_blk 136 (Int.toNat 16) = am_blk 136 16 ∧ am_blk 136 (Int.toNat 62) = am_B136_62 ∧ am_blk 136 (Int.toNat 66) = am_B136_66 ∧ am_blk 136 (Int.toNat 67) = am_B136_67 ∧ am_blk 136 (Int.toNat 78) = am_B136_78 := ⟨rfl, rfl, rfl, rfl, rfl, rfl⟩
theorem bk137_0 : am_blk 137 0 = am_B137_0 := rfl
theorem bs137 : am_blk 137 0 = am_B137_0 := rfl
theorem bk138_0 : am_blk 138 0 = am_B138_0 := rfl
theorem bk138_18 : am_blk 138 (Int.toNat 18) = am_B138_18 := rfl
theorem bk138_38 : am_blk 138 (Int.toNat 38) = am_B138_38 := rfl
theorem bk138_44 : am_blk 138 (Int.toNat 44) = am_B138_44 := rfl
theorem bs138 : am_blk 138 0 = am_B138_0 ∧ am_blk 138 (Int.toNat 18) = am_B138_18 ∧ am_blk 138 (Int.toNat 38) = am_B138_38 ∧ am_blk 138 (Int.toNat 44) = am_B138_44 := ⟨rfl, rfl, rfl, rfl⟩
theorem bk139_0 : am_blk 139 0 = am_B139_0 := rfl
theorem bk139_17 : am_blk 139 (Int.toNat 17) = am_B139_17 := rfl
theorem bk139_38 : am_blk 139 (Int.toNat 38) = am_B139_38 := rfl
theorem bh139_40 : am_blk 139 40 = am_B139_40 := rfl
theorem bn139_40 : am_blk 139 (Int.toNat 40) = am_blk 139 40 := rfl
theorem bk139_86 : am_blk 139 (Int.toNat 86) = am_B139_86 := rfl
theorem bk139_100 : am_blk 139 (Int.toNat 100) = am_B139_100 := rfl
theorem bs139 : am_blk 139 0 = am_B139_0 ∧ am_blk 139 (Int.toNat 17) = am_B139_17 ∧ am_blk 139 (Int.toNat 38) = am_B139_38 ∧ am_blk 139 (Int.toNat 40) = am_blk 139 40 ∧ am_blk 139 (Int.toNat 86) = am_B139_86 ∧ am_blk 139 (Int.toNat 100) = am_B139_100 := ⟨rfl, rfl, rfl, rfl, rfl, rfl⟩
theorem bk140_0 : am_blk 140 0 = am_B140_0 := rfl
theorem bs140 : am_blk 140 0 = am_B140_0 := rfl
theorem bk141_0 : am_blk 141 0 = am_B141_0 := rfl
theorem bk141_17 : am_blk 141 (Int.toNat 17) = am_B141_17 := rfl
theorem bk141_37 : am_blk 141 (Int.toNat 37) = am_B141_37 := rfl
theorem bh141_39 : am_blk 141 39 = am_B141_39 := rfl
theorem bn141_39 : am_blk 141 (Int.toNat 39) = am_blk 141 39 := rfl
theorem bk141_78 : am_blk 141 (Int.toNat 78) = am_B141_78 := rfl
theorem bs141 : am_blk 141 0 = am_B141_0 ∧ am_blk 141 (Int.toNat 17) = am_B141_17 ∧ am_blk 141 (Int.toNat 37) = am_B141_37 ∧ am_blk 141 (Int.toNat 39) = am_blk 141 39 ∧ am_blk 141 (Int.toNat 78) = am_B141_78 := ⟨rfl, rfl, rfl, rfl, rfl⟩
theorem bk142_0 : am_blk 142 0 = am_B142_0 := rfl
theorem bs142 : am_blk 142 0 = am_B142_0 := rfl
theorem bk143_0 : am_blk 143 0 = am_B143_0 := rfl
theorem bk143_19 : am_blk 143 (Int.toNat 19) = am_B143_19 := rfl
theorem bk143_27 : am_blk 143 (Int.toNat 27) = am_B143_27 := rfl
theorem bh143_55 : am_blk 143 55 = am_B143_55 := rfl
theorem bn143_55 : am_blk 143 (Int.toNat 55) = am_blk 143 55 := rfl
theorem bk143_83 : am_blk 143 (Int.toNat 83) = am_B143_83 := rfl
theorem bk143_91 : am_blk 143 (Int.toNat 91) = am_B143_91 := rfl
theorem bk143_93 : am_blk 143 (Int.toNat 93) = am_B143_93 := rfl
theorem bs143 : am_blk 143 0 = am_B143_0 ∧ am_blk 143 (Int.toNat 19) = am_B143_19 ∧ am_blk 143 (Int.toNat 27) = am_B143_27 ∧ am_blk 143 (Int.toNat 55) = am_blk 143 55 ∧ am_blk 143 (Int.toNat 83) = am_B143_83 ∧ am_blk 143 (Int.toNat 91) = am_B143_91 ∧ am_blk 143 (Int.toNat 93) = am_B143_93 := ⟨rfl, rfl, rfl, rfl, rfl, rfl, rfl⟩
theorem bk144_0 : am_blk 144 0 = am_B144_0 := rfl
theorem bh144_5 : am_blk 144 5 = am_B144_5 := rfl
theorem bn144_5 : am_blk 144 (Int.toNat 5) = am_blk 144 5 := rfl
theorem bk144_22 : am_blk 144 (Int.toNat 22) = am_B144_22 := rfl
theorem bs144 : am_blk 144 0 = am_B144_0 ∧ am_blk 144 (Int.toNat 5) = am_blk 144 5 ∧ am_blk 144 (Int.toNat 22) = am_B144_22 := ⟨rfl, rfl, rfl⟩
theorem bk145_0 : am_blk 145 0 = am_B145_0 := rfl
theorem bk145_19 : am_blk 145 (Int.toNat 19) = am_B145_19 := rfl
theorem bk145_27 : am_blk 145 (Int.toNat 27) = am_B145_27 := rfl
theorem bh145_45 : am_blk 145 45 = am_B145_45 := rfl
theorem bn145_45 : am_blk 145 (Int.toNat 45) = am_blk 145 45 := rfl
theorem bk145_68 : am_blk 145 (Int.toNat 68) = am_B145_68 := rfl
theorem bh145_74 : am_blk 145 74 = am_B145_74 := rfl
theorem bn145_74 : am_blk 145 (Int.toNat 74) = am_blk 145 74 := rfl
theorem bk145_90 : am_blk 145 (Int.toNat 90) = am_B145_90 := rfl
theorem bk145_92 : am_blk 145 (Int.toNat 92) = am_B145_92 := rfl
theorem bk145_105 : am_blk 145 (Int.toNat 105) = am_B145_105 := rfl
theorem bs145 : am_blk 145 0 = am_B145_0 ∧ am_blk 145 (Int.toNat 19) = am_B145_19 ∧ am_blk 145 (Int.toNat 27) = am_B145_27 ∧ am_blk 145 (Int.toNat 45) = am_blk 145 45 ∧ am_blk 145 (Int.toNat 68) = am_B145_68 ∧ am_blk 145 (Int.toNat 74) = am_blk 145 74 ∧ am_blk 145 (Int.toNat 90) = am_B145_90 ∧ am_blk 145 (Int.toNat 92) = am_B145_92 ∧ am_blk 145 (Int.toNat 105) = am_B145_105 := ⟨rfl, rfl, rfl, rfl, rfl, rfl, rfl, rfl, rfl⟩
theorem bk146_0 : am_blk 146 0 = am_B146_0 := rfl
theorem bs146 : am_blk 146 0 = am_B146_0 := rfl
theorem bk147_0 : am_blk 147 0 = am_B147_0 := rfl
theorem bs147 : am_blk 147 0 = am_B147_0 := rfl
theorem bk148_0 : am_blk 148 0 = am_B148_0 := rfl
theorem bk148_16 : am_blk 148 (Int.toNat 16) = am_B148_16 := rfl
theorem bk148_40 : am_blk 148 (Int.toNat 40) = am_B148_40 := rfl
theorem bh148_44 : am_blk 148 44 = am_B148_44 := rfl
theorem bn148_44 : am_blk 148 (Int.toNat 44) = am_blk 148 44 := rfl
theorem bk148_74 : am_blk 148 (Int.toNat 74) = am_B148_74 := rfl
theorem bs148 : am_blk 148 0 = am_B148_0 ∧ am_blk 148 (Int.toNat 16) = am_B148_16 ∧ am_blk 148 (Int.toNat 40) = am_B148_40 ∧ am_blk 148 (Int.toNat 44) = am_blk 148 44 ∧ am_blk 148 (Int.toNat 74) = am_B148_74 := ⟨rfl, rfl, rfl, rfl, rfl⟩
theorem bk149_0 : am_blk 149 0 = am_B149_0 := rfl
theorem bk149_29 : am_blk 149 (Int.toNat 29) = am_B149_29 := rfl
theorem bs149 : am_blk 149 0 = am_B149_0 ∧ am_blk 149 (Int.toNat 29) = am_B149_29 := ⟨rfl, rfl⟩
theorem bk150_0 : am_blk 150 0 = am_B150_0 := rfl
theorem bk150_16 : am_blk 150 (Int.toNat 16) = am_B150_16 := rfl
theorem bk150_34 : am_blk 150 (Int.toNat 34) = am_B150_34 := rfl
theorem bh150_38 : am_blk 150 38 = am_B150_38 := rfl
theorem bn150_38 : am_blk 150 (Int.toNat 38) = am_blk 150 38 := rfl
theorem bk150_77 : am_blk 150 (Int.toNat 77) = am_B150_77 := rfl
theorem bs150 : am_blk 150 0 = am_B150_0 ∧ am_blk 150 (Int.toNat 16) = am_B150_16 ∧ am_blk 150 (Int.toNat 34) = am_B150_34 ∧ am_blk 150 (Int.toNat 38) = am_blk 150 38 ∧ am_blk 150 (Int.toNat 77) = am_B150_77 := ⟨rfl, rfl, rfl, rfl, rfl⟩
theorem bk151_0 : am_blk 151 0 = am_B151_0 := rfl
theorem bs151 : am_blk 151 0 = am_B151_0 := rfl
theorem bk152_0 : am_blk 152 0 = am_B152_0 := rfl
theorem bs152 : am_blk 152 0 = am_B152_0 := rfl
theorem bk153_0 : am_blk 153 0 = am_B153_0 := rfl
theorem bk153_47 : am_blk 153 (Int.toNat 47) = am_B153_47 := rfl
theorem bs153 : am_blk 153 0 = am_B153_0 ∧ am_blk 153 (Int.toNat 47) = am_B153_47 := ⟨rfl, rfl⟩
theorem bk154_0 : am_blk 154 0 = am_B154_0 := rfl
theorem bh154_12 : am_blk 154 12 = am_B154_12 := rfl
theorem bn154_12 : am_blk 154 (Int.toNat 12) = am_blk 154 12 := rfl
theorem bk154_33 : am_blk 154 (Int.toNat 33) = am_B154_33 := rfl
theorem bk154_55 : am_blk 154 (Int.toNat 55) = am_B154_55 := rfl
theorem bk154_71 : am_blk 154 (Int.toNat 71) = am_B154_71 := rfl
theorem bk154_81 : am_blk 154 (Int.toNat 81) = am_B154_81 := rfl
theorem bs154 : am_blk 154 0 = am_B154_0 ∧ am_blk 154 (Int.toNat 12) = am_blk 154 12 ∧ am_blk 154 (Int.toNat 33) = am_B154_33 ∧ am_blk 154 (Int.toNat 55) = am_B154_55 ∧ am_blk 154 (Int.toNat 71) = am_B154_71 ∧ am_blk 154 (Int.toNat 81) = am_B154_81 := ⟨rfl, rfl, rfl, rfl, rfl, rfl⟩
theorem bk155_0 : am_blk 155 0 = am_B155_0 := rfl
theorem bs155 : am_blk 155 0 = am_B155_0 := rfl
theorem bk156_0 : am_blk 156 0 = am_B156_0 := rfl
theorem bh156_8 : am_blk 156 8 = am_B156_8 := rfl
theorem bn156_8 : am_blk 156 (Int.toNat 8) = am_blk 156 8 := rfl
theorem bk156_46 : am_blk 156 (Int.toNat 46) = am_B156_46 := rfl
theorem bk156_71 : am_blk 156 (Int.toNat 71) = am_B156_71 := rfl
theorem bk156_105 : am_blk 156 (Int.toNat 105) = am_B156_105 := rfl
theorem bk156_129 : am_blk 156 (Int.toNat 129) = am_B156_129 := rfl
theorem bk156_140 : am_blk 156 (Int.toNat 140) = am_B156_140 := rfl
theorem bk156_141 : am_blk 156 (Int.toNat 141) = am_B156_141 := rfl
theorem bk156_154 : am_blk 156 (Int.toNat 154) = am_B156_154 := rfl
theorem bs156 : am_blk 156 0 = am_B156_0 ∧ am_blk 156 (Int.toNat 8) = am_blk 156 8 ∧ am_blk 156 (Int.toNat 46) = am_B156_46 ∧ am_blk 156 (Int.toNat 71) = am_B156_71 ∧ am_blk 156 (Int.toNat 105) = am_B156_105 ∧ am_blk 156 (Int.toNat 129) = am_B156_129 ∧ am_blk 156 (Int.toNat 140) = am_B156_140 ∧ am_blk 156 (Int.toNat 141) = am_B156_141 ∧ am_blk 156 (Int.toNat 154) = am_B156_154 := ⟨rfl, rfl, rfl, rfl, rfl, rfl, rfl, rfl, rfl⟩
theorem bh157_0 : am_blk 157 0 = am_B157_0 := rfl
theorem bn157_0 : am_blk 157 (Int.toNat 0) = am_blk 157 0 := rfl
theorem bk157_52 : am_blk 157 (Int.toNat 52) = am_B157_52 := rfl
theorem bs157 : am_blk 157 (Int.toNat 0) = am_blk 157 0 ∧ am_blk 157 (Int.toNat 52) = am_B157_52 := ⟨rfl, rfl⟩
theorem bk158_0 : am_blk 158 0 = am_B158_0 := rfl
theorem bh158_5 : am_blk 158 5 = am_B158_5 := rfl
theorem bn158_5 : am_blk 158 (Int.toNat 5) = am_blk 158 5 := rfl
theorem bk158_78 : am_blk 158 (Int.toNat 78) = am_B158_78 := rfl
theorem bk158_91 : am_blk 158 (Int.toNat 91) = am_B158_91 := rfl
theorem bs158 : am_blk 158 0 = am_B158_0 ∧ am_blk 158 (Int.toNat 5) = am_blk 158 5 ∧ am_blk 158 (Int.toNat 78) = am_B158_78 ∧ am_blk 158 (Int.toNat 91) = am_B158_91 := ⟨rfl, rfl, rfl, rfl⟩
theorem bk159_0 : am_blk 159 0 = am_B159_0 := rfl
theorem bk159_24 : am_blk 159 (Int.toNat 24) = am_B159_24 := rfl
theorem bk159_48 : am_blk 159 (Int.toNat 48) = am_B159_48 := rfl
theorem bk159_49 : am_blk 159 (Int.toNat 49) = am_B159_49 := rfl
theorem bk159_57 : am_blk 159 (Int.toNat 57) = am_B159_57 := rfl
theorem bs159 : am_blk 159 0 = am_B159_0 ∧ am_blk 159 (Int.toNat 24) = am_B159_24 ∧ am_blk 159 (Int.toNat 48) = am_B159_48 ∧ am_blk 159 (Int.toNat 49) = am_B159_49 ∧ am_blk 159 (Int.toNat 57) = am_B159_57 := ⟨rfl, rfl, rfl, rfl, rfl⟩
theorem bk160_0 : am_blk 160 0 = am_B160_0 := rfl
theorem bk160_24 : am_blk 160 (Int.toNat 24) = am_B160_24 := rfl
theorem bk160_26 : am_blk 160 (Int.toNat 26) = am_B160_26 := rfl
theorem bh160_28 : am_blk 160 28 = am_B160_28 := rfl
theorem bn160_28 : am_blk 160 (Int.toNat 28) = am_blk 160 28 := rfl
theorem bk160_57 : am_blk 160 (Int.toNat 57) = am_B160_57 := rfl
theorem bk160_63 : am_blk 160 (Int.toNat 63) = am_B160_63 := rfl
theorem bs160 : am_blk 160 0 = am_B160_0 ∧ am_blk 160 (Int.toNat 24) = am_B160_24 ∧ am_blk 160 (Int.toNat 26) = am_B160_26 ∧ am_blk 160 (Int.toNat 28) = am_blk 160 28 ∧ am_blk 160 (Int.toNat 57) = am_B160_57 ∧ am_blk 160 (Int.toNat 63) = am_B160_63 := ⟨rfl, rfl, rfl, rfl, rfl, rfl⟩
theorem bk161_0 : am_blk 161 0 = am_B161_0 := rfl
theorem bk161_11 : am_blk 161 (Int.toNat 11) = am_B161_11 := rfl
theorem bk161_38 : am_blk 161 (Int.toNat 38) = am_B161_38 := rfl
theorem bs161 : am_blk 161 0 = am_B161_0 ∧ am_blk 161 (Int.toNat 11) = am_B161_11 ∧ am_blk 161 (Int.toNat 38) = am_B161_38 := ⟨rfl, rfl, rfl⟩
theorem bk162_0 : am_blk 162 0 = am_B162_0 := rfl
theorem bk162_26 : am_blk 162 (Int.toNat 26) = am_B162_26 := rfl
theorem bk162_27 : am_blk 162 (Int.toNat 27) = am_B162_27 := rfl
theorem bs162 : am_blk 162 0 = am_B162_0 ∧ am_blk 162 (Int.toNat 26) = am_B162_26 ∧ am_blk 162 (Int.toNat 27) = am_B162_27 := ⟨rfl, rfl, rfl⟩
theorem bk163_0 : am_blk 163 0 = am_B163_0 := rfl
theorem bh163_2 : am_blk 163 2 = am_B163_2 := rfl
theorem bn163_2 : am_blk 163 (Int.toNat 2) = am_blk 163 2 := rfl
theorem bk163_24 : am_blk 163 (Int.toNat 24) = am_B163_24 := rfl
theorem bk163_30 : am_blk 163 (Int.toNat 30) = am_B163_30 := rfl
theorem bs163 : am_blk 163 0 = am_B163_0 ∧ am_blk 163 (Int.toNat 2) = am_blk 163 2 ∧ am_blk 163 (Int.toNat 24) = am_B163_24 ∧ am_blk 163 (Int.toNat 30) = am_B163_30 := ⟨rfl, rfl, rfl, rfl⟩
theorem bk164_0 : am_blk 164 0 = am_B164_0 := rfl
theorem bk164_40 : am_blk 164 (Int.toNat 40) = am_B164_40 := rfl
theorem bk164_43 : am_blk 164 (Int.toNat 43) = am_B164_43 := rfl
theorem bk164_46 : am_blk 164 (Int.toNat 46) = am_B164_46 := rfl
theorem bk164_49 : am_blk 164 (Int.toNat 49) = am_B164_49 := rfl
theorem bk164_52 : am_blk 164 (Int.toNat 52) = am_B164_52 := rfl
theorem bk164_55 : am_blk 164 (Int.toNat 55) = am_B164_55 := rfl
theorem bk164_58 : am_blk 164 (Int.toNat 58) = am_B164_58 := rfl
theorem bs164 : am_blk 164 0 = am_B164_0 ∧ am_blk 164 (Int.toNat 40) = am_B164_40 ∧ am_blk 164 (Int.toNat 43) = am_B164_43 ∧ am_blk 164 (Int.toNat 46) = am_B164_46 ∧ am_blk 164 (Int.toNat 49) = am_B164_49 ∧ am_blk 164 (Int.toNat 52) = am_B164_52 ∧ am_blk 164 (Int.toNat 55) = am_B164_55 ∧ am_blk 164 (Int.toNat 58) = am_B164_58 := ⟨rfl, rfl, rfl, rfl, rfl, rfl, rfl, rfl⟩
theorem bk165_0 : am_blk 165 0 = am_B165_0 := rfl
theorem bk165_44 : am_blk 165 (Int.toNat 44) = am_B165_44 := rfl
theorem bk165_45 : am_blk 165 (Int.toNat 45) = am_B165_45 := rfl
theorem bs165 : am_blk 165 0 = am_B165_0 ∧ am_blk 165 (Int.toNat 44) = am_B165_44 ∧ am_blk 165 (Int.toNat 45) = am_B165_45 := ⟨rfl, rfl, rfl⟩
theorem bk166_0 : am_blk 166 0 = am_B166_0 := rfl
theorem bk166_13 : am_blk 166 (Int.toNat 13) = am_B166_13 := rfl
theorem bk166_31 : am_blk 166 (Int.toNat 31) = am_B166_31 := rfl
theorem bs166 : am_blk 166 0 = am_B166_0 ∧ am_blk 166 (Int.toNat 13) = am_B166_13 ∧ am_blk 166 (Int.toNat 31) = am_B166_31 := ⟨rfl, rfl, rfl⟩
theorem bk167_0 : am_blk 167 0 = am_B167_0 := rfl
theorem bs167 : am_blk 167 0 = am_B167_0 := rfl
theorem bk168_0 : am_blk 168 0 = am_B168_0 := rfl
theorem bh168_33 : am_blk 168 33 = am_B168_33 := rfl
theorem bn168_33 : am_blk 168 (Int.toNat 33) = am_blk 168 33 := rfl
theorem bk168_74 : am_blk 168 (Int.toNat 74) = am_B168_74 := rfl
theorem bk168_86 : am_blk 168 (Int.toNat 86) = am_B168_86 := rfl
theorem bk168_87 : am_blk 168 (Int.toNat 87) = am_B168_87 := rfl
theorem bk168_109 : am_blk 168 (Int.toNat 109) = am_B168_109 := rfl
theorem bh168_113 : am_blk 168 113 = am_B168_113 := rfl
theorem bn168_113 : am_blk 168 (Int.toNat 113) = am_blk 168 113 := rfl
theorem bk168_136 : am_blk 168 (Int.toNat 136) = am_B168_136 := rfl
theorem bk168_137 : am_blk 168 (Int.toNat 137) = am_B168_137 := rfl
theorem bk168_145 : am_blk 168 (Int.toNat 145) = am_B168_145 := rfl
theorem bs168 : am_blk 168 0 = am_B168_0 ∧ am_blk 168 (Int.toNat 33) = am_blk 168 33 ∧ am_blk 168 (Int.toNat 74) = am_B168_74 ∧ am_blk 168 (Int.toNat 86) = am_B168_86 ∧ am_blk 168 (Int.toNat 87) = am_B168_87 ∧ am_blk 168 (Int.toNat 109) = am_B168_109 ∧ am_blk 168 (Int.toNat 113) = am_blk 168 113 ∧ am_blk 168 (Int.toNat 136) = am_B168_136 ∧ am_blk 168 (Int.toNat 137) = am_B168_137 ∧ am_blk 168 (Int.toNat 145) = am_B168_145 := ⟨rfl, rfl, rfl, rfl, rfl, rfl, rfl, rfl, rfl, rfl⟩
theorem bk169_0 : am_blk 169 0 = am_B169_0 := rfl
theorem bh169_8 : am_blk 169 8 = am_B169_8 := rfl
theorem bn169_8 : am_blk 169 (Int.toNat 8) = am_blk 169 8 := rfl
theorem bk169_34 : am_blk 169 (Int.toNat 34) = am_B169_34 := rfl
theorem bk169_68 : am_blk 169 (Int.toNat 68) = am_B169_68 := rfl
theorem bh169_84 : am_blk 169 84 = am_B169_84 := rfl
theorem bn169_84 : am_blk 169 (Int.toNat 84) = am_blk 169 84 := rfl
theorem bk169_115 : am_blk 169 (Int.toNat 115) = am_B169_115 := rfl
theorem bh169_131 : am_blk 169 131 = am_B169_131 := rfl
theorem bn169_131 : am_blk 169 (Int.toNat 131) = am_blk 169 131 := rfl
theorem bk169_191 : am_blk 169 (Int.toNat 191) = am_B169_191 := rfl
theorem bk169_206 : am_blk 169 (Int.toNat 206) = am_B169_206 := rfl
theorem bs169 : am_blk 169 0 = am_B169_0 ∧ am_blk 169 (Int.toNat 8) = am_blk 169 8 ∧ am_blk 169 (Int.toNat 34) = am_B169_34 ∧ am_blk 169 (Int.toNat 68) = am_B169_68 ∧ am_blk 169 (Int.toNat 84) = am_blk 169 84 ∧ am_blk 169 (Int.toNat 115) = am_B169_115 ∧ am_blk 169 (Int.toNat 131) = am_blk 169 131 ∧ am_blk 169 (Int.toNat 191) = am_B169_191 ∧ am_blk 169 (Int.toNat 206) = am_B169_206 := ⟨rfl, rfl, rfl, rfl, rfl, rfl, rfl, rfl, rfl⟩
theorem bk170_0 : am_blk 170 0 = am_B170_0 := rfl
theorem bk170_17 : am_blk 170 (Int.toNat 17) = am_B170_17 := rfl
theorem bk170_18 : am_blk 170 (Int.toNat 18) = am_B170_18 := rfl
theorem bs170 : am_blk 170 0 = am_B170_0 ∧ am_blk 170 (Int.toNat 17) = am_B170_17 ∧ am_blk 170 (Int.toNat 18) = am_B170_18 := ⟨rfl, rfl, rfl⟩
theorem bk171_0 : am_blk 171 0 = am_B171_0 := rfl
theorem bk171_23 : am_blk 171 (Int.toNat 23) = am_B171_23 := rfl
theorem bk171_24 : am_blk 171 (Int.toNat 24) = am_B171_24 := rfl
theorem bk171_83 : am_blk 171 (Int.toNat 83) = am_B171_83 := rfl
theorem bk171_118 : am_blk 171 (Int.toNat 118) = am_B171_118 := rfl
theorem bs171 : am_blk 171 0 = am_B171_0 ∧ am_blk 171 (Int.toNat 23) = am_B171_23 ∧ am_blk 171 (Int.toNat 24) = am_B171_24 ∧ am_blk 171 (Int.toNat 83) = am_B171_83 ∧ am_blk 171 (Int.toNat 118) = am_B171_118 := ⟨rfl, rfl, rfl, rfl, rfl⟩
theorem bk172_0 : am_blk 172 0 = am_B172_0 := rfl
theorem bh172_4 : am_blk 172 4 = am_B172_4 := rfl
theorem bn172_4 : am_blk 172 (Int.toNat 4) = am_blk 172 4 := rfl
theorem bk172_30 : am_blk 172 (Int.toNat 30) = am_B172_30 := rfl
theorem bk172_31 : am_blk 172 (Int.toNat 31) = am_B172_31 := rfl
theorem bk172_38 : am_blk 172 (Int.toNat 38) = am_B172_38 := rfl
theorem bs172 : am_blk 172 0 = am_B172_0 ∧ am_blk 172 (Int.toNat 4) = am_blk 172 4 ∧ am_blk 172 (Int.toNat 30) = am_B172_30 ∧ am_blk 172 (Int.toNat 31) = am_B172_31 ∧ am_blk 172 (Int.toNat 38) = am_B172_38 := ⟨rfl, rfl, rfl, rfl, rfl⟩
theorem bk173_0 : am_blk 173 0 = am_B173_0 := rfl
theorem bk173_28 : am_blk 173 (Int.toNat 28) = am_B173_28 := rfl
theorem bk173_29 : am_blk 173 (Int.toNat 29) = am_B173_29 := rfl
theorem bh173_32 : am_blk 173 32 = am_B173_32 := rfl
theorem bn173_32 : am_blk 173 (Int.toNat 32) = am_blk 173 32 := rfl
theorem bk173_67 : am_blk 173 (Int.toNat 67) = am_B173_67 := rfl
theorem bk173_68 : am_blk 173 (Int.toNat 68) = am_B173_68 := rfl
theorem bk173_75 : am_blk 173 (Int.toNat 75) = am_B173_75 := rfl
theorem bs173 : am_blk 173 0 = am_B173_0 ∧ am_blk 173 (Int.toNat 28) = am_B173_28 ∧ am_blk 173 (Int.toNat 29) = am_B173_29 ∧ am_blk 173 (Int.toNat 32) = am_blk 173 32 ∧ am_blk 173 (Int.toNat 67) = am_B173_67 ∧ am_blk 173 (Int.toNat 68) = am_B173_68 ∧ am_blk 173 (Int.toNat 75) = am_B173_75 := ⟨rfl, rfl, rfl, rfl, rfl, rfl, rfl⟩
theorem bk174_0 : am_blk 174 0 = am_B174_0 := rfl
theorem bk174_12 : am_blk 174 (Int.toNat 12) = am_B174_12 := rfl
theorem bk174_16 : am_blk 174 (Int.toNat 16) = am_B174_16 := rfl
theorem bk174_17 : am_blk 174 (Int.toNat 17) = am_B174_17 := rfl
theorem bk174_31 : am_blk 174 (Int.toNat 31) = am_B174_31 := rfl
theorem bs174 : am_blk 174 0 = am_B174_0 ∧ am_blk 174 (Int.toNat 12) = am_B174_12 ∧ am_blk 174 (Int.toNat 16) = am_B174_16 ∧ am_blk 174 (Int.toNat 17) = am_B174_17 ∧ am_blk 174 (Int.toNat 31) = am_B174_31 := ⟨rfl, rfl, rfl, rfl, rfl⟩
theorem bk175_0 : am_blk 175 0 = am_B175_0 := rfl
theorem bk175_15 : am_blk 175 (Int.toNat 15) = am_B175_15 := rfl
theorem bk175_17 : am_blk 175 (Int.toNat 17) = am_B175_17 := rfl
theorem bs175 : am_blk 175 0 = am_B175_0 ∧ am_blk 175 (Int.toNat 15) = am_B175_15 ∧ am_blk 175 (Int.toNat 17) = am_B175_17 := ⟨rfl, rfl, rfl⟩
theorem bk176_0 : am_blk 176 0 = am_B176_0 := rfl
theorem bk176_27 : am_blk 176 (Int.toNat 27) = am_B176_27 := rfl
theorem bk176_28 : am_blk 176 (Int.toNat 28) = am_B176_28 := rfl
theorem bs176 : am_blk 176 0 = am_B176_0 ∧ am_blk 176 (Int.toNat 27) = am_B176_27 ∧ am_blk 176 (Int.toNat 28) = am_B176_28 := ⟨rfl, rfl, rfl⟩
theorem bk177_0 : am_blk 177 0 = am_B177_0 := rfl
theorem bs177 : am_blk 177 0 = am_B177_0 := rfl
theorem bk178_0 : am_blk 178 0 = am_B178_0 := rfl
theorem bk178_41 : am_blk 178 (Int.toNat 41) = am_B178_41 := rfl
theorem bk178_61 : am_blk 178 (Int.toNat 61) = am_B178_61 := rfl
theorem bs178 : am_blk 178 0 = am_B178_0 ∧ am_blk 178 (Int.toNat 41) = am_B178_41 ∧ am_blk 178 (Int.toNat 61) = am_B178_61 := ⟨rfl, rfl, rfl⟩
theorem bk179_0 : am_blk 179 0 = am_B179_0 := rfl
theorem bk179_20 : am_blk 179 (Int.toNat 20) = am_B179_20 := rfl
theorem bk179_27 : am_blk 179 (Int.toNat 27) = am_B179_27 := rfl
theorem bs179 : am_blk 179 0 = am_B179_0 ∧ am_blk 179 (Int.toNat 20) = am_B179_20 ∧ am_blk 179 (Int.toNat 27) = am_B179_27 := ⟨rfl, rfl, rfl⟩
theorem bk180_0 : am_blk 180 0 = am_B180_0 := rfl
theorem bs180 : am_blk 180 0 = am_B180_0 := rfl
theorem bk181_0 : am_blk 181 0 = am_B181_0 := rfl
theorem bk181_20 : am_blk 181 (Int.toNat 20) = am_B181_20 := rfl
theorem bk181_27 : am_blk 181 (Int.toNat 27) = am_B181_27 := rfl
theorem bs181 : am_blk 181 0 = am_B181_0 ∧ am_blk 181 (Int.toNat 20) = am_B181_20 ∧ am_blk 181 (Int.toNat 27) = am_B181_27 := ⟨rfl, rfl, rfl⟩
theorem bk182_0 : am_blk 182 0 = am_B182_0 := rfl
theorem bs182 : am_blk 182 0 = am_B182_0 := rfl
theorem bk183_0 : am_blk 183 0 = am_B183_0 := rfl
theorem bk183_14 : am_blk 183 (Int.toNat 14) = am_B183_14 := rfl
theorem bk183_21 : am_blk 183 (Int.toNat 21) = am_B183_21 := rfl
theorem bk183_46 : am_blk 183 (Int.toNat 46) = am_B183_46 := rfl
theorem bk183_69 : am_blk 183 (Int.toNat 69) = am_B183_69 := rfl
theorem bs183 : am_blk 183 0 = am_B183_0 ∧ am_blk 183 (Int.toNat 14) = am_B183_14 ∧ am_blk 183 (Int.toNat 21) = am_B183_21 ∧ am_blk 183 (Int.toNat 46) = am_B183_46 ∧ am_blk 183 (Int.toNat 69) = am_B183_69 := ⟨rfl, rfl, rfl, rfl, rfl⟩
theorem bk184_0 : am_blk 184 0 = am_B184_0 := rfl
theorem bh184_4 : am_blk 184 4 = am_B184_4 := rfl
theorem bn184_4 : am_blk 184 (Int.toNat 4) = am_blk 184 4 := rfl
theorem bk184_24 : am_blk 184 (Int.toNat 24) = am_B184_24 := rfl
theorem bk184_36 : am_blk 184 (Int.toNat 36) = am_B184_36 := rfl
theorem bs184 : am_blk 184 0 = am_B184_0 ∧ am_blk 184 (Int.toNat 4) = am_blk 184 4 ∧ am_blk 184 (Int.toNat 24) = am_B184_24 ∧ am_blk 184 (Int.toNat 36) = am_B184_36 := ⟨rfl, rfl, rfl, rfl⟩
theorem bk185_0 : am_blk 185 0 = am_B185_0 := rfl
theorem bk185_14 : am_blk 185 (Int.toNat 14) = am_B185_14 := rfl
theorem bk185_21 : am_blk 185 (Int.toNat 21) = am_B185_21 := rfl
theorem bk185_41 : am_blk 185 (Int.toNat 41) = am_B185_41 := rfl
theorem bk185_58 : am_blk 185 (Int.toNat 58) = am_B185_58 := rfl
theorem bk185_65 : am_blk 185 (Int.toNat 65) = am_B185_65 := rfl
theorem bs185 : am_blk 185 0 = am_B185_0 ∧ am_blk 185 (Int.toNat 14) = am_B185_14 ∧ am_blk 185 (Int.toNat 21) = am_B185_21 ∧ am_blk 185 (Int.toNat 41) = am_B185_41 ∧ am_blk 185 (Int.toNat 58) = am_B185_58 ∧ am_blk 185 (Int.toNat 65) = am_B185_65 := ⟨rfl, rfl, rfl, rfl, rfl, rfl⟩
theorem bk186_0 : am_blk 186 0 = am_B186_0 := rfl
theorem bh186_2 : am_blk 186 2 = am_B186_2 := rfl
theorem bn186_2 : am_blk 186 (Int.toNat 2) = am_blk 186 2 := rfl
theorem bk186_19 : am_blk 186 (Int.toNat 19) = am_B186_19 := rfl
theorem bk186_27 : am_blk 186 (Int.toNat 27) = am_B186_27 := rfl
theorem bk186_28 : am_blk 186 (Int.toNat 28) = am_B186_28 := rfl
theorem bs186 : am_blk 186 0 = am_B186_0 ∧ am_blk 186 (Int.toNat 2) = am_blk 186 2 ∧ am_blk 186 (Int.toNat 19) = am_B186_19 ∧ am_blk 186 (Int.toNat 27) = am_B186_27 ∧ am_blk 186 (Int.toNat 28) = am_B186_28 := ⟨rfl, rfl, rfl, rfl, rfl⟩
theorem bk187_0 : am_blk 187 0 = am_B187_0 := rfl
theorem bk187_8 : am_blk 187 (Int.toNat 8) = am_B187_8 := rfl
theorem bk187_17 : am_blk 187 (Int.toNat 17) = am_B187_17 := rfl
theorem bk187_26 : am_blk 187 (Int.toNat 26) = am_B187_26 := rfl
theorem bk187_36 : am_blk 187 (Int.toNat 36) = am_B187_36 := rfl
theorem bk187_37 : am_blk 187 (Int.toNat 37) = am_B187_37 := rfl
theorem bs187 : am_blk 187 0 = am_B187_0 ∧ am_blk 187 (Int.toNat 8) = am_B187_8 ∧ am_blk 187 (Int.toNat 17) = am_B187_17 ∧ am_blk 187 (Int.toNat 26) = am_B187_26 ∧ am_blk 187 (Int.toNat 36) = am_B187_36 ∧ am_blk 187 (Int.toNat 37) = am_B187_37 := ⟨rfl, rfl, rfl, rfl, rfl, rfl⟩
theorem bk188_0 : am_blk 188 0 = am_B188_0 := rfl
theorem bk188_29 : am_blk 188 (Int.toNat 29) = am_B188_29 := rfl
theorem bk188_36 : am_blk 188 (Int.toNat 36) = am_B188_36 := rfl
theorem bk188_47 : am_blk 188 (Int.toNat 47) = am_B188_47 := rfl
theorem bk188_60 : am_blk 188 (Int.toNat 60) = am_B188_60 := rfl
theorem bs188 : am_blk 188 0 = am_B188_0 ∧ am_blk 188 (Int.toNat 29) = am_B188_29 ∧ am_blk 188 (Int.toNat 36) = am_B188_36 ∧ am_blk 188 (Int.toNat 47) = am_B188_47 ∧ am_blk 188 (Int.toNat 60) = am_B188_60 := ⟨rfl, rfl, rfl, rfl, rfl⟩
theorem bk189_0 : am_blk 189 0 = am_B189_0 := rfl
theorem bk189_14 : am_blk 189 (Int.toNat 14) = am_B189_14 := rfl
theorem bk189_15 : am_blk 189 (Int.toNat 15) = am_B189_15 := rfl
theorem bs189 : am_blk 189 0 = am_B189_0 ∧ am_blk 189 (Int.toNat 14) = am_B189_14 ∧ am_blk 189 (Int.toNat 15) = am_B189_15 := ⟨rfl, rfl, rfl⟩
theorem bk190_0 : am_blk 190 0 = am_B190_0 := rfl
theorem bk190_29 : am_blk 190 (Int.toNat 29) = am_B190_29 := rfl
theorem bk190_36 : am_blk 190 (Int.toNat 36) = am_B190_36 := rfl
theorem bk190_48 : am_blk 190 (Int.toNat 48) = am_B190_48 := rfl
theorem bk190_61 : am_blk 190 (Int.toNat 61) = am_B190_61 := rfl
theorem bk190_81 : am_blk 190 (Int.toNat 81) = am_B190_81 := rfl
theorem bk190_82 : am_blk 190 (Int.toNat 82) = am_B190_82 := rfl
theorem bh190_86 : am_blk 190 86 = am_B190_86 := rfl
theorem bn190_86 : am_blk 190 (Int.toNat 86) = am_blk 190 86 := rfl
theorem bk190_112 : am_blk 190 (Int.toNat 112) = am_B190_112 := rfl
theorem bs190 : am_blk 190 0 = am_B190_0 ∧ am_blk 190 (Int.toNat 29) = am_B190_29 ∧ am_blk 190 (Int.toNat 36) = am_B190_36 ∧ am_blk 190 (Int.toNat 48) = am_B190_48 ∧ am_blk 190 (Int.toNat 61) = am_B190_61 ∧ am_blk 190 (Int.toNat 81) = am_B190_81 ∧ am_blk 190 (Int.toNat 82) = am_B190_82 ∧ am_blk 190 (Int.toNat 86) = am_blk 190 86 ∧ am_blk 190 (Int.toNat 112) = am_B190_112 := ⟨rfl, rfl, rfl, rfl, rfl, rfl, rfl, rfl, rfl⟩
theorem bk191_0 : am_blk 191 0 = am_B191_0 := rfl
theorem bk191_14 : am_blk 191 (Int.toNat 14) = am_B191_14 := rfl
theorem bk191_33 : am_blk 191 (Int.toNat 33) = am_B191_33 := rfl
theorem bk191_54 : am_blk 191 (Int.toNat 54) = am_B191_54 := rfl
theorem bs191 : am_blk 191 0 = am_B191_0 ∧ am_blk 191 (Int.toNat 14) = am_B191_14 ∧ am_blk 191 (Int.toNat 33) = am_B191_33 ∧ am_blk 191 (Int.toNat 54) = am_B191_54 := ⟨rfl, rfl, rfl, rfl⟩
theorem bk192_0 : am_blk 192 0 = am_B192_0 := rfl
theorem bk192_30 : am_blk 192 (Int.toNat 30) = am_B192_30 := rfl
theorem bk192_31 : am_blk 192 (Int.toNat 31) = am_B192_31 := rfl
theorem bs192 : am_blk 192 0 = am_B192_0 ∧ am_blk 192 (Int.toNat 30) = am_B192_30 ∧ am_blk 192 (Int.toNat 31) = am_B192_31 := ⟨rfl, rfl, rfl⟩
theorem bk193_0 : am_blk 193 0 = am_B193_0 := rfl
theorem bk193_20 : am_blk 193 (Int.toNat 20) = am_B193_20 := rfl
theorem bk193_40 : am_blk 193 (Int.toNat 40) = am_B193_40 := rfl
theorem bk193_47 : am_blk 193 (Int.toNat 47) = am_B193_47 := rfl
theorem bs193 : am_blk 193 0 = am_B193_0 ∧ am_blk 193 (Int.toNat 20) = am_B193_20 ∧ am_blk 193 (Int.toNat 40) = am_B193_40 ∧ am_blk 193 (Int.toNat 47) = am_B193_47 := ⟨rfl, rfl, rfl, rfl⟩
theorem bk194_0 : am_blk 194 0 = am_B194_0 := rfl
theorem bk194_14 : am_blk 194 (Int.toNat 14) = am_B194_14 := rfl
theorem bk194_30 : am_blk 194 (Int.toNat 30) = am_B194_30 := rfl
theorem bk194_53 : am_blk 194 (Int.toNat 53) = am_B194_53 := rfl
theorem bs194 : am_blk 194 0 = am_B194_0 ∧ am_blk 194 (Int.toNat 14) = am_B194_14 ∧ am_blk 194 (Int.toNat 30) = am_B194_30 ∧ am_blk 194 (Int.toNat 53) = am_B194_53 := ⟨rfl, rfl, rfl, rfl⟩
theorem bk195_0 : am_blk 195 0 = am_B195_0 := rfl
theorem bk195_11 : am_blk 195 (Int.toNat 11) = am_B195_11 := rfl
theorem bk195_22 : am_blk 195 (Int.toNat 22) = am_B195_22 := rfl
theorem bk195_23 : am_blk 195 (Int.toNat 23) = am_B195_23 := rfl
theorem bs195 : am_blk 195 0 = am_B195_0 ∧ am_blk 195 (Int.toNat 11) = am_B195_11 ∧ am_blk 195 (Int.toNat 22) = am_B195_22 ∧ am_blk 195 (Int.toNat 23) = am_B195_23 := ⟨rfl, rfl, rfl, rfl⟩
theorem bk196_0 : am_blk 196 0 = am_B196_0 := rfl
theorem bk196_14 : am_blk 196 (Int.toNat 14) = am_B196_14 := rfl
theorem bk196_21 : am_blk 196 (Int.toNat 21) = am_B196_21 := rfl
theorem bk196_53 : am_blk 196 (Int.toNat 53) = am_B196_53 := rfl
theorem bk196_60 : am_blk 196 (Int.toNat 60) = am_B196_60 := rfl
theorem bk196_80 : am_blk 196 (Int.toNat 80) = am_B196_80 := rfl
theorem bk196_103 : am_blk 196 (Int.toNat 103) = am_B196_103 := rfl
theorem bk196_110 : am_blk 196 (Int.toNat 110) = am_B196_110 := rfl
theorem bs196 : am_blk 196 0 = am_B196_0 ∧ am_blk 196 (Int.toNat 14) = am_B196_14 ∧ am_blk 196 (Int.toNat 21) = am_B196_21 ∧ am_blk 196 (Int.toNat 53) = am_B196_53 ∧ am_blk 196 (Int.toNat 60) = am_B196_60 ∧ am_blk 196 (Int.toNat 80) = am_B196_80 ∧ am_blk 196 (Int.toNat 103) = am_B196_103 ∧ am_blk 196 (Int.toNat 110) = am_B196_110 := ⟨rfl, rfl, rfl, rfl, rfl, rfl, rfl, rfl⟩
theorem bk197_0 : am_blk 197 0 = am_B197_0 := rfl
theorem bk197_14 : am_blk 197 (Int.toNat 14) = am_B197_14 := rfl
theorem bk197_21 : am_blk 197 (Int.toNat 21) = am_B197_21 := rfl
theorem bk197_39 : am_blk 197 (Int.toNat 39) = am_B197_39 := rfl
theorem bk197_46 : am_blk 197 (Int.toNat 46) = am_B197_46 := rfl
theorem bk197_69 : am_blk 197 (Int.toNat 69) = am_B197_69 := rfl
theorem bk197_118 : am_blk 197 (Int.toNat 118) = am_B197_118 := rfl
theorem bk197_125 : am_blk 197 (Int.toNat 125) = am_B197_125 := rfl
theorem bh197_128 : am_blk 197 128 = am_B197_128 := rfl
theorem bn197_128 : am_blk 197 (Int.toNat 128) = am_blk 197 128 := rfl
theorem bk197_162 : am_blk 197 (Int.toNat 162) = am_B197_162 := rfl
theorem bh197_165 : am_blk 197 165 = am_B197_165 := rfl
theorem bn197_165 : am_blk 197 (Int.toNat 165) = am_blk 197 165 := rfl
theorem bk197_200 : am_blk 197 (Int.toNat 200) = am_B197_200 := rfl
theorem bs197 : am_blk 197 0 = am_B197_0 ∧ am_blk 197 (Int.toNat 14) = am_B197_14 ∧ am_blk 197 (Int.toNat 21) = am_B197_21 ∧ am_blk 197 (Int.toNat 39) = am_B197_39 ∧ am_blk 197 (Int.toNat 46) = am_B197_46 ∧ am_blk 197 (Int.toNat 69) = am_B197_69 ∧ am_blk 197 (Int.toNat 118) = am_B197_118 ∧ am_blk 197 (Int.toNat 125) = am_B197_125 ∧ am_blk 197 (Int.toNat 128) = am_blk 197 128 ∧ am_blk 197 (Int.toNat 162) = am_B197_162 ∧ am_blk 197 (Int.toNat 165) = am_blk 197 165 ∧ am_blk 197 (Int.toNat 200) = am_B197_200 := ⟨rfl, rfl, rfl, rfl, rfl, rfl, rfl, rfl, rfl, rfl, rfl, rfl⟩
theorem bk198_0 : am_blk 198 0 = am_B198_0 := rfl
theorem bk198_14 : am_blk 198 (Int.toNat 14) = am_B198_14 := rfl
theorem bk198_35 : am_blk 198 (Int.toNat 35) = am_B198_35 := rfl
theorem bh198_37 : am_blk 198 37 = am_B198_37 := rfl
theorem bn198_37 : am_blk 198 (Int.toNat 37) = am_blk 198 37 := rfl
theorem bk198_89 : am_blk 198 (Int.toNat 89) = am_B198_89 := rfl
theorem bs198 : am_blk 198 0 = am_B198_0 ∧ am_blk 198 (Int.toNat 14) = am_B198_14 ∧ am_blk 198 (Int.toNat 35) = am_B198_35 ∧ am_blk 198 (Int.toNat 37) = am_blk 198 37 ∧ am_blk 198 (Int.toNat 89) = am_B198_89 := ⟨rfl, rfl, rfl, rfl, rfl⟩
theorem bk199_0 : am_blk 199 0 = am_B199_0 := rfl
theorem bk199_18 : am_blk 199 (Int.toNat 18) = am_B199_18 := rfl
theorem bh199_20 : am_blk 199 20 = am_B199_20 := rfl
theorem bn199_20 : am_blk 199 (Int.toNat 20) = am_blk 199 20 := rfl
theorem bk199_80 : am_blk 199 (Int.toNat 80) = am_B199_80 := rfl
theorem bs199 : am_blk 199 0 = am_B199_0 ∧ am_blk 199 (Int.toNat 18) = am_B199_18 ∧ am_blk 199 (Int.toNat 20) = am_blk 199 20 ∧ am_blk 199 (Int.toNat 80) = am_B199_80 := ⟨rfl, rfl, rfl, rfl⟩
theorem bk200_0 : am_blk 200 0 = am_B200_0 := rfl
theorem bk200_14 : am_blk 200 (Int.toNat 14) = am_B200_14 := rfl
theorem bk200_35 : am_blk 200 (Int.toNat 35) = am_B200_35 := rfl
theorem bh200_44 : am_blk 200 44 = am_B200_44 := rfl
theorem bn200_44 : am_blk 200 (Int.toNat 44) = am_blk 200 44 := rfl
theorem bk200_78 : am_blk 200 (Int.toNat 78) = am_B200_78 := rfl
theorem bk200_82 : am_blk 200 (Int.toNat 82) = am_B200_82 := rfl
theorem bk200_88 : am_blk 200 (Int.toNat 88) = am_B200_88 := rfl
theorem bs200 : am_blk 200 0 = am_B200_0 ∧ am_blk 200 (Int.toNat 14) = am_B200_14 ∧ am_blk 200 (Int.toNat 35) = am_B200_35 ∧ am_blk 200 (Int.toNat 44) = am_blk 200 44 ∧ am_blk 200 (Int.toNat 78) = am_B200_78 ∧ am_blk 200 (Int.toNat 82) = am_B200_82 ∧ am_blk 200 (Int.toNat 88) = am_B200_88 := ⟨rfl, rfl, rfl, rfl, rfl, rfl, rfl⟩
theorem bk201_0 : am_blk 201 0 = am_B201_0 := rfl
theorem bk201_18 : am_blk 201 (Int.toNat 18) = am_B201_18 := rfl
theorem bh201_24 : am_blk 201 24 = am_B201_24 := rfl
theorem bn201_24 : am_blk 201 (Int.toNat 24) = am_blk 201 24 := rfl
theorem bk201_68 : am_blk 201 (Int.toNat 68) = am_B201_68 := rfl
theorem bk201_82 : am_blk 201 (Int.toNat 82) = am_B201_82 := rfl
theorem bk201_85 : am_blk 201 (Int.toNat 85) = am_B201_85 := rfl
theorem bs201 : am_blk 201 0 = am_B201_0 ∧ am_blk 201 (Int.toNat 18) = am_B201_18 ∧ am_blk 201 (Int.toNat 24) = am_blk 201 24 ∧ am_blk 201 (Int.toNat 68) = am_B201_68 ∧ am_blk 201 (Int.toNat 82) = am_B201_82 ∧ am_blk 201 (Int.toNat 85) = am_B201_85 := ⟨rfl, rfl, rfl, rfl, rfl, rfl⟩
theorem bk202_0 : am_blk 202 0 = am_B202_0 := rfl
theorem bs202 : am_blk 202 0 = am_B202_0 := rfl
theorem bk203_0 : am_blk 203 0 = am_B203_0 := rfl
theorem bs203 : am_blk 203 0 = am_B203_0 := rfl
theorem bk204_0 : am_blk 204 0 = am_B204_0 := rfl
theorem bk204_14 : am_blk 204 (Int.toNat 14) = am_B204_14 := rfl
theorem bs204 : am_blk 204 0 = am_B204_0 ∧ am_blk 204 (Int.toNat 14) = am_B204_14 := ⟨rfl, rfl⟩
theorem bk205_0 : am_blk 205 0 = am_B205_0 := rfl
theorem bk205_14 : am_blk 205 (Int.toNat 14) = am_B205_14 := rfl
theorem bs205 : am_blk 205 0 = am_B205_0 ∧ am_blk 205 (Int.toNat 14) = am_B205_14 := ⟨rfl, rfl⟩
theorem bk206_0 : am_blk 206 0 = am_B206_0 := rfl
theorem bk206_11 : am_blk 206 (Int.toNat 11) = am_B206_11 := rfl
theorem bk206_12 : am_blk 206 (Int.toNat 12) = am_B206_12 := rfl
theorem bs206 : am_blk 206 0 = am_B206_0 ∧ am_blk 206 (Int.toNat 11) = am_B206_11 ∧ am_blk 206 (Int.toNat 12) = am_B206_12 := ⟨rfl, rfl, rfl⟩
theorem bk207_0 : am_blk 207 0 = am_B207_0 := rfl
theorem bk207_11 : am_blk 207 (Int.toNat 11) = am_B207_11 := rfl
theorem bk207_12 : am_blk 207 (Int.toNat 12) = am_B207_12 := rfl
theorem bs207 : am_blk 207 0 = am_B207_0 ∧ am_blk 207 (Int.toNat 11) = am_B207_11 ∧ am_blk 207 (Int.toNat 12) = am_B207_12 := ⟨rfl, rfl, rfl⟩
theorem bk208_0 : am_blk 208 0 = am_B208_0 := rfl
theorem bk208_56 : am_blk 208 (Int.toNat 56) = am_B208_56 := rfl
theorem bk208_64 : am_blk 208 (Int.toNat 64) = am_B208_64 := rfl
theorem bk208_72 : am_blk 208 (Int.toNat 72) = am_B208_72 := rfl
theorem bk208_83 : am_blk 208 (Int.toNat 83) = am_B208_83 := rfl
theorem bk208_94 : am_blk 208 (Int.toNat 94) = am_B208_94 := rfl
theorem bk208_102 : am_blk 208 (Int.toNat 102) = am_B208_102 := rfl
theorem bk208_113 : am_blk 208 (Int.toNat 113) = am_B208_113 := rfl
theorem bk208_121 : am_blk 208 (Int.toNat 121) = am_B208_121 := rfl
theorem bk208_129 : am_blk 208 (Int.toNat 129) = am_B208_129 := rfl
theorem bs208 : am_blk 208 0 = am_B208_0 ∧ am_blk 208 (Int.toNat 56) = am_B208_56 ∧ am_blk 208 (Int.toNat 64) = am_B208_64 ∧ am_blk 208 (Int.toNat 72) = am_B208_72 ∧ am_blk 208 (Int.toNat 83) = am_B208_83 ∧ am_blk 208 (Int.toNat 94) = am_B208_94 ∧ am_blk 208 (Int.toNat 102) = am_B208_102 ∧ am_blk 208 (Int.toNat 113) = am_B208_113 ∧ am_blk 208 (Int.toNat 121) = am_B208_121 ∧ am_blk 208 (Int.toNat 129) = am_B208_129 := ⟨rfl, rfl, rfl, rfl, rfl, rfl, rfl, rfl, rfl, rfl⟩
theorem bk209_0 : am_blk 209 0 = am_B209_0 := rfl
theorem bh209_4 : am_blk 209 4 = am_B209_4 := rfl
theorem bn209_4 : am_blk 209 (Int.toNat 4) = am_blk 209 4 := rfl
theorem bk209_25 : am_blk 209 (Int.toNat 25) = am_B209_25 := rfl
theorem bk209_26 : am_blk 209 (Int.toNat 26) = am_B209_26 := rfl
theorem bk209_34 : am_blk 209 (Int.toNat 34) = am_B209_34 := rfl
theorem bs209 : am_blk 209 0 = am_B209_0 ∧ am_blk 209 (Int.toNat 4) = am_blk 209 4 ∧ am_blk 209 (Int.toNat 25) = am_B209_25 ∧ am_blk 209 (Int.toNat 26) = am_B209_26 ∧ am_blk 209 (Int.toNat 34) = am_B209_34 := ⟨rfl, rfl, rfl, rfl, rfl⟩
theorem bk210_0 : am_blk 210 0 = am_B210_0 := rfl
theorem bk210_48 : am_blk 210 (Int.toNat 48) = am_B210_48 := rfl
theorem bk210_55 : am_blk 210 (Int.toNat 55) = am_B210_55 := rfl
theorem bk210_62 : am_blk 210 (Int.toNat 62) = am_B210_62 := rfl
theorem bk210_70 : am_blk 210 (Int.toNat 70) = am_B210_70 := rfl
theorem bk210_78 : am_blk 210 (Int.toNat 78) = am_B210_78 := rfl
theorem bk210_83 : am_blk 210 (Int.toNat 83) = am_B210_83 := rfl
theorem bk210_88 : am_blk 210 (Int.toNat 88) = am_B210_88 := rfl
theorem bk210_95 : am_blk 210 (Int.toNat 95) = am_B210_95 := rfl
theorem bh210_97 : am_blk 210 97 = am_B210_97 := rfl
theorem bn210_97 : am_blk 210 (Int.toNat 97) = am_blk 210 97 := rfl
theorem bk210_119 : am_blk 210 (Int.toNat 119) = am_B210_119 := rfl
theorem bk210_120 : am_blk 210 (Int.toNat 120) = am_B210_120 := rfl
theorem bk210_128 : am_blk 210 (Int.toNat 128) = am_B210_128 := rfl
theorem bk210_130 : am_blk 210 (Int.toNat 130) = am_B210_130 := rfl
theorem bs210 : am_blk 210 0 = am_B210_0 ∧ am_blk 210 (Int.toNat 48) = am_B210_48 ∧ am_blk 210 (Int.toNat 55) = am_B210_55 ∧ am_blk 210 (Int.toNat 62) = am_B210_62 ∧ am_blk 210 (Int.toNat 70) = am_B210_70 ∧ am_blk 210 (Int.toNat 78) = am_B210_78 ∧ am_blk 210 (Int.toNat 83) = am_B210_83 ∧ am_blk 210 (Int.toNat 88) = am_B210_88 ∧ am_blk 210 (Int.toNat 95) = am_B210_95 ∧ am_blk 210 (Int.toNat 97) = am_blk 210 97 ∧ am_blk 210 (Int.toNat 119) = am_B210_119 ∧ am_blk 210 (Int.toNat 120) = am_B210_120 ∧ am_blk 210 (Int.toNat 128) = am_B210_128 ∧ am_blk 210 (Int.toNat 130) = am_B210_130 := ⟨rfl, rfl, rfl, rfl, rfl, rfl, rfl, rfl, rfl, rfl, rfl, rfl, rfl, rfl⟩
theorem bk211_0 : am_blk 211 0 = am_B211_0 := rfl
theorem bk211_17 : am_blk 211 (Int.toNat 17) = am_B211_17 := rfl
theorem bk211_28 : am_blk 211 (Int.toNat 28) = am_B211_28 := rfl
theorem bh211_32 : am_blk 211 32 = am_B211_32 := rfl
theorem bn211_32 : am_blk 211 (Int.toNat 32) = am_blk 211 32 := rfl
theorem bk211_53 : am_blk 211 (Int.toNat 53) = am_B211_53 := rfl
theorem bs211 : am_blk 211 0 = am_B211_0 ∧ am_blk 211 (Int.toNat 17) = am_B211_17 ∧ am_blk 211 (Int.toNat 28) = am_B211_28 ∧ am_blk 211 (Int.toNat 32) = am_blk 211 32 ∧ am_blk 211 (Int.toNat 53) = am_B211_53 := ⟨rfl, rfl, rfl, rfl, rfl⟩
theorem bk212_0 : am_blk 212 0 = am_B212_0 := rfl
theorem bk212_21 : am_blk 212 (Int.toNat 21) = am_B212_21 := rfl
theorem bk212_27 : am_blk 212 (Int.toNat 27) = am_B212_27 := rfl
theorem bs212 : am_blk 212 0 = am_B212_0 ∧ am_blk 212 (Int.toNat 21) = am_B212_21 ∧ am_blk 212 (Int.toNat 27) = am_B212_27 := ⟨rfl, rfl, rfl⟩
theorem bh213_18 : am_blk 213 18 = am_B213_18 := rfl
theorem bn213_18 : am_blk 213 (Int.toNat 18) = am_blk 213 18 := rfl
theorem bk213_220 : am_blk 213 (Int.toNat 220) = am_B213_220 := rfl
theorem bk213_253 : am_blk 213 (Int.toNat 253) = am_B213_253 := rfl
theorem bk213_286 : am_blk 213 (Int.toNat 286) = am_B213_286 := rfl
theorem bk213_319 : am_blk 213 (Int.toNat 319) = am_B213_319 := rfl
theorem bk213_352 : am_blk 213 (Int.toNat 352) = am_B213_352 := rfl
theorem bk213_395 : am_blk 213 (Int.toNat 395) = am_B213_395 := rfl
theorem bk213_428 : am_blk 213 (Int.toNat 428) = am_B213_428 := rfl
theorem bk213_461 : am_blk 213 (Int.toNat 461) = am_B213_461 := rfl
theorem bk213_484 : am_blk 213 (Int.toNat 484) = am_B213_484 := rfl
theorem bk213_507 : am_blk 213 (Int.toNat 507) = am_B213_507 := rfl
theorem bk213_540 : am_blk 213 (Int.toNat 540) = am_B213_540 := rfl
theorem bk213_573 : am_blk 213 (Int.toNat 573) = am_B213_573 := rfl
theorem bk213_586 : am_blk 213 (Int.toNat 586) = am_B213_586 := rfl
theorem bk213_599 : am_blk 213 (Int.toNat 599) = am_B213_599 := rfl
theorem bk213_632 : am_blk 213 (Int.toNat 632) = am_B213_632 := rfl
theorem bk213_675 : am_blk 213 (Int.toNat 675) = am_B213_675 := rfl
theorem bk213_708 : am_blk 213 (Int.toNat 708) = am_B213_708 := rfl
theorem bk213_741 : am_blk 213 (Int.toNat 741) = am_B213_741 := rfl
theorem bk213_774 : am_blk 213 (Int.toNat 774) = am_B213_774 := rfl
theorem bk213_807 : am_blk 213 (Int.toNat 807) = am_B213_807 := rfl
theorem bk213_840 : am_blk 213 (Int.toNat 840) = am_B213_840 := rfl
theorem bk213_873 : am_blk 213 (Int.toNat 873) = am_B213_873 := rfl
theorem bk213_886 : am_blk 213 (Int.toNat 886) = am_B213_886 := rfl
theorem bk213_909 : am_blk 213 (Int.toNat 909) = am_B213_909 := rfl
theorem bk213_942 : am_blk 213 (Int.toNat 942) = am_B213_942 := rfl
theorem bk213_975 : am_blk 213 (Int.toNat 975) = am_B213_975 := rfl
theorem bk213_998 : am_blk 213 (Int.toNat 998) = am_B213_998 := rfl
theorem bk213_1032 : am_blk 213 (Int.toNat 1032) = am_B213_1032 := rfl
theorem bk213_1055 : am_blk 213 (Int.toNat 1055) = am_B213_1055 := rfl
theorem bk213_1088 : am_blk 213 (Int.toNat 1088) = am_B213_1088 := rfl
theorem bk213_1101 : am_blk 213 (Int.toNat 1101) = am_B213_1101 := rfl
theorem bk213_1114 : am_blk 213 (Int.toNat 1114) = am_B213_1114 := rfl
theorem bk213_1147 : am_blk 213 (Int.toNat 1147) = am_B213_1147 := rfl
theorem bk213_1180 : am_blk 213 (Int.toNat 1180) = am_B213_1180 := rfl
theorem bk213_1223 : am_blk 213 (Int.toNat 1223) = am_B213_1223 := rfl
theorem bk213_1266 : am_blk 213 (Int.toNat 1266) = am_B213_1266 := rfl
theorem bk213_1329 : am_blk 213 (Int.toNat 1329) = am_B213_1329 := rfl
theorem bk213_1352 : am_blk 213 (Int.toNat 1352) = am_B213_1352 := rfl
theorem bk213_1375 : am_blk 213 (Int.toNat 1375) = am_B213_1375 := rfl
theorem bk213_1388 : am_blk 213 (Int.toNat 1388) = am_B213_1388 := rfl
theorem bk213_1401 : am_blk 213 (Int.toNat 1401) = am_B213_1401 := rfl
theorem bk213_1414 : am_blk 213 (Int.toNat 1414) = am_B213_1414 := rfl
theorem bk213_1437 : am_blk 213 (Int.toNat 1437) = am_B213_1437 := rfl
theorem bk213_1460 : am_blk 213 (Int.toNat 1460) = am_B213_1460 := rfl
theorem bk213_1466 : am_blk 213 (Int.toNat 1466) = am_B213_1466 := rfl
theorem bs213 : am_blk 213 (Int.toNat 18) = am_blk 213 18 ∧ am_blk 213 (Int.toNat 220) = am_B213_220 ∧ am_blk 213 (Int.toNat 253) = am_B213_253 ∧ am_blk 213 (Int.toNat 286) = am_B213_286 ∧ am_blk 213 (Int.toNat 319) = am_B213_319 ∧ am_blk 213 (Int.toNat 352) = am_B213_352 ∧ am_blk 213 (Int.toNat 395) = am_B213_395 ∧ am_blk 213 (Int.toNat 428) = am_B213_428 ∧ am_blk 213 (Int.toNat 461) = am_B213_461 ∧ am_blk 213 (Int.toNat 484) = am_B213_484 ∧ am_blk 213 (Int.toNat 507) = am_B213_507 ∧ am_blk 213 (Int.toNat 540) = am_B213_540 ∧ am_blk 213 (Int.toNat 573) = am_B213_573 ∧ am_blk 213 (Int.toNat 586) = am_B213_586 ∧ am_blk 213 (Int.toNat 599) = am_B213_599 ∧ am_blk 213 (Int.toNat 632) = am_B213_632 ∧ am_blk 213 (Int.toNat 675) = am_B213_675 ∧ am_blk 213 (Int.toNat 708) = am_B213_708 ∧ am_blk 213 (Int.toNat 741) = am_B213_741 ∧ am_blk 213 (Int.toNat 774) = am_B213_774 ∧ am_blk 213 (Int.toNat 807) = am_B213_807 ∧ am_blk 213 (Int.toNat 840) = am_B213_840 ∧ am_blk 213 (Int.toNat 873) = am_B213_873 ∧ am_blk 213 (Int.toNat 886) = am_B213_886 ∧ am_blk 213 (Int.toNat 909) = am_B213_909 ∧ am_blk 213 (Int.toNat 942) = am_B213_942 ∧ am_blk 213 (Int.toNat 975) = am_B213_975 ∧ am_blk 213 (Int.toNat 998) = am_B213_998 ∧ am_blk 213 (Int.toNat 1032) = am_B213_1032 ∧ am_blk 213 (Int.toNat 1055) = am_B213_1055 ∧ am_blk 213 (Int.toNat 1088) = am_B213_1088 ∧ am_blk 213 (Int.toNat 1101) = am_B213_1101 ∧ am_blk 213 (Int.toNat 1114) = am_B213_1114 ∧ am_blk 213 (Int.toNat 1147) = am_B213_1147 ∧ am_blk 213 (Int.toNat 1180) = am_B213_1180 ∧ am_blk 213 (Int.toNat 1223) = am_B213_1223 ∧ am_blk 213 (Int.toNat 1266) = am_B213_1266 ∧ am_blk 213 (Int.toNat 1329) = am_B213_1329 ∧ am_blk 213 (Int.toNat 1352) = am_B213_1352 ∧ am_blk 213 (Int.toNat 1375) = am_B213_1375 ∧ am_blk 213 (Int.toNat 1388) = am_B213_1388 ∧ am_blk 213 (Int.toNat 1401) = am_B213_1401 ∧ am_blk 213 (Int.toNat 1414) = am_B213_1414 ∧ am_blk 213 (Int.toNat 1437) = am_B213_1437 ∧ am_blk 213 (Int.toNat 1460) = am_B213_1460 ∧ am_blk 213 (Int.toNat 1466) = am_B213_1466 := ⟨rfl, rfl, rfl, rfl, rfl, rfl, rfl, rfl, rfl, rfl, rfl, rfl, rfl, rfl, rfl, rfl, rfl, rfl, rfl, rfl, rfl, rfl, rfl, rfl, rfl, rfl, rfl, rfl, rfl, rfl, rfl, rfl, rfl, rfl, rfl, rfl, rfl, rfl, rfl, rfl, rfl, rfl, rfl, rfl, rfl, rfl⟩
