/-! ===== the blocks of each method as rules: printed by program ===== -/
theorem bh0_5 : am_blk 0 5 = am_B0_5 := rfl
theorem bs0 : am_blk 0 0 = am_B0_0 ∧ am_blk 0 (Int.toNat 5) = am_blk 0 5 ∧ am_blk 0 (Int.toNat 20) = am_B0_20 := ⟨rfl, rfl, rfl⟩
theorem bs1 : am_blk 1 0 = am_B1_0 ∧ am_blk 1 (Int.toNat 9) = am_B1_9 ∧ am_blk 1 (Int.toNat 10) = am_B1_10 := ⟨rfl, rfl, rfl⟩
theorem bs2 : am_blk 2 0 = am_B2_0 ∧ am_blk 2 (Int.toNat 9) = am_B2_9 ∧ am_blk 2 (Int.toNat 10) = am_B2_10 := ⟨rfl, rfl, rfl⟩
theorem bs3 : am_blk 3 0 = am_B3_0 ∧ am_blk 3 (Int.toNat 9) = am_B3_9 ∧ am_blk 3 (Int.toNat 10) = am_B3_10 := ⟨rfl, rfl, rfl⟩
theorem bs4 : am_blk 4 0 = am_B4_0 := rfl
theorem bs5 : am_blk 5 0 = am_B5_0 := rfl
theorem bs6 : am_blk 6 0 = am_B6_0 ∧ am_blk 6 (Int.toNat 13) = am_B6_13 ∧ am_blk 6 (Int.toNat 14) = am_B6_14 := ⟨rfl, rfl, rfl⟩
theorem bs7 : am_blk 7 0 = am_B7_0 := rfl
theorem bs8 : am_blk 8 0 = am_B8_0 ∧ am_blk 8 (Int.toNat 17) = am_B8_17 ∧ am_blk 8 (Int.toNat 18) = am_B8_18 := ⟨rfl, rfl, rfl⟩
theorem bs9 : am_blk 9 0 = am_B9_0 := rfl
theorem bs10 : am_blk 10 0 = am_B10_0 := rfl
theorem bs11 : am_blk 11 0 = am_B11_0 ∧ am_blk 11 (Int.toNat 16) = am_B11_16 := ⟨rfl, rfl⟩
theorem bs12 : am_blk 12 0 = am_B12_0 ∧ am_blk 12 (Int.toNat 18) = am_B12_18 ∧ am_blk 12 (Int.toNat 25) = am_B12_25 := ⟨rfl, rfl, rfl⟩
theorem bs13 : am_blk 13 0 = am_B13_0 ∧ am_blk 13 (Int.toNat 14) = am_B13_14 ∧ am_blk 13 (Int.toNat 15) = am_B13_15 := ⟨rfl, rfl, rfl⟩
theorem bs14 : am_blk 14 0 = am_B14_0 ∧ am_blk 14 (Int.toNat 14) = am_B14_14 ∧ am_blk 14 (Int.toNat 15) = am_B14_15 := ⟨rfl, rfl, rfl⟩
theorem bs15 : am_blk 15 0 = am_B15_0 ∧ am_blk 15 (Int.toNat 25) = am_B15_25 := ⟨rfl, rfl⟩
theorem bs16 : am_blk 16 0 = am_B16_0 ∧ am_blk 16 (Int.toNat 26) = am_B16_26 ∧ am_blk 16 (Int.toNat 32) = am_B16_32 := ⟨rfl, rfl, rfl⟩
theorem bs17 : am_blk 17 0 = am_B17_0 := rfl
theorem bs18 : am_blk 18 0 = am_B18_0 ∧ am_blk 18 (Int.toNat 14) = am_B18_14 ∧ am_blk 18 (Int.toNat 15) = am_B18_15 := ⟨rfl, rfl, rfl⟩
theorem bs19 : am_blk 19 0 = am_B19_0 := rfl
theorem bs20 : am_blk 20 0 = am_B20_0 := rfl
theorem bs21 : am_blk 21 0 = am_B21_0 := rfl
theorem bs22 : am_blk 22 0 = am_B22_0 ∧ am_blk 22 (Int.toNat 16) = am_B22_16 ∧ am_blk 22 (Int.toNat 23) = am_B22_23 ∧ am_blk 22 (Int.toNat 37) = am_B22_37 ∧ am_blk 22 (Int.toNat 60) = am_B22_60 ∧ am_blk 22 (Int.toNat 68) = am_B22_68 := ⟨rfl, rfl, rfl, rfl, rfl, rfl⟩
theorem bh23_18 : am_blk 23 18 = am_B23_18 := rfl
theorem bh23_61 : am_blk 23 61 = am_B23_61 := rfl
theorem bs23 : am_blk 23 0 = am_B23_0 ∧ am_blk 23 (Int.toNat 18) = am_blk 23 18 ∧ am_blk 23 (Int.toNat 53) = am_B23_53 ∧ am_blk 23 (Int.toNat 59) = am_B23_59 ∧ am_blk 23 (Int.toNat 61) = am_blk 23 61 ∧ am_blk 23 (Int.toNat 99) = am_B23_99 ∧ am_blk 23 (Int.toNat 105) = am_B23_105 := ⟨rfl, rfl, rfl, rfl, rfl, rfl, rfl⟩
theorem bh24_55 : am_blk 24 55 = am_B24_55 := rfl
theorem bs24 : am_blk 24 0 = am_B24_0 ∧ am_blk 24 (Int.toNat 16) = am_B24_16 ∧ am_blk 24 (Int.toNat 55) = am_blk 24 55 ∧ am_blk 24 (Int.toNat 85) = am_B24_85 ∧ am_blk 24 (Int.toNat 91) = am_B24_91 := ⟨rfl, rfl, rfl, rfl, rfl⟩
theorem bs25 : am_blk 25 0 = am_B25_0 ∧ am_blk 25 (Int.toNat 14) = am_B25_14 ∧ am_blk 25 (Int.toNat 15) = am_B25_15 ∧ am_blk 25 (Int.toNat 30) = am_B25_30 ∧ am_blk 25 (Int.toNat 31) = am_B25_31 ∧ am_blk 25 (Int.toNat 53) = am_B25_53 ∧ am_blk 25 (Int.toNat 54) = am_B25_54 ∧ am_blk 25 (Int.toNat 70) = am_B25_70 ∧ am_blk 25 (Int.toNat 71) = am_B25_71 ∧ am_blk 25 (Int.toNat 111) = am_B25_111 ∧ am_blk 25 (Int.toNat 112) = am_B25_112 ∧ am_blk 25 (Int.toNat 160) = am_B25_160 ∧ am_blk 25 (Int.toNat 163) = am_B25_163 ∧ am_blk 25 (Int.toNat 169) = am_B25_169 ∧ am_blk 25 (Int.toNat 180) = am_B25_180 ∧ am_blk 25 (Int.toNat 197) = am_B25_197 ∧ am_blk 25 (Int.toNat 205) = am_B25_205 ∧ am_blk 25 (Int.toNat 206) = am_B25_206 ∧ am_blk 25 (Int.toNat 207) = am_B25_207 ∧ am_blk 25 (Int.toNat 216) = am_B25_216 ∧ am_blk 25 (Int.toNat 217) = am_B25_217 ∧ am_blk 25 (Int.toNat 218) = am_B25_218 := ⟨rfl, rfl, rfl, rfl, rfl, rfl, rfl, rfl, rfl, rfl, rfl, rfl, rfl, rfl, rfl, rfl, rfl, rfl, rfl, rfl, rfl, rfl⟩
theorem bh26_4 : am_blk 26 4 = am_B26_4 := rfl
theorem bs26 : am_blk 26 0 = am_B26_0 ∧ am_blk 26 (Int.toNat 4) = am_blk 26 4 ∧ am_blk 26 (Int.toNat 29) = am_B26_29 ∧ am_blk 26 (Int.toNat 30) = am_B26_30 ∧ am_blk 26 (Int.toNat 38) = am_B26_38 := ⟨rfl, rfl, rfl, rfl, rfl⟩
theorem bh27_4 : am_blk 27 4 = am_B27_4 := rfl
theorem bs27 : am_blk 27 0 = am_B27_0 ∧ am_blk 27 (Int.toNat 4) = am_blk 27 4 ∧ am_blk 27 (Int.toNat 29) = am_B27_29 ∧ am_blk 27 (Int.toNat 30) = am_B27_30 ∧ am_blk 27 (Int.toNat 38) = am_B27_38 := ⟨rfl, rfl, rfl, rfl, rfl⟩
theorem bs28 : am_blk 28 0 = am_B28_0 ∧ am_blk 28 (Int.toNat 16) = am_B28_16 ∧ am_blk 28 (Int.toNat 23) = am_B28_23 ∧ am_blk 28 (Int.toNat 43) = am_B28_43 ∧ am_blk 28 (Int.toNat 56) = am_B28_56 ∧ am_blk 28 (Int.toNat 61) = am_B28_61 := ⟨rfl, rfl, rfl, rfl, rfl, rfl⟩
theorem bh29_2 : am_blk 29 2 = am_B29_2 := rfl
theorem bh29_43 : am_blk 29 43 = am_B29_43 := rfl
theorem bs29 : am_blk 29 0 = am_B29_0 ∧ am_blk 29 (Int.toNat 2) = am_blk 29 2 ∧ am_blk 29 (Int.toNat 29) = am_B29_29 ∧ am_blk 29 (Int.toNat 34) = am_B29_34 ∧ am_blk 29 (Int.toNat 41) = am_B29_41 ∧ am_blk 29 (Int.toNat 43) = am_blk 29 43 ∧ am_blk 29 (Int.toNat 70) = am_B29_70 ∧ am_blk 29 (Int.toNat 98) = am_B29_98 ∧ am_blk 29 (Int.toNat 105) = am_B29_105 := ⟨rfl, rfl, rfl, rfl, rfl, rfl, rfl, rfl, rfl⟩
theorem bh30_17 : am_blk 30 17 = am_B30_17 := rfl
theorem bs30 : am_blk 30 0 = am_B30_0 ∧ am_blk 30 (Int.toNat 17) = am_blk 30 17 ∧ am_blk 30 (Int.toNat 56) = am_B30_56 ∧ am_blk 30 (Int.toNat 62) = am_B30_62 := ⟨rfl, rfl, rfl, rfl⟩
theorem bs31 : am_blk 31 0 = am_B31_0 := rfl
theorem bs32 : am_blk 32 0 = am_B32_0 := rfl
theorem bs33 : am_blk 33 0 = am_B33_0 ∧ am_blk 33 (Int.toNat 21) = am_B33_21 ∧ am_blk 33 (Int.toNat 22) = am_B33_22 ∧ am_blk 33 (Int.toNat 68) = am_B33_68 ∧ am_blk 33 (Int.toNat 84) = am_B33_84 ∧ am_blk 33 (Int.toNat 85) = am_B33_85 ∧ am_blk 33 (Int.toNat 86) = am_B33_86 ∧ am_blk 33 (Int.toNat 94) = am_B33_94 ∧ am_blk 33 (Int.toNat 106) = am_B33_106 ∧ am_blk 33 (Int.toNat 118) = am_B33_118 ∧ am_blk 33 (Int.toNat 127) = am_B33_127 ∧ am_blk 33 (Int.toNat 128) = am_B33_128 ∧ am_blk 33 (Int.toNat 129) = am_B33_129 ∧ am_blk 33 (Int.toNat 150) = am_B33_150 ∧ am_blk 33 (Int.toNat 151) = am_B33_151 ∧ am_blk 33 (Int.toNat 152) = am_B33_152 := ⟨rfl, rfl, rfl, rfl, rfl, rfl, rfl, rfl, rfl, rfl, rfl, rfl, rfl, rfl, rfl, rfl⟩
theorem bs34 : am_blk 34 0 = am_B34_0 := rfl
theorem bh35_4 : am_blk 35 4 = am_B35_4 := rfl
theorem bs35 : am_blk 35 0 = am_B35_0 ∧ am_blk 35 (Int.toNat 4) = am_blk 35 4 ∧ am_blk 35 (Int.toNat 39) = am_B35_39 ∧ am_blk 35 (Int.toNat 40) = am_B35_40 ∧ am_blk 35 (Int.toNat 48) = am_B35_48 := ⟨rfl, rfl, rfl, rfl, rfl⟩
theorem bh36_4 : am_blk 36 4 = am_B36_4 := rfl
theorem bs36 : am_blk 36 0 = am_B36_0 ∧ am_blk 36 (Int.toNat 4) = am_blk 36 4 ∧ am_blk 36 (Int.toNat 20) = am_B36_20 := ⟨rfl, rfl, rfl⟩
theorem bs37 : am_blk 37 0 = am_B37_0 ∧ am_blk 37 (Int.toNat 37) = am_B37_37 ∧ am_blk 37 (Int.toNat 38) = am_B37_38 ∧ am_blk 37 (Int.toNat 63) = am_B37_63 ∧ am_blk 37 (Int.toNat 64) = am_B37_64 := ⟨rfl, rfl, rfl, rfl, rfl⟩
theorem bs38 : am_blk 38 0 = am_B38_0 ∧ am_blk 38 (Int.toNat 24) = am_B38_24 ∧ am_blk 38 (Int.toNat 25) = am_B38_25 := ⟨rfl, rfl, rfl⟩
theorem bh39_4 : am_blk 39 4 = am_B39_4 := rfl
theorem bs39 : am_blk 39 0 = am_B39_0 ∧ am_blk 39 (Int.toNat 4) = am_blk 39 4 ∧ am_blk 39 (Int.toNat 31) = am_B39_31 ∧ am_blk 39 (Int.toNat 32) = am_B39_32 ∧ am_blk 39 (Int.toNat 40) = am_B39_40 := ⟨rfl, rfl, rfl, rfl, rfl⟩
theorem bs40 : am_blk 40 0 = am_B40_0 ∧ am_blk 40 (Int.toNat 14) = am_B40_14 ∧ am_blk 40 (Int.toNat 21) = am_B40_21 ∧ am_blk 40 (Int.toNat 45) = am_B40_45 ∧ am_blk 40 (Int.toNat 46) = am_B40_46 := ⟨rfl, rfl, rfl, rfl, rfl⟩
theorem bs41 : am_blk 41 0 = am_B41_0 := rfl
theorem bs42 : am_blk 42 0 = am_B42_0 ∧ am_blk 42 (Int.toNat 13) = am_B42_13 := ⟨rfl, rfl⟩
theorem bs43 : am_blk 43 0 = am_B43_0 ∧ am_blk 43 (Int.toNat 14) = am_B43_14 ∧ am_blk 43 (Int.toNat 21) = am_B43_21 ∧ am_blk 43 (Int.toNat 41) = am_B43_41 ∧ am_blk 43 (Int.toNat 49) = am_B43_49 := ⟨rfl, rfl, rfl, rfl, rfl⟩
theorem bs44 : am_blk 44 0 = am_B44_0 := rfl
theorem bs45 : am_blk 45 0 = am_B45_0 := rfl
theorem bs46 : am_blk 46 0 = am_B46_0 ∧ am_blk 46 (Int.toNat 18) = am_B46_18 ∧ am_blk 46 (Int.toNat 25) = am_B46_25 ∧ am_blk 46 (Int.toNat 40) = am_B46_40 ∧ am_blk 46 (Int.toNat 62) = am_B46_62 ∧ am_blk 46 (Int.toNat 77) = am_B46_77 ∧ am_blk 46 (Int.toNat 92) = am_B46_92 ∧ am_blk 46 (Int.toNat 93) = am_B46_93 := ⟨rfl, rfl, rfl, rfl, rfl, rfl, rfl, rfl⟩
theorem bs47 : am_blk 47 0 = am_B47_0 := rfl
theorem bs48 : am_blk 48 0 = am_B48_0 ∧ am_blk 48 (Int.toNat 32) = am_B48_32 ∧ am_blk 48 (Int.toNat 39) = am_B48_39 ∧ am_blk 48 (Int.toNat 46) = am_B48_46 ∧ am_blk 48 (Int.toNat 53) = am_B48_53 ∧ am_blk 48 (Int.toNat 60) = am_B48_60 := ⟨rfl, rfl, rfl, rfl, rfl, rfl⟩
theorem bs49 : am_blk 49 0 = am_B49_0 ∧ am_blk 49 (Int.toNat 32) = am_B49_32 ∧ am_blk 49 (Int.toNat 33) = am_B49_33 := ⟨rfl, rfl, rfl⟩
theorem bs50 : am_blk 50 0 = am_B50_0 ∧ am_blk 50 (Int.toNat 10) = am_B50_10 ∧ am_blk 50 (Int.toNat 11) = am_B50_11 := ⟨rfl, rfl, rfl⟩
theorem bh51_8 : am_blk 51 8 = am_B51_8 := rfl
theorem bs51 : am_blk 51 0 = am_B51_0 ∧ am_blk 51 (Int.toNat 8) = am_blk 51 8 ∧ am_blk 51 (Int.toNat 47) = am_B51_47 ∧ am_blk 51 (Int.toNat 53) = am_B51_53 := ⟨rfl, rfl, rfl, rfl⟩
theorem bs52 : am_blk 52 0 = am_B52_0 ∧ am_blk 52 (Int.toNat 18) = am_B52_18 ∧ am_blk 52 (Int.toNat 25) = am_B52_25 ∧ am_blk 52 (Int.toNat 56) = am_B52_56 ∧ am_blk 52 (Int.toNat 63) = am_B52_63 ∧ am_blk 52 (Int.toNat 70) = am_B52_70 ∧ am_blk 52 (Int.toNat 82) = am_B52_82 ∧ am_blk 52 (Int.toNat 83) = am_B52_83 ∧ am_blk 52 (Int.toNat 84) = am_B52_84 := ⟨rfl, rfl, rfl, rfl, rfl, rfl, rfl, rfl, rfl⟩
theorem bs53 : am_blk 53 0 = am_B53_0 := rfl
theorem bh54_4 : am_blk 54 4 = am_B54_4 := rfl
theorem bs54 : am_blk 54 0 = am_B54_0 ∧ am_blk 54 (Int.toNat 4) = am_blk 54 4 ∧ am_blk 54 (Int.toNat 53) = am_B54_53 ∧ am_blk 54 (Int.toNat 57) = am_B54_57 ∧ am_blk 54 (Int.toNat 58) = am_B54_58 ∧ am_blk 54 (Int.toNat 65) = am_B54_65 := ⟨rfl, rfl, rfl, rfl, rfl, rfl⟩
theorem bs55 : am_blk 55 0 = am_B55_0 ∧ am_blk 55 (Int.toNat 21) = am_B55_21 ∧ am_blk 55 (Int.toNat 28) = am_B55_28 := ⟨rfl, rfl, rfl⟩
theorem bs56 : am_blk 56 0 = am_B56_0 ∧ am_blk 56 (Int.toNat 36) = am_B56_36 ∧ am_blk 56 (Int.toNat 41) = am_B56_41 ∧ am_blk 56 (Int.toNat 46) = am_B56_46 ∧ am_blk 56 (Int.toNat 54) = am_B56_54 ∧ am_blk 56 (Int.toNat 77) = am_B56_77 ∧ am_blk 56 (Int.toNat 78) = am_B56_78 ∧ am_blk 56 (Int.toNat 79) = am_B56_79 ∧ am_blk 56 (Int.toNat 87) = am_B56_87 := ⟨rfl, rfl, rfl, rfl, rfl, rfl, rfl, rfl, rfl⟩
theorem bs57 : am_blk 57 0 = am_B57_0 ∧ am_blk 57 (Int.toNat 32) = am_B57_32 ∧ am_blk 57 (Int.toNat 42) = am_B57_42 ∧ am_blk 57 (Int.toNat 52) = am_B57_52 ∧ am_blk 57 (Int.toNat 62) = am_B57_62 ∧ am_blk 57 (Int.toNat 72) = am_B57_72 ∧ am_blk 57 (Int.toNat 79) = am_B57_79 := ⟨rfl, rfl, rfl, rfl, rfl, rfl, rfl⟩
theorem bs58 : am_blk 58 0 = am_B58_0 ∧ am_blk 58 (Int.toNat 31) = am_B58_31 ∧ am_blk 58 (Int.toNat 37) = am_B58_37 := ⟨rfl, rfl, rfl⟩
theorem bs59 : am_blk 59 0 = am_B59_0 ∧ am_blk 59 (Int.toNat 36) = am_B59_36 ∧ am_blk 59 (Int.toNat 41) = am_B59_41 ∧ am_blk 59 (Int.toNat 46) = am_B59_46 ∧ am_blk 59 (Int.toNat 64) = am_B59_64 ∧ am_blk 59 (Int.toNat 68) = am_B59_68 ∧ am_blk 59 (Int.toNat 69) = am_B59_69 ∧ am_blk 59 (Int.toNat 70) = am_B59_70 ∧ am_blk 59 (Int.toNat 78) = am_B59_78 := ⟨rfl, rfl, rfl, rfl, rfl, rfl, rfl, rfl, rfl⟩
theorem bs60 : am_blk 60 0 = am_B60_0 ∧ am_blk 60 (Int.toNat 15) = am_B60_15 ∧ am_blk 60 (Int.toNat 22) = am_B60_22 ∧ am_blk 60 (Int.toNat 41) = am_B60_41 := ⟨rfl, rfl, rfl, rfl⟩
theorem bs61 : am_blk 61 0 = am_B61_0 ∧ am_blk 61 (Int.toNat 24) = am_B61_24 ∧ am_blk 61 (Int.toNat 25) = am_B61_25 := ⟨rfl, rfl, rfl⟩
theorem bs62 : am_blk 62 0 = am_B62_0 ∧ am_blk 62 (Int.toNat 20) = am_B62_20 ∧ am_blk 62 (Int.toNat 21) = am_B62_21 := ⟨rfl, rfl, rfl⟩
theorem bs63 : am_blk 63 0 = am_B63_0 ∧ am_blk 63 (Int.toNat 15) = am_B63_15 ∧ am_blk 63 (Int.toNat 22) = am_B63_22 ∧ am_blk 63 (Int.toNat 40) = am_B63_40 ∧ am_blk 63 (Int.toNat 46) = am_B63_46 := ⟨rfl, rfl, rfl, rfl, rfl⟩
theorem bs64 : am_blk 64 0 = am_B64_0 ∧ am_blk 64 (Int.toNat 15) = am_B64_15 ∧ am_blk 64 (Int.toNat 22) = am_B64_22 ∧ am_blk 64 (Int.toNat 41) = am_B64_41 := ⟨rfl, rfl, rfl, rfl⟩
theorem bs65 : am_blk 65 0 = am_B65_0 ∧ am_blk 65 (Int.toNat 15) = am_B65_15 ∧ am_blk 65 (Int.toNat 22) = am_B65_22 ∧ am_blk 65 (Int.toNat 40) = am_B65_40 ∧ am_blk 65 (Int.toNat 46) = am_B65_46 := ⟨rfl, rfl, rfl, rfl, rfl⟩
theorem bs66 : am_blk 66 0 = am_B66_0 ∧ am_blk 66 (Int.toNat 17) = am_B66_17 ∧ am_blk 66 (Int.toNat 38) = am_B66_38 := ⟨rfl, rfl, rfl⟩
theorem bh67_2 : am_blk 67 2 = am_B67_2 := rfl
theorem bh67_13 : am_blk 67 13 = am_B67_13 := rfl
theorem bh67_52 : am_blk 67 52 = am_B67_52 := rfl
theorem bs67 : am_blk 67 0 = am_B67_0 ∧ am_blk 67 (Int.toNat 2) = am_blk 67 2 ∧ am_blk 67 (Int.toNat 13) = am_blk 67 13 ∧ am_blk 67 (Int.toNat 50) = am_B67_50 ∧ am_blk 67 (Int.toNat 52) = am_blk 67 52 ∧ am_blk 67 (Int.toNat 93) = am_B67_93 ∧ am_blk 67 (Int.toNat 99) = am_B67_99 ∧ am_blk 67 (Int.toNat 120) = am_B67_120 := ⟨rfl, rfl, rfl, rfl, rfl, rfl, rfl, rfl⟩
theorem bh68_4 : am_blk 68 4 = am_B68_4 := rfl
theorem bs68 : am_blk 68 0 = am_B68_0 ∧ am_blk 68 (Int.toNat 4) = am_blk 68 4 ∧ am_blk 68 (Int.toNat 27) = am_B68_27 := ⟨rfl, rfl, rfl⟩
theorem bs69 : am_blk 69 0 = am_B69_0 ∧ am_blk 69 (Int.toNat 17) = am_B69_17 ∧ am_blk 69 (Int.toNat 37) = am_B69_37 := ⟨rfl, rfl, rfl⟩
theorem bh70_2 : am_blk 70 2 = am_B70_2 := rfl
theorem bs70 : am_blk 70 0 = am_B70_0 ∧ am_blk 70 (Int.toNat 2) = am_blk 70 2 ∧ am_blk 70 (Int.toNat 17) = am_B70_17 := ⟨rfl, rfl, rfl⟩
theorem bh71_6 : am_blk 71 6 = am_B71_6 := rfl
theorem bs71 : am_blk 71 0 = am_B71_0 ∧ am_blk 71 (Int.toNat 6) = am_blk 71 6 ∧ am_blk 71 (Int.toNat 73) = am_B71_73 ∧ am_blk 71 (Int.toNat 77) = am_B71_77 ∧ am_blk 71 (Int.toNat 78) = am_B71_78 ∧ am_blk 71 (Int.toNat 101) = am_B71_101 ∧ am_blk 71 (Int.toNat 107) = am_B71_107 ∧ am_blk 71 (Int.toNat 114) = am_B71_114 := ⟨rfl, rfl, rfl, rfl, rfl, rfl, rfl, rfl⟩
theorem bh72_4 : am_blk 72 4 = am_B72_4 := rfl
theorem bs72 : am_blk 72 0 = am_B72_0 ∧ am_blk 72 (Int.toNat 4) = am_blk 72 4 ∧ am_blk 72 (Int.toNat 29) = am_B72_29 := ⟨rfl, rfl, rfl⟩
theorem bs73 : am_blk 73 0 = am_B73_0 ∧ am_blk 73 (Int.toNat 16) = am_B73_16 ∧ am_blk 73 (Int.toNat 60) = am_B73_60 ∧ am_blk 73 (Int.toNat 68) = am_B73_68 ∧ am_blk 73 (Int.toNat 76) = am_B73_76 ∧ am_blk 73 (Int.toNat 84) = am_B73_84 ∧ am_blk 73 (Int.toNat 92) = am_B73_92 ∧ am_blk 73 (Int.toNat 100) = am_B73_100 := ⟨rfl, rfl, rfl, rfl, rfl, rfl, rfl, rfl⟩
theorem bh74_4 : am_blk 74 4 = am_B74_4 := rfl
theorem bs74 : am_blk 74 0 = am_B74_0 ∧ am_blk 74 (Int.toNat 4) = am_blk 74 4 ∧ am_blk 74 (Int.toNat 27) = am_B74_27 ∧ am_blk 74 (Int.toNat 28) = am_B74_28 ∧ am_blk 74 (Int.toNat 36) = am_B74_36 := ⟨rfl, rfl, rfl, rfl, rfl⟩
theorem bh75_4 : am_blk 75 4 = am_B75_4 := rfl
theorem bs75 : am_blk 75 0 = am_B75_0 ∧ am_blk 75 (Int.toNat 4) = am_blk 75 4 ∧ am_blk 75 (Int.toNat 26) = am_B75_26 ∧ am_blk 75 (Int.toNat 27) = am_B75_27 ∧ am_blk 75 (Int.toNat 35) = am_B75_35 := ⟨rfl, rfl, rfl, rfl, rfl⟩
theorem bh76_4 : am_blk 76 4 = am_B76_4 := rfl
theorem bs76 : am_blk 76 0 = am_B76_0 ∧ am_blk 76 (Int.toNat 4) = am_blk 76 4 ∧ am_blk 76 (Int.toNat 34) = am_B76_34 ∧ am_blk 76 (Int.toNat 35) = am_B76_35 ∧ am_blk 76 (Int.toNat 43) = am_B76_43 := ⟨rfl, rfl, rfl, rfl, rfl⟩
theorem bh77_4 : am_blk 77 4 = am_B77_4 := rfl
theorem bs77 : am_blk 77 0 = am_B77_0 ∧ am_blk 77 (Int.toNat 4) = am_blk 77 4 ∧ am_blk 77 (Int.toNat 32) = am_B77_32 ∧ am_blk 77 (Int.toNat 34) = am_B77_34 ∧ am_blk 77 (Int.toNat 40) = am_B77_40 := ⟨rfl, rfl, rfl, rfl, rfl⟩
theorem bs78 : am_blk 78 0 = am_B78_0 ∧ am_blk 78 (Int.toNat 40) = am_B78_40 ∧ am_blk 78 (Int.toNat 47) = am_B78_47 ∧ am_blk 78 (Int.toNat 52) = am_B78_52 ∧ am_blk 78 (Int.toNat 57) = am_B78_57 ∧ am_blk 78 (Int.toNat 62) = am_B78_62 ∧ am_blk 78 (Int.toNat 67) = am_B78_67 ∧ am_blk 78 (Int.toNat 72) = am_B78_72 := ⟨rfl, rfl, rfl, rfl, rfl, rfl, rfl, rfl⟩
theorem bh79_8 : am_blk 79 8 = am_B79_8 := rfl
theorem bs79 : am_blk 79 0 = am_B79_0 ∧ am_blk 79 (Int.toNat 8) = am_blk 79 8 ∧ am_blk 79 (Int.toNat 33) = am_B79_33 ∧ am_blk 79 (Int.toNat 34) = am_B79_34 ∧ am_blk 79 (Int.toNat 42) = am_B79_42 := ⟨rfl, rfl, rfl, rfl, rfl⟩
theorem bh80_8 : am_blk 80 8 = am_B80_8 := rfl
theorem bs80 : am_blk 80 0 = am_B80_0 ∧ am_blk 80 (Int.toNat 8) = am_blk 80 8 ∧ am_blk 80 (Int.toNat 35) = am_B80_35 := ⟨rfl, rfl, rfl⟩
theorem bh81_8 : am_blk 81 8 = am_B81_8 := rfl
theorem bs81 : am_blk 81 0 = am_B81_0 ∧ am_blk 81 (Int.toNat 8) = am_blk 81 8 ∧ am_blk 81 (Int.toNat 40) = am_B81_40 ∧ am_blk 81 (Int.toNat 41) = am_B81_41 ∧ am_blk 81 (Int.toNat 49) = am_B81_49 := ⟨rfl, rfl, rfl, rfl, rfl⟩
theorem bh82_4 : am_blk 82 4 = am_B82_4 := rfl
theorem bs82 : am_blk 82 0 = am_B82_0 ∧ am_blk 82 (Int.toNat 4) = am_blk 82 4 ∧ am_blk 82 (Int.toNat 33) = am_B82_33 ∧ am_blk 82 (Int.toNat 37) = am_B82_37 ∧ am_blk 82 (Int.toNat 38) = am_B82_38 ∧ am_blk 82 (Int.toNat 45) = am_B82_45 := ⟨rfl, rfl, rfl, rfl, rfl, rfl⟩
theorem bs83 : am_blk 83 0 = am_B83_0 ∧ am_blk 83 (Int.toNat 18) = am_B83_18 ∧ am_blk 83 (Int.toNat 25) = am_B83_25 := ⟨rfl, rfl, rfl⟩
theorem bs84 : am_blk 84 0 = am_B84_0 := rfl
theorem bs85 : am_blk 85 0 = am_B85_0 ∧ am_blk 85 (Int.toNat 28) = am_B85_28 ∧ am_blk 85 (Int.toNat 34) = am_B85_34 := ⟨rfl, rfl, rfl⟩
theorem bs86 : am_blk 86 0 = am_B86_0 := rfl
theorem bs87 : am_blk 87 0 = am_B87_0 := rfl
theorem bh88_2 : am_blk 88 2 = am_B88_2 := rfl
theorem bs88 : am_blk 88 0 = am_B88_0 ∧ am_blk 88 (Int.toNat 2) = am_blk 88 2 ∧ am_blk 88 (Int.toNat 20) = am_B88_20 := ⟨rfl, rfl, rfl⟩
theorem bs89 : am_blk 89 0 = am_B89_0 := rfl
theorem bs90 : am_blk 90 0 = am_B90_0 ∧ am_blk 90 (Int.toNat 18) = am_B90_18 ∧ am_blk 90 (Int.toNat 25) = am_B90_25 := ⟨rfl, rfl, rfl⟩
theorem bs91 : am_blk 91 0 = am_B91_0 ∧ am_blk 91 (Int.toNat 28) = am_B91_28 ∧ am_blk 91 (Int.toNat 34) = am_B91_34 := ⟨rfl, rfl, rfl⟩
theorem bh92_13 : am_blk 92 13 = am_B92_13 := rfl
theorem bs92 : am_blk 92 0 = am_B92_0 ∧ am_blk 92 (Int.toNat 13) = am_blk 92 13 ∧ am_blk 92 (Int.toNat 38) = am_B92_38 ∧ am_blk 92 (Int.toNat 52) = am_B92_52 := ⟨rfl, rfl, rfl, rfl⟩
theorem bh93_13 : am_blk 93 13 = am_B93_13 := rfl
theorem bs93 : am_blk 93 0 = am_B93_0 ∧ am_blk 93 (Int.toNat 13) = am_blk 93 13 ∧ am_blk 93 (Int.toNat 36) = am_B93_36 ∧ am_blk 93 (Int.toNat 49) = am_B93_49 ∧ am_blk 93 (Int.toNat 50) = am_B93_50 := ⟨rfl, rfl, rfl, rfl, rfl⟩
theorem bs94 : am_blk 94 0 = am_B94_0 ∧ am_blk 94 (Int.toNat 13) = am_B94_13 ∧ am_blk 94 (Int.toNat 14) = am_B94_14 := ⟨rfl, rfl, rfl⟩
theorem bh95_13 : am_blk 95 13 = am_B95_13 := rfl
theorem bs95 : am_blk 95 0 = am_B95_0 ∧ am_blk 95 (Int.toNat 13) = am_blk 95 13 ∧ am_blk 95 (Int.toNat 43) = am_B95_43 ∧ am_blk 95 (Int.toNat 49) = am_B95_49 := ⟨rfl, rfl, rfl, rfl⟩
theorem bh96_2 : am_blk 96 2 = am_B96_2 := rfl
theorem bs96 : am_blk 96 0 = am_B96_0 ∧ am_blk 96 (Int.toNat 2) = am_blk 96 2 ∧ am_blk 96 (Int.toNat 27) = am_B96_27 ∧ am_blk 96 (Int.toNat 33) = am_B96_33 := ⟨rfl, rfl, rfl, rfl⟩
theorem bh97_17 : am_blk 97 17 = am_B97_17 := rfl
theorem bs97 : am_blk 97 0 = am_B97_0 ∧ am_blk 97 (Int.toNat 17) = am_blk 97 17 ∧ am_blk 97 (Int.toNat 40) = am_B97_40 ∧ am_blk 97 (Int.toNat 53) = am_B97_53 ∧ am_blk 97 (Int.toNat 54) = am_B97_54 := ⟨rfl, rfl, rfl, rfl, rfl⟩
theorem bh98_4 : am_blk 98 4 = am_B98_4 := rfl
theorem bs98 : am_blk 98 0 = am_B98_0 ∧ am_blk 98 (Int.toNat 4) = am_blk 98 4 ∧ am_blk 98 (Int.toNat 45) = am_B98_45 ∧ am_blk 98 (Int.toNat 46) = am_B98_46 ∧ am_blk 98 (Int.toNat 53) = am_B98_53 := ⟨rfl, rfl, rfl, rfl, rfl⟩
theorem bh99_41 : am_blk 99 41 = am_B99_41 := rfl
theorem bs99 : am_blk 99 0 = am_B99_0 ∧ am_blk 99 (Int.toNat 21) = am_B99_21 ∧ am_blk 99 (Int.toNat 28) = am_B99_28 ∧ am_blk 99 (Int.toNat 41) = am_blk 99 41 ∧ am_blk 99 (Int.toNat 77) = am_B99_77 ∧ am_blk 99 (Int.toNat 91) = am_B99_91 := ⟨rfl, rfl, rfl, rfl, rfl, rfl⟩
theorem bh100_41 : am_blk 100 41 = am_B100_41 := rfl
theorem bs100 : am_blk 100 0 = am_B100_0 ∧ am_blk 100 (Int.toNat 21) = am_B100_21 ∧ am_blk 100 (Int.toNat 28) = am_B100_28 ∧ am_blk 100 (Int.toNat 41) = am_blk 100 41 ∧ am_blk 100 (Int.toNat 66) = am_B100_66 ∧ am_blk 100 (Int.toNat 81) = am_B100_81 ∧ am_blk 100 (Int.toNat 82) = am_B100_82 := ⟨rfl, rfl, rfl, rfl, rfl, rfl, rfl⟩
theorem bs101 : am_blk 101 0 = am_B101_0 ∧ am_blk 101 (Int.toNat 23) = am_B101_23 ∧ am_blk 101 (Int.toNat 24) = am_B101_24 := ⟨rfl, rfl, rfl⟩
theorem bh102_54 : am_blk 102 54 = am_B102_54 := rfl
theorem bs102 : am_blk 102 0 = am_B102_0 ∧ am_blk 102 (Int.toNat 26) = am_B102_26 ∧ am_blk 102 (Int.toNat 33) = am_B102_33 ∧ am_blk 102 (Int.toNat 54) = am_blk 102 54 ∧ am_blk 102 (Int.toNat 106) = am_B102_106 ∧ am_blk 102 (Int.toNat 115) = am_B102_115 ∧ am_blk 102 (Int.toNat 117) = am_B102_117 := ⟨rfl, rfl, rfl, rfl, rfl, rfl, rfl⟩
theorem bh103_54 : am_blk 103 54 = am_B103_54 := rfl
theorem bs103 : am_blk 103 0 = am_B103_0 ∧ am_blk 103 (Int.toNat 26) = am_B103_26 ∧ am_blk 103 (Int.toNat 33) = am_B103_33 ∧ am_blk 103 (Int.toNat 54) = am_blk 103 54 ∧ am_blk 103 (Int.toNat 102) = am_B103_102 ∧ am_blk 103 (Int.toNat 112) = am_B103_112 ∧ am_blk 103 (Int.toNat 114) = am_B103_114 := ⟨rfl, rfl, rfl, rfl, rfl, rfl, rfl⟩
theorem bs104 : am_blk 104 0 = am_B104_0 := rfl
theorem bh105_34 : am_blk 105 34 = am_B105_34 := rfl
theorem bs105 : am_blk 105 0 = am_B105_0 ∧ am_blk 105 (Int.toNat 18) = am_B105_18 ∧ am_blk 105 (Int.toNat 25) = am_B105_25 ∧ am_blk 105 (Int.toNat 34) = am_blk 105 34 ∧ am_blk 105 (Int.toNat 58) = am_B105_58 ∧ am_blk 105 (Int.toNat 117) = am_B105_117 ∧ am_blk 105 (Int.toNat 123) = am_B105_123 := ⟨rfl, rfl, rfl, rfl, rfl, rfl, rfl⟩
theorem bs106 : am_blk 106 0 = am_B106_0 ∧ am_blk 106 (Int.toNat 22) = am_B106_22 ∧ am_blk 106 (Int.toNat 28) = am_B106_28 := ⟨rfl, rfl, rfl⟩
theorem bs107 : am_blk 107 0 = am_B107_0 ∧ am_blk 107 (Int.toNat 22) = am_B107_22 ∧ am_blk 107 (Int.toNat 23) = am_B107_23 := ⟨rfl, rfl, rfl⟩
theorem bh108_17 : am_blk 108 17 = am_B108_17 := rfl
theorem bs108 : am_blk 108 0 = am_B108_0 ∧ am_blk 108 (Int.toNat 17) = am_blk 108 17 ∧ am_blk 108 (Int.toNat 51) = am_B108_51 ∧ am_blk 108 (Int.toNat 62) = am_B108_62 ∧ am_blk 108 (Int.toNat 76) = am_B108_76 ∧ am_blk 108 (Int.toNat 78) = am_B108_78 ∧ am_blk 108 (Int.toNat 95) = am_B108_95 := ⟨rfl, rfl, rfl, rfl, rfl, rfl, rfl⟩
theorem bs109 : am_blk 109 0 = am_B109_0 := rfl
theorem bs110 : am_blk 110 0 = am_B110_0 ∧ am_blk 110 (Int.toNat 22) = am_B110_22 ∧ am_blk 110 (Int.toNat 28) = am_B110_28 := ⟨rfl, rfl, rfl⟩
theorem bs111 : am_blk 111 0 = am_B111_0 := rfl
theorem bs112 : am_blk 112 0 = am_B112_0 ∧ am_blk 112 (Int.toNat 22) = am_B112_22 ∧ am_blk 112 (Int.toNat 28) = am_B112_28 := ⟨rfl, rfl, rfl⟩
theorem bs113 : am_blk 113 0 = am_B113_0 := rfl
theorem bs114 : am_blk 114 0 = am_B114_0 ∧ am_blk 114 (Int.toNat 28) = am_B114_28 ∧ am_blk 114 (Int.toNat 34) = am_B114_34 := ⟨rfl, rfl, rfl⟩
theorem bh115_37 : am_blk 115 37 = am_B115_37 := rfl
theorem bs115 : am_blk 115 0 = am_B115_0 ∧ am_blk 115 (Int.toNat 17) = am_B115_17 ∧ am_blk 115 (Int.toNat 24) = am_B115_24 ∧ am_blk 115 (Int.toNat 37) = am_blk 115 37 ∧ am_blk 115 (Int.toNat 76) = am_B115_76 ∧ am_blk 115 (Int.toNat 82) = am_B115_82 := ⟨rfl, rfl, rfl, rfl, rfl, rfl⟩
theorem bh116_42 : am_blk 116 42 = am_B116_42 := rfl
theorem bs116 : am_blk 116 0 = am_B116_0 ∧ am_blk 116 (Int.toNat 17) = am_B116_17 ∧ am_blk 116 (Int.toNat 24) = am_B116_24 ∧ am_blk 116 (Int.toNat 42) = am_blk 116 42 ∧ am_blk 116 (Int.toNat 72) = am_B116_72 ∧ am_blk 116 (Int.toNat 74) = am_B116_74 ∧ am_blk 116 (Int.toNat 82) = am_B116_82 := ⟨rfl, rfl, rfl, rfl, rfl, rfl, rfl⟩
theorem bs117 : am_blk 117 0 = am_B117_0 := rfl
theorem bh118_29 : am_blk 118 29 = am_B118_29 := rfl
theorem bs118 : am_blk 118 0 = am_B118_0 ∧ am_blk 118 (Int.toNat 17) = am_B118_17 ∧ am_blk 118 (Int.toNat 24) = am_B118_24 ∧ am_blk 118 (Int.toNat 29) = am_blk 118 29 ∧ am_blk 118 (Int.toNat 59) = am_B118_59 ∧ am_blk 118 (Int.toNat 63) = am_B118_63 ∧ am_blk 118 (Int.toNat 64) = am_B118_64 ∧ am_blk 118 (Int.toNat 85) = am_B118_85 ∧ am_blk 118 (Int.toNat 91) = am_B118_91 ∧ am_blk 118 (Int.toNat 104) = am_B118_104 ∧ am_blk 118 (Int.toNat 105) = am_B118_105 := ⟨rfl, rfl, rfl, rfl, rfl, rfl, rfl, rfl, rfl, rfl, rfl⟩
theorem bh119_13 : am_blk 119 13 = am_B119_13 := rfl
theorem bs119 : am_blk 119 0 = am_B119_0 ∧ am_blk 119 (Int.toNat 13) = am_blk 119 13 ∧ am_blk 119 (Int.toNat 43) = am_B119_43 ∧ am_blk 119 (Int.toNat 49) = am_B119_49 := ⟨rfl, rfl, rfl, rfl⟩
theorem bh120_29 : am_blk 120 29 = am_B120_29 := rfl
theorem bs120 : am_blk 120 0 = am_B120_0 ∧ am_blk 120 (Int.toNat 17) = am_B120_17 ∧ am_blk 120 (Int.toNat 24) = am_B120_24 ∧ am_blk 120 (Int.toNat 29) = am_blk 120 29 ∧ am_blk 120 (Int.toNat 58) = am_B120_58 ∧ am_blk 120 (Int.toNat 62) = am_B120_62 ∧ am_blk 120 (Int.toNat 63) = am_B120_63 ∧ am_blk 120 (Int.toNat 86) = am_B120_86 ∧ am_blk 120 (Int.toNat 87) = am_B120_87 ∧ am_blk 120 (Int.toNat 94) = am_B120_94 := ⟨rfl, rfl, rfl, rfl, rfl, rfl, rfl, rfl, rfl, rfl⟩
theorem bh121_13 : am_blk 121 13 = am_B121_13 := rfl
theorem bs121 : am_blk 121 0 = am_B121_0 ∧ am_blk 121 (Int.toNat 13) = am_blk 121 13 ∧ am_blk 121 (Int.toNat 44) = am_B121_44 ∧ am_blk 121 (Int.toNat 50) = am_B121_50 ∧ am_blk 121 (Int.toNat 57) = am_B121_57 := ⟨rfl, rfl, rfl, rfl, rfl⟩
theorem bs122 : am_blk 122 0 = am_B122_0 ∧ am_blk 122 (Int.toNat 13) = am_B122_13 ∧ am_blk 122 (Int.toNat 14) = am_B122_14 := ⟨rfl, rfl, rfl⟩
theorem bh123_23 : am_blk 123 23 = am_B123_23 := rfl
theorem bs123 : am_blk 123 0 = am_B123_0 ∧ am_blk 123 (Int.toNat 17) = am_B123_17 ∧ am_blk 123 (Int.toNat 23) = am_blk 123 23 ∧ am_blk 123 (Int.toNat 93) = am_B123_93 ∧ am_blk 123 (Int.toNat 99) = am_B123_99 := ⟨rfl, rfl, rfl, rfl, rfl⟩
theorem bh124_6 : am_blk 124 6 = am_B124_6 := rfl
theorem bs124 : am_blk 124 0 = am_B124_0 ∧ am_blk 124 (Int.toNat 6) = am_blk 124 6 ∧ am_blk 124 (Int.toNat 33) = am_B124_33 ∧ am_blk 124 (Int.toNat 34) = am_B124_34 ∧ am_blk 124 (Int.toNat 48) = am_B124_48 := ⟨rfl, rfl, rfl, rfl, rfl⟩
theorem bs125 : am_blk 125 0 = am_B125_0 := rfl
theorem bh126_42 : am_blk 126 42 = am_B126_42 := rfl
theorem bh126_60 : am_blk 126 60 = am_B126_60 := rfl
theorem bs126 : am_blk 126 0 = am_B126_0 ∧ am_blk 126 (Int.toNat 17) = am_B126_17 ∧ am_blk 126 (Int.toNat 35) = am_B126_35 ∧ am_blk 126 (Int.toNat 42) = am_blk 126 42 ∧ am_blk 126 (Int.toNat 60) = am_blk 126 60 ∧ am_blk 126 (Int.toNat 101) = am_B126_101 ∧ am_blk 126 (Int.toNat 107) = am_B126_107 ∧ am_blk 126 (Int.toNat 113) = am_B126_113 := ⟨rfl, rfl, rfl, rfl, rfl, rfl, rfl, rfl⟩
theorem bs127 : am_blk 127 0 = am_B127_0 := rfl
theorem bh128_24 : am_blk 128 24 = am_B128_24 := rfl
theorem bh128_41 : am_blk 128 41 = am_B128_41 := rfl
theorem bs128 : am_blk 128 0 = am_B128_0 ∧ am_blk 128 (Int.toNat 17) = am_B128_17 ∧ am_blk 128 (Int.toNat 24) = am_blk 128 24 ∧ am_blk 128 (Int.toNat 41) = am_blk 128 41 ∧ am_blk 128 (Int.toNat 80) = am_B128_80 ∧ am_blk 128 (Int.toNat 81) = am_B128_81 ∧ am_blk 128 (Int.toNat 95) = am_B128_95 ∧ am_blk 128 (Int.toNat 101) = am_B128_101 := ⟨rfl, rfl, rfl, rfl, rfl, rfl, rfl, rfl⟩
theorem bs129 : am_blk 129 0 = am_B129_0 := rfl
theorem bs130 : am_blk 130 0 = am_B130_0 := rfl
theorem bh131_54 : am_blk 131 54 = am_B131_54 := rfl
theorem bs131 : am_blk 131 0 = am_B131_0 ∧ am_blk 131 (Int.toNat 14) = am_B131_14 ∧ am_blk 131 (Int.toNat 33) = am_B131_33 ∧ am_blk 131 (Int.toNat 48) = am_B131_48 ∧ am_blk 131 (Int.toNat 54) = am_blk 131 54 ∧ am_blk 131 (Int.toNat 101) = am_B131_101 ∧ am_blk 131 (Int.toNat 107) = am_B131_107 := ⟨rfl, rfl, rfl, rfl, rfl, rfl, rfl⟩
theorem bs132 : am_blk 132 0 = am_B132_0 := rfl
theorem bs133 : am_blk 133 0 = am_B133_0 ∧ am_blk 133 (Int.toNat 11) = am_B133_11 ∧ am_blk 133 (Int.toNat 12) = am_B133_12 := ⟨rfl, rfl, rfl⟩
theorem bh134_25 : am_blk 134 25 = am_B134_25 := rfl
theorem bs134 : am_blk 134 0 = am_B134_0 ∧ am_blk 134 (Int.toNat 25) = am_blk 134 25 ∧ am_blk 134 (Int.toNat 65) = am_B134_65 ∧ am_blk 134 (Int.toNat 79) = am_B134_79 := ⟨rfl, rfl, rfl, rfl⟩
theorem bs135 : am_blk 135 0 = am_B135_0 ∧ am_blk 135 (Int.toNat 18) = am_B135_18 ∧ am_blk 135 (Int.toNat 38) = am_B135_38 ∧ am_blk 135 (Int.toNat 44) = am_B135_44 := ⟨rfl, rfl, rfl, rfl⟩
theorem bs136 : am_blk 136 0 = am_B136_0 ∧ am_blk 136 (Int.toNat 12) = am_B136_12 ∧ am_blk 136 (Int.toNat 26) = am_B136_26 ∧ am_blk 136 (Int.toNat 27) = am_B136_27 := ⟨rfl, rfl, rfl, rfl⟩
theorem bs137 : am_blk 137 0 = am_B137_0 := rfl
theorem bh138_14 : am_blk 138 14 = am_B138_14 := rfl
theorem bs138 : am_blk 138 0 = am_B138_0 ∧ am_blk 138 (Int.toNat 14) = am_blk 138 14 ∧ am_blk 138 (Int.toNat 51) = am_B138_51 ∧ am_blk 138 (Int.toNat 52) = am_B138_52 ∧ am_blk 138 (Int.toNat 61) = am_B138_61 := ⟨rfl, rfl, rfl, rfl, rfl⟩
theorem bh139_16 : am_blk 139 16 = am_B139_16 := rfl
theorem bs139 : am_blk 139 0 = am_B139_0 ∧ am_blk 139 (Int.toNat 16) = am_blk 139 16 ∧ am_blk 139 (Int.toNat 62) = am_B139_62 ∧ am_blk 139 (Int.toNat 66) = am_B139_66 ∧ am_blk 139 (Int.toNat 67) = am_B139_67 ∧ am_blk 139 (Int.toNat 78) = am_B139_78 := ⟨rfl, rfl, rfl, rfl, rfl, rfl⟩
theorem bs140 : am_blk 140 0 = am_B140_0 := rfl
theorem bs141 : am_blk 141 0 = am_B141_0 ∧ am_blk 141 (Int.toNat 18) = am_B141_18 ∧ am_blk 141 (Int.toNat 38) = am_B141_38 ∧ am_blk 141 (Int.toNat 44) = am_B141_44 := ⟨rfl, rfl, rfl, rfl⟩
theorem bh142_40 : am_blk 142 40 = am_B142_40 := rfl
theorem bs142 : am_blk 142 0 = am_B142_0 ∧ am_blk 142 (Int.toNat 17) = am_B142_17 ∧ am_blk 142 (Int.toNat 38) = am_B142_38 ∧ am_blk 142 (Int.toNat 40) = am_blk 142 40 ∧ am_blk 142 (Int.toNat 86) = am_B142_86 ∧ am_blk 142 (Int.toNat 100) = am_B142_100 := ⟨rfl, rfl, rfl, rfl, rfl, rfl⟩
theorem bs143 : am_blk 143 0 = am_B143_0 := rfl
theorem bh144_39 : am_blk 144 39 = am_B144_39 := rfl
theorem bs144 : am_blk 144 0 = am_B144_0 ∧ am_blk 144 (Int.toNat 17) = am_B144_17 ∧ am_blk 144 (Int.toNat 37) = am_B144_37 ∧ am_blk 144 (Int.toNat 39) = am_blk 144 39 ∧ am_blk 144 (Int.toNat 78) = am_B144_78 := ⟨rfl, rfl, rfl, rfl, rfl⟩
theorem bs145 : am_blk 145 0 = am_B145_0 := rfl
theorem bh146_55 : am_blk 146 55 = am_B146_55 := rfl
theorem bs146 : am_blk 146 0 = am_B146_0 ∧ am_blk 146 (Int.toNat 19) = am_B146_19 ∧ am_blk 146 (Int.toNat 27) = am_B146_27 ∧ am_blk 146 (Int.toNat 55) = am_blk 146 55 ∧ am_blk 146 (Int.toNat 83) = am_B146_83 ∧ am_blk 146 (Int.toNat 91) = am_B146_91 ∧ am_blk 146 (Int.toNat 93) = am_B146_93 := ⟨rfl, rfl, rfl, rfl, rfl, rfl, rfl⟩
theorem bh147_5 : am_blk 147 5 = am_B147_5 := rfl
theorem bs147 : am_blk 147 0 = am_B147_0 ∧ am_blk 147 (Int.toNat 5) = am_blk 147 5 ∧ am_blk 147 (Int.toNat 22) = am_B147_22 := ⟨rfl, rfl, rfl⟩
theorem bh148_45 : am_blk 148 45 = am_B148_45 := rfl
theorem bh148_74 : am_blk 148 74 = am_B148_74 := rfl
theorem bs148 : am_blk 148 0 = am_B148_0 ∧ am_blk 148 (Int.toNat 19) = am_B148_19 ∧ am_blk 148 (Int.toNat 27) = am_B148_27 ∧ am_blk 148 (Int.toNat 45) = am_blk 148 45 ∧ am_blk 148 (Int.toNat 68) = am_B148_68 ∧ am_blk 148 (Int.toNat 74) = am_blk 148 74 ∧ am_blk 148 (Int.toNat 90) = am_B148_90 ∧ am_blk 148 (Int.toNat 92) = am_B148_92 ∧ am_blk 148 (Int.toNat 105) = am_B148_105 := ⟨rfl, rfl, rfl, rfl, rfl, rfl, rfl, rfl, rfl⟩
theorem bs149 : am_blk 149 0 = am_B149_0 := rfl
theorem bs150 : am_blk 150 0 = am_B150_0 := rfl
theorem bh151_44 : am_blk 151 44 = am_B151_44 := rfl
theorem bs151 : am_blk 151 0 = am_B151_0 ∧ am_blk 151 (Int.toNat 16) = am_B151_16 ∧ am_blk 151 (Int.toNat 40) = am_B151_40 ∧ am_blk 151 (Int.toNat 44) = am_blk 151 44 ∧ am_blk 151 (Int.toNat 74) = am_B151_74 := ⟨rfl, rfl, rfl, rfl, rfl⟩
theorem bs152 : am_blk 152 0 = am_B152_0 ∧ am_blk 152 (Int.toNat 29) = am_B152_29 := ⟨rfl, rfl⟩
theorem bh153_38 : am_blk 153 38 = am_B153_38 := rfl
theorem bs153 : am_blk 153 0 = am_B153_0 ∧ am_blk 153 (Int.toNat 16) = am_B153_16 ∧ am_blk 153 (Int.toNat 34) = am_B153_34 ∧ am_blk 153 (Int.toNat 38) = am_blk 153 38 ∧ am_blk 153 (Int.toNat 77) = am_B153_77 := ⟨rfl, rfl, rfl, rfl, rfl⟩
theorem bs154 : am_blk 154 0 = am_B154_0 := rfl
theorem bs155 : am_blk 155 0 = am_B155_0 := rfl
theorem bs156 : am_blk 156 0 = am_B156_0 ∧ am_blk 156 (Int.toNat 47) = am_B156_47 := ⟨rfl, rfl⟩
theorem bh157_12 : am_blk 157 12 = am_B157_12 := rfl
theorem bs157 : am_blk 157 0 = am_B157_0 ∧ am_blk 157 (Int.toNat 12) = am_blk 157 12 ∧ am_blk 157 (Int.toNat 33) = am_B157_33 ∧ am_blk 157 (Int.toNat 55) = am_B157_55 ∧ am_blk 157 (Int.toNat 71) = am_B157_71 ∧ am_blk 157 (Int.toNat 81) = am_B157_81 := ⟨rfl, rfl, rfl, rfl, rfl, rfl⟩
theorem bs158 : am_blk 158 0 = am_B158_0 := rfl
theorem bh159_8 : am_blk 159 8 = am_B159_8 := rfl
theorem bs159 : am_blk 159 0 = am_B159_0 ∧ am_blk 159 (Int.toNat 8) = am_blk 159 8 ∧ am_blk 159 (Int.toNat 46) = am_B159_46 ∧ am_blk 159 (Int.toNat 71) = am_B159_71 ∧ am_blk 159 (Int.toNat 105) = am_B159_105 ∧ am_blk 159 (Int.toNat 129) = am_B159_129 ∧ am_blk 159 (Int.toNat 140) = am_B159_140 ∧ am_blk 159 (Int.toNat 141) = am_B159_141 ∧ am_blk 159 (Int.toNat 154) = am_B159_154 := ⟨rfl, rfl, rfl, rfl, rfl, rfl, rfl, rfl, rfl⟩
theorem bh160_0 : am_blk 160 0 = am_B160_0 := rfl
theorem bs160 : am_blk 160 (Int.toNat 0) = am_blk 160 0 ∧ am_blk 160 (Int.toNat 52) = am_B160_52 := ⟨rfl, rfl⟩
theorem bh161_5 : am_blk 161 5 = am_B161_5 := rfl
theorem bs161 : am_blk 161 0 = am_B161_0 ∧ am_blk 161 (Int.toNat 5) = am_blk 161 5 ∧ am_blk 161 (Int.toNat 78) = am_B161_78 ∧ am_blk 161 (Int.toNat 91) = am_B161_91 := ⟨rfl, rfl, rfl, rfl⟩
theorem bs162 : am_blk 162 0 = am_B162_0 ∧ am_blk 162 (Int.toNat 24) = am_B162_24 ∧ am_blk 162 (Int.toNat 48) = am_B162_48 ∧ am_blk 162 (Int.toNat 49) = am_B162_49 ∧ am_blk 162 (Int.toNat 57) = am_B162_57 := ⟨rfl, rfl, rfl, rfl, rfl⟩
theorem bh163_28 : am_blk 163 28 = am_B163_28 := rfl
theorem bs163 : am_blk 163 0 = am_B163_0 ∧ am_blk 163 (Int.toNat 24) = am_B163_24 ∧ am_blk 163 (Int.toNat 26) = am_B163_26 ∧ am_blk 163 (Int.toNat 28) = am_blk 163 28 ∧ am_blk 163 (Int.toNat 57) = am_B163_57 ∧ am_blk 163 (Int.toNat 63) = am_B163_63 := ⟨rfl, rfl, rfl, rfl, rfl, rfl⟩
theorem bs164 : am_blk 164 0 = am_B164_0 ∧ am_blk 164 (Int.toNat 11) = am_B164_11 ∧ am_blk 164 (Int.toNat 38) = am_B164_38 := ⟨rfl, rfl, rfl⟩
theorem bs165 : am_blk 165 0 = am_B165_0 ∧ am_blk 165 (Int.toNat 26) = am_B165_26 ∧ am_blk 165 (Int.toNat 27) = am_B165_27 := ⟨rfl, rfl, rfl⟩
theorem bh166_2 : am_blk 166 2 = am_B166_2 := rfl
theorem bs166 : am_blk 166 0 = am_B166_0 ∧ am_blk 166 (Int.toNat 2) = am_blk 166 2 ∧ am_blk 166 (Int.toNat 24) = am_B166_24 ∧ am_blk 166 (Int.toNat 30) = am_B166_30 := ⟨rfl, rfl, rfl, rfl⟩
theorem bs167 : am_blk 167 0 = am_B167_0 ∧ am_blk 167 (Int.toNat 40) = am_B167_40 ∧ am_blk 167 (Int.toNat 43) = am_B167_43 ∧ am_blk 167 (Int.toNat 46) = am_B167_46 ∧ am_blk 167 (Int.toNat 49) = am_B167_49 ∧ am_blk 167 (Int.toNat 52) = am_B167_52 ∧ am_blk 167 (Int.toNat 55) = am_B167_55 ∧ am_blk 167 (Int.toNat 58) = am_B167_58 := ⟨rfl, rfl, rfl, rfl, rfl, rfl, rfl, rfl⟩
theorem bs168 : am_blk 168 0 = am_B168_0 ∧ am_blk 168 (Int.toNat 44) = am_B168_44 ∧ am_blk 168 (Int.toNat 45) = am_B168_45 := ⟨rfl, rfl, rfl⟩
theorem bs169 : am_blk 169 0 = am_B169_0 ∧ am_blk 169 (Int.toNat 13) = am_B169_13 ∧ am_blk 169 (Int.toNat 31) = am_B169_31 := ⟨rfl, rfl, rfl⟩
theorem bs170 : am_blk 170 0 = am_B170_0 := rfl
theorem bh171_33 : am_blk 171 33 = am_B171_33 := rfl
theorem bh171_113 : am_blk 171 113 = am_B171_113 := rfl
theorem bs171 : am_blk 171 0 = am_B171_0 ∧ am_blk 171 (Int.toNat 33) = am_blk 171 33 ∧ am_blk 171 (Int.toNat 74) = am_B171_74 ∧ am_blk 171 (Int.toNat 86) = am_B171_86 ∧ am_blk 171 (Int.toNat 87) = am_B171_87 ∧ am_blk 171 (Int.toNat 109) = am_B171_109 ∧ am_blk 171 (Int.toNat 113) = am_blk 171 113 ∧ am_blk 171 (Int.toNat 136) = am_B171_136 ∧ am_blk 171 (Int.toNat 137) = am_B171_137 ∧ am_blk 171 (Int.toNat 145) = am_B171_145 := ⟨rfl, rfl, rfl, rfl, rfl, rfl, rfl, rfl, rfl, rfl⟩
theorem bh172_8 : am_blk 172 8 = am_B172_8 := rfl
theorem bh172_84 : am_blk 172 84 = am_B172_84 := rfl
theorem bh172_131 : am_blk 172 131 = am_B172_131 := rfl
theorem bs172 : am_blk 172 0 = am_B172_0 ∧ am_blk 172 (Int.toNat 8) = am_blk 172 8 ∧ am_blk 172 (Int.toNat 34) = am_B172_34 ∧ am_blk 172 (Int.toNat 68) = am_B172_68 ∧ am_blk 172 (Int.toNat 84) = am_blk 172 84 ∧ am_blk 172 (Int.toNat 115) = am_B172_115 ∧ am_blk 172 (Int.toNat 131) = am_blk 172 131 ∧ am_blk 172 (Int.toNat 191) = am_B172_191 ∧ am_blk 172 (Int.toNat 206) = am_B172_206 := ⟨rfl, rfl, rfl, rfl, rfl, rfl, rfl, rfl, rfl⟩
theorem bs173 : am_blk 173 0 = am_B173_0 ∧ am_blk 173 (Int.toNat 17) = am_B173_17 ∧ am_blk 173 (Int.toNat 18) = am_B173_18 := ⟨rfl, rfl, rfl⟩
theorem bs174 : am_blk 174 0 = am_B174_0 ∧ am_blk 174 (Int.toNat 23) = am_B174_23 ∧ am_blk 174 (Int.toNat 24) = am_B174_24 ∧ am_blk 174 (Int.toNat 83) = am_B174_83 ∧ am_blk 174 (Int.toNat 118) = am_B174_118 := ⟨rfl, rfl, rfl, rfl, rfl⟩
theorem bh175_4 : am_blk 175 4 = am_B175_4 := rfl
theorem bs175 : am_blk 175 0 = am_B175_0 ∧ am_blk 175 (Int.toNat 4) = am_blk 175 4 ∧ am_blk 175 (Int.toNat 30) = am_B175_30 ∧ am_blk 175 (Int.toNat 31) = am_B175_31 ∧ am_blk 175 (Int.toNat 38) = am_B175_38 := ⟨rfl, rfl, rfl, rfl, rfl⟩
theorem bh176_32 : am_blk 176 32 = am_B176_32 := rfl
theorem bs176 : am_blk 176 0 = am_B176_0 ∧ am_blk 176 (Int.toNat 28) = am_B176_28 ∧ am_blk 176 (Int.toNat 29) = am_B176_29 ∧ am_blk 176 (Int.toNat 32) = am_blk 176 32 ∧ am_blk 176 (Int.toNat 67) = am_B176_67 ∧ am_blk 176 (Int.toNat 68) = am_B176_68 ∧ am_blk 176 (Int.toNat 75) = am_B176_75 := ⟨rfl, rfl, rfl, rfl, rfl, rfl, rfl⟩
theorem bs177 : am_blk 177 0 = am_B177_0 ∧ am_blk 177 (Int.toNat 12) = am_B177_12 ∧ am_blk 177 (Int.toNat 16) = am_B177_16 ∧ am_blk 177 (Int.toNat 17) = am_B177_17 ∧ am_blk 177 (Int.toNat 31) = am_B177_31 := ⟨rfl, rfl, rfl, rfl, rfl⟩
theorem bs178 : am_blk 178 0 = am_B178_0 ∧ am_blk 178 (Int.toNat 15) = am_B178_15 ∧ am_blk 178 (Int.toNat 17) = am_B178_17 := ⟨rfl, rfl, rfl⟩
theorem bs179 : am_blk 179 0 = am_B179_0 ∧ am_blk 179 (Int.toNat 27) = am_B179_27 ∧ am_blk 179 (Int.toNat 28) = am_B179_28 := ⟨rfl, rfl, rfl⟩
theorem bs180 : am_blk 180 0 = am_B180_0 := rfl
theorem bs181 : am_blk 181 0 = am_B181_0 ∧ am_blk 181 (Int.toNat 41) = am_B181_41 ∧ am_blk 181 (Int.toNat 61) = am_B181_61 := ⟨rfl, rfl, rfl⟩
theorem bs182 : am_blk 182 0 = am_B182_0 ∧ am_blk 182 (Int.toNat 20) = am_B182_20 ∧ am_blk 182 (Int.toNat 27) = am_B182_27 := ⟨rfl, rfl, rfl⟩
theorem bs183 : am_blk 183 0 = am_B183_0 := rfl
theorem bs184 : am_blk 184 0 = am_B184_0 ∧ am_blk 184 (Int.toNat 20) = am_B184_20 ∧ am_blk 184 (Int.toNat 27) = am_B184_27 := ⟨rfl, rfl, rfl⟩
theorem bs185 : am_blk 185 0 = am_B185_0 := rfl
theorem bs186 : am_blk 186 0 = am_B186_0 ∧ am_blk 186 (Int.toNat 14) = am_B186_14 ∧ am_blk 186 (Int.toNat 21) = am_B186_21 ∧ am_blk 186 (Int.toNat 46) = am_B186_46 ∧ am_blk 186 (Int.toNat 69) = am_B186_69 := ⟨rfl, rfl, rfl, rfl, rfl⟩
theorem bh187_4 : am_blk 187 4 = am_B187_4 := rfl
theorem bs187 : am_blk 187 0 = am_B187_0 ∧ am_blk 187 (Int.toNat 4) = am_blk 187 4 ∧ am_blk 187 (Int.toNat 24) = am_B187_24 ∧ am_blk 187 (Int.toNat 36) = am_B187_36 := ⟨rfl, rfl, rfl, rfl⟩
theorem bs188 : am_blk 188 0 = am_B188_0 ∧ am_blk 188 (Int.toNat 14) = am_B188_14 ∧ am_blk 188 (Int.toNat 21) = am_B188_21 ∧ am_blk 188 (Int.toNat 41) = am_B188_41 ∧ am_blk 188 (Int.toNat 58) = am_B188_58 ∧ am_blk 188 (Int.toNat 65) = am_B188_65 := ⟨rfl, rfl, rfl, rfl, rfl, rfl⟩
theorem bh189_2 : am_blk 189 2 = am_B189_2 := rfl
theorem bs189 : am_blk 189 0 = am_B189_0 ∧ am_blk 189 (Int.toNat 2) = am_blk 189 2 ∧ am_blk 189 (Int.toNat 19) = am_B189_19 ∧ am_blk 189 (Int.toNat 27) = am_B189_27 ∧ am_blk 189 (Int.toNat 28) = am_B189_28 := ⟨rfl, rfl, rfl, rfl, rfl⟩
theorem bs190 : am_blk 190 0 = am_B190_0 ∧ am_blk 190 (Int.toNat 8) = am_B190_8 ∧ am_blk 190 (Int.toNat 17) = am_B190_17 ∧ am_blk 190 (Int.toNat 26) = am_B190_26 ∧ am_blk 190 (Int.toNat 36) = am_B190_36 ∧ am_blk 190 (Int.toNat 37) = am_B190_37 := ⟨rfl, rfl, rfl, rfl, rfl, rfl⟩
theorem bs191 : am_blk 191 0 = am_B191_0 ∧ am_blk 191 (Int.toNat 29) = am_B191_29 ∧ am_blk 191 (Int.toNat 36) = am_B191_36 ∧ am_blk 191 (Int.toNat 47) = am_B191_47 ∧ am_blk 191 (Int.toNat 60) = am_B191_60 := ⟨rfl, rfl, rfl, rfl, rfl⟩
theorem bs192 : am_blk 192 0 = am_B192_0 ∧ am_blk 192 (Int.toNat 14) = am_B192_14 ∧ am_blk 192 (Int.toNat 15) = am_B192_15 := ⟨rfl, rfl, rfl⟩
theorem bh193_86 : am_blk 193 86 = am_B193_86 := rfl
theorem bs193 : am_blk 193 0 = am_B193_0 ∧ am_blk 193 (Int.toNat 29) = am_B193_29 ∧ am_blk 193 (Int.toNat 36) = am_B193_36 ∧ am_blk 193 (Int.toNat 48) = am_B193_48 ∧ am_blk 193 (Int.toNat 61) = am_B193_61 ∧ am_blk 193 (Int.toNat 81) = am_B193_81 ∧ am_blk 193 (Int.toNat 82) = am_B193_82 ∧ am_blk 193 (Int.toNat 86) = am_blk 193 86 ∧ am_blk 193 (Int.toNat 112) = am_B193_112 := ⟨rfl, rfl, rfl, rfl, rfl, rfl, rfl, rfl, rfl⟩
theorem bs194 : am_blk 194 0 = am_B194_0 ∧ am_blk 194 (Int.toNat 14) = am_B194_14 ∧ am_blk 194 (Int.toNat 33) = am_B194_33 ∧ am_blk 194 (Int.toNat 54) = am_B194_54 := ⟨rfl, rfl, rfl, rfl⟩
theorem bs195 : am_blk 195 0 = am_B195_0 ∧ am_blk 195 (Int.toNat 30) = am_B195_30 ∧ am_blk 195 (Int.toNat 31) = am_B195_31 := ⟨rfl, rfl, rfl⟩
theorem bs196 : am_blk 196 0 = am_B196_0 ∧ am_blk 196 (Int.toNat 20) = am_B196_20 ∧ am_blk 196 (Int.toNat 40) = am_B196_40 ∧ am_blk 196 (Int.toNat 47) = am_B196_47 := ⟨rfl, rfl, rfl, rfl⟩
theorem bs197 : am_blk 197 0 = am_B197_0 ∧ am_blk 197 (Int.toNat 14) = am_B197_14 ∧ am_blk 197 (Int.toNat 30) = am_B197_30 ∧ am_blk 197 (Int.toNat 53) = am_B197_53 := ⟨rfl, rfl, rfl, rfl⟩
theorem bs198 : am_blk 198 0 = am_B198_0 ∧ am_blk 198 (Int.toNat 11) = am_B198_11 ∧ am_blk 198 (Int.toNat 22) = am_B198_22 ∧ am_blk 198 (Int.toNat 23) = am_B198_23 := ⟨rfl, rfl, rfl, rfl⟩
theorem bs199 : am_blk 199 0 = am_B199_0 ∧ am_blk 199 (Int.toNat 14) = am_B199_14 ∧ am_blk 199 (Int.toNat 21) = am_B199_21 ∧ am_blk 199 (Int.toNat 53) = am_B199_53 ∧ am_blk 199 (Int.toNat 60) = am_B199_60 ∧ am_blk 199 (Int.toNat 80) = am_B199_80 ∧ am_blk 199 (Int.toNat 103) = am_B199_103 ∧ am_blk 199 (Int.toNat 110) = am_B199_110 := ⟨rfl, rfl, rfl, rfl, rfl, rfl, rfl, rfl⟩
theorem bh200_128 : am_blk 200 128 = am_B200_128 := rfl
theorem bh200_165 : am_blk 200 165 = am_B200_165 := rfl
theorem bs200 : am_blk 200 0 = am_B200_0 ∧ am_blk 200 (Int.toNat 14) = am_B200_14 ∧ am_blk 200 (Int.toNat 21) = am_B200_21 ∧ am_blk 200 (Int.toNat 39) = am_B200_39 ∧ am_blk 200 (Int.toNat 46) = am_B200_46 ∧ am_blk 200 (Int.toNat 69) = am_B200_69 ∧ am_blk 200 (Int.toNat 118) = am_B200_118 ∧ am_blk 200 (Int.toNat 125) = am_B200_125 ∧ am_blk 200 (Int.toNat 128) = am_blk 200 128 ∧ am_blk 200 (Int.toNat 162) = am_B200_162 ∧ am_blk 200 (Int.toNat 165) = am_blk 200 165 ∧ am_blk 200 (Int.toNat 200) = am_B200_200 := ⟨rfl, rfl, rfl, rfl, rfl, rfl, rfl, rfl, rfl, rfl, rfl, rfl⟩
theorem bh201_37 : am_blk 201 37 = am_B201_37 := rfl
theorem bs201 : am_blk 201 0 = am_B201_0 ∧ am_blk 201 (Int.toNat 14) = am_B201_14 ∧ am_blk 201 (Int.toNat 35) = am_B201_35 ∧ am_blk 201 (Int.toNat 37) = am_blk 201 37 ∧ am_blk 201 (Int.toNat 89) = am_B201_89 := ⟨rfl, rfl, rfl, rfl, rfl⟩
theorem bh202_20 : am_blk 202 20 = am_B202_20 := rfl
theorem bs202 : am_blk 202 0 = am_B202_0 ∧ am_blk 202 (Int.toNat 18) = am_B202_18 ∧ am_blk 202 (Int.toNat 20) = am_blk 202 20 ∧ am_blk 202 (Int.toNat 80) = am_B202_80 := ⟨rfl, rfl, rfl, rfl⟩
theorem bh203_44 : am_blk 203 44 = am_B203_44 := rfl
theorem bs203 : am_blk 203 0 = am_B203_0 ∧ am_blk 203 (Int.toNat 14) = am_B203_14 ∧ am_blk 203 (Int.toNat 35) = am_B203_35 ∧ am_blk 203 (Int.toNat 44) = am_blk 203 44 ∧ am_blk 203 (Int.toNat 78) = am_B203_78 ∧ am_blk 203 (Int.toNat 82) = am_B203_82 ∧ am_blk 203 (Int.toNat 88) = am_B203_88 := ⟨rfl, rfl, rfl, rfl, rfl, rfl, rfl⟩
theorem bh204_24 : am_blk 204 24 = am_B204_24 := rfl
theorem bs204 : am_blk 204 0 = am_B204_0 ∧ am_blk 204 (Int.toNat 18) = am_B204_18 ∧ am_blk 204 (Int.toNat 24) = am_blk 204 24 ∧ am_blk 204 (Int.toNat 68) = am_B204_68 ∧ am_blk 204 (Int.toNat 82) = am_B204_82 ∧ am_blk 204 (Int.toNat 85) = am_B204_85 := ⟨rfl, rfl, rfl, rfl, rfl, rfl⟩
theorem bs205 : am_blk 205 0 = am_B205_0 := rfl
theorem bs206 : am_blk 206 0 = am_B206_0 := rfl
theorem bs207 : am_blk 207 0 = am_B207_0 ∧ am_blk 207 (Int.toNat 14) = am_B207_14 := ⟨rfl, rfl⟩
theorem bs208 : am_blk 208 0 = am_B208_0 ∧ am_blk 208 (Int.toNat 14) = am_B208_14 := ⟨rfl, rfl⟩
theorem bs209 : am_blk 209 0 = am_B209_0 ∧ am_blk 209 (Int.toNat 11) = am_B209_11 ∧ am_blk 209 (Int.toNat 12) = am_B209_12 := ⟨rfl, rfl, rfl⟩
theorem bs210 : am_blk 210 0 = am_B210_0 ∧ am_blk 210 (Int.toNat 11) = am_B210_11 ∧ am_blk 210 (Int.toNat 12) = am_B210_12 := ⟨rfl, rfl, rfl⟩
theorem bs211 : am_blk 211 0 = am_B211_0 ∧ am_blk 211 (Int.toNat 56) = am_B211_56 ∧ am_blk 211 (Int.toNat 64) = am_B211_64 ∧ am_blk 211 (Int.toNat 72) = am_B211_72 ∧ am_blk 211 (Int.toNat 83) = am_B211_83 ∧ am_blk 211 (Int.toNat 94) = am_B211_94 ∧ am_blk 211 (Int.toNat 102) = am_B211_102 ∧ am_blk 211 (Int.toNat 113) = am_B211_113 ∧ am_blk 211 (Int.toNat 121) = am_B211_121 ∧ am_blk 211 (Int.toNat 129) = am_B211_129 := ⟨rfl, rfl, rfl, rfl, rfl, rfl, rfl, rfl, rfl, rfl⟩
theorem bh212_4 : am_blk 212 4 = am_B212_4 := rfl
theorem bs212 : am_blk 212 0 = am_B212_0 ∧ am_blk 212 (Int.toNat 4) = am_blk 212 4 ∧ am_blk 212 (Int.toNat 25) = am_B212_25 ∧ am_blk 212 (Int.toNat 26) = am_B212_26 ∧ am_blk 212 (Int.toNat 34) = am_B212_34 := ⟨rfl, rfl, rfl, rfl, rfl⟩
theorem bh213_97 : am_blk 213 97 = am_B213_97 := rfl
theorem bs213 : am_blk 213 0 = am_B213_0 ∧ am_blk 213 (Int.toNat 48) = am_B213_48 ∧ am_blk 213 (Int.toNat 55) = am_B213_55 ∧ am_blk 213 (Int.toNat 62) = am_B213_62 ∧ am_blk 213 (Int.toNat 70) = am_B213_70 ∧ am_blk 213 (Int.toNat 78) = am_B213_78 ∧ am_blk 213 (Int.toNat 83) = am_B213_83 ∧ am_blk 213 (Int.toNat 88) = am_B213_88 ∧ am_blk 213 (Int.toNat 95) = am_B213_95 ∧ am_blk 213 (Int.toNat 97) = am_blk 213 97 ∧ am_blk 213 (Int.toNat 119) = am_B213_119 ∧ am_blk 213 (Int.toNat 120) = am_B213_120 ∧ am_blk 213 (Int.toNat 128) = am_B213_128 ∧ am_blk 213 (Int.toNat 130) = am_B213_130 := ⟨rfl, rfl, rfl, rfl, rfl, rfl, rfl, rfl, rfl, rfl, rfl, rfl, rfl, rfl⟩
theorem bh214_32 : am_blk 214 32 = am_B214_32 := rfl
theorem bs214 : am_blk 214 0 = am_B214_0 ∧ am_blk 214 (Int.toNat 17) = am_B214_17 ∧ am_blk 214 (Int.toNat 28) = am_B214_28 ∧ am_blk 214 (Int.toNat 32) = am_blk 214 32 ∧ am_blk 214 (Int.toNat 53) = am_B214_53 := ⟨rfl, rfl, rfl, rfl, rfl⟩
theorem bs215 : am_blk 215 0 = am_B215_0 ∧ am_blk 215 (Int.toNat 21) = am_B215_21 ∧ am_blk 215 (Int.toNat 27) = am_B215_27 := ⟨rfl, rfl, rfl⟩
theorem bh216_18 : am_blk 216 18 = am_B216_18 := rfl
theorem bs216 : am_blk 216 (Int.toNat 18) = am_blk 216 18 ∧ am_blk 216 (Int.toNat 220) = am_B216_220 ∧ am_blk 216 (Int.toNat 253) = am_B216_253 ∧ am_blk 216 (Int.toNat 286) = am_B216_286 ∧ am_blk 216 (Int.toNat 319) = am_B216_319 ∧ am_blk 216 (Int.toNat 352) = am_B216_352 ∧ am_blk 216 (Int.toNat 395) = am_B216_395 ∧ am_blk 216 (Int.toNat 428) = am_B216_428 ∧ am_blk 216 (Int.toNat 461) = am_B216_461 ∧ am_blk 216 (Int.toNat 484) = am_B216_484 ∧ am_blk 216 (Int.toNat 507) = am_B216_507 ∧ am_blk 216 (Int.toNat 540) = am_B216_540 ∧ am_blk 216 (Int.toNat 573) = am_B216_573 ∧ am_blk 216 (Int.toNat 586) = am_B216_586 ∧ am_blk 216 (Int.toNat 599) = am_B216_599 ∧ am_blk 216 (Int.toNat 632) = am_B216_632 ∧ am_blk 216 (Int.toNat 675) = am_B216_675 ∧ am_blk 216 (Int.toNat 708) = am_B216_708 ∧ am_blk 216 (Int.toNat 741) = am_B216_741 ∧ am_blk 216 (Int.toNat 774) = am_B216_774 ∧ am_blk 216 (Int.toNat 807) = am_B216_807 ∧ am_blk 216 (Int.toNat 840) = am_B216_840 ∧ am_blk 216 (Int.toNat 873) = am_B216_873 ∧ am_blk 216 (Int.toNat 886) = am_B216_886 ∧ am_blk 216 (Int.toNat 909) = am_B216_909 ∧ am_blk 216 (Int.toNat 942) = am_B216_942 ∧ am_blk 216 (Int.toNat 975) = am_B216_975 ∧ am_blk 216 (Int.toNat 998) = am_B216_998 ∧ am_blk 216 (Int.toNat 1032) = am_B216_1032 ∧ am_blk 216 (Int.toNat 1055) = am_B216_1055 ∧ am_blk 216 (Int.toNat 1088) = am_B216_1088 ∧ am_blk 216 (Int.toNat 1101) = am_B216_1101 ∧ am_blk 216 (Int.toNat 1114) = am_B216_1114 ∧ am_blk 216 (Int.toNat 1147) = am_B216_1147 ∧ am_blk 216 (Int.toNat 1180) = am_B216_1180 ∧ am_blk 216 (Int.toNat 1223) = am_B216_1223 ∧ am_blk 216 (Int.toNat 1266) = am_B216_1266 ∧ am_blk 216 (Int.toNat 1329) = am_B216_1329 ∧ am_blk 216 (Int.toNat 1352) = am_B216_1352 ∧ am_blk 216 (Int.toNat 1375) = am_B216_1375 ∧ am_blk 216 (Int.toNat 1388) = am_B216_1388 ∧ am_blk 216 (Int.toNat 1401) = am_B216_1401 ∧ am_blk 216 (Int.toNat 1414) = am_B216_1414 ∧ am_blk 216 (Int.toNat 1437) = am_B216_1437 ∧ am_blk 216 (Int.toNat 1460) = am_B216_1460 ∧ am_blk 216 (Int.toNat 1466) = am_B216_1466 := ⟨rfl, rfl, rfl, rfl, rfl, rfl, rfl, rfl, rfl, rfl, rfl, rfl, rfl, rfl, rfl, rfl, rfl, rfl, rfl, rfl, rfl, rfl, rfl, rfl, rfl, rfl, rfl, rfl, rfl, rfl, rfl, rfl, rfl, rfl, rfl, rfl, rfl, rfl, rfl, rfl, rfl, rfl, rfl, rfl, rfl, rfl⟩
