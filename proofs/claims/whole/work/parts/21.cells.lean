def pzS0 : List pzS := [.inr (5, [3, 4, 12, 20, 29, 34, 0, 0]), .inl (3, 4, [38, 40, 42, 44]), .inr (1, [0, 0, 0, 5, 6, 7, 8, 9, 10, 11]), .inl (0, 8, []), .inl (0, 8, []), .inl (0, 8, []), .inl (0, 8, []), .inl (1, 8, []), .inl (2, 8, []), .inl (2, 8, []), .inr (1, [0, 0, 0, 13, 14, 15, 16, 17, 18, 19]), .inl (0, 8, []), .inl (0, 8, []), .inl (0, 8, []), .inl (0, 8, []), .inl (1, 8, []), .inl (2, 8, []), .inl (2, 8, []), .inr (0, [21, 0]), .inr (1, [0, 0, 0, 22, 23, 24, 25, 26, 27, 28]), .inl (0, 8, []), .inl (0, 8, []), .inl (0, 8, []), .inl (0, 8, []), .inl (1, 8, []), .inl (2, 8, []), .inl (2, 8, []), .inr (3, [0, 30, 31, 32, 33]), .inl (0, 8, []), .inl (0, 8, []), .inl (0, 8, []), .inl (0, 8, []), .inr (2, [0, 35, 36, 37]), .inl (0, 8, []), .inl (0, 8, []), .inl (1, 8, []), .inr (4, [0, 0, 0, 39]), .inl (0, 60, []), .inr (4, [0, 0, 0, 41]), .inl (0, 60, []), .inr (4, [0, 0, 0, 43]), .inl (0, 60, []), .inr (4, [0, 0, 0, 45]), .inl (0, 60, []), .inr (6, [0, 0, 47, 48, 49, 0, 0, 0, 50, 51, 52, 53, 54, 55, 56, 0, 0, 0, 57, 0, 58, 59, 60, 61, 62, 0, 63, 64, 0, 0, 65, 66, 67, 68]), .inl (0, 4, []), .inl (0, 4, []), .inl (0, 240, []), .inl (0, 8, []), .inl (0, 8, []), .inl (0, 8, []), .inl (0, 8, []), .inl (1, 8, []), .inl (0, 8, []), .inl (0, 8, []), .inl (0, 24, []), .inl (0, 8, []), .inl (0, 8, []), .inl (1, 8, []), .inl (0, 8, []), .inl (0, 8, []), .inl (0, 8, []), .inl (0, 8, []), .inl (0, 8, []), .inl (0, 8, []), .inl (0, 8, []), .inl (0, 8, [])]
theorem oc_0 : pz_oc pzS0 0 = some 5 := rfl
theorem fk_0_0 : pz_fk pzS0 0 5 0 = some (some 1) := rfl
theorem fk_0_1 : pz_fk pzS0 0 5 1 = some (some 2) := rfl
theorem fk_0_2 : pz_fk pzS0 0 5 2 = some (some 10) := rfl
theorem fk_0_3 : pz_fk pzS0 0 5 3 = some (some 18) := rfl
theorem fk_0_4 : pz_fk pzS0 0 5 4 = some (some 27) := rfl
theorem fk_0_5 : pz_fk pzS0 0 5 5 = some (some 32) := rfl
theorem fk_0_6 : pz_fk pzS0 0 5 6 = some none := rfl
theorem fk_0_7 : pz_fk pzS0 0 5 7 = some none := rfl
theorem as_1 : pz_as pzS0 1 = some (3, 4) := rfl
theorem rk_1_0 : pz_rk pzS0 1 0 = some 36 := rfl
theorem rk_1_1 : pz_rk pzS0 1 1 = some 38 := rfl
theorem rk_1_2 : pz_rk pzS0 1 2 = some 40 := rfl
theorem rk_1_3 : pz_rk pzS0 1 3 = some 42 := rfl
theorem oc_2 : pz_oc pzS0 2 = some 1 := rfl
theorem fk_2_0 : pz_fk pzS0 2 1 0 = some none := rfl
theorem fk_2_1 : pz_fk pzS0 2 1 1 = some none := rfl
theorem fk_2_2 : pz_fk pzS0 2 1 2 = some none := rfl
theorem fk_2_3 : pz_fk pzS0 2 1 3 = some (some 3) := rfl
theorem fk_2_4 : pz_fk pzS0 2 1 4 = some (some 4) := rfl
theorem fk_2_5 : pz_fk pzS0 2 1 5 = some (some 5) := rfl
theorem fk_2_6 : pz_fk pzS0 2 1 6 = some (some 6) := rfl
theorem fk_2_7 : pz_fk pzS0 2 1 7 = some (some 7) := rfl
theorem fk_2_8 : pz_fk pzS0 2 1 8 = some (some 8) := rfl
theorem fk_2_9 : pz_fk pzS0 2 1 9 = some (some 9) := rfl
theorem as_3 : pz_as pzS0 3 = some (0, 8) := rfl
theorem as_4 : pz_as pzS0 4 = some (0, 8) := rfl
theorem as_5 : pz_as pzS0 5 = some (0, 8) := rfl
theorem as_6 : pz_as pzS0 6 = some (0, 8) := rfl
theorem as_7 : pz_as pzS0 7 = some (1, 8) := rfl
theorem as_8 : pz_as pzS0 8 = some (2, 8) := rfl
theorem as_9 : pz_as pzS0 9 = some (2, 8) := rfl
theorem oc_10 : pz_oc pzS0 10 = some 1 := rfl
theorem fk_10_0 : pz_fk pzS0 10 1 0 = some none := rfl
theorem fk_10_1 : pz_fk pzS0 10 1 1 = some none := rfl
theorem fk_10_2 : pz_fk pzS0 10 1 2 = some none := rfl
theorem fk_10_3 : pz_fk pzS0 10 1 3 = some (some 11) := rfl
theorem fk_10_4 : pz_fk pzS0 10 1 4 = some (some 12) := rfl
theorem fk_10_5 : pz_fk pzS0 10 1 5 = some (some 13) := rfl
theorem fk_10_6 : pz_fk pzS0 10 1 6 = some (some 14) := rfl
theorem fk_10_7 : pz_fk pzS0 10 1 7 = some (some 15) := rfl
theorem fk_10_8 : pz_fk pzS0 10 1 8 = some (some 16) := rfl
theorem fk_10_9 : pz_fk pzS0 10 1 9 = some (some 17) := rfl
theorem as_11 : pz_as pzS0 11 = some (0, 8) := rfl
theorem as_12 : pz_as pzS0 12 = some (0, 8) := rfl
theorem as_13 : pz_as pzS0 13 = some (0, 8) := rfl
theorem as_14 : pz_as pzS0 14 = some (0, 8) := rfl
theorem as_15 : pz_as pzS0 15 = some (1, 8) := rfl
theorem as_16 : pz_as pzS0 16 = some (2, 8) := rfl
theorem as_17 : pz_as pzS0 17 = some (2, 8) := rfl
theorem oc_18 : pz_oc pzS0 18 = some 0 := rfl
theorem fk_18_0 : pz_fk pzS0 18 0 0 = some (some 19) := rfl
theorem fk_18_1 : pz_fk pzS0 18 0 1 = some none := rfl
theorem oc_19 : pz_oc pzS0 19 = some 1 := rfl
theorem fk_19_0 : pz_fk pzS0 19 1 0 = some none := rfl
theorem fk_19_1 : pz_fk pzS0 19 1 1 = some none := rfl
theorem fk_19_2 : pz_fk pzS0 19 1 2 = some none := rfl
theorem fk_19_3 : pz_fk pzS0 19 1 3 = some (some 20) := rfl
theorem fk_19_4 : pz_fk pzS0 19 1 4 = some (some 21) := rfl
theorem fk_19_5 : pz_fk pzS0 19 1 5 = some (some 22) := rfl
theorem fk_19_6 : pz_fk pzS0 19 1 6 = some (some 23) := rfl
theorem fk_19_7 : pz_fk pzS0 19 1 7 = some (some 24) := rfl
theorem fk_19_8 : pz_fk pzS0 19 1 8 = some (some 25) := rfl
theorem fk_19_9 : pz_fk pzS0 19 1 9 = some (some 26) := rfl
theorem as_20 : pz_as pzS0 20 = some (0, 8) := rfl
theorem as_21 : pz_as pzS0 21 = some (0, 8) := rfl
theorem as_22 : pz_as pzS0 22 = some (0, 8) := rfl
theorem as_23 : pz_as pzS0 23 = some (0, 8) := rfl
theorem as_24 : pz_as pzS0 24 = some (1, 8) := rfl
theorem as_25 : pz_as pzS0 25 = some (2, 8) := rfl
theorem as_26 : pz_as pzS0 26 = some (2, 8) := rfl
theorem oc_27 : pz_oc pzS0 27 = some 3 := rfl
theorem fk_27_0 : pz_fk pzS0 27 3 0 = some none := rfl
theorem fk_27_1 : pz_fk pzS0 27 3 1 = some (some 28) := rfl
theorem fk_27_2 : pz_fk pzS0 27 3 2 = some (some 29) := rfl
theorem fk_27_3 : pz_fk pzS0 27 3 3 = some (some 30) := rfl
theorem fk_27_4 : pz_fk pzS0 27 3 4 = some (some 31) := rfl
theorem as_28 : pz_as pzS0 28 = some (0, 8) := rfl
theorem as_29 : pz_as pzS0 29 = some (0, 8) := rfl
theorem as_30 : pz_as pzS0 30 = some (0, 8) := rfl
theorem as_31 : pz_as pzS0 31 = some (0, 8) := rfl
theorem oc_32 : pz_oc pzS0 32 = some 2 := rfl
theorem fk_32_0 : pz_fk pzS0 32 2 0 = some none := rfl
theorem fk_32_1 : pz_fk pzS0 32 2 1 = some (some 33) := rfl
theorem fk_32_2 : pz_fk pzS0 32 2 2 = some (some 34) := rfl
theorem fk_32_3 : pz_fk pzS0 32 2 3 = some (some 35) := rfl
theorem as_33 : pz_as pzS0 33 = some (0, 8) := rfl
theorem as_34 : pz_as pzS0 34 = some (0, 8) := rfl
theorem as_35 : pz_as pzS0 35 = some (1, 8) := rfl
theorem oc_36 : pz_oc pzS0 36 = some 4 := rfl
theorem fk_36_0 : pz_fk pzS0 36 4 0 = some none := rfl
theorem fk_36_1 : pz_fk pzS0 36 4 1 = some none := rfl
theorem fk_36_2 : pz_fk pzS0 36 4 2 = some none := rfl
theorem fk_36_3 : pz_fk pzS0 36 4 3 = some (some 37) := rfl
theorem as_37 : pz_as pzS0 37 = some (0, 60) := rfl
theorem oc_38 : pz_oc pzS0 38 = some 4 := rfl
theorem fk_38_0 : pz_fk pzS0 38 4 0 = some none := rfl
theorem fk_38_1 : pz_fk pzS0 38 4 1 = some none := rfl
theorem fk_38_2 : pz_fk pzS0 38 4 2 = some none := rfl
theorem fk_38_3 : pz_fk pzS0 38 4 3 = some (some 39) := rfl
theorem as_39 : pz_as pzS0 39 = some (0, 60) := rfl
theorem oc_40 : pz_oc pzS0 40 = some 4 := rfl
theorem fk_40_0 : pz_fk pzS0 40 4 0 = some none := rfl
theorem fk_40_1 : pz_fk pzS0 40 4 1 = some none := rfl
theorem fk_40_2 : pz_fk pzS0 40 4 2 = some none := rfl
theorem fk_40_3 : pz_fk pzS0 40 4 3 = some (some 41) := rfl
theorem as_41 : pz_as pzS0 41 = some (0, 60) := rfl
theorem oc_42 : pz_oc pzS0 42 = some 4 := rfl
theorem fk_42_0 : pz_fk pzS0 42 4 0 = some none := rfl
theorem fk_42_1 : pz_fk pzS0 42 4 1 = some none := rfl
theorem fk_42_2 : pz_fk pzS0 42 4 2 = some none := rfl
theorem fk_42_3 : pz_fk pzS0 42 4 3 = some (some 43) := rfl
theorem as_43 : pz_as pzS0 43 = some (0, 60) := rfl
theorem oc_44 : pz_oc pzS0 44 = some 6 := rfl
theorem fk_44_0 : pz_fk pzS0 44 6 0 = some none := rfl
theorem fk_44_1 : pz_fk pzS0 44 6 1 = some none := rfl
theorem fk_44_2 : pz_fk pzS0 44 6 2 = some (some 45) := rfl
theorem fk_44_3 : pz_fk pzS0 44 6 3 = some (some 46) := rfl
theorem fk_44_4 : pz_fk pzS0 44 6 4 = some (some 47) := rfl
theorem fk_44_5 : pz_fk pzS0 44 6 5 = some none := rfl
theorem fk_44_6 : pz_fk pzS0 44 6 6 = some none := rfl
theorem fk_44_7 : pz_fk pzS0 44 6 7 = some none := rfl
theorem fk_44_8 : pz_fk pzS0 44 6 8 = some (some 48) := rfl
theorem fk_44_9 : pz_fk pzS0 44 6 9 = some (some 49) := rfl
theorem fk_44_10 : pz_fk pzS0 44 6 10 = some (some 50) := rfl
theorem fk_44_11 : pz_fk pzS0 44 6 11 = some (some 51) := rfl
theorem fk_44_12 : pz_fk pzS0 44 6 12 = some (some 52) := rfl
theorem fk_44_13 : pz_fk pzS0 44 6 13 = some (some 53) := rfl
theorem fk_44_14 : pz_fk pzS0 44 6 14 = some (some 54) := rfl
theorem fk_44_15 : pz_fk pzS0 44 6 15 = some none := rfl
theorem fk_44_16 : pz_fk pzS0 44 6 16 = some none := rfl
theorem fk_44_17 : pz_fk pzS0 44 6 17 = some none := rfl
theorem fk_44_18 : pz_fk pzS0 44 6 18 = some (some 55) := rfl
theorem fk_44_19 : pz_fk pzS0 44 6 19 = some none := rfl
theorem fk_44_20 : pz_fk pzS0 44 6 20 = some (some 56) := rfl
theorem fk_44_21 : pz_fk pzS0 44 6 21 = some (some 57) := rfl
theorem fk_44_22 : pz_fk pzS0 44 6 22 = some (some 58) := rfl
theorem fk_44_23 : pz_fk pzS0 44 6 23 = some (some 59) := rfl
theorem fk_44_24 : pz_fk pzS0 44 6 24 = some (some 60) := rfl
theorem fk_44_25 : pz_fk pzS0 44 6 25 = some none := rfl
theorem fk_44_26 : pz_fk pzS0 44 6 26 = some (some 61) := rfl
theorem fk_44_27 : pz_fk pzS0 44 6 27 = some (some 62) := rfl
theorem fk_44_28 : pz_fk pzS0 44 6 28 = some none := rfl
theorem fk_44_29 : pz_fk pzS0 44 6 29 = some none := rfl
theorem fk_44_30 : pz_fk pzS0 44 6 30 = some (some 63) := rfl
theorem fk_44_31 : pz_fk pzS0 44 6 31 = some (some 64) := rfl
theorem fk_44_32 : pz_fk pzS0 44 6 32 = some (some 65) := rfl
theorem fk_44_33 : pz_fk pzS0 44 6 33 = some (some 66) := rfl
theorem as_45 : pz_as pzS0 45 = some (0, 4) := rfl
theorem as_46 : pz_as pzS0 46 = some (0, 4) := rfl
theorem as_47 : pz_as pzS0 47 = some (0, 240) := rfl
theorem as_48 : pz_as pzS0 48 = some (0, 8) := rfl
theorem as_49 : pz_as pzS0 49 = some (0, 8) := rfl
theorem as_50 : pz_as pzS0 50 = some (0, 8) := rfl
theorem as_51 : pz_as pzS0 51 = some (0, 8) := rfl
theorem as_52 : pz_as pzS0 52 = some (1, 8) := rfl
theorem as_53 : pz_as pzS0 53 = some (0, 8) := rfl
theorem as_54 : pz_as pzS0 54 = some (0, 8) := rfl
theorem as_55 : pz_as pzS0 55 = some (0, 24) := rfl
theorem as_56 : pz_as pzS0 56 = some (0, 8) := rfl
theorem as_57 : pz_as pzS0 57 = some (0, 8) := rfl
theorem as_58 : pz_as pzS0 58 = some (1, 8) := rfl
theorem as_59 : pz_as pzS0 59 = some (0, 8) := rfl
theorem as_60 : pz_as pzS0 60 = some (0, 8) := rfl
theorem as_61 : pz_as pzS0 61 = some (0, 8) := rfl
theorem as_62 : pz_as pzS0 62 = some (0, 8) := rfl
theorem as_63 : pz_as pzS0 63 = some (0, 8) := rfl
theorem as_64 : pz_as pzS0 64 = some (0, 8) := rfl
theorem as_65 : pz_as pzS0 65 = some (0, 8) := rfl
theorem as_66 : pz_as pzS0 66 = some (0, 8) := rfl
