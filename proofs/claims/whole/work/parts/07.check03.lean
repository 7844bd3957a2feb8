set_option maxRecDepth 100000 in
theorem oL_law_907 : pz_ok 0 907 kL_law_907 = true := by decide +kernel
set_option maxRecDepth 100000 in
theorem oL_law_930 : pz_ok 0 930 kL_law_930 = true := by decide +kernel
set_option maxRecDepth 100000 in
theorem oL_law_973 : pz_ok 0 973 kL_law_973 = true := by decide +kernel
set_option maxRecDepth 100000 in
theorem oL_law_1017 : pz_ok 0 1017 kL_law_1017 = true := by decide +kernel
set_option maxRecDepth 100000 in
theorem oL_law_1080 : pz_ok 0 1080 kL_law_1080 = true := by decide +kernel
set_option maxRecDepth 100000 in
theorem oL_law_1103 : pz_ok 0 1103 kL_law_1103 = true := by decide +kernel
set_option maxRecDepth 100000 in
theorem oL_law_1126 : pz_ok 0 1126 kL_law_1126 = true := by decide +kernel
set_option maxRecDepth 100000 in
theorem oL_law_1159 : pz_ok 0 1159 kL_law_1159 = true := by decide +kernel
set_option maxRecDepth 100000 in
theorem oL_law_1172 : pz_ok 0 1172 kL_law_1172 = true := by decide +kernel
set_option maxRecDepth 100000 in
theorem oL_law_1185 : pz_ok 0 1185 kL_law_1185 = true := by decide +kernel
set_option maxRecDepth 100000 in
theorem oL_law_1208 : pz_ok 0 1208 kL_law_1208 = true := by decide +kernel
set_option maxRecDepth 100000 in
theorem oL_law_1214 : pz_ok 0 1214 kL_law_1214 = true := by decide +kernel
theorem oL_law : pL_law.all (fun q => pz_ok 0 q.1 q.2) = true := pz_all2 oL_law_0 (pz_all2 oL_law_18 (pz_all2 oL_law_172 (pz_all2 oL_law_225 (pz_all2 oL_law_258 (pz_all2 oL_law_292 (pz_all2 oL_law_325 (pz_all2 oL_law_358 (pz_all2 oL_law_391 (pz_all2 oL_law_424 (pz_all2 oL_law_447 (pz_all2 oL_law_470 (pz_all2 oL_law_533 (pz_all2 oL_law_556 (pz_all2 oL_law_569 (pz_all2 oL_law_602 (pz_all2 oL_law_665 (pz_all2 oL_law_718 (pz_all2 oL_law_741 (pz_all2 oL_law_764 (pz_all2 oL_law_787 (pz_all2 oL_law_810 (pz_all2 oL_law_864 (pz_all2 oL_law_907 (pz_all2 oL_law_930 (pz_all2 oL_law_973 (pz_all2 oL_law_1017 (pz_all2 oL_law_1080 (pz_all2 oL_law_1103 (pz_all2 oL_law_1126 (pz_all2 oL_law_1159 (pz_all2 oL_law_1172 (pz_all2 oL_law_1185 (pz_all2 oL_law_1208 (pz_all2 oL_law_1214 (rfl)))))))))))))))))))))))))))))))))))
set_option maxRecDepth 100000 in
theorem oX0_init_0 : pz_ok 1 0 kX0_init_0 = true := by decide +kernel
theorem oX0_init : pX0_init.all (fun q => pz_ok 1 q.1 q.2) = true := pz_all2 oX0_init_0 (rfl)
set_option maxRecDepth 100000 in
theorem oX0_play_0 : pz_ok 2 0 kX0_play_0 = true := by decide +kernel
set_option maxRecDepth 100000 in
theorem oX0_play_8 : pz_ok 2 8 kX0_play_8 = true := by decide +kernel
set_option maxRecDepth 100000 in
theorem oX0_play_56 : pz_ok 2 56 kX0_play_56 = true := by decide +kernel
set_option maxRecDepth 100000 in
theorem oX0_play_70 : pz_ok 2 70 kX0_play_70 = true := by decide +kernel
theorem oX0_play : pX0_play.all (fun q => pz_ok 2 q.1 q.2) = true := pz_all2 oX0_play_0 (pz_all2 oX0_play_8 (pz_all2 oX0_play_56 (pz_all2 oX0_play_70 (rfl))))
set_option maxRecDepth 100000 in
theorem oX0_canBe_0 : pz_ok 3 0 kX0_canBe_0 = true := by decide +kernel
set_option maxRecDepth 100000 in
theorem oX0_canBe_44 : pz_ok 3 44 kX0_canBe_44 = true := by decide +kernel
set_option maxRecDepth 100000 in
theorem oX0_canBe_45 : pz_ok 3 45 kX0_canBe_45 = true := by decide +kernel
set_option maxRecDepth 100000 in
theorem oX0_canBe_46 : pz_ok 3 46 kX0_canBe_46 = true := by decide +kernel
set_option maxRecDepth 100000 in
theorem oX0_canBe_63 : pz_ok 3 63 kX0_canBe_63 = true := by decide +kernel
set_option maxRecDepth 100000 in
theorem oX0_canBe_67 : pz_ok 3 67 kX0_canBe_67 = true := by decide +kernel
set_option maxRecDepth 100000 in
theorem oX0_canBe_68 : pz_ok 3 68 kX0_canBe_68 = true := by decide +kernel
theorem oX0_canBe : pX0_canBe.all (fun q => pz_ok 3 q.1 q.2) = true := pz_all2 oX0_canBe_0 (pz_all2 oX0_canBe_44 (pz_all2 oX0_canBe_45 (pz_all2 oX0_canBe_46 (pz_all2 oX0_canBe_63 (pz_all2 oX0_canBe_67 (pz_all2 oX0_canBe_68 (rfl)))))))
set_option maxRecDepth 100000 in
theorem oX0_carryOut_0 : pz_ok 4 0 kX0_carryOut_0 = true := by decide +kernel
set_option maxRecDepth 100000 in
theorem oX0_carryOut_18 : pz_ok 4 18 kX0_carryOut_18 = true := by decide +kernel
set_option maxRecDepth 100000 in
theorem oX0_carryOut_32 : pz_ok 4 32 kX0_carryOut_32 = true := by decide +kernel
set_option maxRecDepth 100000 in
theorem oX0_carryOut_49 : pz_ok 4 49 kX0_carryOut_49 = true := by decide +kernel
set_option maxRecDepth 100000 in
theorem oX0_carryOut_62 : pz_ok 4 62 kX0_carryOut_62 = true := by decide +kernel
theorem oX0_carryOut : pX0_carryOut.all (fun q => pz_ok 4 q.1 q.2) = true := pz_all2 oX0_carryOut_0 (pz_all2 oX0_carryOut_18 (pz_all2 oX0_carryOut_32 (pz_all2 oX0_carryOut_49 (pz_all2 oX0_carryOut_62 (rfl)))))
set_option maxRecDepth 100000 in
theorem oX0_passHours_0 : pz_ok 5 0 kX0_passHours_0 = true := by decide +kernel
set_option maxRecDepth 100000 in
theorem oX0_passHours_2 : pz_ok 5 2 kX0_passHours_2 = true := by decide +kernel
set_option maxRecDepth 100000 in
theorem oX0_passHours_34 : pz_ok 5 34 kX0_passHours_34 = true := by decide +kernel
set_option maxRecDepth 100000 in
theorem oX0_passHours_40 : pz_ok 5 40 kX0_passHours_40 = true := by decide +kernel
theorem oX0_passHours : pX0_passHours.all (fun q => pz_ok 5 q.1 q.2) = true := pz_all2 oX0_passHours_0 (pz_all2 oX0_passHours_2 (pz_all2 oX0_passHours_34 (pz_all2 oX0_passHours_40 (rfl))))
set_option maxRecDepth 100000 in
theorem oX0_answer_0 : pz_ok 6 0 kX0_answer_0 = true := by decide +kernel
set_option maxRecDepth 100000 in
theorem oX0_answer_7 : pz_ok 6 7 kX0_answer_7 = true := by decide +kernel
set_option maxRecDepth 100000 in
theorem oX0_answer_18 : pz_ok 6 18 kX0_answer_18 = true := by decide +kernel
set_option maxRecDepth 100000 in
theorem oX0_answer_52 : pz_ok 6 52 kX0_answer_52 = true := by decide +kernel
