set_option maxRecDepth 100000 in
theorem oX0_answer_60 : pz_ok 6 60 kX0_answer_60 = true := by decide +kernel
set_option maxRecDepth 100000 in
theorem oX0_answer_68 : pz_ok 6 68 kX0_answer_68 = true := by decide +kernel
set_option maxRecDepth 100000 in
theorem oX0_answer_73 : pz_ok 6 73 kX0_answer_73 = true := by decide +kernel
set_option maxRecDepth 100000 in
theorem oX0_answer_82 : pz_ok 6 82 kX0_answer_82 = true := by decide +kernel
set_option maxRecDepth 100000 in
theorem oX0_answer_111 : pz_ok 6 111 kX0_answer_111 = true := by decide +kernel
set_option maxRecDepth 100000 in
theorem oX0_answer_113 : pz_ok 6 113 kX0_answer_113 = true := by decide +kernel
theorem oX0_answer : pX0_answer.all (fun q => pz_ok 6 q.1 q.2) = true := pz_all2 oX0_answer_0 (pz_all2 oX0_answer_7 (pz_all2 oX0_answer_18 (pz_all2 oX0_answer_52 (pz_all2 oX0_answer_60 (pz_all2 oX0_answer_68 (pz_all2 oX0_answer_73 (pz_all2 oX0_answer_82 (pz_all2 oX0_answer_111 (pz_all2 oX0_answer_113 (rfl))))))))))
set_option maxRecDepth 100000 in
theorem oX1_init_0 : pz_ok 7 0 kX1_init_0 = true := by decide +kernel
theorem oX1_init : pX1_init.all (fun q => pz_ok 7 q.1 q.2) = true := pz_all2 oX1_init_0 (rfl)
set_option maxRecDepth 100000 in
theorem oX1_found_0 : pz_ok 8 0 kX1_found_0 = true := by decide +kernel
set_option maxRecDepth 100000 in
theorem oX1_found_32 : pz_ok 8 32 kX1_found_32 = true := by decide +kernel
set_option maxRecDepth 100000 in
theorem oX1_found_147 : pz_ok 8 147 kX1_found_147 = true := by decide +kernel
theorem oX1_found : pX1_found.all (fun q => pz_ok 8 q.1 q.2) = true := pz_all2 oX1_found_0 (pz_all2 oX1_found_32 (pz_all2 oX1_found_147 (rfl)))
set_option maxRecDepth 100000 in
theorem oX1_kindOf_0 : pz_ok 9 0 kX1_kindOf_0 = true := by decide +kernel
set_option maxRecDepth 100000 in
theorem oX1_kindOf_8 : pz_ok 9 8 kX1_kindOf_8 = true := by decide +kernel
set_option maxRecDepth 100000 in
theorem oX1_kindOf_18 : pz_ok 9 18 kX1_kindOf_18 = true := by decide +kernel
set_option maxRecDepth 100000 in
theorem oX1_kindOf_19 : pz_ok 9 19 kX1_kindOf_19 = true := by decide +kernel
theorem oX1_kindOf : pX1_kindOf.all (fun q => pz_ok 9 q.1 q.2) = true := pz_all2 oX1_kindOf_0 (pz_all2 oX1_kindOf_8 (pz_all2 oX1_kindOf_18 (pz_all2 oX1_kindOf_19 (rfl))))
set_option maxRecDepth 100000 in
theorem oX1_become_0 : pz_ok 10 0 kX1_become_0 = true := by decide +kernel
set_option maxRecDepth 100000 in
theorem oX1_become_26 : pz_ok 10 26 kX1_become_26 = true := by decide +kernel
set_option maxRecDepth 100000 in
theorem oX1_become_122 : pz_ok 10 122 kX1_become_122 = true := by decide +kernel
theorem oX1_become : pX1_become.all (fun q => pz_ok 10 q.1 q.2) = true := pz_all2 oX1_become_0 (pz_all2 oX1_become_26 (pz_all2 oX1_become_122 (rfl)))
set_option maxRecDepth 100000 in
theorem oX1_isNone_0 : pz_ok 11 0 kX1_isNone_0 = true := by decide +kernel
set_option maxRecDepth 100000 in
theorem oX1_isNone_11 : pz_ok 11 11 kX1_isNone_11 = true := by decide +kernel
set_option maxRecDepth 100000 in
theorem oX1_isNone_12 : pz_ok 11 12 kX1_isNone_12 = true := by decide +kernel
theorem oX1_isNone : pX1_isNone.all (fun q => pz_ok 11 q.1 q.2) = true := pz_all2 oX1_isNone_0 (pz_all2 oX1_isNone_11 (pz_all2 oX1_isNone_12 (rfl)))
set_option maxRecDepth 100000 in
theorem oX1_isPerson_0 : pz_ok 12 0 kX1_isPerson_0 = true := by decide +kernel
set_option maxRecDepth 100000 in
theorem oX1_isPerson_16 : pz_ok 12 16 kX1_isPerson_16 = true := by decide +kernel
set_option maxRecDepth 100000 in
theorem oX1_isPerson_17 : pz_ok 12 17 kX1_isPerson_17 = true := by decide +kernel
theorem oX1_isPerson : pX1_isPerson.all (fun q => pz_ok 12 q.1 q.2) = true := pz_all2 oX1_isPerson_0 (pz_all2 oX1_isPerson_16 (pz_all2 oX1_isPerson_17 (rfl)))
set_option maxRecDepth 100000 in
theorem oX1_areTwo_0 : pz_ok 13 0 kX1_areTwo_0 = true := by decide +kernel
set_option maxRecDepth 100000 in
theorem oX1_areTwo_25 : pz_ok 13 25 kX1_areTwo_25 = true := by decide +kernel
set_option maxRecDepth 100000 in
theorem oX1_areTwo_26 : pz_ok 13 26 kX1_areTwo_26 = true := by decide +kernel
theorem oX1_areTwo : pX1_areTwo.all (fun q => pz_ok 13 q.1 q.2) = true := pz_all2 oX1_areTwo_0 (pz_all2 oX1_areTwo_25 (pz_all2 oX1_areTwo_26 (rfl)))
set_option maxRecDepth 100000 in
theorem oX1_isJoined_0 : pz_ok 14 0 kX1_isJoined_0 = true := by decide +kernel
theorem oX1_isJoined : pX1_isJoined.all (fun q => pz_ok 14 q.1 q.2) = true := pz_all2 oX1_isJoined_0 (rfl)
set_option maxRecDepth 100000 in
theorem oX1_stride_0 : pz_ok 15 0 kX1_stride_0 = true := by decide +kernel
set_option maxRecDepth 100000 in
theorem oX1_stride_32 : pz_ok 15 32 kX1_stride_32 = true := by decide +kernel
set_option maxRecDepth 100000 in
theorem oX1_stride_39 : pz_ok 15 39 kX1_stride_39 = true := by decide +kernel
set_option maxRecDepth 100000 in
theorem oX1_stride_48 : pz_ok 15 48 kX1_stride_48 = true := by decide +kernel
theorem oX1_stride : pX1_stride.all (fun q => pz_ok 15 q.1 q.2) = true := pz_all2 oX1_stride_0 (pz_all2 oX1_stride_32 (pz_all2 oX1_stride_39 (pz_all2 oX1_stride_48 (rfl))))
set_option maxRecDepth 100000 in
theorem oX1_jarOf_0 : pz_ok 16 0 kX1_jarOf_0 = true := by decide +kernel
theorem oX1_jarOf : pX1_jarOf.all (fun q => pz_ok 16 q.1 q.2) = true := pz_all2 oX1_jarOf_0 (rfl)
set_option maxRecDepth 100000 in
theorem oX1_wouldRather_0 : pz_ok 17 0 kX1_wouldRather_0 = true := by decide +kernel
set_option maxRecDepth 100000 in
theorem oX1_wouldRather_12 : pz_ok 17 12 kX1_wouldRather_12 = true := by decide +kernel
set_option maxRecDepth 100000 in
theorem oX1_wouldRather_40 : pz_ok 17 40 kX1_wouldRather_40 = true := by decide +kernel
set_option maxRecDepth 100000 in
theorem oX1_wouldRather_44 : pz_ok 17 44 kX1_wouldRather_44 = true := by decide +kernel
set_option maxRecDepth 100000 in
theorem oX1_wouldRather_45 : pz_ok 17 45 kX1_wouldRather_45 = true := by decide +kernel
theorem oX1_wouldRather : pX1_wouldRather.all (fun q => pz_ok 17 q.1 q.2) = true := pz_all2 oX1_wouldRather_0 (pz_all2 oX1_wouldRather_12 (pz_all2 oX1_wouldRather_40 (pz_all2 oX1_wouldRather_44 (pz_all2 oX1_wouldRather_45 (rfl)))))
set_option maxRecDepth 100000 in
theorem oX1_button_0 : pz_ok 18 0 kX1_button_0 = true := by decide +kernel
theorem oX1_button : pX1_button.all (fun q => pz_ok 18 q.1 q.2) = true := pz_all2 oX1_button_0 (rfl)
set_option maxRecDepth 100000 in
theorem oX1_unbutton_0 : pz_ok 19 0 kX1_unbutton_0 = true := by decide +kernel
theorem oX1_unbutton : pX1_unbutton.all (fun q => pz_ok 19 q.1 q.2) = true := pz_all2 oX1_unbutton_0 (rfl)
set_option maxRecDepth 100000 in
theorem oX1_horses_0 : pz_ok 20 0 kX1_horses_0 = true := by decide +kernel
theorem oX1_horses : pX1_horses.all (fun q => pz_ok 20 q.1 q.2) = true := pz_all2 oX1_horses_0 (rfl)
set_option maxRecDepth 100000 in
theorem oX1_fronts_0 : pz_ok 21 0 kX1_fronts_0 = true := by decide +kernel
set_option maxRecDepth 100000 in
theorem oX1_fronts_4 : pz_ok 21 4 kX1_fronts_4 = true := by decide +kernel
set_option maxRecDepth 100000 in
theorem oX1_fronts_27 : pz_ok 21 27 kX1_fronts_27 = true := by decide +kernel
set_option maxRecDepth 100000 in
theorem oX1_fronts_33 : pz_ok 21 33 kX1_fronts_33 = true := by decide +kernel
theorem oX1_fronts : pX1_fronts.all (fun q => pz_ok 21 q.1 q.2) = true := pz_all2 oX1_fronts_0 (pz_all2 oX1_fronts_4 (pz_all2 oX1_fronts_27 (pz_all2 oX1_fronts_33 (rfl))))
set_option maxRecDepth 100000 in
theorem oX1_wayColumns_0 : pz_ok 22 0 kX1_wayColumns_0 = true := by decide +kernel
theorem oX1_wayColumns : pX1_wayColumns.all (fun q => pz_ok 22 q.1 q.2) = true := pz_all2 oX1_wayColumns_0 (rfl)
set_option maxRecDepth 100000 in
theorem oX1_wayRows_0 : pz_ok 23 0 kX1_wayRows_0 = true := by decide +kernel
theorem oX1_wayRows : pX1_wayRows.all (fun q => pz_ok 23 q.1 q.2) = true := pz_all2 oX1_wayRows_0 (rfl)
set_option maxRecDepth 100000 in
theorem oX1_passHour_0 : pz_ok 24 0 kX1_passHour_0 = true := by decide +kernel
set_option maxRecDepth 100000 in
theorem oX1_passHour_2 : pz_ok 24 2 kX1_passHour_2 = true := by decide +kernel
set_option maxRecDepth 100000 in
theorem oX1_passHour_90 : pz_ok 24 90 kX1_passHour_90 = true := by decide +kernel
set_option maxRecDepth 100000 in
theorem oX1_passHour_96 : pz_ok 24 96 kX1_passHour_96 = true := by decide +kernel
set_option maxRecDepth 100000 in
theorem oX1_passHour_129 : pz_ok 24 129 kX1_passHour_129 = true := by decide +kernel
theorem oX1_passHour : pX1_passHour.all (fun q => pz_ok 24 q.1 q.2) = true := pz_all2 oX1_passHour_0 (pz_all2 oX1_passHour_2 (pz_all2 oX1_passHour_90 (pz_all2 oX1_passHour_96 (pz_all2 oX1_passHour_129 (rfl)))))
set_option maxRecDepth 100000 in
theorem oX1_changeFronts_0 : pz_ok 25 0 kX1_changeFronts_0 = true := by decide +kernel
set_option maxRecDepth 100000 in
theorem oX1_changeFronts_2 : pz_ok 25 2 kX1_changeFronts_2 = true := by decide +kernel
set_option maxRecDepth 100000 in
theorem oX1_changeFronts_36 : pz_ok 25 36 kX1_changeFronts_36 = true := by decide +kernel
set_option maxRecDepth 100000 in
theorem oX1_changeFronts_37 : pz_ok 25 37 kX1_changeFronts_37 = true := by decide +kernel
set_option maxRecDepth 100000 in
theorem oX1_changeFronts_38 : pz_ok 25 38 kX1_changeFronts_38 = true := by decide +kernel
set_option maxRecDepth 100000 in
theorem oX1_changeFronts_44 : pz_ok 25 44 kX1_changeFronts_44 = true := by decide +kernel
theorem oX1_changeFronts : pX1_changeFronts.all (fun q => pz_ok 25 q.1 q.2) = true := pz_all2 oX1_changeFronts_0 (pz_all2 oX1_changeFronts_2 (pz_all2 oX1_changeFronts_36 (pz_all2 oX1_changeFronts_37 (pz_all2 oX1_changeFronts_38 (pz_all2 oX1_changeFronts_44 (rfl))))))
set_option maxRecDepth 100000 in
theorem oX1_atOnePlace_0 : pz_ok 26 0 kX1_atOnePlace_0 = true := by decide +kernel
set_option maxRecDepth 100000 in
theorem oX1_atOnePlace_36 : pz_ok 26 36 kX1_atOnePlace_36 = true := by decide +kernel
set_option maxRecDepth 100000 in
theorem oX1_atOnePlace_37 : pz_ok 26 37 kX1_atOnePlace_37 = true := by decide +kernel
theorem oX1_atOnePlace : pX1_atOnePlace.all (fun q => pz_ok 26 q.1 q.2) = true := pz_all2 oX1_atOnePlace_0 (pz_all2 oX1_atOnePlace_36 (pz_all2 oX1_atOnePlace_37 (rfl)))
set_option maxRecDepth 100000 in
theorem oX1_hasHorsesAtOnePlace_0 : pz_ok 27 0 kX1_hasHorsesAtOnePlace_0 = true := by decide +kernel
set_option maxRecDepth 100000 in
theorem oX1_hasHorsesAtOnePlace_2 : pz_ok 27 2 kX1_hasHorsesAtOnePlace_2 = true := by decide +kernel
set_option maxRecDepth 100000 in
theorem oX1_hasHorsesAtOnePlace_14 : pz_ok 27 14 kX1_hasHorsesAtOnePlace_14 = true := by decide +kernel
set_option maxRecDepth 100000 in
theorem oX1_hasHorsesAtOnePlace_51 : pz_ok 27 51 kX1_hasHorsesAtOnePlace_51 = true := by decide +kernel
set_option maxRecDepth 100000 in
theorem oX1_hasHorsesAtOnePlace_57 : pz_ok 27 57 kX1_hasHorsesAtOnePlace_57 = true := by decide +kernel
set_option maxRecDepth 100000 in
theorem oX1_hasHorsesAtOnePlace_63 : pz_ok 27 63 kX1_hasHorsesAtOnePlace_63 = true := by decide +kernel
theorem oX1_hasHorsesAtOnePlace : pX1_hasHorsesAtOnePlace.all (fun q => pz_ok 27 q.1 q.2) = true := pz_all2 oX1_hasHorsesAtOnePlace_0 (pz_all2 oX1_hasHorsesAtOnePlace_2 (pz_all2 oX1_hasHorsesAtOnePlace_14 (pz_all2 oX1_hasHorsesAtOnePlace_51 (pz_all2 oX1_hasHorsesAtOnePlace_57 (pz_all2 oX1_hasHorsesAtOnePlace_63 (rfl))))))
set_option maxRecDepth 100000 in
theorem oX1_farFromStart_0 : pz_ok 28 0 kX1_farFromStart_0 = true := by decide +kernel
set_option maxRecDepth 100000 in
theorem oX1_farFromStart_4 : pz_ok 28 4 kX1_farFromStart_4 = true := by decide +kernel
set_option maxRecDepth 100000 in
theorem oX1_farFromStart_40 : pz_ok 28 40 kX1_farFromStart_40 = true := by decide +kernel
theorem oX1_farFromStart : pX1_farFromStart.all (fun q => pz_ok 28 q.1 q.2) = true := pz_all2 oX1_farFromStart_0 (pz_all2 oX1_farFromStart_4 (pz_all2 oX1_farFromStart_40 (rfl)))
set_option maxRecDepth 100000 in
theorem oX1_farAfter_0 : pz_ok 29 0 kX1_farAfter_0 = true := by decide +kernel
theorem oX1_farAfter : pX1_farAfter.all (fun q => pz_ok 29 q.1 q.2) = true := pz_all2 oX1_farAfter_0 (rfl)
set_option maxRecDepth 100000 in
theorem oX2_init_0 : pz_ok 30 0 kX2_init_0 = true := by decide +kernel
theorem oX2_init : pX2_init.all (fun q => pz_ok 30 q.1 q.2) = true := pz_all2 oX2_init_0 (rfl)
set_option maxRecDepth 100000 in
theorem oX2_seek_0 : pz_ok 31 0 kX2_seek_0 = true := by decide +kernel
set_option maxRecDepth 100000 in
theorem oX2_seek_24 : pz_ok 31 24 kX2_seek_24 = true := by decide +kernel
set_option maxRecDepth 100000 in
theorem oX2_seek_25 : pz_ok 31 25 kX2_seek_25 = true := by decide +kernel
theorem oX2_seek : pX2_seek.all (fun q => pz_ok 31 q.1 q.2) = true := pz_all2 oX2_seek_0 (pz_all2 oX2_seek_24 (pz_all2 oX2_seek_25 (rfl)))
set_option maxRecDepth 100000 in
theorem oX2_place_0 : pz_ok 32 0 kX2_place_0 = true := by decide +kernel
set_option maxRecDepth 100000 in
theorem oX2_place_14 : pz_ok 32 14 kX2_place_14 = true := by decide +kernel
set_option maxRecDepth 100000 in
theorem oX2_place_35 : pz_ok 32 35 kX2_place_35 = true := by decide +kernel
set_option maxRecDepth 100000 in
theorem oX2_place_40 : pz_ok 32 40 kX2_place_40 = true := by decide +kernel
set_option maxRecDepth 100000 in
theorem oX2_place_110 : pz_ok 32 110 kX2_place_110 = true := by decide +kernel
set_option maxRecDepth 100000 in
theorem oX2_place_116 : pz_ok 32 116 kX2_place_116 = true := by decide +kernel
