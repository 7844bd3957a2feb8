set_option maxRecDepth 100000 in
theorem oX2_place_139 : pz_ok 32 139 kX2_place_139 = true := by decide +kernel
theorem oX2_place : pX2_place.all (fun q => pz_ok 32 q.1 q.2) = true := pz_all2 oX2_place_0 (pz_all2 oX2_place_14 (pz_all2 oX2_place_35 (pz_all2 oX2_place_40 (pz_all2 oX2_place_110 (pz_all2 oX2_place_116 (pz_all2 oX2_place_139 (rfl)))))))
set_option maxRecDepth 100000 in
theorem oX2_keep_0 : pz_ok 33 0 kX2_keep_0 = true := by decide +kernel
set_option maxRecDepth 100000 in
theorem oX2_keep_15 : pz_ok 33 15 kX2_keep_15 = true := by decide +kernel
set_option maxRecDepth 100000 in
theorem oX2_keep_39 : pz_ok 33 39 kX2_keep_39 = true := by decide +kernel
theorem oX2_keep : pX2_keep.all (fun q => pz_ok 33 q.1 q.2) = true := pz_all2 oX2_keep_0 (pz_all2 oX2_keep_15 (pz_all2 oX2_keep_39 (rfl)))
set_option maxRecDepth 100000 in
theorem oX3_init_0 : pz_ok 34 0 kX3_init_0 = true := by decide +kernel
theorem oX3_init : pX3_init.all (fun q => pz_ok 34 q.1 q.2) = true := pz_all2 oX3_init_0 (rfl)
set_option maxRecDepth 100000 in
theorem oX3_add_0 : pz_ok 35 0 kX3_add_0 = true := by decide +kernel
theorem oX3_add : pX3_add.all (fun q => pz_ok 35 q.1 q.2) = true := pz_all2 oX3_add_0 (rfl)
set_option maxRecDepth 100000 in
theorem oX3_allSo_0 : pz_ok 36 0 kX3_allSo_0 = true := by decide +kernel
set_option maxRecDepth 100000 in
theorem oX3_allSo_2 : pz_ok 36 2 kX3_allSo_2 = true := by decide +kernel
set_option maxRecDepth 100000 in
theorem oX3_allSo_60 : pz_ok 36 60 kX3_allSo_60 = true := by decide +kernel
set_option maxRecDepth 100000 in
theorem oX3_allSo_62 : pz_ok 36 62 kX3_allSo_62 = true := by decide +kernel
set_option maxRecDepth 100000 in
theorem oX3_allSo_68 : pz_ok 36 68 kX3_allSo_68 = true := by decide +kernel
theorem oX3_allSo : pX3_allSo.all (fun q => pz_ok 36 q.1 q.2) = true := pz_all2 oX3_allSo_0 (pz_all2 oX3_allSo_2 (pz_all2 oX3_allSo_60 (pz_all2 oX3_allSo_62 (pz_all2 oX3_allSo_68 (rfl)))))
set_option maxRecDepth 100000 in
theorem oX3_fitting_0 : pz_ok 37 0 kX3_fitting_0 = true := by decide +kernel
set_option maxRecDepth 100000 in
theorem oX3_fitting_6 : pz_ok 37 6 kX3_fitting_6 = true := by decide +kernel
set_option maxRecDepth 100000 in
theorem oX3_fitting_35 : pz_ok 37 35 kX3_fitting_35 = true := by decide +kernel
set_option maxRecDepth 100000 in
theorem oX3_fitting_41 : pz_ok 37 41 kX3_fitting_41 = true := by decide +kernel
theorem oX3_fitting : pX3_fitting.all (fun q => pz_ok 37 q.1 q.2) = true := pz_all2 oX3_fitting_0 (pz_all2 oX3_fitting_6 (pz_all2 oX3_fitting_35 (pz_all2 oX3_fitting_41 (rfl))))
set_option maxRecDepth 100000 in
theorem oX4_init_0 : pz_ok 38 0 kX4_init_0 = true := by decide +kernel
theorem oX4_init : pX4_init.all (fun q => pz_ok 38 q.1 q.2) = true := pz_all2 oX4_init_0 (rfl)
set_option maxRecDepth 100000 in
theorem oX4_renew_0 : pz_ok 39 0 kX4_renew_0 = true := by decide +kernel
set_option maxRecDepth 100000 in
theorem oX4_renew_17 : pz_ok 39 17 kX4_renew_17 = true := by decide +kernel
set_option maxRecDepth 100000 in
theorem oX4_renew_36 : pz_ok 39 36 kX4_renew_36 = true := by decide +kernel
theorem oX4_renew : pX4_renew.all (fun q => pz_ok 39 q.1 q.2) = true := pz_all2 oX4_renew_0 (pz_all2 oX4_renew_17 (pz_all2 oX4_renew_36 (rfl)))
set_option maxRecDepth 100000 in
theorem oX4_faultAs_0 : pz_ok 40 0 kX4_faultAs_0 = true := by decide +kernel
set_option maxRecDepth 100000 in
theorem oX4_faultAs_9 : pz_ok 40 9 kX4_faultAs_9 = true := by decide +kernel
set_option maxRecDepth 100000 in
theorem oX4_faultAs_21 : pz_ok 40 21 kX4_faultAs_21 = true := by decide +kernel
set_option maxRecDepth 100000 in
theorem oX4_faultAs_22 : pz_ok 40 22 kX4_faultAs_22 = true := by decide +kernel
theorem oX4_faultAs : pX4_faultAs.all (fun q => pz_ok 40 q.1 q.2) = true := pz_all2 oX4_faultAs_0 (pz_all2 oX4_faultAs_9 (pz_all2 oX4_faultAs_21 (pz_all2 oX4_faultAs_22 (rfl))))
set_option maxRecDepth 100000 in
theorem oX4_holds_0 : pz_ok 41 0 kX4_holds_0 = true := by decide +kernel
set_option maxRecDepth 100000 in
theorem oX4_holds_37 : pz_ok 41 37 kX4_holds_37 = true := by decide +kernel
set_option maxRecDepth 100000 in
theorem oX4_holds_38 : pz_ok 41 38 kX4_holds_38 = true := by decide +kernel
theorem oX4_holds : pX4_holds.all (fun q => pz_ok 41 q.1 q.2) = true := pz_all2 oX4_holds_0 (pz_all2 oX4_holds_37 (pz_all2 oX4_holds_38 (rfl)))
set_option maxRecDepth 100000 in
theorem oX4_cut_0 : pz_ok 42 0 kX4_cut_0 = true := by decide +kernel
set_option maxRecDepth 100000 in
theorem oX4_cut_10 : pz_ok 42 10 kX4_cut_10 = true := by decide +kernel
set_option maxRecDepth 100000 in
theorem oX4_cut_23 : pz_ok 42 23 kX4_cut_23 = true := by decide +kernel
set_option maxRecDepth 100000 in
theorem oX4_cut_24 : pz_ok 42 24 kX4_cut_24 = true := by decide +kernel
theorem oX4_cut : pX4_cut.all (fun q => pz_ok 42 q.1 q.2) = true := pz_all2 oX4_cut_0 (pz_all2 oX4_cut_10 (pz_all2 oX4_cut_23 (pz_all2 oX4_cut_24 (rfl))))
set_option maxRecDepth 100000 in
theorem oX5_init_0 : pz_ok 43 0 kX5_init_0 = true := by decide +kernel
set_option maxRecDepth 100000 in
theorem oX5_init_79 : pz_ok 43 79 kX5_init_79 = true := by decide +kernel
set_option maxRecDepth 100000 in
theorem oX5_init_103 : pz_ok 43 103 kX5_init_103 = true := by decide +kernel
theorem oX5_init : pX5_init.all (fun q => pz_ok 43 q.1 q.2) = true := pz_all2 oX5_init_0 (pz_all2 oX5_init_79 (pz_all2 oX5_init_103 (rfl)))
set_option maxRecDepth 100000 in
theorem oX5_duchy_0 : pz_ok 44 0 kX5_duchy_0 = true := by decide +kernel
set_option maxRecDepth 100000 in
theorem oX5_duchy_14 : pz_ok 44 14 kX5_duchy_14 = true := by decide +kernel
set_option maxRecDepth 100000 in
theorem oX5_duchy_24 : pz_ok 44 24 kX5_duchy_24 = true := by decide +kernel
set_option maxRecDepth 100000 in
theorem oX5_duchy_53 : pz_ok 44 53 kX5_duchy_53 = true := by decide +kernel
set_option maxRecDepth 100000 in
theorem oX5_duchy_72 : pz_ok 44 72 kX5_duchy_72 = true := by decide +kernel
set_option maxRecDepth 100000 in
theorem oX5_duchy_84 : pz_ok 44 84 kX5_duchy_84 = true := by decide +kernel
set_option maxRecDepth 100000 in
theorem oX5_duchy_107 : pz_ok 44 107 kX5_duchy_107 = true := by decide +kernel
theorem oX5_duchy : pX5_duchy.all (fun q => pz_ok 44 q.1 q.2) = true := pz_all2 oX5_duchy_0 (pz_all2 oX5_duchy_14 (pz_all2 oX5_duchy_24 (pz_all2 oX5_duchy_53 (pz_all2 oX5_duchy_72 (pz_all2 oX5_duchy_84 (pz_all2 oX5_duchy_107 (rfl)))))))
set_option maxRecDepth 100000 in
theorem oX5_ofPerson_0 : pz_ok 45 0 kX5_ofPerson_0 = true := by decide +kernel
set_option maxRecDepth 100000 in
theorem oX5_ofPerson_13 : pz_ok 45 13 kX5_ofPerson_13 = true := by decide +kernel
set_option maxRecDepth 100000 in
theorem oX5_ofPerson_52 : pz_ok 45 52 kX5_ofPerson_52 = true := by decide +kernel
set_option maxRecDepth 100000 in
theorem oX5_ofPerson_62 : pz_ok 45 62 kX5_ofPerson_62 = true := by decide +kernel
set_option maxRecDepth 100000 in
theorem oX5_ofPerson_72 : pz_ok 45 72 kX5_ofPerson_72 = true := by decide +kernel
set_option maxRecDepth 100000 in
theorem oX5_ofPerson_82 : pz_ok 45 82 kX5_ofPerson_82 = true := by decide +kernel
set_option maxRecDepth 100000 in
theorem oX5_ofPerson_91 : pz_ok 45 91 kX5_ofPerson_91 = true := by decide +kernel
set_option maxRecDepth 100000 in
theorem oX5_ofPerson_101 : pz_ok 45 101 kX5_ofPerson_101 = true := by decide +kernel
set_option maxRecDepth 100000 in
theorem oX5_ofPerson_117 : pz_ok 45 117 kX5_ofPerson_117 = true := by decide +kernel
set_option maxRecDepth 100000 in
theorem oX5_ofPerson_118 : pz_ok 45 118 kX5_ofPerson_118 = true := by decide +kernel
set_option maxRecDepth 100000 in
theorem oX5_ofPerson_119 : pz_ok 45 119 kX5_ofPerson_119 = true := by decide +kernel
theorem oX5_ofPerson : pX5_ofPerson.all (fun q => pz_ok 45 q.1 q.2) = true := pz_all2 oX5_ofPerson_0 (pz_all2 oX5_ofPerson_13 (pz_all2 oX5_ofPerson_52 (pz_all2 oX5_ofPerson_62 (pz_all2 oX5_ofPerson_72 (pz_all2 oX5_ofPerson_82 (pz_all2 oX5_ofPerson_91 (pz_all2 oX5_ofPerson_101 (pz_all2 oX5_ofPerson_117 (pz_all2 oX5_ofPerson_118 (pz_all2 oX5_ofPerson_119 (rfl)))))))))))
set_option maxRecDepth 100000 in
theorem oX5_where_0 : pz_ok 46 0 kX5_where_0 = true := by decide +kernel
set_option maxRecDepth 100000 in
theorem oX5_where_20 : pz_ok 46 20 kX5_where_20 = true := by decide +kernel
set_option maxRecDepth 100000 in
theorem oX5_where_24 : pz_ok 46 24 kX5_where_24 = true := by decide +kernel
set_option maxRecDepth 100000 in
theorem oX5_where_40 : pz_ok 46 40 kX5_where_40 = true := by decide +kernel
set_option maxRecDepth 100000 in
theorem oX5_where_49 : pz_ok 46 49 kX5_where_49 = true := by decide +kernel
theorem oX5_where : pX5_where.all (fun q => pz_ok 46 q.1 q.2) = true := pz_all2 oX5_where_0 (pz_all2 oX5_where_20 (pz_all2 oX5_where_24 (pz_all2 oX5_where_40 (pz_all2 oX5_where_49 (rfl)))))
set_option maxRecDepth 100000 in
theorem oX5_train_0 : pz_ok 47 0 kX5_train_0 = true := by decide +kernel
set_option maxRecDepth 100000 in
theorem oX5_train_13 : pz_ok 47 13 kX5_train_13 = true := by decide +kernel
set_option maxRecDepth 100000 in
theorem oX5_train_23 : pz_ok 47 23 kX5_train_23 = true := by decide +kernel
set_option maxRecDepth 100000 in
theorem oX5_train_26 : pz_ok 47 26 kX5_train_26 = true := by decide +kernel
theorem oX5_train : pX5_train.all (fun q => pz_ok 47 q.1 q.2) = true := pz_all2 oX5_train_0 (pz_all2 oX5_train_13 (pz_all2 oX5_train_23 (pz_all2 oX5_train_26 (rfl))))
set_option maxRecDepth 100000 in
theorem oX5_bid_0 : pz_ok 48 0 kX5_bid_0 = true := by decide +kernel
set_option maxRecDepth 100000 in
theorem oX5_bid_13 : pz_ok 48 13 kX5_bid_13 = true := by decide +kernel
set_option maxRecDepth 100000 in
theorem oX5_bid_22 : pz_ok 48 22 kX5_bid_22 = true := by decide +kernel
set_option maxRecDepth 100000 in
theorem oX5_bid_25 : pz_ok 48 25 kX5_bid_25 = true := by decide +kernel
theorem oX5_bid : pX5_bid.all (fun q => pz_ok 48 q.1 q.2) = true := pz_all2 oX5_bid_0 (pz_all2 oX5_bid_13 (pz_all2 oX5_bid_22 (pz_all2 oX5_bid_25 (rfl))))
set_option maxRecDepth 100000 in
theorem oX5_jar_0 : pz_ok 49 0 kX5_jar_0 = true := by decide +kernel
set_option maxRecDepth 100000 in
theorem oX5_jar_14 : pz_ok 49 14 kX5_jar_14 = true := by decide +kernel
theorem oX5_jar : pX5_jar.all (fun q => pz_ok 49 q.1 q.2) = true := pz_all2 oX5_jar_0 (pz_all2 oX5_jar_14 (rfl))
set_option maxRecDepth 100000 in
theorem oX5_join_0 : pz_ok 50 0 kX5_join_0 = true := by decide +kernel
set_option maxRecDepth 100000 in
theorem oX5_join_14 : pz_ok 50 14 kX5_join_14 = true := by decide +kernel
set_option maxRecDepth 100000 in
theorem oX5_join_36 : pz_ok 50 36 kX5_join_36 = true := by decide +kernel
set_option maxRecDepth 100000 in
theorem oX5_join_39 : pz_ok 50 39 kX5_join_39 = true := by decide +kernel
theorem oX5_join : pX5_join.all (fun q => pz_ok 50 q.1 q.2) = true := pz_all2 oX5_join_0 (pz_all2 oX5_join_14 (pz_all2 oX5_join_36 (pz_all2 oX5_join_39 (rfl))))
set_option maxRecDepth 100000 in
theorem oX5_part_0 : pz_ok 51 0 kX5_part_0 = true := by decide +kernel
set_option maxRecDepth 100000 in
theorem oX5_part_13 : pz_ok 51 13 kX5_part_13 = true := by decide +kernel
set_option maxRecDepth 100000 in
theorem oX5_part_27 : pz_ok 51 27 kX5_part_27 = true := by decide +kernel
theorem oX5_part : pX5_part.all (fun q => pz_ok 51 q.1 q.2) = true := pz_all2 oX5_part_0 (pz_all2 oX5_part_13 (pz_all2 oX5_part_27 (rfl)))
set_option maxRecDepth 100000 in
theorem oX5_hours_0 : pz_ok 52 0 kX5_hours_0 = true := by decide +kernel
set_option maxRecDepth 100000 in
theorem oX5_hours_11 : pz_ok 52 11 kX5_hours_11 = true := by decide +kernel
set_option maxRecDepth 100000 in
theorem oX5_hours_14 : pz_ok 52 14 kX5_hours_14 = true := by decide +kernel
set_option maxRecDepth 100000 in
theorem oX5_hours_27 : pz_ok 52 27 kX5_hours_27 = true := by decide +kernel
set_option maxRecDepth 100000 in
theorem oX5_hours_29 : pz_ok 52 29 kX5_hours_29 = true := by decide +kernel
set_option maxRecDepth 100000 in
theorem oX5_hours_47 : pz_ok 52 47 kX5_hours_47 = true := by decide +kernel
theorem oX5_hours : pX5_hours.all (fun q => pz_ok 52 q.1 q.2) = true := pz_all2 oX5_hours_0 (pz_all2 oX5_hours_11 (pz_all2 oX5_hours_14 (pz_all2 oX5_hours_27 (pz_all2 oX5_hours_29 (pz_all2 oX5_hours_47 (rfl))))))
set_option maxRecDepth 100000 in
theorem oX5_day_0 : pz_ok 53 0 kX5_day_0 = true := by decide +kernel
set_option maxRecDepth 100000 in
theorem oX5_day_14 : pz_ok 53 14 kX5_day_14 = true := by decide +kernel
set_option maxRecDepth 100000 in
theorem oX5_day_41 : pz_ok 53 41 kX5_day_41 = true := by decide +kernel
set_option maxRecDepth 100000 in
theorem oX5_day_44 : pz_ok 53 44 kX5_day_44 = true := by decide +kernel
set_option maxRecDepth 100000 in
theorem oX5_day_81 : pz_ok 53 81 kX5_day_81 = true := by decide +kernel
set_option maxRecDepth 100000 in
theorem oX5_day_93 : pz_ok 53 93 kX5_day_93 = true := by decide +kernel
set_option maxRecDepth 100000 in
theorem oX5_day_106 : pz_ok 53 106 kX5_day_106 = true := by decide +kernel
set_option maxRecDepth 100000 in
theorem oX5_day_125 : pz_ok 53 125 kX5_day_125 = true := by decide +kernel
theorem oX5_day : pX5_day.all (fun q => pz_ok 53 q.1 q.2) = true := pz_all2 oX5_day_0 (pz_all2 oX5_day_14 (pz_all2 oX5_day_41 (pz_all2 oX5_day_44 (pz_all2 oX5_day_81 (pz_all2 oX5_day_93 (pz_all2 oX5_day_106 (pz_all2 oX5_day_125 (rfl))))))))
set_option maxRecDepth 100000 in
theorem oX5_match_0 : pz_ok 54 0 kX5_match_0 = true := by decide +kernel
set_option maxRecDepth 100000 in
theorem oX5_match_11 : pz_ok 54 11 kX5_match_11 = true := by decide +kernel
set_option maxRecDepth 100000 in
theorem oX5_match_14 : pz_ok 54 14 kX5_match_14 = true := by decide +kernel
set_option maxRecDepth 100000 in
theorem oX5_match_27 : pz_ok 54 27 kX5_match_27 = true := by decide +kernel
set_option maxRecDepth 100000 in
theorem oX5_match_51 : pz_ok 54 51 kX5_match_51 = true := by decide +kernel
set_option maxRecDepth 100000 in
theorem oX5_match_74 : pz_ok 54 74 kX5_match_74 = true := by decide +kernel
set_option maxRecDepth 100000 in
theorem oX5_match_76 : pz_ok 54 76 kX5_match_76 = true := by decide +kernel
theorem oX5_match : pX5_match.all (fun q => pz_ok 54 q.1 q.2) = true := pz_all2 oX5_match_0 (pz_all2 oX5_match_11 (pz_all2 oX5_match_14 (pz_all2 oX5_match_27 (pz_all2 oX5_match_51 (pz_all2 oX5_match_74 (pz_all2 oX5_match_76 (rfl)))))))
set_option maxRecDepth 100000 in
theorem oX5_rather_0 : pz_ok 55 0 kX5_rather_0 = true := by decide +kernel
set_option maxRecDepth 100000 in
theorem oX5_rather_13 : pz_ok 55 13 kX5_rather_13 = true := by decide +kernel
set_option maxRecDepth 100000 in
theorem oX5_rather_15 : pz_ok 55 15 kX5_rather_15 = true := by decide +kernel
set_option maxRecDepth 100000 in
theorem oX5_rather_28 : pz_ok 55 28 kX5_rather_28 = true := by decide +kernel
set_option maxRecDepth 100000 in
theorem oX5_rather_65 : pz_ok 55 65 kX5_rather_65 = true := by decide +kernel
set_option maxRecDepth 100000 in
theorem oX5_rather_71 : pz_ok 55 71 kX5_rather_71 = true := by decide +kernel
set_option maxRecDepth 100000 in
theorem oX5_rather_77 : pz_ok 55 77 kX5_rather_77 = true := by decide +kernel
theorem oX5_rather : pX5_rather.all (fun q => pz_ok 55 q.1 q.2) = true := pz_all2 oX5_rather_0 (pz_all2 oX5_rather_13 (pz_all2 oX5_rather_15 (pz_all2 oX5_rather_28 (pz_all2 oX5_rather_65 (pz_all2 oX5_rather_71 (pz_all2 oX5_rather_77 (rfl)))))))
set_option maxRecDepth 100000 in
theorem oX5_meet_0 : pz_ok 56 0 kX5_meet_0 = true := by decide +kernel
set_option maxRecDepth 100000 in
theorem oX5_meet_22 : pz_ok 56 22 kX5_meet_22 = true := by decide +kernel
set_option maxRecDepth 100000 in
theorem oX5_meet_24 : pz_ok 56 24 kX5_meet_24 = true := by decide +kernel
set_option maxRecDepth 100000 in
theorem oX5_meet_46 : pz_ok 56 46 kX5_meet_46 = true := by decide +kernel
set_option maxRecDepth 100000 in
theorem oX5_meet_49 : pz_ok 56 49 kX5_meet_49 = true := by decide +kernel
set_option maxRecDepth 100000 in
theorem oX5_meet_62 : pz_ok 56 62 kX5_meet_62 = true := by decide +kernel
set_option maxRecDepth 100000 in
theorem oX5_meet_82 : pz_ok 56 82 kX5_meet_82 = true := by decide +kernel
set_option maxRecDepth 100000 in
theorem oX5_meet_95 : pz_ok 56 95 kX5_meet_95 = true := by decide +kernel
theorem oX5_meet : pX5_meet.all (fun q => pz_ok 56 q.1 q.2) = true := pz_all2 oX5_meet_0 (pz_all2 oX5_meet_22 (pz_all2 oX5_meet_24 (pz_all2 oX5_meet_46 (pz_all2 oX5_meet_49 (pz_all2 oX5_meet_62 (pz_all2 oX5_meet_82 (pz_all2 oX5_meet_95 (rfl))))))))
set_option maxRecDepth 100000 in
theorem oX5_leads_0 : pz_ok 57 0 kX5_leads_0 = true := by decide +kernel
set_option maxRecDepth 100000 in
theorem oX5_leads_13 : pz_ok 57 13 kX5_leads_13 = true := by decide +kernel
set_option maxRecDepth 100000 in
theorem oX5_leads_56 : pz_ok 57 56 kX5_leads_56 = true := by decide +kernel
set_option maxRecDepth 100000 in
theorem oX5_leads_59 : pz_ok 57 59 kX5_leads_59 = true := by decide +kernel
set_option maxRecDepth 100000 in
theorem oX5_leads_73 : pz_ok 57 73 kX5_leads_73 = true := by decide +kernel
set_option maxRecDepth 100000 in
theorem oX5_leads_94 : pz_ok 57 94 kX5_leads_94 = true := by decide +kernel
set_option maxRecDepth 100000 in
theorem oX5_leads_135 : pz_ok 57 135 kX5_leads_135 = true := by decide +kernel
set_option maxRecDepth 100000 in
theorem oX5_leads_141 : pz_ok 57 141 kX5_leads_141 = true := by decide +kernel
set_option maxRecDepth 100000 in
theorem oX5_leads_151 : pz_ok 57 151 kX5_leads_151 = true := by decide +kernel
