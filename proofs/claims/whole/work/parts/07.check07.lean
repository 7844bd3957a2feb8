theorem oX6_init : pX6_init.all (fun q => pz_ok 89 q.1 q.2) = true := pz_all2 oX6_init_0 (rfl)
set_option maxRecDepth 100000 in
theorem oX6_fails_0 : pz_ok 90 0 kX6_fails_0 = true := by decide +kernel
theorem oX6_fails : pX6_fails.all (fun q => pz_ok 90 q.1 q.2) = true := pz_all2 oX6_fails_0 (rfl)
set_option maxRecDepth 100000 in
theorem oX6_lost_0 : pz_ok 91 0 kX6_lost_0 = true := by decide +kernel
theorem oX6_lost : pX6_lost.all (fun q => pz_ok 91 q.1 q.2) = true := pz_all2 oX6_lost_0 (rfl)
set_option maxRecDepth 100000 in
theorem oX6_within_0 : pz_ok 92 0 kX6_within_0 = true := by decide +kernel
set_option maxRecDepth 100000 in
theorem oX6_within_14 : pz_ok 92 14 kX6_within_14 = true := by decide +kernel
set_option maxRecDepth 100000 in
theorem oX6_within_15 : pz_ok 92 15 kX6_within_15 = true := by decide +kernel
theorem oX6_within : pX6_within.all (fun q => pz_ok 92 q.1 q.2) = true := pz_all2 oX6_within_0 (pz_all2 oX6_within_14 (pz_all2 oX6_within_15 (rfl)))
set_option maxRecDepth 100000 in
theorem oX6_isSheet_0 : pz_ok 93 0 kX6_isSheet_0 = true := by decide +kernel
theorem oX6_isSheet : pX6_isSheet.all (fun q => pz_ok 93 q.1 q.2) = true := pz_all2 oX6_isSheet_0 (rfl)
set_option maxRecDepth 100000 in
theorem oX6_isSort_0 : pz_ok 94 0 kX6_isSort_0 = true := by decide +kernel
theorem oX6_isSort : pX6_isSort.all (fun q => pz_ok 94 q.1 q.2) = true := pz_all2 oX6_isSort_0 (rfl)
set_option maxRecDepth 100000 in
theorem oX6_against_0 : pz_ok 95 0 kX6_against_0 = true := by decide +kernel
set_option maxRecDepth 100000 in
theorem oX6_against_23 : pz_ok 95 23 kX6_against_23 = true := by decide +kernel
set_option maxRecDepth 100000 in
theorem oX6_against_36 : pz_ok 95 36 kX6_against_36 = true := by decide +kernel
set_option maxRecDepth 100000 in
theorem oX6_against_43 : pz_ok 95 43 kX6_against_43 = true := by decide +kernel
set_option maxRecDepth 100000 in
theorem oX6_against_70 : pz_ok 95 70 kX6_against_70 = true := by decide +kernel
set_option maxRecDepth 100000 in
theorem oX6_against_74 : pz_ok 95 74 kX6_against_74 = true := by decide +kernel
set_option maxRecDepth 100000 in
theorem oX6_against_75 : pz_ok 95 75 kX6_against_75 = true := by decide +kernel
theorem oX6_against : pX6_against.all (fun q => pz_ok 95 q.1 q.2) = true := pz_all2 oX6_against_0 (pz_all2 oX6_against_23 (pz_all2 oX6_against_36 (pz_all2 oX6_against_43 (pz_all2 oX6_against_70 (pz_all2 oX6_against_74 (pz_all2 oX6_against_75 (rfl)))))))
set_option maxRecDepth 100000 in
theorem oX6_isPerson_0 : pz_ok 96 0 kX6_isPerson_0 = true := by decide +kernel
set_option maxRecDepth 100000 in
theorem oX6_isPerson_16 : pz_ok 96 16 kX6_isPerson_16 = true := by decide +kernel
set_option maxRecDepth 100000 in
theorem oX6_isPerson_17 : pz_ok 96 17 kX6_isPerson_17 = true := by decide +kernel
theorem oX6_isPerson : pX6_isPerson.all (fun q => pz_ok 96 q.1 q.2) = true := pz_all2 oX6_isPerson_0 (pz_all2 oX6_isPerson_16 (pz_all2 oX6_isPerson_17 (rfl)))
set_option maxRecDepth 100000 in
theorem oX6_areTwo_0 : pz_ok 97 0 kX6_areTwo_0 = true := by decide +kernel
set_option maxRecDepth 100000 in
theorem oX6_areTwo_25 : pz_ok 97 25 kX6_areTwo_25 = true := by decide +kernel
set_option maxRecDepth 100000 in
theorem oX6_areTwo_26 : pz_ok 97 26 kX6_areTwo_26 = true := by decide +kernel
theorem oX6_areTwo : pX6_areTwo.all (fun q => pz_ok 97 q.1 q.2) = true := pz_all2 oX6_areTwo_0 (pz_all2 oX6_areTwo_25 (pz_all2 oX6_areTwo_26 (rfl)))
set_option maxRecDepth 100000 in
theorem oX6_apart_0 : pz_ok 98 0 kX6_apart_0 = true := by decide +kernel
set_option maxRecDepth 100000 in
theorem oX6_apart_11 : pz_ok 98 11 kX6_apart_11 = true := by decide +kernel
set_option maxRecDepth 100000 in
theorem oX6_apart_14 : pz_ok 98 14 kX6_apart_14 = true := by decide +kernel
theorem oX6_apart : pX6_apart.all (fun q => pz_ok 98 q.1 q.2) = true := pz_all2 oX6_apart_0 (pz_all2 oX6_apart_11 (pz_all2 oX6_apart_14 (rfl)))
set_option maxRecDepth 100000 in
theorem oX6_digit_0 : pz_ok 99 0 kX6_digit_0 = true := by decide +kernel
set_option maxRecDepth 100000 in
theorem oX6_digit_31 : pz_ok 99 31 kX6_digit_31 = true := by decide +kernel
set_option maxRecDepth 100000 in
theorem oX6_digit_34 : pz_ok 99 34 kX6_digit_34 = true := by decide +kernel
theorem oX6_digit : pX6_digit.all (fun q => pz_ok 99 q.1 q.2) = true := pz_all2 oX6_digit_0 (pz_all2 oX6_digit_31 (pz_all2 oX6_digit_34 (rfl)))
set_option maxRecDepth 100000 in
theorem oX6_isSign_0 : pz_ok 100 0 kX6_isSign_0 = true := by decide +kernel
set_option maxRecDepth 100000 in
theorem oX6_isSign_21 : pz_ok 100 21 kX6_isSign_21 = true := by decide +kernel
set_option maxRecDepth 100000 in
theorem oX6_isSign_23 : pz_ok 100 23 kX6_isSign_23 = true := by decide +kernel
theorem oX6_isSign : pX6_isSign.all (fun q => pz_ok 100 q.1 q.2) = true := pz_all2 oX6_isSign_0 (pz_all2 oX6_isSign_21 (pz_all2 oX6_isSign_23 (rfl)))
set_option maxRecDepth 100000 in
theorem oX6_duchy_0 : pz_ok 101 0 kX6_duchy_0 = true := by decide +kernel
set_option maxRecDepth 100000 in
theorem oX6_duchy_14 : pz_ok 101 14 kX6_duchy_14 = true := by decide +kernel
set_option maxRecDepth 100000 in
theorem oX6_duchy_24 : pz_ok 101 24 kX6_duchy_24 = true := by decide +kernel
set_option maxRecDepth 100000 in
theorem oX6_duchy_47 : pz_ok 101 47 kX6_duchy_47 = true := by decide +kernel
set_option maxRecDepth 100000 in
theorem oX6_duchy_84 : pz_ok 101 84 kX6_duchy_84 = true := by decide +kernel
theorem oX6_duchy : pX6_duchy.all (fun q => pz_ok 101 q.1 q.2) = true := pz_all2 oX6_duchy_0 (pz_all2 oX6_duchy_14 (pz_all2 oX6_duchy_24 (pz_all2 oX6_duchy_47 (pz_all2 oX6_duchy_84 (rfl)))))
set_option maxRecDepth 100000 in
theorem oX6_takeDuchy_0 : pz_ok 102 0 kX6_takeDuchy_0 = true := by decide +kernel
set_option maxRecDepth 100000 in
theorem oX6_takeDuchy_18 : pz_ok 102 18 kX6_takeDuchy_18 = true := by decide +kernel
set_option maxRecDepth 100000 in
theorem oX6_takeDuchy_107 : pz_ok 102 107 kX6_takeDuchy_107 = true := by decide +kernel
theorem oX6_takeDuchy : pX6_takeDuchy.all (fun q => pz_ok 102 q.1 q.2) = true := pz_all2 oX6_takeDuchy_0 (pz_all2 oX6_takeDuchy_18 (pz_all2 oX6_takeDuchy_107 (rfl)))
set_option maxRecDepth 100000 in
theorem oX6_readDuchy_0 : pz_ok 103 0 kX6_readDuchy_0 = true := by decide +kernel
set_option maxRecDepth 100000 in
theorem oX6_readDuchy_17 : pz_ok 103 17 kX6_readDuchy_17 = true := by decide +kernel
set_option maxRecDepth 100000 in
theorem oX6_readDuchy_40 : pz_ok 103 40 kX6_readDuchy_40 = true := by decide +kernel
set_option maxRecDepth 100000 in
theorem oX6_readDuchy_65 : pz_ok 103 65 kX6_readDuchy_65 = true := by decide +kernel
set_option maxRecDepth 100000 in
theorem oX6_readDuchy_83 : pz_ok 103 83 kX6_readDuchy_83 = true := by decide +kernel
set_option maxRecDepth 100000 in
theorem oX6_readDuchy_85 : pz_ok 103 85 kX6_readDuchy_85 = true := by decide +kernel
set_option maxRecDepth 100000 in
theorem oX6_readDuchy_97 : pz_ok 103 97 kX6_readDuchy_97 = true := by decide +kernel
set_option maxRecDepth 100000 in
theorem oX6_readDuchy_98 : pz_ok 103 98 kX6_readDuchy_98 = true := by decide +kernel
theorem oX6_readDuchy : pX6_readDuchy.all (fun q => pz_ok 103 q.1 q.2) = true := pz_all2 oX6_readDuchy_0 (pz_all2 oX6_readDuchy_17 (pz_all2 oX6_readDuchy_40 (pz_all2 oX6_readDuchy_65 (pz_all2 oX6_readDuchy_83 (pz_all2 oX6_readDuchy_85 (pz_all2 oX6_readDuchy_97 (pz_all2 oX6_readDuchy_98 (rfl))))))))
set_option maxRecDepth 100000 in
theorem oX6_readPerson_0 : pz_ok 104 0 kX6_readPerson_0 = true := by decide +kernel
set_option maxRecDepth 100000 in
theorem oX6_readPerson_20 : pz_ok 104 20 kX6_readPerson_20 = true := by decide +kernel
set_option maxRecDepth 100000 in
theorem oX6_readPerson_21 : pz_ok 104 21 kX6_readPerson_21 = true := by decide +kernel
set_option maxRecDepth 100000 in
theorem oX6_readPerson_44 : pz_ok 104 44 kX6_readPerson_44 = true := by decide +kernel
set_option maxRecDepth 100000 in
theorem oX6_readPerson_54 : pz_ok 104 54 kX6_readPerson_54 = true := by decide +kernel
set_option maxRecDepth 100000 in
theorem oX6_readPerson_64 : pz_ok 104 64 kX6_readPerson_64 = true := by decide +kernel
set_option maxRecDepth 100000 in
theorem oX6_readPerson_66 : pz_ok 104 66 kX6_readPerson_66 = true := by decide +kernel
set_option maxRecDepth 100000 in
theorem oX6_readPerson_80 : pz_ok 104 80 kX6_readPerson_80 = true := by decide +kernel
set_option maxRecDepth 100000 in
theorem oX6_readPerson_121 : pz_ok 104 121 kX6_readPerson_121 = true := by decide +kernel
set_option maxRecDepth 100000 in
theorem oX6_readPerson_163 : pz_ok 104 163 kX6_readPerson_163 = true := by decide +kernel
set_option maxRecDepth 100000 in
theorem oX6_readPerson_164 : pz_ok 104 164 kX6_readPerson_164 = true := by decide +kernel
theorem oX6_readPerson : pX6_readPerson.all (fun q => pz_ok 104 q.1 q.2) = true := pz_all2 oX6_readPerson_0 (pz_all2 oX6_readPerson_20 (pz_all2 oX6_readPerson_21 (pz_all2 oX6_readPerson_44 (pz_all2 oX6_readPerson_54 (pz_all2 oX6_readPerson_64 (pz_all2 oX6_readPerson_66 (pz_all2 oX6_readPerson_80 (pz_all2 oX6_readPerson_121 (pz_all2 oX6_readPerson_163 (pz_all2 oX6_readPerson_164 (rfl)))))))))))
set_option maxRecDepth 100000 in
theorem oX6_strideOf_0 : pz_ok 105 0 kX6_strideOf_0 = true := by decide +kernel
set_option maxRecDepth 100000 in
theorem oX6_strideOf_18 : pz_ok 105 18 kX6_strideOf_18 = true := by decide +kernel
set_option maxRecDepth 100000 in
theorem oX6_strideOf_39 : pz_ok 105 39 kX6_strideOf_39 = true := by decide +kernel
set_option maxRecDepth 100000 in
theorem oX6_strideOf_47 : pz_ok 105 47 kX6_strideOf_47 = true := by decide +kernel
theorem oX6_strideOf : pX6_strideOf.all (fun q => pz_ok 105 q.1 q.2) = true := pz_all2 oX6_strideOf_0 (pz_all2 oX6_strideOf_18 (pz_all2 oX6_strideOf_39 (pz_all2 oX6_strideOf_47 (rfl))))
set_option maxRecDepth 100000 in
theorem oX6_jarOf_0 : pz_ok 106 0 kX6_jarOf_0 = true := by decide +kernel
set_option maxRecDepth 100000 in
theorem oX6_jarOf_38 : pz_ok 106 38 kX6_jarOf_38 = true := by decide +kernel
set_option maxRecDepth 100000 in
theorem oX6_jarOf_39 : pz_ok 106 39 kX6_jarOf_39 = true := by decide +kernel
theorem oX6_jarOf : pX6_jarOf.all (fun q => pz_ok 106 q.1 q.2) = true := pz_all2 oX6_jarOf_0 (pz_all2 oX6_jarOf_38 (pz_all2 oX6_jarOf_39 (rfl)))
set_option maxRecDepth 100000 in
theorem oX6_ofPerson_0 : pz_ok 107 0 kX6_ofPerson_0 = true := by decide +kernel
set_option maxRecDepth 100000 in
theorem oX6_ofPerson_10 : pz_ok 107 10 kX6_ofPerson_10 = true := by decide +kernel
set_option maxRecDepth 100000 in
theorem oX6_ofPerson_48 : pz_ok 107 48 kX6_ofPerson_48 = true := by decide +kernel
set_option maxRecDepth 100000 in
theorem oX6_ofPerson_55 : pz_ok 107 55 kX6_ofPerson_55 = true := by decide +kernel
set_option maxRecDepth 100000 in
theorem oX6_ofPerson_62 : pz_ok 107 62 kX6_ofPerson_62 = true := by decide +kernel
set_option maxRecDepth 100000 in
theorem oX6_ofPerson_69 : pz_ok 107 69 kX6_ofPerson_69 = true := by decide +kernel
set_option maxRecDepth 100000 in
theorem oX6_ofPerson_75 : pz_ok 107 75 kX6_ofPerson_75 = true := by decide +kernel
set_option maxRecDepth 100000 in
theorem oX6_ofPerson_82 : pz_ok 107 82 kX6_ofPerson_82 = true := by decide +kernel
set_option maxRecDepth 100000 in
theorem oX6_ofPerson_95 : pz_ok 107 95 kX6_ofPerson_95 = true := by decide +kernel
set_option maxRecDepth 100000 in
theorem oX6_ofPerson_96 : pz_ok 107 96 kX6_ofPerson_96 = true := by decide +kernel
set_option maxRecDepth 100000 in
theorem oX6_ofPerson_97 : pz_ok 107 97 kX6_ofPerson_97 = true := by decide +kernel
theorem oX6_ofPerson : pX6_ofPerson.all (fun q => pz_ok 107 q.1 q.2) = true := pz_all2 oX6_ofPerson_0 (pz_all2 oX6_ofPerson_10 (pz_all2 oX6_ofPerson_48 (pz_all2 oX6_ofPerson_55 (pz_all2 oX6_ofPerson_62 (pz_all2 oX6_ofPerson_69 (pz_all2 oX6_ofPerson_75 (pz_all2 oX6_ofPerson_82 (pz_all2 oX6_ofPerson_95 (pz_all2 oX6_ofPerson_96 (pz_all2 oX6_ofPerson_97 (rfl)))))))))))
set_option maxRecDepth 100000 in
theorem oX6_where_0 : pz_ok 108 0 kX6_where_0 = true := by decide +kernel
set_option maxRecDepth 100000 in
theorem oX6_where_17 : pz_ok 108 17 kX6_where_17 = true := by decide +kernel
set_option maxRecDepth 100000 in
theorem oX6_where_21 : pz_ok 108 21 kX6_where_21 = true := by decide +kernel
set_option maxRecDepth 100000 in
theorem oX6_where_35 : pz_ok 108 35 kX6_where_35 = true := by decide +kernel
set_option maxRecDepth 100000 in
theorem oX6_where_42 : pz_ok 108 42 kX6_where_42 = true := by decide +kernel
theorem oX6_where : pX6_where.all (fun q => pz_ok 108 q.1 q.2) = true := pz_all2 oX6_where_0 (pz_all2 oX6_where_17 (pz_all2 oX6_where_21 (pz_all2 oX6_where_35 (pz_all2 oX6_where_42 (rfl)))))
set_option maxRecDepth 100000 in
theorem oX6_train_0 : pz_ok 109 0 kX6_train_0 = true := by decide +kernel
set_option maxRecDepth 100000 in
theorem oX6_train_10 : pz_ok 109 10 kX6_train_10 = true := by decide +kernel
set_option maxRecDepth 100000 in
theorem oX6_train_23 : pz_ok 109 23 kX6_train_23 = true := by decide +kernel
theorem oX6_train : pX6_train.all (fun q => pz_ok 109 q.1 q.2) = true := pz_all2 oX6_train_0 (pz_all2 oX6_train_10 (pz_all2 oX6_train_23 (rfl)))
set_option maxRecDepth 100000 in
theorem oX6_bid_0 : pz_ok 110 0 kX6_bid_0 = true := by decide +kernel
set_option maxRecDepth 100000 in
theorem oX6_bid_10 : pz_ok 110 10 kX6_bid_10 = true := by decide +kernel
set_option maxRecDepth 100000 in
theorem oX6_bid_22 : pz_ok 110 22 kX6_bid_22 = true := by decide +kernel
theorem oX6_bid : pX6_bid.all (fun q => pz_ok 110 q.1 q.2) = true := pz_all2 oX6_bid_0 (pz_all2 oX6_bid_10 (pz_all2 oX6_bid_22 (rfl)))
set_option maxRecDepth 100000 in
theorem oX6_jar_0 : pz_ok 111 0 kX6_jar_0 = true := by decide +kernel
set_option maxRecDepth 100000 in
theorem oX6_jar_18 : pz_ok 111 18 kX6_jar_18 = true := by decide +kernel
set_option maxRecDepth 100000 in
theorem oX6_jar_19 : pz_ok 111 19 kX6_jar_19 = true := by decide +kernel
theorem oX6_jar : pX6_jar.all (fun q => pz_ok 111 q.1 q.2) = true := pz_all2 oX6_jar_0 (pz_all2 oX6_jar_18 (pz_all2 oX6_jar_19 (rfl)))
set_option maxRecDepth 100000 in
theorem oX6_horses_0 : pz_ok 112 0 kX6_horses_0 = true := by decide +kernel
set_option maxRecDepth 100000 in
theorem oX6_horses_4 : pz_ok 112 4 kX6_horses_4 = true := by decide +kernel
set_option maxRecDepth 100000 in
theorem oX6_horses_26 : pz_ok 112 26 kX6_horses_26 = true := by decide +kernel
set_option maxRecDepth 100000 in
theorem oX6_horses_27 : pz_ok 112 27 kX6_horses_27 = true := by decide +kernel
set_option maxRecDepth 100000 in
theorem oX6_horses_35 : pz_ok 112 35 kX6_horses_35 = true := by decide +kernel
theorem oX6_horses : pX6_horses.all (fun q => pz_ok 112 q.1 q.2) = true := pz_all2 oX6_horses_0 (pz_all2 oX6_horses_4 (pz_all2 oX6_horses_26 (pz_all2 oX6_horses_27 (pz_all2 oX6_horses_35 (rfl)))))
set_option maxRecDepth 100000 in
theorem oX6_joins_0 : pz_ok 113 0 kX6_joins_0 = true := by decide +kernel
theorem oX6_joins : pX6_joins.all (fun q => pz_ok 113 q.1 q.2) = true := pz_all2 oX6_joins_0 (rfl)
set_option maxRecDepth 100000 in
theorem oX6_parts_0 : pz_ok 114 0 kX6_parts_0 = true := by decide +kernel
theorem oX6_parts : pX6_parts.all (fun q => pz_ok 114 q.1 q.2) = true := pz_all2 oX6_parts_0 (rfl)
set_option maxRecDepth 100000 in
theorem oX6_join_0 : pz_ok 115 0 kX6_join_0 = true := by decide +kernel
set_option maxRecDepth 100000 in
theorem oX6_join_11 : pz_ok 115 11 kX6_join_11 = true := by decide +kernel
set_option maxRecDepth 100000 in
theorem oX6_join_33 : pz_ok 115 33 kX6_join_33 = true := by decide +kernel
set_option maxRecDepth 100000 in
theorem oX6_join_36 : pz_ok 115 36 kX6_join_36 = true := by decide +kernel
theorem oX6_join : pX6_join.all (fun q => pz_ok 115 q.1 q.2) = true := pz_all2 oX6_join_0 (pz_all2 oX6_join_11 (pz_all2 oX6_join_33 (pz_all2 oX6_join_36 (rfl))))
set_option maxRecDepth 100000 in
theorem oX6_part_0 : pz_ok 116 0 kX6_part_0 = true := by decide +kernel
set_option maxRecDepth 100000 in
theorem oX6_part_10 : pz_ok 116 10 kX6_part_10 = true := by decide +kernel
set_option maxRecDepth 100000 in
theorem oX6_part_24 : pz_ok 116 24 kX6_part_24 = true := by decide +kernel
theorem oX6_part : pX6_part.all (fun q => pz_ok 116 q.1 q.2) = true := pz_all2 oX6_part_0 (pz_all2 oX6_part_10 (pz_all2 oX6_part_24 (rfl)))
set_option maxRecDepth 100000 in
theorem oX6_columnsOf_0 : pz_ok 117 0 kX6_columnsOf_0 = true := by decide +kernel
set_option maxRecDepth 100000 in
theorem oX6_columnsOf_9 : pz_ok 117 9 kX6_columnsOf_9 = true := by decide +kernel
set_option maxRecDepth 100000 in
theorem oX6_columnsOf_19 : pz_ok 117 19 kX6_columnsOf_19 = true := by decide +kernel
set_option maxRecDepth 100000 in
theorem oX6_columnsOf_20 : pz_ok 117 20 kX6_columnsOf_20 = true := by decide +kernel
theorem oX6_columnsOf : pX6_columnsOf.all (fun q => pz_ok 117 q.1 q.2) = true := pz_all2 oX6_columnsOf_0 (pz_all2 oX6_columnsOf_9 (pz_all2 oX6_columnsOf_19 (pz_all2 oX6_columnsOf_20 (rfl))))
set_option maxRecDepth 100000 in
theorem oX6_linesOf_0 : pz_ok 118 0 kX6_linesOf_0 = true := by decide +kernel
set_option maxRecDepth 100000 in
theorem oX6_linesOf_9 : pz_ok 118 9 kX6_linesOf_9 = true := by decide +kernel
set_option maxRecDepth 100000 in
theorem oX6_linesOf_18 : pz_ok 118 18 kX6_linesOf_18 = true := by decide +kernel
set_option maxRecDepth 100000 in
theorem oX6_linesOf_19 : pz_ok 118 19 kX6_linesOf_19 = true := by decide +kernel
theorem oX6_linesOf : pX6_linesOf.all (fun q => pz_ok 118 q.1 q.2) = true := pz_all2 oX6_linesOf_0 (pz_all2 oX6_linesOf_9 (pz_all2 oX6_linesOf_18 (pz_all2 oX6_linesOf_19 (rfl))))
set_option maxRecDepth 100000 in
theorem oX6_wayColumns_0 : pz_ok 119 0 kX6_wayColumns_0 = true := by decide +kernel
theorem oX6_wayColumns : pX6_wayColumns.all (fun q => pz_ok 119 q.1 q.2) = true := pz_all2 oX6_wayColumns_0 (rfl)
set_option maxRecDepth 100000 in
theorem oX6_wayLines_0 : pz_ok 120 0 kX6_wayLines_0 = true := by decide +kernel
theorem oX6_wayLines : pX6_wayLines.all (fun q => pz_ok 120 q.1 q.2) = true := pz_all2 oX6_wayLines_0 (rfl)
set_option maxRecDepth 100000 in
theorem oX6_oneHour_0 : pz_ok 121 0 kX6_oneHour_0 = true := by decide +kernel
set_option maxRecDepth 100000 in
theorem oX6_oneHour_12 : pz_ok 121 12 kX6_oneHour_12 = true := by decide +kernel
