set_option maxRecDepth 100000 in
theorem oX6_oneHour_90 : pz_ok 121 90 kX6_oneHour_90 = true := by decide +kernel
set_option maxRecDepth 100000 in
theorem oX6_oneHour_96 : pz_ok 121 96 kX6_oneHour_96 = true := by decide +kernel
set_option maxRecDepth 100000 in
theorem oX6_oneHour_98 : pz_ok 121 98 kX6_oneHour_98 = true := by decide +kernel
set_option maxRecDepth 100000 in
theorem oX6_oneHour_147 : pz_ok 121 147 kX6_oneHour_147 = true := by decide +kernel
set_option maxRecDepth 100000 in
theorem oX6_oneHour_148 : pz_ok 121 148 kX6_oneHour_148 = true := by decide +kernel
set_option maxRecDepth 100000 in
theorem oX6_oneHour_155 : pz_ok 121 155 kX6_oneHour_155 = true := by decide +kernel
theorem oX6_oneHour : pX6_oneHour.all (fun q => pz_ok 121 q.1 q.2) = true := pz_all2 oX6_oneHour_0 (pz_all2 oX6_oneHour_12 (pz_all2 oX6_oneHour_90 (pz_all2 oX6_oneHour_96 (pz_all2 oX6_oneHour_98 (pz_all2 oX6_oneHour_147 (pz_all2 oX6_oneHour_148 (pz_all2 oX6_oneHour_155 (rfl))))))))
set_option maxRecDepth 100000 in
theorem oX6_hours_0 : pz_ok 122 0 kX6_hours_0 = true := by decide +kernel
set_option maxRecDepth 100000 in
theorem oX6_hours_13 : pz_ok 122 13 kX6_hours_13 = true := by decide +kernel
set_option maxRecDepth 100000 in
theorem oX6_hours_23 : pz_ok 122 23 kX6_hours_23 = true := by decide +kernel
set_option maxRecDepth 100000 in
theorem oX6_hours_25 : pz_ok 122 25 kX6_hours_25 = true := by decide +kernel
set_option maxRecDepth 100000 in
theorem oX6_hours_40 : pz_ok 122 40 kX6_hours_40 = true := by decide +kernel
theorem oX6_hours : pX6_hours.all (fun q => pz_ok 122 q.1 q.2) = true := pz_all2 oX6_hours_0 (pz_all2 oX6_hours_13 (pz_all2 oX6_hours_23 (pz_all2 oX6_hours_25 (pz_all2 oX6_hours_40 (rfl)))))
set_option maxRecDepth 100000 in
theorem oX6_keep_0 : pz_ok 123 0 kX6_keep_0 = true := by decide +kernel
set_option maxRecDepth 100000 in
theorem oX6_keep_10 : pz_ok 123 10 kX6_keep_10 = true := by decide +kernel
set_option maxRecDepth 100000 in
theorem oX6_keep_84 : pz_ok 123 84 kX6_keep_84 = true := by decide +kernel
theorem oX6_keep : pX6_keep.all (fun q => pz_ok 123 q.1 q.2) = true := pz_all2 oX6_keep_0 (pz_all2 oX6_keep_10 (pz_all2 oX6_keep_84 (rfl)))
set_option maxRecDepth 100000 in
theorem oX6_putBack_0 : pz_ok 124 0 kX6_putBack_0 = true := by decide +kernel
set_option maxRecDepth 100000 in
theorem oX6_putBack_10 : pz_ok 124 10 kX6_putBack_10 = true := by decide +kernel
set_option maxRecDepth 100000 in
theorem oX6_putBack_84 : pz_ok 124 84 kX6_putBack_84 = true := by decide +kernel
theorem oX6_putBack : pX6_putBack.all (fun q => pz_ok 124 q.1 q.2) = true := pz_all2 oX6_putBack_0 (pz_all2 oX6_putBack_10 (pz_all2 oX6_putBack_84 (rfl)))
set_option maxRecDepth 100000 in
theorem oX6_areAt_0 : pz_ok 125 0 kX6_areAt_0 = true := by decide +kernel
set_option maxRecDepth 100000 in
theorem oX6_areAt_34 : pz_ok 125 34 kX6_areAt_34 = true := by decide +kernel
set_option maxRecDepth 100000 in
theorem oX6_areAt_35 : pz_ok 125 35 kX6_areAt_35 = true := by decide +kernel
theorem oX6_areAt : pX6_areAt.all (fun q => pz_ok 125 q.1 q.2) = true := pz_all2 oX6_areAt_0 (pz_all2 oX6_areAt_34 (pz_all2 oX6_areAt_35 (rfl)))
set_option maxRecDepth 100000 in
theorem oX6_isCrowded_0 : pz_ok 126 0 kX6_isCrowded_0 = true := by decide +kernel
set_option maxRecDepth 100000 in
theorem oX6_isCrowded_2 : pz_ok 126 2 kX6_isCrowded_2 = true := by decide +kernel
set_option maxRecDepth 100000 in
theorem oX6_isCrowded_12 : pz_ok 126 12 kX6_isCrowded_12 = true := by decide +kernel
set_option maxRecDepth 100000 in
theorem oX6_isCrowded_46 : pz_ok 126 46 kX6_isCrowded_46 = true := by decide +kernel
set_option maxRecDepth 100000 in
theorem oX6_isCrowded_52 : pz_ok 126 52 kX6_isCrowded_52 = true := by decide +kernel
set_option maxRecDepth 100000 in
theorem oX6_isCrowded_58 : pz_ok 126 58 kX6_isCrowded_58 = true := by decide +kernel
theorem oX6_isCrowded : pX6_isCrowded.all (fun q => pz_ok 126 q.1 q.2) = true := pz_all2 oX6_isCrowded_0 (pz_all2 oX6_isCrowded_2 (pz_all2 oX6_isCrowded_12 (pz_all2 oX6_isCrowded_46 (pz_all2 oX6_isCrowded_52 (pz_all2 oX6_isCrowded_58 (rfl))))))
set_option maxRecDepth 100000 in
theorem oX6_does_0 : pz_ok 127 0 kX6_does_0 = true := by decide +kernel
set_option maxRecDepth 100000 in
theorem oX6_does_8 : pz_ok 127 8 kX6_does_8 = true := by decide +kernel
set_option maxRecDepth 100000 in
theorem oX6_does_33 : pz_ok 127 33 kX6_does_33 = true := by decide +kernel
set_option maxRecDepth 100000 in
theorem oX6_does_34 : pz_ok 127 34 kX6_does_34 = true := by decide +kernel
set_option maxRecDepth 100000 in
theorem oX6_does_44 : pz_ok 127 44 kX6_does_44 = true := by decide +kernel
set_option maxRecDepth 100000 in
theorem oX6_does_46 : pz_ok 127 46 kX6_does_46 = true := by decide +kernel
set_option maxRecDepth 100000 in
theorem oX6_does_64 : pz_ok 127 64 kX6_does_64 = true := by decide +kernel
set_option maxRecDepth 100000 in
theorem oX6_does_83 : pz_ok 127 83 kX6_does_83 = true := by decide +kernel
set_option maxRecDepth 100000 in
theorem oX6_does_90 : pz_ok 127 90 kX6_does_90 = true := by decide +kernel
set_option maxRecDepth 100000 in
theorem oX6_does_121 : pz_ok 127 121 kX6_does_121 = true := by decide +kernel
set_option maxRecDepth 100000 in
theorem oX6_does_123 : pz_ok 127 123 kX6_does_123 = true := by decide +kernel
theorem oX6_does : pX6_does.all (fun q => pz_ok 127 q.1 q.2) = true := pz_all2 oX6_does_0 (pz_all2 oX6_does_8 (pz_all2 oX6_does_33 (pz_all2 oX6_does_34 (pz_all2 oX6_does_44 (pz_all2 oX6_does_46 (pz_all2 oX6_does_64 (pz_all2 oX6_does_83 (pz_all2 oX6_does_90 (pz_all2 oX6_does_121 (pz_all2 oX6_does_123 (rfl)))))))))))
set_option maxRecDepth 100000 in
theorem oX6_goDay_0 : pz_ok 128 0 kX6_goDay_0 = true := by decide +kernel
set_option maxRecDepth 100000 in
theorem oX6_goDay_7 : pz_ok 128 7 kX6_goDay_7 = true := by decide +kernel
set_option maxRecDepth 100000 in
theorem oX6_goDay_43 : pz_ok 128 43 kX6_goDay_43 = true := by decide +kernel
set_option maxRecDepth 100000 in
theorem oX6_goDay_49 : pz_ok 128 49 kX6_goDay_49 = true := by decide +kernel
theorem oX6_goDay : pX6_goDay.all (fun q => pz_ok 128 q.1 q.2) = true := pz_all2 oX6_goDay_0 (pz_all2 oX6_goDay_7 (pz_all2 oX6_goDay_43 (pz_all2 oX6_goDay_49 (rfl))))
set_option maxRecDepth 100000 in
theorem oX6_refusesPair_0 : pz_ok 129 0 kX6_refusesPair_0 = true := by decide +kernel
set_option maxRecDepth 100000 in
theorem oX6_refusesPair_32 : pz_ok 129 32 kX6_refusesPair_32 = true := by decide +kernel
set_option maxRecDepth 100000 in
theorem oX6_refusesPair_36 : pz_ok 129 36 kX6_refusesPair_36 = true := by decide +kernel
set_option maxRecDepth 100000 in
theorem oX6_refusesPair_37 : pz_ok 129 37 kX6_refusesPair_37 = true := by decide +kernel
set_option maxRecDepth 100000 in
theorem oX6_refusesPair_58 : pz_ok 129 58 kX6_refusesPair_58 = true := by decide +kernel
set_option maxRecDepth 100000 in
theorem oX6_refusesPair_61 : pz_ok 129 61 kX6_refusesPair_61 = true := by decide +kernel
set_option maxRecDepth 100000 in
theorem oX6_refusesPair_79 : pz_ok 129 79 kX6_refusesPair_79 = true := by decide +kernel
set_option maxRecDepth 100000 in
theorem oX6_refusesPair_80 : pz_ok 129 80 kX6_refusesPair_80 = true := by decide +kernel
theorem oX6_refusesPair : pX6_refusesPair.all (fun q => pz_ok 129 q.1 q.2) = true := pz_all2 oX6_refusesPair_0 (pz_all2 oX6_refusesPair_32 (pz_all2 oX6_refusesPair_36 (pz_all2 oX6_refusesPair_37 (pz_all2 oX6_refusesPair_58 (pz_all2 oX6_refusesPair_61 (pz_all2 oX6_refusesPair_79 (pz_all2 oX6_refusesPair_80 (rfl))))))))
set_option maxRecDepth 100000 in
theorem oX6_day_0 : pz_ok 130 0 kX6_day_0 = true := by decide +kernel
set_option maxRecDepth 100000 in
theorem oX6_day_14 : pz_ok 130 14 kX6_day_14 = true := by decide +kernel
set_option maxRecDepth 100000 in
theorem oX6_day_54 : pz_ok 130 54 kX6_day_54 = true := by decide +kernel
set_option maxRecDepth 100000 in
theorem oX6_day_57 : pz_ok 130 57 kX6_day_57 = true := by decide +kernel
set_option maxRecDepth 100000 in
theorem oX6_day_82 : pz_ok 130 82 kX6_day_82 = true := by decide +kernel
set_option maxRecDepth 100000 in
theorem oX6_day_92 : pz_ok 130 92 kX6_day_92 = true := by decide +kernel
set_option maxRecDepth 100000 in
theorem oX6_day_103 : pz_ok 130 103 kX6_day_103 = true := by decide +kernel
set_option maxRecDepth 100000 in
theorem oX6_day_150 : pz_ok 130 150 kX6_day_150 = true := by decide +kernel
set_option maxRecDepth 100000 in
theorem oX6_day_156 : pz_ok 130 156 kX6_day_156 = true := by decide +kernel
set_option maxRecDepth 100000 in
theorem oX6_day_193 : pz_ok 130 193 kX6_day_193 = true := by decide +kernel
set_option maxRecDepth 100000 in
theorem oX6_day_205 : pz_ok 130 205 kX6_day_205 = true := by decide +kernel
set_option maxRecDepth 100000 in
theorem oX6_day_210 : pz_ok 130 210 kX6_day_210 = true := by decide +kernel
theorem oX6_day : pX6_day.all (fun q => pz_ok 130 q.1 q.2) = true := pz_all2 oX6_day_0 (pz_all2 oX6_day_14 (pz_all2 oX6_day_54 (pz_all2 oX6_day_57 (pz_all2 oX6_day_82 (pz_all2 oX6_day_92 (pz_all2 oX6_day_103 (pz_all2 oX6_day_150 (pz_all2 oX6_day_156 (pz_all2 oX6_day_193 (pz_all2 oX6_day_205 (pz_all2 oX6_day_210 (rfl))))))))))))
set_option maxRecDepth 100000 in
theorem oX6_tellDay_0 : pz_ok 131 0 kX6_tellDay_0 = true := by decide +kernel
set_option maxRecDepth 100000 in
theorem oX6_tellDay_29 : pz_ok 131 29 kX6_tellDay_29 = true := by decide +kernel
set_option maxRecDepth 100000 in
theorem oX6_tellDay_31 : pz_ok 131 31 kX6_tellDay_31 = true := by decide +kernel
set_option maxRecDepth 100000 in
theorem oX6_tellDay_32 : pz_ok 131 32 kX6_tellDay_32 = true := by decide +kernel
set_option maxRecDepth 100000 in
theorem oX6_tellDay_42 : pz_ok 131 42 kX6_tellDay_42 = true := by decide +kernel
set_option maxRecDepth 100000 in
theorem oX6_tellDay_54 : pz_ok 131 54 kX6_tellDay_54 = true := by decide +kernel
set_option maxRecDepth 100000 in
theorem oX6_tellDay_58 : pz_ok 131 58 kX6_tellDay_58 = true := by decide +kernel
set_option maxRecDepth 100000 in
theorem oX6_tellDay_59 : pz_ok 131 59 kX6_tellDay_59 = true := by decide +kernel
set_option maxRecDepth 100000 in
theorem oX6_tellDay_63 : pz_ok 131 63 kX6_tellDay_63 = true := by decide +kernel
set_option maxRecDepth 100000 in
theorem oX6_tellDay_101 : pz_ok 131 101 kX6_tellDay_101 = true := by decide +kernel
set_option maxRecDepth 100000 in
theorem oX6_tellDay_116 : pz_ok 131 116 kX6_tellDay_116 = true := by decide +kernel
set_option maxRecDepth 100000 in
theorem oX6_tellDay_117 : pz_ok 131 117 kX6_tellDay_117 = true := by decide +kernel
set_option maxRecDepth 100000 in
theorem oX6_tellDay_125 : pz_ok 131 125 kX6_tellDay_125 = true := by decide +kernel
theorem oX6_tellDay : pX6_tellDay.all (fun q => pz_ok 131 q.1 q.2) = true := pz_all2 oX6_tellDay_0 (pz_all2 oX6_tellDay_29 (pz_all2 oX6_tellDay_31 (pz_all2 oX6_tellDay_32 (pz_all2 oX6_tellDay_42 (pz_all2 oX6_tellDay_54 (pz_all2 oX6_tellDay_58 (pz_all2 oX6_tellDay_59 (pz_all2 oX6_tellDay_63 (pz_all2 oX6_tellDay_101 (pz_all2 oX6_tellDay_116 (pz_all2 oX6_tellDay_117 (pz_all2 oX6_tellDay_125 (rfl)))))))))))))
set_option maxRecDepth 100000 in
theorem oX6_findTwos_0 : pz_ok 132 0 kX6_findTwos_0 = true := by decide +kernel
set_option maxRecDepth 100000 in
theorem oX6_findTwos_2 : pz_ok 132 2 kX6_findTwos_2 = true := by decide +kernel
set_option maxRecDepth 100000 in
theorem oX6_findTwos_21 : pz_ok 132 21 kX6_findTwos_21 = true := by decide +kernel
set_option maxRecDepth 100000 in
theorem oX6_findTwos_31 : pz_ok 132 31 kX6_findTwos_31 = true := by decide +kernel
set_option maxRecDepth 100000 in
theorem oX6_findTwos_50 : pz_ok 132 50 kX6_findTwos_50 = true := by decide +kernel
set_option maxRecDepth 100000 in
theorem oX6_findTwos_58 : pz_ok 132 58 kX6_findTwos_58 = true := by decide +kernel
set_option maxRecDepth 100000 in
theorem oX6_findTwos_100 : pz_ok 132 100 kX6_findTwos_100 = true := by decide +kernel
set_option maxRecDepth 100000 in
theorem oX6_findTwos_117 : pz_ok 132 117 kX6_findTwos_117 = true := by decide +kernel
set_option maxRecDepth 100000 in
theorem oX6_findTwos_135 : pz_ok 132 135 kX6_findTwos_135 = true := by decide +kernel
set_option maxRecDepth 100000 in
theorem oX6_findTwos_136 : pz_ok 132 136 kX6_findTwos_136 = true := by decide +kernel
set_option maxRecDepth 100000 in
theorem oX6_findTwos_145 : pz_ok 132 145 kX6_findTwos_145 = true := by decide +kernel
set_option maxRecDepth 100000 in
theorem oX6_findTwos_166 : pz_ok 132 166 kX6_findTwos_166 = true := by decide +kernel
set_option maxRecDepth 100000 in
theorem oX6_findTwos_172 : pz_ok 132 172 kX6_findTwos_172 = true := by decide +kernel
theorem oX6_findTwos : pX6_findTwos.all (fun q => pz_ok 132 q.1 q.2) = true := pz_all2 oX6_findTwos_0 (pz_all2 oX6_findTwos_2 (pz_all2 oX6_findTwos_21 (pz_all2 oX6_findTwos_31 (pz_all2 oX6_findTwos_50 (pz_all2 oX6_findTwos_58 (pz_all2 oX6_findTwos_100 (pz_all2 oX6_findTwos_117 (pz_all2 oX6_findTwos_135 (pz_all2 oX6_findTwos_136 (pz_all2 oX6_findTwos_145 (pz_all2 oX6_findTwos_166 (pz_all2 oX6_findTwos_172 (rfl)))))))))))))
set_option maxRecDepth 100000 in
theorem oX6_findMatch_0 : pz_ok 133 0 kX6_findMatch_0 = true := by decide +kernel
set_option maxRecDepth 100000 in
theorem oX6_findMatch_18 : pz_ok 133 18 kX6_findMatch_18 = true := by decide +kernel
set_option maxRecDepth 100000 in
theorem oX6_findMatch_33 : pz_ok 133 33 kX6_findMatch_33 = true := by decide +kernel
set_option maxRecDepth 100000 in
theorem oX6_findMatch_41 : pz_ok 133 41 kX6_findMatch_41 = true := by decide +kernel
set_option maxRecDepth 100000 in
theorem oX6_findMatch_58 : pz_ok 133 58 kX6_findMatch_58 = true := by decide +kernel
set_option maxRecDepth 100000 in
theorem oX6_findMatch_111 : pz_ok 133 111 kX6_findMatch_111 = true := by decide +kernel
set_option maxRecDepth 100000 in
theorem oX6_findMatch_112 : pz_ok 133 112 kX6_findMatch_112 = true := by decide +kernel
set_option maxRecDepth 100000 in
theorem oX6_findMatch_121 : pz_ok 133 121 kX6_findMatch_121 = true := by decide +kernel
set_option maxRecDepth 100000 in
theorem oX6_findMatch_139 : pz_ok 133 139 kX6_findMatch_139 = true := by decide +kernel
set_option maxRecDepth 100000 in
theorem oX6_findMatch_148 : pz_ok 133 148 kX6_findMatch_148 = true := by decide +kernel
set_option maxRecDepth 100000 in
theorem oX6_findMatch_177 : pz_ok 133 177 kX6_findMatch_177 = true := by decide +kernel
set_option maxRecDepth 100000 in
theorem oX6_findMatch_183 : pz_ok 133 183 kX6_findMatch_183 = true := by decide +kernel
theorem oX6_findMatch : pX6_findMatch.all (fun q => pz_ok 133 q.1 q.2) = true := pz_all2 oX6_findMatch_0 (pz_all2 oX6_findMatch_18 (pz_all2 oX6_findMatch_33 (pz_all2 oX6_findMatch_41 (pz_all2 oX6_findMatch_58 (pz_all2 oX6_findMatch_111 (pz_all2 oX6_findMatch_112 (pz_all2 oX6_findMatch_121 (pz_all2 oX6_findMatch_139 (pz_all2 oX6_findMatch_148 (pz_all2 oX6_findMatch_177 (pz_all2 oX6_findMatch_183 (rfl))))))))))))
set_option maxRecDepth 100000 in
theorem oX6_match_0 : pz_ok 134 0 kX6_match_0 = true := by decide +kernel
set_option maxRecDepth 100000 in
theorem oX6_match_13 : pz_ok 134 13 kX6_match_13 = true := by decide +kernel
set_option maxRecDepth 100000 in
theorem oX6_match_23 : pz_ok 134 23 kX6_match_23 = true := by decide +kernel
set_option maxRecDepth 100000 in
theorem oX6_match_37 : pz_ok 134 37 kX6_match_37 = true := by decide +kernel
set_option maxRecDepth 100000 in
theorem oX6_match_67 : pz_ok 134 67 kX6_match_67 = true := by decide +kernel
set_option maxRecDepth 100000 in
theorem oX6_match_69 : pz_ok 134 69 kX6_match_69 = true := by decide +kernel
theorem oX6_match : pX6_match.all (fun q => pz_ok 134 q.1 q.2) = true := pz_all2 oX6_match_0 (pz_all2 oX6_match_13 (pz_all2 oX6_match_23 (pz_all2 oX6_match_37 (pz_all2 oX6_match_67 (pz_all2 oX6_match_69 (rfl))))))
set_option maxRecDepth 100000 in
theorem oX6_wouldRather_0 : pz_ok 135 0 kX6_wouldRather_0 = true := by decide +kernel
set_option maxRecDepth 100000 in
theorem oX6_wouldRather_31 : pz_ok 135 31 kX6_wouldRather_31 = true := by decide +kernel
set_option maxRecDepth 100000 in
theorem oX6_wouldRather_35 : pz_ok 135 35 kX6_wouldRather_35 = true := by decide +kernel
set_option maxRecDepth 100000 in
theorem oX6_wouldRather_36 : pz_ok 135 36 kX6_wouldRather_36 = true := by decide +kernel
theorem oX6_wouldRather : pX6_wouldRather.all (fun q => pz_ok 135 q.1 q.2) = true := pz_all2 oX6_wouldRather_0 (pz_all2 oX6_wouldRather_31 (pz_all2 oX6_wouldRather_35 (pz_all2 oX6_wouldRather_36 (rfl))))
set_option maxRecDepth 100000 in
theorem oX6_rather_0 : pz_ok 136 0 kX6_rather_0 = true := by decide +kernel
set_option maxRecDepth 100000 in
theorem oX6_rather_10 : pz_ok 136 10 kX6_rather_10 = true := by decide +kernel
set_option maxRecDepth 100000 in
theorem oX6_rather_12 : pz_ok 136 12 kX6_rather_12 = true := by decide +kernel
set_option maxRecDepth 100000 in
theorem oX6_rather_22 : pz_ok 136 22 kX6_rather_22 = true := by decide +kernel
