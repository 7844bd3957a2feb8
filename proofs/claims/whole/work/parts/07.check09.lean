set_option maxRecDepth 100000 in
theorem oX6_rather_63 : pz_ok 136 63 kX6_rather_63 = true := by decide +kernel
set_option maxRecDepth 100000 in
theorem oX6_rather_69 : pz_ok 136 69 kX6_rather_69 = true := by decide +kernel
set_option maxRecDepth 100000 in
theorem oX6_rather_75 : pz_ok 136 75 kX6_rather_75 = true := by decide +kernel
theorem oX6_rather : pX6_rather.all (fun q => pz_ok 136 q.1 q.2) = true := pz_all2 oX6_rather_0 (pz_all2 oX6_rather_10 (pz_all2 oX6_rather_12 (pz_all2 oX6_rather_22 (pz_all2 oX6_rather_63 (pz_all2 oX6_rather_69 (pz_all2 oX6_rather_75 (rfl)))))))
set_option maxRecDepth 100000 in
theorem oX6_meet_0 : pz_ok 137 0 kX6_meet_0 = true := by decide +kernel
set_option maxRecDepth 100000 in
theorem oX6_meet_16 : pz_ok 137 16 kX6_meet_16 = true := by decide +kernel
set_option maxRecDepth 100000 in
theorem oX6_meet_18 : pz_ok 137 18 kX6_meet_18 = true := by decide +kernel
set_option maxRecDepth 100000 in
theorem oX6_meet_40 : pz_ok 137 40 kX6_meet_40 = true := by decide +kernel
set_option maxRecDepth 100000 in
theorem oX6_meet_43 : pz_ok 137 43 kX6_meet_43 = true := by decide +kernel
set_option maxRecDepth 100000 in
theorem oX6_meet_53 : pz_ok 137 53 kX6_meet_53 = true := by decide +kernel
set_option maxRecDepth 100000 in
theorem oX6_meet_80 : pz_ok 137 80 kX6_meet_80 = true := by decide +kernel
set_option maxRecDepth 100000 in
theorem oX6_meet_82 : pz_ok 137 82 kX6_meet_82 = true := by decide +kernel
set_option maxRecDepth 100000 in
theorem oX6_meet_93 : pz_ok 137 93 kX6_meet_93 = true := by decide +kernel
theorem oX6_meet : pX6_meet.all (fun q => pz_ok 137 q.1 q.2) = true := pz_all2 oX6_meet_0 (pz_all2 oX6_meet_16 (pz_all2 oX6_meet_18 (pz_all2 oX6_meet_40 (pz_all2 oX6_meet_43 (pz_all2 oX6_meet_53 (pz_all2 oX6_meet_80 (pz_all2 oX6_meet_82 (pz_all2 oX6_meet_93 (rfl)))))))))
set_option maxRecDepth 100000 in
theorem oX6_leads_0 : pz_ok 138 0 kX6_leads_0 = true := by decide +kernel
set_option maxRecDepth 100000 in
theorem oX6_leads_10 : pz_ok 138 10 kX6_leads_10 = true := by decide +kernel
set_option maxRecDepth 100000 in
theorem oX6_leads_54 : pz_ok 138 54 kX6_leads_54 = true := by decide +kernel
set_option maxRecDepth 100000 in
theorem oX6_leads_57 : pz_ok 138 57 kX6_leads_57 = true := by decide +kernel
set_option maxRecDepth 100000 in
theorem oX6_leads_71 : pz_ok 138 71 kX6_leads_71 = true := by decide +kernel
set_option maxRecDepth 100000 in
theorem oX6_leads_89 : pz_ok 138 89 kX6_leads_89 = true := by decide +kernel
set_option maxRecDepth 100000 in
theorem oX6_leads_189 : pz_ok 138 189 kX6_leads_189 = true := by decide +kernel
set_option maxRecDepth 100000 in
theorem oX6_leads_197 : pz_ok 138 197 kX6_leads_197 = true := by decide +kernel
set_option maxRecDepth 100000 in
theorem oX6_leads_203 : pz_ok 138 203 kX6_leads_203 = true := by decide +kernel
set_option maxRecDepth 100000 in
theorem oX6_leads_212 : pz_ok 138 212 kX6_leads_212 = true := by decide +kernel
set_option maxRecDepth 100000 in
theorem oX6_leads_223 : pz_ok 138 223 kX6_leads_223 = true := by decide +kernel
set_option maxRecDepth 100000 in
theorem oX6_leads_236 : pz_ok 138 236 kX6_leads_236 = true := by decide +kernel
set_option maxRecDepth 100000 in
theorem oX6_leads_237 : pz_ok 138 237 kX6_leads_237 = true := by decide +kernel
theorem oX6_leads : pX6_leads.all (fun q => pz_ok 138 q.1 q.2) = true := pz_all2 oX6_leads_0 (pz_all2 oX6_leads_10 (pz_all2 oX6_leads_54 (pz_all2 oX6_leads_57 (pz_all2 oX6_leads_71 (pz_all2 oX6_leads_89 (pz_all2 oX6_leads_189 (pz_all2 oX6_leads_197 (pz_all2 oX6_leads_203 (pz_all2 oX6_leads_212 (pz_all2 oX6_leads_223 (pz_all2 oX6_leads_236 (pz_all2 oX6_leads_237 (rfl)))))))))))))
set_option maxRecDepth 100000 in
theorem oX6_reading_0 : pz_ok 139 0 kX6_reading_0 = true := by decide +kernel
set_option maxRecDepth 100000 in
theorem oX6_reading_11 : pz_ok 139 11 kX6_reading_11 = true := by decide +kernel
set_option maxRecDepth 100000 in
theorem oX6_reading_34 : pz_ok 139 34 kX6_reading_34 = true := by decide +kernel
set_option maxRecDepth 100000 in
theorem oX6_reading_37 : pz_ok 139 37 kX6_reading_37 = true := by decide +kernel
set_option maxRecDepth 100000 in
theorem oX6_reading_49 : pz_ok 139 49 kX6_reading_49 = true := by decide +kernel
theorem oX6_reading : pX6_reading.all (fun q => pz_ok 139 q.1 q.2) = true := pz_all2 oX6_reading_0 (pz_all2 oX6_reading_11 (pz_all2 oX6_reading_34 (pz_all2 oX6_reading_37 (pz_all2 oX6_reading_49 (rfl)))))
set_option maxRecDepth 100000 in
theorem oX6_back_0 : pz_ok 140 0 kX6_back_0 = true := by decide +kernel
set_option maxRecDepth 100000 in
theorem oX6_back_15 : pz_ok 140 15 kX6_back_15 = true := by decide +kernel
theorem oX6_back : pX6_back.all (fun q => pz_ok 140 q.1 q.2) = true := pz_all2 oX6_back_0 (pz_all2 oX6_back_15 (rfl))
set_option maxRecDepth 100000 in
theorem oX6_areSo_0 : pz_ok 141 0 kX6_areSo_0 = true := by decide +kernel
set_option maxRecDepth 100000 in
theorem oX6_areSo_2 : pz_ok 141 2 kX6_areSo_2 = true := by decide +kernel
set_option maxRecDepth 100000 in
theorem oX6_areSo_54 : pz_ok 141 54 kX6_areSo_54 = true := by decide +kernel
set_option maxRecDepth 100000 in
theorem oX6_areSo_56 : pz_ok 141 56 kX6_areSo_56 = true := by decide +kernel
set_option maxRecDepth 100000 in
theorem oX6_areSo_62 : pz_ok 141 62 kX6_areSo_62 = true := by decide +kernel
theorem oX6_areSo : pX6_areSo.all (fun q => pz_ok 141 q.1 q.2) = true := pz_all2 oX6_areSo_0 (pz_all2 oX6_areSo_2 (pz_all2 oX6_areSo_54 (pz_all2 oX6_areSo_56 (pz_all2 oX6_areSo_62 (rfl)))))
set_option maxRecDepth 100000 in
theorem oX6_steps_0 : pz_ok 142 0 kX6_steps_0 = true := by decide +kernel
set_option maxRecDepth 100000 in
theorem oX6_steps_10 : pz_ok 142 10 kX6_steps_10 = true := by decide +kernel
set_option maxRecDepth 100000 in
theorem oX6_steps_22 : pz_ok 142 22 kX6_steps_22 = true := by decide +kernel
set_option maxRecDepth 100000 in
theorem oX6_steps_52 : pz_ok 142 52 kX6_steps_52 = true := by decide +kernel
set_option maxRecDepth 100000 in
theorem oX6_steps_53 : pz_ok 142 53 kX6_steps_53 = true := by decide +kernel
set_option maxRecDepth 100000 in
theorem oX6_steps_61 : pz_ok 142 61 kX6_steps_61 = true := by decide +kernel
theorem oX6_steps : pX6_steps.all (fun q => pz_ok 142 q.1 q.2) = true := pz_all2 oX6_steps_0 (pz_all2 oX6_steps_10 (pz_all2 oX6_steps_22 (pz_all2 oX6_steps_52 (pz_all2 oX6_steps_53 (pz_all2 oX6_steps_61 (rfl))))))
set_option maxRecDepth 100000 in
theorem oX6_wills_0 : pz_ok 143 0 kX6_wills_0 = true := by decide +kernel
set_option maxRecDepth 100000 in
theorem oX6_wills_10 : pz_ok 143 10 kX6_wills_10 = true := by decide +kernel
set_option maxRecDepth 100000 in
theorem oX6_wills_22 : pz_ok 143 22 kX6_wills_22 = true := by decide +kernel
set_option maxRecDepth 100000 in
theorem oX6_wills_51 : pz_ok 143 51 kX6_wills_51 = true := by decide +kernel
set_option maxRecDepth 100000 in
theorem oX6_wills_52 : pz_ok 143 52 kX6_wills_52 = true := by decide +kernel
set_option maxRecDepth 100000 in
theorem oX6_wills_60 : pz_ok 143 60 kX6_wills_60 = true := by decide +kernel
theorem oX6_wills : pX6_wills.all (fun q => pz_ok 143 q.1 q.2) = true := pz_all2 oX6_wills_0 (pz_all2 oX6_wills_10 (pz_all2 oX6_wills_22 (pz_all2 oX6_wills_51 (pz_all2 oX6_wills_52 (pz_all2 oX6_wills_60 (rfl))))))
set_option maxRecDepth 100000 in
theorem oX6_kinds_0 : pz_ok 144 0 kX6_kinds_0 = true := by decide +kernel
set_option maxRecDepth 100000 in
theorem oX6_kinds_10 : pz_ok 144 10 kX6_kinds_10 = true := by decide +kernel
set_option maxRecDepth 100000 in
theorem oX6_kinds_22 : pz_ok 144 22 kX6_kinds_22 = true := by decide +kernel
set_option maxRecDepth 100000 in
theorem oX6_kinds_51 : pz_ok 144 51 kX6_kinds_51 = true := by decide +kernel
set_option maxRecDepth 100000 in
theorem oX6_kinds_52 : pz_ok 144 52 kX6_kinds_52 = true := by decide +kernel
set_option maxRecDepth 100000 in
theorem oX6_kinds_60 : pz_ok 144 60 kX6_kinds_60 = true := by decide +kernel
theorem oX6_kinds : pX6_kinds.all (fun q => pz_ok 144 q.1 q.2) = true := pz_all2 oX6_kinds_0 (pz_all2 oX6_kinds_10 (pz_all2 oX6_kinds_22 (pz_all2 oX6_kinds_51 (pz_all2 oX6_kinds_52 (pz_all2 oX6_kinds_60 (rfl))))))
set_option maxRecDepth 100000 in
theorem oX6_inLeastTerms_0 : pz_ok 145 0 kX6_inLeastTerms_0 = true := by decide +kernel
set_option maxRecDepth 100000 in
theorem oX6_inLeastTerms_6 : pz_ok 145 6 kX6_inLeastTerms_6 = true := by decide +kernel
set_option maxRecDepth 100000 in
theorem oX6_inLeastTerms_31 : pz_ok 145 31 kX6_inLeastTerms_31 = true := by decide +kernel
set_option maxRecDepth 100000 in
theorem oX6_inLeastTerms_43 : pz_ok 145 43 kX6_inLeastTerms_43 = true := by decide +kernel
set_option maxRecDepth 100000 in
theorem oX6_inLeastTerms_47 : pz_ok 145 47 kX6_inLeastTerms_47 = true := by decide +kernel
theorem oX6_inLeastTerms : pX6_inLeastTerms.all (fun q => pz_ok 145 q.1 q.2) = true := pz_all2 oX6_inLeastTerms_0 (pz_all2 oX6_inLeastTerms_6 (pz_all2 oX6_inLeastTerms_31 (pz_all2 oX6_inLeastTerms_43 (pz_all2 oX6_inLeastTerms_47 (rfl)))))
set_option maxRecDepth 100000 in
theorem oX6_odds_0 : pz_ok 146 0 kX6_odds_0 = true := by decide +kernel
set_option maxRecDepth 100000 in
theorem oX6_odds_29 : pz_ok 146 29 kX6_odds_29 = true := by decide +kernel
set_option maxRecDepth 100000 in
theorem oX6_odds_33 : pz_ok 146 33 kX6_odds_33 = true := by decide +kernel
set_option maxRecDepth 100000 in
theorem oX6_odds_55 : pz_ok 146 55 kX6_odds_55 = true := by decide +kernel
set_option maxRecDepth 100000 in
theorem oX6_odds_113 : pz_ok 146 113 kX6_odds_113 = true := by decide +kernel
set_option maxRecDepth 100000 in
theorem oX6_odds_114 : pz_ok 146 114 kX6_odds_114 = true := by decide +kernel
set_option maxRecDepth 100000 in
theorem oX6_odds_123 : pz_ok 146 123 kX6_odds_123 = true := by decide +kernel
theorem oX6_odds : pX6_odds.all (fun q => pz_ok 146 q.1 q.2) = true := pz_all2 oX6_odds_0 (pz_all2 oX6_odds_29 (pz_all2 oX6_odds_33 (pz_all2 oX6_odds_55 (pz_all2 oX6_odds_113 (pz_all2 oX6_odds_114 (pz_all2 oX6_odds_123 (rfl)))))))
set_option maxRecDepth 100000 in
theorem oX6_sheet_0 : pz_ok 147 0 kX6_sheet_0 = true := by decide +kernel
set_option maxRecDepth 100000 in
theorem oX6_sheet_14 : pz_ok 147 14 kX6_sheet_14 = true := by decide +kernel
set_option maxRecDepth 100000 in
theorem oX6_sheet_27 : pz_ok 147 27 kX6_sheet_27 = true := by decide +kernel
set_option maxRecDepth 100000 in
theorem oX6_sheet_30 : pz_ok 147 30 kX6_sheet_30 = true := by decide +kernel
set_option maxRecDepth 100000 in
theorem oX6_sheet_40 : pz_ok 147 40 kX6_sheet_40 = true := by decide +kernel
set_option maxRecDepth 100000 in
theorem oX6_sheet_57 : pz_ok 147 57 kX6_sheet_57 = true := by decide +kernel
set_option maxRecDepth 100000 in
theorem oX6_sheet_83 : pz_ok 147 83 kX6_sheet_83 = true := by decide +kernel
theorem oX6_sheet : pX6_sheet.all (fun q => pz_ok 147 q.1 q.2) = true := pz_all2 oX6_sheet_0 (pz_all2 oX6_sheet_14 (pz_all2 oX6_sheet_27 (pz_all2 oX6_sheet_30 (pz_all2 oX6_sheet_40 (pz_all2 oX6_sheet_57 (pz_all2 oX6_sheet_83 (rfl)))))))
set_option maxRecDepth 100000 in
theorem oX6_lose_0 : pz_ok 148 0 kX6_lose_0 = true := by decide +kernel
set_option maxRecDepth 100000 in
theorem oX6_lose_9 : pz_ok 148 9 kX6_lose_9 = true := by decide +kernel
set_option maxRecDepth 100000 in
theorem oX6_lose_24 : pz_ok 148 24 kX6_lose_24 = true := by decide +kernel
set_option maxRecDepth 100000 in
theorem oX6_lose_25 : pz_ok 148 25 kX6_lose_25 = true := by decide +kernel
theorem oX6_lose : pX6_lose.all (fun q => pz_ok 148 q.1 q.2) = true := pz_all2 oX6_lose_0 (pz_all2 oX6_lose_9 (pz_all2 oX6_lose_24 (pz_all2 oX6_lose_25 (rfl))))
set_option maxRecDepth 100000 in
theorem oX6_put_0 : pz_ok 149 0 kX6_put_0 = true := by decide +kernel
set_option maxRecDepth 100000 in
theorem oX6_put_14 : pz_ok 149 14 kX6_put_14 = true := by decide +kernel
set_option maxRecDepth 100000 in
theorem oX6_put_31 : pz_ok 149 31 kX6_put_31 = true := by decide +kernel
set_option maxRecDepth 100000 in
theorem oX6_put_53 : pz_ok 149 53 kX6_put_53 = true := by decide +kernel
set_option maxRecDepth 100000 in
theorem oX6_put_77 : pz_ok 149 77 kX6_put_77 = true := by decide +kernel
set_option maxRecDepth 100000 in
theorem oX6_put_92 : pz_ok 149 92 kX6_put_92 = true := by decide +kernel
set_option maxRecDepth 100000 in
theorem oX6_put_93 : pz_ok 149 93 kX6_put_93 = true := by decide +kernel
theorem oX6_put : pX6_put.all (fun q => pz_ok 149 q.1 q.2) = true := pz_all2 oX6_put_0 (pz_all2 oX6_put_14 (pz_all2 oX6_put_31 (pz_all2 oX6_put_53 (pz_all2 oX6_put_77 (pz_all2 oX6_put_92 (pz_all2 oX6_put_93 (rfl)))))))
set_option maxRecDepth 100000 in
theorem oX6_cell_0 : pz_ok 150 0 kX6_cell_0 = true := by decide +kernel
set_option maxRecDepth 100000 in
theorem oX6_cell_19 : pz_ok 150 19 kX6_cell_19 = true := by decide +kernel
set_option maxRecDepth 100000 in
theorem oX6_cell_23 : pz_ok 150 23 kX6_cell_23 = true := by decide +kernel
set_option maxRecDepth 100000 in
theorem oX6_cell_50 : pz_ok 150 50 kX6_cell_50 = true := by decide +kernel
set_option maxRecDepth 100000 in
theorem oX6_cell_67 : pz_ok 150 67 kX6_cell_67 = true := by decide +kernel
set_option maxRecDepth 100000 in
theorem oX6_cell_89 : pz_ok 150 89 kX6_cell_89 = true := by decide +kernel
theorem oX6_cell : pX6_cell.all (fun q => pz_ok 150 q.1 q.2) = true := pz_all2 oX6_cell_0 (pz_all2 oX6_cell_19 (pz_all2 oX6_cell_23 (pz_all2 oX6_cell_50 (pz_all2 oX6_cell_67 (pz_all2 oX6_cell_89 (rfl))))))
set_option maxRecDepth 100000 in
theorem oX6_copy_0 : pz_ok 151 0 kX6_copy_0 = true := by decide +kernel
set_option maxRecDepth 100000 in
theorem oX6_copy_19 : pz_ok 151 19 kX6_copy_19 = true := by decide +kernel
set_option maxRecDepth 100000 in
theorem oX6_copy_21 : pz_ok 151 21 kX6_copy_21 = true := by decide +kernel
set_option maxRecDepth 100000 in
theorem oX6_copy_43 : pz_ok 151 43 kX6_copy_43 = true := by decide +kernel
set_option maxRecDepth 100000 in
theorem oX6_copy_49 : pz_ok 151 49 kX6_copy_49 = true := by decide +kernel
set_option maxRecDepth 100000 in
theorem oX6_copy_70 : pz_ok 151 70 kX6_copy_70 = true := by decide +kernel
set_option maxRecDepth 100000 in
theorem oX6_copy_109 : pz_ok 151 109 kX6_copy_109 = true := by decide +kernel
set_option maxRecDepth 100000 in
theorem oX6_copy_110 : pz_ok 151 110 kX6_copy_110 = true := by decide +kernel
set_option maxRecDepth 100000 in
theorem oX6_copy_144 : pz_ok 151 144 kX6_copy_144 = true := by decide +kernel
set_option maxRecDepth 100000 in
theorem oX6_copy_150 : pz_ok 151 150 kX6_copy_150 = true := by decide +kernel
set_option maxRecDepth 100000 in
theorem oX6_copy_160 : pz_ok 151 160 kX6_copy_160 = true := by decide +kernel
set_option maxRecDepth 100000 in
theorem oX6_copy_161 : pz_ok 151 161 kX6_copy_161 = true := by decide +kernel
set_option maxRecDepth 100000 in
theorem oX6_copy_166 : pz_ok 151 166 kX6_copy_166 = true := by decide +kernel
set_option maxRecDepth 100000 in
theorem oX6_copy_188 : pz_ok 151 188 kX6_copy_188 = true := by decide +kernel
set_option maxRecDepth 100000 in
theorem oX6_copy_190 : pz_ok 151 190 kX6_copy_190 = true := by decide +kernel
