set_option maxRecDepth 100000 in
theorem oX5_leads_160 : pz_ok 57 160 kX5_leads_160 = true := by decide +kernel
set_option maxRecDepth 100000 in
theorem oX5_leads_173 : pz_ok 57 173 kX5_leads_173 = true := by decide +kernel
set_option maxRecDepth 100000 in
theorem oX5_leads_174 : pz_ok 57 174 kX5_leads_174 = true := by decide +kernel
theorem oX5_leads : pX5_leads.all (fun q => pz_ok 57 q.1 q.2) = true := pz_all2 oX5_leads_0 (pz_all2 oX5_leads_13 (pz_all2 oX5_leads_56 (pz_all2 oX5_leads_59 (pz_all2 oX5_leads_73 (pz_all2 oX5_leads_94 (pz_all2 oX5_leads_135 (pz_all2 oX5_leads_141 (pz_all2 oX5_leads_151 (pz_all2 oX5_leads_160 (pz_all2 oX5_leads_173 (pz_all2 oX5_leads_174 (rfl))))))))))))
set_option maxRecDepth 100000 in
theorem oX5_reading_0 : pz_ok 58 0 kX5_reading_0 = true := by decide +kernel
set_option maxRecDepth 100000 in
theorem oX5_reading_14 : pz_ok 58 14 kX5_reading_14 = true := by decide +kernel
set_option maxRecDepth 100000 in
theorem oX5_reading_33 : pz_ok 58 33 kX5_reading_33 = true := by decide +kernel
set_option maxRecDepth 100000 in
theorem oX5_reading_36 : pz_ok 58 36 kX5_reading_36 = true := by decide +kernel
set_option maxRecDepth 100000 in
theorem oX5_reading_51 : pz_ok 58 51 kX5_reading_51 = true := by decide +kernel
theorem oX5_reading : pX5_reading.all (fun q => pz_ok 58 q.1 q.2) = true := pz_all2 oX5_reading_0 (pz_all2 oX5_reading_14 (pz_all2 oX5_reading_33 (pz_all2 oX5_reading_36 (pz_all2 oX5_reading_51 (rfl)))))
set_option maxRecDepth 100000 in
theorem oX5_back_0 : pz_ok 59 0 kX5_back_0 = true := by decide +kernel
set_option maxRecDepth 100000 in
theorem oX5_back_15 : pz_ok 59 15 kX5_back_15 = true := by decide +kernel
set_option maxRecDepth 100000 in
theorem oX5_back_18 : pz_ok 59 18 kX5_back_18 = true := by decide +kernel
theorem oX5_back : pX5_back.all (fun q => pz_ok 59 q.1 q.2) = true := pz_all2 oX5_back_0 (pz_all2 oX5_back_15 (pz_all2 oX5_back_18 (rfl)))
set_option maxRecDepth 100000 in
theorem oX5_steps_0 : pz_ok 60 0 kX5_steps_0 = true := by decide +kernel
set_option maxRecDepth 100000 in
theorem oX5_steps_13 : pz_ok 60 13 kX5_steps_13 = true := by decide +kernel
theorem oX5_steps : pX5_steps.all (fun q => pz_ok 60 q.1 q.2) = true := pz_all2 oX5_steps_0 (pz_all2 oX5_steps_13 (rfl))
set_option maxRecDepth 100000 in
theorem oX5_wills_0 : pz_ok 61 0 kX5_wills_0 = true := by decide +kernel
set_option maxRecDepth 100000 in
theorem oX5_wills_13 : pz_ok 61 13 kX5_wills_13 = true := by decide +kernel
theorem oX5_wills : pX5_wills.all (fun q => pz_ok 61 q.1 q.2) = true := pz_all2 oX5_wills_0 (pz_all2 oX5_wills_13 (rfl))
set_option maxRecDepth 100000 in
theorem oX5_kinds_0 : pz_ok 62 0 kX5_kinds_0 = true := by decide +kernel
set_option maxRecDepth 100000 in
theorem oX5_kinds_13 : pz_ok 62 13 kX5_kinds_13 = true := by decide +kernel
theorem oX5_kinds : pX5_kinds.all (fun q => pz_ok 62 q.1 q.2) = true := pz_all2 oX5_kinds_0 (pz_all2 oX5_kinds_13 (rfl))
set_option maxRecDepth 100000 in
theorem oX5_odds_0 : pz_ok 63 0 kX5_odds_0 = true := by decide +kernel
set_option maxRecDepth 100000 in
theorem oX5_odds_33 : pz_ok 63 33 kX5_odds_33 = true := by decide +kernel
set_option maxRecDepth 100000 in
theorem oX5_odds_37 : pz_ok 63 37 kX5_odds_37 = true := by decide +kernel
set_option maxRecDepth 100000 in
theorem oX5_odds_50 : pz_ok 63 50 kX5_odds_50 = true := by decide +kernel
set_option maxRecDepth 100000 in
theorem oX5_odds_78 : pz_ok 63 78 kX5_odds_78 = true := by decide +kernel
set_option maxRecDepth 100000 in
theorem oX5_odds_89 : pz_ok 63 89 kX5_odds_89 = true := by decide +kernel
set_option maxRecDepth 100000 in
theorem oX5_odds_92 : pz_ok 63 92 kX5_odds_92 = true := by decide +kernel
theorem oX5_odds : pX5_odds.all (fun q => pz_ok 63 q.1 q.2) = true := pz_all2 oX5_odds_0 (pz_all2 oX5_odds_33 (pz_all2 oX5_odds_37 (pz_all2 oX5_odds_50 (pz_all2 oX5_odds_78 (pz_all2 oX5_odds_89 (pz_all2 oX5_odds_92 (rfl)))))))
set_option maxRecDepth 100000 in
theorem oX5_sheet_0 : pz_ok 64 0 kX5_sheet_0 = true := by decide +kernel
set_option maxRecDepth 100000 in
theorem oX5_sheet_14 : pz_ok 64 14 kX5_sheet_14 = true := by decide +kernel
set_option maxRecDepth 100000 in
theorem oX5_sheet_27 : pz_ok 64 27 kX5_sheet_27 = true := by decide +kernel
set_option maxRecDepth 100000 in
theorem oX5_sheet_30 : pz_ok 64 30 kX5_sheet_30 = true := by decide +kernel
set_option maxRecDepth 100000 in
theorem oX5_sheet_40 : pz_ok 64 40 kX5_sheet_40 = true := by decide +kernel
theorem oX5_sheet : pX5_sheet.all (fun q => pz_ok 64 q.1 q.2) = true := pz_all2 oX5_sheet_0 (pz_all2 oX5_sheet_14 (pz_all2 oX5_sheet_27 (pz_all2 oX5_sheet_30 (pz_all2 oX5_sheet_40 (rfl)))))
set_option maxRecDepth 100000 in
theorem oX5_lose_0 : pz_ok 65 0 kX5_lose_0 = true := by decide +kernel
set_option maxRecDepth 100000 in
theorem oX5_lose_9 : pz_ok 65 9 kX5_lose_9 = true := by decide +kernel
set_option maxRecDepth 100000 in
theorem oX5_lose_37 : pz_ok 65 37 kX5_lose_37 = true := by decide +kernel
set_option maxRecDepth 100000 in
theorem oX5_lose_38 : pz_ok 65 38 kX5_lose_38 = true := by decide +kernel
theorem oX5_lose : pX5_lose.all (fun q => pz_ok 65 q.1 q.2) = true := pz_all2 oX5_lose_0 (pz_all2 oX5_lose_9 (pz_all2 oX5_lose_37 (pz_all2 oX5_lose_38 (rfl))))
set_option maxRecDepth 100000 in
theorem oX5_put_0 : pz_ok 66 0 kX5_put_0 = true := by decide +kernel
set_option maxRecDepth 100000 in
theorem oX5_put_14 : pz_ok 66 14 kX5_put_14 = true := by decide +kernel
set_option maxRecDepth 100000 in
theorem oX5_put_36 : pz_ok 66 36 kX5_put_36 = true := by decide +kernel
set_option maxRecDepth 100000 in
theorem oX5_put_52 : pz_ok 66 52 kX5_put_52 = true := by decide +kernel
theorem oX5_put : pX5_put.all (fun q => pz_ok 66 q.1 q.2) = true := pz_all2 oX5_put_0 (pz_all2 oX5_put_14 (pz_all2 oX5_put_36 (pz_all2 oX5_put_52 (rfl))))
set_option maxRecDepth 100000 in
theorem oX5_cell_0 : pz_ok 67 0 kX5_cell_0 = true := by decide +kernel
set_option maxRecDepth 100000 in
theorem oX5_cell_19 : pz_ok 67 19 kX5_cell_19 = true := by decide +kernel
set_option maxRecDepth 100000 in
theorem oX5_cell_23 : pz_ok 67 23 kX5_cell_23 = true := by decide +kernel
set_option maxRecDepth 100000 in
theorem oX5_cell_57 : pz_ok 67 57 kX5_cell_57 = true := by decide +kernel
set_option maxRecDepth 100000 in
theorem oX5_cell_72 : pz_ok 67 72 kX5_cell_72 = true := by decide +kernel
theorem oX5_cell : pX5_cell.all (fun q => pz_ok 67 q.1 q.2) = true := pz_all2 oX5_cell_0 (pz_all2 oX5_cell_19 (pz_all2 oX5_cell_23 (pz_all2 oX5_cell_57 (pz_all2 oX5_cell_72 (rfl)))))
set_option maxRecDepth 100000 in
theorem oX5_copy_0 : pz_ok 68 0 kX5_copy_0 = true := by decide +kernel
set_option maxRecDepth 100000 in
theorem oX5_copy_19 : pz_ok 68 19 kX5_copy_19 = true := by decide +kernel
set_option maxRecDepth 100000 in
theorem oX5_copy_21 : pz_ok 68 21 kX5_copy_21 = true := by decide +kernel
set_option maxRecDepth 100000 in
theorem oX5_copy_53 : pz_ok 68 53 kX5_copy_53 = true := by decide +kernel
set_option maxRecDepth 100000 in
theorem oX5_copy_59 : pz_ok 68 59 kX5_copy_59 = true := by decide +kernel
set_option maxRecDepth 100000 in
theorem oX5_copy_78 : pz_ok 68 78 kX5_copy_78 = true := by decide +kernel
set_option maxRecDepth 100000 in
theorem oX5_copy_101 : pz_ok 68 101 kX5_copy_101 = true := by decide +kernel
set_option maxRecDepth 100000 in
theorem oX5_copy_107 : pz_ok 68 107 kX5_copy_107 = true := by decide +kernel
theorem oX5_copy : pX5_copy.all (fun q => pz_ok 68 q.1 q.2) = true := pz_all2 oX5_copy_0 (pz_all2 oX5_copy_19 (pz_all2 oX5_copy_21 (pz_all2 oX5_copy_53 (pz_all2 oX5_copy_59 (pz_all2 oX5_copy_78 (pz_all2 oX5_copy_101 (pz_all2 oX5_copy_107 (rfl))))))))
set_option maxRecDepth 100000 in
theorem oX5_tell_0 : pz_ok 69 0 kX5_tell_0 = true := by decide +kernel
set_option maxRecDepth 100000 in
theorem oX5_tell_13 : pz_ok 69 13 kX5_tell_13 = true := by decide +kernel
set_option maxRecDepth 100000 in
theorem oX5_tell_48 : pz_ok 69 48 kX5_tell_48 = true := by decide +kernel
set_option maxRecDepth 100000 in
theorem oX5_tell_54 : pz_ok 69 54 kX5_tell_54 = true := by decide +kernel
set_option maxRecDepth 100000 in
theorem oX5_tell_60 : pz_ok 69 60 kX5_tell_60 = true := by decide +kernel
theorem oX5_tell : pX5_tell.all (fun q => pz_ok 69 q.1 q.2) = true := pz_all2 oX5_tell_0 (pz_all2 oX5_tell_13 (pz_all2 oX5_tell_48 (pz_all2 oX5_tell_54 (pz_all2 oX5_tell_60 (rfl)))))
set_option maxRecDepth 100000 in
theorem oX5_pat_0 : pz_ok 70 0 kX5_pat_0 = true := by decide +kernel
set_option maxRecDepth 100000 in
theorem oX5_pat_13 : pz_ok 70 13 kX5_pat_13 = true := by decide +kernel
set_option maxRecDepth 100000 in
theorem oX5_pat_34 : pz_ok 70 34 kX5_pat_34 = true := by decide +kernel
theorem oX5_pat : pX5_pat.all (fun q => pz_ok 70 q.1 q.2) = true := pz_all2 oX5_pat_0 (pz_all2 oX5_pat_13 (pz_all2 oX5_pat_34 (rfl)))
set_option maxRecDepth 100000 in
theorem oX5_as_0 : pz_ok 71 0 kX5_as_0 = true := by decide +kernel
set_option maxRecDepth 100000 in
theorem oX5_as_18 : pz_ok 71 18 kX5_as_18 = true := by decide +kernel
set_option maxRecDepth 100000 in
theorem oX5_as_27 : pz_ok 71 27 kX5_as_27 = true := by decide +kernel
set_option maxRecDepth 100000 in
theorem oX5_as_30 : pz_ok 71 30 kX5_as_30 = true := by decide +kernel
set_option maxRecDepth 100000 in
theorem oX5_as_49 : pz_ok 71 49 kX5_as_49 = true := by decide +kernel
theorem oX5_as : pX5_as.all (fun q => pz_ok 71 q.1 q.2) = true := pz_all2 oX5_as_0 (pz_all2 oX5_as_18 (pz_all2 oX5_as_27 (pz_all2 oX5_as_30 (pz_all2 oX5_as_49 (rfl)))))
set_option maxRecDepth 100000 in
theorem oX5_trace_0 : pz_ok 72 0 kX5_trace_0 = true := by decide +kernel
theorem oX5_trace : pX5_trace.all (fun q => pz_ok 72 q.1 q.2) = true := pz_all2 oX5_trace_0 (rfl)
set_option maxRecDepth 100000 in
theorem oX5_fault_0 : pz_ok 73 0 kX5_fault_0 = true := by decide +kernel
theorem oX5_fault : pX5_fault.all (fun q => pz_ok 73 q.1 q.2) = true := pz_all2 oX5_fault_0 (rfl)
set_option maxRecDepth 100000 in
theorem oX5_many_0 : pz_ok 74 0 kX5_many_0 = true := by decide +kernel
set_option maxRecDepth 100000 in
theorem oX5_many_36 : pz_ok 74 36 kX5_many_36 = true := by decide +kernel
set_option maxRecDepth 100000 in
theorem oX5_many_44 : pz_ok 74 44 kX5_many_44 = true := by decide +kernel
set_option maxRecDepth 100000 in
theorem oX5_many_52 : pz_ok 74 52 kX5_many_52 = true := by decide +kernel
set_option maxRecDepth 100000 in
theorem oX5_many_60 : pz_ok 74 60 kX5_many_60 = true := by decide +kernel
set_option maxRecDepth 100000 in
theorem oX5_many_68 : pz_ok 74 68 kX5_many_68 = true := by decide +kernel
set_option maxRecDepth 100000 in
theorem oX5_many_76 : pz_ok 74 76 kX5_many_76 = true := by decide +kernel
theorem oX5_many : pX5_many.all (fun q => pz_ok 74 q.1 q.2) = true := pz_all2 oX5_many_0 (pz_all2 oX5_many_36 (pz_all2 oX5_many_44 (pz_all2 oX5_many_52 (pz_all2 oX5_many_60 (pz_all2 oX5_many_68 (pz_all2 oX5_many_76 (rfl)))))))
set_option maxRecDepth 100000 in
theorem oX5_faulted_0 : pz_ok 75 0 kX5_faulted_0 = true := by decide +kernel
theorem oX5_faulted : pX5_faulted.all (fun q => pz_ok 75 q.1 q.2) = true := pz_all2 oX5_faulted_0 (rfl)
set_option maxRecDepth 100000 in
theorem oX5_isSheet_0 : pz_ok 76 0 kX5_isSheet_0 = true := by decide +kernel
set_option maxRecDepth 100000 in
theorem oX5_isSheet_13 : pz_ok 76 13 kX5_isSheet_13 = true := by decide +kernel
set_option maxRecDepth 100000 in
theorem oX5_isSheet_14 : pz_ok 76 14 kX5_isSheet_14 = true := by decide +kernel
theorem oX5_isSheet : pX5_isSheet.all (fun q => pz_ok 76 q.1 q.2) = true := pz_all2 oX5_isSheet_0 (pz_all2 oX5_isSheet_13 (pz_all2 oX5_isSheet_14 (rfl)))
set_option maxRecDepth 100000 in
theorem oX5_isLane_0 : pz_ok 77 0 kX5_isLane_0 = true := by decide +kernel
set_option maxRecDepth 100000 in
theorem oX5_isLane_13 : pz_ok 77 13 kX5_isLane_13 = true := by decide +kernel
set_option maxRecDepth 100000 in
theorem oX5_isLane_14 : pz_ok 77 14 kX5_isLane_14 = true := by decide +kernel
theorem oX5_isLane : pX5_isLane.all (fun q => pz_ok 77 q.1 q.2) = true := pz_all2 oX5_isLane_0 (pz_all2 oX5_isLane_13 (pz_all2 oX5_isLane_14 (rfl)))
set_option maxRecDepth 100000 in
theorem oX5_isWithin_0 : pz_ok 78 0 kX5_isWithin_0 = true := by decide +kernel
set_option maxRecDepth 100000 in
theorem oX5_isWithin_15 : pz_ok 78 15 kX5_isWithin_15 = true := by decide +kernel
set_option maxRecDepth 100000 in
theorem oX5_isWithin_16 : pz_ok 78 16 kX5_isWithin_16 = true := by decide +kernel
theorem oX5_isWithin : pX5_isWithin.all (fun q => pz_ok 78 q.1 q.2) = true := pz_all2 oX5_isWithin_0 (pz_all2 oX5_isWithin_15 (pz_all2 oX5_isWithin_16 (rfl)))
set_option maxRecDepth 100000 in
theorem oX5_isDayQuestion_0 : pz_ok 79 0 kX5_isDayQuestion_0 = true := by decide +kernel
set_option maxRecDepth 100000 in
theorem oX5_isDayQuestion_9 : pz_ok 79 9 kX5_isDayQuestion_9 = true := by decide +kernel
set_option maxRecDepth 100000 in
theorem oX5_isDayQuestion_21 : pz_ok 79 21 kX5_isDayQuestion_21 = true := by decide +kernel
set_option maxRecDepth 100000 in
theorem oX5_isDayQuestion_25 : pz_ok 79 25 kX5_isDayQuestion_25 = true := by decide +kernel
set_option maxRecDepth 100000 in
theorem oX5_isDayQuestion_26 : pz_ok 79 26 kX5_isDayQuestion_26 = true := by decide +kernel
theorem oX5_isDayQuestion : pX5_isDayQuestion.all (fun q => pz_ok 79 q.1 q.2) = true := pz_all2 oX5_isDayQuestion_0 (pz_all2 oX5_isDayQuestion_9 (pz_all2 oX5_isDayQuestion_21 (pz_all2 oX5_isDayQuestion_25 (pz_all2 oX5_isDayQuestion_26 (rfl)))))
set_option maxRecDepth 100000 in
theorem oX5_firstFault_0 : pz_ok 80 0 kX5_firstFault_0 = true := by decide +kernel
set_option maxRecDepth 100000 in
theorem oX5_firstFault_2 : pz_ok 80 2 kX5_firstFault_2 = true := by decide +kernel
set_option maxRecDepth 100000 in
theorem oX5_firstFault_24 : pz_ok 80 24 kX5_firstFault_24 = true := by decide +kernel
set_option maxRecDepth 100000 in
theorem oX5_firstFault_30 : pz_ok 80 30 kX5_firstFault_30 = true := by decide +kernel
set_option maxRecDepth 100000 in
theorem oX5_firstFault_48 : pz_ok 80 48 kX5_firstFault_48 = true := by decide +kernel
set_option maxRecDepth 100000 in
theorem oX5_firstFault_49 : pz_ok 80 49 kX5_firstFault_49 = true := by decide +kernel
set_option maxRecDepth 100000 in
theorem oX5_firstFault_59 : pz_ok 80 59 kX5_firstFault_59 = true := by decide +kernel
set_option maxRecDepth 100000 in
theorem oX5_firstFault_60 : pz_ok 80 60 kX5_firstFault_60 = true := by decide +kernel
theorem oX5_firstFault : pX5_firstFault.all (fun q => pz_ok 80 q.1 q.2) = true := pz_all2 oX5_firstFault_0 (pz_all2 oX5_firstFault_2 (pz_all2 oX5_firstFault_24 (pz_all2 oX5_firstFault_30 (pz_all2 oX5_firstFault_48 (pz_all2 oX5_firstFault_49 (pz_all2 oX5_firstFault_59 (pz_all2 oX5_firstFault_60 (rfl))))))))
set_option maxRecDepth 100000 in
theorem oX5_goesOn_0 : pz_ok 81 0 kX5_goesOn_0 = true := by decide +kernel
set_option maxRecDepth 100000 in
theorem oX5_goesOn_14 : pz_ok 81 14 kX5_goesOn_14 = true := by decide +kernel
set_option maxRecDepth 100000 in
theorem oX5_goesOn_15 : pz_ok 81 15 kX5_goesOn_15 = true := by decide +kernel
set_option maxRecDepth 100000 in
theorem oX5_goesOn_16 : pz_ok 81 16 kX5_goesOn_16 = true := by decide +kernel
set_option maxRecDepth 100000 in
theorem oX5_goesOn_37 : pz_ok 81 37 kX5_goesOn_37 = true := by decide +kernel
set_option maxRecDepth 100000 in
theorem oX5_goesOn_38 : pz_ok 81 38 kX5_goesOn_38 = true := by decide +kernel
set_option maxRecDepth 100000 in
theorem oX5_goesOn_39 : pz_ok 81 39 kX5_goesOn_39 = true := by decide +kernel
set_option maxRecDepth 100000 in
theorem oX5_goesOn_47 : pz_ok 81 47 kX5_goesOn_47 = true := by decide +kernel
set_option maxRecDepth 100000 in
theorem oX5_goesOn_80 : pz_ok 81 80 kX5_goesOn_80 = true := by decide +kernel
set_option maxRecDepth 100000 in
theorem oX5_goesOn_90 : pz_ok 81 90 kX5_goesOn_90 = true := by decide +kernel
set_option maxRecDepth 100000 in
theorem oX5_goesOn_91 : pz_ok 81 91 kX5_goesOn_91 = true := by decide +kernel
set_option maxRecDepth 100000 in
theorem oX5_goesOn_92 : pz_ok 81 92 kX5_goesOn_92 = true := by decide +kernel
set_option maxRecDepth 100000 in
theorem oX5_goesOn_110 : pz_ok 81 110 kX5_goesOn_110 = true := by decide +kernel
set_option maxRecDepth 100000 in
theorem oX5_goesOn_114 : pz_ok 81 114 kX5_goesOn_114 = true := by decide +kernel
set_option maxRecDepth 100000 in
theorem oX5_goesOn_115 : pz_ok 81 115 kX5_goesOn_115 = true := by decide +kernel
set_option maxRecDepth 100000 in
theorem oX5_goesOn_116 : pz_ok 81 116 kX5_goesOn_116 = true := by decide +kernel
set_option maxRecDepth 100000 in
theorem oX5_goesOn_132 : pz_ok 81 132 kX5_goesOn_132 = true := by decide +kernel
set_option maxRecDepth 100000 in
theorem oX5_goesOn_133 : pz_ok 81 133 kX5_goesOn_133 = true := by decide +kernel
set_option maxRecDepth 100000 in
theorem oX5_goesOn_134 : pz_ok 81 134 kX5_goesOn_134 = true := by decide +kernel
set_option maxRecDepth 100000 in
theorem oX5_goesOn_150 : pz_ok 81 150 kX5_goesOn_150 = true := by decide +kernel
set_option maxRecDepth 100000 in
theorem oX5_goesOn_151 : pz_ok 81 151 kX5_goesOn_151 = true := by decide +kernel
theorem oX5_goesOn : pX5_goesOn.all (fun q => pz_ok 81 q.1 q.2) = true := pz_all2 oX5_goesOn_0 (pz_all2 oX5_goesOn_14 (pz_all2 oX5_goesOn_15 (pz_all2 oX5_goesOn_16 (pz_all2 oX5_goesOn_37 (pz_all2 oX5_goesOn_38 (pz_all2 oX5_goesOn_39 (pz_all2 oX5_goesOn_47 (pz_all2 oX5_goesOn_80 (pz_all2 oX5_goesOn_90 (pz_all2 oX5_goesOn_91 (pz_all2 oX5_goesOn_92 (pz_all2 oX5_goesOn_110 (pz_all2 oX5_goesOn_114 (pz_all2 oX5_goesOn_115 (pz_all2 oX5_goesOn_116 (pz_all2 oX5_goesOn_132 (pz_all2 oX5_goesOn_133 (pz_all2 oX5_goesOn_134 (pz_all2 oX5_goesOn_150 (pz_all2 oX5_goesOn_151 (rfl)))))))))))))))))))))
set_option maxRecDepth 100000 in
theorem oX5_refusalOfActs_0 : pz_ok 82 0 kX5_refusalOfActs_0 = true := by decide +kernel
set_option maxRecDepth 100000 in
theorem oX5_refusalOfActs_3 : pz_ok 82 3 kX5_refusalOfActs_3 = true := by decide +kernel
set_option maxRecDepth 100000 in
theorem oX5_refusalOfActs_64 : pz_ok 82 64 kX5_refusalOfActs_64 = true := by decide +kernel
set_option maxRecDepth 100000 in
theorem oX5_refusalOfActs_67 : pz_ok 82 67 kX5_refusalOfActs_67 = true := by decide +kernel
set_option maxRecDepth 100000 in
theorem oX5_refusalOfActs_88 : pz_ok 82 88 kX5_refusalOfActs_88 = true := by decide +kernel
set_option maxRecDepth 100000 in
theorem oX5_refusalOfActs_94 : pz_ok 82 94 kX5_refusalOfActs_94 = true := by decide +kernel
theorem oX5_refusalOfActs : pX5_refusalOfActs.all (fun q => pz_ok 82 q.1 q.2) = true := pz_all2 oX5_refusalOfActs_0 (pz_all2 oX5_refusalOfActs_3 (pz_all2 oX5_refusalOfActs_64 (pz_all2 oX5_refusalOfActs_67 (pz_all2 oX5_refusalOfActs_88 (pz_all2 oX5_refusalOfActs_94 (rfl))))))
set_option maxRecDepth 100000 in
theorem oX5_isActKind_0 : pz_ok 83 0 kX5_isActKind_0 = true := by decide +kernel
set_option maxRecDepth 100000 in
theorem oX5_isActKind_10 : pz_ok 83 10 kX5_isActKind_10 = true := by decide +kernel
set_option maxRecDepth 100000 in
theorem oX5_isActKind_34 : pz_ok 83 34 kX5_isActKind_34 = true := by decide +kernel
set_option maxRecDepth 100000 in
theorem oX5_isActKind_38 : pz_ok 83 38 kX5_isActKind_38 = true := by decide +kernel
set_option maxRecDepth 100000 in
theorem oX5_isActKind_39 : pz_ok 83 39 kX5_isActKind_39 = true := by decide +kernel
theorem oX5_isActKind : pX5_isActKind.all (fun q => pz_ok 83 q.1 q.2) = true := pz_all2 oX5_isActKind_0 (pz_all2 oX5_isActKind_10 (pz_all2 oX5_isActKind_34 (pz_all2 oX5_isActKind_38 (pz_all2 oX5_isActKind_39 (rfl)))))
set_option maxRecDepth 100000 in
theorem oX5_waysAsLong_0 : pz_ok 84 0 kX5_waysAsLong_0 = true := by decide +kernel
set_option maxRecDepth 100000 in
theorem oX5_waysAsLong_17 : pz_ok 84 17 kX5_waysAsLong_17 = true := by decide +kernel
set_option maxRecDepth 100000 in
theorem oX5_waysAsLong_82 : pz_ok 84 82 kX5_waysAsLong_82 = true := by decide +kernel
set_option maxRecDepth 100000 in
theorem oX5_waysAsLong_88 : pz_ok 84 88 kX5_waysAsLong_88 = true := by decide +kernel
theorem oX5_waysAsLong : pX5_waysAsLong.all (fun q => pz_ok 84 q.1 q.2) = true := pz_all2 oX5_waysAsLong_0 (pz_all2 oX5_waysAsLong_17 (pz_all2 oX5_waysAsLong_82 (pz_all2 oX5_waysAsLong_88 (rfl))))
set_option maxRecDepth 100000 in
theorem oX5_leave_0 : pz_ok 85 0 kX5_leave_0 = true := by decide +kernel
theorem oX5_leave : pX5_leave.all (fun q => pz_ok 85 q.1 q.2) = true := pz_all2 oX5_leave_0 (rfl)
set_option maxRecDepth 100000 in
theorem oX5_foreTells_0 : pz_ok 86 0 kX5_foreTells_0 = true := by decide +kernel
theorem oX5_foreTells : pX5_foreTells.all (fun q => pz_ok 86 q.1 q.2) = true := pz_all2 oX5_foreTells_0 (rfl)
set_option maxRecDepth 100000 in
theorem oX5_hindTells_0 : pz_ok 87 0 kX5_hindTells_0 = true := by decide +kernel
theorem oX5_hindTells : pX5_hindTells.all (fun q => pz_ok 87 q.1 q.2) = true := pz_all2 oX5_hindTells_0 (rfl)
set_option maxRecDepth 100000 in
theorem oX5_oldTells_0 : pz_ok 88 0 kX5_oldTells_0 = true := by decide +kernel
theorem oX5_oldTells : pX5_oldTells.all (fun q => pz_ok 88 q.1 q.2) = true := pz_all2 oX5_oldTells_0 (rfl)
set_option maxRecDepth 100000 in
theorem oX6_init_0 : pz_ok 89 0 kX6_init_0 = true := by decide +kernel
