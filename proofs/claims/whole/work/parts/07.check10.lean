set_option maxRecDepth 100000 in
theorem oX6_copy_227 : pz_ok 151 227 kX6_copy_227 = true := by decide +kernel
theorem oX6_copy : pX6_copy.all (fun q => pz_ok 151 q.1 q.2) = true := pz_all2 oX6_copy_0 (pz_all2 oX6_copy_19 (pz_all2 oX6_copy_21 (pz_all2 oX6_copy_43 (pz_all2 oX6_copy_49 (pz_all2 oX6_copy_70 (pz_all2 oX6_copy_109 (pz_all2 oX6_copy_110 (pz_all2 oX6_copy_144 (pz_all2 oX6_copy_150 (pz_all2 oX6_copy_160 (pz_all2 oX6_copy_161 (pz_all2 oX6_copy_166 (pz_all2 oX6_copy_188 (pz_all2 oX6_copy_190 (pz_all2 oX6_copy_227 (rfl))))))))))))))))
set_option maxRecDepth 100000 in
theorem oX6_begins_0 : pz_ok 152 0 kX6_begins_0 = true := by decide +kernel
theorem oX6_begins : pX6_begins.all (fun q => pz_ok 152 q.1 q.2) = true := pz_all2 oX6_begins_0 (rfl)
set_option maxRecDepth 100000 in
theorem oX6_tell_0 : pz_ok 153 0 kX6_tell_0 = true := by decide +kernel
set_option maxRecDepth 100000 in
theorem oX6_tell_10 : pz_ok 153 10 kX6_tell_10 = true := by decide +kernel
set_option maxRecDepth 100000 in
theorem oX6_tell_48 : pz_ok 153 48 kX6_tell_48 = true := by decide +kernel
set_option maxRecDepth 100000 in
theorem oX6_tell_63 : pz_ok 153 63 kX6_tell_63 = true := by decide +kernel
set_option maxRecDepth 100000 in
theorem oX6_tell_90 : pz_ok 153 90 kX6_tell_90 = true := by decide +kernel
theorem oX6_tell : pX6_tell.all (fun q => pz_ok 153 q.1 q.2) = true := pz_all2 oX6_tell_0 (pz_all2 oX6_tell_10 (pz_all2 oX6_tell_48 (pz_all2 oX6_tell_63 (pz_all2 oX6_tell_90 (rfl)))))
set_option maxRecDepth 100000 in
theorem oX6_pat_0 : pz_ok 154 0 kX6_pat_0 = true := by decide +kernel
set_option maxRecDepth 100000 in
theorem oX6_pat_10 : pz_ok 154 10 kX6_pat_10 = true := by decide +kernel
set_option maxRecDepth 100000 in
theorem oX6_pat_25 : pz_ok 154 25 kX6_pat_25 = true := by decide +kernel
set_option maxRecDepth 100000 in
theorem oX6_pat_26 : pz_ok 154 26 kX6_pat_26 = true := by decide +kernel
set_option maxRecDepth 100000 in
theorem oX6_pat_44 : pz_ok 154 44 kX6_pat_44 = true := by decide +kernel
set_option maxRecDepth 100000 in
theorem oX6_pat_50 : pz_ok 154 50 kX6_pat_50 = true := by decide +kernel
theorem oX6_pat : pX6_pat.all (fun q => pz_ok 154 q.1 q.2) = true := pz_all2 oX6_pat_0 (pz_all2 oX6_pat_10 (pz_all2 oX6_pat_25 (pz_all2 oX6_pat_26 (pz_all2 oX6_pat_44 (pz_all2 oX6_pat_50 (rfl))))))
set_option maxRecDepth 100000 in
theorem oX6_as_0 : pz_ok 155 0 kX6_as_0 = true := by decide +kernel
set_option maxRecDepth 100000 in
theorem oX6_as_15 : pz_ok 155 15 kX6_as_15 = true := by decide +kernel
set_option maxRecDepth 100000 in
theorem oX6_as_27 : pz_ok 155 27 kX6_as_27 = true := by decide +kernel
set_option maxRecDepth 100000 in
theorem oX6_as_41 : pz_ok 155 41 kX6_as_41 = true := by decide +kernel
set_option maxRecDepth 100000 in
theorem oX6_as_46 : pz_ok 155 46 kX6_as_46 = true := by decide +kernel
theorem oX6_as : pX6_as.all (fun q => pz_ok 155 q.1 q.2) = true := pz_all2 oX6_as_0 (pz_all2 oX6_as_15 (pz_all2 oX6_as_27 (pz_all2 oX6_as_41 (pz_all2 oX6_as_46 (rfl)))))
set_option maxRecDepth 100000 in
theorem oX6_trace_0 : pz_ok 156 0 kX6_trace_0 = true := by decide +kernel
theorem oX6_trace : pX6_trace.all (fun q => pz_ok 156 q.1 q.2) = true := pz_all2 oX6_trace_0 (rfl)
set_option maxRecDepth 100000 in
theorem oX6_fault_0 : pz_ok 157 0 kX6_fault_0 = true := by decide +kernel
theorem oX6_fault : pX6_fault.all (fun q => pz_ok 157 q.1 q.2) = true := pz_all2 oX6_fault_0 (rfl)
set_option maxRecDepth 100000 in
theorem oX6_many_0 : pz_ok 158 0 kX6_many_0 = true := by decide +kernel
set_option maxRecDepth 100000 in
theorem oX6_many_36 : pz_ok 158 36 kX6_many_36 = true := by decide +kernel
set_option maxRecDepth 100000 in
theorem oX6_many_41 : pz_ok 158 41 kX6_many_41 = true := by decide +kernel
set_option maxRecDepth 100000 in
theorem oX6_many_46 : pz_ok 158 46 kX6_many_46 = true := by decide +kernel
set_option maxRecDepth 100000 in
theorem oX6_many_51 : pz_ok 158 51 kX6_many_51 = true := by decide +kernel
set_option maxRecDepth 100000 in
theorem oX6_many_56 : pz_ok 158 56 kX6_many_56 = true := by decide +kernel
set_option maxRecDepth 100000 in
theorem oX6_many_61 : pz_ok 158 61 kX6_many_61 = true := by decide +kernel
theorem oX6_many : pX6_many.all (fun q => pz_ok 158 q.1 q.2) = true := pz_all2 oX6_many_0 (pz_all2 oX6_many_36 (pz_all2 oX6_many_41 (pz_all2 oX6_many_46 (pz_all2 oX6_many_51 (pz_all2 oX6_many_56 (pz_all2 oX6_many_61 (rfl)))))))
set_option maxRecDepth 100000 in
theorem oJ6_bitCount_0f7a4_0 : pz_ok 159 0 kJ6_bitCount_0f7a4_0 = true := by decide +kernel
theorem oJ6_bitCount_0f7a4 : pJ6_bitCount_0f7a4.all (fun q => pz_ok 159 q.1 q.2) = true := pz_all2 oJ6_bitCount_0f7a4_0 (rfl)
