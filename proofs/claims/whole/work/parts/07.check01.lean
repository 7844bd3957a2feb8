set_option maxRecDepth 100000 in
theorem oL_law_0 : pz_ok 0 0 kL_law_0 = true := by decide +kernel
set_option maxRecDepth 100000 in
theorem oL_law_18 : pz_ok 0 18 kL_law_18 = true := by decide +kernel
set_option maxRecDepth 100000 in
theorem oL_law_172 : pz_ok 0 172 kL_law_172 = true := by decide +kernel
set_option maxRecDepth 100000 in
theorem oL_law_225 : pz_ok 0 225 kL_law_225 = true := by decide +kernel
set_option maxRecDepth 100000 in
theorem oL_law_258 : pz_ok 0 258 kL_law_258 = true := by decide +kernel
set_option maxRecDepth 100000 in
theorem oL_law_292 : pz_ok 0 292 kL_law_292 = true := by decide +kernel
set_option maxRecDepth 100000 in
theorem oL_law_325 : pz_ok 0 325 kL_law_325 = true := by decide +kernel
set_option maxRecDepth 100000 in
theorem oL_law_358 : pz_ok 0 358 kL_law_358 = true := by decide +kernel
set_option maxRecDepth 100000 in
theorem oL_law_391 : pz_ok 0 391 kL_law_391 = true := by decide +kernel
set_option maxRecDepth 100000 in
theorem oL_law_424 : pz_ok 0 424 kL_law_424 = true := by decide +kernel
set_option maxRecDepth 100000 in
theorem oL_law_447 : pz_ok 0 447 kL_law_447 = true := by decide +kernel
set_option maxRecDepth 100000 in
theorem oL_law_470 : pz_ok 0 470 kL_law_470 = true := by decide +kernel
