set_option maxRecDepth 100000 in
theorem oL_law_533 : pz_ok 0 533 kL_law_533 = true := by decide +kernel
set_option maxRecDepth 100000 in
theorem oL_law_556 : pz_ok 0 556 kL_law_556 = true := by decide +kernel
set_option maxRecDepth 100000 in
theorem oL_law_569 : pz_ok 0 569 kL_law_569 = true := by decide +kernel
set_option maxRecDepth 100000 in
theorem oL_law_602 : pz_ok 0 602 kL_law_602 = true := by decide +kernel
set_option maxRecDepth 100000 in
theorem oL_law_665 : pz_ok 0 665 kL_law_665 = true := by decide +kernel
set_option maxRecDepth 100000 in
theorem oL_law_718 : pz_ok 0 718 kL_law_718 = true := by decide +kernel
set_option maxRecDepth 100000 in
theorem oL_law_741 : pz_ok 0 741 kL_law_741 = true := by decide +kernel
set_option maxRecDepth 100000 in
theorem oL_law_764 : pz_ok 0 764 kL_law_764 = true := by decide +kernel
set_option maxRecDepth 100000 in
theorem oL_law_787 : pz_ok 0 787 kL_law_787 = true := by decide +kernel
set_option maxRecDepth 100000 in
theorem oL_law_810 : pz_ok 0 810 kL_law_810 = true := by decide +kernel
set_option maxRecDepth 100000 in
theorem oL_law_864 : pz_ok 0 864 kL_law_864 = true := by decide +kernel
