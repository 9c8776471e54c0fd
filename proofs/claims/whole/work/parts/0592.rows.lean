set_option maxRecDepth 100000 in
theorem ni_rvL_0 : (ni_code 199 0).all (ni_rv 199) = true := by decide +kernel
set_option maxRecDepth 100000 in
theorem ni_rvL_1 : (ni_code 199 1).all (ni_rv 199) = true := by decide +kernel
set_option maxRecDepth 100000 in
theorem ni_rvL_2 : (ni_code 199 2).all (ni_rv 199) = true := by decide +kernel
set_option maxRecDepth 100000 in
theorem ni_rvL_3 : (ni_code 199 3).all (ni_rv 199) = true := by decide +kernel
set_option maxRecDepth 100000 in
theorem ni_rvL_4 : (ni_code 199 4).all (ni_rv 199) = true := by decide +kernel
set_option maxRecDepth 100000 in
theorem ni_rvL_5 : (ni_code 199 5).all (ni_rv 199) = true := by decide +kernel
set_option maxRecDepth 100000 in
theorem ni_rvL_6 : (ni_code 199 6).all (ni_rv 199) = true := by decide +kernel
set_option maxRecDepth 100000 in
theorem ni_rvL_7 : (ni_code 199 7).all (ni_rv 199) = true := by decide +kernel
set_option maxRecDepth 100000 in
theorem ni_rvL_8 : (ni_code 199 8).all (ni_rv 199) = true := by decide +kernel
set_option maxRecDepth 100000 in
theorem ni_rvL_9 : (ni_code 199 9).all (ni_rv 199) = true := by decide +kernel
set_option maxRecDepth 100000 in
theorem ni_rvL_10 : (ni_code 199 10).all (ni_rv 199) = true := by decide +kernel
set_option maxRecDepth 100000 in
theorem ni_rvL_11 : (ni_code 199 11).all (ni_rv 199) = true := by decide +kernel
set_option maxRecDepth 100000 in
theorem ni_rvL_12 : (ni_code 199 12).all (ni_rv 199) = true := by decide +kernel
set_option maxRecDepth 100000 in
theorem ni_rvL_13 : (ni_code 199 13).all (ni_rv 199) = true := by decide +kernel
set_option maxRecDepth 100000 in
theorem ni_rvL_14 : (ni_code 199 14).all (ni_rv 199) = true := by decide +kernel
set_option maxRecDepth 100000 in
theorem ni_rvL_15 : (ni_code 199 15).all (ni_rv 199) = true := by decide +kernel
set_option maxRecDepth 100000 in
theorem ni_rvL_16 : (ni_code 199 16).all (ni_rv 199) = true := by decide +kernel
set_option maxRecDepth 100000 in
theorem ni_rvL_17 : (ni_code 199 17).all (ni_rv 199) = true := by decide +kernel
set_option maxRecDepth 100000 in
theorem ni_rvL_18 : (ni_code 199 18).all (ni_rv 199) = true := by decide +kernel
set_option maxRecDepth 100000 in
theorem ni_rvL_19 : (ni_code 199 19).all (ni_rv 199) = true := by decide +kernel
set_option maxRecDepth 100000 in
theorem ni_rvL_20 : (ni_code 199 20).all (ni_rv 199) = true := by decide +kernel
set_option maxRecDepth 100000 in
theorem ni_rvL_21 : (ni_code 199 21).all (ni_rv 199) = true := by decide +kernel
