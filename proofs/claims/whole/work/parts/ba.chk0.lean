/-! the check of the code, printed by wip/whole/checks.py -/
set_option maxRecDepth 100000 in
theorem pkc_0 : pk_M 0 = true := by decide +kernel
set_option maxRecDepth 100000 in
theorem pkc_1 : pk_M 1 = true := by decide +kernel
set_option maxRecDepth 100000 in
theorem pkc_2 : pk_M 2 = true := by decide +kernel
set_option maxRecDepth 100000 in
theorem pkc_3 : pk_M 3 = true := by decide +kernel
set_option maxRecDepth 100000 in
theorem pkc_4 : pk_M 4 = true := by decide +kernel
set_option maxRecDepth 100000 in
theorem pkc_5 : pk_M 5 = true := by decide +kernel
set_option maxRecDepth 100000 in
theorem pkc_6 : pk_M 6 = true := by decide +kernel
set_option maxRecDepth 100000 in
theorem pkc_7 : pk_M 7 = true := by decide +kernel
set_option maxRecDepth 100000 in
theorem pkc_8 : pk_M 8 = true := by decide +kernel
set_option maxRecDepth 100000 in
theorem pkc_9 : pk_M 9 = true := by decide +kernel
set_option maxRecDepth 100000 in
theorem pkc_10 : pk_M 10 = true := by decide +kernel
set_option maxRecDepth 100000 in
theorem pkc_11 : pk_M 11 = true := by decide +kernel
set_option maxRecDepth 100000 in
theorem pkc_12 : pk_M 12 = true := by decide +kernel
set_option maxRecDepth 100000 in
theorem pkc_13 : pk_M 13 = true := by decide +kernel
set_option maxRecDepth 100000 in
theorem pkc_14 : pk_M 14 = true := by decide +kernel
set_option maxRecDepth 100000 in
theorem pkc_15 : pk_M 15 = true := by decide +kernel
set_option maxRecDepth 100000 in
theorem pkc_16 : pk_M 16 = true := by decide +kernel
set_option maxRecDepth 100000 in
theorem pkc_17 : pk_M 17 = true := by decide +kernel
set_option maxRecDepth 100000 in
theorem pkc_18 : pk_M 18 = true := by decide +kernel
set_option maxRecDepth 100000 in
theorem pkc_19 : pk_M 19 = true := by decide +kernel
set_option maxRecDepth 100000 in
theorem pkc_20 : pk_M 20 = true := by decide +kernel
set_option maxRecDepth 100000 in
theorem pkc_21 : pk_M 21 = true := by decide +kernel
set_option maxRecDepth 100000 in
theorem pkc_22 : pk_M 22 = true := by decide +kernel
set_option maxRecDepth 100000 in
theorem pkc_23 : pk_M 23 = true := by decide +kernel
set_option maxRecDepth 100000 in
theorem pkc_24 : pk_M 24 = true := by decide +kernel
set_option maxRecDepth 100000 in
theorem pkc_25 : pk_M 25 = true := by decide +kernel
set_option maxRecDepth 100000 in
theorem pkc_26 : pk_M 26 = true := by decide +kernel
set_option maxRecDepth 100000 in
theorem pkc_27 : pk_M 27 = true := by decide +kernel
set_option maxRecDepth 100000 in
theorem pkc_28 : pk_M 28 = true := by decide +kernel
set_option maxRecDepth 100000 in
theorem pkc_29 : pk_M 29 = true := by decide +kernel
set_option maxRecDepth 100000 in
theorem pkc_30 : pk_M 30 = true := by decide +kernel
set_option maxRecDepth 100000 in
theorem pkc_31 : pk_M 31 = true := by decide +kernel
set_option maxRecDepth 100000 in
theorem pkc_32 : pk_M 32 = true := by decide +kernel
set_option maxRecDepth 100000 in
theorem pkc_33 : pk_M 33 = true := by decide +kernel
set_option maxRecDepth 100000 in
theorem pkc_34 : pk_M 34 = true := by decide +kernel
set_option maxRecDepth 100000 in
theorem pkc_35 : pk_M 35 = true := by decide +kernel
set_option maxRecDepth 100000 in
theorem pkc_36 : pk_M 36 = true := by decide +kernel
set_option maxRecDepth 100000 in
theorem pkc_37 : pk_M 37 = true := by decide +kernel
set_option maxRecDepth 100000 in
theorem pkc_38 : pk_M 38 = true := by decide +kernel
set_option maxRecDepth 100000 in
theorem pkc_39 : pk_M 39 = true := by decide +kernel
set_option maxRecDepth 100000 in
theorem pkc_40 : pk_M 40 = true := by decide +kernel
set_option maxRecDepth 100000 in
theorem pkc_41 : pk_M 41 = true := by decide +kernel
set_option maxRecDepth 100000 in
theorem pkc_42 : pk_M 42 = true := by decide +kernel
set_option maxRecDepth 100000 in
theorem pkc_43 : pk_M 43 = true := by decide +kernel
set_option maxRecDepth 100000 in
theorem pkc_44 : pk_M 44 = true := by decide +kernel
set_option maxRecDepth 100000 in
theorem pkc_45 : pk_M 45 = true := by decide +kernel
set_option maxRecDepth 100000 in
theorem pkc_46 : pk_M 46 = true := by decide +kernel
set_option maxRecDepth 100000 in
theorem pkc_47 : pk_M 47 = true := by decide +kernel
set_option maxRecDepth 100000 in
theorem pkc_48 : pk_M 48 = true := by decide +kernel
set_option maxRecDepth 100000 in
theorem pkc_49 : pk_M 49 = true := by decide +kernel
set_option maxRecDepth 100000 in
theorem pkc_50 : pk_M 50 = true := by decide +kernel
set_option maxRecDepth 100000 in
theorem pkc_51 : pk_M 51 = true := by decide +kernel
set_option maxRecDepth 100000 in
theorem pkc_52 : pk_M 52 = true := by decide +kernel
set_option maxRecDepth 100000 in
theorem pkc_53 : pk_M 53 = true := by decide +kernel
set_option maxRecDepth 100000 in
theorem pkc_54 : pk_M 54 = true := by decide +kernel
set_option maxRecDepth 100000 in
theorem pkc_55 : pk_M 55 = true := by decide +kernel
set_option maxRecDepth 100000 in
theorem pkc_56 : pk_M 56 = true := by decide +kernel
set_option maxRecDepth 100000 in
theorem pkc_57 : pk_M 57 = true := by decide +kernel
set_option maxRecDepth 100000 in
theorem pkc_58 : pk_M 58 = true := by decide +kernel
set_option maxRecDepth 100000 in
theorem pkc_59 : pk_M 59 = true := by decide +kernel
