/-! the check of the law, printed by wip/whole/checks.py -/
set_option maxRecDepth 100000 in
theorem pkl_0 : (List.range 100).all (fun i => pk_1 pg_law (0 + i)) = true := by decide +kernel
set_option maxRecDepth 100000 in
theorem pkl_1 : (List.range 100).all (fun i => pk_1 pg_law (100 + i)) = true := by decide +kernel
set_option maxRecDepth 100000 in
theorem pkl_2 : (List.range 100).all (fun i => pk_1 pg_law (200 + i)) = true := by decide +kernel
set_option maxRecDepth 100000 in
theorem pkl_3 : (List.range 100).all (fun i => pk_1 pg_law (300 + i)) = true := by decide +kernel
set_option maxRecDepth 100000 in
theorem pkl_4 : (List.range 100).all (fun i => pk_1 pg_law (400 + i)) = true := by decide +kernel
set_option maxRecDepth 100000 in
theorem pkl_5 : (List.range 100).all (fun i => pk_1 pg_law (500 + i)) = true := by decide +kernel
set_option maxRecDepth 100000 in
theorem pkl_6 : (List.range 100).all (fun i => pk_1 pg_law (600 + i)) = true := by decide +kernel
set_option maxRecDepth 100000 in
theorem pkl_7 : (List.range 100).all (fun i => pk_1 pg_law (700 + i)) = true := by decide +kernel
set_option maxRecDepth 100000 in
theorem pkl_8 : (List.range 100).all (fun i => pk_1 pg_law (800 + i)) = true := by decide +kernel
set_option maxRecDepth 100000 in
theorem pkl_9 : (List.range 100).all (fun i => pk_1 pg_law (900 + i)) = true := by decide +kernel
set_option maxRecDepth 100000 in
theorem pkl_10 : (List.range 100).all (fun i => pk_1 pg_law (1000 + i)) = true := by decide +kernel
set_option maxRecDepth 100000 in
theorem pkl_11 : (List.range 100).all (fun i => pk_1 pg_law (1100 + i)) = true := by decide +kernel
set_option maxRecDepth 100000 in
theorem pkl_12 : (List.range 100).all (fun i => pk_1 pg_law (1200 + i)) = true := by decide +kernel
set_option maxRecDepth 100000 in
theorem pkl_13 : (List.range 100).all (fun i => pk_1 pg_law (1300 + i)) = true := by decide +kernel
set_option maxRecDepth 100000 in
theorem pkl_14 : (List.range 100).all (fun i => pk_1 pg_law (1400 + i)) = true := by decide +kernel
set_option maxRecDepth 100000 in
theorem pkl_15 : (List.range 100).all (fun i => pk_1 pg_law (1500 + i)) = true := by decide +kernel
set_option maxRecDepth 100000 in
theorem pkl_16 : (List.range 100).all (fun i => pk_1 pg_law (1600 + i)) = true := by decide +kernel
set_option maxRecDepth 100000 in
theorem pkl_17 : (List.range 100).all (fun i => pk_1 pg_law (1700 + i)) = true := by decide +kernel
set_option maxRecDepth 100000 in
theorem pkl_18 : (List.range 55).all (fun i => pk_1 pg_law (1800 + i)) = true := by decide +kernel
