/-! the check of the code, printed by wip/whole/checks.py -/
set_option maxRecDepth 100000 in
theorem pkc_60 : pk_M 60 = true := by decide +kernel
set_option maxRecDepth 100000 in
theorem pkc_61 : pk_M 61 = true := by decide +kernel
set_option maxRecDepth 100000 in
theorem pkc_62 : pk_M 62 = true := by decide +kernel
set_option maxRecDepth 100000 in
theorem pkc_63 : pk_M 63 = true := by decide +kernel
set_option maxRecDepth 100000 in
theorem pkc_64 : pk_M 64 = true := by decide +kernel
set_option maxRecDepth 100000 in
theorem pkc_65 : pk_M 65 = true := by decide +kernel
set_option maxRecDepth 100000 in
theorem pkc_66 : pk_M 66 = true := by decide +kernel
set_option maxRecDepth 100000 in
theorem pkc_67 : pk_M 67 = true := by decide +kernel
set_option maxRecDepth 100000 in
theorem pkc_68 : pk_M 68 = true := by decide +kernel
set_option maxRecDepth 100000 in
theorem pkc_69 : pk_M 69 = true := by decide +kernel
set_option maxRecDepth 100000 in
theorem pkc_70 : pk_M 70 = true := by decide +kernel
set_option maxRecDepth 100000 in
theorem pkc_71 : pk_M 71 = true := by decide +kernel
set_option maxRecDepth 100000 in
theorem pkc_72 : pk_M 72 = true := by decide +kernel
set_option maxRecDepth 100000 in
theorem pkc_73 : pk_M 73 = true := by decide +kernel
set_option maxRecDepth 100000 in
theorem pkc_74 : pk_M 74 = true := by decide +kernel
set_option maxRecDepth 100000 in
theorem pkc_75 : pk_M 75 = true := by decide +kernel
set_option maxRecDepth 100000 in
theorem pkc_76 : pk_M 76 = true := by decide +kernel
set_option maxRecDepth 100000 in
theorem pkc_77 : pk_M 77 = true := by decide +kernel
set_option maxRecDepth 100000 in
theorem pkc_78 : pk_M 78 = true := by decide +kernel
set_option maxRecDepth 100000 in
theorem pkc_79 : pk_M 79 = true := by decide +kernel
set_option maxRecDepth 100000 in
theorem pkc_80 : pk_M 80 = true := by decide +kernel
set_option maxRecDepth 100000 in
theorem pkc_81 : pk_M 81 = true := by decide +kernel
set_option maxRecDepth 100000 in
theorem pkc_82 : pk_M 82 = true := by decide +kernel
set_option maxRecDepth 100000 in
theorem pkc_83 : pk_M 83 = true := by decide +kernel
set_option maxRecDepth 100000 in
theorem pkc_84 : pk_M 84 = true := by decide +kernel
set_option maxRecDepth 100000 in
theorem pkc_85 : pk_M 85 = true := by decide +kernel
set_option maxRecDepth 100000 in
theorem pkc_86 : pk_M 86 = true := by decide +kernel
set_option maxRecDepth 100000 in
theorem pkc_87 : pk_M 87 = true := by decide +kernel
set_option maxRecDepth 100000 in
theorem pkc_88 : pk_M 88 = true := by decide +kernel
set_option maxRecDepth 100000 in
theorem pkc_89 : pk_M 89 = true := by decide +kernel
set_option maxRecDepth 100000 in
theorem pkc_90 : pk_M 90 = true := by decide +kernel
set_option maxRecDepth 100000 in
theorem pkc_91 : pk_M 91 = true := by decide +kernel
set_option maxRecDepth 100000 in
theorem pkc_92 : pk_M 92 = true := by decide +kernel
set_option maxRecDepth 100000 in
theorem pkc_93 : pk_M 93 = true := by decide +kernel
set_option maxRecDepth 100000 in
theorem pkc_94 : pk_M 94 = true := by decide +kernel
set_option maxRecDepth 100000 in
theorem pkc_95 : pk_M 95 = true := by decide +kernel
set_option maxRecDepth 100000 in
theorem pkc_96 : pk_M 96 = true := by decide +kernel
set_option maxRecDepth 100000 in
theorem pkc_97 : pk_M 97 = true := by decide +kernel
set_option maxRecDepth 100000 in
theorem pkc_98 : pk_M 98 = true := by decide +kernel
set_option maxRecDepth 100000 in
theorem pkc_99 : pk_M 99 = true := by decide +kernel
set_option maxRecDepth 100000 in
theorem pkc_100 : pk_M 100 = true := by decide +kernel
set_option maxRecDepth 100000 in
theorem pkc_101 : pk_M 101 = true := by decide +kernel
set_option maxRecDepth 100000 in
theorem pkc_102 : pk_M 102 = true := by decide +kernel
set_option maxRecDepth 100000 in
theorem pkc_103 : pk_M 103 = true := by decide +kernel
set_option maxRecDepth 100000 in
theorem pkc_104 : pk_M 104 = true := by decide +kernel
set_option maxRecDepth 100000 in
theorem pkc_105 : pk_M 105 = true := by decide +kernel
set_option maxRecDepth 100000 in
theorem pkc_106 : pk_M 106 = true := by decide +kernel
set_option maxRecDepth 100000 in
theorem pkc_107 : pk_M 107 = true := by decide +kernel
set_option maxRecDepth 100000 in
theorem pkc_108 : pk_M 108 = true := by decide +kernel
set_option maxRecDepth 100000 in
theorem pkc_109 : pk_M 109 = true := by decide +kernel
