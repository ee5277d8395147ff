/-! the check of the code, printed by wip/whole/checks.py -/
set_option maxRecDepth 100000 in
theorem pkc_110 : pk_M 110 = true := by decide +kernel
set_option maxRecDepth 100000 in
theorem pkc_111 : pk_M 111 = true := by decide +kernel
set_option maxRecDepth 100000 in
theorem pkc_112 : pk_M 112 = true := by decide +kernel
set_option maxRecDepth 100000 in
theorem pkc_113 : pk_M 113 = true := by decide +kernel
set_option maxRecDepth 100000 in
theorem pkc_114 : pk_M 114 = true := by decide +kernel
set_option maxRecDepth 100000 in
theorem pkc_115 : pk_M 115 = true := by decide +kernel
set_option maxRecDepth 100000 in
theorem pkc_116 : pk_M 116 = true := by decide +kernel
set_option maxRecDepth 100000 in
theorem pkc_117 : pk_M 117 = true := by decide +kernel
set_option maxRecDepth 100000 in
theorem pkc_118 : pk_M 118 = true := by decide +kernel
set_option maxRecDepth 100000 in
theorem pkc_119 : pk_M 119 = true := by decide +kernel
set_option maxRecDepth 100000 in
theorem pkc_120 : pk_M 120 = true := by decide +kernel
set_option maxRecDepth 100000 in
theorem pkc_121 : pk_M 121 = true := by decide +kernel
set_option maxRecDepth 100000 in
theorem pkc_122 : pk_M 122 = true := by decide +kernel
set_option maxRecDepth 100000 in
theorem pkc_123 : pk_M 123 = true := by decide +kernel
set_option maxRecDepth 100000 in
theorem pkc_124 : pk_M 124 = true := by decide +kernel
set_option maxRecDepth 100000 in
theorem pkc_125 : pk_M 125 = true := by decide +kernel
set_option maxRecDepth 100000 in
theorem pkc_126 : pk_M 126 = true := by decide +kernel
set_option maxRecDepth 100000 in
theorem pkc_127 : pk_M 127 = true := by decide +kernel
set_option maxRecDepth 100000 in
theorem pkc_128 : pk_M 128 = true := by decide +kernel
set_option maxRecDepth 100000 in
theorem pkc_129 : pk_M 129 = true := by decide +kernel
set_option maxRecDepth 100000 in
theorem pkc_130 : pk_M 130 = true := by decide +kernel
set_option maxRecDepth 100000 in
theorem pkc_131 : pk_M 131 = true := by decide +kernel
set_option maxRecDepth 100000 in
theorem pkc_132 : pk_M 132 = true := by decide +kernel
set_option maxRecDepth 100000 in
theorem pkc_133 : pk_M 133 = true := by decide +kernel
set_option maxRecDepth 100000 in
theorem pkc_134 : pk_M 134 = true := by decide +kernel
set_option maxRecDepth 100000 in
theorem pkc_135 : pk_M 135 = true := by decide +kernel
set_option maxRecDepth 100000 in
theorem pkc_136 : pk_M 136 = true := by decide +kernel
set_option maxRecDepth 100000 in
theorem pkc_137 : pk_M 137 = true := by decide +kernel
set_option maxRecDepth 100000 in
theorem pkc_138 : pk_M 138 = true := by decide +kernel
set_option maxRecDepth 100000 in
theorem pkc_139 : pk_M 139 = true := by decide +kernel
set_option maxRecDepth 100000 in
theorem pkc_140 : pk_M 140 = true := by decide +kernel
set_option maxRecDepth 100000 in
theorem pkc_141 : pk_M 141 = true := by decide +kernel
set_option maxRecDepth 100000 in
theorem pkc_142 : pk_M 142 = true := by decide +kernel
set_option maxRecDepth 100000 in
theorem pkc_143 : pk_M 143 = true := by decide +kernel
set_option maxRecDepth 100000 in
theorem pkc_144 : pk_M 144 = true := by decide +kernel
set_option maxRecDepth 100000 in
theorem pkc_145 : pk_M 145 = true := by decide +kernel
set_option maxRecDepth 100000 in
theorem pkc_146 : pk_M 146 = true := by decide +kernel
set_option maxRecDepth 100000 in
theorem pkc_147 : pk_M 147 = true := by decide +kernel
set_option maxRecDepth 100000 in
theorem pkc_148 : pk_M 148 = true := by decide +kernel
set_option maxRecDepth 100000 in
theorem pkc_149 : pk_M 149 = true := by decide +kernel
set_option maxRecDepth 100000 in
theorem pkc_150 : pk_M 150 = true := by decide +kernel
set_option maxRecDepth 100000 in
theorem pkc_151 : pk_M 151 = true := by decide +kernel
set_option maxRecDepth 100000 in
theorem pkc_152 : pk_M 152 = true := by decide +kernel
set_option maxRecDepth 100000 in
theorem pkc_153 : pk_M 153 = true := by decide +kernel
set_option maxRecDepth 100000 in
theorem pkc_154 : pk_M 154 = true := by decide +kernel
set_option maxRecDepth 100000 in
theorem pkc_155 : pk_M 155 = true := by decide +kernel
set_option maxRecDepth 100000 in
theorem pkc_156 : pk_M 156 = true := by decide +kernel
set_option maxRecDepth 100000 in
theorem pkc_157 : pk_M 157 = true := by decide +kernel
set_option maxRecDepth 100000 in
theorem pkc_158 : pk_M 158 = true := by decide +kernel
set_option maxRecDepth 100000 in
theorem pkc_159 : pk_M 159 = true := by decide +kernel
