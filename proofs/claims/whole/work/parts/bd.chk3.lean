/-! the check of the code, printed by wip/whole/checks.py -/
set_option maxRecDepth 100000 in
theorem pkc_160 : pk_M 160 = true := by decide +kernel
set_option maxRecDepth 100000 in
theorem pkc_161 : pk_M 161 = true := by decide +kernel
set_option maxRecDepth 100000 in
theorem pkc_162 : pk_M 162 = true := by decide +kernel
set_option maxRecDepth 100000 in
theorem pkc_163 : pk_M 163 = true := by decide +kernel
set_option maxRecDepth 100000 in
theorem pkc_164 : pk_M 164 = true := by decide +kernel
set_option maxRecDepth 100000 in
theorem pkc_165 : pk_M 165 = true := by decide +kernel
set_option maxRecDepth 100000 in
theorem pkc_166 : pk_M 166 = true := by decide +kernel
set_option maxRecDepth 100000 in
theorem pkc_167 : pk_M 167 = true := by decide +kernel
set_option maxRecDepth 100000 in
theorem pkc_168 : pk_M 168 = true := by decide +kernel
set_option maxRecDepth 100000 in
theorem pkc_169 : pk_M 169 = true := by decide +kernel
set_option maxRecDepth 100000 in
theorem pkc_170 : pk_M 170 = true := by decide +kernel
set_option maxRecDepth 100000 in
theorem pkc_171 : pk_M 171 = true := by decide +kernel
set_option maxRecDepth 100000 in
theorem pkc_172 : pk_M 172 = true := by decide +kernel
set_option maxRecDepth 100000 in
theorem pkc_173 : pk_M 173 = true := by decide +kernel
set_option maxRecDepth 100000 in
theorem pkc_174 : pk_M 174 = true := by decide +kernel
set_option maxRecDepth 100000 in
theorem pkc_175 : pk_M 175 = true := by decide +kernel
set_option maxRecDepth 100000 in
theorem pkc_176 : pk_M 176 = true := by decide +kernel
set_option maxRecDepth 100000 in
theorem pkc_177 : pk_M 177 = true := by decide +kernel
set_option maxRecDepth 100000 in
theorem pkc_178 : pk_M 178 = true := by decide +kernel
set_option maxRecDepth 100000 in
theorem pkc_179 : pk_M 179 = true := by decide +kernel
set_option maxRecDepth 100000 in
theorem pkc_180 : pk_M 180 = true := by decide +kernel
set_option maxRecDepth 100000 in
theorem pkc_181 : pk_M 181 = true := by decide +kernel
set_option maxRecDepth 100000 in
theorem pkc_182 : pk_M 182 = true := by decide +kernel
set_option maxRecDepth 100000 in
theorem pkc_183 : pk_M 183 = true := by decide +kernel
set_option maxRecDepth 100000 in
theorem pkc_184 : pk_M 184 = true := by decide +kernel
set_option maxRecDepth 100000 in
theorem pkc_185 : pk_M 185 = true := by decide +kernel
set_option maxRecDepth 100000 in
theorem pkc_186 : pk_M 186 = true := by decide +kernel
set_option maxRecDepth 100000 in
theorem pkc_187 : pk_M 187 = true := by decide +kernel
set_option maxRecDepth 100000 in
theorem pkc_188 : pk_M 188 = true := by decide +kernel
set_option maxRecDepth 100000 in
theorem pkc_189 : pk_M 189 = true := by decide +kernel
set_option maxRecDepth 100000 in
theorem pkc_190 : pk_M 190 = true := by decide +kernel
set_option maxRecDepth 100000 in
theorem pkc_191 : pk_M 191 = true := by decide +kernel
set_option maxRecDepth 100000 in
theorem pkc_192 : pk_M 192 = true := by decide +kernel
set_option maxRecDepth 100000 in
theorem pkc_193 : pk_M 193 = true := by decide +kernel
set_option maxRecDepth 100000 in
theorem pkc_194 : pk_M 194 = true := by decide +kernel
set_option maxRecDepth 100000 in
theorem pkc_195 : pk_M 195 = true := by decide +kernel
set_option maxRecDepth 100000 in
theorem pkc_196 : pk_M 196 = true := by decide +kernel
set_option maxRecDepth 100000 in
theorem pkc_197 : pk_M 197 = true := by decide +kernel
set_option maxRecDepth 100000 in
theorem pkc_198 : pk_M 198 = true := by decide +kernel
set_option maxRecDepth 100000 in
theorem pkc_199 : pk_M 199 = true := by decide +kernel
set_option maxRecDepth 100000 in
theorem pkc_200 : pk_M 200 = true := by decide +kernel
set_option maxRecDepth 100000 in
theorem pkc_201 : pk_M 201 = true := by decide +kernel
set_option maxRecDepth 100000 in
theorem pkc_202 : pk_M 202 = true := by decide +kernel
set_option maxRecDepth 100000 in
theorem pkc_203 : pk_M 203 = true := by decide +kernel
set_option maxRecDepth 100000 in
theorem pkc_204 : pk_M 204 = true := by decide +kernel
set_option maxRecDepth 100000 in
theorem pkc_205 : pk_M 205 = true := by decide +kernel
set_option maxRecDepth 100000 in
theorem pkc_206 : pk_M 206 = true := by decide +kernel
set_option maxRecDepth 100000 in
theorem pkc_207 : pk_M 207 = true := by decide +kernel
set_option maxRecDepth 100000 in
theorem pkc_208 : pk_M 208 = true := by decide +kernel
set_option maxRecDepth 100000 in
theorem pkc_209 : pk_M 209 = true := by decide +kernel
