/-! the check of the code, printed by wip/whole/checks.py -/
set_option maxRecDepth 100000 in
theorem pkc_210 : pk_M 210 = true := by decide +kernel
set_option maxRecDepth 100000 in
theorem pkc_211 : pk_M 211 = true := by decide +kernel
set_option maxRecDepth 100000 in
theorem pkc_212 : pk_M 212 = true := by decide +kernel
set_option maxRecDepth 100000 in
theorem pkc_213 : pk_M 213 = true := by decide +kernel
set_option maxRecDepth 100000 in
theorem pkc_214 : pk_M 214 = true := by decide +kernel
set_option maxRecDepth 100000 in
theorem pkc_215 : pk_M 215 = true := by decide +kernel
set_option maxRecDepth 100000 in
theorem pkc_216 : pk_M 216 = true := by decide +kernel
set_option maxRecDepth 100000 in
theorem pkc_217 : pk_M 217 = true := by decide +kernel
set_option maxRecDepth 100000 in
theorem pkc_218 : pk_M 218 = true := by decide +kernel
set_option maxRecDepth 100000 in
theorem pkc_219 : pk_M 219 = true := by decide +kernel
set_option maxRecDepth 100000 in
theorem pkc_220 : pk_M 220 = true := by decide +kernel
set_option maxRecDepth 100000 in
theorem pkc_221 : pk_M 221 = true := by decide +kernel
set_option maxRecDepth 100000 in
theorem pkc_222 : pk_M 222 = true := by decide +kernel
set_option maxRecDepth 100000 in
theorem pkc_223 : pk_M 223 = true := by decide +kernel
set_option maxRecDepth 100000 in
theorem pkc_224 : pk_M 224 = true := by decide +kernel
set_option maxRecDepth 100000 in
theorem pkc_225 : pk_M 225 = true := by decide +kernel
set_option maxRecDepth 100000 in
theorem pkc_226 : pk_M 226 = true := by decide +kernel
set_option maxRecDepth 100000 in
theorem pkc_227 : pk_M 227 = true := by decide +kernel
set_option maxRecDepth 100000 in
theorem pkc_228 : pk_M 228 = true := by decide +kernel
set_option maxRecDepth 100000 in
theorem pkc_229 : pk_M 229 = true := by decide +kernel
set_option maxRecDepth 100000 in
theorem pkc_230 : pk_M 230 = true := by decide +kernel
set_option maxRecDepth 100000 in
theorem pkc_231 : pk_M 231 = true := by decide +kernel
set_option maxRecDepth 100000 in
theorem pkc_232 : pk_M 232 = true := by decide +kernel
set_option maxRecDepth 100000 in
theorem pkc_233 : pk_M 233 = true := by decide +kernel
set_option maxRecDepth 100000 in
theorem pkc_234 : pk_M 234 = true := by decide +kernel
set_option maxRecDepth 100000 in
theorem pkc_235 : pk_M 235 = true := by decide +kernel
set_option maxRecDepth 100000 in
theorem pkc_236 : pk_M 236 = true := by decide +kernel
set_option maxRecDepth 100000 in
theorem pkc_237 : pk_M 237 = true := by decide +kernel
set_option maxRecDepth 100000 in
theorem pkc_238 : pk_M 238 = true := by decide +kernel
set_option maxRecDepth 100000 in
theorem pkc_239 : pk_M 239 = true := by decide +kernel
set_option maxRecDepth 100000 in
theorem pkc_240 : pk_M 240 = true := by decide +kernel
set_option maxRecDepth 100000 in
theorem pkc_241 : pk_M 241 = true := by decide +kernel
set_option maxRecDepth 100000 in
theorem pkc_242 : pk_M 242 = true := by decide +kernel
set_option maxRecDepth 100000 in
theorem pkc_243 : pk_M 243 = true := by decide +kernel
set_option maxRecDepth 100000 in
theorem pkc_244 : pk_M 244 = true := by decide +kernel
set_option maxRecDepth 100000 in
theorem pkc_245 : pk_M 245 = true := by decide +kernel
set_option maxRecDepth 100000 in
theorem pkc_246 : pk_M 246 = true := by decide +kernel
set_option maxRecDepth 100000 in
theorem pkc_247 : pk_M 247 = true := by decide +kernel
set_option maxRecDepth 100000 in
theorem pkc_248 : pk_M 248 = true := by decide +kernel
set_option maxRecDepth 100000 in
theorem pkc_249 : pk_M 249 = true := by decide +kernel
set_option maxRecDepth 100000 in
theorem pkc_250 : pk_M 250 = true := by decide +kernel
set_option maxRecDepth 100000 in
theorem pkc_251 : pk_M 251 = true := by decide +kernel
set_option maxRecDepth 100000 in
theorem pkc_252 : pk_M 252 = true := by decide +kernel
set_option maxRecDepth 100000 in
theorem pkc_253 : pk_M 253 = true := by decide +kernel
set_option maxRecDepth 100000 in
theorem pkc_254 : pk_M 254 = true := by decide +kernel
set_option maxRecDepth 100000 in
theorem pkc_255 : pk_M 255 = true := by decide +kernel
set_option maxRecDepth 100000 in
theorem pkc_256 : pk_M 256 = true := by decide +kernel
set_option maxRecDepth 100000 in
theorem pkc_257 : pk_M 257 = true := by decide +kernel
set_option maxRecDepth 100000 in
theorem pkc_258 : pk_M 258 = true := by decide +kernel
set_option maxRecDepth 100000 in
theorem pkc_259 : pk_M 259 = true := by decide +kernel
