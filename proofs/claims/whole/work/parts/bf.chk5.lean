/-! the check of the code, printed by wip/whole/checks.py -/
set_option maxRecDepth 100000 in
theorem pkc_260 : pk_M 260 = true := by decide +kernel
set_option maxRecDepth 100000 in
theorem pkc_261 : pk_M 261 = true := by decide +kernel
set_option maxRecDepth 100000 in
theorem pkc_262 : pk_M 262 = true := by decide +kernel
set_option maxRecDepth 100000 in
theorem pkc_263 : pk_M 263 = true := by decide +kernel
set_option maxRecDepth 100000 in
theorem pkc_264 : pk_M 264 = true := by decide +kernel
set_option maxRecDepth 100000 in
theorem pkc_265 : pk_M 265 = true := by decide +kernel
set_option maxRecDepth 100000 in
theorem pkc_266 : pk_M 266 = true := by decide +kernel
set_option maxRecDepth 100000 in
theorem pkc_267 : pk_M 267 = true := by decide +kernel
set_option maxRecDepth 100000 in
theorem pkc_268 : pk_M 268 = true := by decide +kernel
set_option maxRecDepth 100000 in
theorem pkc_269 : pk_M 269 = true := by decide +kernel
set_option maxRecDepth 100000 in
theorem pkc_270 : pk_M 270 = true := by decide +kernel
set_option maxRecDepth 100000 in
theorem pkc_271 : pk_M 271 = true := by decide +kernel
set_option maxRecDepth 100000 in
theorem pkc_272 : pk_M 272 = true := by decide +kernel
set_option maxRecDepth 100000 in
theorem pkc_273 : pk_M 273 = true := by decide +kernel
set_option maxRecDepth 100000 in
theorem pkc_274 : pk_M 274 = true := by decide +kernel
set_option maxRecDepth 100000 in
theorem pkc_275 : pk_M 275 = true := by decide +kernel
set_option maxRecDepth 100000 in
theorem pkc_276 : pk_M 276 = true := by decide +kernel
set_option maxRecDepth 100000 in
theorem pkc_277 : pk_M 277 = true := by decide +kernel
set_option maxRecDepth 100000 in
theorem pkc_278 : pk_M 278 = true := by decide +kernel
set_option maxRecDepth 100000 in
theorem pkc_279 : pk_M 279 = true := by decide +kernel
set_option maxRecDepth 100000 in
theorem pkc_280 : pk_M 280 = true := by decide +kernel
set_option maxRecDepth 100000 in
theorem pkc_281 : pk_M 281 = true := by decide +kernel
set_option maxRecDepth 100000 in
theorem pkc_282 : pk_M 282 = true := by decide +kernel
set_option maxRecDepth 100000 in
theorem pkc_283 : pk_M 283 = true := by decide +kernel
set_option maxRecDepth 100000 in
theorem pkc_284 : pk_M 284 = true := by decide +kernel
set_option maxRecDepth 100000 in
theorem pkc_285 : pk_M 285 = true := by decide +kernel
set_option maxRecDepth 100000 in
theorem pkc_286 : pk_M 286 = true := by decide +kernel
set_option maxRecDepth 100000 in
theorem pkc_287 : pk_M 287 = true := by decide +kernel
set_option maxRecDepth 100000 in
theorem pkc_288 : pk_M 288 = true := by decide +kernel
set_option maxRecDepth 100000 in
theorem pkc_289 : pk_M 289 = true := by decide +kernel
set_option maxRecDepth 100000 in
theorem pkc_290 : pk_M 290 = true := by decide +kernel
set_option maxRecDepth 100000 in
theorem pkc_291 : pk_M 291 = true := by decide +kernel
set_option maxRecDepth 100000 in
theorem pkc_292 : pk_M 292 = true := by decide +kernel
set_option maxRecDepth 100000 in
theorem pkc_293 : pk_M 293 = true := by decide +kernel
set_option maxRecDepth 100000 in
theorem pkc_294 : pk_M 294 = true := by decide +kernel
set_option maxRecDepth 100000 in
theorem pkc_295 : pk_M 295 = true := by decide +kernel
set_option maxRecDepth 100000 in
theorem pkc_296 : pk_M 296 = true := by decide +kernel
set_option maxRecDepth 100000 in
theorem pkc_297 : pk_M 297 = true := by decide +kernel
set_option maxRecDepth 100000 in
theorem pkc_298 : pk_M 298 = true := by decide +kernel
set_option maxRecDepth 100000 in
theorem pkc_299 : pk_M 299 = true := by decide +kernel
