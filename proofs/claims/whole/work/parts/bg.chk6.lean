/-! the check of the code, printed by wip/whole/checks.py -/
set_option maxRecDepth 100000 in
theorem pkc_300 : pk_M 300 = true := by decide +kernel
set_option maxRecDepth 100000 in
theorem pkc_301 : pk_M 301 = true := by decide +kernel
set_option maxRecDepth 100000 in
theorem pkc_302 : pk_M 302 = true := by decide +kernel
set_option maxRecDepth 100000 in
theorem pkc_303 : pk_M 303 = true := by decide +kernel
set_option maxRecDepth 100000 in
theorem pkc_304 : pk_M 304 = true := by decide +kernel
set_option maxRecDepth 100000 in
theorem pkc_305 : pk_M 305 = true := by decide +kernel
set_option maxRecDepth 100000 in
theorem pkc_306 : pk_M 306 = true := by decide +kernel
set_option maxRecDepth 100000 in
theorem pkc_307 : pk_M 307 = true := by decide +kernel
set_option maxRecDepth 100000 in
theorem pkc_308 : pk_M 308 = true := by decide +kernel
set_option maxRecDepth 100000 in
theorem pkc_309 : pk_M 309 = true := by decide +kernel
set_option maxRecDepth 100000 in
theorem pkc_310 : pk_M 310 = true := by decide +kernel
set_option maxRecDepth 100000 in
theorem pkc_311 : pk_M 311 = true := by decide +kernel
set_option maxRecDepth 100000 in
theorem pkc_312 : pk_M 312 = true := by decide +kernel
set_option maxRecDepth 100000 in
theorem pkc_313 : pk_M 313 = true := by decide +kernel
set_option maxRecDepth 100000 in
theorem pkc_314 : pk_M 314 = true := by decide +kernel
set_option maxRecDepth 100000 in
theorem pkc_315 : pk_M 315 = true := by decide +kernel
set_option maxRecDepth 100000 in
theorem pkc_316 : pk_M 316 = true := by decide +kernel
set_option maxRecDepth 100000 in
theorem pkc_317 : pk_M 317 = true := by decide +kernel
set_option maxRecDepth 100000 in
theorem pkc_318 : pk_M 318 = true := by decide +kernel
set_option maxRecDepth 100000 in
theorem pkc_319 : pk_M 319 = true := by decide +kernel
set_option maxRecDepth 100000 in
theorem pkc_320 : pk_M 320 = true := by decide +kernel
set_option maxRecDepth 100000 in
theorem pkc_321 : pk_M 321 = true := by decide +kernel
set_option maxRecDepth 100000 in
theorem pkc_322 : pk_M 322 = true := by decide +kernel
set_option maxRecDepth 100000 in
theorem pkc_323 : pk_M 323 = true := by decide +kernel
set_option maxRecDepth 100000 in
theorem pkc_324 : pk_M 324 = true := by decide +kernel
set_option maxRecDepth 100000 in
theorem pkc_325 : pk_M 325 = true := by decide +kernel
set_option maxRecDepth 100000 in
theorem pkc_326 : pk_M 326 = true := by decide +kernel
set_option maxRecDepth 100000 in
theorem pkc_327 : pk_M 327 = true := by decide +kernel
set_option maxRecDepth 100000 in
theorem pkc_328 : pk_M 328 = true := by decide +kernel
set_option maxRecDepth 100000 in
theorem pkc_329 : pk_M 329 = true := by decide +kernel
set_option maxRecDepth 100000 in
theorem pkc_330 : pk_M 330 = true := by decide +kernel
