set_option maxRecDepth 100000 in
theorem zck_290 : zckR 290 6 = true := by decide +kernel
set_option maxRecDepth 100000 in
theorem zck_296 : zckR 296 6 = true := by decide +kernel
set_option maxRecDepth 100000 in
theorem zck_302 : zckR 302 6 = true := by decide +kernel
set_option maxRecDepth 100000 in
theorem zck_308 : zckR 308 6 = true := by decide +kernel
set_option maxRecDepth 100000 in
theorem zck_314 : zckR 314 6 = true := by decide +kernel
set_option maxRecDepth 100000 in
theorem zck_320 : zckR 320 6 = true := by decide +kernel
set_option maxRecDepth 100000 in
theorem zck_326 : zckR 326 6 = true := by decide +kernel
set_option maxRecDepth 100000 in
theorem zck_332 : zckR 332 6 = true := by decide +kernel
set_option maxRecDepth 100000 in
theorem zck_338 : zckR 338 6 = true := by decide +kernel
set_option maxRecDepth 100000 in
theorem zck_344 : zckR 344 6 = true := by decide +kernel
set_option maxRecDepth 100000 in
theorem zck_350 : zckR 350 6 = true := by decide +kernel
set_option maxRecDepth 100000 in
theorem zck_356 : zckR 356 6 = true := by decide +kernel
set_option maxRecDepth 100000 in
theorem zck_362 : zckR 362 6 = true := by decide +kernel
set_option maxRecDepth 100000 in
theorem zck_368 : zckR 368 6 = true := by decide +kernel
set_option maxRecDepth 100000 in
theorem zck_374 : zckR 374 6 = true := by decide +kernel
set_option maxRecDepth 100000 in
theorem zck_380 : zckR 380 2 = true := by decide +kernel
