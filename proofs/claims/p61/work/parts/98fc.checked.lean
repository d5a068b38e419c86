set_option maxRecDepth 100000 in
theorem zck_215 : zckR 215 5 = true := by decide +kernel
set_option maxRecDepth 100000 in
theorem zck_220 : zckR 220 5 = true := by decide +kernel
set_option maxRecDepth 100000 in
theorem zck_225 : zckR 225 5 = true := by decide +kernel
set_option maxRecDepth 100000 in
theorem zck_230 : zckR 230 5 = true := by decide +kernel
set_option maxRecDepth 100000 in
theorem zck_235 : zckR 235 5 = true := by decide +kernel
set_option maxRecDepth 100000 in
theorem zck_240 : zckR 240 5 = true := by decide +kernel
set_option maxRecDepth 100000 in
theorem zck_245 : zckR 245 5 = true := by decide +kernel
set_option maxRecDepth 100000 in
theorem zck_250 : zckR 250 5 = true := by decide +kernel
set_option maxRecDepth 100000 in
theorem zck_255 : zckR 255 5 = true := by decide +kernel
set_option maxRecDepth 100000 in
theorem zck_260 : zckR 260 5 = true := by decide +kernel
set_option maxRecDepth 100000 in
theorem zck_265 : zckR 265 5 = true := by decide +kernel
set_option maxRecDepth 100000 in
theorem zck_270 : zckR 270 5 = true := by decide +kernel
set_option maxRecDepth 100000 in
theorem zck_275 : zckR 275 5 = true := by decide +kernel
set_option maxRecDepth 100000 in
theorem zck_280 : zckR 280 5 = true := by decide +kernel
set_option maxRecDepth 100000 in
theorem zck_285 : zckR 285 5 = true := by decide +kernel
