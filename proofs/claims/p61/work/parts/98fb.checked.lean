set_option maxRecDepth 100000 in
theorem zck_130 : zckR 130 5 = true := by decide +kernel
set_option maxRecDepth 100000 in
theorem zck_135 : zckR 135 5 = true := by decide +kernel
set_option maxRecDepth 100000 in
theorem zck_140 : zckR 140 5 = true := by decide +kernel
set_option maxRecDepth 100000 in
theorem zck_145 : zckR 145 5 = true := by decide +kernel
set_option maxRecDepth 100000 in
theorem zck_150 : zckR 150 5 = true := by decide +kernel
set_option maxRecDepth 100000 in
theorem zck_155 : zckR 155 5 = true := by decide +kernel
set_option maxRecDepth 100000 in
theorem zck_160 : zckR 160 5 = true := by decide +kernel
set_option maxRecDepth 100000 in
theorem zck_165 : zckR 165 5 = true := by decide +kernel
set_option maxRecDepth 100000 in
theorem zck_170 : zckR 170 5 = true := by decide +kernel
set_option maxRecDepth 100000 in
theorem zck_175 : zckR 175 5 = true := by decide +kernel
set_option maxRecDepth 100000 in
theorem zck_180 : zckR 180 5 = true := by decide +kernel
set_option maxRecDepth 100000 in
theorem zck_185 : zckR 185 5 = true := by decide +kernel
set_option maxRecDepth 100000 in
theorem zck_190 : zckR 190 5 = true := by decide +kernel
set_option maxRecDepth 100000 in
theorem zck_195 : zckR 195 5 = true := by decide +kernel
set_option maxRecDepth 100000 in
theorem zck_200 : zckR 200 5 = true := by decide +kernel
set_option maxRecDepth 100000 in
theorem zck_205 : zckR 205 5 = true := by decide +kernel
set_option maxRecDepth 100000 in
theorem zck_210 : zckR 210 5 = true := by decide +kernel
