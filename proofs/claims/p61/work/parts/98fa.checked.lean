/-! ===== CHECKED: each method by its bytes ===== -/
def zckR (a k : Nat) : Bool := (List.range k).all (fun i => zckM (a + i))
theorem zckR_ok {a k m : Nat} (h : zckR a k = true) (h1 : a ≤ m) (h2 : m < a + k) : zckM m = true := by
  have := List.all_eq_true.mp h (m - a) (List.mem_range.mpr (by omega))
  rwa [show a + (m - a) = m by omega] at this
set_option maxRecDepth 100000 in
theorem zck_0 : zckR 0 5 = true := by decide +kernel
set_option maxRecDepth 100000 in
theorem zck_5 : zckR 5 5 = true := by decide +kernel
set_option maxRecDepth 100000 in
theorem zck_10 : zckR 10 5 = true := by decide +kernel
set_option maxRecDepth 100000 in
theorem zck_15 : zckR 15 5 = true := by decide +kernel
set_option maxRecDepth 100000 in
theorem zck_20 : zckR 20 5 = true := by decide +kernel
set_option maxRecDepth 100000 in
theorem zck_25 : zckR 25 5 = true := by decide +kernel
set_option maxRecDepth 100000 in
theorem zck_30 : zckR 30 5 = true := by decide +kernel
set_option maxRecDepth 100000 in
theorem zck_35 : zckR 35 5 = true := by decide +kernel
set_option maxRecDepth 100000 in
theorem zck_40 : zckR 40 5 = true := by decide +kernel
set_option maxRecDepth 100000 in
theorem zck_45 : zckR 45 5 = true := by decide +kernel
set_option maxRecDepth 100000 in
theorem zck_50 : zckR 50 5 = true := by decide +kernel
set_option maxRecDepth 100000 in
theorem zck_55 : zckR 55 5 = true := by decide +kernel
set_option maxRecDepth 100000 in
theorem zck_60 : zckR 60 5 = true := by decide +kernel
set_option maxRecDepth 100000 in
theorem zck_65 : zckR 65 5 = true := by decide +kernel
set_option maxRecDepth 100000 in
theorem zck_70 : zckR 70 5 = true := by decide +kernel
set_option maxRecDepth 100000 in
theorem zck_75 : zckR 75 5 = true := by decide +kernel
set_option maxRecDepth 100000 in
theorem zck_80 : zckR 80 5 = true := by decide +kernel
set_option maxRecDepth 100000 in
theorem zck_85 : zckR 85 5 = true := by decide +kernel
set_option maxRecDepth 100000 in
theorem zck_90 : zckR 90 5 = true := by decide +kernel
set_option maxRecDepth 100000 in
theorem zck_95 : zckR 95 5 = true := by decide +kernel
set_option maxRecDepth 100000 in
theorem zck_100 : zckR 100 5 = true := by decide +kernel
set_option maxRecDepth 100000 in
theorem zck_105 : zckR 105 5 = true := by decide +kernel
set_option maxRecDepth 100000 in
theorem zck_110 : zckR 110 5 = true := by decide +kernel
set_option maxRecDepth 100000 in
theorem zck_115 : zckR 115 5 = true := by decide +kernel
set_option maxRecDepth 100000 in
theorem zck_120 : zckR 120 5 = true := by decide +kernel
set_option maxRecDepth 100000 in
theorem zck_125 : zckR 125 5 = true := by decide +kernel
