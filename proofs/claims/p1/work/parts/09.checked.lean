/-! ===== CHECKED: each method by its bytes ===== -/
def zckR (a k : Nat) : Bool := (List.range k).all (fun i => zckM (a + i))
set_option maxRecDepth 100000 in
theorem zck_0 : zckR 0 20 = true := by decide +kernel
set_option maxRecDepth 100000 in
theorem zck_20 : zckR 20 20 = true := by decide +kernel
set_option maxRecDepth 100000 in
theorem zck_40 : zckR 40 20 = true := by decide +kernel
set_option maxRecDepth 100000 in
theorem zck_60 : zckR 60 20 = true := by decide +kernel
set_option maxRecDepth 100000 in
theorem zck_80 : zckR 80 20 = true := by decide +kernel
set_option maxRecDepth 100000 in
theorem zck_100 : zckR 100 20 = true := by decide +kernel
set_option maxRecDepth 100000 in
theorem zck_120 : zckR 120 20 = true := by decide +kernel
set_option maxRecDepth 100000 in
theorem zck_140 : zckR 140 20 = true := by decide +kernel
set_option maxRecDepth 100000 in
theorem zck_160 : zckR 160 20 = true := by decide +kernel
set_option maxRecDepth 100000 in
theorem zck_180 : zckR 180 20 = true := by decide +kernel
set_option maxRecDepth 100000 in
theorem zck_200 : zckR 200 20 = true := by decide +kernel
set_option maxRecDepth 100000 in
theorem zck_220 : zckR 220 20 = true := by decide +kernel
set_option maxRecDepth 100000 in
theorem zck_240 : zckR 240 20 = true := by decide +kernel
set_option maxRecDepth 100000 in
theorem zck_260 : zckR 260 20 = true := by decide +kernel
set_option maxRecDepth 100000 in
theorem zck_280 : zckR 280 20 = true := by decide +kernel
set_option maxRecDepth 100000 in
theorem zck_300 : zckR 300 20 = true := by decide +kernel
set_option maxRecDepth 100000 in
theorem zck_320 : zckR 320 20 = true := by decide +kernel
set_option maxRecDepth 100000 in
theorem zck_340 : zckR 340 20 = true := by decide +kernel
set_option maxRecDepth 100000 in
theorem zck_360 : zckR 360 20 = true := by decide +kernel
set_option maxRecDepth 100000 in
theorem zck_380 : zckR 380 2 = true := by decide +kernel
set_option maxRecDepth 100000 in
theorem zck_382 : zckR 382 1 = true := by decide +kernel
theorem zckR_ok {a k m : Nat} (h : zckR a k = true) (h1 : a ≤ m) (h2 : m < a + k) : zckM m = true := by
  have := List.all_eq_true.mp h (m - a) (List.mem_range.mpr (by omega))
  rwa [show a + (m - a) = m by omega] at this
theorem zck_all : ∀ m, m < 383 → zckM m = true := by
  intro m hm
  by_cases h0 : 0 ≤ m ∧ m < 20
  · exact zckR_ok zck_0 h0.1 h0.2
  by_cases h20 : 20 ≤ m ∧ m < 40
  · exact zckR_ok zck_20 h20.1 h20.2
  by_cases h40 : 40 ≤ m ∧ m < 60
  · exact zckR_ok zck_40 h40.1 h40.2
  by_cases h60 : 60 ≤ m ∧ m < 80
  · exact zckR_ok zck_60 h60.1 h60.2
  by_cases h80 : 80 ≤ m ∧ m < 100
  · exact zckR_ok zck_80 h80.1 h80.2
  by_cases h100 : 100 ≤ m ∧ m < 120
  · exact zckR_ok zck_100 h100.1 h100.2
  by_cases h120 : 120 ≤ m ∧ m < 140
  · exact zckR_ok zck_120 h120.1 h120.2
  by_cases h140 : 140 ≤ m ∧ m < 160
  · exact zckR_ok zck_140 h140.1 h140.2
  by_cases h160 : 160 ≤ m ∧ m < 180
  · exact zckR_ok zck_160 h160.1 h160.2
  by_cases h180 : 180 ≤ m ∧ m < 200
  · exact zckR_ok zck_180 h180.1 h180.2
  by_cases h200 : 200 ≤ m ∧ m < 220
  · exact zckR_ok zck_200 h200.1 h200.2
  by_cases h220 : 220 ≤ m ∧ m < 240
  · exact zckR_ok zck_220 h220.1 h220.2
  by_cases h240 : 240 ≤ m ∧ m < 260
  · exact zckR_ok zck_240 h240.1 h240.2
  by_cases h260 : 260 ≤ m ∧ m < 280
  · exact zckR_ok zck_260 h260.1 h260.2
  by_cases h280 : 280 ≤ m ∧ m < 300
  · exact zckR_ok zck_280 h280.1 h280.2
  by_cases h300 : 300 ≤ m ∧ m < 320
  · exact zckR_ok zck_300 h300.1 h300.2
  by_cases h320 : 320 ≤ m ∧ m < 340
  · exact zckR_ok zck_320 h320.1 h320.2
  by_cases h340 : 340 ≤ m ∧ m < 360
  · exact zckR_ok zck_340 h340.1 h340.2
  by_cases h360 : 360 ≤ m ∧ m < 380
  · exact zckR_ok zck_360 h360.1 h360.2
  by_cases h380 : 380 ≤ m ∧ m < 382
  · exact zckR_ok zck_380 h380.1 h380.2
  by_cases h382 : 382 ≤ m ∧ m < 383
  · exact zckR_ok zck_382 h382.1 h382.2
  omega
