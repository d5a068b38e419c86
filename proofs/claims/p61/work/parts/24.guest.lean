/-! ===== GUEST: trays and guests ===== -/
set_option maxRecDepth 65536
def zTr (q : Int) : Prop := (0 < q ∧ q ≤ 161) ∧ (∀ g, zSg g q = some (.inl 8)) ∧ (∀ e, zDg e q 0 = 4) ∧ (∀ (e : zm_D) (k : Int), 1 ≤ k → k ≤ 4 → zDg e q k = e q k) ∧ (∀ (e : zm_D) (k x : Int), 1 ≤ k → k ≤ 4 → zm_u (zDg e) q k x = zDg (zm_u e q k x))
theorem zTr_31 : zTr 31 := by
  refine ⟨by decide, fun g => zSg_31, fun e => zg_31_0, fun e k h1 h2 => ?_, fun e k x h1 h2 => ?_⟩
  · rcases (by omega : k = 1 ∨ k = 2 ∨ k = 3 ∨ k = 4) with rfl | rfl | rfl | rfl
    · exact zg_31_1
    · exact zg_31_2
    · exact zg_31_3
    · exact zg_31_4
  · rcases (by omega : k = 1 ∨ k = 2 ∨ k = 3 ∨ k = 4) with rfl | rfl | rfl | rfl
    · exact zgu_31_1
    · exact zgu_31_2
    · exact zgu_31_3
    · exact zgu_31_4
theorem zTr_32 : zTr 32 := by
  refine ⟨by decide, fun g => zSg_32, fun e => zg_32_0, fun e k h1 h2 => ?_, fun e k x h1 h2 => ?_⟩
  · rcases (by omega : k = 1 ∨ k = 2 ∨ k = 3 ∨ k = 4) with rfl | rfl | rfl | rfl
    · exact zg_32_1
    · exact zg_32_2
    · exact zg_32_3
    · exact zg_32_4
  · rcases (by omega : k = 1 ∨ k = 2 ∨ k = 3 ∨ k = 4) with rfl | rfl | rfl | rfl
    · exact zgu_32_1
    · exact zgu_32_2
    · exact zgu_32_3
    · exact zgu_32_4
theorem zTr_33 : zTr 33 := by
  refine ⟨by decide, fun g => zSg_33, fun e => zg_33_0, fun e k h1 h2 => ?_, fun e k x h1 h2 => ?_⟩
  · rcases (by omega : k = 1 ∨ k = 2 ∨ k = 3 ∨ k = 4) with rfl | rfl | rfl | rfl
    · exact zg_33_1
    · exact zg_33_2
    · exact zg_33_3
    · exact zg_33_4
  · rcases (by omega : k = 1 ∨ k = 2 ∨ k = 3 ∨ k = 4) with rfl | rfl | rfl | rfl
    · exact zgu_33_1
    · exact zgu_33_2
    · exact zgu_33_3
    · exact zgu_33_4
def zGu (q p : Int) : Prop := (0 < q ∧ q ≤ 161 ∧ 0 < p ∧ p ≤ 161 ∧ q ≠ p) ∧ (∀ g, zSg g q = some (.inl 2)) ∧ (∀ g, zSg g p = some (.inr (.int, 4))) ∧ (∀ e, zDg e q 0 = p) ∧ (∀ (e : zm_D) (k : Int), 1 ≤ k → k ≤ 12 → zDg e q k = e q k) ∧ (∀ (e : zm_D) (k : Int), zDg e p k = e p k) ∧ (∀ (e : zm_D) (k x : Int), 1 ≤ k → k ≤ 12 → zm_u (zDg e) q k x = zDg (zm_u e q k x)) ∧ (∀ (e : zm_D) (k x : Int), zm_u (zDg e) p k x = zDg (zm_u e p k x))
theorem zGu_15 : zGu 15 16 := by
  refine ⟨by decide, fun g => zSg_15, fun g => zSg_16, fun e => zg_15_0, fun e k h1 h2 => ?_, fun e k => zga_16, fun e k x h1 h2 => ?_, fun e k x => zgua_16⟩
  · rcases (by omega : k = 1 ∨ k = 2 ∨ k = 3 ∨ k = 4 ∨ k = 5 ∨ k = 6 ∨ k = 7 ∨ k = 8 ∨ k = 9 ∨ k = 10 ∨ k = 11 ∨ k = 12) with rfl | rfl | rfl | rfl | rfl | rfl | rfl | rfl | rfl | rfl | rfl | rfl
    · exact zg_15_1
    · exact zg_15_2
    · exact zg_15_3
    · exact zg_15_4
    · exact zg_15_5
    · exact zg_15_6
    · exact zg_15_7
    · exact zg_15_8
    · exact zg_15_9
    · exact zg_15_10
    · exact zg_15_11
    · exact zg_15_12
  · rcases (by omega : k = 1 ∨ k = 2 ∨ k = 3 ∨ k = 4 ∨ k = 5 ∨ k = 6 ∨ k = 7 ∨ k = 8 ∨ k = 9 ∨ k = 10 ∨ k = 11 ∨ k = 12) with rfl | rfl | rfl | rfl | rfl | rfl | rfl | rfl | rfl | rfl | rfl | rfl
    · exact zgu_15_1
    · exact zgu_15_2
    · exact zgu_15_3
    · exact zgu_15_4
    · exact zgu_15_5
    · exact zgu_15_6
    · exact zgu_15_7
    · exact zgu_15_8
    · exact zgu_15_9
    · exact zgu_15_10
    · exact zgu_15_11
    · exact zgu_15_12
theorem zGu_17 : zGu 17 18 := by
  refine ⟨by decide, fun g => zSg_17, fun g => zSg_18, fun e => zg_17_0, fun e k h1 h2 => ?_, fun e k => zga_18, fun e k x h1 h2 => ?_, fun e k x => zgua_18⟩
  · rcases (by omega : k = 1 ∨ k = 2 ∨ k = 3 ∨ k = 4 ∨ k = 5 ∨ k = 6 ∨ k = 7 ∨ k = 8 ∨ k = 9 ∨ k = 10 ∨ k = 11 ∨ k = 12) with rfl | rfl | rfl | rfl | rfl | rfl | rfl | rfl | rfl | rfl | rfl | rfl
    · exact zg_17_1
    · exact zg_17_2
    · exact zg_17_3
    · exact zg_17_4
    · exact zg_17_5
    · exact zg_17_6
    · exact zg_17_7
    · exact zg_17_8
    · exact zg_17_9
    · exact zg_17_10
    · exact zg_17_11
    · exact zg_17_12
  · rcases (by omega : k = 1 ∨ k = 2 ∨ k = 3 ∨ k = 4 ∨ k = 5 ∨ k = 6 ∨ k = 7 ∨ k = 8 ∨ k = 9 ∨ k = 10 ∨ k = 11 ∨ k = 12) with rfl | rfl | rfl | rfl | rfl | rfl | rfl | rfl | rfl | rfl | rfl | rfl
    · exact zgu_17_1
    · exact zgu_17_2
    · exact zgu_17_3
    · exact zgu_17_4
    · exact zgu_17_5
    · exact zgu_17_6
    · exact zgu_17_7
    · exact zgu_17_8
    · exact zgu_17_9
    · exact zgu_17_10
    · exact zgu_17_11
    · exact zgu_17_12
theorem zGu_19 : zGu 19 20 := by
  refine ⟨by decide, fun g => zSg_19, fun g => zSg_20, fun e => zg_19_0, fun e k h1 h2 => ?_, fun e k => zga_20, fun e k x h1 h2 => ?_, fun e k x => zgua_20⟩
  · rcases (by omega : k = 1 ∨ k = 2 ∨ k = 3 ∨ k = 4 ∨ k = 5 ∨ k = 6 ∨ k = 7 ∨ k = 8 ∨ k = 9 ∨ k = 10 ∨ k = 11 ∨ k = 12) with rfl | rfl | rfl | rfl | rfl | rfl | rfl | rfl | rfl | rfl | rfl | rfl
    · exact zg_19_1
    · exact zg_19_2
    · exact zg_19_3
    · exact zg_19_4
    · exact zg_19_5
    · exact zg_19_6
    · exact zg_19_7
    · exact zg_19_8
    · exact zg_19_9
    · exact zg_19_10
    · exact zg_19_11
    · exact zg_19_12
  · rcases (by omega : k = 1 ∨ k = 2 ∨ k = 3 ∨ k = 4 ∨ k = 5 ∨ k = 6 ∨ k = 7 ∨ k = 8 ∨ k = 9 ∨ k = 10 ∨ k = 11 ∨ k = 12) with rfl | rfl | rfl | rfl | rfl | rfl | rfl | rfl | rfl | rfl | rfl | rfl
    · exact zgu_19_1
    · exact zgu_19_2
    · exact zgu_19_3
    · exact zgu_19_4
    · exact zgu_19_5
    · exact zgu_19_6
    · exact zgu_19_7
    · exact zgu_19_8
    · exact zgu_19_9
    · exact zgu_19_10
    · exact zgu_19_11
    · exact zgu_19_12
theorem zGu_21 : zGu 21 22 := by
  refine ⟨by decide, fun g => zSg_21, fun g => zSg_22, fun e => zg_21_0, fun e k h1 h2 => ?_, fun e k => zga_22, fun e k x h1 h2 => ?_, fun e k x => zgua_22⟩
  · rcases (by omega : k = 1 ∨ k = 2 ∨ k = 3 ∨ k = 4 ∨ k = 5 ∨ k = 6 ∨ k = 7 ∨ k = 8 ∨ k = 9 ∨ k = 10 ∨ k = 11 ∨ k = 12) with rfl | rfl | rfl | rfl | rfl | rfl | rfl | rfl | rfl | rfl | rfl | rfl
    · exact zg_21_1
    · exact zg_21_2
    · exact zg_21_3
    · exact zg_21_4
    · exact zg_21_5
    · exact zg_21_6
    · exact zg_21_7
    · exact zg_21_8
    · exact zg_21_9
    · exact zg_21_10
    · exact zg_21_11
    · exact zg_21_12
  · rcases (by omega : k = 1 ∨ k = 2 ∨ k = 3 ∨ k = 4 ∨ k = 5 ∨ k = 6 ∨ k = 7 ∨ k = 8 ∨ k = 9 ∨ k = 10 ∨ k = 11 ∨ k = 12) with rfl | rfl | rfl | rfl | rfl | rfl | rfl | rfl | rfl | rfl | rfl | rfl
    · exact zgu_21_1
    · exact zgu_21_2
    · exact zgu_21_3
    · exact zgu_21_4
    · exact zgu_21_5
    · exact zgu_21_6
    · exact zgu_21_7
    · exact zgu_21_8
    · exact zgu_21_9
    · exact zgu_21_10
    · exact zgu_21_11
    · exact zgu_21_12
theorem zGu_23 : zGu 23 24 := by
  refine ⟨by decide, fun g => zSg_23, fun g => zSg_24, fun e => zg_23_0, fun e k h1 h2 => ?_, fun e k => zga_24, fun e k x h1 h2 => ?_, fun e k x => zgua_24⟩
  · rcases (by omega : k = 1 ∨ k = 2 ∨ k = 3 ∨ k = 4 ∨ k = 5 ∨ k = 6 ∨ k = 7 ∨ k = 8 ∨ k = 9 ∨ k = 10 ∨ k = 11 ∨ k = 12) with rfl | rfl | rfl | rfl | rfl | rfl | rfl | rfl | rfl | rfl | rfl | rfl
    · exact zg_23_1
    · exact zg_23_2
    · exact zg_23_3
    · exact zg_23_4
    · exact zg_23_5
    · exact zg_23_6
    · exact zg_23_7
    · exact zg_23_8
    · exact zg_23_9
    · exact zg_23_10
    · exact zg_23_11
    · exact zg_23_12
  · rcases (by omega : k = 1 ∨ k = 2 ∨ k = 3 ∨ k = 4 ∨ k = 5 ∨ k = 6 ∨ k = 7 ∨ k = 8 ∨ k = 9 ∨ k = 10 ∨ k = 11 ∨ k = 12) with rfl | rfl | rfl | rfl | rfl | rfl | rfl | rfl | rfl | rfl | rfl | rfl
    · exact zgu_23_1
    · exact zgu_23_2
    · exact zgu_23_3
    · exact zgu_23_4
    · exact zgu_23_5
    · exact zgu_23_6
    · exact zgu_23_7
    · exact zgu_23_8
    · exact zgu_23_9
    · exact zgu_23_10
    · exact zgu_23_11
    · exact zgu_23_12
theorem zGu_25 : zGu 25 26 := by
  refine ⟨by decide, fun g => zSg_25, fun g => zSg_26, fun e => zg_25_0, fun e k h1 h2 => ?_, fun e k => zga_26, fun e k x h1 h2 => ?_, fun e k x => zgua_26⟩
  · rcases (by omega : k = 1 ∨ k = 2 ∨ k = 3 ∨ k = 4 ∨ k = 5 ∨ k = 6 ∨ k = 7 ∨ k = 8 ∨ k = 9 ∨ k = 10 ∨ k = 11 ∨ k = 12) with rfl | rfl | rfl | rfl | rfl | rfl | rfl | rfl | rfl | rfl | rfl | rfl
    · exact zg_25_1
    · exact zg_25_2
    · exact zg_25_3
    · exact zg_25_4
    · exact zg_25_5
    · exact zg_25_6
    · exact zg_25_7
    · exact zg_25_8
    · exact zg_25_9
    · exact zg_25_10
    · exact zg_25_11
    · exact zg_25_12
  · rcases (by omega : k = 1 ∨ k = 2 ∨ k = 3 ∨ k = 4 ∨ k = 5 ∨ k = 6 ∨ k = 7 ∨ k = 8 ∨ k = 9 ∨ k = 10 ∨ k = 11 ∨ k = 12) with rfl | rfl | rfl | rfl | rfl | rfl | rfl | rfl | rfl | rfl | rfl | rfl
    · exact zgu_25_1
    · exact zgu_25_2
    · exact zgu_25_3
    · exact zgu_25_4
    · exact zgu_25_5
    · exact zgu_25_6
    · exact zgu_25_7
    · exact zgu_25_8
    · exact zgu_25_9
    · exact zgu_25_10
    · exact zgu_25_11
    · exact zgu_25_12
theorem zGu_27 : zGu 27 28 := by
  refine ⟨by decide, fun g => zSg_27, fun g => zSg_28, fun e => zg_27_0, fun e k h1 h2 => ?_, fun e k => zga_28, fun e k x h1 h2 => ?_, fun e k x => zgua_28⟩
  · rcases (by omega : k = 1 ∨ k = 2 ∨ k = 3 ∨ k = 4 ∨ k = 5 ∨ k = 6 ∨ k = 7 ∨ k = 8 ∨ k = 9 ∨ k = 10 ∨ k = 11 ∨ k = 12) with rfl | rfl | rfl | rfl | rfl | rfl | rfl | rfl | rfl | rfl | rfl | rfl
    · exact zg_27_1
    · exact zg_27_2
    · exact zg_27_3
    · exact zg_27_4
    · exact zg_27_5
    · exact zg_27_6
    · exact zg_27_7
    · exact zg_27_8
    · exact zg_27_9
    · exact zg_27_10
    · exact zg_27_11
    · exact zg_27_12
  · rcases (by omega : k = 1 ∨ k = 2 ∨ k = 3 ∨ k = 4 ∨ k = 5 ∨ k = 6 ∨ k = 7 ∨ k = 8 ∨ k = 9 ∨ k = 10 ∨ k = 11 ∨ k = 12) with rfl | rfl | rfl | rfl | rfl | rfl | rfl | rfl | rfl | rfl | rfl | rfl
    · exact zgu_27_1
    · exact zgu_27_2
    · exact zgu_27_3
    · exact zgu_27_4
    · exact zgu_27_5
    · exact zgu_27_6
    · exact zgu_27_7
    · exact zgu_27_8
    · exact zgu_27_9
    · exact zgu_27_10
    · exact zgu_27_11
    · exact zgu_27_12
theorem zGu_29 : zGu 29 30 := by
  refine ⟨by decide, fun g => zSg_29, fun g => zSg_30, fun e => zg_29_0, fun e k h1 h2 => ?_, fun e k => zga_30, fun e k x h1 h2 => ?_, fun e k x => zgua_30⟩
  · rcases (by omega : k = 1 ∨ k = 2 ∨ k = 3 ∨ k = 4 ∨ k = 5 ∨ k = 6 ∨ k = 7 ∨ k = 8 ∨ k = 9 ∨ k = 10 ∨ k = 11 ∨ k = 12) with rfl | rfl | rfl | rfl | rfl | rfl | rfl | rfl | rfl | rfl | rfl | rfl
    · exact zg_29_1
    · exact zg_29_2
    · exact zg_29_3
    · exact zg_29_4
    · exact zg_29_5
    · exact zg_29_6
    · exact zg_29_7
    · exact zg_29_8
    · exact zg_29_9
    · exact zg_29_10
    · exact zg_29_11
    · exact zg_29_12
  · rcases (by omega : k = 1 ∨ k = 2 ∨ k = 3 ∨ k = 4 ∨ k = 5 ∨ k = 6 ∨ k = 7 ∨ k = 8 ∨ k = 9 ∨ k = 10 ∨ k = 11 ∨ k = 12) with rfl | rfl | rfl | rfl | rfl | rfl | rfl | rfl | rfl | rfl | rfl | rfl
    · exact zgu_29_1
    · exact zgu_29_2
    · exact zgu_29_3
    · exact zgu_29_4
    · exact zgu_29_5
    · exact zgu_29_6
    · exact zgu_29_7
    · exact zgu_29_8
    · exact zgu_29_9
    · exact zgu_29_10
    · exact zgu_29_11
    · exact zgu_29_12
theorem zTrI {i : Int} (hi : 0 ≤ i ∧ i < 3) : zTr (31 + i) := by
  rcases (by omega : i = 0 ∨ i = 1 ∨ i = 2) with rfl | rfl | rfl
  · exact zTr_31
  · exact zTr_32
  · exact zTr_33
theorem zGuI {i : Int} (hi : 0 ≤ i ∧ i < 8) : zGu (15 + 2 * i) (16 + 2 * i) := by
  rcases (by omega : i = 0 ∨ i = 1 ∨ i = 2 ∨ i = 3 ∨ i = 4 ∨ i = 5 ∨ i = 6 ∨ i = 7) with rfl | rfl | rfl | rfl | rfl | rfl | rfl | rfl
  · exact zGu_15
  · exact zGu_17
  · exact zGu_19
  · exact zGu_21
  · exact zGu_23
  · exact zGu_25
  · exact zGu_27
  · exact zGu_29
theorem zE101 {S : zSs} {D n u : Nat} {g : Int → zk_K} {e : zm_D} {Q : ((Option zv_V) ⊕ Nat) → Nat → zk_S → zm_D → Nat → Prop} {q : Int} (H : zTr q) {x : Int} (h4 : q ≠ 4)  : zE S D 101 [zv_a q, zv_i x] n (zSg g) (zDg e) u Q ↔ Q (.inl none) n (zSg g) (zDg (zm_u (zm_u (zm_u e 4 0 (e 4 0 - x)) q 1 (e q 1 + x)) q 3 (e q 3 + x))) u := by
  obtain ⟨⟨p1, q1⟩, s1, f0, g1, u1⟩ := H
  simp (maxSteps := 10000000) (disch := first | omega | (simp (disch := omega) only [zm_ue, zm_un, zm_ri, zm_ro] <;> omega) | fail) only [zr_iadd, zr_isub, zr_aload, zr_iload, zr_dup_a, zr_getI, zr_getA, zr_putI, zr_vret, Int.reduceLT, zKa_s, zKi_s, zget_0, zget_s, zm_un, zaB_v, true_and, and_true, ze_101, zSg_4, zg_4_0, zgu_4_0, p1, s1, g1, u1, f0]
theorem zE102 {S : zSs} {D n u : Nat} {g : Int → zk_K} {e : zm_D} {Q : ((Option zv_V) ⊕ Nat) → Nat → zk_S → zm_D → Nat → Prop} {q : Int} (H : zTr q) {x : Int} (h4 : q ≠ 4)  : zE S D 102 [zv_a q, zv_i x] n (zSg g) (zDg e) u Q ↔ Q (.inl none) n (zSg g) (zDg (zm_u (zm_u (zm_u e q 1 (e q 1 - x)) 4 0 (e 4 0 + x)) q 4 (e q 4 + x))) u := by
  obtain ⟨⟨p1, q1⟩, s1, f0, g1, u1⟩ := H
  simp (maxSteps := 10000000) (disch := first | omega | (simp (disch := omega) only [zm_ue, zm_un, zm_ri, zm_ro] <;> omega) | fail) only [zr_iadd, zr_isub, zr_aload, zr_iload, zr_dup_a, zr_getI, zr_getA, zr_putI, zr_vret, Int.reduceLT, zKa_s, zKi_s, zget_0, zget_s, zm_un, zaB_v, true_and, and_true, ze_102, zSg_4, zg_4_0, zgu_4_0, p1, s1, g1, u1, f0]
theorem zE103 {S : zSs} {D n u : Nat} {g : Int → zk_K} {e : zm_D} {Q : ((Option zv_V) ⊕ Nat) → Nat → zk_S → zm_D → Nat → Prop} {q : Int} (H : zTr q) {x : Int} : zE S D 103 [zv_a q, zv_i x] n (zSg g) (zDg e) u Q ↔ Q (.inl none) n (zSg g) (zDg (zm_u e q 1 (e q 1 + x))) u := by
  obtain ⟨⟨p1, q1⟩, s1, f0, g1, u1⟩ := H
  simp (maxSteps := 10000000) (disch := first | omega | (simp (disch := omega) only [zm_ue, zm_un, zm_ri, zm_ro] <;> omega) | fail) only [zr_iadd, zr_aload, zr_iload, zr_dup_a, zr_getI, zr_putI, zr_vret, zKa_s, zKi_s, zget_0, zget_s, zaB_v, true_and, and_true, ze_103, p1, s1, g1, u1]
def zlk (x c : Int) : Int := if c < x then x - c else 0
theorem zlk_t {x c : Int} (h : c < x) : zlk x c = x - c := if_pos h
theorem zlk_f {x c : Int} (h : x ≤ c) : zlk x c = 0 := if_neg (by omega)
theorem zE104 {S : zSs} {D n u : Nat} {g : Int → zk_K} {e : zm_D} {Q : ((Option zv_V) ⊕ Nat) → Nat → zk_S → zm_D → Nat → Prop} {q : Int} (H : zTr q) {x : Int} (h4 : q ≠ 4) (hx : zB2 x) (hc : zB2 (e q 1)) (hD : 0 < D) : zE S D 104 [zv_a q, zv_i x] n (zSg g) (zDg e) u Q ↔ Q (.inl none) n (zSg g) (zDg (zm_u (zm_u (zm_u e 4 0 (e 4 0 - zlk x (e q 1))) q 3 (e q 3 + zlk x (e q 1))) q 1 (e q 1 + zlk x (e q 1) - x))) u := by
  obtain ⟨⟨p1, q1⟩, s1, f0, g1, u1⟩ := H
  have H2 : zTr q := ⟨⟨p1, q1⟩, s1, f0, g1, u1⟩
  unfold zB2 at hx hc
  have c3 : ∀ (d : zm_D) (a b c : Int), zm_u (zm_u (zm_u d q 1 a) q 3 b) q 1 c = zm_u (zm_u d q 3 b) q 1 c := by
    intro d a b c
    funext a j; simp only [zm_u]; repeat' split
    all_goals first | rfl | omega
  by_cases h : e q 1 < x
  · rw [zlk_t h]
    simp (maxSteps := 10000000) (disch := first | omega | (simp (disch := omega) only [zm_ue, zm_un, zm_ri, zm_ro] <;> omega) | fail) only [zr_isub, zr_aload, zr_iload, zr_fall, zr_dup_a, zr_getI, zr_putI, zr_vret, zr_callV, Nat.reduceLeDiff, zf_25, zKa_s, zKi_s, zKr_s, zget_0, zget_s, zpop_0, zpop_s, zA_n, zm_ue, zm_un, zaB_v, List.length_nil, true_and, and_true, zj_104_1, ze_104, p1, s1, g1, u1, zE101 H2 h4, hD, c3]
  · have e1 : zm_u e 4 0 (e 4 0 - 0) = e := zmu_self (Int.sub_zero _).symm
    have e2 : zm_u e q 3 (e q 3 + 0) = e := zmu_self (Int.add_zero _).symm
    rw [zlk_f (by omega), e1, e2, Int.add_zero]
    simp (maxSteps := 10000000) (disch := first | omega | (simp (disch := omega) only [zm_ue, zm_un, zm_ri, zm_ro] <;> omega) | fail) only [zr_isub, zr_aload, zr_iload, zr_dup_a, zr_getI, zr_putI, zr_vret, zt_25, zKa_s, zKi_s, zget_0, zget_s, zaB_v, true_and, and_true, zj_104_1, ze_104, p1, s1, g1, u1]
theorem zE105 {S : zSs} {D n u : Nat} {g : Int → zk_K} {e : zm_D} {Q : ((Option zv_V) ⊕ Nat) → Nat → zk_S → zm_D → Nat → Prop} {q : Int} (H : zTr q)  : zE S D 105 [zv_a q] n (zSg g) (zDg e) u Q ↔ Q (.inl (some (zv_i (e q 1 - e q 2 - e q 3 + e q 4)))) n (zSg g) (zDg e) u := by
  obtain ⟨⟨p1, q1⟩, s1, f0, g1, u1⟩ := H
  simp (maxSteps := 10000000) (disch := first | omega | (simp (disch := omega) only [zm_ue, zm_un, zm_ri, zm_ro] <;> omega) | fail) only [zr_iadd, zr_isub, zr_aload, zr_getI, zr_iret, zKa_s, zget_0, zaB_v, true_and, and_true, ze_105, p1, s1, g1]
theorem zE106 {S : zSs} {D n u : Nat} {g : Int → zk_K} {e : zm_D} {Q : ((Option zv_V) ⊕ Nat) → Nat → zk_S → zm_D → Nat → Prop} {q : Int} (H : zTr q)  : zE S D 106 [zv_a q] n (zSg g) (zDg e) u Q ↔ Q (.inl none) n (zSg g) (zDg (zm_u (zm_u (zm_u e q 2 (e q 1)) q 3 0) q 4 0)) u := by
  obtain ⟨⟨p1, q1⟩, s1, f0, g1, u1⟩ := H
  simp (maxSteps := 10000000) (disch := first | omega | (simp (disch := omega) only [zm_ue, zm_un, zm_ri, zm_ro] <;> omega) | fail) only [zr_iconst, zr_aload, zr_getI, zr_putI, zr_vret, zKa_s, zget_0, zaB_v, true_and, and_true, ze_106, p1, s1, g1, u1]
def zlt (x y : Int) : Int := if x < y then 1 else 0
theorem zlt_t {x y : Int} (h : x < y) : zlt x y = 1 := if_pos h
theorem zlt_f {x y : Int} (h : y ≤ x) : zlt x y = 0 := if_neg (by omega)
theorem zE21t {S : zSs} {D n u : Nat} {g : Int → zk_K} {e : zm_D} {Q : ((Option zv_V) ⊕ Nat) → Nat → zk_S → zm_D → Nat → Prop} {q p : Int} (H : zGu q p) {x : Int} (hx : zB2 x) (hb : zB2 (e q 6)) (h : x < e q 6) : zE S D 21 [zv_a q, zv_i x] n (zSg g) (zDg e) u Q ↔ Q (.inl (some (zv_i (1)))) n (zSg g) (zDg e) u := by
  obtain ⟨⟨p1, q1, p2, q2, p3⟩, s1, s2, f0, g1, g2, u1, u2⟩ := H
  unfold zB2 at hx hb
  simp (maxSteps := 10000000) (disch := first | omega | (simp (disch := omega) only [zm_ue, zm_un, zm_ri, zm_ro] <;> omega) | fail) only [zr_iconst, zr_aload, zr_iload, zr_goto, zr_getI, zr_zret, Int.reduceEq, or_true, zf_23, zKa_s, zKi_s, zget_0, zget_s, zaB_v, true_and, and_true, zj_21_2, ze_21, p1, s1, g1]
theorem zE21f {S : zSs} {D n u : Nat} {g : Int → zk_K} {e : zm_D} {Q : ((Option zv_V) ⊕ Nat) → Nat → zk_S → zm_D → Nat → Prop} {q p : Int} (H : zGu q p) {x : Int} (hx : zB2 x) (hb : zB2 (e q 6)) (h : e q 6 ≤ x) : zE S D 21 [zv_a q, zv_i x] n (zSg g) (zDg e) u Q ↔ Q (.inl (some (zv_i (0)))) n (zSg g) (zDg e) u := by
  obtain ⟨⟨p1, q1, p2, q2, p3⟩, s1, s2, f0, g1, g2, u1, u2⟩ := H
  unfold zB2 at hx hb
  simp (maxSteps := 10000000) (disch := first | omega | (simp (disch := omega) only [zm_ue, zm_un, zm_ri, zm_ro] <;> omega) | fail) only [zr_iconst, zr_aload, zr_iload, zr_fall, zr_getI, zr_zret, Int.reduceEq, true_or, zt_23, zKa_s, zKi_s, zget_0, zget_s, zaB_v, true_and, and_true, zj_21_1, zj_21_2, ze_21, p1, s1, g1]
theorem zE22t {S : zSs} {D n u : Nat} {g : Int → zk_K} {e : zm_D} {Q : ((Option zv_V) ⊕ Nat) → Nat → zk_S → zm_D → Nat → Prop} {q p : Int} (H : zGu q p) {x y : Int} (hx : zB2 x) (hy : zB2 y) (h2 : zB2 (e q 2)) (h3 : zB2 (e q 3)) (h5 : zB2 (e q 5)) (h6 : zB2 (e q 6)) (hD : 0 < D) (h : e q 6 ≤ y ∧ x ≤ e q 2 ∧ e q 5 + x ≤ e q 3) : zE S D 22 [zv_a q, zv_i x, zv_i y] n (zSg g) (zDg e) u Q ↔ Q (.inl (some (zv_i (1)))) n (zSg g) (zDg e) u := by
  obtain ⟨⟨p1, q1, p2, q2, p3⟩, s1, s2, f0, g1, g2, u1, u2⟩ := H
  have H2 : zGu q p := ⟨⟨p1, q1, p2, q2, p3⟩, s1, s2, f0, g1, g2, u1, u2⟩
  have k1 := hy
  have k2 := h6
  unfold zB2 at hx hy h2 h3 h5 h6
  have r1 := fun {S D n u g Q} => @zE21f S D n u g e Q q p H2 y k1 k2 h.1
  simp (maxSteps := 10000000) (disch := first | omega | (simp (disch := omega) only [zm_ue, zm_un, zm_ri, zm_ro] <;> omega) | fail) only [zr_iadd, zr_iconst, zr_aload, zr_iload, zr_goto, zr_getI, zr_zret, zr_callV, Nat.reduceLeDiff, Int.reduceEq, or_true, zf_15, zf_24, zKa_s, zKi_s, zKr_s, zget_0, zget_s, zpop_0, zpop_s, zA_s, zaB_v, List.length_nil, true_and, and_true, zj_22_2, ze_22, p1, s1, g1, r1, hD]
theorem zE22f {S : zSs} {D n u : Nat} {g : Int → zk_K} {e : zm_D} {Q : ((Option zv_V) ⊕ Nat) → Nat → zk_S → zm_D → Nat → Prop} {q p : Int} (H : zGu q p) {x y : Int} (hx : zB2 x) (hy : zB2 y) (h2 : zB2 (e q 2)) (h3 : zB2 (e q 3)) (h5 : zB2 (e q 5)) (h6 : zB2 (e q 6)) (hD : 0 < D) (h : y < e q 6 ∨ e q 2 < x ∨ e q 3 < e q 5 + x) : zE S D 22 [zv_a q, zv_i x, zv_i y] n (zSg g) (zDg e) u Q ↔ Q (.inl (some (zv_i (0)))) n (zSg g) (zDg e) u := by
  obtain ⟨⟨p1, q1, p2, q2, p3⟩, s1, s2, f0, g1, g2, u1, u2⟩ := H
  have H2 : zGu q p := ⟨⟨p1, q1, p2, q2, p3⟩, s1, s2, f0, g1, g2, u1, u2⟩
  have k1 := hy
  have k2 := h6
  unfold zB2 at hx hy h2 h3 h5 h6
  by_cases hb : y < e q 6
  · have r1 := fun {S D n u g Q} => @zE21t S D n u g e Q q p H2 y k1 k2 hb
    simp (maxSteps := 10000000) (disch := first | omega | (simp (disch := omega) only [zm_ue, zm_un, zm_ri, zm_ro] <;> omega) | fail) only [zr_iconst, zr_aload, zr_iload, zr_fall, zr_zret, zr_callV, Nat.reduceLeDiff, Int.reduceEq, true_or, zt_15, zKa_s, zKi_s, zKr_s, zget_0, zget_s, zpop_0, zpop_s, zA_s, zaB_v, List.length_nil, true_and, and_true, zj_22_1, zj_22_2, ze_22, p1, s1, r1, hD]
  · have r1 := fun {S D n u g Q} => @zE21f S D n u g e Q q p H2 y k1 k2 (by omega)
    by_cases hc : e q 2 < x
    · skip
      simp (maxSteps := 10000000) (disch := first | omega | (simp (disch := omega) only [zm_ue, zm_un, zm_ri, zm_ro] <;> omega) | fail) only [zr_iconst, zr_aload, zr_iload, zr_fall, zr_getI, zr_zret, zr_callV, Nat.reduceLeDiff, Int.reduceEq, true_or, zf_15, zt_24, zKa_s, zKi_s, zKr_s, zget_0, zget_s, zpop_0, zpop_s, zA_s, zaB_v, List.length_nil, true_and, and_true, zj_22_1, zj_22_2, ze_22, p1, s1, g1, r1, hD]
    · have hd : e q 3 < e q 5 + x := by omega
      clear h
      simp (maxSteps := 10000000) (disch := first | omega | (simp (disch := omega) only [zm_ue, zm_un, zm_ri, zm_ro] <;> omega) | fail) only [zr_iadd, zr_iconst, zr_aload, zr_iload, zr_fall, zr_getI, zr_zret, zr_callV, Nat.reduceLeDiff, Int.reduceEq, true_or, zf_15, zt_24, zf_24, zKa_s, zKi_s, zKr_s, zget_0, zget_s, zpop_0, zpop_s, zA_s, zaB_v, List.length_nil, true_and, and_true, zj_22_1, zj_22_2, ze_22, p1, s1, g1, r1, hD]
theorem zE23 {S : zSs} {D n u : Nat} {g : Int → zk_K} {e : zm_D} {Q : ((Option zv_V) ⊕ Nat) → Nat → zk_S → zm_D → Nat → Prop} {q p : Int} (H : zGu q p) {x : Int} : zE S D 23 [zv_a q, zv_i x] n (zSg g) (zDg e) u Q ↔ Q (.inl none) n (zSg g) (zDg (zm_u (zm_u e q 2 (e q 2 - x)) q 5 (e q 5 + x))) u := by
  obtain ⟨⟨p1, q1, p2, q2, p3⟩, s1, s2, f0, g1, g2, u1, u2⟩ := H
  simp (maxSteps := 10000000) (disch := first | omega | (simp (disch := omega) only [zm_ue, zm_un, zm_ri, zm_ro] <;> omega) | fail) only [zr_iadd, zr_isub, zr_aload, zr_iload, zr_dup_a, zr_getI, zr_putI, zr_vret, zKa_s, zKi_s, zget_0, zget_s, zm_un, zaB_v, true_and, and_true, ze_23, p1, s1, g1, u1]
def zrp (b x : Int) : Int := if b < 1000 ∧ 1000 ≤ b + x then 1 else 0
theorem zrp_t {b x : Int} (h : b < 1000 ∧ 1000 ≤ b + x) : zrp b x = 1 := if_pos h
theorem zrp_f {b x : Int} (h : ¬ (b < 1000 ∧ 1000 ≤ b + x)) : zrp b x = 0 := if_neg h
theorem zE24 {S : zSs} {D n u : Nat} {g : Int → zk_K} {e : zm_D} {Q : ((Option zv_V) ⊕ Nat) → Nat → zk_S → zm_D → Nat → Prop} {q p : Int} (H : zGu q p) {x : Int} (hx : zB2 x) (h7 : zB2 (e q 7)) : zE S D 24 [zv_a q, zv_i x] n (zSg g) (zDg e) u Q ↔ Q (.inl none) n (zSg g) (zDg (zm_u (zm_u (zm_u (zm_u e q 1 (e q 1 - x)) q 2 (e q 2 + x)) q 8 (e q 8 + zrp (e q 7) x)) q 7 (e q 7 + x))) u := by
  obtain ⟨⟨p1, q1, p2, q2, p3⟩, s1, s2, f0, g1, g2, u1, u2⟩ := H
  unfold zB2 at hx h7
  by_cases h : e q 7 < 1000
  · by_cases h2 : 1000 ≤ e q 7 + x
    · rw [zrp_t ⟨h, h2⟩]
      simp (maxSteps := 10000000) (disch := first | omega | (simp (disch := omega) only [zm_ue, zm_un, zm_ri, zm_ro] <;> omega) | fail) only [zr_iadd, zr_isub, zr_iconst, zr_aload, zr_iload, zr_fall, zr_dup_a, zr_getI, zr_putI, zr_vret, zf_22, zf_23, zKa_s, zKi_s, zget_0, zget_s, zm_un, zaB_v, true_and, and_true, zj_24_1, ze_24, p1, s1, g1, u1]
    · have e8 : ∀ a b : Int, zm_u (zm_u (zm_u e q 1 a) q 2 b) q 8 (e q 8 + 0) = zm_u (zm_u e q 1 a) q 2 b := fun a b => zmu_self (by rw [zm_un (Or.inr (by decide)), zm_un (Or.inr (by decide)), Int.add_zero])
      rw [zrp_f (by omega), e8]
      simp (maxSteps := 10000000) (disch := first | omega | (simp (disch := omega) only [zm_ue, zm_un, zm_ri, zm_ro] <;> omega) | fail) only [zr_iadd, zr_isub, zr_iconst, zr_aload, zr_iload, zr_dup_a, zr_getI, zr_putI, zr_vret, zt_22, zf_23, zKa_s, zKi_s, zget_0, zget_s, zm_un, zaB_v, true_and, and_true, zj_24_1, ze_24, p1, s1, g1, u1]
  · have e8 : ∀ a b : Int, zm_u (zm_u (zm_u e q 1 a) q 2 b) q 8 (e q 8 + 0) = zm_u (zm_u e q 1 a) q 2 b := fun a b => zmu_self (by rw [zm_un (Or.inr (by decide)), zm_un (Or.inr (by decide)), Int.add_zero])
    rw [zrp_f (by omega), e8]
    simp (maxSteps := 10000000) (disch := first | omega | (simp (disch := omega) only [zm_ue, zm_un, zm_ri, zm_ro] <;> omega) | fail) only [zr_iadd, zr_isub, zr_iconst, zr_aload, zr_iload, zr_dup_a, zr_getI, zr_putI, zr_vret, zt_23, zKa_s, zKi_s, zget_0, zget_s, zm_un, zaB_v, true_and, and_true, zj_24_1, ze_24, p1, s1, g1, u1]
theorem zE25t {S : zSs} {D n u : Nat} {g : Int → zk_K} {e : zm_D} {Q : ((Option zv_V) ⊕ Nat) → Nat → zk_S → zm_D → Nat → Prop} {q p : Int} (H : zGu q p) {x : Int} (hx : zB2 x) (h3 : zB2 (e q 3)) (h : x < e q 3) : zE S D 25 [zv_a q, zv_i x] n (zSg g) (zDg e) u Q ↔ Q (.inl none) n (zSg g) (zDg (zm_u (zm_u e q 4 x) q 3 x)) u := by
  obtain ⟨⟨p1, q1, p2, q2, p3⟩, s1, s2, f0, g1, g2, u1, u2⟩ := H
  unfold zB2 at hx h3
  simp (maxSteps := 10000000) (disch := first | omega | (simp (disch := omega) only [zm_ue, zm_un, zm_ri, zm_ro] <;> omega) | fail) only [zr_aload, zr_iload, zr_fall, zr_getI, zr_putI, zr_vret, zf_23, zKa_s, zKi_s, zget_0, zget_s, zm_un, zaB_v, true_and, and_true, zj_25_1, ze_25, p1, s1, g1, u1]
theorem zE25f {S : zSs} {D n u : Nat} {g : Int → zk_K} {e : zm_D} {Q : ((Option zv_V) ⊕ Nat) → Nat → zk_S → zm_D → Nat → Prop} {q p : Int} (H : zGu q p) {x : Int} (hx : zB2 x) (h3 : zB2 (e q 3)) (h : e q 3 ≤ x) : zE S D 25 [zv_a q, zv_i x] n (zSg g) (zDg e) u Q ↔ Q (.inl none) n (zSg g) (zDg (zm_u e q 4 x)) u := by
  obtain ⟨⟨p1, q1, p2, q2, p3⟩, s1, s2, f0, g1, g2, u1, u2⟩ := H
  unfold zB2 at hx h3
  simp (maxSteps := 10000000) (disch := first | omega | (simp (disch := omega) only [zm_ue, zm_un, zm_ri, zm_ro] <;> omega) | fail) only [zr_aload, zr_iload, zr_getI, zr_putI, zr_vret, zt_23, zKa_s, zKi_s, zget_0, zget_s, zm_un, zaB_v, true_and, and_true, zj_25_1, ze_25, p1, s1, g1, u1]
theorem zE26 {S : zSs} {D n u : Nat} {g : Int → zk_K} {e : zm_D} {Q : ((Option zv_V) ⊕ Nat) → Nat → zk_S → zm_D → Nat → Prop} {q p : Int} (H : zGu q p)  : zE S D 26 [zv_a q] n (zSg g) (zDg e) u Q ↔ Q (.inl none) n (zSg g) (zDg (zm_u (zm_u (zm_u e q 3 (e q 4)) q 5 0) q 7 0)) u := by
  obtain ⟨⟨p1, q1, p2, q2, p3⟩, s1, s2, f0, g1, g2, u1, u2⟩ := H
  simp (maxSteps := 10000000) (disch := first | omega | (simp (disch := omega) only [zm_ue, zm_un, zm_ri, zm_ro] <;> omega) | fail) only [zr_iconst, zr_aload, zr_getI, zr_putI, zr_vret, zKa_s, zget_0, zaB_v, true_and, and_true, ze_26, p1, s1, g1, u1]
theorem zE27t {S : zSs} {D n u : Nat} {g : Int → zk_K} {e : zm_D} {Q : ((Option zv_V) ⊕ Nat) → Nat → zk_S → zm_D → Nat → Prop} {q p : Int} (H : zGu q p) {x : Int} : zE S D 27 [zv_a q, zv_i x, zv_i 1] n (zSg g) (zDg e) u Q ↔ Q (.inl none) n (zSg g) (zDg (zm_u (zm_u e q 9 (e q 9 + 1)) q 10 (e q 10 + x))) u := by
  obtain ⟨⟨p1, q1, p2, q2, p3⟩, s1, s2, f0, g1, g2, u1, u2⟩ := H
  simp (maxSteps := 10000000) (disch := first | omega | (simp (disch := omega) only [zm_ue, zm_un, zm_ri, zm_ro] <;> omega) | fail) only [zr_iadd, zr_iconst, zr_aload, zr_iload, zr_goto, zr_dup_a, zr_getI, zr_putI, zr_vret, zf_14, zKa_s, zKi_s, zget_0, zget_s, zm_un, zaB_v, true_and, and_true, zj_27_2, ze_27, p1, s1, g1, u1]
theorem zE27f {S : zSs} {D n u : Nat} {g : Int → zk_K} {e : zm_D} {Q : ((Option zv_V) ⊕ Nat) → Nat → zk_S → zm_D → Nat → Prop} {q p : Int} (H : zGu q p) {x : Int} : zE S D 27 [zv_a q, zv_i x, zv_i 0] n (zSg g) (zDg e) u Q ↔ Q (.inl none) n (zSg g) (zDg (zm_u (zm_u e q 11 (e q 11 + 1)) q 12 (e q 12 + x))) u := by
  obtain ⟨⟨p1, q1, p2, q2, p3⟩, s1, s2, f0, g1, g2, u1, u2⟩ := H
  simp (maxSteps := 10000000) (disch := first | omega | (simp (disch := omega) only [zm_ue, zm_un, zm_ri, zm_ro] <;> omega) | fail) only [zr_iadd, zr_iconst, zr_aload, zr_iload, zr_fall, zr_dup_a, zr_getI, zr_putI, zr_vret, zt_14, zKa_s, zKi_s, zget_0, zget_s, zm_un, zaB_v, true_and, and_true, zj_27_1, zj_27_2, ze_27, p1, s1, g1, u1]
theorem zE29 {S : zSs} {D n u : Nat} {g : Int → zk_K} {e : zm_D} {Q : ((Option zv_V) ⊕ Nat) → Nat → zk_S → zm_D → Nat → Prop} {q p : Int} (H : zGu q p) {x y : Int} (hy : 0 ≤ y ∧ y < 1000000) (hD : 0 < D) : zE S D 29 [zv_a q, zv_i y, zv_i x] n (zSg g) (zDg e) u Q ↔ Q (.inl none) n (zSg g) (zDg (zm_u e p (y % 4) (e p (y % 4) + x))) u := by
  obtain ⟨⟨p1, q1, p2, q2, p3⟩, s1, s2, f0, g1, g2, u1, u2⟩ := H
  have b4 : 0 ≤ y % 4 ∧ y % 4 < 4 := by omega
  simp (maxSteps := 10000000) (disch := first | omega | (simp (disch := omega) only [zm_ue, zm_un, zm_ri, zm_ro] <;> omega) | fail) only [zr_iadd, zr_iconst, zr_aload, zr_iload, zr_istore, zr_fall, zr_dup2_ia, zr_getA, zr_iaload, zr_iastore, zr_alen, zr_vret, zr_callS, Nat.reduceAdd, Nat.reduceLeDiff, zcast, zf_16, zf_23, zKa_s, zKi_s, zO_s, zKp_s, zget_0, zget_s, zst1_0, zst1_1, zst1_s, zk1_i, zpop_0, zpop_s, zA_s, zw_id, zaB_v, zaI_v, zaX_v, List.length_nil, true_and, and_true, zj_29_1, ze_29, p1, s1, f0, p2, s2, g2, u2, zE325, b4, hD]
theorem zE30 {S : zSs} {D n u : Nat} {g : Int → zk_K} {e : zm_D} {Q : ((Option zv_V) ⊕ Nat) → Nat → zk_S → zm_D → Nat → Prop} {q p : Int} (H : zGu q p) {y : Int} (hy : 0 ≤ y ∧ y < 1000000) (hD : 0 < D) : zE S D 30 [zv_a q, zv_i y] n (zSg g) (zDg e) u Q ↔ Q (.inl (some (zv_i (e p (y % 4))))) n (zSg g) (zDg (zm_u e p (y % 4) 0)) u := by
  obtain ⟨⟨p1, q1, p2, q2, p3⟩, s1, s2, f0, g1, g2, u1, u2⟩ := H
  have b4 : 0 ≤ y % 4 ∧ y % 4 < 4 := by omega
  simp (maxSteps := 10000000) (disch := first | omega | (simp (disch := omega) only [zm_ue, zm_un, zm_ri, zm_ro] <;> omega) | fail) only [zr_iconst, zr_aload, zr_iload, zr_istore, zr_getA, zr_iaload, zr_iastore, zr_alen, zr_iret, zr_callS, Nat.reduceAdd, Nat.reduceLeDiff, zcast, zf_16, zt_22, zKa_s, zKi_s, zO_s, zKp_s, zget_0, zget_s, zst1_0, zst1_1, zst1_s, zk1_i, zpop_0, zpop_s, zA_s, zw_id, zaB_v, zaI_v, zaX_v, List.length_nil, true_and, and_true, zj_30_2, ze_30, p1, s1, f0, p2, s2, g2, u2, zE325, b4, hD]
theorem zE31 {S : zSs} {D n u : Nat} {g : Int → zk_K} {e : zm_D} {Q : ((Option zv_V) ⊕ Nat) → Nat → zk_S → zm_D → Nat → Prop} {q p : Int} (H : zGu q p)  : zE S D 31 [zv_a q] n (zSg g) (zDg e) u Q ↔ Q (.inl (some (zv_i (0 + e p 0 + e p 1 + e p 2 + e p 3)))) n (zSg g) (zDg e) u := by
  obtain ⟨⟨p1, q1, p2, q2, p3⟩, s1, s2, f0, g1, g2, u1, u2⟩ := H
  simp (maxSteps := 10000000) (disch := first | omega | (simp (disch := omega) only [zm_ue, zm_un, zm_ri, zm_ro] <;> omega) | fail) only [zr_iadd, zr_iconst, zr_aload, zr_iload, zr_astore, zr_istore, zr_iinc, zr_goto, zr_fall, zr_getA, zr_iaload, zr_alen, zr_iret, Nat.reduceAdd, Nat.reduceLeDiff, Int.reduceAdd, Int.reduceLT, Int.reduceLE, zcast, zt_23, zf_23, zKa_s, zKi_s, zO_s, zget_0, zget_s, zst1_0, zst1_1, zst1_s, zk1_i, zk1_a, zw_id, zaB_v, zaI_v, zaX_v, true_and, and_true, zj_31_1, zj_31_2, ze_31, p1, s1, f0, p2, s2, g2]
theorem zE32 {S : zSs} {D n u : Nat} {g : Int → zk_K} {e : zm_D} {Q : ((Option zv_V) ⊕ Nat) → Nat → zk_S → zm_D → Nat → Prop} {q p : Int} (H : zGu q p) (hD : 0 < D) : zE S D 32 [zv_a q] n (zSg g) (zDg e) u Q ↔ Q (.inl none) n (zSg g) (zDg (zm_row e p 4 (fun _ => 0))) u := by
  obtain ⟨⟨p1, q1, p2, q2, p3⟩, s1, s2, f0, g1, g2, u1, u2⟩ := H
  simp (maxSteps := 10000000) (disch := first | omega | (simp (disch := omega) only [zm_ue, zm_un, zm_ri, zm_ro] <;> omega) | fail) only [zr_iconst, zr_aload, zr_getA, zr_vret, zr_callS, Nat.reduceLeDiff, zKa_s, zKp_s, zget_0, zpop_0, zpop_s, zA_n, zaB_v, List.length_nil, true_and, and_true, ze_32, p1, s1, f0, zE328 (M := 4) (N := 4) rfl (by decide) p2 s2 u2, hD]
def zsp (a b c d : Int) : Int := if 3 ≤ a ∧ 3 ≤ c ∧ 3 * d * a ≤ b * c then 1 else 0
theorem zprod {x y : Int} (hx : 0 ≤ x ∧ x ≤ 1000000) (hy : 0 ≤ y ∧ y ≤ 1000000) : 0 ≤ x * y ∧ x * y ≤ 1000000000000 := by
  constructor
  · exact Int.mul_nonneg hx.1 hy.1
  · exact Int.le_trans (Int.mul_le_mul_of_nonneg_right hx.2 hy.1) (by omega)
theorem zE28 {S : zSs} {D n u : Nat} {g : Int → zk_K} {e : zm_D} {Q : ((Option zv_V) ⊕ Nat) → Nat → zk_S → zm_D → Nat → Prop} {q p : Int} (H : zGu q p) (h9 : 0 ≤ e q 9 ∧ e q 9 ≤ 1000000) (h10 : 0 ≤ e q 10 ∧ e q 10 ≤ 1000000) (h11 : 0 ≤ e q 11 ∧ e q 11 ≤ 1000000) (h12 : 0 ≤ e q 12 ∧ e q 12 ≤ 1000000) : zE S D 28 [zv_a q] n (zSg g) (zDg e) u Q ↔ Q (.inl (some (zv_i (zsp (e q 9) (e q 10) (e q 11) (e q 12))))) n (zSg g) (zDg e) u := by
  obtain ⟨⟨p1, q1, p2, q2, p3⟩, s1, s2, f0, g1, g2, u1, u2⟩ := H
  have m1 := zprod h10 h11
  have m2 := zprod h12 h9
  have m3 : 3 * e q 12 * e q 9 = 3 * (e q 12 * e q 9) := Int.mul_assoc _ _ _
  by_cases c1 : 3 ≤ e q 9
  · by_cases c2 : 3 ≤ e q 11
    · by_cases c3 : 3 * e q 12 * e q 9 ≤ e q 10 * e q 11
      · rw [show zsp (e q 9) (e q 10) (e q 11) (e q 12) = 1 from if_pos ⟨c1, c2, c3⟩]
        rcases (by omega : 3 * e q 12 * e q 9 < e q 10 * e q 11 ∨ 3 * e q 12 * e q 9 = e q 10 * e q 11) with c4 | c4
        · skip
          simp (maxSteps := 10000000) (disch := first | omega | (simp (disch := omega) only [zm_ue, zm_un, zm_ri, zm_ro] <;> omega) | fail) only [zr_i2l, zr_lmul, zr_lcmp, zr_iconst, zr_lconst, zr_aload, zr_goto, zr_getI, zr_zret, Int.reduceEq, or_true, zf_16, zf_22, zKa_s, zget_0, zw_id, zaB_v, true_and, and_true, zlcm_gt, zj_28_2, ze_28, p1, s1, g1, zlcm_gt]
        · skip
          simp (maxSteps := 10000000) (disch := first | omega | (simp (disch := omega) only [zm_ue, zm_un, zm_ri, zm_ro] <;> omega) | fail) only [zr_i2l, zr_lmul, zr_lcmp, zr_iconst, zr_lconst, zr_aload, zr_goto, zr_getI, zr_zret, Int.reduceEq, or_true, zf_16, zf_22, zKa_s, zget_0, zw_id, zaB_v, true_and, and_true, zlcm_eq, zj_28_2, ze_28, p1, s1, g1, zlcm_eq]
      · rw [show zsp (e q 9) (e q 10) (e q 11) (e q 12) = 0 from if_neg (fun h => c3 h.2.2)]
        simp (maxSteps := 10000000) (disch := first | omega | (simp (disch := omega) only [zm_ue, zm_un, zm_ri, zm_ro] <;> omega) | fail) only [zr_i2l, zr_lmul, zr_lcmp, zr_iconst, zr_lconst, zr_aload, zr_fall, zr_getI, zr_zret, Int.reduceNeg, Int.reduceEq, true_or, zt_16, zf_22, zKa_s, zget_0, zw_id, zaB_v, true_and, and_true, zlcm_lt, zj_28_1, zj_28_2, ze_28, p1, s1, g1, zlcm_lt]
    · rw [show zsp (e q 9) (e q 10) (e q 11) (e q 12) = 0 from if_neg (fun h => c2 h.2.1)]
      simp (maxSteps := 10000000) (disch := first | omega | (simp (disch := omega) only [zm_ue, zm_un, zm_ri, zm_ro] <;> omega) | fail) only [zr_iconst, zr_aload, zr_fall, zr_getI, zr_zret, Int.reduceEq, true_or, zt_22, zf_22, zKa_s, zget_0, zaB_v, true_and, and_true, zj_28_1, zj_28_2, ze_28, p1, s1, g1]
  · rw [show zsp (e q 9) (e q 10) (e q 11) (e q 12) = 0 from if_neg (fun h => c1 h.1)]
    simp (maxSteps := 10000000) (disch := first | omega | (simp (disch := omega) only [zm_ue, zm_un, zm_ri, zm_ro] <;> omega) | fail) only [zr_iconst, zr_aload, zr_fall, zr_getI, zr_zret, Int.reduceEq, true_or, zt_22, zKa_s, zget_0, zaB_v, true_and, and_true, zj_28_1, zj_28_2, ze_28, p1, s1, g1]
