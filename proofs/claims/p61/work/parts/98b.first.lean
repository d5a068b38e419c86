/-! ===== FIRST: what holds behind the constructors ===== -/
set_option maxRecDepth 65536
theorem zFt_D : ((List.range 162).all fun r => (List.range ((zFt.getD r []).length)).all fun k => match (zFt.getD r []).getD k none with | none => true | some v => decide (k < zTbN.getD r 0) && decide ((zTbD.getD r []).getD k 0 = v)) = true := by decide +kernel
theorem zFt_l : zFt.length ≤ 162 := by decide +kernel
theorem zDg_D0 : zDg zD0 = zD0 := by
  funext r k
  unfold zDg
  cases h : zFn r k with
  | none => rfl
  | some v =>
    show v = zD0 r k
    unfold zFn at h
    split at h
    · rename_i hk
      obtain ⟨a, ha⟩ : ∃ a : Nat, r = (a : Int) := ⟨r.toNat, by omega⟩
      obtain ⟨b, hb⟩ : ∃ b : Nat, k = (b : Int) := ⟨k.toNat, by omega⟩
      subst ha
      subst hb
      rw [Int.toNat_natCast, Int.toNat_natCast] at h
      rcases Nat.lt_or_ge a 162 with h1 | h1
      · rcases Nat.lt_or_ge b ((zFt.getD a []).length) with h2 | h2
        · have q := List.all_eq_true.1 (List.all_eq_true.1 zFt_D a (List.mem_range.2 h1)) b (List.mem_range.2 h2)
          rw [h] at q
          have q2 := Bool.and_eq_true_iff.1 q
          rw [zD0_tab a h1 b (of_decide_eq_true q2.1)]
          exact (of_decide_eq_true q2.2).symm
        · rw [List.getD_eq_getElem?_getD, List.getElem?_eq_none h2] at h
          cases h
      · have e : zFt.getD a [] = [] := by
          have := zFt_l
          rw [List.getD_eq_getElem?_getD, List.getElem?_eq_none (by omega)]
          rfl
        rw [e] at h
        cases h
    · cases h
theorem zF_Ig : zIg 0 zD0 := by
  intro i hi
  rcases (by omega : i = 0 ∨ i = 1 ∨ i = 2 ∨ i = 3 ∨ i = 4 ∨ i = 5 ∨ i = 6 ∨ i = 7) with z | z | z | z | z | z | z | z
  all_goals subst z
  all_goals simp only [Int.mul_zero, Int.add_zero, Int.mul_one, Int.reduceMul, Int.reduceAdd, zD0_15_1, zD0_15_2, zD0_15_3, zD0_15_4, zD0_15_5, zD0_15_6, zD0_15_7, zD0_15_8, zD0_15_9, zD0_15_10, zD0_15_11, zD0_15_12, zD0_17_1, zD0_17_2, zD0_17_3, zD0_17_4, zD0_17_5, zD0_17_6, zD0_17_7, zD0_17_8, zD0_17_9, zD0_17_10, zD0_17_11, zD0_17_12, zD0_19_1, zD0_19_2, zD0_19_3, zD0_19_4, zD0_19_5, zD0_19_6, zD0_19_7, zD0_19_8, zD0_19_9, zD0_19_10, zD0_19_11, zD0_19_12, zD0_21_1, zD0_21_2, zD0_21_3, zD0_21_4, zD0_21_5, zD0_21_6, zD0_21_7, zD0_21_8, zD0_21_9, zD0_21_10, zD0_21_11, zD0_21_12, zD0_23_1, zD0_23_2, zD0_23_3, zD0_23_4, zD0_23_5, zD0_23_6, zD0_23_7, zD0_23_8, zD0_23_9, zD0_23_10, zD0_23_11, zD0_23_12, zD0_25_1, zD0_25_2, zD0_25_3, zD0_25_4, zD0_25_5, zD0_25_6, zD0_25_7, zD0_25_8, zD0_25_9, zD0_25_10, zD0_25_11, zD0_25_12, zD0_27_1, zD0_27_2, zD0_27_3, zD0_27_4, zD0_27_5, zD0_27_6, zD0_27_7, zD0_27_8, zD0_27_9, zD0_27_10, zD0_27_11, zD0_27_12, zD0_29_1, zD0_29_2, zD0_29_3, zD0_29_4, zD0_29_5, zD0_29_6, zD0_29_7, zD0_29_8, zD0_29_9, zD0_29_10, zD0_29_11, zD0_29_12]
  all_goals decide
theorem zF_Ih {h c : Int} (h1 : zD0 h 1 = 0) (h2 : zD0 h 2 = 0) (h3 : zD0 h 3 = 0) (h4 : zD0 h 4 = 0) (h5 : zD0 h 5 = 0) (h6 : zD0 h 6 = 0) : zIh (zD0 34 4) zD0 h c := by
  unfold zIh
  rw [h1, h2, h3, h4, h5, h6]
  exact ⟨by decide, by decide, by decide, by decide, by decide, by decide, fun z => absurd z (by decide), ⟨rfl, rfl⟩, fun k p1 p2 => by omega⟩
theorem zF_Ic : zIc zD0 := by
  refine ⟨fun i q1 q2 => ?_, ⟨by rw [zD0_36_1, zD0_36_2]; decide, by rw [zD0_36_2]; decide, by rw [zD0_36_3]; decide, by rw [zD0_36_1, zD0_36_2, zD0_36_3]; exact ⟨rfl, rfl⟩, fun k p1 p2 => by rw [zD0_36_1] at p2; omega⟩, by rw [zD0_34_4, zD0_34_5, zD0_34_6, zD0_34_7, zD0_34_8]; decide, fun z => by rw [zD0_34_4] at z; exact absurd z (by decide)⟩
  rcases (by omega : i = 0 ∨ i = 1 ∨ i = 2) with z | z | z
  all_goals subst z
  all_goals simp only [Int.mul_zero, Int.add_zero, Int.mul_one, Int.reduceMul, Int.reduceAdd]
  · exact ⟨zF_Ih zD0_39_1 zD0_39_2 zD0_39_3 zD0_39_4 zD0_39_5 zD0_39_6, zF_Ih zD0_41_1 zD0_41_2 zD0_41_3 zD0_41_4 zD0_41_5 zD0_41_6, by rw [zD0_38_3]; decide, .inl zD0_38_2, fun _ => ⟨zD0_39_4, zD0_41_4⟩, fun _ => ⟨zD0_41_1, zD0_41_4, zD0_41_5⟩⟩
  · exact ⟨zF_Ih zD0_44_1 zD0_44_2 zD0_44_3 zD0_44_4 zD0_44_5 zD0_44_6, zF_Ih zD0_46_1 zD0_46_2 zD0_46_3 zD0_46_4 zD0_46_5 zD0_46_6, by rw [zD0_43_3]; decide, .inl zD0_43_2, fun _ => ⟨zD0_44_4, zD0_46_4⟩, fun _ => ⟨zD0_46_1, zD0_46_4, zD0_46_5⟩⟩
  · exact ⟨zF_Ih zD0_49_1 zD0_49_2 zD0_49_3 zD0_49_4 zD0_49_5 zD0_49_6, zF_Ih zD0_51_1 zD0_51_2 zD0_51_3 zD0_51_4 zD0_51_5 zD0_51_6, by rw [zD0_48_3]; decide, .inl zD0_48_2, fun _ => ⟨zD0_49_4, zD0_51_4⟩, fun _ => ⟨zD0_51_1, zD0_51_4, zD0_51_5⟩⟩
theorem zF_In : zIn 0 zD0 := by
  refine ⟨by decide, by unfold zIa; rw [zD0_1_9, zD0_1_10]; decide, zF_Ig, by unfold zIv; rw [zD0_4_0]; decide, fun i q1 q2 => ?_, ⟨⟨by rw [zD0_5_4, zD0_5_5]; decide, fun i q1 q2 => by rw [zD0_5_4] at q1; rw [zD0_5_5] at q2; omega⟩, by rw [zD0_5_7]; decide, by rw [zD0_5_6]; decide, fun r q1 q2 => ?_, fun r q1 q2 => by rw [zDz_9 (by omega) (by omega)]; decide⟩, zF_Ic, ⟨by rw [zD0_53_5]; decide, fun i q1 q2 => by rw [zD0_53_5] at q2; omega⟩, ⟨⟨fun p q1 q2 => by rw [zDz_59 q1 q2]; decide, fun p q1 q2 => by rw [zDz_60 q1 (by omega)]; decide, by rw [zD0_58_6]; decide, by rw [zD0_58_8]; decide⟩, by rw [zD0_58_7]; decide, .inl zD0_58_5, by rw [zD0_58_3]; decide, by rw [zD0_58_4]; decide⟩, ⟨⟨by rw [zD0_12_2]; decide, fun i q1 q2 => by rw [zD0_12_2] at q2; omega⟩, by rw [zD0_12_3]; decide⟩⟩
  · rcases (by omega : i = 0 ∨ i = 1 ∨ i = 2) with z | z | z
    all_goals subst z
    all_goals simp only [Int.mul_zero, Int.add_zero, Int.mul_one, Int.reduceMul, Int.reduceAdd, zD0_31_1, zD0_32_1, zD0_33_1]
    all_goals decide
  · have zf : zwf zD0 r = 0 := by
      unfold zwf zhd1
      rw [zD0_5_7, zD0_5_5, zD0_5_4, if_neg (by omega)]
      rfl
    rw [zf, zDz_8 (by omega) (by omega), zD0_5_6, Int.zero_mul]
    decide
theorem zF_Ip : zIp 0 zD0 := by
  refine ⟨⟨by rw [zD0_12_4]; decide, fun i q1 q2 => ?_⟩, ?_, fun i q0 q1 q2 => ?_, fun k q1 q2 => by rw [zD0_12_2] at q2; omega, fun s q1 q2 => ?_, fun z => by rw [zD0_34_4] at z; exact absurd z (by decide)⟩
  · rcases (by omega : i = 0 ∨ i = 1 ∨ i = 2 ∨ i = 3 ∨ i = 4 ∨ i = 5 ∨ i = 6 ∨ i = 7) with z | z | z | z | z | z | z | z
    all_goals subst z
    all_goals simp only [Int.mul_zero, Int.add_zero, Int.mul_one, Int.reduceMul, Int.reduceAdd, zD0_15_1, zD0_15_2, zD0_15_3, zD0_15_4, zD0_15_5, zD0_15_6, zD0_15_7, zD0_15_8, zD0_15_9, zD0_15_10, zD0_15_11, zD0_15_12, zD0_17_1, zD0_17_2, zD0_17_3, zD0_17_4, zD0_17_5, zD0_17_6, zD0_17_7, zD0_17_8, zD0_17_9, zD0_17_10, zD0_17_11, zD0_17_12, zD0_19_1, zD0_19_2, zD0_19_3, zD0_19_4, zD0_19_5, zD0_19_6, zD0_19_7, zD0_19_8, zD0_19_9, zD0_19_10, zD0_19_11, zD0_19_12, zD0_21_1, zD0_21_2, zD0_21_3, zD0_21_4, zD0_21_5, zD0_21_6, zD0_21_7, zD0_21_8, zD0_21_9, zD0_21_10, zD0_21_11, zD0_21_12, zD0_23_1, zD0_23_2, zD0_23_3, zD0_23_4, zD0_23_5, zD0_23_6, zD0_23_7, zD0_23_8, zD0_23_9, zD0_23_10, zD0_23_11, zD0_23_12, zD0_25_1, zD0_25_2, zD0_25_3, zD0_25_4, zD0_25_5, zD0_25_6, zD0_25_7, zD0_25_8, zD0_25_9, zD0_25_10, zD0_25_11, zD0_25_12, zD0_27_1, zD0_27_2, zD0_27_3, zD0_27_4, zD0_27_5, zD0_27_6, zD0_27_7, zD0_27_8, zD0_27_9, zD0_27_10, zD0_27_11, zD0_27_12, zD0_29_1, zD0_29_2, zD0_29_3, zD0_29_4, zD0_29_5, zD0_29_6, zD0_29_7, zD0_29_8, zD0_29_9, zD0_29_10, zD0_29_11, zD0_29_12, zD0_16_0, zD0_16_1, zD0_16_2, zD0_16_3, zD0_18_0, zD0_18_1, zD0_18_2, zD0_18_3, zD0_20_0, zD0_20_1, zD0_20_2, zD0_20_3, zD0_22_0, zD0_22_1, zD0_22_2, zD0_22_3, zD0_24_0, zD0_24_1, zD0_24_2, zD0_24_3, zD0_26_0, zD0_26_1, zD0_26_2, zD0_26_3, zD0_28_0, zD0_28_1, zD0_28_2, zD0_28_3, zD0_30_0, zD0_30_1, zD0_30_2, zD0_30_3]
    all_goals decide
  · unfold zpp zsp4
    simp only [Int.mul_zero, Int.add_zero, Int.mul_one, Int.reduceMul, Int.reduceAdd, zD0_16_0, zD0_16_1, zD0_16_2, zD0_16_3, zD0_18_0, zD0_18_1, zD0_18_2, zD0_18_3, zD0_20_0, zD0_20_1, zD0_20_2, zD0_20_3, zD0_22_0, zD0_22_1, zD0_22_2, zD0_22_3, zD0_24_0, zD0_24_1, zD0_24_2, zD0_24_3, zD0_26_0, zD0_26_1, zD0_26_2, zD0_26_3, zD0_28_0, zD0_28_1, zD0_28_2, zD0_28_3, zD0_30_0, zD0_30_1, zD0_30_2, zD0_30_3, zD0_12_4]
    decide
  · rcases (by omega : i = 0 ∨ i = 1 ∨ i = 2 ∨ i = 3 ∨ i = 4 ∨ i = 5 ∨ i = 6 ∨ i = 7) with z | z | z | z | z | z | z | z
    all_goals subst z
    all_goals simp only [Int.mul_zero, Int.add_zero, Int.mul_one, Int.reduceMul, Int.reduceAdd, zD0_15_1, zD0_15_2, zD0_15_3, zD0_15_4, zD0_15_5, zD0_15_6, zD0_15_7, zD0_15_8, zD0_15_9, zD0_15_10, zD0_15_11, zD0_15_12, zD0_17_1, zD0_17_2, zD0_17_3, zD0_17_4, zD0_17_5, zD0_17_6, zD0_17_7, zD0_17_8, zD0_17_9, zD0_17_10, zD0_17_11, zD0_17_12, zD0_19_1, zD0_19_2, zD0_19_3, zD0_19_4, zD0_19_5, zD0_19_6, zD0_19_7, zD0_19_8, zD0_19_9, zD0_19_10, zD0_19_11, zD0_19_12, zD0_21_1, zD0_21_2, zD0_21_3, zD0_21_4, zD0_21_5, zD0_21_6, zD0_21_7, zD0_21_8, zD0_21_9, zD0_21_10, zD0_21_11, zD0_21_12, zD0_23_1, zD0_23_2, zD0_23_3, zD0_23_4, zD0_23_5, zD0_23_6, zD0_23_7, zD0_23_8, zD0_23_9, zD0_23_10, zD0_23_11, zD0_23_12, zD0_25_1, zD0_25_2, zD0_25_3, zD0_25_4, zD0_25_5, zD0_25_6, zD0_25_7, zD0_25_8, zD0_25_9, zD0_25_10, zD0_25_11, zD0_25_12, zD0_27_1, zD0_27_2, zD0_27_3, zD0_27_4, zD0_27_5, zD0_27_6, zD0_27_7, zD0_27_8, zD0_27_9, zD0_27_10, zD0_27_11, zD0_27_12, zD0_29_1, zD0_29_2, zD0_29_3, zD0_29_4, zD0_29_5, zD0_29_6, zD0_29_7, zD0_29_8, zD0_29_9, zD0_29_10, zD0_29_11, zD0_29_12, zD0_16_0, zD0_16_1, zD0_16_2, zD0_16_3, zD0_18_0, zD0_18_1, zD0_18_2, zD0_18_3, zD0_20_0, zD0_20_1, zD0_20_2, zD0_20_3, zD0_22_0, zD0_22_1, zD0_22_2, zD0_22_3, zD0_24_0, zD0_24_1, zD0_24_2, zD0_24_3, zD0_26_0, zD0_26_1, zD0_26_2, zD0_26_3, zD0_28_0, zD0_28_1, zD0_28_2, zD0_28_3, zD0_30_0, zD0_30_1, zD0_30_2, zD0_30_3]
    all_goals decide
  · rcases (by omega : s = 0 ∨ s = 1 ∨ s = 2) with z | z | z
    all_goals subst z
    all_goals simp only [Int.mul_zero, Int.add_zero, Int.mul_one, Int.reduceMul, Int.reduceAdd, zD0_38_2, zD0_43_2, zD0_48_2, zD0_1_9]
    all_goals decide
theorem zF_Re : zRe zD0 := by
  refine ⟨?_, fun i q1 q2 => ?_, fun i q1 q2 => ?_, fun i q1 q2 => ?_, ?_, ⟨?_, fun k q1 q2 => by rw [zD0_5_4, zD0_5_5] at q2; omega, fun r q1 q2 => by rw [zDz_95 (by omega) (by omega), zDz_9 (by omega) (by omega)], fun _ => zD0_5_7, fun z => by rw [zD0_34_4] at z; exact absurd z (by decide)⟩, ⟨by rw [zD0_61_36, zD0_36_1], fun k q1 q2 => by rw [zD0_36_1] at q2; omega⟩, fun s q1 q2 => ?_, ⟨by rw [zD0_61_39, zD0_53_5], fun k q1 q2 => by rw [zD0_53_5] at q2; omega⟩, ⟨fun r q1 q2 k r1 r2 => ?_, fun k q1 q2 => by rw [zDz_137 q1 q2, zDz_60 q1 q2], .inl ⟨zD0_58_5, zD0_61_42, zD0_61_44⟩, by rw [zD0_61_43, zD0_61_45]; decide⟩, ⟨⟨by rw [zD0_61_46, zD0_12_2], .inl ⟨zD0_12_3, zD0_61_47⟩⟩, fun k q1 q2 => by rw [zD0_12_2] at q2; omega⟩⟩
  · unfold zRa
    simp only [zD0_61_31, zD0_1_9, zD0_61_32, zD0_4_0, zD0_61_33, zD0_1_10, zD0_61_38, zD0_34_9, zD0_61_40, zD0_58_4, zD0_61_41, zD0_58_3, zD0_61_48, zD0_12_4]
    decide
  · refine ⟨?_, ?_, fun k r1 r2 => ?_, ?_⟩
    · rcases (by omega : i = 0 ∨ i = 1 ∨ i = 2 ∨ i = 3 ∨ i = 4 ∨ i = 5 ∨ i = 6 ∨ i = 7) with z | z | z | z | z | z | z | z
      all_goals subst z
      all_goals simp only [Int.mul_zero, Int.add_zero, Int.mul_one, Int.reduceMul, Int.reduceAdd, zD0_15_1, zD0_15_2, zD0_15_3, zD0_15_4, zD0_15_5, zD0_15_6, zD0_15_7, zD0_15_8, zD0_15_9, zD0_15_10, zD0_15_11, zD0_15_12, zD0_17_1, zD0_17_2, zD0_17_3, zD0_17_4, zD0_17_5, zD0_17_6, zD0_17_7, zD0_17_8, zD0_17_9, zD0_17_10, zD0_17_11, zD0_17_12, zD0_19_1, zD0_19_2, zD0_19_3, zD0_19_4, zD0_19_5, zD0_19_6, zD0_19_7, zD0_19_8, zD0_19_9, zD0_19_10, zD0_19_11, zD0_19_12, zD0_21_1, zD0_21_2, zD0_21_3, zD0_21_4, zD0_21_5, zD0_21_6, zD0_21_7, zD0_21_8, zD0_21_9, zD0_21_10, zD0_21_11, zD0_21_12, zD0_23_1, zD0_23_2, zD0_23_3, zD0_23_4, zD0_23_5, zD0_23_6, zD0_23_7, zD0_23_8, zD0_23_9, zD0_23_10, zD0_23_11, zD0_23_12, zD0_25_1, zD0_25_2, zD0_25_3, zD0_25_4, zD0_25_5, zD0_25_6, zD0_25_7, zD0_25_8, zD0_25_9, zD0_25_10, zD0_25_11, zD0_25_12, zD0_27_1, zD0_27_2, zD0_27_3, zD0_27_4, zD0_27_5, zD0_27_6, zD0_27_7, zD0_27_8, zD0_27_9, zD0_27_10, zD0_27_11, zD0_27_12, zD0_29_1, zD0_29_2, zD0_29_3, zD0_29_4, zD0_29_5, zD0_29_6, zD0_29_7, zD0_29_8, zD0_29_9, zD0_29_10, zD0_29_11, zD0_29_12, zD0_16_0, zD0_16_1, zD0_16_2, zD0_16_3, zD0_18_0, zD0_18_1, zD0_18_2, zD0_18_3, zD0_20_0, zD0_20_1, zD0_20_2, zD0_20_3, zD0_22_0, zD0_22_1, zD0_22_2, zD0_22_3, zD0_24_0, zD0_24_1, zD0_24_2, zD0_24_3, zD0_26_0, zD0_26_1, zD0_26_2, zD0_26_3, zD0_28_0, zD0_28_1, zD0_28_2, zD0_28_3, zD0_30_0, zD0_30_1, zD0_30_2, zD0_30_3, zD0_62_0, zD0_62_1, zD0_62_2, zD0_62_3, zD0_62_4, zD0_62_5, zD0_62_6, zD0_62_7, zD0_63_0, zD0_63_1, zD0_63_2, zD0_63_3, zD0_63_4, zD0_63_5, zD0_63_6, zD0_63_7, zD0_64_0, zD0_64_1, zD0_64_2, zD0_64_3, zD0_64_4, zD0_64_5, zD0_64_6, zD0_64_7, zD0_65_0, zD0_65_1, zD0_65_2, zD0_65_3, zD0_65_4, zD0_65_5, zD0_65_6, zD0_65_7, zD0_66_0, zD0_66_1, zD0_66_2, zD0_66_3, zD0_66_4, zD0_66_5, zD0_66_6, zD0_66_7, zD0_68_0, zD0_68_1, zD0_68_2, zD0_68_3, zD0_68_4, zD0_68_5, zD0_68_6, zD0_68_7, zD0_69_0, zD0_69_1, zD0_69_2, zD0_69_3, zD0_69_4, zD0_69_5, zD0_69_6, zD0_69_7, zD0_71_0, zD0_71_1, zD0_72_0, zD0_72_1, zD0_73_0, zD0_73_1, zD0_74_0, zD0_74_1, zD0_75_0, zD0_75_1, zD0_76_0, zD0_76_1, zD0_77_0, zD0_77_1, zD0_78_0, zD0_78_1, zD0_80_0, zD0_80_1, zD0_81_0, zD0_81_1, zD0_82_0, zD0_82_1, zD0_83_0, zD0_83_1, zD0_84_0, zD0_84_1, zD0_85_0, zD0_85_1, zD0_86_0, zD0_86_1, zD0_87_0, zD0_87_1, zD0_152_0, zD0_152_1, zD0_152_2, zD0_152_3, zD0_153_0, zD0_153_1, zD0_153_2, zD0_153_3, zD0_154_0, zD0_154_1, zD0_154_2, zD0_154_3, zD0_155_0, zD0_155_1, zD0_155_2, zD0_155_3, zD0_156_0, zD0_156_1, zD0_156_2, zD0_156_3, zD0_157_0, zD0_157_1, zD0_157_2, zD0_157_3, zD0_158_0, zD0_158_1, zD0_158_2, zD0_158_3, zD0_159_0, zD0_159_1, zD0_159_2, zD0_159_3]
      all_goals decide
    · rcases (by omega : i = 0 ∨ i = 1 ∨ i = 2 ∨ i = 3 ∨ i = 4 ∨ i = 5 ∨ i = 6 ∨ i = 7) with z | z | z | z | z | z | z | z
      all_goals subst z
      all_goals simp only [Int.mul_zero, Int.add_zero, Int.mul_one, Int.reduceMul, Int.reduceAdd, zD0_15_1, zD0_15_2, zD0_15_3, zD0_15_4, zD0_15_5, zD0_15_6, zD0_15_7, zD0_15_8, zD0_15_9, zD0_15_10, zD0_15_11, zD0_15_12, zD0_17_1, zD0_17_2, zD0_17_3, zD0_17_4, zD0_17_5, zD0_17_6, zD0_17_7, zD0_17_8, zD0_17_9, zD0_17_10, zD0_17_11, zD0_17_12, zD0_19_1, zD0_19_2, zD0_19_3, zD0_19_4, zD0_19_5, zD0_19_6, zD0_19_7, zD0_19_8, zD0_19_9, zD0_19_10, zD0_19_11, zD0_19_12, zD0_21_1, zD0_21_2, zD0_21_3, zD0_21_4, zD0_21_5, zD0_21_6, zD0_21_7, zD0_21_8, zD0_21_9, zD0_21_10, zD0_21_11, zD0_21_12, zD0_23_1, zD0_23_2, zD0_23_3, zD0_23_4, zD0_23_5, zD0_23_6, zD0_23_7, zD0_23_8, zD0_23_9, zD0_23_10, zD0_23_11, zD0_23_12, zD0_25_1, zD0_25_2, zD0_25_3, zD0_25_4, zD0_25_5, zD0_25_6, zD0_25_7, zD0_25_8, zD0_25_9, zD0_25_10, zD0_25_11, zD0_25_12, zD0_27_1, zD0_27_2, zD0_27_3, zD0_27_4, zD0_27_5, zD0_27_6, zD0_27_7, zD0_27_8, zD0_27_9, zD0_27_10, zD0_27_11, zD0_27_12, zD0_29_1, zD0_29_2, zD0_29_3, zD0_29_4, zD0_29_5, zD0_29_6, zD0_29_7, zD0_29_8, zD0_29_9, zD0_29_10, zD0_29_11, zD0_29_12, zD0_16_0, zD0_16_1, zD0_16_2, zD0_16_3, zD0_18_0, zD0_18_1, zD0_18_2, zD0_18_3, zD0_20_0, zD0_20_1, zD0_20_2, zD0_20_3, zD0_22_0, zD0_22_1, zD0_22_2, zD0_22_3, zD0_24_0, zD0_24_1, zD0_24_2, zD0_24_3, zD0_26_0, zD0_26_1, zD0_26_2, zD0_26_3, zD0_28_0, zD0_28_1, zD0_28_2, zD0_28_3, zD0_30_0, zD0_30_1, zD0_30_2, zD0_30_3, zD0_62_0, zD0_62_1, zD0_62_2, zD0_62_3, zD0_62_4, zD0_62_5, zD0_62_6, zD0_62_7, zD0_63_0, zD0_63_1, zD0_63_2, zD0_63_3, zD0_63_4, zD0_63_5, zD0_63_6, zD0_63_7, zD0_64_0, zD0_64_1, zD0_64_2, zD0_64_3, zD0_64_4, zD0_64_5, zD0_64_6, zD0_64_7, zD0_65_0, zD0_65_1, zD0_65_2, zD0_65_3, zD0_65_4, zD0_65_5, zD0_65_6, zD0_65_7, zD0_66_0, zD0_66_1, zD0_66_2, zD0_66_3, zD0_66_4, zD0_66_5, zD0_66_6, zD0_66_7, zD0_68_0, zD0_68_1, zD0_68_2, zD0_68_3, zD0_68_4, zD0_68_5, zD0_68_6, zD0_68_7, zD0_69_0, zD0_69_1, zD0_69_2, zD0_69_3, zD0_69_4, zD0_69_5, zD0_69_6, zD0_69_7, zD0_71_0, zD0_71_1, zD0_72_0, zD0_72_1, zD0_73_0, zD0_73_1, zD0_74_0, zD0_74_1, zD0_75_0, zD0_75_1, zD0_76_0, zD0_76_1, zD0_77_0, zD0_77_1, zD0_78_0, zD0_78_1, zD0_80_0, zD0_80_1, zD0_81_0, zD0_81_1, zD0_82_0, zD0_82_1, zD0_83_0, zD0_83_1, zD0_84_0, zD0_84_1, zD0_85_0, zD0_85_1, zD0_86_0, zD0_86_1, zD0_87_0, zD0_87_1, zD0_152_0, zD0_152_1, zD0_152_2, zD0_152_3, zD0_153_0, zD0_153_1, zD0_153_2, zD0_153_3, zD0_154_0, zD0_154_1, zD0_154_2, zD0_154_3, zD0_155_0, zD0_155_1, zD0_155_2, zD0_155_3, zD0_156_0, zD0_156_1, zD0_156_2, zD0_156_3, zD0_157_0, zD0_157_1, zD0_157_2, zD0_157_3, zD0_158_0, zD0_158_1, zD0_158_2, zD0_158_3, zD0_159_0, zD0_159_1, zD0_159_2, zD0_159_3]
      all_goals decide
    · rcases (by omega : k = 0 ∨ k = 1 ∨ k = 2 ∨ k = 3) with y | y | y | y
      all_goals subst y
      all_goals rcases (by omega : i = 0 ∨ i = 1 ∨ i = 2 ∨ i = 3 ∨ i = 4 ∨ i = 5 ∨ i = 6 ∨ i = 7) with z | z | z | z | z | z | z | z
      all_goals subst z
      all_goals simp only [Int.mul_zero, Int.add_zero, Int.mul_one, Int.reduceMul, Int.reduceAdd, zD0_15_1, zD0_15_2, zD0_15_3, zD0_15_4, zD0_15_5, zD0_15_6, zD0_15_7, zD0_15_8, zD0_15_9, zD0_15_10, zD0_15_11, zD0_15_12, zD0_17_1, zD0_17_2, zD0_17_3, zD0_17_4, zD0_17_5, zD0_17_6, zD0_17_7, zD0_17_8, zD0_17_9, zD0_17_10, zD0_17_11, zD0_17_12, zD0_19_1, zD0_19_2, zD0_19_3, zD0_19_4, zD0_19_5, zD0_19_6, zD0_19_7, zD0_19_8, zD0_19_9, zD0_19_10, zD0_19_11, zD0_19_12, zD0_21_1, zD0_21_2, zD0_21_3, zD0_21_4, zD0_21_5, zD0_21_6, zD0_21_7, zD0_21_8, zD0_21_9, zD0_21_10, zD0_21_11, zD0_21_12, zD0_23_1, zD0_23_2, zD0_23_3, zD0_23_4, zD0_23_5, zD0_23_6, zD0_23_7, zD0_23_8, zD0_23_9, zD0_23_10, zD0_23_11, zD0_23_12, zD0_25_1, zD0_25_2, zD0_25_3, zD0_25_4, zD0_25_5, zD0_25_6, zD0_25_7, zD0_25_8, zD0_25_9, zD0_25_10, zD0_25_11, zD0_25_12, zD0_27_1, zD0_27_2, zD0_27_3, zD0_27_4, zD0_27_5, zD0_27_6, zD0_27_7, zD0_27_8, zD0_27_9, zD0_27_10, zD0_27_11, zD0_27_12, zD0_29_1, zD0_29_2, zD0_29_3, zD0_29_4, zD0_29_5, zD0_29_6, zD0_29_7, zD0_29_8, zD0_29_9, zD0_29_10, zD0_29_11, zD0_29_12, zD0_16_0, zD0_16_1, zD0_16_2, zD0_16_3, zD0_18_0, zD0_18_1, zD0_18_2, zD0_18_3, zD0_20_0, zD0_20_1, zD0_20_2, zD0_20_3, zD0_22_0, zD0_22_1, zD0_22_2, zD0_22_3, zD0_24_0, zD0_24_1, zD0_24_2, zD0_24_3, zD0_26_0, zD0_26_1, zD0_26_2, zD0_26_3, zD0_28_0, zD0_28_1, zD0_28_2, zD0_28_3, zD0_30_0, zD0_30_1, zD0_30_2, zD0_30_3, zD0_62_0, zD0_62_1, zD0_62_2, zD0_62_3, zD0_62_4, zD0_62_5, zD0_62_6, zD0_62_7, zD0_63_0, zD0_63_1, zD0_63_2, zD0_63_3, zD0_63_4, zD0_63_5, zD0_63_6, zD0_63_7, zD0_64_0, zD0_64_1, zD0_64_2, zD0_64_3, zD0_64_4, zD0_64_5, zD0_64_6, zD0_64_7, zD0_65_0, zD0_65_1, zD0_65_2, zD0_65_3, zD0_65_4, zD0_65_5, zD0_65_6, zD0_65_7, zD0_66_0, zD0_66_1, zD0_66_2, zD0_66_3, zD0_66_4, zD0_66_5, zD0_66_6, zD0_66_7, zD0_68_0, zD0_68_1, zD0_68_2, zD0_68_3, zD0_68_4, zD0_68_5, zD0_68_6, zD0_68_7, zD0_69_0, zD0_69_1, zD0_69_2, zD0_69_3, zD0_69_4, zD0_69_5, zD0_69_6, zD0_69_7, zD0_71_0, zD0_71_1, zD0_72_0, zD0_72_1, zD0_73_0, zD0_73_1, zD0_74_0, zD0_74_1, zD0_75_0, zD0_75_1, zD0_76_0, zD0_76_1, zD0_77_0, zD0_77_1, zD0_78_0, zD0_78_1, zD0_80_0, zD0_80_1, zD0_81_0, zD0_81_1, zD0_82_0, zD0_82_1, zD0_83_0, zD0_83_1, zD0_84_0, zD0_84_1, zD0_85_0, zD0_85_1, zD0_86_0, zD0_86_1, zD0_87_0, zD0_87_1, zD0_152_0, zD0_152_1, zD0_152_2, zD0_152_3, zD0_153_0, zD0_153_1, zD0_153_2, zD0_153_3, zD0_154_0, zD0_154_1, zD0_154_2, zD0_154_3, zD0_155_0, zD0_155_1, zD0_155_2, zD0_155_3, zD0_156_0, zD0_156_1, zD0_156_2, zD0_156_3, zD0_157_0, zD0_157_1, zD0_157_2, zD0_157_3, zD0_158_0, zD0_158_1, zD0_158_2, zD0_158_3, zD0_159_0, zD0_159_1, zD0_159_2, zD0_159_3]
    · rcases (by omega : i = 0 ∨ i = 1 ∨ i = 2 ∨ i = 3 ∨ i = 4 ∨ i = 5 ∨ i = 6 ∨ i = 7) with z | z | z | z | z | z | z | z
      all_goals subst z
      all_goals simp only [zD0_15_1, zD0_15_2, zD0_15_3, zD0_15_4, zD0_15_5, zD0_15_6, zD0_15_7, zD0_15_8, zD0_15_9, zD0_15_10, zD0_15_11, zD0_15_12, zD0_17_1, zD0_17_2, zD0_17_3, zD0_17_4, zD0_17_5, zD0_17_6, zD0_17_7, zD0_17_8, zD0_17_9, zD0_17_10, zD0_17_11, zD0_17_12, zD0_19_1, zD0_19_2, zD0_19_3, zD0_19_4, zD0_19_5, zD0_19_6, zD0_19_7, zD0_19_8, zD0_19_9, zD0_19_10, zD0_19_11, zD0_19_12, zD0_21_1, zD0_21_2, zD0_21_3, zD0_21_4, zD0_21_5, zD0_21_6, zD0_21_7, zD0_21_8, zD0_21_9, zD0_21_10, zD0_21_11, zD0_21_12, zD0_23_1, zD0_23_2, zD0_23_3, zD0_23_4, zD0_23_5, zD0_23_6, zD0_23_7, zD0_23_8, zD0_23_9, zD0_23_10, zD0_23_11, zD0_23_12, zD0_25_1, zD0_25_2, zD0_25_3, zD0_25_4, zD0_25_5, zD0_25_6, zD0_25_7, zD0_25_8, zD0_25_9, zD0_25_10, zD0_25_11, zD0_25_12, zD0_27_1, zD0_27_2, zD0_27_3, zD0_27_4, zD0_27_5, zD0_27_6, zD0_27_7, zD0_27_8, zD0_27_9, zD0_27_10, zD0_27_11, zD0_27_12, zD0_29_1, zD0_29_2, zD0_29_3, zD0_29_4, zD0_29_5, zD0_29_6, zD0_29_7, zD0_29_8, zD0_29_9, zD0_29_10, zD0_29_11, zD0_29_12, zD0_16_0, zD0_16_1, zD0_16_2, zD0_16_3, zD0_18_0, zD0_18_1, zD0_18_2, zD0_18_3, zD0_20_0, zD0_20_1, zD0_20_2, zD0_20_3, zD0_22_0, zD0_22_1, zD0_22_2, zD0_22_3, zD0_24_0, zD0_24_1, zD0_24_2, zD0_24_3, zD0_26_0, zD0_26_1, zD0_26_2, zD0_26_3, zD0_28_0, zD0_28_1, zD0_28_2, zD0_28_3, zD0_30_0, zD0_30_1, zD0_30_2, zD0_30_3, zD0_62_0, zD0_62_1, zD0_62_2, zD0_62_3, zD0_62_4, zD0_62_5, zD0_62_6, zD0_62_7, zD0_63_0, zD0_63_1, zD0_63_2, zD0_63_3, zD0_63_4, zD0_63_5, zD0_63_6, zD0_63_7, zD0_64_0, zD0_64_1, zD0_64_2, zD0_64_3, zD0_64_4, zD0_64_5, zD0_64_6, zD0_64_7, zD0_65_0, zD0_65_1, zD0_65_2, zD0_65_3, zD0_65_4, zD0_65_5, zD0_65_6, zD0_65_7, zD0_66_0, zD0_66_1, zD0_66_2, zD0_66_3, zD0_66_4, zD0_66_5, zD0_66_6, zD0_66_7, zD0_68_0, zD0_68_1, zD0_68_2, zD0_68_3, zD0_68_4, zD0_68_5, zD0_68_6, zD0_68_7, zD0_69_0, zD0_69_1, zD0_69_2, zD0_69_3, zD0_69_4, zD0_69_5, zD0_69_6, zD0_69_7, zD0_71_0, zD0_71_1, zD0_72_0, zD0_72_1, zD0_73_0, zD0_73_1, zD0_74_0, zD0_74_1, zD0_75_0, zD0_75_1, zD0_76_0, zD0_76_1, zD0_77_0, zD0_77_1, zD0_78_0, zD0_78_1, zD0_80_0, zD0_80_1, zD0_81_0, zD0_81_1, zD0_82_0, zD0_82_1, zD0_83_0, zD0_83_1, zD0_84_0, zD0_84_1, zD0_85_0, zD0_85_1, zD0_86_0, zD0_86_1, zD0_87_0, zD0_87_1, zD0_152_0, zD0_152_1, zD0_152_2, zD0_152_3, zD0_153_0, zD0_153_1, zD0_153_2, zD0_153_3, zD0_154_0, zD0_154_1, zD0_154_2, zD0_154_3, zD0_155_0, zD0_155_1, zD0_155_2, zD0_155_3, zD0_156_0, zD0_156_1, zD0_156_2, zD0_156_3, zD0_157_0, zD0_157_1, zD0_157_2, zD0_157_3, zD0_158_0, zD0_158_1, zD0_158_2, zD0_158_3, zD0_159_0, zD0_159_1, zD0_159_2, zD0_159_3]
      all_goals decide
  · rw [zD0_1_9]
    refine ⟨fun z => by omega, fun _ => ?_⟩
    rcases (by omega : i = 0 ∨ i = 1 ∨ i = 2 ∨ i = 3 ∨ i = 4 ∨ i = 5 ∨ i = 6 ∨ i = 7) with z | z | z | z | z | z | z | z
    all_goals subst z
    all_goals simp only [Int.mul_zero, Int.add_zero, Int.mul_one, Int.reduceMul, Int.reduceAdd, zD0_15_1, zD0_15_2, zD0_15_3, zD0_15_4, zD0_15_5, zD0_15_6, zD0_15_7, zD0_15_8, zD0_15_9, zD0_15_10, zD0_15_11, zD0_15_12, zD0_17_1, zD0_17_2, zD0_17_3, zD0_17_4, zD0_17_5, zD0_17_6, zD0_17_7, zD0_17_8, zD0_17_9, zD0_17_10, zD0_17_11, zD0_17_12, zD0_19_1, zD0_19_2, zD0_19_3, zD0_19_4, zD0_19_5, zD0_19_6, zD0_19_7, zD0_19_8, zD0_19_9, zD0_19_10, zD0_19_11, zD0_19_12, zD0_21_1, zD0_21_2, zD0_21_3, zD0_21_4, zD0_21_5, zD0_21_6, zD0_21_7, zD0_21_8, zD0_21_9, zD0_21_10, zD0_21_11, zD0_21_12, zD0_23_1, zD0_23_2, zD0_23_3, zD0_23_4, zD0_23_5, zD0_23_6, zD0_23_7, zD0_23_8, zD0_23_9, zD0_23_10, zD0_23_11, zD0_23_12, zD0_25_1, zD0_25_2, zD0_25_3, zD0_25_4, zD0_25_5, zD0_25_6, zD0_25_7, zD0_25_8, zD0_25_9, zD0_25_10, zD0_25_11, zD0_25_12, zD0_27_1, zD0_27_2, zD0_27_3, zD0_27_4, zD0_27_5, zD0_27_6, zD0_27_7, zD0_27_8, zD0_27_9, zD0_27_10, zD0_27_11, zD0_27_12, zD0_29_1, zD0_29_2, zD0_29_3, zD0_29_4, zD0_29_5, zD0_29_6, zD0_29_7, zD0_29_8, zD0_29_9, zD0_29_10, zD0_29_11, zD0_29_12]
    all_goals decide
  · rcases (by omega : i = 0 ∨ i = 1 ∨ i = 2) with z | z | z
    all_goals subst z
    all_goals simp only [Int.mul_zero, Int.add_zero, Int.mul_one, Int.reduceMul, Int.reduceAdd, zD0_31_1, zD0_31_2, zD0_31_3, zD0_31_4, zD0_32_1, zD0_32_2, zD0_32_3, zD0_32_4, zD0_33_1, zD0_33_2, zD0_33_3, zD0_33_4, zD0_88_0, zD0_88_1, zD0_88_2, zD0_89_0, zD0_89_1, zD0_89_2, zD0_90_0, zD0_90_1, zD0_90_2]
    all_goals decide
  · unfold zRu
    simp only [zD0_91_0, zD0_91_1, zD0_91_2, zD0_91_3, zD0_34_5, zD0_34_6, zD0_34_7, zD0_34_8]
    decide
  · simp only [zD0_61_34, zD0_5_6, zD0_61_35, zD0_5_5, zD0_5_4, zD0_61_37, zD0_34_4]
    decide
  · unfold zRq
    refine ⟨?_, ?_, ?_, ?_, fun _ => ?_, fun z => by rw [zD0_34_4] at z; exact absurd z (by decide), fun p => ?_, fun p => ?_⟩
    all_goals rcases (by omega : s = 0 ∨ s = 1 ∨ s = 2) with z | z | z
    all_goals subst z
    all_goals simp only [Int.mul_zero, Int.add_zero, Int.mul_one, Int.reduceMul, Int.reduceAdd, zD0_38_2, zD0_38_3, zD0_43_2, zD0_43_3, zD0_48_2, zD0_48_3, zD0_39_1, zD0_39_2, zD0_39_3, zD0_39_4, zD0_39_5, zD0_39_6, zD0_44_1, zD0_44_2, zD0_44_3, zD0_44_4, zD0_44_5, zD0_44_6, zD0_49_1, zD0_49_2, zD0_49_3, zD0_49_4, zD0_49_5, zD0_49_6, zD0_41_1, zD0_41_2, zD0_41_3, zD0_41_4, zD0_41_5, zD0_41_6, zD0_46_1, zD0_46_2, zD0_46_3, zD0_46_4, zD0_46_5, zD0_46_6, zD0_51_1, zD0_51_2, zD0_51_3, zD0_51_4, zD0_51_5, zD0_51_6, zD0_96_0, zD0_96_1, zD0_96_2, zD0_97_0, zD0_97_1, zD0_97_2, zD0_98_0, zD0_98_1, zD0_98_2, zD0_110_0, zD0_110_1, zD0_111_0, zD0_111_1, zD0_112_0, zD0_112_1, zD0_114_0, zD0_114_1, zD0_115_0, zD0_115_1, zD0_116_0, zD0_116_1, zD0_118_0, zD0_118_1, zD0_119_0, zD0_119_1, zD0_120_0, zD0_120_1, zD0_34_4] at *
    all_goals first | decide | omega
  · rw [zDz_59 (by omega) (by omega)]
    rcases (by omega : r = 0 ∨ r = 1 ∨ r = 2) with z | z | z
    all_goals subst z
    all_goals simp only [Int.mul_zero, Int.add_zero, Int.mul_one, Int.reduceMul, Int.reduceAdd]
    · exact zDz_134 r1 r2
    · exact zDz_135 r1 r2
    · exact zDz_136 r1 r2
