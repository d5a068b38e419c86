/-! ===== HAND: a hand's methods ===== -/
set_option maxRecDepth 65536
def zHd (h c : Int) : Prop := (0 < h ∧ h ≤ 161 ∧ 0 < c ∧ c ≤ 161 ∧ h ≠ c) ∧ (∀ g, zSg g h = some (.inl 3)) ∧ (∀ g, zSg g c = some (.inr (.int, 22))) ∧ (∀ e, zDg e h 0 = c) ∧ (∀ (e : zm_D) (k : Int), 1 ≤ k → k ≤ 6 → zDg e h k = e h k) ∧ (∀ (e : zm_D) (k : Int), zDg e c k = e c k) ∧ (∀ (e : zm_D) (k x : Int), 1 ≤ k → k ≤ 6 → zm_u (zDg e) h k x = zDg (zm_u e h k x)) ∧ (∀ (e : zm_D) (k x : Int), zm_u (zDg e) c k x = zDg (zm_u e c k x))
def zhv (a s : Int) : Int := if a ≠ 0 ∧ s ≤ 11 then s + 10 else s
def zsf (a s : Int) : Int := if a ≠ 0 ∧ s ≤ 11 then 1 else 0
def zor (a x : Int) : Int := if a ≠ 0 ∨ x = 1 then 1 else 0
def znt (k a s : Int) : Int := if k = 2 ∧ zhv a s = 21 then 1 else 0
def zB2 (x : Int) : Prop := -1073741824 ≤ x ∧ x ≤ 1073741823
theorem zhv_a {a s : Int} (h : a ≠ 0) (k : s ≤ 11) : zhv a s = s + 10 := if_pos ⟨h, k⟩
theorem zhv_0 {a s : Int} (h : a = 0) : zhv a s = s := if_neg fun q => q.1 h
theorem zhv_b {a s : Int} (k : 11 < s) : zhv a s = s := if_neg fun q => by omega
theorem zhv_r {a s : Int} : s ≤ zhv a s ∧ zhv a s ≤ s + 10 := by unfold zhv; split <;> omega
theorem zHd_36 : zHd 36 37 := by
  refine ⟨by decide, fun g => zSg_36, fun g => zSg_37, fun e => zg_36_0, fun e k h1 h2 => ?_, fun e k => zga_37, fun e k x h1 h2 => ?_, fun e k x => zgua_37⟩
  · rcases (by omega : k = 1 ∨ k = 2 ∨ k = 3 ∨ k = 4 ∨ k = 5 ∨ k = 6) with rfl | rfl | rfl | rfl | rfl | rfl
    · exact zg_36_1
    · exact zg_36_2
    · exact zg_36_3
    · exact zg_36_4
    · exact zg_36_5
    · exact zg_36_6
  · rcases (by omega : k = 1 ∨ k = 2 ∨ k = 3 ∨ k = 4 ∨ k = 5 ∨ k = 6) with rfl | rfl | rfl | rfl | rfl | rfl
    · exact zgu_36_1
    · exact zgu_36_2
    · exact zgu_36_3
    · exact zgu_36_4
    · exact zgu_36_5
    · exact zgu_36_6
theorem zHd_39 : zHd 39 40 := by
  refine ⟨by decide, fun g => zSg_39, fun g => zSg_40, fun e => zg_39_0, fun e k h1 h2 => ?_, fun e k => zga_40, fun e k x h1 h2 => ?_, fun e k x => zgua_40⟩
  · rcases (by omega : k = 1 ∨ k = 2 ∨ k = 3 ∨ k = 4 ∨ k = 5 ∨ k = 6) with rfl | rfl | rfl | rfl | rfl | rfl
    · exact zg_39_1
    · exact zg_39_2
    · exact zg_39_3
    · exact zg_39_4
    · exact zg_39_5
    · exact zg_39_6
  · rcases (by omega : k = 1 ∨ k = 2 ∨ k = 3 ∨ k = 4 ∨ k = 5 ∨ k = 6) with rfl | rfl | rfl | rfl | rfl | rfl
    · exact zgu_39_1
    · exact zgu_39_2
    · exact zgu_39_3
    · exact zgu_39_4
    · exact zgu_39_5
    · exact zgu_39_6
theorem zHd_44 : zHd 44 45 := by
  refine ⟨by decide, fun g => zSg_44, fun g => zSg_45, fun e => zg_44_0, fun e k h1 h2 => ?_, fun e k => zga_45, fun e k x h1 h2 => ?_, fun e k x => zgua_45⟩
  · rcases (by omega : k = 1 ∨ k = 2 ∨ k = 3 ∨ k = 4 ∨ k = 5 ∨ k = 6) with rfl | rfl | rfl | rfl | rfl | rfl
    · exact zg_44_1
    · exact zg_44_2
    · exact zg_44_3
    · exact zg_44_4
    · exact zg_44_5
    · exact zg_44_6
  · rcases (by omega : k = 1 ∨ k = 2 ∨ k = 3 ∨ k = 4 ∨ k = 5 ∨ k = 6) with rfl | rfl | rfl | rfl | rfl | rfl
    · exact zgu_44_1
    · exact zgu_44_2
    · exact zgu_44_3
    · exact zgu_44_4
    · exact zgu_44_5
    · exact zgu_44_6
theorem zHd_49 : zHd 49 50 := by
  refine ⟨by decide, fun g => zSg_49, fun g => zSg_50, fun e => zg_49_0, fun e k h1 h2 => ?_, fun e k => zga_50, fun e k x h1 h2 => ?_, fun e k x => zgua_50⟩
  · rcases (by omega : k = 1 ∨ k = 2 ∨ k = 3 ∨ k = 4 ∨ k = 5 ∨ k = 6) with rfl | rfl | rfl | rfl | rfl | rfl
    · exact zg_49_1
    · exact zg_49_2
    · exact zg_49_3
    · exact zg_49_4
    · exact zg_49_5
    · exact zg_49_6
  · rcases (by omega : k = 1 ∨ k = 2 ∨ k = 3 ∨ k = 4 ∨ k = 5 ∨ k = 6) with rfl | rfl | rfl | rfl | rfl | rfl
    · exact zgu_49_1
    · exact zgu_49_2
    · exact zgu_49_3
    · exact zgu_49_4
    · exact zgu_49_5
    · exact zgu_49_6
theorem zHd_41 : zHd 41 42 := by
  refine ⟨by decide, fun g => zSg_41, fun g => zSg_42, fun e => zg_41_0, fun e k h1 h2 => ?_, fun e k => zga_42, fun e k x h1 h2 => ?_, fun e k x => zgua_42⟩
  · rcases (by omega : k = 1 ∨ k = 2 ∨ k = 3 ∨ k = 4 ∨ k = 5 ∨ k = 6) with rfl | rfl | rfl | rfl | rfl | rfl
    · exact zg_41_1
    · exact zg_41_2
    · exact zg_41_3
    · exact zg_41_4
    · exact zg_41_5
    · exact zg_41_6
  · rcases (by omega : k = 1 ∨ k = 2 ∨ k = 3 ∨ k = 4 ∨ k = 5 ∨ k = 6) with rfl | rfl | rfl | rfl | rfl | rfl
    · exact zgu_41_1
    · exact zgu_41_2
    · exact zgu_41_3
    · exact zgu_41_4
    · exact zgu_41_5
    · exact zgu_41_6
theorem zHd_46 : zHd 46 47 := by
  refine ⟨by decide, fun g => zSg_46, fun g => zSg_47, fun e => zg_46_0, fun e k h1 h2 => ?_, fun e k => zga_47, fun e k x h1 h2 => ?_, fun e k x => zgua_47⟩
  · rcases (by omega : k = 1 ∨ k = 2 ∨ k = 3 ∨ k = 4 ∨ k = 5 ∨ k = 6) with rfl | rfl | rfl | rfl | rfl | rfl
    · exact zg_46_1
    · exact zg_46_2
    · exact zg_46_3
    · exact zg_46_4
    · exact zg_46_5
    · exact zg_46_6
  · rcases (by omega : k = 1 ∨ k = 2 ∨ k = 3 ∨ k = 4 ∨ k = 5 ∨ k = 6) with rfl | rfl | rfl | rfl | rfl | rfl
    · exact zgu_46_1
    · exact zgu_46_2
    · exact zgu_46_3
    · exact zgu_46_4
    · exact zgu_46_5
    · exact zgu_46_6
theorem zHd_51 : zHd 51 52 := by
  refine ⟨by decide, fun g => zSg_51, fun g => zSg_52, fun e => zg_51_0, fun e k h1 h2 => ?_, fun e k => zga_52, fun e k x h1 h2 => ?_, fun e k x => zgua_52⟩
  · rcases (by omega : k = 1 ∨ k = 2 ∨ k = 3 ∨ k = 4 ∨ k = 5 ∨ k = 6) with rfl | rfl | rfl | rfl | rfl | rfl
    · exact zg_51_1
    · exact zg_51_2
    · exact zg_51_3
    · exact zg_51_4
    · exact zg_51_5
    · exact zg_51_6
  · rcases (by omega : k = 1 ∨ k = 2 ∨ k = 3 ∨ k = 4 ∨ k = 5 ∨ k = 6) with rfl | rfl | rfl | rfl | rfl | rfl
    · exact zgu_51_1
    · exact zgu_51_2
    · exact zgu_51_3
    · exact zgu_51_4
    · exact zgu_51_5
    · exact zgu_51_6
theorem zHdF {i : Int} (hi : 0 ≤ i ∧ i < 3) : zHd (39 + 5 * i) (40 + 5 * i) := by
  rcases (by omega : i = 0 ∨ i = 1 ∨ i = 2) with rfl | rfl | rfl
  · exact zHd_39
  · exact zHd_44
  · exact zHd_49
theorem zHdS {i : Int} (hi : 0 ≤ i ∧ i < 3) : zHd (41 + 5 * i) (42 + 5 * i) := by
  rcases (by omega : i = 0 ∨ i = 1 ∨ i = 2) with rfl | rfl | rfl
  · exact zHd_41
  · exact zHd_46
  · exact zHd_51
theorem zE35 {S : zSs} {D n u : Nat} {g : Int → zk_K} {e : zm_D} {Q : ((Option zv_V) ⊕ Nat) → Nat → zk_S → zm_D → Nat → Prop} {h c : Int} (H : zHd h c)  : zE S D 35 [zv_a h] n (zSg g) (zDg e) u Q ↔ Q (.inl none) n (zSg g) (zDg (zm_u (zm_u (zm_u e h 1 0) h 2 0) h 3 0)) u := by
  obtain ⟨⟨p1, q1, p2, q2, p3⟩, s1, s2, f0, f1, f2, u1, u2⟩ := H
  simp (maxSteps := 10000000) (disch := omega) only [zr_iconst, zr_aload, zr_putI, zr_putZ, zr_vret, Int.reduceEq, true_or, zKa_s, zget_0, zaB_v, true_and, and_true, ze_35, s1, u1, p1]
theorem zE36i {S : zSs} {D n u : Nat} {g : Int → zk_K} {e : zm_D} {Q : ((Option zv_V) ⊕ Nat) → Nat → zk_S → zm_D → Nat → Prop} {h c : Int} (H : zHd h c) {p : Int} (hp : 0 ≤ p ∧ p < e h 1) (hs : e h 1 ≤ 22) : zE S D 36 [zv_a h, zv_i p] n (zSg g) (zDg e) u Q ↔ Q (.inl (some (zv_i (e c p)))) n (zSg g) (zDg e) u := by
  obtain ⟨⟨p1, q1, p2, q2, p3⟩, s1, s2, f0, f1, f2, u1, u2⟩ := H
  have hp2 : 0 ≤ p ∧ p < 22 := by omega
  simp (maxSteps := 10000000) (disch := omega) only [zr_aload, zr_iload, zr_goto, zr_getI, zr_getA, zr_iaload, zr_alen, zr_iret, Nat.reduceLeDiff, zcast, zf_16, zf_23, zKa_s, zKi_s, zO_s, zget_0, zget_s, zw_id, zaB_v, zaI_v, zaX_v, true_and, and_true, zj_36_2, ze_36, s1, s2, f0, f1, f2, p1, p2, hp2]
theorem zE36n {S : zSs} {D n u : Nat} {g : Int → zk_K} {e : zm_D} {Q : ((Option zv_V) ⊕ Nat) → Nat → zk_S → zm_D → Nat → Prop} {h c : Int} (H : zHd h c) {p : Int} (hp : -2147483648 ≤ p ∧ p < 0) : zE S D 36 [zv_a h, zv_i p] n (zSg g) (zDg e) u Q ↔ Q (.inl (some (zv_i (0)))) n (zSg g) (zDg e) u := by
  obtain ⟨⟨p1, q1, p2, q2, p3⟩, s1, s2, f0, f1, f2, u1, u2⟩ := H
  simp (maxSteps := 10000000) (disch := omega) only [zr_iconst, zr_iload, zr_fall, zr_iret, zt_16, zKi_s, zget_0, zget_s, zj_36_1, zj_36_2, ze_36]
theorem zE36o {S : zSs} {D n u : Nat} {g : Int → zk_K} {e : zm_D} {Q : ((Option zv_V) ⊕ Nat) → Nat → zk_S → zm_D → Nat → Prop} {h c : Int} (H : zHd h c) {p : Int} (hp : 0 ≤ p ∧ p < 2147483648) (ho : e h 1 ≤ p) (hs : 0 ≤ e h 1) : zE S D 36 [zv_a h, zv_i p] n (zSg g) (zDg e) u Q ↔ Q (.inl (some (zv_i (0)))) n (zSg g) (zDg e) u := by
  obtain ⟨⟨p1, q1, p2, q2, p3⟩, s1, s2, f0, f1, f2, u1, u2⟩ := H
  simp (maxSteps := 10000000) (disch := omega) only [zr_iconst, zr_aload, zr_iload, zr_fall, zr_getI, zr_iret, zf_16, zt_23, zKa_s, zKi_s, zget_0, zget_s, zaB_v, true_and, and_true, zj_36_1, zj_36_2, ze_36, s1, f1, p1]
theorem zE34 {S : zSs} {D n u : Nat} {g : Int → zk_K} {e : zm_D} {Q : ((Option zv_V) ⊕ Nat) → Nat → zk_S → zm_D → Nat → Prop} {h c : Int} (H : zHd h c) {x : Int} (hx : zB2 x) (hs : 0 ≤ e h 1 ∧ e h 1 < 22) (hm : zB2 (e h 2)) (ha : e h 3 = 0 ∨ e h 3 = 1) : zE S D 34 [zv_a h, zv_i x] n (zSg g) (zDg e) u Q ↔ Q (.inl none) n (zSg g) (zDg (zm_u (zm_u (zm_u (zm_u e c (e h 1) x) h 1 (e h 1 + 1)) h 2 (e h 2 + x)) h 3 (zor (e h 3) x))) u := by
  obtain ⟨⟨p1, q1, p2, q2, p3⟩, s1, s2, f0, f1, f2, u1, u2⟩ := H
  unfold zB2 at hx hm
  have hp2 := hs
  rcases ha with ha | ha
  · by_cases hx1 : x = 1
    · rw [show zor (e h 3) x = 1 from if_pos (Or.inr hx1)]
      simp (maxSteps := 10000000) (disch := omega) only [zr_iadd, zr_iconst, zr_aload, zr_iload, zr_goto, zr_fall, zr_dup_a, zr_getI, zr_getA, zr_putI, zr_putZ, zr_iastore, zr_alen, zr_vret, Nat.reduceLeDiff, Int.reduceEq, zcast, or_true, zf_15, zf_16, zf_21, zf_23, zKa_s, zKi_s, zO_s, zget_0, zget_s, zw_id, zm_un, zaB_v, zaI_v, zaX_v, true_and, and_true, zj_34_1, zj_34_3, zj_34_4, ze_34, s1, s2, f0, f1, u1, u2, p1, p2, hp2]
    · rw [show zor (e h 3) x = 0 from if_neg (by omega)]
      simp (maxSteps := 10000000) (disch := omega) only [zr_iadd, zr_iconst, zr_aload, zr_iload, zr_fall, zr_dup_a, zr_getI, zr_getA, zr_putI, zr_putZ, zr_iastore, zr_alen, zr_vret, Nat.reduceLeDiff, Int.reduceEq, zcast, true_or, zf_15, zf_16, zt_21, zf_23, zKa_s, zKi_s, zO_s, zget_0, zget_s, zw_id, zm_un, zaB_v, zaI_v, zaX_v, true_and, and_true, zj_34_2, zj_34_3, zj_34_4, ze_34, s1, s2, f0, f1, u1, u2, p1, p2, hp2]
  · rw [show zor (e h 3) x = 1 from if_pos (Or.inl (by omega))]
    simp (maxSteps := 10000000) (disch := omega) only [zr_iadd, zr_iconst, zr_aload, zr_iload, zr_goto, zr_fall, zr_dup_a, zr_getI, zr_getA, zr_putI, zr_putZ, zr_iastore, zr_alen, zr_vret, Nat.reduceLeDiff, Int.reduceEq, zcast, or_true, zt_15, zf_16, zf_23, zKa_s, zKi_s, zO_s, zget_0, zget_s, zw_id, zm_un, zaB_v, zaI_v, zaX_v, true_and, and_true, zj_34_1, zj_34_3, zj_34_4, ze_34, s1, s2, f0, f1, u1, u2, p1, p2, hp2]
theorem zE37 {S : zSs} {D n u : Nat} {g : Int → zk_K} {e : zm_D} {Q : ((Option zv_V) ⊕ Nat) → Nat → zk_S → zm_D → Nat → Prop} {h c : Int} (H : zHd h c) (hm : zB2 (e h 2)) (hz : 0 ≤ e h 3 ∧ e h 3 ≤ 1) : zE S D 37 [zv_a h] n (zSg g) (zDg e) u Q ↔ Q (.inl (some (zv_i (zhv (e h 3) (e h 2))))) n (zSg g) (zDg e) u := by
  obtain ⟨⟨p1, q1, p2, q2, p3⟩, s1, s2, f0, f1, f2, u1, u2⟩ := H
  unfold zB2 at hm
  by_cases ha : e h 3 = 0
  · rw [zhv_0 ha]
    simp (maxSteps := 10000000) (disch := omega) only [zr_aload, zr_fall, zr_getI, zr_iret, zt_14, zKa_s, zget_0, zaB_v, true_and, and_true, zj_37_1, zj_37_2, ze_37, s1, f1, p1]
  · by_cases hb : e h 2 ≤ 11
    · rw [zhv_a ha hb]
      simp (maxSteps := 10000000) (disch := omega) only [zr_iadd, zr_iconst, zr_aload, zr_goto, zr_getI, zr_iret, zf_14, zf_24, zKa_s, zget_0, zaB_v, true_and, and_true, zj_37_2, ze_37, s1, f1, p1]
    · rw [zhv_b (by omega)]
      simp (maxSteps := 10000000) (disch := omega) only [zr_iconst, zr_aload, zr_fall, zr_getI, zr_iret, zf_14, zt_24, zKa_s, zget_0, zaB_v, true_and, and_true, zj_37_1, zj_37_2, ze_37, s1, f1, p1]
theorem zE38 {S : zSs} {D n u : Nat} {g : Int → zk_K} {e : zm_D} {Q : ((Option zv_V) ⊕ Nat) → Nat → zk_S → zm_D → Nat → Prop} {h c : Int} (H : zHd h c) (hm : zB2 (e h 2)) (hz : 0 ≤ e h 3 ∧ e h 3 ≤ 1) (hD : 0 < D) : zE S D 38 [zv_a h] n (zSg g) (zDg e) u Q ↔ Q (.inl (some (zv_i (zsf (e h 3) (e h 2))))) n (zSg g) (zDg e) u := by
  obtain ⟨⟨p1, q1, p2, q2, p3⟩, s1, s2, f0, f1, f2, u1, u2⟩ := H
  have H2 : zHd h c := ⟨⟨p1, q1, p2, q2, p3⟩, s1, s2, f0, f1, f2, u1, u2⟩
  have hm2 := hm
  unfold zB2 at hm
  have hr := @zhv_r (e h 3) (e h 2)
  by_cases ha : e h 3 = 0
  · have e1 := @zhv_0 (e h 3) (e h 2) ha
    rw [show zsf (e h 3) (e h 2) = 0 from if_neg (fun q => q.1 ha)]
    simp (maxSteps := 10000000) (disch := omega) only [zr_iconst, zr_aload, zr_fall, zr_getI, zr_zret, zr_callV, Nat.reduceLeDiff, Int.reduceEq, true_or, zt_25, zKa_s, zKr_s, zget_0, zpop_0, zA_s, zaB_v, List.length_nil, true_and, and_true, zj_38_1, zj_38_2, ze_38, s1, f1, p1, hD, zE37 H2 hm2 hz]
  · by_cases hb : e h 2 ≤ 11
    · have e1 := @zhv_a (e h 3) (e h 2) ha hb
      rw [show zsf (e h 3) (e h 2) = 1 from if_pos ⟨ha, hb⟩]
      simp (maxSteps := 10000000) (disch := omega) only [zr_iconst, zr_aload, zr_goto, zr_getI, zr_zret, zr_callV, Nat.reduceLeDiff, Int.reduceEq, or_true, zf_25, zKa_s, zKr_s, zget_0, zpop_0, zA_s, zaB_v, List.length_nil, true_and, and_true, zj_38_2, ze_38, s1, f1, p1, hD, zE37 H2 hm2 hz]
    · have e1 := @zhv_b (e h 3) (e h 2) (by omega)
      rw [show zsf (e h 3) (e h 2) = 0 from if_neg (fun q => hb q.2)]
      simp (maxSteps := 10000000) (disch := omega) only [zr_iconst, zr_aload, zr_fall, zr_getI, zr_zret, zr_callV, Nat.reduceLeDiff, Int.reduceEq, true_or, zt_25, zKa_s, zKr_s, zget_0, zpop_0, zA_s, zaB_v, List.length_nil, true_and, and_true, zj_38_1, zj_38_2, ze_38, s1, f1, p1, hD, zE37 H2 hm2 hz]
theorem zE40 {S : zSs} {D n u : Nat} {g : Int → zk_K} {e : zm_D} {Q : ((Option zv_V) ⊕ Nat) → Nat → zk_S → zm_D → Nat → Prop} {h c : Int} (H : zHd h c) (hm : zB2 (e h 2)) (hz : 0 ≤ e h 3 ∧ e h 3 ≤ 1) (hs : 0 ≤ e h 1 ∧ e h 1 ≤ 22) (hD : 0 < D) : zE S D 40 [zv_a h] n (zSg g) (zDg e) u Q ↔ Q (.inl (some (zv_i (znt (e h 1) (e h 3) (e h 2))))) n (zSg g) (zDg e) u := by
  obtain ⟨⟨p1, q1, p2, q2, p3⟩, s1, s2, f0, f1, f2, u1, u2⟩ := H
  have H2 : zHd h c := ⟨⟨p1, q1, p2, q2, p3⟩, s1, s2, f0, f1, f2, u1, u2⟩
  have hm2 := hm
  unfold zB2 at hm
  have hr := @zhv_r (e h 3) (e h 2)
  by_cases ha : e h 1 = 2
  · by_cases hb : zhv (e h 3) (e h 2) = 21
    · rw [show znt (e h 1) (e h 3) (e h 2) = 1 from if_pos ⟨ha, hb⟩]
      simp (maxSteps := 10000000) (disch := omega) only [zr_iconst, zr_aload, zr_goto, zr_getI, zr_zret, zr_callV, Nat.reduceLeDiff, Int.reduceEq, or_true, zf_21, zKa_s, zKr_s, zget_0, zpop_0, zA_s, zaB_v, List.length_nil, true_and, and_true, zj_40_2, ze_40, s1, f1, p1, hD, zE37 H2 hm2 hz]
    · rw [show znt (e h 1) (e h 3) (e h 2) = 0 from if_neg (fun q => hb q.2)]
      simp (maxSteps := 10000000) (disch := omega) only [zr_iconst, zr_aload, zr_fall, zr_getI, zr_zret, zr_callV, Nat.reduceLeDiff, Int.reduceEq, true_or, zt_21, zf_21, zKa_s, zKr_s, zget_0, zpop_0, zA_s, zaB_v, List.length_nil, true_and, and_true, zj_40_1, zj_40_2, ze_40, s1, f1, p1, hD, zE37 H2 hm2 hz]
  · rw [show znt (e h 1) (e h 3) (e h 2) = 0 from if_neg (fun q => ha q.1)]
    simp (maxSteps := 10000000) (disch := omega) only [zr_iconst, zr_aload, zr_fall, zr_getI, zr_zret, Int.reduceEq, true_or, zt_21, zKa_s, zget_0, zaB_v, true_and, and_true, zj_40_1, zj_40_2, ze_40, s1, f1, p1]
theorem zE41 {S : zSs} {D n u : Nat} {g : Int → zk_K} {e : zm_D} {Q : ((Option zv_V) ⊕ Nat) → Nat → zk_S → zm_D → Nat → Prop} {h c : Int} (H : zHd h c)  : zE S D 41 [zv_a h] n (zSg g) (zDg e) u Q ↔ Q (.inl (some (zv_i (e h 4)))) n (zSg g) (zDg (zm_u (zm_u (zm_u e h 4 0) h 5 0) h 6 1)) u := by
  obtain ⟨⟨p1, q1, p2, q2, p3⟩, s1, s2, f0, f1, f2, u1, u2⟩ := H
  simp (maxSteps := 10000000) (disch := omega) only [zr_iconst, zr_aload, zr_iload, zr_istore, zr_getI, zr_putI, zr_putZ, zr_iret, Int.reduceEq, or_true, true_or, zKa_s, zKi_s, zget_0, zget_s, zst1_0, zst1_1, zk1_a, zaB_v, true_and, and_true, ze_41, s1, f1, u1, p1]
theorem zE42z {S : zSs} {D n u : Nat} {g : Int → zk_K} {e : zm_D} {Q : ((Option zv_V) ⊕ Nat) → Nat → zk_S → zm_D → Nat → Prop} {h c : Int} (H : zHd h c)  : zE S D 42 [zv_a h, zv_i 0] n (zSg g) (zDg e) u Q ↔ Q (.inl (some (zv_i (e h 4)))) n (zSg g) (zDg (zm_u (zm_u e h 4 0) h 5 0)) u := by
  obtain ⟨⟨p1, q1, p2, q2, p3⟩, s1, s2, f0, f1, f2, u1, u2⟩ := H
  simp (maxSteps := 10000000) (disch := omega) only [zr_iconst, zr_aload, zr_iload, zr_istore, zr_getI, zr_putI, zr_putZ, zr_iret, Nat.reduceAdd, Int.reduceEq, true_or, zt_14, zKa_s, zKi_s, zget_0, zget_s, zst1_0, zst1_1, zst1_s, zk1_i, zaB_v, true_and, and_true, zj_42_1, ze_42, s1, f1, u1, p1]
theorem zE42t {S : zSs} {D n u : Nat} {g : Int → zk_K} {e : zm_D} {Q : ((Option zv_V) ⊕ Nat) → Nat → zk_S → zm_D → Nat → Prop} {h c : Int} (H : zHd h c) (hb : 0 < e h 4 ∧ e h 4 < 2147483648) (hD : 0 < D) : zE S D 42 [zv_a h, zv_i 1] n (zSg g) (zDg e) u Q ↔ Q (.inl (some (zv_i (e h 4)))) n (zSg g) (zDg (zm_u (zm_u (zm_u (zm_u (zm_u e h 1 0) h 2 0) h 3 0) h 4 0) h 5 0)) u := by
  obtain ⟨⟨p1, q1, p2, q2, p3⟩, s1, s2, f0, f1, f2, u1, u2⟩ := H
  have H2 : zHd h c := ⟨⟨p1, q1, p2, q2, p3⟩, s1, s2, f0, f1, f2, u1, u2⟩
  simp (maxSteps := 10000000) (disch := omega) only [zr_iconst, zr_aload, zr_iload, zr_istore, zr_fall, zr_getI, zr_putI, zr_putZ, zr_iret, zr_callV, Nat.reduceAdd, Nat.reduceLeDiff, Int.reduceEq, true_or, zf_14, zf_19, zKa_s, zKi_s, zKr_s, zget_0, zget_s, zst1_0, zst1_1, zst1_s, zk1_i, zpop_0, zA_n, zaB_v, List.length_nil, true_and, and_true, zj_42_1, ze_42, s1, f1, u1, p1, hD, zE35 H2]
theorem zE42f {S : zSs} {D n u : Nat} {g : Int → zk_K} {e : zm_D} {Q : ((Option zv_V) ⊕ Nat) → Nat → zk_S → zm_D → Nat → Prop} {h c : Int} (H : zHd h c) (hb : -2147483648 ≤ e h 4 ∧ e h 4 ≤ 0) : zE S D 42 [zv_a h, zv_i 1] n (zSg g) (zDg e) u Q ↔ Q (.inl (some (zv_i (e h 4)))) n (zSg g) (zDg (zm_u (zm_u e h 4 0) h 5 0)) u := by
  obtain ⟨⟨p1, q1, p2, q2, p3⟩, s1, s2, f0, f1, f2, u1, u2⟩ := H
  simp (maxSteps := 10000000) (disch := omega) only [zr_iconst, zr_aload, zr_iload, zr_istore, zr_getI, zr_putI, zr_putZ, zr_iret, Nat.reduceAdd, Int.reduceEq, true_or, zf_14, zt_19, zKa_s, zKi_s, zget_0, zget_s, zst1_0, zst1_1, zst1_s, zk1_i, zaB_v, true_and, and_true, zj_42_1, ze_42, s1, f1, u1, p1]
