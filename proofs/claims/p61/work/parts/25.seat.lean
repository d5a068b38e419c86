/-! ===== SEAT: a seat's methods ===== -/
set_option maxRecDepth 65536
def zSe (q h c k b : Int) : Prop := (0 < q ∧ q ≤ 161 ∧ q ≠ h ∧ q ≠ c ∧ q ≠ k ∧ q ≠ b ∧ h ≠ k ∧ h ≠ b ∧ c ≠ k ∧ c ≠ b) ∧ zHd h c ∧ zHd k b ∧ (∀ g, zSg g q = some (.inl 6)) ∧ (∀ e, zDg e q 0 = h) ∧ (∀ e, zDg e q 1 = k) ∧ (∀ e, zDg e q 2 = e q 2) ∧ (∀ e, zDg e q 3 = e q 3) ∧ (∀ e x, zm_u (zDg e) q 2 x = zDg (zm_u e q 2 x)) ∧ (∀ e x, zm_u (zDg e) q 3 x = zDg (zm_u e q 3 x))
theorem zSe_38 : zSe 38 39 40 41 42 := ⟨by decide, zHd_39, zHd_41, fun _ => zSg_38, fun _ => zg_38_0, fun _ => zg_38_1, fun _ => zg_38_2, fun _ => zg_38_3, fun _ _ => zgu_38_2, fun _ _ => zgu_38_3⟩
theorem zSe_43 : zSe 43 44 45 46 47 := ⟨by decide, zHd_44, zHd_46, fun _ => zSg_43, fun _ => zg_43_0, fun _ => zg_43_1, fun _ => zg_43_2, fun _ => zg_43_3, fun _ _ => zgu_43_2, fun _ _ => zgu_43_3⟩
theorem zSe_48 : zSe 48 49 50 51 52 := ⟨by decide, zHd_49, zHd_51, fun _ => zSg_48, fun _ => zg_48_0, fun _ => zg_48_1, fun _ => zg_48_2, fun _ => zg_48_3, fun _ _ => zgu_48_2, fun _ _ => zgu_48_3⟩
theorem zSeI {i : Int} (hi : 0 ≤ i ∧ i < 3) : zSe (38 + 5 * i) (39 + 5 * i) (40 + 5 * i) (41 + 5 * i) (42 + 5 * i) := by
  rcases (by omega : i = 0 ∨ i = 1 ∨ i = 2) with rfl | rfl | rfl
  · exact zSe_38
  · exact zSe_43
  · exact zSe_48
theorem zE70 {S : zSs} {D n u : Nat} {g : Int → zk_K} {e : zm_D} {Q : ((Option zv_V) ⊕ Nat) → Nat → zk_S → zm_D → Nat → Prop} {q h c k b : Int} (H : zSe q h c k b)  : zE S D 70 [zv_a q] n (zSg g) (zDg e) u Q ↔ Q (.inl (some (zv_i (e h 4 + e k 4)))) n (zSg g) (zDg e) u := by
  obtain ⟨⟨p1, q1, d1, d2, d3, d4, d5, d6, d7, d8⟩, A, B, s1, f0, f1, f2, f3, u2, u3⟩ := H
  have A2 := A
  have B2 := B
  obtain ⟨⟨pa1, qa1, pa2, qa2, pa3⟩, sa1, sa2, fa0, fa1, fa2, ua1, ua2⟩ := A
  obtain ⟨⟨pb1, qb1, pb2, qb2, pb3⟩, sb1, sb2, fb0, fb1, fb2, ub1, ub2⟩ := B
  simp (maxSteps := 10000000) (disch := first | omega | (simp (disch := omega) only [zm_ue, zm_un, zm_ri, zm_ro] <;> omega) | fail) only [zr_iadd, zr_aload, zr_getI, zr_getA, zr_iret, zKa_s, zget_0, zaB_v, true_and, and_true, ze_70, p1, s1, f0, f1, pa1, sa1, fa1, pb1, sb1, fb1]
theorem zE69t {S : zSs} {D n u : Nat} {g : Int → zk_K} {e : zm_D} {Q : ((Option zv_V) ⊕ Nat) → Nat → zk_S → zm_D → Nat → Prop} {q h c k b : Int} (H : zSe q h c k b) (hk : zB2 (e h 4 + e k 4)) (h6 : 0 ≤ e h 6 ∧ e h 6 ≤ 1) (k6 : 0 ≤ e k 6 ∧ e k 6 ≤ 1) (hs : 0 < e h 4 + e k 4 ∨ e h 6 = 1 ∨ e k 6 = 1) (hD : 0 < D) : zE S D 69 [zv_a q] n (zSg g) (zDg e) u Q ↔ Q (.inl (some (zv_i (1)))) n (zSg g) (zDg e) u := by
  have H2 := H
  obtain ⟨⟨p1, q1, d1, d2, d3, d4, d5, d6, d7, d8⟩, A, B, s1, f0, f1, f2, f3, u2, u3⟩ := H
  have A2 := A
  have B2 := B
  obtain ⟨⟨pa1, qa1, pa2, qa2, pa3⟩, sa1, sa2, fa0, fa1, fa2, ua1, ua2⟩ := A
  obtain ⟨⟨pb1, qb1, pb2, qb2, pb3⟩, sb1, sb2, fb0, fb1, fb2, ub1, ub2⟩ := B
  unfold zB2 at hk
  have r1 := fun {S D n u g Q} => @zE70 S D n u g e Q q h c k b H2
  by_cases c1 : 0 < e h 4 + e k 4
  · clear hs
    simp (maxSteps := 10000000) (disch := first | omega | (simp (disch := omega) only [zm_ue, zm_un, zm_ri, zm_ro] <;> omega) | fail) only [zr_iconst, zr_aload, zr_goto, zr_zret, zr_callV, Nat.reduceLeDiff, Int.reduceEq, or_true, zt_18, zKa_s, zKr_s, zget_0, zpop_0, zA_s, zaB_v, List.length_nil, true_and, and_true, zj_69_1, zj_69_3, ze_69, p1, s1, r1, hD]
  · by_cases c2 : e h 6 = 1
    · clear hs
      simp (maxSteps := 10000000) (disch := first | omega | (simp (disch := omega) only [zm_ue, zm_un, zm_ri, zm_ro] <;> omega) | fail) only [zr_iconst, zr_aload, zr_goto, zr_getI, zr_getA, zr_zret, zr_callV, Nat.reduceLeDiff, Int.reduceEq, or_true, zt_15, zf_18, zKa_s, zKr_s, zget_0, zpop_0, zA_s, zaB_v, List.length_nil, true_and, and_true, zj_69_1, zj_69_3, ze_69, p1, s1, f0, pa1, sa1, fa1, r1, hD]
    · have c3 : e k 6 = 1 := by omega
      clear hs
      simp (maxSteps := 10000000) (disch := first | omega | (simp (disch := omega) only [zm_ue, zm_un, zm_ri, zm_ro] <;> omega) | fail) only [zr_iconst, zr_aload, zr_goto, zr_fall, zr_getI, zr_getA, zr_zret, zr_callV, Nat.reduceLeDiff, Int.reduceEq, or_true, zf_14, zf_15, zf_18, zKa_s, zKr_s, zget_0, zpop_0, zA_s, zaB_v, List.length_nil, true_and, and_true, zj_69_1, zj_69_3, ze_69, p1, s1, f0, f1, pa1, sa1, fa1, pb1, sb1, fb1, r1, hD]
theorem zE69f {S : zSs} {D n u : Nat} {g : Int → zk_K} {e : zm_D} {Q : ((Option zv_V) ⊕ Nat) → Nat → zk_S → zm_D → Nat → Prop} {q h c k b : Int} (H : zSe q h c k b) (hk : zB2 (e h 4 + e k 4)) (h6 : e h 6 = 0) (k6 : e k 6 = 0) (hs : e h 4 + e k 4 ≤ 0) (hD : 0 < D) : zE S D 69 [zv_a q] n (zSg g) (zDg e) u Q ↔ Q (.inl (some (zv_i (0)))) n (zSg g) (zDg e) u := by
  have H2 := H
  obtain ⟨⟨p1, q1, d1, d2, d3, d4, d5, d6, d7, d8⟩, A, B, s1, f0, f1, f2, f3, u2, u3⟩ := H
  have A2 := A
  have B2 := B
  obtain ⟨⟨pa1, qa1, pa2, qa2, pa3⟩, sa1, sa2, fa0, fa1, fa2, ua1, ua2⟩ := A
  obtain ⟨⟨pb1, qb1, pb2, qb2, pb3⟩, sb1, sb2, fb0, fb1, fb2, ub1, ub2⟩ := B
  unfold zB2 at hk
  have r1 := fun {S D n u g Q} => @zE70 S D n u g e Q q h c k b H2
  simp (maxSteps := 10000000) (disch := first | omega | (simp (disch := omega) only [zm_ue, zm_un, zm_ri, zm_ro] <;> omega) | fail) only [zr_iconst, zr_aload, zr_fall, zr_getI, zr_getA, zr_zret, zr_callV, Nat.reduceLeDiff, Int.reduceEq, true_or, zt_14, zf_15, zf_18, zKa_s, zKr_s, zget_0, zpop_0, zA_s, zaB_v, List.length_nil, true_and, and_true, zj_69_2, zj_69_3, ze_69, p1, s1, f0, f1, pa1, sa1, fa1, pb1, sb1, fb1, r1, hD]
theorem zE71 {S : zSs} {D n u : Nat} {g : Int → zk_K} {e : zm_D} {Q : ((Option zv_V) ⊕ Nat) → Nat → zk_S → zm_D → Nat → Prop} {q h c k b : Int} (H : zSe q h c k b) {x y : Int} : zE S D 71 [zv_a q, zv_a y, zv_i x] n (zSg g) (zDg e) u Q ↔ Q (.inl none) n (zSg g) (zDg (zm_u (zm_u e q 2 y) h 4 x)) u := by
  obtain ⟨⟨p1, q1, d1, d2, d3, d4, d5, d6, d7, d8⟩, A, B, s1, f0, f1, f2, f3, u2, u3⟩ := H
  have A2 := A
  have B2 := B
  obtain ⟨⟨pa1, qa1, pa2, qa2, pa3⟩, sa1, sa2, fa0, fa1, fa2, ua1, ua2⟩ := A
  obtain ⟨⟨pb1, qb1, pb2, qb2, pb3⟩, sb1, sb2, fb0, fb1, fb2, ub1, ub2⟩ := B
  simp (maxSteps := 10000000) (disch := first | omega | (simp (disch := omega) only [zm_ue, zm_un, zm_ri, zm_ro] <;> omega) | fail) only [zr_aload, zr_iload, zr_getA, zr_putI, zr_putA, zr_vret, zKa_s, zKi_s, zget_0, zget_s, zm_un, zaB_v, true_and, and_true, ze_71, p1, s1, f0, u2, pa1, sa1, ua1]
theorem zE72_0 {S : zSs} {D n u : Nat} {g : Int → zk_K} {e : zm_D} {Q : ((Option zv_V) ⊕ Nat) → Nat → zk_S → zm_D → Nat → Prop} {q h c k b : Int} (H : zSe q h c k b) (hs : 0 < e h 1 ∧ e h 1 ≤ 22) : zE S D 72 [zv_a q, zv_i 0] n (zSg g) (zDg e) u Q ↔ Q (.inl (some (zv_a (h)))) n (zSg g) (zDg e) u := by
  obtain ⟨⟨p1, q1, d1, d2, d3, d4, d5, d6, d7, d8⟩, A, B, s1, f0, f1, f2, f3, u2, u3⟩ := H
  have A2 := A
  have B2 := B
  obtain ⟨⟨pa1, qa1, pa2, qa2, pa3⟩, sa1, sa2, fa0, fa1, fa2, ua1, ua2⟩ := A
  obtain ⟨⟨pb1, qb1, pb2, qb2, pb3⟩, sb1, sb2, fb0, fb1, fb2, ub1, ub2⟩ := B
  have zna : (h = 0) = False := by simp; omega
  simp (maxSteps := 10000000) (disch := first | omega | (simp (disch := omega) only [zm_ue, zm_un, zm_ri, zm_ro] <;> omega) | fail) only [zr_null, zr_aload, zr_iload, zr_astore, zr_in26, zr_goto, zr_fall, zr_getI, zr_getA, zr_aret, Nat.reduceAdd, reduceIte, zf_15, zf_19, zKa_s, zKi_s, zget_0, zget_s, zst1_0, zst1_1, zst1_s, zk1_i, zaB_v, true_and, and_true, zj_72_2, zj_72_3, zj_72_4, ze_72, p1, s1, f0, pa1, sa1, fa1, zna]
theorem zE72_0z {S : zSs} {D n u : Nat} {g : Int → zk_K} {e : zm_D} {Q : ((Option zv_V) ⊕ Nat) → Nat → zk_S → zm_D → Nat → Prop} {q h c k b : Int} (H : zSe q h c k b) (hs : e h 1 = 0) : zE S D 72 [zv_a q, zv_i 0] n (zSg g) (zDg e) u Q ↔ Q (.inl (some (zv_a (0)))) n (zSg g) (zDg e) u := by
  obtain ⟨⟨p1, q1, d1, d2, d3, d4, d5, d6, d7, d8⟩, A, B, s1, f0, f1, f2, f3, u2, u3⟩ := H
  have A2 := A
  have B2 := B
  obtain ⟨⟨pa1, qa1, pa2, qa2, pa3⟩, sa1, sa2, fa0, fa1, fa2, ua1, ua2⟩ := A
  obtain ⟨⟨pb1, qb1, pb2, qb2, pb3⟩, sb1, sb2, fb0, fb1, fb2, ub1, ub2⟩ := B
  have zna : (h = 0) = False := by simp; omega
  simp (maxSteps := 10000000) (disch := first | omega | (simp (disch := omega) only [zm_ue, zm_un, zm_ri, zm_ro] <;> omega) | fail) only [zr_null, zr_aload, zr_iload, zr_astore, zr_in26, zr_goto, zr_fall, zr_getI, zr_getA, zr_aret, Nat.reduceAdd, reduceIte, zf_15, zt_19, zKa_s, zKi_s, zget_0, zget_s, zst1_0, zst1_1, zst1_s, zk1_i, zaB_v, true_and, and_true, zj_72_2, zj_72_3, zj_72_4, ze_72, p1, s1, f0, pa1, sa1, fa1, zna]
theorem zE72_1 {S : zSs} {D n u : Nat} {g : Int → zk_K} {e : zm_D} {Q : ((Option zv_V) ⊕ Nat) → Nat → zk_S → zm_D → Nat → Prop} {q h c k b : Int} (H : zSe q h c k b) (hs : 0 < e k 1 ∧ e k 1 ≤ 22) : zE S D 72 [zv_a q, zv_i 1] n (zSg g) (zDg e) u Q ↔ Q (.inl (some (zv_a (k)))) n (zSg g) (zDg e) u := by
  obtain ⟨⟨p1, q1, d1, d2, d3, d4, d5, d6, d7, d8⟩, A, B, s1, f0, f1, f2, f3, u2, u3⟩ := H
  have A2 := A
  have B2 := B
  obtain ⟨⟨pa1, qa1, pa2, qa2, pa3⟩, sa1, sa2, fa0, fa1, fa2, ua1, ua2⟩ := A
  obtain ⟨⟨pb1, qb1, pb2, qb2, pb3⟩, sb1, sb2, fb0, fb1, fb2, ub1, ub2⟩ := B
  have zna : (k = 0) = False := by simp; omega
  simp (maxSteps := 10000000) (disch := first | omega | (simp (disch := omega) only [zm_ue, zm_un, zm_ri, zm_ro] <;> omega) | fail) only [zr_iconst, zr_null, zr_aload, zr_iload, zr_astore, zr_in26, zr_goto, zr_fall, zr_getI, zr_getA, zr_aret, Nat.reduceAdd, reduceIte, zt_15, zf_19, zf_21, zKa_s, zKi_s, zget_0, zget_s, zst1_0, zst1_1, zst1_s, zk1_i, zaB_v, true_and, and_true, zj_72_1, zj_72_2, zj_72_3, zj_72_4, ze_72, p1, s1, f1, pb1, sb1, fb1, zna]
theorem zE72_1z {S : zSs} {D n u : Nat} {g : Int → zk_K} {e : zm_D} {Q : ((Option zv_V) ⊕ Nat) → Nat → zk_S → zm_D → Nat → Prop} {q h c k b : Int} (H : zSe q h c k b) (hs : e k 1 = 0) : zE S D 72 [zv_a q, zv_i 1] n (zSg g) (zDg e) u Q ↔ Q (.inl (some (zv_a (0)))) n (zSg g) (zDg e) u := by
  obtain ⟨⟨p1, q1, d1, d2, d3, d4, d5, d6, d7, d8⟩, A, B, s1, f0, f1, f2, f3, u2, u3⟩ := H
  have A2 := A
  have B2 := B
  obtain ⟨⟨pa1, qa1, pa2, qa2, pa3⟩, sa1, sa2, fa0, fa1, fa2, ua1, ua2⟩ := A
  obtain ⟨⟨pb1, qb1, pb2, qb2, pb3⟩, sb1, sb2, fb0, fb1, fb2, ub1, ub2⟩ := B
  have zna : (k = 0) = False := by simp; omega
  simp (maxSteps := 10000000) (disch := first | omega | (simp (disch := omega) only [zm_ue, zm_un, zm_ri, zm_ro] <;> omega) | fail) only [zr_iconst, zr_null, zr_aload, zr_iload, zr_astore, zr_in26, zr_fall, zr_getI, zr_getA, zr_aret, Nat.reduceAdd, reduceIte, zt_15, zt_19, zf_21, zKa_s, zKi_s, zget_0, zget_s, zst1_0, zst1_1, zst1_s, zk1_i, zaB_v, true_and, and_true, zj_72_1, zj_72_2, zj_72_3, zj_72_4, ze_72, p1, s1, f1, pb1, sb1, fb1, zna]
theorem zE72_o {S : zSs} {D n u : Nat} {g : Int → zk_K} {e : zm_D} {Q : ((Option zv_V) ⊕ Nat) → Nat → zk_S → zm_D → Nat → Prop} {q h c k b : Int} (H : zSe q h c k b) {x : Int} (hx : x < 0 ∨ 1 < x) (hb : -2147483648 ≤ x ∧ x < 2147483648) : zE S D 72 [zv_a q, zv_i x] n (zSg g) (zDg e) u Q ↔ Q (.inl (some (zv_a (0)))) n (zSg g) (zDg e) u := by
  obtain ⟨⟨p1, q1, d1, d2, d3, d4, d5, d6, d7, d8⟩, A, B, s1, f0, f1, f2, f3, u2, u3⟩ := H
  have A2 := A
  have B2 := B
  obtain ⟨⟨pa1, qa1, pa2, qa2, pa3⟩, sa1, sa2, fa0, fa1, fa2, ua1, ua2⟩ := A
  obtain ⟨⟨pb1, qb1, pb2, qb2, pb3⟩, sb1, sb2, fb0, fb1, fb2, ub1, ub2⟩ := B
  rcases hx with hx | hx
  all_goals
    simp (maxSteps := 10000000) (disch := first | omega | (simp (disch := omega) only [zm_ue, zm_un, zm_ri, zm_ro] <;> omega) | fail) only [zr_iconst, zr_null, zr_aload, zr_iload, zr_astore, zr_in26, zr_fall, zr_getI, zr_aret, Nat.reduceAdd, Int.reduceLT, reduceIte, false_and, zt_15, zt_21, zKa_s, zKi_s, zget_0, zget_s, zst1_0, zst1_1, zst1_s, zk1_i, zj_72_1, zj_72_2, zj_72_3, zj_72_4, ze_72]
theorem zE73_h {S : zSs} {D n u : Nat} {g : Int → zk_K} {e : zm_D} {Q : ((Option zv_V) ⊕ Nat) → Nat → zk_S → zm_D → Nat → Prop} {q h c k b : Int} (H : zSe q h c k b) (h5 : e h 5 = 1) : zE S D 73 [zv_a q] n (zSg g) (zDg e) u Q ↔ Q (.inl (some (zv_a (h)))) n (zSg g) (zDg e) u := by
  obtain ⟨⟨p1, q1, d1, d2, d3, d4, d5, d6, d7, d8⟩, A, B, s1, f0, f1, f2, f3, u2, u3⟩ := H
  have A2 := A
  have B2 := B
  obtain ⟨⟨pa1, qa1, pa2, qa2, pa3⟩, sa1, sa2, fa0, fa1, fa2, ua1, ua2⟩ := A
  obtain ⟨⟨pb1, qb1, pb2, qb2, pb3⟩, sb1, sb2, fb0, fb1, fb2, ub1, ub2⟩ := B
  simp (maxSteps := 10000000) (disch := first | omega | (simp (disch := omega) only [zm_ue, zm_un, zm_ri, zm_ro] <;> omega) | fail) only [zr_aload, zr_getI, zr_getA, zr_aret, zf_14, zKa_s, zget_0, zaB_v, true_and, and_true, ze_73, p1, s1, f0, pa1, sa1, fa1]
theorem zE73_k {S : zSs} {D n u : Nat} {g : Int → zk_K} {e : zm_D} {Q : ((Option zv_V) ⊕ Nat) → Nat → zk_S → zm_D → Nat → Prop} {q h c k b : Int} (H : zSe q h c k b) (h5 : e h 5 = 0) (k5 : e k 5 = 1) : zE S D 73 [zv_a q] n (zSg g) (zDg e) u Q ↔ Q (.inl (some (zv_a (k)))) n (zSg g) (zDg e) u := by
  obtain ⟨⟨p1, q1, d1, d2, d3, d4, d5, d6, d7, d8⟩, A, B, s1, f0, f1, f2, f3, u2, u3⟩ := H
  have A2 := A
  have B2 := B
  obtain ⟨⟨pa1, qa1, pa2, qa2, pa3⟩, sa1, sa2, fa0, fa1, fa2, ua1, ua2⟩ := A
  obtain ⟨⟨pb1, qb1, pb2, qb2, pb3⟩, sb1, sb2, fb0, fb1, fb2, ub1, ub2⟩ := B
  simp (maxSteps := 10000000) (disch := first | omega | (simp (disch := omega) only [zm_ue, zm_un, zm_ri, zm_ro] <;> omega) | fail) only [zr_aload, zr_goto, zr_getI, zr_getA, zr_aret, zt_14, zf_14, zKa_s, zget_0, zaB_v, true_and, and_true, zj_73_1, zj_73_3, ze_73, p1, s1, f0, f1, pa1, sa1, fa1, pb1, sb1, fb1]
theorem zE73_0 {S : zSs} {D n u : Nat} {g : Int → zk_K} {e : zm_D} {Q : ((Option zv_V) ⊕ Nat) → Nat → zk_S → zm_D → Nat → Prop} {q h c k b : Int} (H : zSe q h c k b) (h5 : e h 5 = 0) (k5 : e k 5 = 0) : zE S D 73 [zv_a q] n (zSg g) (zDg e) u Q ↔ Q (.inl (some (zv_a (0)))) n (zSg g) (zDg e) u := by
  obtain ⟨⟨p1, q1, d1, d2, d3, d4, d5, d6, d7, d8⟩, A, B, s1, f0, f1, f2, f3, u2, u3⟩ := H
  have A2 := A
  have B2 := B
  obtain ⟨⟨pa1, qa1, pa2, qa2, pa3⟩, sa1, sa2, fa0, fa1, fa2, ua1, ua2⟩ := A
  obtain ⟨⟨pb1, qb1, pb2, qb2, pb3⟩, sb1, sb2, fb0, fb1, fb2, ub1, ub2⟩ := B
  simp (maxSteps := 10000000) (disch := first | omega | (simp (disch := omega) only [zm_ue, zm_un, zm_ri, zm_ro] <;> omega) | fail) only [zr_null, zr_aload, zr_fall, zr_getI, zr_getA, zr_aret, zt_14, zKa_s, zget_0, zaB_v, true_and, and_true, zj_73_1, zj_73_2, zj_73_3, ze_73, p1, s1, f0, f1, pa1, sa1, fa1, pb1, sb1, fb1]
def zsn (sp k a s : Int) : Int := if sp ≠ 0 then 0 else znt k a s
theorem zsn_s {sp k a s : Int} (h : sp = 1) : zsn sp k a s = 0 := if_pos (by omega)
theorem zsn_0 {sp k a s : Int} (h : sp = 0) : zsn sp k a s = znt k a s := if_neg (by omega)
theorem znt_b {k a s : Int} : 0 ≤ znt k a s ∧ znt k a s ≤ 1 := by unfold znt; split <;> decide
theorem zE75 {S : zSs} {D n u : Nat} {g : Int → zk_K} {e : zm_D} {Q : ((Option zv_V) ⊕ Nat) → Nat → zk_S → zm_D → Nat → Prop} {q h c k b : Int} (H : zSe q h c k b) (hm : zB2 (e h 2)) (hz : 0 ≤ e h 3 ∧ e h 3 ≤ 1) (hs : 0 ≤ e h 1 ∧ e h 1 ≤ 22) (h3 : e q 3 = 0 ∨ e q 3 = 1) (hD : 1 < D) : zE S D 75 [zv_a q] n (zSg g) (zDg e) u Q ↔ Q (.inl (some (zv_i (zsn (e q 3) (e h 1) (e h 3) (e h 2))))) n (zSg g) (zDg e) u := by
  obtain ⟨⟨p1, q1, d1, d2, d3, d4, d5, d6, d7, d8⟩, A, B, s1, f0, f1, f2, f3, u2, u3⟩ := H
  have A2 := A
  have B2 := B
  obtain ⟨⟨pa1, qa1, pa2, qa2, pa3⟩, sa1, sa2, fa0, fa1, fa2, ua1, ua2⟩ := A
  obtain ⟨⟨pb1, qb1, pb2, qb2, pb3⟩, sb1, sb2, fb0, fb1, fb2, ub1, ub2⟩ := B
  have hD1 : 0 < D := by omega
  have hD2 : 0 < D - 1 := by omega
  have r1 := fun {S n u g Q} => @zE40 S (D - 1) n u g e Q h c A2 hm hz hs hD2
  have r2 := @znt_b (e h 1) (e h 3) (e h 2)
  rcases h3 with h3 | h3
  · rw [zsn_0 h3]
    rcases (by omega : znt (e h 1) (e h 3) (e h 2) = 0 ∨ znt (e h 1) (e h 3) (e h 2) = 1) with r3 | r3
    all_goals rw [r3] at r1 ⊢
    all_goals
      simp (maxSteps := 10000000) (disch := first | omega | (simp (disch := omega) only [zm_ue, zm_un, zm_ri, zm_ro] <;> omega) | fail) only [zr_iconst, zr_aload, zr_goto, zr_fall, zr_getI, zr_getA, zr_zret, zr_callV, Nat.reduceLeDiff, Int.reduceEq, or_true, true_or, zt_14, zf_14, zf_15, zKa_s, zKr_s, zget_0, zpop_0, zA_s, zaB_v, List.length_nil, true_and, and_true, zj_75_1, zj_75_2, ze_75, p1, s1, f0, f3, pa1, sa1, r1, hD1]
  · rw [zsn_s h3]
    simp (maxSteps := 10000000) (disch := first | omega | (simp (disch := omega) only [zm_ue, zm_un, zm_ri, zm_ro] <;> omega) | fail) only [zr_iconst, zr_aload, zr_fall, zr_getI, zr_zret, Int.reduceEq, true_or, zt_15, zKa_s, zget_0, zaB_v, true_and, and_true, zj_75_1, zj_75_2, ze_75, p1, s1, f3]
theorem zE76t {S : zSs} {D n u : Nat} {g : Int → zk_K} {e : zm_D} {Q : ((Option zv_V) ⊕ Nat) → Nat → zk_S → zm_D → Nat → Prop} {q h c k b : Int} (H : zSe q h c k b) (hk : zB2 (e h 4 + e k 4)) (hm : zB2 (e h 2)) (hz : 0 ≤ e h 3 ∧ e h 3 ≤ 1) (hs : 0 ≤ e h 1 ∧ e h 1 ≤ 22) (h3 : e q 3 = 0 ∨ e q 3 = 1) (hD : 2 < D) (ht : 0 < e h 4 + e k 4) (hn : zsn (e q 3) (e h 1) (e h 3) (e h 2) = 0) : zE S D 76 [zv_a q] n (zSg g) (zDg e) u Q ↔ Q (.inl (some (zv_i (1)))) n (zSg g) (zDg e) u := by
  have H2 := H
  obtain ⟨⟨p1, q1, d1, d2, d3, d4, d5, d6, d7, d8⟩, A, B, s1, f0, f1, f2, f3, u2, u3⟩ := H
  have A2 := A
  have B2 := B
  obtain ⟨⟨pa1, qa1, pa2, qa2, pa3⟩, sa1, sa2, fa0, fa1, fa2, ua1, ua2⟩ := A
  obtain ⟨⟨pb1, qb1, pb2, qb2, pb3⟩, sb1, sb2, fb0, fb1, fb2, ub1, ub2⟩ := B
  unfold zB2 at hk
  have hD1 : 0 < D := by omega
  have r0 := fun {S D n u g Q} => @zE70 S D n u g e Q q h c k b H2
  have r1 := fun {S n u g Q} => @zE75 S (D - 1) n u g e Q q h c k b H2 hm hz hs h3 (by omega)
  rw [hn] at r1
  simp (maxSteps := 10000000) (disch := first | omega | (simp (disch := omega) only [zm_ue, zm_un, zm_ri, zm_ro] <;> omega) | fail) only [zr_iconst, zr_aload, zr_goto, zr_zret, zr_callV, Nat.reduceLeDiff, Int.reduceEq, or_true, zf_15, zf_19, zKa_s, zKr_s, zget_0, zpop_0, zA_s, zaB_v, List.length_nil, true_and, and_true, zj_76_2, ze_76, p1, s1, r0, r1, hD1]
theorem zE76n {S : zSs} {D n u : Nat} {g : Int → zk_K} {e : zm_D} {Q : ((Option zv_V) ⊕ Nat) → Nat → zk_S → zm_D → Nat → Prop} {q h c k b : Int} (H : zSe q h c k b) (hk : zB2 (e h 4 + e k 4)) (hm : zB2 (e h 2)) (hz : 0 ≤ e h 3 ∧ e h 3 ≤ 1) (hs : 0 ≤ e h 1 ∧ e h 1 ≤ 22) (h3 : e q 3 = 0 ∨ e q 3 = 1) (hD : 2 < D) (ht : 0 < e h 4 + e k 4) (hn : zsn (e q 3) (e h 1) (e h 3) (e h 2) = 1) : zE S D 76 [zv_a q] n (zSg g) (zDg e) u Q ↔ Q (.inl (some (zv_i (0)))) n (zSg g) (zDg e) u := by
  have H2 := H
  obtain ⟨⟨p1, q1, d1, d2, d3, d4, d5, d6, d7, d8⟩, A, B, s1, f0, f1, f2, f3, u2, u3⟩ := H
  have A2 := A
  have B2 := B
  obtain ⟨⟨pa1, qa1, pa2, qa2, pa3⟩, sa1, sa2, fa0, fa1, fa2, ua1, ua2⟩ := A
  obtain ⟨⟨pb1, qb1, pb2, qb2, pb3⟩, sb1, sb2, fb0, fb1, fb2, ub1, ub2⟩ := B
  unfold zB2 at hk
  have hD1 : 0 < D := by omega
  have r0 := fun {S D n u g Q} => @zE70 S D n u g e Q q h c k b H2
  have r1 := fun {S n u g Q} => @zE75 S (D - 1) n u g e Q q h c k b H2 hm hz hs h3 (by omega)
  rw [hn] at r1
  simp (maxSteps := 10000000) (disch := first | omega | (simp (disch := omega) only [zm_ue, zm_un, zm_ri, zm_ro] <;> omega) | fail) only [zr_iconst, zr_aload, zr_fall, zr_zret, zr_callV, Nat.reduceLeDiff, Int.reduceEq, true_or, zt_15, zf_19, zKa_s, zKr_s, zget_0, zpop_0, zA_s, zaB_v, List.length_nil, true_and, and_true, zj_76_1, zj_76_2, ze_76, p1, s1, r0, r1, hD1]
theorem zE76f {S : zSs} {D n u : Nat} {g : Int → zk_K} {e : zm_D} {Q : ((Option zv_V) ⊕ Nat) → Nat → zk_S → zm_D → Nat → Prop} {q h c k b : Int} (H : zSe q h c k b) (hk : zB2 (e h 4 + e k 4)) (ht : e h 4 + e k 4 ≤ 0) (hD : 2 < D) : zE S D 76 [zv_a q] n (zSg g) (zDg e) u Q ↔ Q (.inl (some (zv_i (0)))) n (zSg g) (zDg e) u := by
  have H2 := H
  obtain ⟨⟨p1, q1, d1, d2, d3, d4, d5, d6, d7, d8⟩, A, B, s1, f0, f1, f2, f3, u2, u3⟩ := H
  have A2 := A
  have B2 := B
  obtain ⟨⟨pa1, qa1, pa2, qa2, pa3⟩, sa1, sa2, fa0, fa1, fa2, ua1, ua2⟩ := A
  obtain ⟨⟨pb1, qb1, pb2, qb2, pb3⟩, sb1, sb2, fb0, fb1, fb2, ub1, ub2⟩ := B
  unfold zB2 at hk
  have hD1 : 0 < D := by omega
  have r0 := fun {S D n u g Q} => @zE70 S D n u g e Q q h c k b H2
  simp (maxSteps := 10000000) (disch := first | omega | (simp (disch := omega) only [zm_ue, zm_un, zm_ri, zm_ro] <;> omega) | fail) only [zr_iconst, zr_aload, zr_fall, zr_zret, zr_callV, Nat.reduceLeDiff, Int.reduceEq, true_or, zt_19, zKa_s, zKr_s, zget_0, zpop_0, zA_s, zaB_v, List.length_nil, true_and, and_true, zj_76_1, zj_76_2, ze_76, p1, s1, r0, hD1]
theorem zE77 {S : zSs} {D n u : Nat} {g : Int → zk_K} {e : zm_D} {Q : ((Option zv_V) ⊕ Nat) → Nat → zk_S → zm_D → Nat → Prop} {q h c k b : Int} (H : zSe q h c k b) (hD : 0 < D) : zE S D 77 [zv_a q] n (zSg g) (zDg e) u Q ↔ Q (.inl none) n (zSg g) (zDg (zm_u (zm_u (zm_u (zm_u (zm_u (zm_u (zm_u e h 1 0) h 2 0) h 3 0) k 1 0) k 2 0) k 3 0) q 3 0)) u := by
  obtain ⟨⟨p1, q1, d1, d2, d3, d4, d5, d6, d7, d8⟩, A, B, s1, f0, f1, f2, f3, u2, u3⟩ := H
  have A2 := A
  have B2 := B
  obtain ⟨⟨pa1, qa1, pa2, qa2, pa3⟩, sa1, sa2, fa0, fa1, fa2, ua1, ua2⟩ := A
  obtain ⟨⟨pb1, qb1, pb2, qb2, pb3⟩, sb1, sb2, fb0, fb1, fb2, ub1, ub2⟩ := B
  simp (maxSteps := 10000000) (disch := first | omega | (simp (disch := omega) only [zm_ue, zm_un, zm_ri, zm_ro] <;> omega) | fail) only [zr_iconst, zr_aload, zr_getA, zr_putZ, zr_vret, zr_callV, Nat.reduceLeDiff, Int.reduceEq, true_or, zKa_s, zKr_s, zget_0, zpop_0, zA_n, zaB_v, List.length_nil, true_and, and_true, ze_77, p1, s1, f0, f1, u3, pa1, sa1, pb1, sb1, zE35 A2, zE35 B2, hD]
theorem zE78 {S : zSs} {D n u : Nat} {g : Int → zk_K} {e : zm_D} {Q : ((Option zv_V) ⊕ Nat) → Nat → zk_S → zm_D → Nat → Prop} {q h c k b : Int} (H : zSe q h c k b)  : zE S D 78 [zv_a q] n (zSg g) (zDg e) u Q ↔ Q (.inl none) n (zSg g) (zDg (zm_u (zm_u (zm_u e h 6 0) k 6 0) q 2 0)) u := by
  obtain ⟨⟨p1, q1, d1, d2, d3, d4, d5, d6, d7, d8⟩, A, B, s1, f0, f1, f2, f3, u2, u3⟩ := H
  have A2 := A
  have B2 := B
  obtain ⟨⟨pa1, qa1, pa2, qa2, pa3⟩, sa1, sa2, fa0, fa1, fa2, ua1, ua2⟩ := A
  obtain ⟨⟨pb1, qb1, pb2, qb2, pb3⟩, sb1, sb2, fb0, fb1, fb2, ub1, ub2⟩ := B
  simp (maxSteps := 10000000) (disch := first | omega | (simp (disch := omega) only [zm_ue, zm_un, zm_ri, zm_ro] <;> omega) | fail) only [zr_iconst, zr_null, zr_aload, zr_getA, zr_putZ, zr_putA, zr_vret, Int.reduceEq, true_or, zKa_s, zget_0, zm_un, zaB_v, true_and, and_true, ze_78, p1, s1, f0, f1, u2, pa1, sa1, ua1, pb1, sb1, ub1]
theorem zE79z {S : zSs} {D n u : Nat} {g : Int → zk_K} {e : zm_D} {Q : ((Option zv_V) ⊕ Nat) → Nat → zk_S → zm_D → Nat → Prop} {q h c k b : Int} (H : zSe q h c k b) (hD : 0 < D) : zE S D 79 [zv_a q, zv_i 0] n (zSg g) (zDg e) u Q ↔ Q (.inl (some (zv_i (e h 4 + e k 4)))) n (zSg g) (zDg (zm_u (zm_u (zm_u (zm_u (zm_u e q 2 0) h 4 0) h 5 0) k 4 0) k 5 0)) u := by
  obtain ⟨⟨p1, q1, d1, d2, d3, d4, d5, d6, d7, d8⟩, A, B, s1, f0, f1, f2, f3, u2, u3⟩ := H
  have A2 := A
  have B2 := B
  obtain ⟨⟨pa1, qa1, pa2, qa2, pa3⟩, sa1, sa2, fa0, fa1, fa2, ua1, ua2⟩ := A
  obtain ⟨⟨pb1, qb1, pb2, qb2, pb3⟩, sb1, sb2, fb0, fb1, fb2, ub1, ub2⟩ := B
  simp (maxSteps := 10000000) (disch := first | omega | (simp (disch := omega) only [zm_ue, zm_un, zm_ri, zm_ro] <;> omega) | fail) only [zr_iadd, zr_null, zr_aload, zr_iload, zr_getA, zr_putA, zr_iret, zr_callV, Nat.reduceAdd, Nat.reduceLeDiff, zKa_s, zKi_s, zKr_s, zget_0, zget_s, zpop_0, zpop_s, zA_s, zm_un, zaB_v, List.length_cons, List.length_nil, true_and, and_true, ze_79, p1, s1, f0, f1, u2, pa1, sa1, pb1, sb1, zE42z A2, zE42z B2, hD]
theorem zE74 {S : zSs} {D n u : Nat} {g : Int → zk_K} {e : zm_D} {Q : ((Option zv_V) ⊕ Nat) → Nat → zk_S → zm_D → Nat → Prop} {q h c k b : Int} (H : zSe q h c k b) (hs : 0 < e h 1 ∧ e h 1 ≤ 22) (k1 : 0 ≤ e k 1 ∧ e k 1 < 22) (k2 : zB2 (e k 2)) (k3 : e k 3 = 0 ∨ e k 3 = 1) (hx : zB2 (e c 0)) (hD : 1 < D) : zE S D 74 [zv_a q] n (zSg g) (zDg e) u Q ↔ Q (.inl none) n (zSg g) (zDg (zm_u (zm_u (zm_u (zm_u (zm_u (zm_u (zm_u (zm_u (zm_u (zm_u (zm_u (zm_u (zm_u (zm_u e q 3 1) h 1 0) h 2 0) h 3 0) c 0 (e c 0)) h 1 1) h 2 (0 + (e c 0))) h 3 (zor 0 (e c 0))) b (e k 1) (e c 0)) k 1 ((e k 1) + 1)) k 2 ((e k 2) + (e c 0))) k 3 (zor (e k 3) (e c 0))) k 4 (e h 4)) k 5 1)) u := by
  obtain ⟨⟨p1, q1, d1, d2, d3, d4, d5, d6, d7, d8⟩, A, B, s1, f0, f1, f2, f3, u2, u3⟩ := H
  have A2 := A
  have B2 := B
  obtain ⟨⟨pa1, qa1, pa2, qa2, pa3⟩, sa1, sa2, fa0, fa1, fa2, ua1, ua2⟩ := A
  obtain ⟨⟨pb1, qb1, pb2, qb2, pb3⟩, sb1, sb2, fb0, fb1, fb2, ub1, ub2⟩ := B
  have hD1 : 0 < D := by omega
  have hs2 : 0 ≤ (0 : Int) ∧ (0 : Int) < e h 1 := ⟨by decide, hs.1⟩
  have r1 := fun {S n u g Q} => @zE36i S (D - 1) n u g e Q h c A2 0 hs2 hs.2
  have r2 := fun {S n u g Q} => @zE34 S (D - 1) n u g (zm_u (zm_u (zm_u (zm_u e q 3 1) h 1 0) h 2 0) h 3 0) Q h c A2 (e c 0) hx
  have r3 := fun {S n u g Q} => @zE34 S (D - 1) n u g (zm_u (zm_u (zm_u (zm_u (zm_u (zm_u (zm_u (zm_u e q 3 1) h 1 0) h 2 0) h 3 0) c 0 (e c 0)) h 1 1) h 2 (0 + (e c 0))) h 3 (zor 0 (e c 0))) Q k b B2 (e c 0) hx
  have z1 : (zm_u (zm_u (zm_u (zm_u e q 3 1) h 1 0) h 2 0) h 3 0) h 1 = 0 := by simp (disch := omega) only [zm_ue, zm_un]
  have z2 : (zm_u (zm_u (zm_u (zm_u e q 3 1) h 1 0) h 2 0) h 3 0) h 2 = 0 := by simp (disch := omega) only [zm_ue, zm_un]
  have z3 : (zm_u (zm_u (zm_u (zm_u e q 3 1) h 1 0) h 2 0) h 3 0) h 3 = 0 := by simp (disch := omega) only [zm_ue, zm_un]
  have y1 : (zm_u (zm_u (zm_u (zm_u (zm_u (zm_u (zm_u (zm_u e q 3 1) h 1 0) h 2 0) h 3 0) c 0 (e c 0)) h 1 1) h 2 (0 + (e c 0))) h 3 (zor 0 (e c 0))) k 1 = e k 1 := by simp (disch := omega) only [zm_un]
  have y2 : (zm_u (zm_u (zm_u (zm_u (zm_u (zm_u (zm_u (zm_u e q 3 1) h 1 0) h 2 0) h 3 0) c 0 (e c 0)) h 1 1) h 2 (0 + (e c 0))) h 3 (zor 0 (e c 0))) k 2 = e k 2 := by simp (disch := omega) only [zm_un]
  have y3 : (zm_u (zm_u (zm_u (zm_u (zm_u (zm_u (zm_u (zm_u e q 3 1) h 1 0) h 2 0) h 3 0) c 0 (e c 0)) h 1 1) h 2 (0 + (e c 0))) h 3 (zor 0 (e c 0))) k 3 = e k 3 := by simp (disch := omega) only [zm_un]
  rw [z1, z2, z3] at r2
  rw [y1, y2, y3] at r3
  have r4 := fun {S n u g Q} => @r2 S n u g Q ⟨by decide, by decide⟩ (by unfold zB2; decide) (Or.inl rfl)
  have r5 := fun {S n u g Q} => @r3 S n u g Q k1 k2 k3
  simp (maxSteps := 10000000) (disch := first | omega | (simp (disch := omega) only [zm_ue, zm_un, zm_ri, zm_ro] <;> omega) | fail) only [zr_iconst, zr_aload, zr_iload, zr_istore, zr_getI, zr_getA, zr_putI, zr_putZ, zr_vret, zr_callV, Nat.reduceLeDiff, Int.reduceAdd, Int.reduceEq, or_true, zKa_s, zKi_s, zKr_s, zget_0, zget_s, zst1_0, zst1_1, zk1_a, zpop_0, zpop_s, zA_s, zA_n, zm_un, zaB_v, List.length_nil, true_and, and_true, ze_74, p1, s1, f0, f1, u3, pa1, sa1, fa1, pb1, sb1, ub1, r1, r4, r5, zE35 A2, hD1]
