/-! ===== AWAY: a guest's stakes at the cards ===== -/
set_option maxRecDepth 65536
def ztb (e : zm_D) (h b : Int) : zm_D := if b = 1 ∧ 0 < e h 4 then zm_u (zm_u (zm_u (zm_u (zm_u e h 1 0) h 2 0) h 3 0) h 4 0) h 5 0 else zm_u (zm_u e h 4 0) h 5 0
theorem ztb_o {e : zm_D} {h b a j : Int} (q : a ≠ h ∨ j = 0 ∨ 5 < j) : ztb e h b a j = e a j := by
  unfold ztb
  split
  · rw [zm_un (by omega), zm_un (by omega), zm_un (by omega), zm_un (by omega), zm_un (by omega)]
  · rw [zm_un (by omega), zm_un (by omega)]
/-- the memory behind Seat.takeAway, if the seat is this guest's -/
def zta (e : zm_D) (a b q h k : Int) : zm_D := if e q 2 = a then ztb (ztb (zm_u e q 2 0) h b) k b else e
def zbk (e : zm_D) (a q h k : Int) : Int := if e q 2 = a then e h 4 + e k 4 else 0
theorem zta_o {e : zm_D} {a b q h k x j : Int} (q1 : x ≠ q ∨ j ≠ 2) (q2 : x ≠ h ∨ j = 0 ∨ 5 < j) (q3 : x ≠ k ∨ j = 0 ∨ 5 < j) : zta e a b q h k x j = e x j := by
  unfold zta
  split
  · exact (ztb_o q3).trans ((ztb_o q2).trans (zm_un q1))
  · rfl
theorem zE42u {S : zSs} {D n u : Nat} {g : Int → zk_K} {e : zm_D} {Q : ((Option zv_V) ⊕ Nat) → Nat → zk_S → zm_D → Nat → Prop} {h c b : Int} (H : zHd h c) (h4 : 0 ≤ e h 4 ∧ e h 4 ≤ 100000) (hb : b = 0 ∨ b = 1) (hD : 0 < D) : zE S D 42 [zv_a h, zv_i b] n (zSg g) (zDg e) u Q ↔ Q (.inl (some (zv_i (e h 4)))) n (zSg g) (zDg (ztb e h b)) u := by
  rcases hb with rfl | rfl
  · rw [show ztb e h 0 = _ from if_neg (fun q => by omega)]
    exact zE42z H
  · by_cases p : 0 < e h 4
    · rw [show ztb e h 1 = _ from if_pos ⟨rfl, p⟩]
      exact zE42t H ⟨p, by omega⟩ hD
    · rw [show ztb e h 1 = _ from if_neg (fun q => p q.2)]
      exact zE42f H ⟨by omega, by omega⟩
theorem zE79 {S : zSs} {D n u : Nat} {g : Int → zk_K} {e : zm_D} {Q : ((Option zv_V) ⊕ Nat) → Nat → zk_S → zm_D → Nat → Prop} {q h c k b x : Int} (H : zSe q h c k b) (h4 : 0 ≤ e h 4 ∧ e h 4 ≤ 100000) (k4 : 0 ≤ e k 4 ∧ e k 4 ≤ 100000) (hb : x = 0 ∨ x = 1) (hD : 1 < D) : zE S D 79 [zv_a q, zv_i x] n (zSg g) (zDg e) u Q ↔ Q (.inl (some (zv_i (e h 4 + e k 4)))) n (zSg g) (zDg (ztb (ztb (zm_u e q 2 0) h x) k x)) u := by
  have hD1 : 0 < D := by omega
  obtain ⟨⟨p1, q1, d1, d2, d3, d4, d5, d6, d7, d8⟩, A, B, s1, f0, f1, f2, f3, u2, u3⟩ := H
  have A2 := A
  have B2 := B
  obtain ⟨⟨pa1, qa1, pa2, qa2, pa3⟩, sa1, sa2, fa0, fa1, fa2, ua1, ua2⟩ := A
  obtain ⟨⟨pb1, qb1, pb2, qb2, pb3⟩, sb1, sb2, fb0, fb1, fb2, ub1, ub2⟩ := B
  have y1 : zm_u e q 2 0 h 4 = e h 4 := zm_un (Or.inr (by decide))
  have y2 : ztb (zm_u e q 2 0) h x k 4 = e k 4 := (ztb_o (Or.inl (Ne.symm d5))).trans (zm_un (Or.inr (by decide)))
  have r1 := fun {S n u g Q} => @zE42u S (D - 1) n u g (zm_u e q 2 0) Q h c x A2 (by rw [y1]; exact h4) hb (by omega)
  have r2 := fun {S n u g Q} => @zE42u S (D - 1) n u g (ztb (zm_u e q 2 0) h x) Q k b x B2 (by rw [y2]; exact k4) hb (by omega)
  rw [y1] at r1
  rw [y2] at r2
  simp (maxSteps := 10000000) (disch := first | omega | (simp (disch := omega) only [zm_ue, zm_un, zm_ri, zm_ro] <;> omega) | fail) only [zr_iadd, zr_null, zr_aload, zr_iload, zr_getA, zr_putA, zr_iret, zr_callV, Nat.reduceAdd, Nat.reduceLeDiff, zKa_s, zKi_s, zKr_s, zget_0, zget_s, zpop_0, zpop_s, zA_s, zm_un, zaB_v, List.length_cons, List.length_nil, true_and, and_true, ze_79, p1, s1, f0, f1, u2, pa1, sa1, pb1, sb1, r1, r2, hD1]
theorem zL4_0 {S : zSs} {D n u : Nat} {g : Int → zk_K} {e : zm_D} {Q : ((Option zv_V) ⊕ Nat) → Nat → zk_S → zm_D → Nat → Prop} {a bk : Int} {X : Option zv_V} (ha : 0 ≤ a) (hk : zStk e 39 41) (hg : 0 ≤ e 38 2) (ho : e 34 4 = 0 ∨ e 34 4 = 1) (hD : 2 < D) : zJ S D 4 1 [some (zv_a 34), some (zv_a a), some (zv_i (bk)), some (zv_a 35), some (zv_i 3), some (zv_i 0), X] [] n (zSg g) (zDg e) u Q ↔ zJ S D 4 1 [some (zv_a 34), some (zv_a a), some (zv_i (bk + zbk e a 38 39 41)), some (zv_a 35), some (zv_i 3), some (zv_i 1), some (zv_a 38)] [] n (zSg g) (zDg (zta e a (e 34 4) 38 39 41)) u Q := by
  have hD1 : 0 < D := by omega
  obtain ⟨k1, k2⟩ := hk
  have r1 := fun {S n u g Q} => @zE79 S (D - 1) n u g e Q 38 39 40 41 42 (e 34 4) zSe_38 k1 k2 ho (by omega)
  rw [zj_4_1]
  by_cases p : e 38 2 = a
  · have pe : (e 38 2 = a) = True := eq_true p
    rw [show zta e a (e 34 4) 38 39 41 = _ from if_pos p, show zbk e a 38 39 41 = e 39 4 + e 41 4 from if_pos p]
    simp (maxSteps := 10000000) (disch := first | omega | (simp (disch := omega) only [zm_ue, zm_un, zm_ri, zm_ro] <;> omega) | fail) only [zr_iadd, zr_aload, zr_iload, zr_astore, zr_istore, zr_iinc, zr_ia29, zr_goto, zr_fall, zr_getI, zr_getA, zr_aaload, zr_callV, Nat.reduceAdd, Nat.reduceLeDiff, Int.reduceAdd, Int.reduceMul, Int.reduceLT, Int.reduceLE, zcast, reduceIte, not_true_eq_false, zf_23, zKa_s, zKi_s, zO_s, zKr_s, zget_0, zget_s, zst1_0, zst1_1, zst1_s, zk1_i, zk1_a, zpop_0, zpop_s, zA_s, zw_id, zaB_v, zaR_ov, List.length_cons, List.length_nil, true_and, and_true, zj_4_2, zSg_34, zSg_35, zg_34_4, zR_35, zSg_34, zSg_35, zSg_38, zg_38_2, pe, r1, ha, hg, hD1]
  · have pe : (e 38 2 = a) = False := eq_false p
    rw [show zta e a (e 34 4) 38 39 41 = e from if_neg p, show zbk e a 38 39 41 = 0 from if_neg p, Int.add_zero]
    simp (maxSteps := 10000000) (disch := first | omega | (simp (disch := omega) only [zm_ue, zm_un, zm_ri, zm_ro] <;> omega) | fail) only [zr_aload, zr_iload, zr_astore, zr_iinc, zr_ia29, zr_goto, zr_getI, zr_getA, zr_aaload, zr_callV, Nat.reduceAdd, Nat.reduceLeDiff, Int.reduceAdd, Int.reduceMul, Int.reduceLT, Int.reduceLE, zcast, reduceIte, not_false_eq_true, zf_23, zKa_s, zKi_s, zO_s, zKr_s, zget_0, zget_s, zst1_0, zst1_1, zst1_s, zk1_i, zpop_0, zpop_s, zw_id, zaB_v, zaR_ov, List.length_cons, List.length_nil, true_and, and_true, zj_4_2, zSg_34, zSg_35, zg_34_4, zR_35, zSg_34, zSg_35, zSg_38, zg_38_2, pe, ha, hg]
theorem zL3_0 {S : zSs} {D n u : Nat} {g : Int → zk_K} {e : zm_D} {Q : ((Option zv_V) ⊕ Nat) → Nat → zk_S → zm_D → Nat → Prop} {a bk : Int} {X : Option zv_V} (ha : 0 ≤ a) (hg : 0 ≤ e 38 2) (hD : 0 < D) : zJ S D 3 1 [some (zv_a 34), some (zv_a a), some (zv_i (bk)), some (zv_a 35), some (zv_i 3), some (zv_i 0), X] [] n (zSg g) (zDg e) u Q ↔ zJ S D 3 1 [some (zv_a 34), some (zv_a a), some (zv_i (bk + zbk e a 38 39 41)), some (zv_a 35), some (zv_i 3), some (zv_i 1), some (zv_a 38)] [] n (zSg g) (zDg e) u Q := by
  have r1 := fun {S D n u g Q} => @zE70 S D n u g e Q 38 39 40 41 42 zSe_38
  rw [zj_3_1]
  by_cases p : e 38 2 = a
  · have pe : (e 38 2 = a) = True := eq_true p
    rw [show zbk e a 38 39 41 = e 39 4 + e 41 4 from if_pos p]
    simp (maxSteps := 10000000) (disch := first | omega | (simp (disch := omega) only [zm_ue, zm_un, zm_ri, zm_ro] <;> omega) | fail) only [zr_iadd, zr_aload, zr_iload, zr_astore, zr_istore, zr_iinc, zr_ia29, zr_goto, zr_fall, zr_getA, zr_aaload, zr_callV, Nat.reduceAdd, Nat.reduceLeDiff, Int.reduceAdd, Int.reduceMul, Int.reduceLT, Int.reduceLE, zcast, reduceIte, not_true_eq_false, zf_23, zKa_s, zKi_s, zO_s, zKr_s, zget_0, zget_s, zst1_0, zst1_1, zst1_s, zk1_i, zk1_a, zpop_0, zA_s, zw_id, zaB_v, zaR_ov, List.length_cons, List.length_nil, true_and, and_true, zj_3_2, zSg_35, zR_35, zSg_35, zSg_38, zg_38_2, pe, r1, ha, hg, hD]
  · have pe : (e 38 2 = a) = False := eq_false p
    rw [show zbk e a 38 39 41 = 0 from if_neg p, Int.add_zero]
    simp (maxSteps := 10000000) (disch := first | omega | (simp (disch := omega) only [zm_ue, zm_un, zm_ri, zm_ro] <;> omega) | fail) only [zr_aload, zr_iload, zr_astore, zr_iinc, zr_ia29, zr_goto, zr_getA, zr_aaload, zr_callV, Nat.reduceAdd, Nat.reduceLeDiff, Int.reduceAdd, Int.reduceMul, Int.reduceLT, Int.reduceLE, zcast, reduceIte, not_false_eq_true, zf_23, zKa_s, zKi_s, zO_s, zKr_s, zget_0, zget_s, zst1_0, zst1_1, zst1_s, zk1_i, zpop_0, zw_id, zaB_v, zaR_ov, List.length_cons, List.length_nil, true_and, and_true, zj_3_2, zSg_35, zR_35, zSg_35, zSg_38, zg_38_2, pe, ha, hg]
theorem zL4_1 {S : zSs} {D n u : Nat} {g : Int → zk_K} {e : zm_D} {Q : ((Option zv_V) ⊕ Nat) → Nat → zk_S → zm_D → Nat → Prop} {a bk : Int} {X : Option zv_V} (ha : 0 ≤ a) (hk : zStk e 44 46) (hg : 0 ≤ e 43 2) (ho : e 34 4 = 0 ∨ e 34 4 = 1) (hD : 2 < D) : zJ S D 4 1 [some (zv_a 34), some (zv_a a), some (zv_i (bk)), some (zv_a 35), some (zv_i 3), some (zv_i 1), X] [] n (zSg g) (zDg e) u Q ↔ zJ S D 4 1 [some (zv_a 34), some (zv_a a), some (zv_i (bk + zbk e a 43 44 46)), some (zv_a 35), some (zv_i 3), some (zv_i 2), some (zv_a 43)] [] n (zSg g) (zDg (zta e a (e 34 4) 43 44 46)) u Q := by
  have hD1 : 0 < D := by omega
  obtain ⟨k1, k2⟩ := hk
  have r1 := fun {S n u g Q} => @zE79 S (D - 1) n u g e Q 43 44 45 46 47 (e 34 4) zSe_43 k1 k2 ho (by omega)
  rw [zj_4_1]
  by_cases p : e 43 2 = a
  · have pe : (e 43 2 = a) = True := eq_true p
    rw [show zta e a (e 34 4) 43 44 46 = _ from if_pos p, show zbk e a 43 44 46 = e 44 4 + e 46 4 from if_pos p]
    simp (maxSteps := 10000000) (disch := first | omega | (simp (disch := omega) only [zm_ue, zm_un, zm_ri, zm_ro] <;> omega) | fail) only [zr_iadd, zr_aload, zr_iload, zr_astore, zr_istore, zr_iinc, zr_ia29, zr_goto, zr_fall, zr_getI, zr_getA, zr_aaload, zr_callV, Nat.reduceAdd, Nat.reduceLeDiff, Int.reduceAdd, Int.reduceMul, Int.reduceLT, Int.reduceLE, zcast, reduceIte, not_true_eq_false, zf_23, zKa_s, zKi_s, zO_s, zKr_s, zget_0, zget_s, zst1_0, zst1_1, zst1_s, zk1_i, zk1_a, zpop_0, zpop_s, zA_s, zw_id, zaB_v, zaR_ov, List.length_cons, List.length_nil, true_and, and_true, zj_4_2, zSg_34, zSg_35, zg_34_4, zR_35, zSg_34, zSg_35, zSg_43, zg_43_2, pe, r1, ha, hg, hD1]
  · have pe : (e 43 2 = a) = False := eq_false p
    rw [show zta e a (e 34 4) 43 44 46 = e from if_neg p, show zbk e a 43 44 46 = 0 from if_neg p, Int.add_zero]
    simp (maxSteps := 10000000) (disch := first | omega | (simp (disch := omega) only [zm_ue, zm_un, zm_ri, zm_ro] <;> omega) | fail) only [zr_aload, zr_iload, zr_astore, zr_iinc, zr_ia29, zr_goto, zr_getI, zr_getA, zr_aaload, zr_callV, Nat.reduceAdd, Nat.reduceLeDiff, Int.reduceAdd, Int.reduceMul, Int.reduceLT, Int.reduceLE, zcast, reduceIte, not_false_eq_true, zf_23, zKa_s, zKi_s, zO_s, zKr_s, zget_0, zget_s, zst1_0, zst1_1, zst1_s, zk1_i, zpop_0, zpop_s, zw_id, zaB_v, zaR_ov, List.length_cons, List.length_nil, true_and, and_true, zj_4_2, zSg_34, zSg_35, zg_34_4, zR_35, zSg_34, zSg_35, zSg_43, zg_43_2, pe, ha, hg]
theorem zL3_1 {S : zSs} {D n u : Nat} {g : Int → zk_K} {e : zm_D} {Q : ((Option zv_V) ⊕ Nat) → Nat → zk_S → zm_D → Nat → Prop} {a bk : Int} {X : Option zv_V} (ha : 0 ≤ a) (hg : 0 ≤ e 43 2) (hD : 0 < D) : zJ S D 3 1 [some (zv_a 34), some (zv_a a), some (zv_i (bk)), some (zv_a 35), some (zv_i 3), some (zv_i 1), X] [] n (zSg g) (zDg e) u Q ↔ zJ S D 3 1 [some (zv_a 34), some (zv_a a), some (zv_i (bk + zbk e a 43 44 46)), some (zv_a 35), some (zv_i 3), some (zv_i 2), some (zv_a 43)] [] n (zSg g) (zDg e) u Q := by
  have r1 := fun {S D n u g Q} => @zE70 S D n u g e Q 43 44 45 46 47 zSe_43
  rw [zj_3_1]
  by_cases p : e 43 2 = a
  · have pe : (e 43 2 = a) = True := eq_true p
    rw [show zbk e a 43 44 46 = e 44 4 + e 46 4 from if_pos p]
    simp (maxSteps := 10000000) (disch := first | omega | (simp (disch := omega) only [zm_ue, zm_un, zm_ri, zm_ro] <;> omega) | fail) only [zr_iadd, zr_aload, zr_iload, zr_astore, zr_istore, zr_iinc, zr_ia29, zr_goto, zr_fall, zr_getA, zr_aaload, zr_callV, Nat.reduceAdd, Nat.reduceLeDiff, Int.reduceAdd, Int.reduceMul, Int.reduceLT, Int.reduceLE, zcast, reduceIte, not_true_eq_false, zf_23, zKa_s, zKi_s, zO_s, zKr_s, zget_0, zget_s, zst1_0, zst1_1, zst1_s, zk1_i, zk1_a, zpop_0, zA_s, zw_id, zaB_v, zaR_ov, List.length_cons, List.length_nil, true_and, and_true, zj_3_2, zSg_35, zR_35, zSg_35, zSg_43, zg_43_2, pe, r1, ha, hg, hD]
  · have pe : (e 43 2 = a) = False := eq_false p
    rw [show zbk e a 43 44 46 = 0 from if_neg p, Int.add_zero]
    simp (maxSteps := 10000000) (disch := first | omega | (simp (disch := omega) only [zm_ue, zm_un, zm_ri, zm_ro] <;> omega) | fail) only [zr_aload, zr_iload, zr_astore, zr_iinc, zr_ia29, zr_goto, zr_getA, zr_aaload, zr_callV, Nat.reduceAdd, Nat.reduceLeDiff, Int.reduceAdd, Int.reduceMul, Int.reduceLT, Int.reduceLE, zcast, reduceIte, not_false_eq_true, zf_23, zKa_s, zKi_s, zO_s, zKr_s, zget_0, zget_s, zst1_0, zst1_1, zst1_s, zk1_i, zpop_0, zw_id, zaB_v, zaR_ov, List.length_cons, List.length_nil, true_and, and_true, zj_3_2, zSg_35, zR_35, zSg_35, zSg_43, zg_43_2, pe, ha, hg]
theorem zL4_2 {S : zSs} {D n u : Nat} {g : Int → zk_K} {e : zm_D} {Q : ((Option zv_V) ⊕ Nat) → Nat → zk_S → zm_D → Nat → Prop} {a bk : Int} {X : Option zv_V} (ha : 0 ≤ a) (hk : zStk e 49 51) (hg : 0 ≤ e 48 2) (ho : e 34 4 = 0 ∨ e 34 4 = 1) (hD : 2 < D) : zJ S D 4 1 [some (zv_a 34), some (zv_a a), some (zv_i (bk)), some (zv_a 35), some (zv_i 3), some (zv_i 2), X] [] n (zSg g) (zDg e) u Q ↔ zJ S D 4 1 [some (zv_a 34), some (zv_a a), some (zv_i (bk + zbk e a 48 49 51)), some (zv_a 35), some (zv_i 3), some (zv_i 3), some (zv_a 48)] [] n (zSg g) (zDg (zta e a (e 34 4) 48 49 51)) u Q := by
  have hD1 : 0 < D := by omega
  obtain ⟨k1, k2⟩ := hk
  have r1 := fun {S n u g Q} => @zE79 S (D - 1) n u g e Q 48 49 50 51 52 (e 34 4) zSe_48 k1 k2 ho (by omega)
  rw [zj_4_1]
  by_cases p : e 48 2 = a
  · have pe : (e 48 2 = a) = True := eq_true p
    rw [show zta e a (e 34 4) 48 49 51 = _ from if_pos p, show zbk e a 48 49 51 = e 49 4 + e 51 4 from if_pos p]
    simp (maxSteps := 10000000) (disch := first | omega | (simp (disch := omega) only [zm_ue, zm_un, zm_ri, zm_ro] <;> omega) | fail) only [zr_iadd, zr_aload, zr_iload, zr_astore, zr_istore, zr_iinc, zr_ia29, zr_goto, zr_fall, zr_getI, zr_getA, zr_aaload, zr_callV, Nat.reduceAdd, Nat.reduceLeDiff, Int.reduceAdd, Int.reduceMul, Int.reduceLT, Int.reduceLE, zcast, reduceIte, not_true_eq_false, zf_23, zKa_s, zKi_s, zO_s, zKr_s, zget_0, zget_s, zst1_0, zst1_1, zst1_s, zk1_i, zk1_a, zpop_0, zpop_s, zA_s, zw_id, zaB_v, zaR_ov, List.length_cons, List.length_nil, true_and, and_true, zj_4_2, zSg_34, zSg_35, zg_34_4, zR_35, zSg_34, zSg_35, zSg_48, zg_48_2, pe, r1, ha, hg, hD1]
  · have pe : (e 48 2 = a) = False := eq_false p
    rw [show zta e a (e 34 4) 48 49 51 = e from if_neg p, show zbk e a 48 49 51 = 0 from if_neg p, Int.add_zero]
    simp (maxSteps := 10000000) (disch := first | omega | (simp (disch := omega) only [zm_ue, zm_un, zm_ri, zm_ro] <;> omega) | fail) only [zr_aload, zr_iload, zr_astore, zr_iinc, zr_ia29, zr_goto, zr_getI, zr_getA, zr_aaload, zr_callV, Nat.reduceAdd, Nat.reduceLeDiff, Int.reduceAdd, Int.reduceMul, Int.reduceLT, Int.reduceLE, zcast, reduceIte, not_false_eq_true, zf_23, zKa_s, zKi_s, zO_s, zKr_s, zget_0, zget_s, zst1_0, zst1_1, zst1_s, zk1_i, zpop_0, zpop_s, zw_id, zaB_v, zaR_ov, List.length_cons, List.length_nil, true_and, and_true, zj_4_2, zSg_34, zSg_35, zg_34_4, zR_35, zSg_34, zSg_35, zSg_48, zg_48_2, pe, ha, hg]
theorem zL3_2 {S : zSs} {D n u : Nat} {g : Int → zk_K} {e : zm_D} {Q : ((Option zv_V) ⊕ Nat) → Nat → zk_S → zm_D → Nat → Prop} {a bk : Int} {X : Option zv_V} (ha : 0 ≤ a) (hg : 0 ≤ e 48 2) (hD : 0 < D) : zJ S D 3 1 [some (zv_a 34), some (zv_a a), some (zv_i (bk)), some (zv_a 35), some (zv_i 3), some (zv_i 2), X] [] n (zSg g) (zDg e) u Q ↔ zJ S D 3 1 [some (zv_a 34), some (zv_a a), some (zv_i (bk + zbk e a 48 49 51)), some (zv_a 35), some (zv_i 3), some (zv_i 3), some (zv_a 48)] [] n (zSg g) (zDg e) u Q := by
  have r1 := fun {S D n u g Q} => @zE70 S D n u g e Q 48 49 50 51 52 zSe_48
  rw [zj_3_1]
  by_cases p : e 48 2 = a
  · have pe : (e 48 2 = a) = True := eq_true p
    rw [show zbk e a 48 49 51 = e 49 4 + e 51 4 from if_pos p]
    simp (maxSteps := 10000000) (disch := first | omega | (simp (disch := omega) only [zm_ue, zm_un, zm_ri, zm_ro] <;> omega) | fail) only [zr_iadd, zr_aload, zr_iload, zr_astore, zr_istore, zr_iinc, zr_ia29, zr_goto, zr_fall, zr_getA, zr_aaload, zr_callV, Nat.reduceAdd, Nat.reduceLeDiff, Int.reduceAdd, Int.reduceMul, Int.reduceLT, Int.reduceLE, zcast, reduceIte, not_true_eq_false, zf_23, zKa_s, zKi_s, zO_s, zKr_s, zget_0, zget_s, zst1_0, zst1_1, zst1_s, zk1_i, zk1_a, zpop_0, zA_s, zw_id, zaB_v, zaR_ov, List.length_cons, List.length_nil, true_and, and_true, zj_3_2, zSg_35, zR_35, zSg_35, zSg_48, zg_48_2, pe, r1, ha, hg, hD]
  · have pe : (e 48 2 = a) = False := eq_false p
    rw [show zbk e a 48 49 51 = 0 from if_neg p, Int.add_zero]
    simp (maxSteps := 10000000) (disch := first | omega | (simp (disch := omega) only [zm_ue, zm_un, zm_ri, zm_ro] <;> omega) | fail) only [zr_aload, zr_iload, zr_astore, zr_iinc, zr_ia29, zr_goto, zr_getA, zr_aaload, zr_callV, Nat.reduceAdd, Nat.reduceLeDiff, Int.reduceAdd, Int.reduceMul, Int.reduceLT, Int.reduceLE, zcast, reduceIte, not_false_eq_true, zf_23, zKa_s, zKi_s, zO_s, zKr_s, zget_0, zget_s, zst1_0, zst1_1, zst1_s, zk1_i, zpop_0, zw_id, zaB_v, zaR_ov, List.length_cons, List.length_nil, true_and, and_true, zj_3_2, zSg_35, zR_35, zSg_35, zSg_48, zg_48_2, pe, ha, hg]
def ztA3 (e : zm_D) (a : Int) : zm_D := (zta (zta (zta e a (e 34 4) 38 39 41) a (e 34 4) 43 44 46) a (e 34 4) 48 49 51)
theorem zE3 {S : zSs} {D n u : Nat} {g : Int → zk_K} {e : zm_D} {Q : ((Option zv_V) ⊕ Nat) → Nat → zk_S → zm_D → Nat → Prop} {a : Int} (ha : 0 ≤ a) (g0 : 0 ≤ e 38 2) (g1 : 0 ≤ e 43 2) (g2 : 0 ≤ e 48 2) (hD : 0 < D) : zE S D 3 [zv_a 34, zv_a a] n (zSg g) (zDg e) u Q ↔ Q (.inl (some (zv_i (0 + zbk e a 38 39 41 + zbk e a 43 44 46 + zbk e a 48 49 51)))) n (zSg g) (zDg e) u := by
  simp (maxSteps := 10000000) (disch := first | omega | (simp (disch := omega) only [zm_ue, zm_un, zm_ri, zm_ro] <;> omega) | fail) only [zr_iconst, zr_aload, zr_astore, zr_istore, zr_fall, zr_getA, zr_alen, Nat.reduceAdd, Int.reduceLT, zcast, zKa_s, zO_s, zget_0, zget_s, zst1_0, zst1_1, zst1_s, zk1_i, zk1_a, zaB_v, zaX_v, true_and, and_true, ze_3, zSg_34, zSg_35, zg_34_2, zSg_34, zSg_35]
  rw [zL3_0 ha g0 hD, zL3_1 ha g1 hD, zL3_2 ha g2 hD, zj_3_1]
  simp (maxSteps := 10000000) (disch := first | omega | (simp (disch := omega) only [zm_ue, zm_un, zm_ri, zm_ro] <;> omega) | fail) only [zr_iload, zr_iret, zt_23, zKi_s, zget_0, zget_s, zj_3_3]
theorem zE4 {S : zSs} {D n u : Nat} {g : Int → zk_K} {e : zm_D} {Q : ((Option zv_V) ⊕ Nat) → Nat → zk_S → zm_D → Nat → Prop} {a : Int} (ha : 0 ≤ a) (g0 : 0 ≤ e 38 2) (g1 : 0 ≤ e 43 2) (g2 : 0 ≤ e 48 2) (k0 : zStk e 39 41) (k1 : zStk e 44 46) (k2 : zStk e 49 51) (ho : e 34 4 = 0 ∨ e 34 4 = 1) (hD : 2 < D) : zE S D 4 [zv_a 34, zv_a a] n (zSg g) (zDg e) u Q ↔ Q (.inl (some (zv_i (0 + zbk e a 38 39 41 + zbk e a 43 44 46 + zbk e a 48 49 51)))) n (zSg g) (zDg (ztA3 e a)) u := by
  simp (maxSteps := 10000000) (disch := first | omega | (simp (disch := omega) only [zm_ue, zm_un, zm_ri, zm_ro] <;> omega) | fail) only [zr_iconst, zr_aload, zr_astore, zr_istore, zr_fall, zr_getA, zr_alen, Nat.reduceAdd, Int.reduceLT, zcast, zKa_s, zO_s, zget_0, zget_s, zst1_0, zst1_1, zst1_s, zk1_i, zk1_a, zaB_v, zaX_v, true_and, and_true, ze_4, zSg_34, zSg_35, zg_34_2, zSg_34, zSg_35]
  have F1 : ∀ x j : Int, (x ≠ 38 ∨ j ≠ 2) ∧ (x ≠ 39 ∨ j = 0 ∨ 5 < j) ∧ (x ≠ 41 ∨ j = 0 ∨ 5 < j) → (zta e a (e 34 4) 38 39 41) x j = e x j := fun x j q => zta_o q.1 q.2.1 q.2.2
  have F2 : ∀ x j : Int, ((x ≠ 38 ∨ j ≠ 2) ∧ (x ≠ 39 ∨ j = 0 ∨ 5 < j) ∧ (x ≠ 41 ∨ j = 0 ∨ 5 < j)) ∧ (x ≠ 43 ∨ j ≠ 2) ∧ (x ≠ 44 ∨ j = 0 ∨ 5 < j) ∧ (x ≠ 46 ∨ j = 0 ∨ 5 < j) → (zta (zta e a (e 34 4) 38 39 41) a (e 34 4) 43 44 46) x j = e x j := fun x j q => (zta_o q.2.1 q.2.2.1 q.2.2.2).trans (F1 x j q.1)
  have b1 : zbk (zta e a (e 34 4) 38 39 41) a 43 44 46 = zbk e a 43 44 46 := by unfold zbk; rw [F1 43 2 (by decide), F1 44 4 (by decide), F1 46 4 (by decide)]
  have b2 : zbk (zta (zta e a (e 34 4) 38 39 41) a (e 34 4) 43 44 46) a 48 49 51 = zbk e a 48 49 51 := by unfold zbk; rw [F2 48 2 (by decide), F2 49 4 (by decide), F2 51 4 (by decide)]
  have o1 : (zta e a (e 34 4) 38 39 41) 34 4 = e 34 4 := F1 34 4 (by decide)
  have o2 : (zta (zta e a (e 34 4) 38 39 41) a (e 34 4) 43 44 46) 34 4 = e 34 4 := F2 34 4 (by decide)
  have s1 : zStk (zta e a (e 34 4) 38 39 41) 44 46 := by unfold zStk; rw [F1 44 4 (by decide), F1 46 4 (by decide)]; exact k1
  have s2 : zStk (zta (zta e a (e 34 4) 38 39 41) a (e 34 4) 43 44 46) 49 51 := by unfold zStk; rw [F2 49 4 (by decide), F2 51 4 (by decide)]; exact k2
  have c0 := @zL4_0 S D n u g e Q a 0 none ha k0 g0 ho hD
  have c1 := @zL4_1 S D n u g (zta e a (e 34 4) 38 39 41) Q a (0 + zbk e a 38 39 41) (some (zv_a 38)) ha s1 (by rw [F1 43 2 (by decide)]; exact g1) (by rw [o1]; exact ho) hD
  rw [o1, b1] at c1
  have c2 := @zL4_2 S D n u g (zta (zta e a (e 34 4) 38 39 41) a (e 34 4) 43 44 46) Q a (0 + zbk e a 38 39 41 + zbk e a 43 44 46) (some (zv_a 43)) ha s2 (by rw [F2 48 2 (by decide)]; exact g2) (by rw [o2]; exact ho) hD
  rw [o2, b2] at c2
  refine c0.trans (c1.trans (c2.trans ?_))
  change zJ S D 4 1 [some (zv_a 34), some (zv_a a), some (zv_i (0 + zbk e a 38 39 41 + zbk e a 43 44 46 + zbk e a 48 49 51)), some (zv_a 35), some (zv_i 3), some (zv_i 3), some (zv_a 48)] [] n (zSg g) (zDg (ztA3 e a)) u Q ↔ _
  rw [zj_4_1]
  simp (maxSteps := 10000000) (disch := first | omega | (simp (disch := omega) only [zm_ue, zm_un, zm_ri, zm_ro] <;> omega) | fail) only [zr_iload, zr_iret, zt_23, zKi_s, zget_0, zget_s, zj_4_3]
