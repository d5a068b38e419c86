/-! ===== DEAL: a card for each seat with a stake ===== -/
set_option maxRecDepth 65536
def zds1 (e : zm_D) (h k c : Int) : zm_D := if 0 < e h 4 + e k 4 then zad (ztk e) h c (e 6 (e 5 4)) else e
theorem zds1_t {e : zm_D} {h k c : Int} (q : 0 < e h 4 + e k 4) : zds1 e h k c = zad (ztk e) h c (e 6 (e 5 4)) := if_pos q
theorem zds1_f {e : zm_D} {h k c : Int} (q : ¬ 0 < e h 4 + e k 4) : zds1 e h k c = e := if_neg q
theorem zds1_o {e : zm_D} {h k c a j : Int} (h5 : a ≠ 5) (h8 : a ≠ 8) (hh : a ≠ h) (hc : a ≠ c) : zds1 e h k c a j = e a j := by
  unfold zds1
  split
  · rw [zad_o hh hc, ztk_o h5 h8]
  · rfl
/-- m cards at least are left, all of them of the ranks -/
def zSh (m : Int) (e : zm_D) : Prop := (0 ≤ e 5 4 ∧ e 5 4 + m ≤ e 5 5 ∧ e 5 5 ≤ 104) ∧ (∀ i : Int, e 5 4 ≤ i → i < e 5 5 → 1 ≤ e 6 i ∧ e 6 i ≤ 10)
theorem zSh_ad {e : zm_D} {m h c x : Int} (H : zSh (m + 1) e) (q : (h ≠ 5 ∧ h ≠ 6) ∧ (c ≠ 5 ∧ c ≠ 6)) : zSh m (zad (ztk e) h c x) := by
  obtain ⟨h1, h2⟩ := H
  have z1 : zad (ztk e) h c x 5 4 = e 5 4 + 1 := (zad_o (Ne.symm q.1.1) (Ne.symm q.2.1)).trans ztk_4
  have z2 : zad (ztk e) h c x 5 5 = e 5 5 := (zad_o (Ne.symm q.1.1) (Ne.symm q.2.1)).trans (ztk_k (by decide))
  have z3 : ∀ i, zad (ztk e) h c x 6 i = e 6 i := fun i => (zad_o (Ne.symm q.1.2) (Ne.symm q.2.2)).trans (ztk_o (by decide) (by decide))
  unfold zSh
  rw [z1, z2]
  refine ⟨by omega, fun i q1 q2 => ?_⟩
  rw [z3]
  exact h2 i (by omega) q2
theorem zSh_le {e : zm_D} {m k : Int} (H : zSh m e) (h : k ≤ m) : zSh k e := ⟨by have := H.1; omega, H.2⟩
theorem zSh_ds {e : zm_D} {m h k c : Int} (H : zSh (m + 1) e) (q : (h ≠ 5 ∧ h ≠ 6) ∧ (c ≠ 5 ∧ c ≠ 6)) : zSh m (zds1 e h k c) := by
  unfold zds1
  split
  · exact zSh_ad H q
  · exact zSh_le H (by omega)
/-- a hand that can take a card -/
def zHt (e : zm_D) (h : Int) : Prop := (0 ≤ e h 1 ∧ e h 1 < 22) ∧ (0 ≤ e h 2 ∧ e h 2 ≤ 1000) ∧ (0 ≤ e h 3 ∧ e h 3 ≤ 1)
def zStk (e : zm_D) (h k : Int) : Prop := (0 ≤ e h 4 ∧ e h 4 ≤ 100000) ∧ (0 ≤ e k 4 ∧ e k 4 ≤ 100000)
theorem zL8_0 {S : zSs} {D n u : Nat} {g : Int → zk_K} {e : zm_D} {Q : ((Option zv_V) ⊕ Nat) → Nat → zk_S → zm_D → Nat → Prop} {X : Option zv_V} (hs : zSh 1 e) (ht : zHt e 39) (hk : zStk e 39 41) (hD : 2 < D) : zJ S D 8 1 [some (zv_a 34), some (zv_a 35), some (zv_i 3), some (zv_i 0), X] [] n (zSg g) (zDg e) u Q ↔ zJ S D 8 1 [some (zv_a 34), some (zv_a 35), some (zv_i 3), some (zv_i 1), some (zv_a 38)] [] n (zSg g) (zDg (zds1 e 39 41 40)) u Q := by
  have hD1 : 0 < D := by omega
  obtain ⟨s1, s2⟩ := hs
  obtain ⟨t1, t2, t3⟩ := ht
  obtain ⟨k1, k2⟩ := hk
  have hcd := s2 (e 5 4) (Int.le_refl _) (by omega)
  have u1 : ztk e 39 1 = e 39 1 := ztk_o (by decide) (by decide)
  have u2 : ztk e 39 2 = e 39 2 := ztk_o (by decide) (by decide)
  have u3 : ztk e 39 3 = e 39 3 := ztk_o (by decide) (by decide)
  have r0 := fun {S D n u g Q} => @zE70 S D n u g e Q 38 39 40 41 42 zSe_38
  have r1 := fun {S n u g Q} => @zE90k S (D - 1) n u g e Q (by omega) (by omega) hcd (by omega)
  have r2 := fun {S D n u g Q} => @zE34k S D n u g (ztk e) Q 39 40 zHd_39 (e 6 (e 5 4)) (by unfold zB2; omega) (by omega) (by unfold zB2; omega) (by omega)
  rw [zj_8_1]
  by_cases p : 0 < e 39 4 + e 41 4
  · rw [zds1_t p]
    simp (maxSteps := 10000000) (disch := first | omega | (simp (disch := omega) only [zm_ue, zm_un, zm_ri, zm_ro] <;> omega) | fail) only [zr_aload, zr_iload, zr_astore, zr_iinc, zr_goto, zr_fall, zr_getA, zr_aaload, zr_callV, Nat.reduceAdd, Nat.reduceLeDiff, Int.reduceAdd, Int.reduceMul, Int.reduceLT, Int.reduceLE, zcast, zf_19, zf_23, zKa_s, zKi_s, zO_s, zKr_s, zget_0, zget_s, zst1_0, zst1_1, zst1_s, zk1_i, zpop_0, zpop_s, zA_s, zA_n, zw_id, zaB_v, zaR_ov, List.length_cons, List.length_nil, true_and, and_true, zj_8_2, zSg_34, zSg_35, zg_34_0, zR_35, zSg_5, zSg_34, zSg_35, zSg_38, zg_38_0, r0, r1, r2, hD1, zSg_5, zSg_39]
  · rw [zds1_f p]
    simp (maxSteps := 10000000) (disch := first | omega | (simp (disch := omega) only [zm_ue, zm_un, zm_ri, zm_ro] <;> omega) | fail) only [zr_aload, zr_iload, zr_astore, zr_iinc, zr_goto, zr_aaload, zr_callV, Nat.reduceAdd, Nat.reduceLeDiff, Int.reduceAdd, Int.reduceMul, Int.reduceLT, Int.reduceLE, zcast, zt_19, zf_23, zKa_s, zKi_s, zO_s, zKr_s, zget_0, zget_s, zst1_0, zst1_1, zst1_s, zk1_i, zpop_0, zA_s, zw_id, zaB_v, zaR_ov, List.length_nil, true_and, and_true, zj_8_2, zSg_35, zR_35, zSg_35, zSg_38, r0, hD1]
theorem zL8_1 {S : zSs} {D n u : Nat} {g : Int → zk_K} {e : zm_D} {Q : ((Option zv_V) ⊕ Nat) → Nat → zk_S → zm_D → Nat → Prop} {X : Option zv_V} (hs : zSh 1 e) (ht : zHt e 44) (hk : zStk e 44 46) (hD : 2 < D) : zJ S D 8 1 [some (zv_a 34), some (zv_a 35), some (zv_i 3), some (zv_i 1), X] [] n (zSg g) (zDg e) u Q ↔ zJ S D 8 1 [some (zv_a 34), some (zv_a 35), some (zv_i 3), some (zv_i 2), some (zv_a 43)] [] n (zSg g) (zDg (zds1 e 44 46 45)) u Q := by
  have hD1 : 0 < D := by omega
  obtain ⟨s1, s2⟩ := hs
  obtain ⟨t1, t2, t3⟩ := ht
  obtain ⟨k1, k2⟩ := hk
  have hcd := s2 (e 5 4) (Int.le_refl _) (by omega)
  have u1 : ztk e 44 1 = e 44 1 := ztk_o (by decide) (by decide)
  have u2 : ztk e 44 2 = e 44 2 := ztk_o (by decide) (by decide)
  have u3 : ztk e 44 3 = e 44 3 := ztk_o (by decide) (by decide)
  have r0 := fun {S D n u g Q} => @zE70 S D n u g e Q 43 44 45 46 47 zSe_43
  have r1 := fun {S n u g Q} => @zE90k S (D - 1) n u g e Q (by omega) (by omega) hcd (by omega)
  have r2 := fun {S D n u g Q} => @zE34k S D n u g (ztk e) Q 44 45 zHd_44 (e 6 (e 5 4)) (by unfold zB2; omega) (by omega) (by unfold zB2; omega) (by omega)
  rw [zj_8_1]
  by_cases p : 0 < e 44 4 + e 46 4
  · rw [zds1_t p]
    simp (maxSteps := 10000000) (disch := first | omega | (simp (disch := omega) only [zm_ue, zm_un, zm_ri, zm_ro] <;> omega) | fail) only [zr_aload, zr_iload, zr_astore, zr_iinc, zr_goto, zr_fall, zr_getA, zr_aaload, zr_callV, Nat.reduceAdd, Nat.reduceLeDiff, Int.reduceAdd, Int.reduceMul, Int.reduceLT, Int.reduceLE, zcast, zf_19, zf_23, zKa_s, zKi_s, zO_s, zKr_s, zget_0, zget_s, zst1_0, zst1_1, zst1_s, zk1_i, zpop_0, zpop_s, zA_s, zA_n, zw_id, zaB_v, zaR_ov, List.length_cons, List.length_nil, true_and, and_true, zj_8_2, zSg_34, zSg_35, zg_34_0, zR_35, zSg_5, zSg_34, zSg_35, zSg_43, zg_43_0, r0, r1, r2, hD1, zSg_5, zSg_44]
  · rw [zds1_f p]
    simp (maxSteps := 10000000) (disch := first | omega | (simp (disch := omega) only [zm_ue, zm_un, zm_ri, zm_ro] <;> omega) | fail) only [zr_aload, zr_iload, zr_astore, zr_iinc, zr_goto, zr_aaload, zr_callV, Nat.reduceAdd, Nat.reduceLeDiff, Int.reduceAdd, Int.reduceMul, Int.reduceLT, Int.reduceLE, zcast, zt_19, zf_23, zKa_s, zKi_s, zO_s, zKr_s, zget_0, zget_s, zst1_0, zst1_1, zst1_s, zk1_i, zpop_0, zA_s, zw_id, zaB_v, zaR_ov, List.length_nil, true_and, and_true, zj_8_2, zSg_35, zR_35, zSg_35, zSg_43, r0, hD1]
theorem zL8_2 {S : zSs} {D n u : Nat} {g : Int → zk_K} {e : zm_D} {Q : ((Option zv_V) ⊕ Nat) → Nat → zk_S → zm_D → Nat → Prop} {X : Option zv_V} (hs : zSh 1 e) (ht : zHt e 49) (hk : zStk e 49 51) (hD : 2 < D) : zJ S D 8 1 [some (zv_a 34), some (zv_a 35), some (zv_i 3), some (zv_i 2), X] [] n (zSg g) (zDg e) u Q ↔ zJ S D 8 1 [some (zv_a 34), some (zv_a 35), some (zv_i 3), some (zv_i 3), some (zv_a 48)] [] n (zSg g) (zDg (zds1 e 49 51 50)) u Q := by
  have hD1 : 0 < D := by omega
  obtain ⟨s1, s2⟩ := hs
  obtain ⟨t1, t2, t3⟩ := ht
  obtain ⟨k1, k2⟩ := hk
  have hcd := s2 (e 5 4) (Int.le_refl _) (by omega)
  have u1 : ztk e 49 1 = e 49 1 := ztk_o (by decide) (by decide)
  have u2 : ztk e 49 2 = e 49 2 := ztk_o (by decide) (by decide)
  have u3 : ztk e 49 3 = e 49 3 := ztk_o (by decide) (by decide)
  have r0 := fun {S D n u g Q} => @zE70 S D n u g e Q 48 49 50 51 52 zSe_48
  have r1 := fun {S n u g Q} => @zE90k S (D - 1) n u g e Q (by omega) (by omega) hcd (by omega)
  have r2 := fun {S D n u g Q} => @zE34k S D n u g (ztk e) Q 49 50 zHd_49 (e 6 (e 5 4)) (by unfold zB2; omega) (by omega) (by unfold zB2; omega) (by omega)
  rw [zj_8_1]
  by_cases p : 0 < e 49 4 + e 51 4
  · rw [zds1_t p]
    simp (maxSteps := 10000000) (disch := first | omega | (simp (disch := omega) only [zm_ue, zm_un, zm_ri, zm_ro] <;> omega) | fail) only [zr_aload, zr_iload, zr_astore, zr_iinc, zr_goto, zr_fall, zr_getA, zr_aaload, zr_callV, Nat.reduceAdd, Nat.reduceLeDiff, Int.reduceAdd, Int.reduceMul, Int.reduceLT, Int.reduceLE, zcast, zf_19, zf_23, zKa_s, zKi_s, zO_s, zKr_s, zget_0, zget_s, zst1_0, zst1_1, zst1_s, zk1_i, zpop_0, zpop_s, zA_s, zA_n, zw_id, zaB_v, zaR_ov, List.length_cons, List.length_nil, true_and, and_true, zj_8_2, zSg_34, zSg_35, zg_34_0, zR_35, zSg_5, zSg_34, zSg_35, zSg_48, zg_48_0, r0, r1, r2, hD1, zSg_5, zSg_49]
  · rw [zds1_f p]
    simp (maxSteps := 10000000) (disch := first | omega | (simp (disch := omega) only [zm_ue, zm_un, zm_ri, zm_ro] <;> omega) | fail) only [zr_aload, zr_iload, zr_astore, zr_iinc, zr_goto, zr_aaload, zr_callV, Nat.reduceAdd, Nat.reduceLeDiff, Int.reduceAdd, Int.reduceMul, Int.reduceLT, Int.reduceLE, zcast, zt_19, zf_23, zKa_s, zKi_s, zO_s, zKr_s, zget_0, zget_s, zst1_0, zst1_1, zst1_s, zk1_i, zpop_0, zA_s, zw_id, zaB_v, zaR_ov, List.length_nil, true_and, and_true, zj_8_2, zSg_35, zR_35, zSg_35, zSg_48, r0, hD1]
def zdsa (e : zm_D) : zm_D := (zds1 (zds1 (zds1 e 39 41 40) 44 46 45) 49 51 50)
theorem zHt_ds {e : zm_D} {h k c a : Int} (H : zHt e a) (q : a ≠ 5 ∧ a ≠ 8 ∧ a ≠ h ∧ a ≠ c) : zHt (zds1 e h k c) a := by
  unfold zHt
  rw [zds1_o q.1 q.2.1 q.2.2.1 q.2.2.2, zds1_o q.1 q.2.1 q.2.2.1 q.2.2.2, zds1_o q.1 q.2.1 q.2.2.1 q.2.2.2]
  exact H
theorem zStk_ds {e : zm_D} {h k c a b : Int} (H : zStk e a b) (q : a ≠ 5 ∧ a ≠ 8 ∧ a ≠ h ∧ a ≠ c) (r : b ≠ 5 ∧ b ≠ 8 ∧ b ≠ h ∧ b ≠ c) : zStk (zds1 e h k c) a b := by
  unfold zStk
  rw [zds1_o q.1 q.2.1 q.2.2.1 q.2.2.2, zds1_o r.1 r.2.1 r.2.2.1 r.2.2.2]
  exact H
theorem zE8 {S : zSs} {D n u : Nat} {g : Int → zk_K} {e : zm_D} {Q : ((Option zv_V) ⊕ Nat) → Nat → zk_S → zm_D → Nat → Prop} (hs : zSh 3 e) (t0 : zHt e 39) (t1 : zHt e 44) (t2 : zHt e 49) (k0 : zStk e 39 41) (k1 : zStk e 44 46) (k2 : zStk e 49 51) (hD : 2 < D) : zE S D 8 [zv_a 34] n (zSg g) (zDg e) u Q ↔ Q (.inl none) n (zSg g) (zDg (zdsa e)) u := by
  simp (maxSteps := 10000000) (disch := first | omega | (simp (disch := omega) only [zm_ue, zm_un, zm_ri, zm_ro] <;> omega) | fail) only [zr_iconst, zr_aload, zr_astore, zr_istore, zr_fall, zr_getA, zr_alen, Nat.reduceAdd, Int.reduceLT, zcast, zKa_s, zO_s, zget_0, zget_s, zst1_0, zst1_1, zst1_s, zk1_i, zk1_a, zaB_v, zaX_v, true_and, and_true, ze_8, zSg_34, zSg_35, zg_34_2, zSg_34, zSg_35]
  have s1 := zSh_ds (m := 2) (h := 39) (k := 41) (c := 40) hs (by decide)
  have s2 := zSh_ds (m := 1) (h := 44) (k := 46) (c := 45) s1 (by decide)
  rw [zL8_0 (zSh_le hs (by decide)) t0 k0 hD, zL8_1 (zSh_le s1 (by decide)) (zHt_ds t1 (by decide)) (zStk_ds k1 (by decide) (by decide)) hD, zL8_2 s2 (zHt_ds (zHt_ds t2 (by decide)) (by decide)) (zStk_ds (zStk_ds k2 (by decide) (by decide)) (by decide) (by decide)) hD, zj_8_1]
  simp (maxSteps := 10000000) (disch := first | omega | (simp (disch := omega) only [zm_ue, zm_un, zm_ri, zm_ro] <;> omega) | fail) only [zr_iload, zr_vret, zt_23, zKi_s, zget_0, zget_s, zj_8_3]
  exact Iff.rfl
