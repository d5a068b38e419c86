/-! ===== DEALT: a round dealt ===== -/
set_option maxRecDepth 65536
def zth (e : zm_D) : zm_D := zm_u (zm_u e 5 4 (e 5 4 + 1)) 5 7 (e 6 (e 5 4))
theorem zth_o {e : zm_D} {a k : Int} (h5 : a ≠ 5) : zth e a k = e a k := (zm_un (Or.inl h5)).trans (zm_un (Or.inl h5))
def zpl (e : zm_D) (q h k : Int) : Int := if 0 < e h 4 + e k 4 ∧ zsn (e q 3) (e h 1) (e h 3) (e h 2) = 0 ∧ znt (e 36 1) (e 36 3) (e 36 2) = 0 then 1 else 0
theorem zpl_b {e : zm_D} {q h k : Int} : zpl e q h k = 0 ∨ zpl e q h k = 1 := by unfold zpl; split <;> simp
/-- a hand of M cards at most -/
def zHr (M : Int) (e : zm_D) (h : Int) : Prop := (0 ≤ e h 1 ∧ e h 1 ≤ M) ∧ (0 ≤ e h 2 ∧ e h 2 ≤ 10 * M) ∧ (0 ≤ e h 3 ∧ e h 3 ≤ 1)
theorem zHr_t {M : Int} {e : zm_D} {h : Int} (H : zHr M e h) (q : M < 22) : zHt e h := by
  unfold zHr at H
  unfold zHt
  omega
theorem zHr_e {M : Int} {e d : zm_D} {h : Int} (H : zHr M e h) (q1 : d h 1 = e h 1) (q2 : d h 2 = e h 2) (q3 : d h 3 = e h 3) : zHr M d h := by
  unfold zHr
  rw [q1, q2, q3]
  exact H
theorem zHr_ad {M : Int} {d e : zm_D} {h c x : Int} (H : zHr M e h) (hx : 1 ≤ x ∧ x ≤ 10) (q1 : d h 1 = e h 1) (q2 : d h 2 = e h 2) : zHr (M + 1) (zad d h c x) h := by
  have z := @zor_b (d h 3) x
  unfold zHr at H ⊢
  rw [zad_1, zad_2, zad_3, q1, q2]
  omega
theorem zHr_own {M m : Int} {e : zm_D} {h k c : Int} (H : zHr M e h) (hs : zSh (m + 1) e) (hm : 0 ≤ m) (q : h ≠ 5 ∧ h ≠ 8) : zHr (M + 1) (zds1 e h k c) h := by
  have hc := hs.2 (e 5 4) (Int.le_refl _) (by have := hs.1; omega)
  unfold zds1
  split
  · exact zHr_ad H hc (ztk_o q.1 q.2) (ztk_o q.1 q.2)
  · unfold zHr at H ⊢; omega
theorem zHr_oth {M : Int} {e : zm_D} {h k c a : Int} (H : zHr M e a) (q : a ≠ 5 ∧ a ≠ 8 ∧ a ≠ h ∧ a ≠ c) : zHr M (zds1 e h k c) a :=
  zHr_e H (zds1_o q.1 q.2.1 q.2.2.1 q.2.2.2) (zds1_o q.1 q.2.1 q.2.2.1 q.2.2.2) (zds1_o q.1 q.2.1 q.2.2.1 q.2.2.2)
theorem zStk_own {e : zm_D} {h k c : Int} (H : zStk e h k) (q : h ≠ 5 ∧ h ≠ 8 ∧ h ≠ c) (r : k ≠ 5 ∧ k ≠ 8 ∧ k ≠ h ∧ k ≠ c) : zStk (zds1 e h k c) h k := by
  unfold zds1
  split
  · unfold zStk
    rw [zad_k q.2.2 (by decide), ztk_o q.1 q.2.1, zad_o r.2.2.1 r.2.2.2, ztk_o r.1 r.2.1]
    exact H
  · exact H
def zDl (M N m : Int) (e : zm_D) : Prop := zSh m e ∧ (zHr M e 39 ∧ zHr M e 44 ∧ zHr M e 49) ∧ zHr N e 36 ∧ (zStk e 39 41 ∧ zStk e 44 46 ∧ zStk e 49 51)
theorem zDl_ds {M N m : Int} {e : zm_D} (H : zDl M N (m + 3) e) (hm : 0 ≤ m) : zDl (M + 1) N m (zdsa e) := by
  obtain ⟨s, ⟨h0, h1, h2⟩, d, ⟨k0, k1, k2⟩⟩ := H
  have s' : zSh (m + 2 + 1) e := by rw [show m + 2 + 1 = m + 3 by omega]; exact s
  have s1 := zSh_ds (m := m + 2) (h := 39) (k := 41) (c := 40) s' (by decide)
  have s1' : zSh (m + 1 + 1) (zds1 e 39 41 40) := by rw [show m + 1 + 1 = m + 2 by omega]; exact s1
  have s2 := zSh_ds (m := m + 1) (h := 44) (k := 46) (c := 45) s1' (by decide)
  have s3 := zSh_ds (m := m) (h := 49) (k := 51) (c := 50) s2 (by decide)
  unfold zdsa
  refine ⟨s3, ⟨?_, ?_, ?_⟩, ?_, ⟨?_, ?_, ?_⟩⟩
  · exact zHr_oth (zHr_oth (zHr_own h0 s' (by omega) (by decide)) (by decide)) (by decide)
  · exact zHr_oth (zHr_own (zHr_oth h1 (by decide)) s1' (by omega) (by decide)) (by decide)
  · exact zHr_own (zHr_oth (zHr_oth h2 (by decide)) (by decide)) s2 hm (by decide)
  · exact zHr_oth (zHr_oth (zHr_oth d (by decide)) (by decide)) (by decide)
  · exact zStk_ds (zStk_ds (zStk_own k0 (by decide) (by decide)) (by decide) (by decide)) (by decide) (by decide)
  · exact zStk_ds (zStk_own (zStk_ds k1 (by decide) (by decide)) (by decide) (by decide)) (by decide) (by decide)
  · exact zStk_own (zStk_ds (zStk_ds k2 (by decide) (by decide)) (by decide) (by decide)) (by decide) (by decide)
theorem zDl_ad {M N m : Int} {e d : zm_D} (H : zDl M N (m + 1) e) (hm : 0 ≤ m) (q : ∀ a k : Int, a ≠ 5 → a ≠ 8 → d a k = e a k) (q4 : d 5 4 = e 5 4 + 1) (q5 : d 5 5 = e 5 5) : zDl M (N + 1) m (zad d 36 37 (e 6 (e 5 4))) := by
  obtain ⟨s, ⟨h0, h1, h2⟩, dd, ⟨k0, k1, k2⟩⟩ := H
  have hc := s.2 (e 5 4) (Int.le_refl _) (by have := s.1; omega)
  have F : ∀ a k : Int, a ≠ 5 ∧ a ≠ 8 ∧ a ≠ 36 ∧ a ≠ 37 → zad d 36 37 (e 6 (e 5 4)) a k = e a k := fun a k z => (zad_o z.2.2.1 z.2.2.2).trans (q a k z.1 z.2.1)
  refine ⟨⟨?_, ?_⟩, ⟨?_, ?_, ?_⟩, ?_, ⟨?_, ?_, ?_⟩⟩
  · rw [zad_o (by decide) (by decide), zad_o (by decide) (by decide), q4, q5]
    have := s.1
    omega
  · intro i
    rw [zad_o (by decide) (by decide), zad_o (by decide) (by decide), q4, q5, F 6 i (by decide)]
    intro z1 z2
    exact s.2 i (by omega) z2
  · exact zHr_e h0 (F 39 1 (by decide)) (F 39 2 (by decide)) (F 39 3 (by decide))
  · exact zHr_e h1 (F 44 1 (by decide)) (F 44 2 (by decide)) (F 44 3 (by decide))
  · exact zHr_e h2 (F 49 1 (by decide)) (F 49 2 (by decide)) (F 49 3 (by decide))
  · exact zHr_ad dd hc (q 36 1 (by decide) (by decide)) (q 36 2 (by decide) (by decide))
  · unfold zStk; rw [F 39 4 (by decide), F 41 4 (by decide)]; exact k0
  · unfold zStk; rw [F 44 4 (by decide), F 46 4 (by decide)]; exact k1
  · unfold zStk; rw [F 49 4 (by decide), F 51 4 (by decide)]; exact k2
theorem zE8d {S : zSs} {D n u : Nat} {g : Int → zk_K} {e : zm_D} {Q : ((Option zv_V) ⊕ Nat) → Nat → zk_S → zm_D → Nat → Prop} {M N m : Int} (H : zDl M N (m + 3) e) (hm : 0 ≤ m) (hM : M < 22) (hD : 2 < D) : zE S D 8 [zv_a 34] n (zSg g) (zDg e) u Q ↔ Q (.inl none) n (zSg g) (zDg (zdsa e)) u :=
  zE8 (zSh_le H.1 (by omega)) (zHr_t H.2.1.1 hM) (zHr_t H.2.1.2.1 hM) (zHr_t H.2.1.2.2 hM) H.2.2.2.1 H.2.2.2.2.1 H.2.2.2.2.2 hD
theorem zE91k {S : zSs} {D n u : Nat} {g : Int → zk_K} {e : zm_D} {Q : ((Option zv_V) ⊕ Nat) → Nat → zk_S → zm_D → Nat → Prop} (H : zSh 1 e) (hD : 1 < D) : zE S D 91 [zv_a 5] n (zSg g) (zDg e) u Q ↔ Q (.inl (some (zv_i (e 6 (e 5 4))))) n (zSg g) (zDg (zth e)) u :=
  zE91 (by have := H.1; omega) (by have := H.1; omega) (H.2 (e 5 4) (Int.le_refl _) (by have := H.1; omega)) hD
theorem zE90d {S : zSs} {D n u : Nat} {g : Int → zk_K} {e : zm_D} {Q : ((Option zv_V) ⊕ Nat) → Nat → zk_S → zm_D → Nat → Prop} (H : zSh 1 e) (hD : 1 < D) : zE S D 90 [zv_a 5] n (zSg g) (zDg e) u Q ↔ Q (.inl (some (zv_i (e 6 (e 5 4))))) n (zSg g) (zDg (ztk e)) u :=
  zE90k (by have := H.1; omega) (by have := H.1; omega) (H.2 (e 5 4) (Int.le_refl _) (by have := H.1; omega)) hD
theorem zL7_0 {S : zSs} {D n u : Nat} {g : Int → zk_K} {e : zm_D} {Q : ((Option zv_V) ⊕ Nat) → Nat → zk_S → zm_D → Nat → Prop} {X : Option zv_V} (ht : zHr 20 e 39) (hd : zHr 20 e 36) (hk : zStk e 39 41) (h3 : 0 ≤ e 38 3 ∧ e 38 3 ≤ 1) (hD : 2 < D) : zJ S D 7 1 [some (zv_a 34), some (zv_a 35), some (zv_i 3), some (zv_i 0), X] [] n (zSg g) (zDg e) u Q ↔ zJ S D 7 1 [some (zv_a 34), some (zv_a 35), some (zv_i 3), some (zv_i 1), some (zv_a 38)] [] n (zSg g) (zDg (zm_u e 39 5 (zpl e 38 39 41))) u Q := by
  have hD1 : 0 < D := by omega
  obtain ⟨t1, t2, t3⟩ := ht
  obtain ⟨d1, d2, d3⟩ := hd
  obtain ⟨k1, k2⟩ := hk
  have r0 := fun {S D n u g Q} => @zE70 S D n u g e Q 38 39 40 41 42 zSe_38
  have r1 := fun {S n u g Q} => @zE75 S (D - 1) n u g e Q 38 39 40 41 42 zSe_38 (by unfold zB2; omega) t3 (by omega) (by omega) (by omega)
  have r2 := fun {S n u g Q} => @zE40 S (D - 1) n u g e Q 36 37 zHd_36 (by unfold zB2; omega) d3 (by omega) (by omega)
  rw [zj_7_1]
  by_cases p : 0 < e 39 4 + e 41 4
  · rcases @zsn_b (e 38 3) (e 39 1) (e 39 3) (e 39 2) with p2 | p2
    · rcases @znt_c (e 36 1) (e 36 3) (e 36 2) with p3 | p3
      · rw [show zpl e 38 39 41 = 1 from if_pos ⟨p, p2, p3⟩]
        rw [p2] at r1
        rw [p3] at r2
        simp (maxSteps := 10000000) (disch := first | omega | (simp (disch := omega) only [zm_ue, zm_un, zm_ri, zm_ro] <;> omega) | fail) only [zr_iconst, zr_aload, zr_iload, zr_astore, zr_iinc, zr_goto, zr_getA, zr_putZ, zr_aaload, zr_callV, Nat.reduceAdd, Nat.reduceLeDiff, Int.reduceAdd, Int.reduceMul, Int.reduceLT, Int.reduceLE, Int.reduceEq, zcast, or_true, zf_15, zf_19, zf_23, zKa_s, zKi_s, zO_s, zKr_s, zget_0, zget_s, zst1_0, zst1_1, zst1_s, zk1_i, zpop_0, zA_s, zw_id, zaB_v, zaR_ov, List.length_cons, List.length_nil, true_and, and_true, zj_7_3, zSg_34, zSg_35, zg_34_3, zR_35, zSg_34, zSg_35, zSg_36, zSg_38, zg_38_0, r0, r1, r2, hD1, zSg_36, zSg_39, zgu_39_5]
      · rw [show zpl e 38 39 41 = 0 from if_neg (fun z => by omega)]
        rw [p2] at r1
        rw [p3] at r2
        simp (maxSteps := 10000000) (disch := first | omega | (simp (disch := omega) only [zm_ue, zm_un, zm_ri, zm_ro] <;> omega) | fail) only [zr_iconst, zr_aload, zr_iload, zr_astore, zr_iinc, zr_goto, zr_fall, zr_getA, zr_putZ, zr_aaload, zr_callV, Nat.reduceAdd, Nat.reduceLeDiff, Int.reduceAdd, Int.reduceMul, Int.reduceLT, Int.reduceLE, Int.reduceEq, zcast, true_or, zt_15, zf_15, zf_19, zf_23, zKa_s, zKi_s, zO_s, zKr_s, zget_0, zget_s, zst1_0, zst1_1, zst1_s, zk1_i, zpop_0, zA_s, zw_id, zaB_v, zaR_ov, List.length_cons, List.length_nil, true_and, and_true, zj_7_2, zj_7_3, zSg_34, zSg_35, zg_34_3, zR_35, zSg_34, zSg_35, zSg_36, zSg_38, zg_38_0, r0, r1, r2, hD1, zSg_36, zSg_39, zgu_39_5]
    · rw [show zpl e 38 39 41 = 0 from if_neg (fun z => by omega)]
      rw [p2] at r1
      simp (maxSteps := 10000000) (disch := first | omega | (simp (disch := omega) only [zm_ue, zm_un, zm_ri, zm_ro] <;> omega) | fail) only [zr_iconst, zr_aload, zr_iload, zr_astore, zr_iinc, zr_goto, zr_fall, zr_getA, zr_putZ, zr_aaload, zr_callV, Nat.reduceAdd, Nat.reduceLeDiff, Int.reduceAdd, Int.reduceMul, Int.reduceLT, Int.reduceLE, Int.reduceEq, zcast, true_or, zt_15, zf_19, zf_23, zKa_s, zKi_s, zO_s, zKr_s, zget_0, zget_s, zst1_0, zst1_1, zst1_s, zk1_i, zpop_0, zA_s, zw_id, zaB_v, zaR_ov, List.length_cons, List.length_nil, true_and, and_true, zj_7_2, zj_7_3, zSg_35, zR_35, zSg_35, zSg_38, zg_38_0, r0, r1, hD1, zSg_39, zgu_39_5]
  · rw [show zpl e 38 39 41 = 0 from if_neg (fun z => by omega)]
    simp (maxSteps := 10000000) (disch := first | omega | (simp (disch := omega) only [zm_ue, zm_un, zm_ri, zm_ro] <;> omega) | fail) only [zr_iconst, zr_aload, zr_iload, zr_astore, zr_iinc, zr_goto, zr_fall, zr_getA, zr_putZ, zr_aaload, zr_callV, Nat.reduceAdd, Nat.reduceLeDiff, Int.reduceAdd, Int.reduceMul, Int.reduceLT, Int.reduceLE, Int.reduceEq, zcast, true_or, zt_19, zf_23, zKa_s, zKi_s, zO_s, zKr_s, zget_0, zget_s, zst1_0, zst1_1, zst1_s, zk1_i, zpop_0, zA_s, zw_id, zaB_v, zaR_ov, List.length_cons, List.length_nil, true_and, and_true, zj_7_2, zj_7_3, zSg_35, zR_35, zSg_35, zSg_38, zg_38_0, r0, hD1, zSg_39, zgu_39_5]
theorem zL7_1 {S : zSs} {D n u : Nat} {g : Int → zk_K} {e : zm_D} {Q : ((Option zv_V) ⊕ Nat) → Nat → zk_S → zm_D → Nat → Prop} {X : Option zv_V} (ht : zHr 20 e 44) (hd : zHr 20 e 36) (hk : zStk e 44 46) (h3 : 0 ≤ e 43 3 ∧ e 43 3 ≤ 1) (hD : 2 < D) : zJ S D 7 1 [some (zv_a 34), some (zv_a 35), some (zv_i 3), some (zv_i 1), X] [] n (zSg g) (zDg e) u Q ↔ zJ S D 7 1 [some (zv_a 34), some (zv_a 35), some (zv_i 3), some (zv_i 2), some (zv_a 43)] [] n (zSg g) (zDg (zm_u e 44 5 (zpl e 43 44 46))) u Q := by
  have hD1 : 0 < D := by omega
  obtain ⟨t1, t2, t3⟩ := ht
  obtain ⟨d1, d2, d3⟩ := hd
  obtain ⟨k1, k2⟩ := hk
  have r0 := fun {S D n u g Q} => @zE70 S D n u g e Q 43 44 45 46 47 zSe_43
  have r1 := fun {S n u g Q} => @zE75 S (D - 1) n u g e Q 43 44 45 46 47 zSe_43 (by unfold zB2; omega) t3 (by omega) (by omega) (by omega)
  have r2 := fun {S n u g Q} => @zE40 S (D - 1) n u g e Q 36 37 zHd_36 (by unfold zB2; omega) d3 (by omega) (by omega)
  rw [zj_7_1]
  by_cases p : 0 < e 44 4 + e 46 4
  · rcases @zsn_b (e 43 3) (e 44 1) (e 44 3) (e 44 2) with p2 | p2
    · rcases @znt_c (e 36 1) (e 36 3) (e 36 2) with p3 | p3
      · rw [show zpl e 43 44 46 = 1 from if_pos ⟨p, p2, p3⟩]
        rw [p2] at r1
        rw [p3] at r2
        simp (maxSteps := 10000000) (disch := first | omega | (simp (disch := omega) only [zm_ue, zm_un, zm_ri, zm_ro] <;> omega) | fail) only [zr_iconst, zr_aload, zr_iload, zr_astore, zr_iinc, zr_goto, zr_getA, zr_putZ, zr_aaload, zr_callV, Nat.reduceAdd, Nat.reduceLeDiff, Int.reduceAdd, Int.reduceMul, Int.reduceLT, Int.reduceLE, Int.reduceEq, zcast, or_true, zf_15, zf_19, zf_23, zKa_s, zKi_s, zO_s, zKr_s, zget_0, zget_s, zst1_0, zst1_1, zst1_s, zk1_i, zpop_0, zA_s, zw_id, zaB_v, zaR_ov, List.length_cons, List.length_nil, true_and, and_true, zj_7_3, zSg_34, zSg_35, zg_34_3, zR_35, zSg_34, zSg_35, zSg_36, zSg_43, zg_43_0, r0, r1, r2, hD1, zSg_36, zSg_44, zgu_44_5]
      · rw [show zpl e 43 44 46 = 0 from if_neg (fun z => by omega)]
        rw [p2] at r1
        rw [p3] at r2
        simp (maxSteps := 10000000) (disch := first | omega | (simp (disch := omega) only [zm_ue, zm_un, zm_ri, zm_ro] <;> omega) | fail) only [zr_iconst, zr_aload, zr_iload, zr_astore, zr_iinc, zr_goto, zr_fall, zr_getA, zr_putZ, zr_aaload, zr_callV, Nat.reduceAdd, Nat.reduceLeDiff, Int.reduceAdd, Int.reduceMul, Int.reduceLT, Int.reduceLE, Int.reduceEq, zcast, true_or, zt_15, zf_15, zf_19, zf_23, zKa_s, zKi_s, zO_s, zKr_s, zget_0, zget_s, zst1_0, zst1_1, zst1_s, zk1_i, zpop_0, zA_s, zw_id, zaB_v, zaR_ov, List.length_cons, List.length_nil, true_and, and_true, zj_7_2, zj_7_3, zSg_34, zSg_35, zg_34_3, zR_35, zSg_34, zSg_35, zSg_36, zSg_43, zg_43_0, r0, r1, r2, hD1, zSg_36, zSg_44, zgu_44_5]
    · rw [show zpl e 43 44 46 = 0 from if_neg (fun z => by omega)]
      rw [p2] at r1
      simp (maxSteps := 10000000) (disch := first | omega | (simp (disch := omega) only [zm_ue, zm_un, zm_ri, zm_ro] <;> omega) | fail) only [zr_iconst, zr_aload, zr_iload, zr_astore, zr_iinc, zr_goto, zr_fall, zr_getA, zr_putZ, zr_aaload, zr_callV, Nat.reduceAdd, Nat.reduceLeDiff, Int.reduceAdd, Int.reduceMul, Int.reduceLT, Int.reduceLE, Int.reduceEq, zcast, true_or, zt_15, zf_19, zf_23, zKa_s, zKi_s, zO_s, zKr_s, zget_0, zget_s, zst1_0, zst1_1, zst1_s, zk1_i, zpop_0, zA_s, zw_id, zaB_v, zaR_ov, List.length_cons, List.length_nil, true_and, and_true, zj_7_2, zj_7_3, zSg_35, zR_35, zSg_35, zSg_43, zg_43_0, r0, r1, hD1, zSg_44, zgu_44_5]
  · rw [show zpl e 43 44 46 = 0 from if_neg (fun z => by omega)]
    simp (maxSteps := 10000000) (disch := first | omega | (simp (disch := omega) only [zm_ue, zm_un, zm_ri, zm_ro] <;> omega) | fail) only [zr_iconst, zr_aload, zr_iload, zr_astore, zr_iinc, zr_goto, zr_fall, zr_getA, zr_putZ, zr_aaload, zr_callV, Nat.reduceAdd, Nat.reduceLeDiff, Int.reduceAdd, Int.reduceMul, Int.reduceLT, Int.reduceLE, Int.reduceEq, zcast, true_or, zt_19, zf_23, zKa_s, zKi_s, zO_s, zKr_s, zget_0, zget_s, zst1_0, zst1_1, zst1_s, zk1_i, zpop_0, zA_s, zw_id, zaB_v, zaR_ov, List.length_cons, List.length_nil, true_and, and_true, zj_7_2, zj_7_3, zSg_35, zR_35, zSg_35, zSg_43, zg_43_0, r0, hD1, zSg_44, zgu_44_5]
theorem zL7_2 {S : zSs} {D n u : Nat} {g : Int → zk_K} {e : zm_D} {Q : ((Option zv_V) ⊕ Nat) → Nat → zk_S → zm_D → Nat → Prop} {X : Option zv_V} (ht : zHr 20 e 49) (hd : zHr 20 e 36) (hk : zStk e 49 51) (h3 : 0 ≤ e 48 3 ∧ e 48 3 ≤ 1) (hD : 2 < D) : zJ S D 7 1 [some (zv_a 34), some (zv_a 35), some (zv_i 3), some (zv_i 2), X] [] n (zSg g) (zDg e) u Q ↔ zJ S D 7 1 [some (zv_a 34), some (zv_a 35), some (zv_i 3), some (zv_i 3), some (zv_a 48)] [] n (zSg g) (zDg (zm_u e 49 5 (zpl e 48 49 51))) u Q := by
  have hD1 : 0 < D := by omega
  obtain ⟨t1, t2, t3⟩ := ht
  obtain ⟨d1, d2, d3⟩ := hd
  obtain ⟨k1, k2⟩ := hk
  have r0 := fun {S D n u g Q} => @zE70 S D n u g e Q 48 49 50 51 52 zSe_48
  have r1 := fun {S n u g Q} => @zE75 S (D - 1) n u g e Q 48 49 50 51 52 zSe_48 (by unfold zB2; omega) t3 (by omega) (by omega) (by omega)
  have r2 := fun {S n u g Q} => @zE40 S (D - 1) n u g e Q 36 37 zHd_36 (by unfold zB2; omega) d3 (by omega) (by omega)
  rw [zj_7_1]
  by_cases p : 0 < e 49 4 + e 51 4
  · rcases @zsn_b (e 48 3) (e 49 1) (e 49 3) (e 49 2) with p2 | p2
    · rcases @znt_c (e 36 1) (e 36 3) (e 36 2) with p3 | p3
      · rw [show zpl e 48 49 51 = 1 from if_pos ⟨p, p2, p3⟩]
        rw [p2] at r1
        rw [p3] at r2
        simp (maxSteps := 10000000) (disch := first | omega | (simp (disch := omega) only [zm_ue, zm_un, zm_ri, zm_ro] <;> omega) | fail) only [zr_iconst, zr_aload, zr_iload, zr_astore, zr_iinc, zr_goto, zr_getA, zr_putZ, zr_aaload, zr_callV, Nat.reduceAdd, Nat.reduceLeDiff, Int.reduceAdd, Int.reduceMul, Int.reduceLT, Int.reduceLE, Int.reduceEq, zcast, or_true, zf_15, zf_19, zf_23, zKa_s, zKi_s, zO_s, zKr_s, zget_0, zget_s, zst1_0, zst1_1, zst1_s, zk1_i, zpop_0, zA_s, zw_id, zaB_v, zaR_ov, List.length_cons, List.length_nil, true_and, and_true, zj_7_3, zSg_34, zSg_35, zg_34_3, zR_35, zSg_34, zSg_35, zSg_36, zSg_48, zg_48_0, r0, r1, r2, hD1, zSg_36, zSg_49, zgu_49_5]
      · rw [show zpl e 48 49 51 = 0 from if_neg (fun z => by omega)]
        rw [p2] at r1
        rw [p3] at r2
        simp (maxSteps := 10000000) (disch := first | omega | (simp (disch := omega) only [zm_ue, zm_un, zm_ri, zm_ro] <;> omega) | fail) only [zr_iconst, zr_aload, zr_iload, zr_astore, zr_iinc, zr_goto, zr_fall, zr_getA, zr_putZ, zr_aaload, zr_callV, Nat.reduceAdd, Nat.reduceLeDiff, Int.reduceAdd, Int.reduceMul, Int.reduceLT, Int.reduceLE, Int.reduceEq, zcast, true_or, zt_15, zf_15, zf_19, zf_23, zKa_s, zKi_s, zO_s, zKr_s, zget_0, zget_s, zst1_0, zst1_1, zst1_s, zk1_i, zpop_0, zA_s, zw_id, zaB_v, zaR_ov, List.length_cons, List.length_nil, true_and, and_true, zj_7_2, zj_7_3, zSg_34, zSg_35, zg_34_3, zR_35, zSg_34, zSg_35, zSg_36, zSg_48, zg_48_0, r0, r1, r2, hD1, zSg_36, zSg_49, zgu_49_5]
    · rw [show zpl e 48 49 51 = 0 from if_neg (fun z => by omega)]
      rw [p2] at r1
      simp (maxSteps := 10000000) (disch := first | omega | (simp (disch := omega) only [zm_ue, zm_un, zm_ri, zm_ro] <;> omega) | fail) only [zr_iconst, zr_aload, zr_iload, zr_astore, zr_iinc, zr_goto, zr_fall, zr_getA, zr_putZ, zr_aaload, zr_callV, Nat.reduceAdd, Nat.reduceLeDiff, Int.reduceAdd, Int.reduceMul, Int.reduceLT, Int.reduceLE, Int.reduceEq, zcast, true_or, zt_15, zf_19, zf_23, zKa_s, zKi_s, zO_s, zKr_s, zget_0, zget_s, zst1_0, zst1_1, zst1_s, zk1_i, zpop_0, zA_s, zw_id, zaB_v, zaR_ov, List.length_cons, List.length_nil, true_and, and_true, zj_7_2, zj_7_3, zSg_35, zR_35, zSg_35, zSg_48, zg_48_0, r0, r1, hD1, zSg_49, zgu_49_5]
  · rw [show zpl e 48 49 51 = 0 from if_neg (fun z => by omega)]
    simp (maxSteps := 10000000) (disch := first | omega | (simp (disch := omega) only [zm_ue, zm_un, zm_ri, zm_ro] <;> omega) | fail) only [zr_iconst, zr_aload, zr_iload, zr_astore, zr_iinc, zr_goto, zr_fall, zr_getA, zr_putZ, zr_aaload, zr_callV, Nat.reduceAdd, Nat.reduceLeDiff, Int.reduceAdd, Int.reduceMul, Int.reduceLT, Int.reduceLE, Int.reduceEq, zcast, true_or, zt_19, zf_23, zKa_s, zKi_s, zO_s, zKr_s, zget_0, zget_s, zst1_0, zst1_1, zst1_s, zk1_i, zpop_0, zA_s, zw_id, zaB_v, zaR_ov, List.length_cons, List.length_nil, true_and, and_true, zj_7_2, zj_7_3, zSg_35, zR_35, zSg_35, zSg_48, zg_48_0, r0, hD1, zSg_49, zgu_49_5]
