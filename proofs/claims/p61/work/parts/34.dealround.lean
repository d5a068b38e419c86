/-! ===== DEALROUND: a round dealt, whole ===== -/
set_option maxRecDepth 65536
def zdl1 (e : zm_D) : zm_D := zm_u (zfc e) 34 4 1
def zdl3 (e : zm_D) : zm_D := zad (ztk (zdsa (zdl1 e))) 36 37 (zdsa (zdl1 e) 6 (zdsa (zdl1 e) 5 4))
def zdl5 (e : zm_D) : zm_D := zad (zth (zdsa (zdl3 e))) 36 37 (zdsa (zdl3 e) 6 (zdsa (zdl3 e) 5 4))
def zfl (e : zm_D) (q h k : Int) : zm_D := zm_u e h 5 (zpl e q h k)
def zdl8 (e : zm_D) : zm_D := zfl (zfl (zfl (zdl5 e) 38 39 41) 43 44 46) 48 49 51
theorem zdsa_o {e : zm_D} {a j : Int} (q : a ≠ 5 ∧ a ≠ 8 ∧ (a ≠ 39 ∧ a ≠ 40) ∧ (a ≠ 44 ∧ a ≠ 45) ∧ (a ≠ 49 ∧ a ≠ 50)) : zdsa e a j = e a j :=
  (zds1_o q.1 q.2.1 q.2.2.2.2.1 q.2.2.2.2.2).trans ((zds1_o q.1 q.2.1 q.2.2.2.1.1 q.2.2.2.1.2).trans (zds1_o q.1 q.2.1 q.2.2.1.1 q.2.2.1.2))
theorem zfl_o {e : zm_D} {q h k a j : Int} (z : a ≠ h ∨ j ≠ 5) : zfl e q h k a j = e a j := zm_un z
theorem zdl1_a {e : zm_D} (hs : zSh 8 e) (k0 : zStk e 39 41) (k1 : zStk e 44 46) (k2 : zStk e 49 51) : zDl 0 0 (5 + 3) (zdl1 e) := by
  have A : ∀ a j : Int, (a = 5 ∨ a = 6 ∨ j = 4) ∧ a ≠ 34 → zdl1 e a j = e a j := by
    intro a j z
    unfold zdl1 zfc
    simp (disch := omega) only [zm_un]
  have Z : ∀ h j : Int, (h = 39 ∨ h = 44 ∨ h = 49 ∨ h = 36) ∧ (j = 1 ∨ j = 2 ∨ j = 3) → zdl1 e h j = 0 := by
    intro h j z
    unfold zdl1 zfc
    rcases z with ⟨rfl | rfl | rfl | rfl, rfl | rfl | rfl⟩
    all_goals simp (disch := omega) only [zm_un, zm_ue]
  have R : ∀ h : Int, (h = 39 ∨ h = 44 ∨ h = 49 ∨ h = 36) → zHr 0 (zdl1 e) h := by
    intro h z
    unfold zHr
    rw [Z h 1 ⟨z, Or.inl rfl⟩, Z h 2 ⟨z, Or.inr (Or.inl rfl)⟩, Z h 3 ⟨z, Or.inr (Or.inr rfl)⟩]
    decide
  refine ⟨⟨?_, ?_⟩, ⟨R 39 (by decide), R 44 (by decide), R 49 (by decide)⟩, R 36 (by decide), ⟨?_, ?_, ?_⟩⟩
  · rw [A 5 4 (by decide), A 5 5 (by decide)]
    exact hs.1
  · intro i
    rw [A 5 4 (by decide), A 5 5 (by decide), A 6 i ⟨Or.inr (Or.inl rfl), by decide⟩]
    exact hs.2 i
  · unfold zStk; rw [A 39 4 (by decide), A 41 4 (by decide)]; exact k0
  · unfold zStk; rw [A 44 4 (by decide), A 46 4 (by decide)]; exact k1
  · unfold zStk; rw [A 49 4 (by decide), A 51 4 (by decide)]; exact k2
theorem zdl1_q {e : zm_D} : zdl1 e 38 3 = 0 ∧ zdl1 e 43 3 = 0 ∧ zdl1 e 48 3 = 0 ∧ zdl1 e 36 1 = 0 := by
  unfold zdl1 zfc
  refine ⟨?_, ?_, ?_, ?_⟩
  all_goals simp (disch := omega) only [zm_un, zm_ue]
theorem zdl3_a {e : zm_D} (H : zDl 0 0 (5 + 3) (zdl1 e)) : zDl 1 1 (1 + 3) (zdl3 e) :=
  zDl_ad (m := 4) (zDl_ds (m := 5) H (by decide)) (by decide) (fun a k h1 h2 => ztk_o h1 h2) ztk_4 (ztk_k (by decide))
theorem zdl5_a {e : zm_D} (H : zDl 0 0 (5 + 3) (zdl1 e)) : zDl 2 2 0 (zdl5 e) :=
  zDl_ad (m := 0) (zDl_ds (m := 1) (zdl3_a H) (by decide)) (by decide) (fun a k h1 h2 => zth_o h1) ((zm_un (Or.inr (by decide))).trans (zm_ue rfl rfl)) ((zm_un (Or.inr (by decide))).trans (zm_un (Or.inr (by decide))))
theorem zdl5_q {e : zm_D} : (zdl5 e 38 3 = 0 ∧ zdl5 e 43 3 = 0 ∧ zdl5 e 48 3 = 0) ∧ zdl5 e 36 1 = 2 := by
  have z := @zdl1_q e
  have F3 : ∀ a j : Int, (a ≠ 5 ∧ a ≠ 8 ∧ (a ≠ 39 ∧ a ≠ 40) ∧ (a ≠ 44 ∧ a ≠ 45) ∧ (a ≠ 49 ∧ a ≠ 50)) ∧ a ≠ 36 ∧ a ≠ 37 → zdl5 e a j = zdl1 e a j := fun a j q => (zad_o q.2.1 q.2.2).trans ((zth_o q.1.1).trans ((zdsa_o q.1).trans ((zad_o q.2.1 q.2.2).trans ((ztk_o q.1.1 q.1.2.1).trans (zdsa_o q.1)))))
  refine ⟨⟨(F3 38 3 (by decide)).trans z.1, (F3 43 3 (by decide)).trans z.2.1, (F3 48 3 (by decide)).trans z.2.2.1⟩, ?_⟩
  have y1 : zdl3 e 36 1 = 1 := zad_1.trans (by rw [ztk_o (by decide) (by decide), zdsa_o (by decide), z.2.2.2]; rfl)
  exact zad_1.trans (by rw [zth_o (by decide), zdsa_o (by decide), y1]; rfl)
theorem zE7 {S : zSs} {D n u : Nat} {g : Int → zk_K} {e : zm_D} {Q : ((Option zv_V) ⊕ Nat) → Nat → zk_S → zm_D → Nat → Prop} (hs : zSh 8 e) (k0 : zStk e 39 41) (k1 : zStk e 44 46) (k2 : zStk e 49 51) (hD : 4 < D) : zE S D 7 [zv_a 34] n (zSg g) (zDg e) u Q ↔ Q (.inl (some (zv_i (zdl8 e 37 0)))) n (zSg g) (zDg (zdl8 e)) u := by
  have hD1 : 0 < D := by omega
  have H1 := zdl1_a hs k0 k1 k2
  have H2 : zDl 1 0 5 (zdsa (zdl1 e)) := zDl_ds (m := 5) H1 (by decide)
  have H3 := zdl3_a H1
  have H4 : zDl 2 1 1 (zdsa (zdl3 e)) := zDl_ds (m := 1) H3 (by decide)
  have H5 := zdl5_a H1
  have Q5 := @zdl5_q e
  have r0 := fun {S n u g Q} => @zE5 S (D - 1) n u g e Q (by omega)
  have r1 := fun {S n u g Q} => @zE8d S (D - 1) n u g (zdl1 e) Q 0 0 5 H1 (by decide) (by decide) (by omega)
  have r2 := fun {S n u g Q} => @zE90d S (D - 1) n u g (zdsa (zdl1 e)) Q (zSh_le H2.1 (by decide)) (by omega)
  have x2 := H2.1.2 ((zdsa (zdl1 e)) 5 4) (Int.le_refl _) (by have := H2.1.1; omega)
  have d2 := H2.2.2.1
  unfold zHr at d2
  have t1 : ztk (zdsa (zdl1 e)) 36 1 = (zdsa (zdl1 e)) 36 1 := ztk_o (by decide) (by decide)
  have t2 : ztk (zdsa (zdl1 e)) 36 2 = (zdsa (zdl1 e)) 36 2 := ztk_o (by decide) (by decide)
  have t3 : ztk (zdsa (zdl1 e)) 36 3 = (zdsa (zdl1 e)) 36 3 := ztk_o (by decide) (by decide)
  have r3 : ∀ {S : zSs} {n u : Nat} {g : Int → zk_K} {P : ((Option zv_V) ⊕ Nat) → Nat → zk_S → zm_D → Nat → Prop}, zE S (D - 1) 34 [zv_a 36, zv_i ((zdsa (zdl1 e)) 6 ((zdsa (zdl1 e)) 5 4))] n (zSg g) (zDg (ztk (zdsa (zdl1 e)))) u P ↔ P (.inl none) n (zSg g) (zDg (zdl3 e)) u := fun {S n u g P} => zE34k zHd_36 (by unfold zB2; omega) (by omega) (by unfold zB2; omega) (by omega)
  have r4 := fun {S n u g Q} => @zE8d S (D - 1) n u g (zdl3 e) Q 1 1 1 H3 (by decide) (by decide) (by omega)
  have r5 := fun {S n u g Q} => @zE91k S (D - 1) n u g (zdsa (zdl3 e)) Q (zSh_le H4.1 (by decide)) (by omega)
  have x4 := H4.1.2 ((zdsa (zdl3 e)) 5 4) (Int.le_refl _) (by have := H4.1.1; omega)
  have d4 := H4.2.2.1
  unfold zHr at d4
  have v1 : zth (zdsa (zdl3 e)) 36 1 = (zdsa (zdl3 e)) 36 1 := zth_o (by decide)
  have v2 : zth (zdsa (zdl3 e)) 36 2 = (zdsa (zdl3 e)) 36 2 := zth_o (by decide)
  have v3 : zth (zdsa (zdl3 e)) 36 3 = (zdsa (zdl3 e)) 36 3 := zth_o (by decide)
  have r6 : ∀ {S : zSs} {n u : Nat} {g : Int → zk_K} {P : ((Option zv_V) ⊕ Nat) → Nat → zk_S → zm_D → Nat → Prop}, zE S (D - 1) 34 [zv_a 36, zv_i ((zdsa (zdl3 e)) 6 ((zdsa (zdl3 e)) 5 4))] n (zSg g) (zDg (zth (zdsa (zdl3 e)))) u P ↔ P (.inl none) n (zSg g) (zDg (zdl5 e)) u := fun {S n u g P} => zE34k zHd_36 (by unfold zB2; omega) (by omega) (by unfold zB2; omega) (by omega)
  have g1 : zm_u (zDg (zfc e)) 34 4 1 = zDg (zdl1 e) := zgu_34_4
  simp (maxSteps := 10000000) (disch := first | omega | (simp (disch := omega) only [zm_ue, zm_un, zm_ri, zm_ro] <;> omega) | fail) only [zr_iconst, zr_aload, zr_astore, zr_istore, zr_fall, zr_getA, zr_putZ, zr_alen, zr_callV, Nat.reduceAdd, Nat.reduceLeDiff, Int.reduceLT, Int.reduceEq, zcast, or_true, zKa_s, zO_s, zKr_s, zget_0, zget_s, zst1_0, zst1_1, zst1_s, zk1_i, zk1_a, zpop_0, zpop_s, zA_s, zA_n, zaB_v, zaX_v, List.length_cons, List.length_nil, true_and, and_true, ze_7, zSg_34, zSg_35, zg_34_0, zg_34_2, zg_34_3, zSg_5, zSg_34, zSg_35, zSg_36, r0, r1, r2, r3, r4, r5, r6, g1, hD1, zSg_36]
  have hr : ∀ (d : zm_D) (a : Int), zHr 2 d a → zHr 20 d a := by
    intro d a z
    unfold zHr at z ⊢
    omega
  have W0 : ∀ (d : zm_D) (q h k a : Int), zHr 20 d a → zHr 20 (zfl d q h k) a := fun d q h k a z => zHr_e z (zfl_o (Or.inr (by decide))) (zfl_o (Or.inr (by decide))) (zfl_o (Or.inr (by decide)))
  have K0 : ∀ (d : zm_D) (q h k a b : Int), zStk d a b → zStk (zfl d q h k) a b := by
    intro d q h k a b z
    unfold zStk
    rw [zfl_o (Or.inr (by decide)), zfl_o (Or.inr (by decide))]
    exact z
  have q43 : (zfl (zdl5 e) 38 39 41) 43 3 = 0 := (zfl_o (Or.inl (by decide))).trans Q5.1.2.1
  have q48 : (zfl (zfl (zdl5 e) 38 39 41) 43 44 46) 48 3 = 0 := (zfl_o (Or.inl (by decide))).trans ((zfl_o (Or.inl (by decide))).trans Q5.1.2.2)
  have c0 := @zL7_0 S D n u g (zdl5 e) Q none (hr _ _ H5.2.1.1) (hr _ _ H5.2.2.1) H5.2.2.2.1 (by rw [Q5.1.1]; decide) (by omega)
  have c1 := @zL7_1 S D n u g (zfl (zdl5 e) 38 39 41) Q (some (zv_a 38)) (W0 _ _ _ _ _ (hr _ _ H5.2.1.2.1)) (W0 _ _ _ _ _ (hr _ _ H5.2.2.1)) (K0 _ _ _ _ _ _ H5.2.2.2.2.1) (by rw [q43]; decide) (by omega)
  have c2 := @zL7_2 S D n u g (zfl (zfl (zdl5 e) 38 39 41) 43 44 46) Q (some (zv_a 43)) (W0 _ _ _ _ _ (W0 _ _ _ _ _ (hr _ _ H5.2.1.2.2))) (W0 _ _ _ _ _ (W0 _ _ _ _ _ (hr _ _ H5.2.2.1))) (K0 _ _ _ _ _ _ (K0 _ _ _ _ _ _ H5.2.2.2.2.2)) (by rw [q48]; decide) (by omega)
  refine c0.trans (c1.trans (c2.trans ?_))
  have s8 : zdl8 e 36 1 = 2 := (zfl_o (Or.inl (by decide))).trans ((zfl_o (Or.inl (by decide))).trans ((zfl_o (Or.inl (by decide))).trans Q5.2))
  have r9 := fun {S D n u g Q} => @zE36i S D n u g (zdl8 e) Q 36 37 zHd_36 0 (by omega) (by omega)
  change zJ S D 7 1 [some (zv_a 34), some (zv_a 35), some (zv_i 3), some (zv_i 3), some (zv_a 48)] [] n (zSg g) (zDg (zdl8 e)) u Q ↔ _
  rw [zj_7_1]
  simp (maxSteps := 10000000) (disch := first | omega | (simp (disch := omega) only [zm_ue, zm_un, zm_ri, zm_ro] <;> omega) | fail) only [zr_iconst, zr_aload, zr_iload, zr_getA, zr_iret, zr_callV, Nat.reduceLeDiff, Int.reduceLT, zt_23, zKa_s, zKi_s, zKr_s, zget_0, zget_s, zpop_0, zpop_s, zA_s, zaB_v, List.length_nil, true_and, and_true, zj_7_4, zSg_34, zg_34_3, zSg_34, zSg_36, r9, hD1, zSg_36]
