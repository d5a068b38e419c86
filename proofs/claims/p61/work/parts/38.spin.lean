/-! ===== SPIN: the wheel settled ===== -/
set_option maxRecDepth 65536
theorem zti_v {k y x : Int} : zti k y x = 0 ∨ zti k y x = 1 ∨ zti k y x = 2 ∨ zti k y x = 35 := by
  unfold zti
  repeat' split
  all_goals simp
def zwm (e : zm_D) (x : Int) : Nat → zm_D
  | 0 => e
  | k + 1 => if zti (e 55 (k : Int)) (e 56 (k : Int)) x = 0 ∨ e 54 (k : Int) = 0 then zm_u (zwm e x k) 32 1 (zwm e x k 32 1 + e 57 (k : Int)) else zm_u (zpo (zwm e x k) 32 (zti (e 55 (k : Int)) (e 56 (k : Int)) x * e 57 (k : Int))) (e 54 (k : Int)) 2 (zwm e x k (e 54 (k : Int)) 2 + (zti (e 55 (k : Int)) (e 56 (k : Int)) x + 1) * e 57 (k : Int))
def zwq (e : zm_D) (x : Int) : Nat → Int
  | 0 => 0
  | k + 1 => if zti (e 55 (k : Int)) (e 56 (k : Int)) x = 0 ∨ e 54 (k : Int) = 0 then zwq e x k else zwq e x k + (zti (e 55 (k : Int)) (e 56 (k : Int)) x + 1) * e 57 (k : Int)
theorem zwm_o {e : zm_D} {x r j : Int} (q1 : r ≠ 4) (q2 : r ≠ 32) (q3 : r < 0 ∨ 29 < r) (H : zWh e) : ∀ k : Nat, (k : Int) ≤ e 53 5 → zwm e x k r j = e r j := by
  intro k
  induction k with
  | zero => intro _; rfl
  | succ k ih =>
    intro hk
    have hg := zGr_r (H.2 k (by omega) (by omega)).1
    unfold zwm
    split
    · exact (zm_un (Or.inl q2)).trans (ih (by omega))
    · exact (zm_un (Or.inl (by omega))).trans ((zpo_o q1 q2).trans (ih (by omega)))
theorem zprod35 {k y x s : Int} (hs : 0 ≤ s ∧ s ≤ 500) : 0 ≤ zti k y x * s ∧ zti k y x * s ≤ 17500 := by
  rcases @zti_v k y x with h | h | h | h
  all_goals rw [h]
  all_goals omega
theorem zwm_t {e : zm_D} {x : Int} (H : zWh e) (h0 : 0 ≤ e 32 1) : ∀ k : Nat, (k : Int) ≤ e 53 5 → 0 ≤ zwm e x k 32 1 ∧ zwm e x k 32 1 ≤ e 32 1 + 500 * k := by
  intro k
  induction k with
  | zero => intro _; exact ⟨h0, by show e 32 1 ≤ e 32 1 + 500 * ((0 : Nat) : Int); omega⟩
  | succ k ih =>
    intro hk
    obtain ⟨g1, g2, g3, g4⟩ := H.2 k (by omega) (by omega)
    have hg := zGr_r g1
    have hi := ih (by omega)
    have hp := @zprod35 (e 55 (k : Int)) (e 56 (k : Int)) x _ g4
    unfold zwm
    split
    · rw [zm_ue rfl rfl]; omega
    · rw [zm_un (Or.inl (by omega)), zpo_t]
      rcases Classical.em (zwm e x k 32 1 < zti (e 55 (k : Int)) (e 56 (k : Int)) x * e 57 (k : Int)) with c | c
      · rw [zlk_t c]; omega
      · rw [zlk_f (by omega)]; omega
theorem zL114 {S : zSs} {D n u : Nat} {g : Int → zk_K} {e : zm_D} {Q : ((Option zv_V) ⊕ Nat) → Nat → zk_S → zm_D → Nat → Prop} {x : Int} (hx : 0 ≤ x ∧ x ≤ 36) (H : zWh e) (h0 : 0 ≤ e 32 1 ∧ e 32 1 ≤ 1000000000) (hD : 2 < D) : ∀ (m k : Nat) (X4 X5 : Option zv_V), ((k + m : Nat) : Int) = e 53 5 → (zJ S D 114 1 [some (zv_a 53), some (zv_i x), some (zv_i (zwq e x k)), some (zv_i (k : Int)), X4, X5] [] n (zSg g) (zDg (zwm e x k)) u Q ↔ Q (.inl (some (zv_i (zwq e x (k + m))))) n (zSg g) (zDg (zm_u (zwm e x (k + m)) 53 5 0)) u) := by
  have hD1 : 0 < D := by omega
  intro m
  induction m with
  | zero =>
    intro k X4 X5 hk
    have S5 : zwm e x k 53 5 = e 53 5 := zwm_o (by decide) (by decide) (by decide) H k (by omega)
    have h1 := H.1
    rw [zj_114_1, Nat.add_zero]
    simp (maxSteps := 10000000) (disch := first | omega | (simp (disch := omega) only [zm_ue, zm_un, zm_ri, zm_ro] <;> omega) | fail) only [zr_iconst, zr_aload, zr_iload, zr_getI, zr_putI, zr_iret, Int.reduceLT, zt_23, zKa_s, zKi_s, zget_0, zget_s, zaB_v, true_and, and_true, zj_114_5, zSg_53, zg_53_5, zgu_53_5, S5]
  | succ m ih =>
    intro k X4 X5 hk
    have h1 := H.1
    have b4 : 0 ≤ (k : Int) ∧ (k : Int) < 10 := by omega
    obtain ⟨g1, g2, g3, g4⟩ := H.2 k (by omega) (by omega)
    have e1 : k + (m + 1) = (k + 1) + m := by omega
    have e2 : (k : Int) + 1 = ((k + 1 : Nat) : Int) := by omega
    have R : ∀ r j : Int, r ≠ 4 ∧ r ≠ 32 ∧ (r < 0 ∨ 29 < r) → zwm e x k r j = e r j := fun r j q => zwm_o q.1 q.2.1 q.2.2 H k (by omega)
    have S5 := R 53 5 (by decide)
    have S4 := R 54 (k : Int) (by decide)
    have S6 := R 55 (k : Int) (by decide)
    have S7 := R 56 (k : Int) (by decide)
    have S8 := R 57 (k : Int) (by decide)
    have ht := @zwm_t e x H h0.1 k (by omega)
    have hp := @zprod35 (e 55 (k : Int)) (e 56 (k : Int)) x _ g4
    have r1 := fun {S n u sh d Q} => @zE111 S (D - 1) n u sh d Q (e 55 (k : Int)) (e 56 (k : Int)) x g2 g3 hx (by omega)
    have r2 := fun {S D n u g y Q} => @zE103 S D n u g (zwm e x k) Q 32 zTr_32 y
    have r3 : ∀ {S : zSs} {n u : Nat} {g : Int → zk_K} {P : ((Option zv_V) ⊕ Nat) → Nat → zk_S → zm_D → Nat → Prop}, zE S (D - 1) 104 [zv_a 32, zv_i (zti (e 55 (k : Int)) (e 56 (k : Int)) x * e 57 (k : Int))] n (zSg g) (zDg (zwm e x k)) u P ↔ P (.inl none) n (zSg g) (zDg (zpo (zwm e x k) 32 (zti (e 55 (k : Int)) (e 56 (k : Int)) x * e 57 (k : Int)))) u := fun {S n u g P} => zE104 zTr_32 (by decide) (by unfold zB2; omega) (by unfold zB2; omega) (by omega)
    have hv := @zti_v (e 55 (k : Int)) (e 56 (k : Int)) x
    have g55 : ∀ j : Int, zpo (zwm e x k) 32 (zti (e 55 (k : Int)) (e 56 (k : Int)) x * e 57 (k : Int)) 57 j = zwm e x k 57 j := fun j => zpo_o (by decide) (by decide)
    rw [zj_114_1, e1]
    by_cases c1 : zti (e 55 (k : Int)) (e 56 (k : Int)) x = 0
    · rw [c1] at r1
      simp (maxSteps := 10000000) (disch := first | omega | (simp (disch := omega) only [zm_ue, zm_un, zm_ri, zm_ro] <;> omega) | fail) only [zr_iconst, zr_aload, zr_iload, zr_astore, zr_istore, zr_iinc, zr_goto, zr_getI, zr_getA, zr_iaload, zr_aaload, zr_caload, zr_callS, zr_callV, Nat.reduceAdd, Nat.reduceLeDiff, Int.reduceLT, zcast, zt_14, zf_23, zKa_s, zKi_s, zO_s, zKp_s, zKr_s, zget_0, zget_s, zst1_0, zst1_1, zst1_s, zk1_i, zpop_0, zpop_s, zA_s, zA_n, zw_id, zaB_v, zaI_v, zaC_v, zaR_ov, List.length_nil, true_and, and_true, zj_114_2, zj_114_4, zSg_32, zSg_53, zSg_54, zSg_55, zSg_56, zSg_57, zg_53_0, zg_53_1, zg_53_2, zg_53_3, zg_53_4, zg_53_5, zga_54, zga_55, zga_56, zga_57, b4, S4, S5, S6, S7, S8, r1, r2, hD1]
      rw [e2, show zm_u (zwm e x k) 32 1 (zwm e x k 32 1 + e 57 (k : Int)) = zwm e x (k + 1) by rw [zwm, if_pos (Or.inl c1)], show zwq e x k = zwq e x (k + 1) by rw [zwq, if_pos (Or.inl c1)]]
      exact ih (k + 1) _ _ (by omega)
    · rcases g1 with c2 | ⟨j, hj, c2⟩
      · rw [c2] at S4
        simp (maxSteps := 10000000) (disch := first | omega | (simp (disch := omega) only [zm_ue, zm_un, zm_ri, zm_ro] <;> omega) | fail) only [zr_imul, zr_iconst, zr_aload, zr_iload, zr_astore, zr_istore, zr_iinc, zr_in27, zr_goto, zr_fall, zr_getI, zr_getA, zr_iaload, zr_aaload, zr_caload, zr_callS, zr_callV, Nat.reduceAdd, Nat.reduceLeDiff, Int.reduceLT, zcast, reduceIte, not_true_eq_false, zf_14, zf_23, zKa_s, zKi_s, zO_s, zKp_s, zKr_s, zget_0, zget_s, zst1_0, zst1_1, zst1_s, zk1_i, zpop_0, zpop_s, zA_s, zA_n, zw_id, zaB_v, zaI_v, zaC_v, zaR_ov, List.length_nil, true_and, and_true, zj_114_2, zj_114_3, zj_114_4, zSg_32, zSg_53, zSg_54, zSg_55, zSg_56, zSg_57, zg_53_0, zg_53_1, zg_53_2, zg_53_3, zg_53_4, zg_53_5, zga_54, zga_55, zga_56, zga_57, b4, S4, S5, S6, S7, S8, r1, r2, hD1]
        rw [e2, show zm_u (zwm e x k) 32 1 (zwm e x k 32 1 + e 57 (k : Int)) = zwm e x (k + 1) by rw [zwm, if_pos (Or.inr c2)], show zwq e x k = zwq e x (k + 1) by rw [zwq, if_pos (Or.inr c2)]]
        exact ih (k + 1) _ _ (by omega)
      · have hn : (15 + 2 * j = 0) = False := by simp; omega
        have hj0 : 0 < 15 + 2 * j := by omega
        have g2' : zpo (zwm e x k) 32 (zti (e 55 (k : Int)) (e 56 (k : Int)) x * e 57 (k : Int)) (15 + 2 * j) 2 = zwm e x k (15 + 2 * j) 2 := zpo_o (by omega) (by omega)
        rw [c2] at S4
        have hc : ¬ (zti (e 55 (k : Int)) (e 56 (k : Int)) x = 0 ∨ e 54 (k : Int) = 0) := by rw [c2]; omega
        have w1 : ∀ (d : zm_D) (y j2 : Int), zm_u d (15 + 2 * j) 2 y 57 j2 = d 57 j2 := fun d y j2 => zm_un (Or.inl (by omega))
        simp (maxSteps := 10000000) (disch := first | omega | (simp (disch := omega) only [zm_ue, zm_un, zm_ri, zm_ro] <;> omega) | fail) only [zr_iadd, zr_imul, zr_iconst, zr_aload, zr_iload, zr_astore, zr_istore, zr_iinc, zr_in27, zr_goto, zr_fall, zr_dup_a, zr_getI, zr_getA, zr_putI, zr_iaload, zr_aaload, zr_caload, zr_callS, zr_callV, Nat.reduceAdd, Nat.reduceLeDiff, Int.reduceLT, zcast, reduceIte, not_false_eq_true, zf_14, zf_23, zKa_s, zKi_s, zO_s, zKp_s, zKr_s, zget_0, zget_s, zst1_0, zst1_1, zst1_s, zk1_i, zpop_0, zpop_s, zA_s, zA_n, zw_id, zm_un, zaB_v, zaI_v, zaC_v, zaR_ov, List.length_nil, true_and, and_true, zj_114_2, zj_114_3, zj_114_4, zSg_32, zSg_53, zSg_54, zSg_55, zSg_56, zSg_57, zg_53_0, zg_53_1, zg_53_2, zg_53_3, zg_53_4, zg_53_5, zga_54, zga_55, zga_56, zga_57, b4, S4, S5, S6, S7, S8, r1, r3, hn, hj0, g2', g55, hD1, zSF_G, zDF_G_2, zUF_G_2]
        rw [e2, show zm_u (zpo (zwm e x k) 32 (zti (e 55 (k : Int)) (e 56 (k : Int)) x * e 57 (k : Int))) (15 + 2 * j) 2 (zwm e x k (15 + 2 * j) 2 + (zti (e 55 (k : Int)) (e 56 (k : Int)) x + 1) * e 57 (k : Int)) = zwm e x (k + 1) by rw [zwm, if_neg hc, c2], show zwq e x k + (zti (e 55 (k : Int)) (e 56 (k : Int)) x + 1) * e 57 (k : Int) = zwq e x (k + 1) by rw [zwq, if_neg hc]]
        exact ih (k + 1) _ _ (by omega)
theorem zE114 {S : zSs} {D n u : Nat} {g : Int → zk_K} {e : zm_D} {Q : ((Option zv_V) ⊕ Nat) → Nat → zk_S → zm_D → Nat → Prop} {x : Int} (hx : 0 ≤ x ∧ x ≤ 36) (H : zWh e) (h0 : 0 ≤ e 32 1 ∧ e 32 1 ≤ 1000000000) (hD : 2 < D) : zE S D 114 [zv_a 53, zv_i x] n (zSg g) (zDg e) u Q ↔ Q (.inl (some (zv_i (zwq e x (e 53 5).toNat)))) n (zSg g) (zDg (zm_u (zwm e x (e 53 5).toNat) 53 5 0)) u := by
  simp (maxSteps := 10000000) (disch := first | omega | (simp (disch := omega) only [zm_ue, zm_un, zm_ri, zm_ro] <;> omega) | fail) only [zr_iconst, zr_istore, zr_fall, Nat.reduceAdd, zst1_0, zst1_1, zst1_s, zk1_i, ze_114]
  have h := @zL114 S D n u g e Q x hx H h0 hD (e 53 5).toNat 0 none none (by have := H.1; omega)
  rw [Nat.zero_add] at h
  exact h
