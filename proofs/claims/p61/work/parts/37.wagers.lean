/-! ===== WAGERS: the wheel's loops ===== -/
set_option maxRecDepth 65536
/-- what of the first k wagers is a guest's -/
def zws (e : zm_D) (a : Int) : Nat → Int
  | 0 => 0
  | k + 1 => zws e a k + (if e 54 (k : Int) = a then e 57 (k : Int) else 0)
/-- the wheel's table: at most 10 wagers, of guests, with kinds, numbers, stakes -/
def zWh (e : zm_D) : Prop := (0 ≤ e 53 5 ∧ e 53 5 ≤ 10) ∧ (∀ i : Int, 0 ≤ i → i < e 53 5 → zGr (e 54 i) ∧ (0 ≤ e 55 i ∧ e 55 i < 65536) ∧ ((e 55 i = 110 ∨ e 55 i = 100) → -1000 ≤ e 56 i ∧ e 56 i ≤ 1000000) ∧ (0 ≤ e 57 i ∧ e 57 i ≤ 500))
theorem zL115 {S : zSs} {D n u : Nat} {g : Int → zk_K} {e : zm_D} {Q : ((Option zv_V) ⊕ Nat) → Nat → zk_S → zm_D → Nat → Prop} {a : Int} (ha : 0 ≤ a) (H : zWh e) : ∀ (m k : Nat), ((k + m : Nat) : Int) = e 53 5 → (zJ S D 115 1 [some (zv_a 53), some (zv_a a), some (zv_i (zws e a k)), some (zv_i (k : Int))] [] n (zSg g) (zDg e) u Q ↔ Q (.inl (some (zv_i (zws e a (k + m))))) n (zSg g) (zDg e) u) := by
  obtain ⟨h1, h2⟩ := H
  intro m
  induction m with
  | zero =>
    intro k hk
    rw [zj_115_1, Nat.add_zero]
    simp (maxSteps := 10000000) (disch := first | omega | (simp (disch := omega) only [zm_ue, zm_un, zm_ri, zm_ro] <;> omega) | fail) only [zr_aload, zr_iload, zr_getI, zr_iret, Int.reduceLT, zt_23, zKa_s, zKi_s, zget_0, zget_s, zaB_v, true_and, and_true, zj_115_3, zSg_53, zg_53_5]
  | succ m ih =>
    intro k hk
    have b4 : 0 ≤ (k : Int) ∧ (k : Int) < 10 := by omega
    have hg := (zGr_r (h2 k (by omega) (by omega)).1).1
    have e1 : k + (m + 1) = (k + 1) + m := by omega
    have e2 : (k : Int) + 1 = ((k + 1 : Nat) : Int) := by omega
    rw [zj_115_1, e1]
    by_cases p : e 54 (k : Int) = a
    · have pe : (e 54 (k : Int) = a) = True := eq_true p
      simp (maxSteps := 10000000) (disch := first | omega | (simp (disch := omega) only [zm_ue, zm_un, zm_ri, zm_ro] <;> omega) | fail) only [zr_iadd, zr_iconst, zr_aload, zr_iload, zr_istore, zr_iinc, zr_ia29, zr_goto, zr_fall, zr_getI, zr_getA, zr_iaload, zr_aaload, Nat.reduceAdd, Nat.reduceLeDiff, Int.reduceLT, zcast, reduceIte, not_true_eq_false, zf_23, zKa_s, zKi_s, zO_s, zget_0, zget_s, zst1_0, zst1_1, zst1_s, zk1_i, zk1_a, zw_id, zaB_v, zaI_v, zaR_ov, true_and, and_true, zj_115_2, zSg_53, zSg_54, zSg_57, zg_53_1, zg_53_4, zg_53_5, zga_54, zga_57, b4, pe, ha, hg]
      rw [e2, show zws e a k + e 57 (k : Int) = zws e a (k + 1) by rw [show zws e a (k + 1) = zws e a k + (if e 54 (k : Int) = a then e 57 (k : Int) else 0) from rfl, if_pos p]]
      exact ih (k + 1) (by omega)
    · have pe : (e 54 (k : Int) = a) = False := eq_false p
      simp (maxSteps := 10000000) (disch := first | omega | (simp (disch := omega) only [zm_ue, zm_un, zm_ri, zm_ro] <;> omega) | fail) only [zr_iadd, zr_iconst, zr_aload, zr_iload, zr_istore, zr_iinc, zr_ia29, zr_goto, zr_fall, zr_getI, zr_getA, zr_iaload, zr_aaload, Nat.reduceAdd, Nat.reduceLeDiff, Int.reduceLT, zcast, reduceIte, not_false_eq_true, zf_23, zKa_s, zKi_s, zO_s, zget_0, zget_s, zst1_0, zst1_1, zst1_s, zk1_i, zk1_a, zw_id, zaB_v, zaI_v, zaR_ov, true_and, and_true, zj_115_2, zSg_53, zSg_54, zSg_57, zg_53_1, zg_53_4, zg_53_5, zga_54, zga_57, b4, pe, ha, hg]
      rw [e2, show zws e a k = zws e a (k + 1) by rw [zws, if_neg p, Int.add_zero]]
      exact ih (k + 1) (by omega)
theorem zE115 {S : zSs} {D n u : Nat} {g : Int → zk_K} {e : zm_D} {Q : ((Option zv_V) ⊕ Nat) → Nat → zk_S → zm_D → Nat → Prop} {a : Int} (ha : 0 ≤ a) (H : zWh e) : zE S D 115 [zv_a 53, zv_a a] n (zSg g) (zDg e) u Q ↔ Q (.inl (some (zv_i (zws e a (e 53 5).toNat)))) n (zSg g) (zDg e) u := by
  simp (maxSteps := 10000000) (disch := first | omega | (simp (disch := omega) only [zm_ue, zm_un, zm_ri, zm_ro] <;> omega) | fail) only [zr_iconst, zr_istore, zr_fall, Nat.reduceAdd, zst1_0, zst1_1, zst1_s, zk1_i, zk1_a, ze_115]
  have h := @zL115 S D n u g e Q a ha H (e 53 5).toNat 0 (by have := H.1; omega)
  rw [Nat.zero_add] at h
  exact h
/-- the wagers but a guest's, the first k looked at -/
def zwk (e : zm_D) (a : Int) : Nat → zm_D
  | 0 => zm_u e 53 5 0
  | k + 1 => if e 54 (k : Int) = a then zwk e a k else zwa (zwk e a k) (e 54 (k : Int)) (e 55 (k : Int)) (e 56 (k : Int)) (e 57 (k : Int))
theorem zwa_5 {e : zm_D} {p k y x : Int} : zwa e p k y x 53 5 = e 53 5 + 1 := zm_ue rfl rfl
theorem zwa_o {e : zm_D} {p k y x a j : Int} (q1 : a ≠ 53 ∨ j ≠ 5) (q2 : j ≠ e 53 5 ∨ (a ≠ 54 ∧ a ≠ 55 ∧ a ≠ 56 ∧ a ≠ 57)) : zwa e p k y x a j = e a j := by
  unfold zwa
  rw [zm_un (by omega), zm_un (by omega), zm_un (by omega), zm_un (by omega), zm_un (by omega)]
theorem zwk_s {e : zm_D} {a : Int} : ∀ k : Nat, 0 ≤ zwk e a k 53 5 ∧ zwk e a k 53 5 ≤ k := by
  intro k
  induction k with
  | zero => exact ⟨Int.le_of_eq (zm_ue rfl rfl).symm, Int.le_of_eq (zm_ue rfl rfl)⟩
  | succ k ih =>
    unfold zwk
    split
    · omega
    · rw [zwa_5]; omega
theorem zwk_r {e : zm_D} {a : Int} {r j : Int} (q1 : r ≠ 53 ∨ j ≠ 5) : ∀ k : Nat, ((r ≠ 54 ∧ r ≠ 55 ∧ r ≠ 56 ∧ r ≠ 57) ∨ (k : Int) ≤ j) → zwk e a k r j = e r j := by
  intro k
  induction k with
  | zero => intro _; exact zm_un q1
  | succ k ih =>
    intro q
    have hs := @zwk_s e a k
    unfold zwk
    split
    · exact ih (by omega)
    · rw [zwa_o q1 (by omega)]
      exact ih (by omega)
theorem zL116 {S : zSs} {D n u : Nat} {g : Int → zk_K} {e : zm_D} {Q : ((Option zv_V) ⊕ Nat) → Nat → zk_S → zm_D → Nat → Prop} {a bk : Int} (ha : 0 ≤ a) (H : zWh e) (hD : 0 < D) : ∀ (m k : Nat) (X : Option zv_V), ((k + m : Nat) : Int) = e 53 5 → (zJ S D 116 1 [some (zv_a 53), some (zv_a a), some (zv_i bk), some (zv_i (e 53 5)), some (zv_i (k : Int)), X] [] n (zSg g) (zDg (zwk e a k)) u Q ↔ Q (.inl (some (zv_i bk))) n (zSg g) (zDg (zwk e a (k + m))) u) := by
  obtain ⟨h1, h2⟩ := H
  intro m
  induction m with
  | zero =>
    intro k X hk
    rw [zj_116_1, Nat.add_zero]
    simp (maxSteps := 10000000) (disch := first | omega | (simp (disch := omega) only [zm_ue, zm_un, zm_ri, zm_ro] <;> omega) | fail) only [zr_iload, zr_iret, zt_23, zKi_s, zget_0, zget_s, zj_116_3]
  | succ m ih =>
    intro k X hk
    have b4 : 0 ≤ (k : Int) ∧ (k : Int) < 10 := by omega
    obtain ⟨g1, g2, g3, g4⟩ := h2 k (by omega) (by omega)
    clear g3
    have hg := (zGr_r g1).1
    have e1 : k + (m + 1) = (k + 1) + m := by omega
    have e2 : (k : Int) + 1 = ((k + 1 : Nat) : Int) := by omega
    have R : ∀ r : Int, r ≠ 53 → zwk e a k r (k : Int) = e r (k : Int) := fun r q => zwk_r (Or.inl q) k (Or.inr (Int.le_refl _))
    have R4 := R 54 (by decide)
    have R5 := R 55 (by decide)
    have R6 := R 56 (by decide)
    have R7 := R 57 (by decide)
    have hs := @zwk_s e a k
    have r1 := fun {S D n u g Q} => @zE113 S D n u g (zwk e a k) Q (e 54 (k : Int)) (e 55 (k : Int)) (e 56 (k : Int)) (e 57 (k : Int)) (by omega) g1 g2
    rw [zj_116_1, e1]
    by_cases p : e 54 (k : Int) = a
    · have pe : (e 54 (k : Int) = a) = True := eq_true p
      simp (maxSteps := 10000000) (disch := first | omega | (simp (disch := omega) only [zm_ue, zm_un, zm_ri, zm_ro] <;> omega) | fail) only [zr_iconst, zr_aload, zr_iload, zr_astore, zr_iinc, zr_ia28, zr_goto, zr_getA, zr_iaload, zr_aaload, zr_caload, zr_callV, Nat.reduceAdd, Nat.reduceLeDiff, Int.reduceLT, zcast, reduceIte, zf_23, zKa_s, zKi_s, zO_s, zKr_s, zget_0, zget_s, zst1_0, zst1_1, zst1_s, zk1_i, zpop_0, zpop_s, zw_id, zaB_v, zaI_v, zaC_v, zaR_ov, List.length_nil, true_and, and_true, zj_116_2, zSg_53, zSg_54, zSg_55, zSg_56, zSg_57, zg_53_1, zg_53_2, zg_53_3, zg_53_4, zga_54, zga_55, zga_56, zga_57, b4, R4, R5, R6, R7, pe, ha, hg, hD]
      rw [e2, show zwk e a k = zwk e a (k + 1) by rw [zwk, if_pos p]]
      exact ih (k + 1) _ (by omega)
    · have pe : (e 54 (k : Int) = a) = False := eq_false p
      simp (maxSteps := 10000000) (disch := first | omega | (simp (disch := omega) only [zm_ue, zm_un, zm_ri, zm_ro] <;> omega) | fail) only [zr_iconst, zr_aload, zr_iload, zr_astore, zr_iinc, zr_ia28, zr_goto, zr_fall, zr_getA, zr_iaload, zr_aaload, zr_caload, zr_callV, Nat.reduceAdd, Nat.reduceLeDiff, Int.reduceLT, zcast, reduceIte, zf_23, zKa_s, zKi_s, zO_s, zKr_s, zget_0, zget_s, zst1_0, zst1_1, zst1_s, zk1_i, zpop_0, zpop_s, zA_n, zw_id, zaB_v, zaI_v, zaC_v, zaR_ov, List.length_nil, true_and, and_true, zj_116_2, zSg_53, zSg_54, zSg_55, zSg_56, zSg_57, zg_53_1, zg_53_2, zg_53_3, zg_53_4, zga_54, zga_55, zga_56, zga_57, b4, R4, R5, R6, R7, pe, r1, ha, hg, hD]
      rw [e2, show zwa (zwk e a k) (e 54 (k : Int)) (e 55 (k : Int)) (e 56 (k : Int)) (e 57 (k : Int)) = zwk e a (k + 1) by rw [zwk, if_neg p]]
      exact ih (k + 1) _ (by omega)
theorem zE116 {S : zSs} {D n u : Nat} {g : Int → zk_K} {e : zm_D} {Q : ((Option zv_V) ⊕ Nat) → Nat → zk_S → zm_D → Nat → Prop} {a : Int} (ha : 0 ≤ a) (H : zWh e) (hD : 0 < D) : zE S D 116 [zv_a 53, zv_a a] n (zSg g) (zDg e) u Q ↔ Q (.inl (some (zv_i (zws e a (e 53 5).toNat)))) n (zSg g) (zDg (zwk e a (e 53 5).toNat)) u := by
  have r1 := fun {S D n u g Q} => @zE115 S D n u g e Q a ha H
  simp (maxSteps := 10000000) (disch := first | omega | (simp (disch := omega) only [zm_ue, zm_un, zm_ri, zm_ro] <;> omega) | fail) only [zr_iconst, zr_aload, zr_istore, zr_fall, zr_getI, zr_putI, zr_callV, Nat.reduceAdd, Nat.reduceLeDiff, Int.reduceLT, zKa_s, zKr_s, zget_0, zget_s, zst1_0, zst1_1, zst1_s, zk1_i, zk1_a, zpop_0, zpop_s, zA_s, zaB_v, List.length_nil, true_and, and_true, ze_116, zSg_53, zg_53_5, zgu_53_5, r1, hD]
  have h := @zL116 S D n u g e Q a (zws e a (e 53 5).toNat) ha H hD (e 53 5).toNat 0 none (by have := H.1; omega)
  rw [Nat.zero_add] at h
  exact h
