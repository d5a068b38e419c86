/-! ===== SHOE: the shoe's methods ===== -/
set_option maxRecDepth 65536
/-- a row written from its start: places 0 .. i - 1 of r are F's -/
def zm_row (e : zm_D) (r i : Int) (F : Int → Int) : zm_D := fun a k => if a = r ∧ (0 ≤ k ∧ k < i) then F k else e a k
theorem zm_ri {e : zm_D} {r i a k : Int} {F : Int → Int} (h : a = r) (h1 : 0 ≤ k) (h2 : k < i) : zm_row e r i F a k = F k := if_pos ⟨h, h1, h2⟩
theorem zm_ro {e : zm_D} {r i a k : Int} {F : Int → Int} (h : a ≠ r ∨ k < 0 ∨ i ≤ k) : zm_row e r i F a k = e a k := if_neg fun q => by omega
theorem zm_r0 {e : zm_D} {r i : Int} {F : Int → Int} (h : i ≤ 0) : zm_row e r i F = e := by
  funext a k
  exact zm_ro (by omega)
theorem zm_rs {e : zm_D} {r i : Int} {F : Int → Int} (h : 0 ≤ i) : zm_u (zm_row e r i F) r i (F i) = zm_row e r (i + 1) F := by
  funext a k
  by_cases q : a = r ∧ k = i
  · rw [zm_ue q.1 q.2, zm_ri q.1 (by omega) (by omega), q.2]
  · rw [zm_un (by omega)]
    by_cases q2 : a = r ∧ (0 ≤ k ∧ k < i)
    · rw [zm_ri q2.1 q2.2.1 q2.2.2, zm_ri q2.1 q2.2.1 (by omega)]
    · rw [zm_ro (by omega), zm_ro (by omega)]
def zea (r : Int) : Int := if r = 10 then 16 else 4
theorem zea_t {r : Int} (h : r = 10) : zea r = 16 := if_pos h
theorem zea_f {r : Int} (h : r ≠ 10) : zea r = 4 := if_neg h
def zuo (e : zm_D) (r : Int) : Int := e 5 6 * zea r - e 8 r
/-- cards not seen of the last k ranks -/
def zuS (e : zm_D) : Nat → Int
  | 0 => 0
  | k + 1 => zuo e (10 - (k : Int)) + zuS e k
/-- the count over the first k ranks -/
def zcs (e : zm_D) : Nat → Int
  | 0 => 0
  | k + 1 => zcs e k + e 8 ((k : Int) + 1) * e 9 ((k : Int) + 1)
def zcp (sz x k : Int) : Int := if k + x < sz then k + x else k + x - sz
theorem zcp_t {sz x k : Int} (h : k + x < sz) : zcp sz x k = k + x := if_pos h
theorem zcp_f {sz x k : Int} (h : sz ≤ k + x) : zcp sz x k = k + x - sz := if_neg (by omega)
theorem zE81 {S : zSs} {D n u : Nat} {sh : zk_S} {d : zm_D} {Q : ((Option zv_V) ⊕ Nat) → Nat → zk_S → zm_D → Nat → Prop} {r : Int} (hr : -2147483648 ≤ r ∧ r < 2147483648) : zE S D 81 [zv_i r] n sh d u Q ↔ Q (.inl (some (zv_i (zea r)))) n sh d u := by
  by_cases h : r = 10
  · rw [zea_t h]
    simp (maxSteps := 10000000) (disch := first | omega | (simp (disch := omega) only [zm_ue, zm_un, zm_ri, zm_ro] <;> omega) | fail) only [zr_iconst, zr_iload, zr_goto, zr_iret, zf_21, zKi_s, zget_0, zj_81_2, ze_81s]
  · rw [zea_f h]
    simp (maxSteps := 10000000) (disch := first | omega | (simp (disch := omega) only [zm_ue, zm_un, zm_ri, zm_ro] <;> omega) | fail) only [zr_iconst, zr_iload, zr_fall, zr_iret, zt_21, zKi_s, zget_0, zj_81_1, zj_81_2, ze_81s]
theorem zE82 {S : zSs} {D n u : Nat} {g : Int → zk_K} {e : zm_D} {Q : ((Option zv_V) ⊕ Nat) → Nat → zk_S → zm_D → Nat → Prop}  : zE S D 82 [zv_a 5] n (zSg g) (zDg e) u Q ↔ Q (.inl (some (zv_i (e 5 5 - e 5 4)))) n (zSg g) (zDg e) u := by
  simp (maxSteps := 10000000) (disch := first | omega | (simp (disch := omega) only [zm_ue, zm_un, zm_ri, zm_ro] <;> omega) | fail) only [zr_isub, zr_aload, zr_getI, zr_iret, Int.reduceLT, zKa_s, zget_0, zaB_v, true_and, and_true, ze_82, zSg_5, zg_5_4, zg_5_5]
theorem zE83i {S : zSs} {D n u : Nat} {g : Int → zk_K} {e : zm_D} {Q : ((Option zv_V) ⊕ Nat) → Nat → zk_S → zm_D → Nat → Prop} {p : Int} (hf : 0 ≤ e 5 4 ∧ e 5 4 ≤ e 5 5 ∧ e 5 5 ≤ 104) (hp : 0 ≤ p ∧ e 5 4 + p < e 5 5) : zE S D 83 [zv_a 5, zv_i p] n (zSg g) (zDg e) u Q ↔ Q (.inl (some (zv_i (e 6 (e 5 4 + p))))) n (zSg g) (zDg e) u := by
  have b4 : 0 ≤ e 5 4 + p ∧ e 5 4 + p < 104 := by omega
  simp (maxSteps := 10000000) (disch := first | omega | (simp (disch := omega) only [zm_ue, zm_un, zm_ri, zm_ro] <;> omega) | fail) only [zr_iadd, zr_aload, zr_iload, zr_istore, zr_goto, zr_getI, zr_getA, zr_iaload, zr_alen, zr_iret, Nat.reduceAdd, Nat.reduceLeDiff, Int.reduceLT, zcast, zf_16, zf_23, zKa_s, zKi_s, zO_s, zget_0, zget_s, zst1_0, zst1_1, zst1_s, zk1_i, zw_id, zaB_v, zaI_v, zaX_v, true_and, and_true, zj_83_2, ze_83, zSg_5, zSg_6, zg_5_0, zg_5_4, zg_5_5, zga_6, b4]
theorem zE83o {S : zSs} {D n u : Nat} {g : Int → zk_K} {e : zm_D} {Q : ((Option zv_V) ⊕ Nat) → Nat → zk_S → zm_D → Nat → Prop} {p : Int} (hf : 0 ≤ e 5 4 ∧ e 5 4 ≤ e 5 5 ∧ e 5 5 ≤ 104) (hp : 0 ≤ p ∧ p ≤ 1000) (ho : e 5 5 ≤ e 5 4 + p) : zE S D 83 [zv_a 5, zv_i p] n (zSg g) (zDg e) u Q ↔ Q (.inl (some (zv_i (0)))) n (zSg g) (zDg e) u := by
  simp (maxSteps := 10000000) (disch := first | omega | (simp (disch := omega) only [zm_ue, zm_un, zm_ri, zm_ro] <;> omega) | fail) only [zr_iadd, zr_iconst, zr_aload, zr_iload, zr_istore, zr_fall, zr_getI, zr_iret, Nat.reduceAdd, Int.reduceLT, zf_16, zt_23, zKa_s, zKi_s, zget_0, zget_s, zst1_0, zst1_1, zst1_s, zk1_i, zaB_v, true_and, and_true, zj_83_1, zj_83_2, ze_83, zSg_5, zg_5_4, zg_5_5]
theorem zE88 {S : zSs} {D n u : Nat} {g : Int → zk_K} {e : zm_D} {Q : ((Option zv_V) ⊕ Nat) → Nat → zk_S → zm_D → Nat → Prop} (hf : 0 ≤ e 5 4 ∧ e 5 4 ≤ e 5 5 ∧ e 5 5 ≤ 104) (hl : e 5 4 < e 5 5) (hc : 1 ≤ e 6 (e 5 4) ∧ e 6 (e 5 4) ≤ 10) (hD : 0 < D) : zE S D 88 [zv_a 5] n (zSg g) (zDg e) u Q ↔ Q (.inl (some (zv_i (e 6 (e 5 4))))) n (zSg g) (zDg (zm_u e 5 4 (e 5 4 + 1))) u := by
  simp (maxSteps := 10000000) (disch := first | omega | (simp (disch := omega) only [zm_ue, zm_un, zm_ri, zm_ro] <;> omega) | fail) only [zr_iadd, zr_iconst, zr_aload, zr_iload, zr_istore, zr_fall, zr_dup_a, zr_getI, zr_putI, zr_iret, zr_callV, Nat.reduceLeDiff, Int.reduceLT, zf_14, zKa_s, zKi_s, zKr_s, zget_0, zget_s, zst1_0, zst1_1, zk1_a, zpop_0, zpop_s, zA_s, zaB_v, List.length_nil, true_and, and_true, zj_88_1, ze_88, zSg_5, zg_5_4, zgu_5_4, zE83i, Int.add_zero, hD]
theorem zE88e {S : zSs} {D n u : Nat} {g : Int → zk_K} {e : zm_D} {Q : ((Option zv_V) ⊕ Nat) → Nat → zk_S → zm_D → Nat → Prop} (hf : 0 ≤ e 5 4 ∧ e 5 4 ≤ e 5 5 ∧ e 5 5 ≤ 104) (hl : e 5 4 = e 5 5) (hD : 0 < D) : zE S D 88 [zv_a 5] n (zSg g) (zDg e) u Q ↔ Q (.inl (some (zv_i (0)))) n (zSg g) (zDg e) u := by
  simp (maxSteps := 10000000) (disch := first | omega | (simp (disch := omega) only [zm_ue, zm_un, zm_ri, zm_ro] <;> omega) | fail) only [zr_iconst, zr_aload, zr_iload, zr_istore, zr_iret, zr_callV, Nat.reduceLeDiff, Int.reduceLT, zt_14, zKa_s, zKi_s, zKr_s, zget_0, zget_s, zst1_0, zst1_1, zk1_a, zpop_0, zpop_s, zA_s, zaB_v, List.length_nil, true_and, and_true, zj_88_1, ze_88, zSg_5, zE83o, hD]
theorem zE89 {S : zSs} {D n u : Nat} {g : Int → zk_K} {e : zm_D} {Q : ((Option zv_V) ⊕ Nat) → Nat → zk_S → zm_D → Nat → Prop} {r : Int} (hr : 1 ≤ r ∧ r ≤ 10) : zE S D 89 [zv_a 5, zv_i r] n (zSg g) (zDg e) u Q ↔ Q (.inl none) n (zSg g) (zDg (zm_u e 8 r (e 8 r + 1))) u := by
  have b4 : 0 ≤ r ∧ r < 11 := by omega
  simp (maxSteps := 10000000) (disch := first | omega | (simp (disch := omega) only [zm_ue, zm_un, zm_ri, zm_ro] <;> omega) | fail) only [zr_iadd, zr_iconst, zr_aload, zr_iload, zr_fall, zr_dup2_ia, zr_getA, zr_iaload, zr_iastore, zr_alen, zr_vret, Nat.reduceLeDiff, Int.reduceLT, zcast, zf_19, zf_23, zKa_s, zKi_s, zO_s, zget_0, zget_s, zw_id, zaB_v, zaI_v, zaX_v, true_and, and_true, zj_89_1, ze_89, zSg_5, zSg_8, zg_5_2, zga_8, zgua_8, b4]
theorem zE89z {S : zSs} {D n u : Nat} {g : Int → zk_K} {e : zm_D} {Q : ((Option zv_V) ⊕ Nat) → Nat → zk_S → zm_D → Nat → Prop} {r : Int} (hr : -2147483648 ≤ r ∧ r ≤ 0) : zE S D 89 [zv_a 5, zv_i r] n (zSg g) (zDg e) u Q ↔ Q (.inl none) n (zSg g) (zDg e) u := by
  simp (maxSteps := 10000000) (disch := first | omega | (simp (disch := omega) only [zm_ue, zm_un, zm_ri, zm_ro] <;> omega) | fail) only [zr_iload, zr_vret, zt_19, zKi_s, zget_0, zget_s, zj_89_1, ze_89]
theorem zE90 {S : zSs} {D n u : Nat} {g : Int → zk_K} {e : zm_D} {Q : ((Option zv_V) ⊕ Nat) → Nat → zk_S → zm_D → Nat → Prop} (hf : 0 ≤ e 5 4 ∧ e 5 4 ≤ e 5 5 ∧ e 5 5 ≤ 104) (hl : e 5 4 < e 5 5) (hc : 1 ≤ e 6 (e 5 4) ∧ e 6 (e 5 4) ≤ 10) (hD : 1 < D) : zE S D 90 [zv_a 5] n (zSg g) (zDg e) u Q ↔ Q (.inl (some (zv_i (e 6 (e 5 4))))) n (zSg g) (zDg (zm_u (zm_u e 5 4 (e 5 4 + 1)) 8 (e 6 (e 5 4)) (e 8 (e 6 (e 5 4)) + 1))) u := by
  have hD1 : 0 < D := by omega
  have hD2 : 0 < D - 1 := by omega
  simp (maxSteps := 10000000) (disch := first | omega | (simp (disch := omega) only [zm_ue, zm_un, zm_ri, zm_ro] <;> omega) | fail) only [zr_aload, zr_iload, zr_istore, zr_iret, zr_callV, Nat.reduceLeDiff, Int.reduceLT, zKa_s, zKi_s, zKr_s, zget_0, zget_s, zst1_0, zst1_1, zk1_a, zpop_0, zpop_s, zA_s, zA_n, zm_un, zaB_v, List.length_nil, true_and, and_true, ze_90, zSg_5, zE88, zE89, hD1]
theorem zE90e {S : zSs} {D n u : Nat} {g : Int → zk_K} {e : zm_D} {Q : ((Option zv_V) ⊕ Nat) → Nat → zk_S → zm_D → Nat → Prop} (hf : 0 ≤ e 5 4 ∧ e 5 4 ≤ e 5 5 ∧ e 5 5 ≤ 104) (hl : e 5 4 = e 5 5) (hD : 1 < D) : zE S D 90 [zv_a 5] n (zSg g) (zDg e) u Q ↔ Q (.inl (some (zv_i (0)))) n (zSg g) (zDg e) u := by
  have hD1 : 0 < D := by omega
  have hD2 : 0 < D - 1 := by omega
  simp (maxSteps := 10000000) (disch := first | omega | (simp (disch := omega) only [zm_ue, zm_un, zm_ri, zm_ro] <;> omega) | fail) only [zr_aload, zr_iload, zr_istore, zr_iret, zr_callV, Nat.reduceLeDiff, Int.reduceLT, zKa_s, zKi_s, zKr_s, zget_0, zget_s, zst1_0, zst1_1, zk1_a, zpop_0, zpop_s, zA_s, zA_n, zaB_v, List.length_nil, true_and, and_true, ze_90, zSg_5, zE88e, zE89z, hD1]
theorem zE91 {S : zSs} {D n u : Nat} {g : Int → zk_K} {e : zm_D} {Q : ((Option zv_V) ⊕ Nat) → Nat → zk_S → zm_D → Nat → Prop} (hf : 0 ≤ e 5 4 ∧ e 5 4 ≤ e 5 5 ∧ e 5 5 ≤ 104) (hl : e 5 4 < e 5 5) (hc : 1 ≤ e 6 (e 5 4) ∧ e 6 (e 5 4) ≤ 10) (hD : 1 < D) : zE S D 91 [zv_a 5] n (zSg g) (zDg e) u Q ↔ Q (.inl (some (zv_i (e 6 (e 5 4))))) n (zSg g) (zDg (zm_u (zm_u e 5 4 (e 5 4 + 1)) 5 7 (e 6 (e 5 4)))) u := by
  have hD1 : 0 < D := by omega
  have hD2 : 0 < D - 1 := by omega
  simp (maxSteps := 10000000) (disch := first | omega | (simp (disch := omega) only [zm_ue, zm_un, zm_ri, zm_ro] <;> omega) | fail) only [zr_aload, zr_getI, zr_putI, zr_iret, zr_callV, Nat.reduceAdd, Nat.reduceLeDiff, Int.reduceLT, zKa_s, zKr_s, zget_0, zpop_0, zA_s, zm_ue, zaB_v, List.length_cons, List.length_nil, true_and, and_true, ze_91, zSg_5, zgu_5_7, zE88, hD1]
theorem zE92 {S : zSs} {D n u : Nat} {g : Int → zk_K} {e : zm_D} {Q : ((Option zv_V) ⊕ Nat) → Nat → zk_S → zm_D → Nat → Prop} (hr : 1 ≤ e 5 7 ∧ e 5 7 ≤ 10) (hD : 0 < D) : zE S D 92 [zv_a 5] n (zSg g) (zDg e) u Q ↔ Q (.inl none) n (zSg g) (zDg (zm_u (zm_u e 8 (e 5 7) (e 8 (e 5 7) + 1)) 5 7 0)) u := by
  simp (maxSteps := 10000000) (disch := first | omega | (simp (disch := omega) only [zm_ue, zm_un, zm_ri, zm_ro] <;> omega) | fail) only [zr_iconst, zr_aload, zr_getI, zr_putI, zr_vret, zr_callV, Nat.reduceLeDiff, Int.reduceLT, zKa_s, zKr_s, zget_0, zpop_0, zpop_s, zA_n, zaB_v, List.length_nil, true_and, and_true, ze_92, zSg_5, zg_5_7, zgu_5_7, zE89, hD]
theorem zE92z {S : zSs} {D n u : Nat} {g : Int → zk_K} {e : zm_D} {Q : ((Option zv_V) ⊕ Nat) → Nat → zk_S → zm_D → Nat → Prop} (hr : e 5 7 = 0) (hD : 0 < D) : zE S D 92 [zv_a 5] n (zSg g) (zDg e) u Q ↔ Q (.inl none) n (zSg g) (zDg (zm_u e 5 7 0)) u := by
  simp (maxSteps := 10000000) (disch := first | omega | (simp (disch := omega) only [zm_ue, zm_un, zm_ri, zm_ro] <;> omega) | fail) only [zr_iconst, zr_aload, zr_getI, zr_putI, zr_vret, zr_callV, Nat.reduceLeDiff, Int.reduceLT, zKa_s, zKr_s, zget_0, zpop_0, zpop_s, zA_n, zaB_v, List.length_nil, true_and, and_true, ze_92, zSg_5, zg_5_7, zgu_5_7, zE89z, hD]
theorem zE93 {S : zSs} {D n u : Nat} {g : Int → zk_K} {e : zm_D} {Q : ((Option zv_V) ⊕ Nat) → Nat → zk_S → zm_D → Nat → Prop} {r : Int} (hr : 1 ≤ r ∧ r ≤ 10) (hD : 0 < D) : zE S D 93 [zv_a 5, zv_i r] n (zSg g) (zDg e) u Q ↔ Q (.inl (some (zv_i (zuo e r)))) n (zSg g) (zDg e) u := by
  have b4 : 0 ≤ r ∧ r < 11 := by omega
  unfold zuo
  simp (maxSteps := 10000000) (disch := first | omega | (simp (disch := omega) only [zm_ue, zm_un, zm_ri, zm_ro] <;> omega) | fail) only [zr_isub, zr_imul, zr_aload, zr_iload, zr_goto, zr_getI, zr_getA, zr_iaload, zr_alen, zr_iret, zr_callS, Nat.reduceAdd, Nat.reduceLeDiff, Int.reduceLT, zcast, zf_19, zf_23, zKa_s, zKi_s, zO_s, zKp_s, zget_0, zget_s, zpop_0, zpop_s, zA_s, zw_id, zaB_v, zaI_v, zaX_v, List.length_cons, List.length_nil, true_and, and_true, zj_93_2, ze_93, zSg_5, zSg_8, zg_5_2, zg_5_6, zga_8, b4, zE81, hD]
theorem zE93z {S : zSs} {D n u : Nat} {g : Int → zk_K} {e : zm_D} {Q : ((Option zv_V) ⊕ Nat) → Nat → zk_S → zm_D → Nat → Prop} {r : Int} (hr : (-2147483648 ≤ r ∧ r ≤ 0) ∨ (11 ≤ r ∧ r < 2147483648)) : zE S D 93 [zv_a 5, zv_i r] n (zSg g) (zDg e) u Q ↔ Q (.inl (some (zv_i (0)))) n (zSg g) (zDg e) u := by
  rcases hr with hr | hr
  all_goals
    simp (maxSteps := 10000000) (disch := first | omega | (simp (disch := omega) only [zm_ue, zm_un, zm_ri, zm_ro] <;> omega) | fail) only [zr_iconst, zr_aload, zr_iload, zr_fall, zr_getA, zr_alen, zr_iret, Int.reduceLT, zcast, zt_19, zf_19, zt_23, zKa_s, zKi_s, zO_s, zget_0, zget_s, zaB_v, zaX_v, true_and, and_true, zj_93_1, zj_93_2, ze_93, zSg_5, zSg_8, zg_5_2]
theorem zL94 {S : zSs} {D n u : Nat} {g : Int → zk_K} {e : zm_D} {Q : ((Option zv_V) ⊕ Nat) → Nat → zk_S → zm_D → Nat → Prop} {x : Int} (hD : 1 < D) : ∀ (k : Nat) (sm : Int), k ≤ 10 → (zJ S D 94 1 [some (zv_a 5), some (zv_i (x)), some (zv_i (sm)), some (zv_i (11 - (k : Int)))] [] n (zSg g) (zDg e) u Q ↔ Q (.inl (some (zv_i (sm + zuS e k)))) n (zSg g) (zDg e) u) := by
  have hD1 : 0 < D := by omega
  intro k
  induction k with
  | zero =>
    intro sm hk
    rw [zj_94_1, show sm + zuS e 0 = sm from Int.add_zero sm]
    simp (maxSteps := 10000000) (disch := first | omega | (simp (disch := omega) only [zm_ue, zm_un, zm_ri, zm_ro] <;> omega) | fail) only [zr_iconst, zr_iload, zr_iret, Int.reduceSub, zcast, zt_24, zKi_s, zget_0, zget_s, zj_94_2]
  | succ k ih =>
    intro sm hk
    have e1 : (11 : Int) - ((k + 1 : Nat) : Int) = 10 - (k : Int) := by omega
    have e2 : (10 : Int) - (k : Int) + 1 = 11 - (k : Int) := by omega
    have hD3 : 0 < D - 1 := by omega
    rw [zj_94_1, e1]
    simp (maxSteps := 10000000) (disch := first | omega | (simp (disch := omega) only [zm_ue, zm_un, zm_ri, zm_ro] <;> omega) | fail) only [zr_iadd, zr_iconst, zr_aload, zr_iload, zr_istore, zr_iinc, zr_goto, zr_callV, Nat.reduceAdd, Nat.reduceLeDiff, Int.reduceLT, zf_24, zKa_s, zKi_s, zKr_s, zget_0, zget_s, zst1_0, zst1_1, zst1_s, zk1_i, zpop_0, zpop_s, zA_s, zaB_v, List.length_cons, List.length_nil, true_and, and_true, zSg_5, zE93, hD1]
    rw [e2, ih _ (by omega)]
    rw [show sm + zuS e (k + 1) = sm + zuo e (10 - (k : Int)) + zuS e k from (Int.add_assoc _ _ _).symm]
theorem zE94 {S : zSs} {D n u : Nat} {g : Int → zk_K} {e : zm_D} {Q : ((Option zv_V) ⊕ Nat) → Nat → zk_S → zm_D → Nat → Prop} {x : Int} (hx : 0 ≤ x ∧ x ≤ 10) (hD : 1 < D) : zE S D 94 [zv_a 5, zv_i x] n (zSg g) (zDg e) u Q ↔ Q (.inl (some (zv_i (zuS e (10 - x).toNat)))) n (zSg g) (zDg e) u := by
  simp (maxSteps := 10000000) (disch := first | omega | (simp (disch := omega) only [zm_ue, zm_un, zm_ri, zm_ro] <;> omega) | fail) only [zr_iadd, zr_iconst, zr_iload, zr_istore, zr_fall, Nat.reduceAdd, zKi_s, zget_0, zget_s, zst1_0, zst1_1, zst1_s, zk1_i, ze_94]
  have h := @zL94 S D n u g e Q x hD (10 - x).toNat 0 (by omega)
  rw [show (11 : Int) - ((10 - x).toNat : Int) = x + 1 by omega, Int.zero_add] at h
  exact h
theorem zE94z {S : zSs} {D n u : Nat} {g : Int → zk_K} {e : zm_D} {Q : ((Option zv_V) ⊕ Nat) → Nat → zk_S → zm_D → Nat → Prop} {x : Int} (hx : 10 ≤ x ∧ x ≤ 1000) (hD : 1 < D) : zE S D 94 [zv_a 5, zv_i x] n (zSg g) (zDg e) u Q ↔ Q (.inl (some (zv_i (0)))) n (zSg g) (zDg e) u := by
  simp (maxSteps := 10000000) (disch := first | omega | (simp (disch := omega) only [zm_ue, zm_un, zm_ri, zm_ro] <;> omega) | fail) only [zr_iadd, zr_iconst, zr_iload, zr_istore, zr_fall, zr_iret, Nat.reduceAdd, zt_24, zKi_s, zget_0, zget_s, zst1_0, zst1_1, zst1_s, zk1_i, zj_94_1, zj_94_2, ze_94]
theorem zE95 {S : zSs} {D n u : Nat} {g : Int → zk_K} {e : zm_D} {Q : ((Option zv_V) ⊕ Nat) → Nat → zk_S → zm_D → Nat → Prop} (hD : 2 < D) : zE S D 95 [zv_a 5] n (zSg g) (zDg e) u Q ↔ Q (.inl (some (zv_i (zuS e 10)))) n (zSg g) (zDg e) u := by
  have hD1 : 0 < D := by omega
  have hD2 : 1 < D - 1 := by omega
  simp (maxSteps := 10000000) (disch := first | omega | (simp (disch := omega) only [zm_ue, zm_un, zm_ri, zm_ro] <;> omega) | fail) only [zr_iconst, zr_aload, zr_iret, zr_callV, Nat.reduceLeDiff, Int.reduceLT, Int.reduceToNat, zKa_s, zKr_s, zget_0, zpop_0, zpop_s, zA_s, zaB_v, List.length_nil, true_and, and_true, ze_95, zSg_5, zE94, hD1, Int.sub_zero, Int.reduceToNat]
theorem zE96 {S : zSs} {D n u : Nat} {g : Int → zk_K} {e : zm_D} {Q : ((Option zv_V) ⊕ Nat) → Nat → zk_S → zm_D → Nat → Prop} {r x : Int} (hr : 0 ≤ r ∧ r ≤ 10) : zE S D 96 [zv_a 5, zv_i r, zv_i x] n (zSg g) (zDg e) u Q ↔ Q (.inl (some (zv_i (e 9 r)))) n (zSg g) (zDg (zm_u e 9 r x)) u := by
  have b4 : 0 ≤ r ∧ r < 11 := by omega
  simp (maxSteps := 10000000) (disch := first | omega | (simp (disch := omega) only [zm_ue, zm_un, zm_ri, zm_ro] <;> omega) | fail) only [zr_aload, zr_iload, zr_istore, zr_getA, zr_iaload, zr_iastore, zr_alen, zr_iret, Nat.reduceAdd, Nat.reduceLeDiff, Int.reduceLT, zcast, zf_16, zt_22, zKa_s, zKi_s, zO_s, zget_0, zget_s, zst1_0, zst1_1, zst1_s, zk1_i, zw_id, zaB_v, zaI_v, zaX_v, true_and, and_true, zj_96_2, ze_96, zSg_5, zSg_9, zg_5_3, zga_9, zgua_9, b4]
theorem zL97 {S : zSs} {D n u : Nat} {g : Int → zk_K} {e : zm_D} {Q : ((Option zv_V) ⊕ Nat) → Nat → zk_S → zm_D → Nat → Prop} : ∀ (m k : Nat), k + m = 10 → (zJ S D 97 1 [some (zv_a 5), some (zv_i (zcs e k)), some (zv_i ((k : Int) + 1))] [] n (zSg g) (zDg e) u Q ↔ Q (.inl (some (zv_i (zcs e 10)))) n (zSg g) (zDg e) u) := by
  intro m
  induction m with
  | zero =>
    intro k hk
    have e1 : k = 10 := by omega
    subst e1
    rw [zj_97_1]
    simp (maxSteps := 10000000) (disch := first | omega | (simp (disch := omega) only [zm_ue, zm_un, zm_ri, zm_ro] <;> omega) | fail) only [zr_aload, zr_iload, zr_getA, zr_alen, zr_iret, Int.reduceAdd, Int.reduceLT, zcast, zt_23, zKa_s, zKi_s, zO_s, zget_0, zget_s, zaB_v, zaX_v, true_and, and_true, zj_97_2, zSg_5, zSg_8, zg_5_2]
  | succ m ih =>
    intro k hk
    have e1 : (k : Int) + 1 + 1 = ((k + 1 : Nat) : Int) + 1 := by omega
    have b4 : 0 ≤ (k : Int) + 1 ∧ (k : Int) + 1 < 11 := by omega
    rw [zj_97_1]
    simp (maxSteps := 10000000) (disch := first | omega | (simp (disch := omega) only [zm_ue, zm_un, zm_ri, zm_ro] <;> omega) | fail) only [zr_iadd, zr_imul, zr_aload, zr_iload, zr_istore, zr_iinc, zr_goto, zr_getA, zr_iaload, zr_alen, Nat.reduceAdd, Nat.reduceLeDiff, Int.reduceLT, zcast, zf_23, zKa_s, zKi_s, zO_s, zget_0, zget_s, zst1_0, zst1_1, zst1_s, zk1_i, zk1_a, zw_id, zaB_v, zaI_v, zaX_v, true_and, and_true, zSg_5, zSg_8, zSg_9, zg_5_2, zg_5_3, zga_8, zga_9, b4]
    rw [e1]
    exact ih (k + 1) (by omega)
theorem zE97 {S : zSs} {D n u : Nat} {g : Int → zk_K} {e : zm_D} {Q : ((Option zv_V) ⊕ Nat) → Nat → zk_S → zm_D → Nat → Prop}  : zE S D 97 [zv_a 5] n (zSg g) (zDg e) u Q ↔ Q (.inl (some (zv_i (zcs e 10)))) n (zSg g) (zDg e) u := by
  simp (maxSteps := 10000000) (disch := first | omega | (simp (disch := omega) only [zm_ue, zm_un, zm_ri, zm_ro] <;> omega) | fail) only [zr_iconst, zr_istore, zr_fall, Nat.reduceAdd, zst1_0, zst1_1, zst1_s, zk1_i, zk1_a, ze_97]
  exact @zL97 S D n u g e Q 10 0 rfl
theorem zE98z {S : zSs} {D n u : Nat} {g : Int → zk_K} {e : zm_D} {Q : ((Option zv_V) ⊕ Nat) → Nat → zk_S → zm_D → Nat → Prop} (hz : zuS e 10 = 0) (hD : 3 < D) : zE S D 98 [zv_a 5] n (zSg g) (zDg e) u Q ↔ Q (.inl (some (zv_i (0)))) n (zSg g) (zDg e) u := by
  have hD1 : 0 < D := by omega
  have hD2 : 2 < D - 1 := by omega
  simp (maxSteps := 10000000) (disch := first | omega | (simp (disch := omega) only [zm_ue, zm_un, zm_ri, zm_ro] <;> omega) | fail) only [zr_iconst, zr_aload, zr_iload, zr_istore, zr_goto, zr_iret, zr_callV, Nat.reduceLeDiff, Int.reduceLT, zf_15, zKa_s, zKi_s, zKr_s, zget_0, zget_s, zst1_0, zst1_1, zk1_a, zpop_0, zA_s, zaB_v, List.length_nil, true_and, and_true, zj_98_2, ze_98, zSg_5, zE95, hD1]
theorem zE98 {S : zSs} {D n u : Nat} {g : Int → zk_K} {e : zm_D} {Q : ((Option zv_V) ⊕ Nat) → Nat → zk_S → zm_D → Nat → Prop} (hz : 0 < zuS e 10 ∧ zuS e 10 ≤ 1000) (hD : 3 < D) : zE S D 98 [zv_a 5] n (zSg g) (zDg e) u Q ↔ Q (.inl (some (zv_i ((zw (zcs e 10 * 52)).tdiv (zuS e 10))))) n (zSg g) (zDg e) u := by
  have hD1 : 0 < D := by omega
  have hD2 : 2 < D - 1 := by omega
  have hz0 : zuS e 10 ≠ 0 := by omega
  simp (maxSteps := 10000000) (disch := first | omega | (simp (disch := omega) only [zm_ue, zm_un, zm_ri, zm_ro] <;> omega) | fail) only [zr_imul, zr_idiv, zr_iconst, zr_aload, zr_iload, zr_istore, zr_fall, zr_iret, zr_callV, Nat.reduceLeDiff, Int.reduceLT, ne_eq, not_false_eq_true, zt_15, zKa_s, zKi_s, zKr_s, zget_0, zget_s, zst1_0, zst1_1, zk1_a, zpop_0, zA_s, zw_id, zaB_v, List.length_nil, true_and, and_true, zj_98_1, zj_98_2, ze_98, zSg_5, zE95, zE97, hD1, hz0]
theorem zL87 {S : zSs} {D n u : Nat} {g : Int → zk_K} {e : zm_D} {Q : ((Option zv_V) ⊕ Nat) → Nat → zk_S → zm_D → Nat → Prop} {sz : Int} (hs : 0 ≤ sz ∧ sz ≤ 104) : ∀ (m : Nat) (k : Int), sz - k = (m : Int) → 0 ≤ k → (zJ S D 87 1 [some (zv_a 5), some (zv_i (sz)), some (zv_i (k))] [] n (zSg g) (zDg (zm_row e 6 k (fun k => e 7 k))) u Q ↔ Q (.inl none) n (zSg g) (zDg (zm_u (zm_u (zm_row e 6 sz (fun k => e 7 k)) 5 4 0) 5 5 sz)) u) := by
  intro m
  induction m with
  | zero =>
    intro k hk h0
    have e1 : k = sz := by omega
    subst e1
    rw [zj_87_1]
    simp (maxSteps := 10000000) (disch := first | omega | (simp (disch := omega) only [zm_ue, zm_un, zm_ri, zm_ro] <;> omega) | fail) only [zr_iconst, zr_aload, zr_iload, zr_putI, zr_vret, Int.reduceLT, zt_23, zKa_s, zKi_s, zget_0, zget_s, zaB_v, true_and, and_true, zj_87_2, zSg_5, zgu_5_4, zgu_5_5]
  | succ m ih =>
    intro k hk h0
    have b4 : 0 ≤ k ∧ k < 104 := by omega
    have e2 := @zm_rs e 6 k (fun k => e 7 k) h0
    rw [zj_87_1]
    simp (maxSteps := 10000000) (disch := first | omega | (simp (disch := omega) only [zm_ue, zm_un, zm_ri, zm_ro] <;> omega) | fail) only [zr_aload, zr_iload, zr_iinc, zr_goto, zr_getA, zr_iaload, zr_iastore, zr_alen, Nat.reduceAdd, Nat.reduceLeDiff, Int.reduceLT, zcast, zf_23, zKa_s, zKi_s, zO_s, zget_0, zget_s, zst1_0, zst1_1, zst1_s, zk1_i, zw_id, zaB_v, zaI_v, zaX_v, true_and, and_true, zSg_5, zSg_6, zSg_7, zg_5_0, zg_5_1, zga_7, zgua_6, zm_ro, b4]
    rw [e2]
    exact ih (k + 1) (by omega) (by omega)
theorem zE87 {S : zSs} {D n u : Nat} {g : Int → zk_K} {e : zm_D} {Q : ((Option zv_V) ⊕ Nat) → Nat → zk_S → zm_D → Nat → Prop} {sz : Int} (hs : 0 ≤ sz ∧ sz ≤ 104) : zE S D 87 [zv_a 5, zv_i sz] n (zSg g) (zDg e) u Q ↔ Q (.inl none) n (zSg g) (zDg (zm_u (zm_u (zm_row e 6 sz (fun k => e 7 k)) 5 4 0) 5 5 sz)) u := by
  simp (maxSteps := 10000000) (disch := first | omega | (simp (disch := omega) only [zm_ue, zm_un, zm_ri, zm_ro] <;> omega) | fail) only [zr_iconst, zr_istore, zr_fall, Nat.reduceAdd, zst1_0, zst1_1, zst1_s, zk1_i, ze_87]
  have h := @zL87 S D n u g e Q sz hs sz.toNat 0 (by omega) (by omega)
  rw [zm_r0 (by omega)] at h
  exact h
theorem zL85 {S : zSs} {D n u : Nat} {g : Int → zk_K} {e : zm_D} {Q : ((Option zv_V) ⊕ Nat) → Nat → zk_S → zm_D → Nat → Prop} {x : Int} (hf : 0 ≤ e 5 4 ∧ e 5 4 ≤ e 5 5 ∧ e 5 5 ≤ 104) (hx : 1 ≤ x ∧ x < e 5 5 - e 5 4) (hD : 2 < D) : ∀ (m : Nat) (k : Int) (X : Option zv_V), e 5 5 - e 5 4 - k = (m : Int) → 0 ≤ k → (zJ S D 85 1 [some (zv_a 5), some (zv_i (x)), some (zv_i (e 5 5 - e 5 4)), some (zv_i (k)), X] [] n (zSg g) (zDg (zm_row e 7 k (fun k => e 6 (e 5 4 + zcp (e 5 5 - e 5 4) x k)))) u Q ↔ Q (.inl none) n (zSg g) (zDg (zm_u (zm_u (zm_row (zm_row e 7 (e 5 5 - e 5 4) (fun k => e 6 (e 5 4 + zcp (e 5 5 - e 5 4) x k))) 6 (e 5 5 - e 5 4) (fun k => (zm_row e 7 (e 5 5 - e 5 4) (fun k => e 6 (e 5 4 + zcp (e 5 5 - e 5 4) x k))) 7 k)) 5 4 0) 5 5 (e 5 5 - e 5 4))) u) := by
  have hD1 : 0 < D := by omega
  intro m
  induction m with
  | zero =>
    intro k X hk h0
    have e1 : k = e 5 5 - e 5 4 := by omega
    subst e1
    rw [zj_85_1]
    simp (maxSteps := 10000000) (disch := first | omega | (simp (disch := omega) only [zm_ue, zm_un, zm_ri, zm_ro] <;> omega) | fail) only [zr_aload, zr_iload, zr_vret, zr_callV, Nat.reduceLeDiff, Int.reduceLT, zt_23, zKa_s, zKi_s, zKr_s, zget_0, zget_s, zpop_0, zpop_s, zA_n, zaB_v, List.length_nil, true_and, and_true, zj_85_4, zSg_5, zE87, hD1]
  | succ m ih =>
    intro k X hk h0
    have b4 : 0 ≤ k ∧ k < 104 := by omega
    have e2 := @zm_rs e 7 k (fun k => e 6 (e 5 4 + zcp (e 5 5 - e 5 4) x k)) h0
    rw [zj_85_1]
    by_cases hq : k + x < e 5 5 - e 5 4
    · rw [zcp_t hq] at e2
      simp (maxSteps := 10000000) (disch := first | omega | (simp (disch := omega) only [zm_ue, zm_un, zm_ri, zm_ro] <;> omega) | fail) only [zr_iadd, zr_aload, zr_iload, zr_istore, zr_iinc, zr_goto, zr_getA, zr_iastore, zr_alen, zr_callV, Nat.reduceAdd, Nat.reduceLeDiff, Int.reduceLT, zcast, zf_23, zKa_s, zKi_s, zO_s, zKr_s, zget_0, zget_s, zst1_0, zst1_1, zst1_s, zk1_i, zpop_0, zpop_s, zA_s, zw_id, zaB_v, zaI_v, zaX_v, List.length_cons, List.length_nil, true_and, and_true, zj_85_3, zSg_5, zSg_7, zg_5_1, zgua_7, zm_ro, b4, zE83i, hD1]
      rw [e2]
      exact ih (k + 1) _ (by omega) (by omega)
    · rw [zcp_f (by omega)] at e2
      simp (maxSteps := 10000000) (disch := first | omega | (simp (disch := omega) only [zm_ue, zm_un, zm_ri, zm_ro] <;> omega) | fail) only [zr_iadd, zr_isub, zr_aload, zr_iload, zr_istore, zr_iinc, zr_goto, zr_fall, zr_getA, zr_iastore, zr_alen, zr_callV, Nat.reduceAdd, Nat.reduceLeDiff, Int.reduceLT, zcast, zt_23, zf_23, zKa_s, zKi_s, zO_s, zKr_s, zget_0, zget_s, zst1_0, zst1_1, zst1_s, zk1_i, zpop_0, zpop_s, zA_s, zw_id, zaB_v, zaI_v, zaX_v, List.length_cons, List.length_nil, true_and, and_true, zj_85_2, zj_85_3, zSg_5, zSg_7, zg_5_1, zgua_7, zm_ro, b4, zE83i, hD1]
      rw [e2]
      exact ih (k + 1) _ (by omega) (by omega)
theorem zE85 {S : zSs} {D n u : Nat} {g : Int → zk_K} {e : zm_D} {Q : ((Option zv_V) ⊕ Nat) → Nat → zk_S → zm_D → Nat → Prop} {x : Int} (hf : 0 ≤ e 5 4 ∧ e 5 4 ≤ e 5 5 ∧ e 5 5 ≤ 104) (hx : 1 ≤ x ∧ x < e 5 5 - e 5 4) (hD : 2 < D) : zE S D 85 [zv_a 5, zv_i x] n (zSg g) (zDg e) u Q ↔ Q (.inl none) n (zSg g) (zDg (zm_u (zm_u (zm_row (zm_row e 7 (e 5 5 - e 5 4) (fun k => e 6 (e 5 4 + zcp (e 5 5 - e 5 4) x k))) 6 (e 5 5 - e 5 4) (fun k => (zm_row e 7 (e 5 5 - e 5 4) (fun k => e 6 (e 5 4 + zcp (e 5 5 - e 5 4) x k))) 7 k)) 5 4 0) 5 5 (e 5 5 - e 5 4))) u := by
  have hD1 : 0 < D := by omega
  simp (maxSteps := 10000000) (disch := first | omega | (simp (disch := omega) only [zm_ue, zm_un, zm_ri, zm_ro] <;> omega) | fail) only [zr_iconst, zr_aload, zr_istore, zr_fall, zr_callV, Nat.reduceAdd, Nat.reduceLeDiff, Int.reduceLT, zKa_s, zKr_s, zget_0, zst1_0, zst1_1, zst1_s, zk1_i, zpop_0, zA_s, zaB_v, List.length_nil, true_and, and_true, ze_85, zSg_5, zE82, hD1]
  have h := @zL85 S D n u g e Q x hf hx hD (e 5 5 - e 5 4).toNat 0 none (by omega) (by omega)
  rw [zm_r0 (by omega)] at h
  exact h
