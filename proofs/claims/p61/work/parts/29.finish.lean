/-! ===== FINISH: the dealer draws, the round is settled ===== -/
set_option maxRecDepth 65536
def zdc (e : zm_D) : Int := zda (zhv (e 36 3) (e 36 2)) (zsf (e 36 3) (e 36 2)) (e 34 7)
/-- the dealer's draws -/
def zdra : Nat → zm_D → zm_D
  | 0, e => e
  | f + 1, e => if zdc e = 1 ∧ e 5 4 < e 5 5 then zdra f (zad (ztk e) 36 37 (e 6 (e 5 4))) else e
theorem zdra_t {f : Nat} {e : zm_D} (h : zdc e = 1 ∧ e 5 4 < e 5 5) : zdra (f + 1) e = zdra f (zad (ztk e) 36 37 (e 6 (e 5 4))) := if_pos h
theorem zdra_f {f : Nat} {e : zm_D} (h : ¬ (zdc e = 1 ∧ e 5 4 < e 5 5)) : zdra (f + 1) e = e := if_neg h
theorem zdc_b {e : zm_D} : zdc e = 0 ∨ zdc e = 1 := by unfold zdc zda; split <;> simp
theorem zdc_h {e : zm_D} (h : 18 ≤ e 36 2) : zdc e = 0 := by
  have := @zhv_r (e 36 3) (e 36 2)
  exact if_neg (by omega)
theorem zdc_1 {e : zm_D} (h : zdc e = 1) : e 36 2 ≤ 17 := by
  rcases Classical.em (18 ≤ e 36 2) with q | q
  · rw [zdc_h q] at h
    exact absurd h (by decide)
  · omega
/-- what the dealer's draws need of the memory -/
def zDC (e : zm_D) : Prop := (0 ≤ e 5 4 ∧ e 5 4 ≤ e 5 5 ∧ e 5 5 ≤ 104) ∧ (∀ i : Int, e 5 4 ≤ i → i < e 5 5 → 1 ≤ e 6 i ∧ e 6 i ≤ 10) ∧ (0 ≤ e 36 1 ∧ e 36 1 ≤ e 36 2 ∧ e 36 1 ≤ 18) ∧ (0 ≤ e 36 2 ∧ e 36 2 ≤ 500) ∧ (0 ≤ e 36 3 ∧ e 36 3 ≤ 1) ∧ (0 ≤ e 34 7 ∧ e 34 7 ≤ 1)
theorem zDC_s {e : zm_D} (h : zDC e) (hl : e 5 4 < e 5 5) (hs : e 36 2 ≤ 17) : zDC (zad (ztk e) 36 37 (e 6 (e 5 4))) := by
  obtain ⟨h1, h2, h3, h4, h5, h6⟩ := h
  have hc := h2 (e 5 4) (Int.le_refl _) hl
  have z1 : zad (ztk e) 36 37 (e 6 (e 5 4)) 5 4 = e 5 4 + 1 := (zad_o (by decide) (by decide)).trans ztk_4
  have z2 : zad (ztk e) 36 37 (e 6 (e 5 4)) 5 5 = e 5 5 := (zad_o (by decide) (by decide)).trans (ztk_k (by decide))
  have z3 : ∀ i, zad (ztk e) 36 37 (e 6 (e 5 4)) 6 i = e 6 i := fun i => (zad_o (by decide) (by decide)).trans (ztk_o (by decide) (by decide))
  have z4 : zad (ztk e) 36 37 (e 6 (e 5 4)) 36 1 = e 36 1 + 1 := zad_1.trans (by rw [ztk_o (by decide) (by decide)])
  have z5 : zad (ztk e) 36 37 (e 6 (e 5 4)) 36 2 = e 36 2 + e 6 (e 5 4) := zad_2.trans (by rw [ztk_o (by decide) (by decide)])
  have z6 : zad (ztk e) 36 37 (e 6 (e 5 4)) 36 3 = zor (e 36 3) (e 6 (e 5 4)) := zad_3.trans (by rw [ztk_o (by decide) (by decide)])
  have z7 : zad (ztk e) 36 37 (e 6 (e 5 4)) 34 7 = e 34 7 := (zad_o (by decide) (by decide)).trans (ztk_o (by decide) (by decide))
  have z8 := @zor_b (e 36 3) (e 6 (e 5 4))
  unfold zDC
  rw [z1, z2, z4, z5, z6, z7]
  refine ⟨by omega, fun i q1 q2 => ?_, by omega, by omega, z8, h6⟩
  rw [z3]
  exact h2 i (by omega) q2
theorem zL12 {S : zSs} {D n u : Nat} {g : Int → zk_K} {Q : ((Option zv_V) ⊕ Nat) → Nat → zk_S → zm_D → Nat → Prop} {X3 X4 X5 : Option zv_V} (hD : 3 < D) : ∀ (f : Nat) (e : zm_D) (i : Int), zDC e → 0 ≤ i → i + f ≤ 103 → 18 ≤ e 36 2 + f → (zJ S D 12 6 [some (zv_a 34), some (zv_i 1), some (zv_i i), X3, X4, X5] [] n (zSg g) (zDg e) u Q ↔ Q (.inl none) n (zSg g) (zDg (zdra f e)) u) := by
  have hD1 : 0 < D := by omega
  intro f
  induction f with
  | zero =>
    intro e i hc h0 h1 h2
    obtain ⟨c1, c2, c3, c4, c5, c6⟩ := hc
    have hz : zdc e = 0 := zdc_h (by omega)
    have r1 : ∀ {S : zSs} {n u : Nat} {g : Int → zk_K} {Q : ((Option zv_V) ⊕ Nat) → Nat → zk_S → zm_D → Nat → Prop}, zE S (D - 1) 13 [zv_a 34] n (zSg g) (zDg e) u Q ↔ Q (.inl (some (zv_i (zdc e)))) n (zSg g) (zDg e) u := fun {S n u g Q} => zE13 ⟨c4.1, by omega⟩ c5 c6 (by omega)
    rw [hz] at r1
    rw [zj_12_6]
    simp (maxSteps := 10000000) (disch := first | omega | (simp (disch := omega) only [zm_ue, zm_un, zm_ri, zm_ro] <;> omega) | fail) only [zr_iconst, zr_aload, zr_iload, zr_vret, zr_callV, Nat.reduceLeDiff, Int.reduceLT, zt_14, zf_14, zf_23, zKa_s, zKi_s, zKr_s, zget_0, zget_s, zpop_0, zA_s, zaB_v, List.length_nil, true_and, and_true, zj_12_7, zSg_34, r1, hD1, zSg_34]
    exact Iff.rfl
  | succ f ih =>
    intro e i hc h0 h1 h2
    have hc2 := hc
    obtain ⟨c1, c2, c3, c4, c5, c6⟩ := hc
    have r1 : ∀ {S : zSs} {n u : Nat} {g : Int → zk_K} {Q : ((Option zv_V) ⊕ Nat) → Nat → zk_S → zm_D → Nat → Prop}, zE S (D - 1) 13 [zv_a 34] n (zSg g) (zDg e) u Q ↔ Q (.inl (some (zv_i (zdc e)))) n (zSg g) (zDg e) u := fun {S n u g Q} => zE13 ⟨c4.1, by omega⟩ c5 c6 (by omega)
    have r2 := fun {S D n u g Q} => @zE82 S D n u g e Q
    rw [zj_12_6]
    rcases @zdc_b e with hz | hz
    · rw [zdra_f (by omega)]
      rw [hz] at r1
      simp (maxSteps := 10000000) (disch := first | omega | (simp (disch := omega) only [zm_ue, zm_un, zm_ri, zm_ro] <;> omega) | fail) only [zr_iconst, zr_aload, zr_iload, zr_vret, zr_callV, Nat.reduceLeDiff, Int.reduceLT, zt_14, zf_14, zf_23, zKa_s, zKi_s, zKr_s, zget_0, zget_s, zpop_0, zA_s, zaB_v, List.length_nil, true_and, and_true, zj_12_7, zSg_34, r1, hD1, zSg_34]
    · have hs := zdc_1 hz
      rw [hz] at r1
      by_cases hl : e 5 4 < e 5 5
      · have hcd := c2 (e 5 4) (Int.le_refl _) hl
        have t1 : ztk e 36 1 = e 36 1 := ztk_o (by decide) (by decide)
        have t2 : ztk e 36 2 = e 36 2 := ztk_o (by decide) (by decide)
        have t3 : ztk e 36 3 = e 36 3 := ztk_o (by decide) (by decide)
        have r3 := fun {S n u g Q} => @zE90k S (D - 1) n u g e Q c1 hl hcd (by omega)
        have r4 := fun {S D n u g Q} => @zE34k S D n u g (ztk e) Q 36 37 zHd_36 (e 6 (e 5 4)) (by unfold zB2; omega) (by omega) (by unfold zB2; omega) (by omega)
        have z5 : zad (ztk e) 36 37 (e 6 (e 5 4)) 36 2 = e 36 2 + e 6 (e 5 4) := zad_2.trans (by rw [t2])
        rw [zdra_t ⟨hz, hl⟩]
        simp (maxSteps := 10000000) (disch := first | omega | (simp (disch := omega) only [zm_ue, zm_un, zm_ri, zm_ro] <;> omega) | fail) only [zr_iconst, zr_aload, zr_iload, zr_iinc, zr_goto, zr_getA, zr_callV, Nat.reduceAdd, Nat.reduceLeDiff, Int.reduceLT, zf_14, zf_19, zf_23, zKa_s, zKi_s, zKr_s, zget_0, zget_s, zst1_0, zst1_1, zst1_s, zk1_i, zpop_0, zpop_s, zA_s, zA_n, zaB_v, List.length_cons, List.length_nil, true_and, and_true, zSg_34, zg_34_0, zg_34_3, r1, r2, r3, r4, hD1, zSg_34, zSg_5, zSg_36]
        exact ih _ (i + 1) (zDC_s hc2 hl hs) (by omega) (by omega) (by omega)
      · rw [zdra_f (by omega)]
        simp (maxSteps := 10000000) (disch := first | omega | (simp (disch := omega) only [zm_ue, zm_un, zm_ri, zm_ro] <;> omega) | fail) only [zr_iconst, zr_aload, zr_iload, zr_getA, zr_vret, zr_callV, Nat.reduceLeDiff, Int.reduceLT, zf_14, zt_19, zf_23, zKa_s, zKi_s, zKr_s, zget_0, zget_s, zpop_0, zA_s, zaB_v, List.length_nil, true_and, and_true, zj_12_7, zSg_34, zg_34_0, r1, r2, hD1, zSg_34, zSg_5]
def znq (e : zm_D) (q h k : Int) : Int := if 0 < e h 4 + e k 4 ∧ zsn (e q 3) (e h 1) (e h 3) (e h 2) = 0 then 1 else 0
theorem znq_b {e : zm_D} {q h k : Int} : znq e q h k = 0 ∨ znq e q h k = 1 := by unfold znq; split <;> simp
theorem zE76 {S : zSs} {D n u : Nat} {g : Int → zk_K} {e : zm_D} {Q : ((Option zv_V) ⊕ Nat) → Nat → zk_S → zm_D → Nat → Prop} {q h c k b : Int} (H : zSe q h c k b) (hk : zB2 (e h 4 + e k 4)) (hm : 0 ≤ e h 2 ∧ e h 2 ≤ 1000) (hz : 0 ≤ e h 3 ∧ e h 3 ≤ 1) (hs : 0 ≤ e h 1 ∧ e h 1 ≤ 22) (h3 : 0 ≤ e q 3 ∧ e q 3 ≤ 1) (hD : 2 < D) : zE S D 76 [zv_a q] n (zSg g) (zDg e) u Q ↔ Q (.inl (some (zv_i (znq e q h k)))) n (zSg g) (zDg e) u := by
  have hm2 : zB2 (e h 2) := by unfold zB2; omega
  have h32 : e q 3 = 0 ∨ e q 3 = 1 := by omega
  by_cases c1 : 0 < e h 4 + e k 4
  · rcases @zsn_b (e q 3) (e h 1) (e h 3) (e h 2) with c2 | c2
    · rw [show znq e q h k = 1 from if_pos ⟨c1, c2⟩]
      exact zE76t H hk hm2 hz hs h32 hD c1 c2
    · rw [show znq e q h k = 0 from if_neg (by omega)]
      exact zE76n H hk hm2 hz hs h32 hD c1 c2
  · rw [show znq e q h k = 0 from if_neg (by omega)]
    exact zE76f H hk (by omega) hD
def znd (e : zm_D) : Int := if znq e 38 39 41 = 1 ∨ znq e 43 44 46 = 1 ∨ znq e 48 49 51 = 1 then 1 else 0
def zdd (e : zm_D) : zm_D := if znd e = 1 then zdra 18 e else e
theorem zE12 {S : zSs} {D n u : Nat} {g : Int → zk_K} {e : zm_D} {Q : ((Option zv_V) ⊕ Nat) → Nat → zk_S → zm_D → Nat → Prop} (HO : zHO e) (hc : zDC e) (hb0 : 0 ≤ e 38 3 ∧ e 38 3 ≤ 1) (hb1 : 0 ≤ e 43 3 ∧ e 43 3 ≤ 1) (hb2 : 0 ≤ e 48 3 ∧ e 48 3 ≤ 1) (hD : 3 < D) : zE S D 12 [zv_a 34] n (zSg g) (zDg e) u Q ↔ Q (.inl none) n (zSg g) (zDg (zdd e)) u := by
  obtain ⟨⟨a1, a2, a3, a4, a5, a6⟩, ⟨b1, b2, b3, b4, b5, b6⟩, ⟨c1, c2, c3, c4, c5, c6⟩, ⟨d1, d2, d3, d4, d5, d6⟩, ⟨i1, i2, i3, i4, i5, i6⟩, ⟨j1, j2, j3, j4, j5, j6⟩⟩ := HO
  have hD1 : 0 < D := by omega
  have h36 := hc.2.2.2.1
  have r0 := fun {S n u g Q} => @zE76 S (D - 1) n u g e Q 38 39 40 41 42 zSe_38 (by unfold zB2; omega) (by omega) (by omega) (by omega) (by omega) (by omega)
  have r1 := fun {S n u g Q} => @zE76 S (D - 1) n u g e Q 43 44 45 46 47 zSe_43 (by unfold zB2; omega) (by omega) (by omega) (by omega) (by omega) (by omega)
  have r2 := fun {S n u g Q} => @zE76 S (D - 1) n u g e Q 48 49 50 51 52 zSe_48 (by unfold zB2; omega) (by omega) (by omega) (by omega) (by omega) (by omega)
  rcases @znq_b e 38 39 41 with q0 | q0
  all_goals rcases @znq_b e 43 44 46 with q1 | q1
  all_goals rcases @znq_b e 48 49 51 with q2 | q2
  all_goals rw [q0] at r0
  all_goals rw [q1] at r1
  all_goals rw [q2] at r2
  all_goals first
    | rw [show zdd e = e by unfold zdd; rw [if_neg (by unfold znd; rw [if_neg (by omega)]; decide)]]
    | rw [show zdd e = zdra 18 e by unfold zdd; rw [if_pos (by unfold znd; rw [if_pos (by omega)])]]
  all_goals
    simp (maxSteps := 10000000) (disch := first | omega | (simp (disch := omega) only [zm_ue, zm_un, zm_ri, zm_ro] <;> omega) | fail) only [zr_iconst, zr_aload, zr_iload, zr_astore, zr_istore, zr_iinc, zr_goto, zr_fall, zr_getA, zr_aaload, zr_alen, zr_callV, Nat.reduceAdd, Nat.reduceLeDiff, Int.reduceAdd, Int.reduceMul, Int.reduceLT, Int.reduceLE, zcast, zt_14, zf_14, zt_15, zf_15, zt_23, zf_23, zKa_s, zKi_s, zO_s, zKr_s, zget_0, zget_s, zst1_0, zst1_1, zst1_s, zk1_i, zk1_a, zpop_0, zA_s, zw_id, zaB_v, zaR_ov, zaX_v, List.length_nil, true_and, and_true, zj_12_1, zj_12_2, zj_12_3, zj_12_4, zj_12_5, ze_12, zSg_34, zSg_35, zg_34_2, zR_35, r0, r1, r2, hD1, zSg_34, zSg_38, zSg_43, zSg_48]
  all_goals first
    | exact zL12 hD 18 e 0 hc (by decide) (by decide) (by omega)
    | (rw [zj_12_6]
       simp (maxSteps := 10000000) (disch := first | omega | (simp (disch := omega) only [zm_ue, zm_un, zm_ri, zm_ro] <;> omega) | fail) only [zr_iconst, zr_iload, zr_vret, zt_14, zf_23, zKi_s, zget_0, zget_s, zj_12_7])
