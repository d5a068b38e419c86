/-! ===== WHEEL: the wheel's methods ===== -/
set_option maxRecDepth 65536
theorem zaO_v {C : String} {N : Nat} : zaO (some (.inr (.object C, N))) = some (C, N) := rfl
def zwg (kd nm : Int) : Int := if (kd = 110 ∧ 0 ≤ nm ∧ nm ≤ 36) ∨ (kd = 100 ∧ 0 ≤ nm ∧ nm ≤ 2) ∨ kd = 114 ∨ kd = 98 then 1 else 0
def zrd (x : Int) : Int := if x ≠ 0 ∧ ((x % 2 = 1 ∧ ((1 ≤ x ∧ x ≤ 10) ∨ (19 ≤ x ∧ x ≤ 28))) ∨ (x % 2 = 0 ∧ ¬ ((1 ≤ x ∧ x ≤ 10) ∨ (19 ≤ x ∧ x ≤ 28)))) then 1 else 0
def zti (kd nm x : Int) : Int := if kd = 110 then (if nm = x then 35 else 0) else if kd = 100 then (if 12 * nm < x ∧ x ≤ 12 * nm + 12 then 2 else 0) else if x ≠ 0 ∧ ((zrd x = 1 ∧ kd = 114) ∨ (zrd x = 0 ∧ kd ≠ 114)) then 1 else 0
theorem zrd_b {x : Int} : zrd x = 0 ∨ zrd x = 1 := by unfold zrd; split <;> simp
theorem zE109 {S : zSs} {D n u : Nat} {sh : zk_S} {d : zm_D} {Q : ((Option zv_V) ⊕ Nat) → Nat → zk_S → zm_D → Nat → Prop} {k y : Int} (hk : 0 ≤ k ∧ k < 65536) (hn : -2147483648 ≤ y ∧ y < 2147483648) : zE S D 109 [zv_i k, zv_i y] n sh d u Q ↔ Q (.inl (some (zv_i (zwg k y)))) n sh d u := by
  rcases (by omega : (k = 110 ∧ 0 ≤ y ∧ y ≤ 36) ∨ (k = 110 ∧ y < 0) ∨ (k = 110 ∧ 36 < y) ∨ (k = 100 ∧ 0 ≤ y ∧ y ≤ 2) ∨ (k = 100 ∧ y < 0) ∨ (k = 100 ∧ 2 < y) ∨ k = 114 ∨ k = 98 ∨ (k ≠ 110 ∧ k ≠ 100 ∧ k ≠ 114 ∧ k ≠ 98)) with q | q | q | q | q | q | q | q | q
  all_goals first
    | rw [show zwg k y = 1 from if_pos (by omega)]
    | rw [show zwg k y = 0 from if_neg (by omega)]
  all_goals
    simp (maxSteps := 10000000) (disch := first | omega | (simp (disch := omega) only [zm_ue, zm_un, zm_ri, zm_ro] <;> omega) | fail) only [zr_iconst, zr_iload, zr_goto, zr_fall, zr_zret, Int.reduceEq, or_true, true_or, zt_16, zf_16, zt_20, zf_20, zt_21, zf_21, zt_24, zf_24, zKi_s, zget_0, zget_s, true_and, zj_109_1, zj_109_2, zj_109_3, zj_109_4, zj_109_5, zj_109_6, zj_109_7, zj_109_8, zj_109_9, ze_109s]
theorem zE110 {S : zSs} {D n u : Nat} {sh : zk_S} {d : zm_D} {Q : ((Option zv_V) ⊕ Nat) → Nat → zk_S → zm_D → Nat → Prop} {x : Int} (hx : 0 ≤ x ∧ x ≤ 36) : zE S D 110 [zv_i x] n sh d u Q ↔ Q (.inl (some (zv_i (zrd x)))) n sh d u := by
  rcases (by omega : x = 0 ∨ (1 ≤ x ∧ x ≤ 10) ∨ (11 ≤ x ∧ x ≤ 18) ∨ (19 ≤ x ∧ x ≤ 28) ∨ 29 ≤ x) with q | q | q | q | q
  all_goals rcases (by omega : x % 2 = 0 ∨ x % 2 = 1) with p | p
  all_goals first
    | (exfalso; omega)
    | rw [show zrd x = 1 from if_pos (by omega)]
    | rw [show zrd x = 0 from if_neg (by omega)]
  all_goals
    simp (maxSteps := 10000000) (disch := first | omega | (simp (disch := omega) only [zm_ue, zm_un, zm_ri, zm_ro] <;> omega) | fail) only [zr_irem, zr_iconst, zr_iload, zr_istore, zr_goto, zr_fall, zr_zret, Nat.reduceAdd, Int.reduceEq, ne_eq, or_true, true_or, not_false_eq_true, zt_14, zf_14, zt_21, zf_21, zt_22, zf_22, zt_24, zf_24, zt_25, zf_25, zKi_s, zget_0, zget_s, zst1_0, zst1_1, zst1_s, zk1_i, zw_id, true_and, zj_110_1, zj_110_2, zj_110_3, zj_110_4, zj_110_5, zj_110_6, zj_110_7, zj_110_8, ze_110s, ztmx]
theorem zE111 {S : zSs} {D n u : Nat} {sh : zk_S} {d : zm_D} {Q : ((Option zv_V) ⊕ Nat) → Nat → zk_S → zm_D → Nat → Prop} {k y x : Int} (hk : 0 ≤ k ∧ k < 65536) (hn : (k = 110 ∨ k = 100) → -1000 ≤ y ∧ y ≤ 1000000) (hx : 0 ≤ x ∧ x ≤ 36) (hD : 0 < D) : zE S D 111 [zv_i k, zv_i y, zv_i x] n sh d u Q ↔ Q (.inl (some (zv_i (zti k y x)))) n sh d u := by
  by_cases c1 : k = 110
  · have hn := hn (Or.inl c1)
    by_cases c2 : y = x
    · rw [show zti k y x = 35 by unfold zti; rw [if_pos c1, if_pos c2]]
      simp (maxSteps := 10000000) (disch := first | omega | (simp (disch := omega) only [zm_ue, zm_un, zm_ri, zm_ro] <;> omega) | fail) only [zr_iconst, zr_iload, zr_goto, zr_iret, zf_21, zKi_s, zget_0, zget_s, zj_111_2, ze_111s]
    · rw [show zti k y x = 0 by unfold zti; rw [if_pos c1, if_neg c2]]
      simp (maxSteps := 10000000) (disch := first | omega | (simp (disch := omega) only [zm_ue, zm_un, zm_ri, zm_ro] <;> omega) | fail) only [zr_iconst, zr_iload, zr_fall, zr_iret, zt_21, zf_21, zKi_s, zget_0, zget_s, zj_111_1, zj_111_2, ze_111s]
  · by_cases c2 : k = 100
    · have hn := hn (Or.inr c2)
      by_cases c3 : 12 * y < x
      · by_cases c4 : x ≤ 12 * y + 12
        · rw [show zti k y x = 2 by unfold zti; rw [if_neg c1, if_pos c2, if_pos ⟨c3, c4⟩]]
          simp (maxSteps := 10000000) (disch := first | omega | (simp (disch := omega) only [zm_ue, zm_un, zm_ri, zm_ro] <;> omega) | fail) only [zr_iadd, zr_imul, zr_iconst, zr_iload, zr_goto, zr_iret, zt_21, zf_21, zf_24, zf_25, zKi_s, zget_0, zget_s, zj_111_3, zj_111_5, ze_111s]
        · rw [show zti k y x = 0 by unfold zti; rw [if_neg c1, if_pos c2, if_neg (fun z => c4 z.2)]]
          simp (maxSteps := 10000000) (disch := first | omega | (simp (disch := omega) only [zm_ue, zm_un, zm_ri, zm_ro] <;> omega) | fail) only [zr_iadd, zr_imul, zr_iconst, zr_iload, zr_fall, zr_iret, zt_21, zf_21, zt_24, zf_25, zKi_s, zget_0, zget_s, zj_111_3, zj_111_4, zj_111_5, ze_111s]
      · rw [show zti k y x = 0 by unfold zti; rw [if_neg c1, if_pos c2, if_neg (fun z => c3 z.1)]]
        simp (maxSteps := 10000000) (disch := first | omega | (simp (disch := omega) only [zm_ue, zm_un, zm_ri, zm_ro] <;> omega) | fail) only [zr_imul, zr_iconst, zr_iload, zr_fall, zr_iret, zt_21, zf_21, zt_25, zKi_s, zget_0, zget_s, zj_111_3, zj_111_4, zj_111_5, ze_111s]
    · clear hn
      by_cases c3 : x = 0
      · rw [show zti k y x = 0 by unfold zti; rw [if_neg c1, if_neg c2, if_neg (fun z => z.1 c3)]]
        simp (maxSteps := 10000000) (disch := first | omega | (simp (disch := omega) only [zm_ue, zm_un, zm_ri, zm_ro] <;> omega) | fail) only [zr_iconst, zr_iload, zr_fall, zr_iret, zt_14, zt_21, zKi_s, zget_0, zget_s, zj_111_3, zj_111_6, zj_111_9, zj_111_10, ze_111s]
      · have r1 := fun {S D n u sh d Q} => @zE110 S D n u sh d Q x hx
        rcases @zrd_b x with c4 | c4
        all_goals rw [c4] at r1
        all_goals by_cases c5 : k = 114
        all_goals first
          | rw [show zti k y x = 1 by unfold zti; rw [if_neg c1, if_neg c2, if_pos (by omega)]]
          | rw [show zti k y x = 0 by unfold zti; rw [if_neg c1, if_neg c2, if_neg (by omega)]]
        all_goals
          simp (maxSteps := 10000000) (disch := first | omega | (simp (disch := omega) only [zm_ue, zm_un, zm_ri, zm_ro] <;> omega) | fail) only [zr_iconst, zr_iload, zr_goto, zr_fall, zr_iret, zr_callS, Nat.reduceLeDiff, zf_14, zt_21, zf_21, zKi_s, zKp_s, zget_0, zget_s, zpop_0, zpop_s, zA_s, List.length_nil, true_and, and_true, zj_111_3, zj_111_6, zj_111_7, zj_111_8, zj_111_9, zj_111_10, ze_111s, r1, hD]
theorem zE112t {S : zSs} {D n u : Nat} {g : Int → zk_K} {e : zm_D} {Q : ((Option zv_V) ⊕ Nat) → Nat → zk_S → zm_D → Nat → Prop} (h : e 53 5 = 10) : zE S D 112 [zv_a 53] n (zSg g) (zDg e) u Q ↔ Q (.inl (some (zv_i (1)))) n (zSg g) (zDg e) u := by
  simp (maxSteps := 10000000) (disch := first | omega | (simp (disch := omega) only [zm_ue, zm_un, zm_ri, zm_ro] <;> omega) | fail) only [zr_iconst, zr_aload, zr_goto, zr_getI, zr_zret, Int.reduceLT, Int.reduceEq, or_true, zf_22, zKa_s, zget_0, zaB_v, true_and, and_true, zj_112_2, ze_112, zSg_53, zg_53_5]
theorem zE112f {S : zSs} {D n u : Nat} {g : Int → zk_K} {e : zm_D} {Q : ((Option zv_V) ⊕ Nat) → Nat → zk_S → zm_D → Nat → Prop} (h : 0 ≤ e 53 5 ∧ e 53 5 < 10) : zE S D 112 [zv_a 53] n (zSg g) (zDg e) u Q ↔ Q (.inl (some (zv_i (0)))) n (zSg g) (zDg e) u := by
  simp (maxSteps := 10000000) (disch := first | omega | (simp (disch := omega) only [zm_ue, zm_un, zm_ri, zm_ro] <;> omega) | fail) only [zr_iconst, zr_aload, zr_fall, zr_getI, zr_zret, Int.reduceLT, Int.reduceEq, true_or, zt_22, zKa_s, zget_0, zaB_v, true_and, and_true, zj_112_1, zj_112_2, ze_112, zSg_53, zg_53_5]
def zwa (e : zm_D) (p k y x : Int) : zm_D := zm_u (zm_u (zm_u (zm_u (zm_u e 54 (e 53 5) p) 55 (e 53 5) k) 56 (e 53 5) y) 57 (e 53 5) x) 53 5 (e 53 5 + 1)
theorem zoc_G {g : Int → zk_K} {x : Int} (h : zGr x) : x = 0 ∨ (0 < x ∧ zoc (zSg g x) (zcn 2) = true) := by
  rcases h with h | ⟨i, hi, h⟩
  · exact Or.inl h
  · refine Or.inr ⟨by omega, ?_⟩
    rw [h, zSF_G hi]
    decide +kernel
theorem zE113 {S : zSs} {D n u : Nat} {g : Int → zk_K} {e : zm_D} {Q : ((Option zv_V) ⊕ Nat) → Nat → zk_S → zm_D → Nat → Prop} {p k y x : Int} (h : 0 ≤ e 53 5 ∧ e 53 5 < 10) (hp : zGr p) (hk : 0 ≤ k ∧ k < 65536) : zE S D 113 [zv_a 53, zv_a p, zv_i k, zv_i y, zv_i x] n (zSg g) (zDg e) u Q ↔ Q (.inl none) n (zSg g) (zDg (zwa e p k y x)) u := by
  have ho := @zoc_G g p hp
  unfold zwa
  simp (maxSteps := 10000000) (disch := first | omega | (simp (disch := omega) only [zm_ue, zm_un, zm_ri, zm_ro] <;> omega) | fail) only [zr_iadd, zr_iconst, zr_aload, zr_iload, zr_fall, zr_dup_a, zr_getI, zr_getA, zr_putI, zr_iastore, zr_castore, zr_aastore, zr_vret, Nat.reduceLeDiff, Int.reduceLT, zcast, zf_16, zf_23, zKa_s, zKi_s, zO_s, zget_0, zget_s, zw_id, zm_un, zaB_v, zaI_v, zaC_v, true_and, and_true, zj_113_1, ze_113, zSg_53, zSg_54, zSg_55, zSg_56, zSg_57, zg_53_1, zg_53_2, zg_53_3, zg_53_4, zg_53_5, zgu_53_5, zgua_54, zgua_55, zgua_56, zgua_57, zaO_v, h, hk, ho]
