/-! ===== SETTLE: a hand settled, given up ===== -/
set_option maxRecDepth 65536
def zgn (e : zm_D) (q h z : Int) : Int := if zsn (e q 3) (e h 1) (e h 3) (e h 2) = 1 then (if znt (e 36 1) (e 36 3) (e 36 2) = 1 then 0 else if e 34 8 = 1 then e z 4 * 6 / 5 else e z 4 * 3 / 2) else if 21 < zhv (e 36 3) (e 36 2) ∨ zhv (e 36 3) (e 36 2) < zhv (e z 3) (e z 2) then e z 4 else if zhv (e z 3) (e z 2) = zhv (e 36 3) (e 36 2) then 0 else -1
def zgm (e : zm_D) (q h z : Int) : zm_D := if zsn (e q 3) (e h 1) (e h 3) (e h 2) = 1 ∧ znt (e 36 1) (e 36 3) (e 36 2) = 0 then (if e 34 8 = 1 then zm_u e 34 9 (e 34 9 + e z 4 * 6 % 5 * 2) else zm_u e 34 9 (e 34 9 + e z 4 * 3 % 2 * 5)) else e
def zpo (e : zm_D) (t x : Int) : zm_D := zm_u (zm_u (zm_u e 4 0 (e 4 0 - zlk x (e t 1))) t 3 (e t 3 + zlk x (e t 1))) t 1 (e t 1 + zlk x (e t 1) - x)
theorem zgm_o {e : zm_D} {q h z a k : Int} (h1 : a ≠ 34) : zgm e q h z a k = e a k := by
  unfold zgm
  repeat' split
  all_goals first | rfl | exact zm_un (Or.inl h1)
theorem zpo_o {e : zm_D} {t x a k : Int} (h1 : a ≠ 4) (h2 : a ≠ t) : zpo e t x a k = e a k := (zm_un (Or.inl h2)).trans ((zm_un (Or.inl h2)).trans (zm_un (Or.inl h1)))
theorem zsn_b {sp k a s : Int} : zsn sp k a s = 0 ∨ zsn sp k a s = 1 := by
  unfold zsn znt
  repeat' split
  all_goals simp
theorem znt_c {k a s : Int} : znt k a s = 0 ∨ znt k a s = 1 := by unfold znt; split <;> simp
theorem zE15 {S : zSs} {D n u : Nat} {g : Int → zk_K} {e : zm_D} {Q : ((Option zv_V) ⊕ Nat) → Nat → zk_S → zm_D → Nat → Prop} {q h c k b z y : Int} (H : zSe q h c k b) (HZ : zHd z y) (hm : 0 ≤ e h 2 ∧ e h 2 ≤ 1000) (hz : 0 ≤ e h 3 ∧ e h 3 ≤ 1) (hs : 0 ≤ e h 1 ∧ e h 1 ≤ 22) (h3 : 0 ≤ e q 3 ∧ e q 3 ≤ 1) (dm : 0 ≤ e 36 2 ∧ e 36 2 ≤ 1000) (dz : 0 ≤ e 36 3 ∧ e 36 3 ≤ 1) (ds : 0 ≤ e 36 1 ∧ e 36 1 ≤ 22) (zm : 0 ≤ e z 2 ∧ e z 2 ≤ 1000) (zz : 0 ≤ e z 3 ∧ e z 3 ≤ 1) (z4 : 0 ≤ e z 4 ∧ e z 4 ≤ 100000) (h8 : 0 ≤ e 34 8 ∧ e 34 8 ≤ 1) (hD : 2 < D) : zE S D 15 [zv_a 34, zv_a q, zv_a z] n (zSg g) (zDg e) u Q ↔ Q (.inl (some (zv_i (zgn e q h z)))) n (zSg g) (zDg (zgm e q h z)) u := by
  rcases @zsn_b (e q 3) (e h 1) (e h 3) (e h 2) with hn | hn
  · rw [show zgm e q h z = e from if_neg (fun w => by omega)]
    by_cases hw : 21 < zhv (e 36 3) (e 36 2) ∨ zhv (e 36 3) (e 36 2) < zhv (e z 3) (e z 2)
    · rw [show zgn e q h z = e z 4 by unfold zgn; rw [if_neg (by omega), if_pos hw]]
      exact zE15_w H HZ hm hz hs h3 dm dz ds zm zz z4 hD hn hw
    · by_cases he : zhv (e z 3) (e z 2) = zhv (e 36 3) (e 36 2)
      · rw [show zgn e q h z = 0 by unfold zgn; rw [if_neg (by omega), if_neg hw, if_pos he]]
        exact zE15_e H HZ hm hz hs h3 dm dz ds zm zz z4 hD hn (by omega) he
      · rw [show zgn e q h z = -1 by unfold zgn; rw [if_neg (by omega), if_neg hw, if_neg he]]
        exact zE15_l H HZ hm hz hs h3 dm dz ds zm zz z4 hD hn (by omega) (by omega)
  · rcases @znt_c (e 36 1) (e 36 3) (e 36 2) with hd | hd
    · by_cases h9 : e 34 8 = 1
      · rw [show zgm e q h z = _ from (if_pos ⟨hn, hd⟩).trans (if_pos h9), show zgn e q h z = e z 4 * 6 / 5 by unfold zgn; rw [if_pos hn, if_neg (by omega), if_pos h9]]
        exact zE15_6 H HZ hm hz hs h3 dm dz ds zm zz z4 hD hn hd h9
      · rw [show zgm e q h z = _ from (if_pos ⟨hn, hd⟩).trans (if_neg h9), show zgn e q h z = e z 4 * 3 / 2 by unfold zgn; rw [if_pos hn, if_neg (by omega), if_neg h9]]
        exact zE15_3 H HZ hm hz hs h3 dm dz ds zm zz z4 hD hn hd (by omega)
    · rw [show zgm e q h z = e from if_neg (fun w => by omega), show zgn e q h z = 0 by unfold zgn; rw [if_pos hn, if_pos hd]]
      exact zE15_d H HZ hm hz hs h3 dm dz ds zm zz z4 hD hn hd
theorem zgn_b {e : zm_D} {q h z : Int} (z4 : 0 ≤ e z 4 ∧ e z 4 ≤ 100000) : -1 ≤ zgn e q h z ∧ zgn e q h z ≤ 150000 := by
  unfold zgn
  repeat' split
  all_goals omega
/-- a hand's stake settled behind the round -/
def zstl (e : zm_D) (q h z : Int) : zm_D := if e q 2 = 0 ∨ e z 4 = 0 then e else if zgn e q h z < 0 then zm_u (zse (zgm e q h z) z) 31 1 (e 31 1 + e z 4) else zm_u (zpo (zse (zgm e q h z) z) 31 (zgn e q h z)) (e q 2) 2 (e (e q 2) 2 + (e z 4 + zgn e q h z))
theorem zE14_0 {S : zSs} {D n u : Nat} {g : Int → zk_K} {e : zm_D} {Q : ((Option zv_V) ⊕ Nat) → Nat → zk_S → zm_D → Nat → Prop} {q h c k b z y : Int} (H : zSe q h c k b) (HZ : zHd z y) (h0 : e q 2 = 0) : zE S D 14 [zv_a 34, zv_a q, zv_a z] n (zSg g) (zDg e) u Q ↔ Q (.inl none) n (zSg g) (zDg e) u := by
  have H2 := H
  have HZ2 := HZ
  obtain ⟨⟨p1, q1, d1, d2, d3, d4, d5, d6, d7, d8⟩, A, B, s1, f0, f1, f2, f3, u2, u3⟩ := H
  obtain ⟨⟨pz1, qz1, pz2, qz2, pz3⟩, sz1, sz2, fz0, fz1, fz2, uz1, uz2⟩ := HZ
  simp (maxSteps := 10000000) (disch := first | omega | (simp (disch := omega) only [zm_ue, zm_un, zm_ri, zm_ro] <;> omega) | fail) only [zr_aload, zr_astore, zr_in26, zr_getI, zr_getA, zr_vret, Nat.reduceAdd, reduceIte, zKa_s, zget_0, zget_s, zst1_0, zst1_1, zst1_s, zk1_a, zaB_v, true_and, and_true, zj_14_1, ze_14, s1, p1, f2, h0]
theorem zE14_s {S : zSs} {D n u : Nat} {g : Int → zk_K} {e : zm_D} {Q : ((Option zv_V) ⊕ Nat) → Nat → zk_S → zm_D → Nat → Prop} {q h c k b z y : Int} (H : zSe q h c k b) (HZ : zHd z y) {i : Int} (hi : 0 ≤ i ∧ i < 8) (h0 : e q 2 = 15 + 2 * i) (z4 : e z 4 = 0) : zE S D 14 [zv_a 34, zv_a q, zv_a z] n (zSg g) (zDg e) u Q ↔ Q (.inl none) n (zSg g) (zDg e) u := by
  have hn : (15 + 2 * i = 0) = False := by simp; omega
  have H2 := H
  have HZ2 := HZ
  obtain ⟨⟨p1, q1, d1, d2, d3, d4, d5, d6, d7, d8⟩, A, B, s1, f0, f1, f2, f3, u2, u3⟩ := H
  obtain ⟨⟨pz1, qz1, pz2, qz2, pz3⟩, sz1, sz2, fz0, fz1, fz2, uz1, uz2⟩ := HZ
  have z5 : ∀ e, zDg e z 4 = e z 4 := fun e => fz1 e 4 (by decide) (by decide)
  simp (maxSteps := 10000000) (disch := first | omega | (simp (disch := omega) only [zm_ue, zm_un, zm_ri, zm_ro] <;> omega) | fail) only [zr_aload, zr_astore, zr_in26, zr_fall, zr_getI, zr_getA, zr_vret, Nat.reduceAdd, reduceIte, zf_15, zKa_s, zget_0, zget_s, zst1_0, zst1_1, zst1_s, zk1_a, zaB_v, true_and, and_true, zj_14_1, ze_14, s1, p1, f2, h0, hn, z5, sz1, pz1]
theorem zE14 {S : zSs} {D n u : Nat} {g : Int → zk_K} {e : zm_D} {Q : ((Option zv_V) ⊕ Nat) → Nat → zk_S → zm_D → Nat → Prop} {q h c k b z y : Int} (H : zSe q h c k b) (HZ : zHd z y) (hq : z ≠ 34 ∧ z ≠ 31 ∧ z ≠ 4 ∧ (∀ i : Int, z ≠ 15 + 2 * i ∨ i < 0 ∨ 7 < i)) {i : Int} (hi : 0 ≤ i ∧ i < 8) (h0 : e q 2 = 15 + 2 * i) (z0 : e z 4 ≠ 0) (hm : 0 ≤ e h 2 ∧ e h 2 ≤ 1000) (hz : 0 ≤ e h 3 ∧ e h 3 ≤ 1) (hs : 0 ≤ e h 1 ∧ e h 1 ≤ 22) (h3 : 0 ≤ e q 3 ∧ e q 3 ≤ 1) (dm : 0 ≤ e 36 2 ∧ e 36 2 ≤ 1000) (dz : 0 ≤ e 36 3 ∧ e 36 3 ≤ 1) (ds : 0 ≤ e 36 1 ∧ e 36 1 ≤ 22) (zm : 0 ≤ e z 2 ∧ e z 2 ≤ 1000) (zz : 0 ≤ e z 3 ∧ e z 3 ≤ 1) (z4 : 0 ≤ e z 4 ∧ e z 4 ≤ 100000) (h8 : 0 ≤ e 34 8 ∧ e 34 8 ≤ 1) (ht : zB2 (e 31 1)) (hD : 3 < D) : zE S D 14 [zv_a 34, zv_a q, zv_a z] n (zSg g) (zDg e) u Q ↔ Q (.inl none) n (zSg g) (zDg (zstl e q h z)) u := by
  have hn : (15 + 2 * i = 0) = False := by simp; omega
  have H2 := H
  have HZ2 := HZ
  obtain ⟨⟨p1, q1, d1, d2, d3, d4, d5, d6, d7, d8⟩, A, B, s1, f0, f1, f2, f3, u2, u3⟩ := H
  obtain ⟨⟨pz1, qz1, pz2, qz2, pz3⟩, sz1, sz2, fz0, fz1, fz2, uz1, uz2⟩ := HZ
  have hD1 : 0 < D := by omega
  have z5 : ∀ e, zDg e z 4 = e z 4 := fun e => fz1 e 4 (by decide) (by decide)
  have hgb := @zgn_b e q h z z4
  have hi0 : 0 < 15 + 2 * i := by omega
  have hz9 : z ≠ 15 + 2 * i := by
    rcases hq.2.2.2 i with w | w | w
    · exact w
    · omega
    · omega
  have r1 := fun {S n u g Q} => @zE15 S (D - 1) n u g e Q q h c k b z y H2 HZ2 hm hz hs h3 dm dz ds zm zz z4 h8 (by omega)
  have r2 := fun {S D n u g Q} => @zE41k S D n u g (zgm e q h z) Q z y HZ2
  rw [zgm_o hq.1] at r2
  have e31 : zse (zgm e q h z) z 31 1 = e 31 1 := (zse_o (Or.inl (Ne.symm hq.2.1))).trans (zgm_o (by decide))
  have r3 := fun {S D n u g x Q} => @zE103 S D n u g (zse (zgm e q h z) z) Q 31 zTr_31 x
  rw [e31] at r3
  have r4 := fun {S n u g Q} => @zE104 S (D - 1) n u g (zse (zgm e q h z) z) Q 31 zTr_31 (zgn e q h z) (by decide) (by unfold zB2; omega) (by rw [e31]; exact ht) (by omega)
  have r5 : zpo (zse (zgm e q h z) z) 31 (zgn e q h z) (15 + 2 * i) 2 = e (15 + 2 * i) 2 := (zpo_o (by omega) (by omega)).trans ((zse_o (Or.inl (Ne.symm hz9))).trans (zgm_o (by omega)))
  have r6 : zstl e q h z = if zgn e q h z < 0 then zm_u (zse (zgm e q h z) z) 31 1 (e 31 1 + e z 4) else zm_u (zpo (zse (zgm e q h z) z) 31 (zgn e q h z)) (15 + 2 * i) 2 (e (15 + 2 * i) 2 + (e z 4 + zgn e q h z)) := by
    unfold zstl
    rw [if_neg (by omega), h0]
  change ∀ {S : zSs} {n u : Nat} {g : Int → zk_K} {Q : ((Option zv_V) ⊕ Nat) → Nat → zk_S → zm_D → Nat → Prop}, zE S (D - 1) 104 [zv_a 31, zv_i (zgn e q h z)] n (zSg g) (zDg (zse (zgm e q h z) z)) u Q ↔ Q (.inl none) n (zSg g) (zDg (zpo (zse (zgm e q h z) z) 31 (zgn e q h z))) u at r4
  rw [r6]
  by_cases hg : zgn e q h z < 0
  · rw [if_pos hg]
    simp (maxSteps := 10000000) (disch := first | omega | (simp (disch := omega) only [zm_ue, zm_un, zm_ri, zm_ro] <;> omega) | fail) only [zr_aload, zr_iload, zr_astore, zr_istore, zr_in26, zr_goto, zr_getI, zr_getA, zr_vret, zr_callV, Nat.reduceAdd, Nat.reduceLeDiff, Int.reduceLT, reduceIte, zt_15, zf_17, zKa_s, zKi_s, zKr_s, zget_0, zget_s, zst1_0, zst1_1, zst1_s, zk1_i, zk1_a, zpop_0, zpop_s, zA_s, zA_n, zaB_v, List.length_nil, true_and, and_true, zj_14_1, zj_14_2, zj_14_4, ze_14, zSg_34, zg_34_1, s1, p1, f2, h0, hn, z5, sz1, pz1, r1, r2, r3, hD1, zSg_31, zSg_34]
  · rw [if_neg hg]
    simp (maxSteps := 10000000) (disch := first | omega | (simp (disch := omega) only [zm_ue, zm_un, zm_ri, zm_ro] <;> omega) | fail) only [zr_iadd, zr_aload, zr_iload, zr_astore, zr_istore, zr_in26, zr_fall, zr_dup_a, zr_getI, zr_getA, zr_putI, zr_vret, zr_callV, Nat.reduceAdd, Nat.reduceLeDiff, Int.reduceLT, reduceIte, zt_15, zt_17, zKa_s, zKi_s, zKr_s, zget_0, zget_s, zst1_0, zst1_1, zst1_s, zk1_i, zk1_a, zpop_0, zpop_s, zA_s, zA_n, zaB_v, List.length_nil, true_and, and_true, zj_14_1, zj_14_2, zj_14_3, zj_14_4, ze_14, zSg_34, zg_34_1, s1, p1, f2, h0, hn, z5, sz1, pz1, r1, r2, r4, r5, hD1, zSg_31, zSg_34, zSF_G, zDF_G_2, zUF_G_2, hi0]
