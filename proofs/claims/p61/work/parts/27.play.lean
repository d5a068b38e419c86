/-! ===== PLAY: giving a card, gains, settling ===== -/
set_option maxRecDepth 65536
/-- a card taken from the front, seen -/
def ztk (e : zm_D) : zm_D := zm_u (zm_u e 5 4 (e 5 4 + 1)) 8 (e 6 (e 5 4)) (e 8 (e 6 (e 5 4)) + 1)
/-- a card added to a hand -/
def zad (e : zm_D) (h c x : Int) : zm_D := zm_u (zm_u (zm_u (zm_u e c (e h 1) x) h 1 (e h 1 + 1)) h 2 (e h 2 + x)) h 3 (zor (e h 3) x)
/-- a hand settled -/
def zse (e : zm_D) (h : Int) : zm_D := zm_u (zm_u (zm_u e h 4 0) h 5 0) h 6 1
theorem ztk_o {e : zm_D} {a k : Int} (h5 : a ≠ 5) (h8 : a ≠ 8) : ztk e a k = e a k := (zm_un (Or.inl h8)).trans (zm_un (Or.inl h5))
theorem ztk_4 {e : zm_D} : ztk e 5 4 = e 5 4 + 1 := (zm_un (Or.inl (by decide))).trans (zm_ue rfl rfl)
theorem ztk_k {e : zm_D} {k : Int} (h : k ≠ 4) : ztk e 5 k = e 5 k := (zm_un (Or.inl (by decide))).trans (zm_un (Or.inr h))
theorem zad_o {e : zm_D} {h c x a k : Int} (h1 : a ≠ h) (h2 : a ≠ c) : zad e h c x a k = e a k := (zm_un (Or.inl h1)).trans ((zm_un (Or.inl h1)).trans ((zm_un (Or.inl h1)).trans (zm_un (Or.inl h2))))
theorem zad_k {e : zm_D} {h c x k : Int} (h1 : h ≠ c) (h2 : 4 ≤ k) : zad e h c x h k = e h k := (zm_un (Or.inr (by omega))).trans ((zm_un (Or.inr (by omega))).trans ((zm_un (Or.inr (by omega))).trans (zm_un (Or.inl h1))))
theorem zad_1 {e : zm_D} {h c x : Int} : zad e h c x h 1 = e h 1 + 1 := (zm_un (Or.inr (by decide))).trans ((zm_un (Or.inr (by decide))).trans (zm_ue rfl rfl))
theorem zad_2 {e : zm_D} {h c x : Int} : zad e h c x h 2 = e h 2 + x := (zm_un (Or.inr (by decide))).trans (zm_ue rfl rfl)
theorem zad_3 {e : zm_D} {h c x : Int} : zad e h c x h 3 = zor (e h 3) x := zm_ue rfl rfl
theorem zad_c {e : zm_D} {h c x j : Int} (h1 : h ≠ c) : zad e h c x c j = if j = e h 1 then x else e c j := by
  refine (zm_un (Or.inl h1.symm)).trans ((zm_un (Or.inl h1.symm)).trans ((zm_un (Or.inl h1.symm)).trans ?_))
  unfold zm_u
  by_cases q : j = e h 1
  · rw [if_pos ⟨rfl, q⟩, if_pos q]
  · rw [if_neg (fun z => q z.2), if_neg q]
theorem zse_o {e : zm_D} {h a k : Int} (h1 : a ≠ h ∨ k < 4 ∨ 6 < k) : zse e h a k = e a k := (zm_un (by omega)).trans ((zm_un (by omega)).trans (zm_un (by omega)))
theorem zor_b {a x : Int} : 0 ≤ zor a x ∧ zor a x ≤ 1 := by unfold zor; split <;> decide
theorem zE90k {S : zSs} {D n u : Nat} {g : Int → zk_K} {e : zm_D} {Q : ((Option zv_V) ⊕ Nat) → Nat → zk_S → zm_D → Nat → Prop} (hf : 0 ≤ e 5 4 ∧ e 5 4 ≤ e 5 5 ∧ e 5 5 ≤ 104) (hl : e 5 4 < e 5 5) (hc : 1 ≤ e 6 (e 5 4) ∧ e 6 (e 5 4) ≤ 10) (hD : 1 < D) : zE S D 90 [zv_a 5] n (zSg g) (zDg e) u Q ↔ Q (.inl (some (zv_i (e 6 (e 5 4))))) n (zSg g) (zDg (ztk e)) u := zE90 hf hl hc hD
theorem zE34k {S : zSs} {D n u : Nat} {g : Int → zk_K} {e : zm_D} {Q : ((Option zv_V) ⊕ Nat) → Nat → zk_S → zm_D → Nat → Prop} {h c : Int} (H : zHd h c) {x : Int} (hx : zB2 x) (hs : 0 ≤ e h 1 ∧ e h 1 < 22) (hm : zB2 (e h 2)) (ha : e h 3 = 0 ∨ e h 3 = 1) : zE S D 34 [zv_a h, zv_i x] n (zSg g) (zDg e) u Q ↔ Q (.inl none) n (zSg g) (zDg (zad e h c x)) u := zE34 H hx hs hm ha
theorem zE41k {S : zSs} {D n u : Nat} {g : Int → zk_K} {e : zm_D} {Q : ((Option zv_V) ⊕ Nat) → Nat → zk_S → zm_D → Nat → Prop} {h c : Int} (H : zHd h c) : zE S D 41 [zv_a h] n (zSg g) (zDg e) u Q ↔ Q (.inl (some (zv_i (e h 4)))) n (zSg g) (zDg (zse e h)) u := zE41 H
theorem zE9_lt {S : zSs} {D n u : Nat} {g : Int → zk_K} {e : zm_D} {Q : ((Option zv_V) ⊕ Nat) → Nat → zk_S → zm_D → Nat → Prop} {h c : Int} (H : zHd h c) (hq : h ≠ 5 ∧ h ≠ 8 ∧ h ≠ 31 ∧ c ≠ 5 ∧ c ≠ 8 ∧ c ≠ 31 ∧ c ≠ 6) (hf : 0 ≤ e 5 4 ∧ e 5 4 ≤ e 5 5 ∧ e 5 5 ≤ 104) (hl : e 5 4 < e 5 5) (hc : 1 ≤ e 6 (e 5 4) ∧ e 6 (e 5 4) ≤ 10) (hs : 0 ≤ e h 1 ∧ e h 1 < 22) (hm : 0 ≤ e h 2 ∧ e h 2 ≤ 1000) (ha : 0 ≤ e h 3 ∧ e h 3 ≤ 1) (hD : 2 < D) (hv1 : (zhv (zor (e h 3) (e 6 (e 5 4))) (e h 2 + (e 6 (e 5 4)))) < 21) : zE S D 9 [zv_a 34, zv_a h] n (zSg g) (zDg e) u Q ↔ Q (.inl (some (zv_i ((zhv (zor (e h 3) (e 6 (e 5 4))) (e h 2 + (e 6 (e 5 4)))))))) n (zSg g) (zDg (zad (ztk e) h c (e 6 (e 5 4)))) u := by
  have HH := H
  obtain ⟨⟨p1, q1, p2, q2, p3⟩, s1, s2, f0, f1, f2, u1, u2⟩ := H
  have hD1 : 0 < D := by omega
  have t1 : ztk e h 1 = e h 1 := ztk_o hq.1 hq.2.1
  have t2 : ztk e h 2 = e h 2 := ztk_o hq.1 hq.2.1
  have t3 : ztk e h 3 = e h 3 := ztk_o hq.1 hq.2.1
  have t4 : (zad (ztk e) h c (e 6 (e 5 4))) h 4 = e h 4 := (zad_k p3 (by decide)).trans (ztk_o hq.1 hq.2.1)
  have a2 : (zad (ztk e) h c (e 6 (e 5 4))) h 2 = e h 2 + (e 6 (e 5 4)) := zad_2.trans (by rw [t2])
  have a3 : (zad (ztk e) h c (e 6 (e 5 4))) h 3 = zor (e h 3) (e 6 (e 5 4)) := zad_3.trans (by rw [t3])
  have hb := @zor_b (e h 3) (e 6 (e 5 4))
  have hv := @zhv_r (zor (e h 3) (e 6 (e 5 4))) (e h 2 + (e 6 (e 5 4)))
  have r1 := fun {S n u g Q} => @zE90k S (D - 1) n u g e Q hf hl hc (by omega)
  have r2 := fun {S D n u g Q} => @zE34k S D n u g (ztk e) Q h c HH (e 6 (e 5 4)) (by unfold zB2; omega) (by omega) (by unfold zB2; omega) (by omega)
  have r3 := fun {S D n u g Q} => @zE37 S D n u g (zad (ztk e) h c (e 6 (e 5 4))) Q h c HH (by unfold zB2; omega) (by omega)
  have r4 := fun {S D n u g Q} => @zE41k S D n u g (zad (ztk e) h c (e 6 (e 5 4))) Q h c HH
  have r5 := fun {S D n u g x Q} => @zE103 S D n u g (zse (zad (ztk e) h c (e 6 (e 5 4))) h) Q 31 zTr_31 x
  have r6 : zse (zad (ztk e) h c (e 6 (e 5 4))) h 31 1 = e 31 1 := (zse_o (Or.inl (by omega))).trans ((zad_o (by omega) (by omega)).trans (ztk_o (by decide) (by decide)))
  have g5 : ∀ (e : zm_D) (x : Int), zm_u (zDg e) h 5 x = zDg (zm_u e h 5 x) := fun e x => u1 e 5 x (by decide) (by decide)
  rw [a2, a3] at r3
  rw [t4] at r4
  rw [r6] at r5
  simp (maxSteps := 10000000) (disch := first | omega | (simp (disch := omega) only [zm_ue, zm_un, zm_ri, zm_ro] <;> omega) | fail) only [zr_iconst, zr_aload, zr_iload, zr_istore, zr_getA, zr_iret, zr_callV, Nat.reduceAdd, Nat.reduceLeDiff, Int.reduceLT, zt_21, zt_25, zKa_s, zKi_s, zKr_s, zget_0, zget_s, zst1_0, zst1_1, zst1_s, zk1_a, zpop_0, zpop_s, zA_s, zA_n, zaB_v, List.length_cons, List.length_nil, true_and, and_true, zj_9_1, zj_9_2, ze_9, zSg_34, zg_34_0, r1, r2, r3, hD1, zSg_34, zSg_5, s1, p1]
theorem zE9_eq {S : zSs} {D n u : Nat} {g : Int → zk_K} {e : zm_D} {Q : ((Option zv_V) ⊕ Nat) → Nat → zk_S → zm_D → Nat → Prop} {h c : Int} (H : zHd h c) (hq : h ≠ 5 ∧ h ≠ 8 ∧ h ≠ 31 ∧ c ≠ 5 ∧ c ≠ 8 ∧ c ≠ 31 ∧ c ≠ 6) (hf : 0 ≤ e 5 4 ∧ e 5 4 ≤ e 5 5 ∧ e 5 5 ≤ 104) (hl : e 5 4 < e 5 5) (hc : 1 ≤ e 6 (e 5 4) ∧ e 6 (e 5 4) ≤ 10) (hs : 0 ≤ e h 1 ∧ e h 1 < 22) (hm : 0 ≤ e h 2 ∧ e h 2 ≤ 1000) (ha : 0 ≤ e h 3 ∧ e h 3 ≤ 1) (hD : 2 < D) (hv1 : (zhv (zor (e h 3) (e 6 (e 5 4))) (e h 2 + (e 6 (e 5 4)))) = 21) : zE S D 9 [zv_a 34, zv_a h] n (zSg g) (zDg e) u Q ↔ Q (.inl (some (zv_i ((zhv (zor (e h 3) (e 6 (e 5 4))) (e h 2 + (e 6 (e 5 4)))))))) n (zSg g) (zDg (zm_u (zad (ztk e) h c (e 6 (e 5 4))) h 5 0)) u := by
  have HH := H
  obtain ⟨⟨p1, q1, p2, q2, p3⟩, s1, s2, f0, f1, f2, u1, u2⟩ := H
  have hD1 : 0 < D := by omega
  have t1 : ztk e h 1 = e h 1 := ztk_o hq.1 hq.2.1
  have t2 : ztk e h 2 = e h 2 := ztk_o hq.1 hq.2.1
  have t3 : ztk e h 3 = e h 3 := ztk_o hq.1 hq.2.1
  have t4 : (zad (ztk e) h c (e 6 (e 5 4))) h 4 = e h 4 := (zad_k p3 (by decide)).trans (ztk_o hq.1 hq.2.1)
  have a2 : (zad (ztk e) h c (e 6 (e 5 4))) h 2 = e h 2 + (e 6 (e 5 4)) := zad_2.trans (by rw [t2])
  have a3 : (zad (ztk e) h c (e 6 (e 5 4))) h 3 = zor (e h 3) (e 6 (e 5 4)) := zad_3.trans (by rw [t3])
  have hb := @zor_b (e h 3) (e 6 (e 5 4))
  have hv := @zhv_r (zor (e h 3) (e 6 (e 5 4))) (e h 2 + (e 6 (e 5 4)))
  have r1 := fun {S n u g Q} => @zE90k S (D - 1) n u g e Q hf hl hc (by omega)
  have r2 := fun {S D n u g Q} => @zE34k S D n u g (ztk e) Q h c HH (e 6 (e 5 4)) (by unfold zB2; omega) (by omega) (by unfold zB2; omega) (by omega)
  have r3 := fun {S D n u g Q} => @zE37 S D n u g (zad (ztk e) h c (e 6 (e 5 4))) Q h c HH (by unfold zB2; omega) (by omega)
  have r4 := fun {S D n u g Q} => @zE41k S D n u g (zad (ztk e) h c (e 6 (e 5 4))) Q h c HH
  have r5 := fun {S D n u g x Q} => @zE103 S D n u g (zse (zad (ztk e) h c (e 6 (e 5 4))) h) Q 31 zTr_31 x
  have r6 : zse (zad (ztk e) h c (e 6 (e 5 4))) h 31 1 = e 31 1 := (zse_o (Or.inl (by omega))).trans ((zad_o (by omega) (by omega)).trans (ztk_o (by decide) (by decide)))
  have g5 : ∀ (e : zm_D) (x : Int), zm_u (zDg e) h 5 x = zDg (zm_u e h 5 x) := fun e x => u1 e 5 x (by decide) (by decide)
  rw [a2, a3] at r3
  rw [t4] at r4
  rw [r6] at r5
  simp (maxSteps := 10000000) (disch := first | omega | (simp (disch := omega) only [zm_ue, zm_un, zm_ri, zm_ro] <;> omega) | fail) only [zr_iconst, zr_aload, zr_iload, zr_istore, zr_fall, zr_getA, zr_putZ, zr_iret, zr_callV, Nat.reduceAdd, Nat.reduceLeDiff, Int.reduceLT, Int.reduceEq, true_or, zf_21, zt_25, zKa_s, zKi_s, zKr_s, zget_0, zget_s, zst1_0, zst1_1, zst1_s, zk1_a, zpop_0, zpop_s, zA_s, zA_n, zaB_v, List.length_cons, List.length_nil, true_and, and_true, zj_9_1, zj_9_2, ze_9, zSg_34, zg_34_0, r1, r2, r3, g5, hD1, zSg_34, zSg_5, s1, p1]
theorem zE9_gt {S : zSs} {D n u : Nat} {g : Int → zk_K} {e : zm_D} {Q : ((Option zv_V) ⊕ Nat) → Nat → zk_S → zm_D → Nat → Prop} {h c : Int} (H : zHd h c) (hq : h ≠ 5 ∧ h ≠ 8 ∧ h ≠ 31 ∧ c ≠ 5 ∧ c ≠ 8 ∧ c ≠ 31 ∧ c ≠ 6) (hf : 0 ≤ e 5 4 ∧ e 5 4 ≤ e 5 5 ∧ e 5 5 ≤ 104) (hl : e 5 4 < e 5 5) (hc : 1 ≤ e 6 (e 5 4) ∧ e 6 (e 5 4) ≤ 10) (hs : 0 ≤ e h 1 ∧ e h 1 < 22) (hm : 0 ≤ e h 2 ∧ e h 2 ≤ 1000) (ha : 0 ≤ e h 3 ∧ e h 3 ≤ 1) (hD : 2 < D) (hv1 : 21 < (zhv (zor (e h 3) (e 6 (e 5 4))) (e h 2 + (e 6 (e 5 4))))) : zE S D 9 [zv_a 34, zv_a h] n (zSg g) (zDg e) u Q ↔ Q (.inl (some (zv_i ((zhv (zor (e h 3) (e 6 (e 5 4))) (e h 2 + (e 6 (e 5 4)))))))) n (zSg g) (zDg (zm_u (zse (zad (ztk e) h c (e 6 (e 5 4))) h) 31 1 (e 31 1 + e h 4))) u := by
  have HH := H
  obtain ⟨⟨p1, q1, p2, q2, p3⟩, s1, s2, f0, f1, f2, u1, u2⟩ := H
  have hD1 : 0 < D := by omega
  have t1 : ztk e h 1 = e h 1 := ztk_o hq.1 hq.2.1
  have t2 : ztk e h 2 = e h 2 := ztk_o hq.1 hq.2.1
  have t3 : ztk e h 3 = e h 3 := ztk_o hq.1 hq.2.1
  have t4 : (zad (ztk e) h c (e 6 (e 5 4))) h 4 = e h 4 := (zad_k p3 (by decide)).trans (ztk_o hq.1 hq.2.1)
  have a2 : (zad (ztk e) h c (e 6 (e 5 4))) h 2 = e h 2 + (e 6 (e 5 4)) := zad_2.trans (by rw [t2])
  have a3 : (zad (ztk e) h c (e 6 (e 5 4))) h 3 = zor (e h 3) (e 6 (e 5 4)) := zad_3.trans (by rw [t3])
  have hb := @zor_b (e h 3) (e 6 (e 5 4))
  have hv := @zhv_r (zor (e h 3) (e 6 (e 5 4))) (e h 2 + (e 6 (e 5 4)))
  have r1 := fun {S n u g Q} => @zE90k S (D - 1) n u g e Q hf hl hc (by omega)
  have r2 := fun {S D n u g Q} => @zE34k S D n u g (ztk e) Q h c HH (e 6 (e 5 4)) (by unfold zB2; omega) (by omega) (by unfold zB2; omega) (by omega)
  have r3 := fun {S D n u g Q} => @zE37 S D n u g (zad (ztk e) h c (e 6 (e 5 4))) Q h c HH (by unfold zB2; omega) (by omega)
  have r4 := fun {S D n u g Q} => @zE41k S D n u g (zad (ztk e) h c (e 6 (e 5 4))) Q h c HH
  have r5 := fun {S D n u g x Q} => @zE103 S D n u g (zse (zad (ztk e) h c (e 6 (e 5 4))) h) Q 31 zTr_31 x
  have r6 : zse (zad (ztk e) h c (e 6 (e 5 4))) h 31 1 = e 31 1 := (zse_o (Or.inl (by omega))).trans ((zad_o (by omega) (by omega)).trans (ztk_o (by decide) (by decide)))
  have g5 : ∀ (e : zm_D) (x : Int), zm_u (zDg e) h 5 x = zDg (zm_u e h 5 x) := fun e x => u1 e 5 x (by decide) (by decide)
  rw [a2, a3] at r3
  rw [t4] at r4
  rw [r6] at r5
  simp (maxSteps := 10000000) (disch := first | omega | (simp (disch := omega) only [zm_ue, zm_un, zm_ri, zm_ro] <;> omega) | fail) only [zr_iconst, zr_aload, zr_iload, zr_istore, zr_goto, zr_getA, zr_iret, zr_callV, Nat.reduceAdd, Nat.reduceLeDiff, Int.reduceLT, zf_25, zKa_s, zKi_s, zKr_s, zget_0, zget_s, zst1_0, zst1_1, zst1_s, zk1_a, zpop_0, zpop_s, zA_s, zA_n, zaB_v, List.length_cons, List.length_nil, true_and, and_true, zj_9_2, ze_9, zSg_34, zg_34_0, zg_34_1, r1, r2, r3, r4, r5, hD1, zSg_34, zSg_5, zSg_31, s1, p1]
theorem zE15_d {S : zSs} {D n u : Nat} {g : Int → zk_K} {e : zm_D} {Q : ((Option zv_V) ⊕ Nat) → Nat → zk_S → zm_D → Nat → Prop} {q h c k b z y : Int} (H : zSe q h c k b) (HZ : zHd z y) (hm : 0 ≤ e h 2 ∧ e h 2 ≤ 1000) (hz : 0 ≤ e h 3 ∧ e h 3 ≤ 1) (hs : 0 ≤ e h 1 ∧ e h 1 ≤ 22) (h3 : 0 ≤ e q 3 ∧ e q 3 ≤ 1) (dm : 0 ≤ e 36 2 ∧ e 36 2 ≤ 1000) (dz : 0 ≤ e 36 3 ∧ e 36 3 ≤ 1) (ds : 0 ≤ e 36 1 ∧ e 36 1 ≤ 22) (zm : 0 ≤ e z 2 ∧ e z 2 ≤ 1000) (zz : 0 ≤ e z 3 ∧ e z 3 ≤ 1) (z4 : 0 ≤ e z 4 ∧ e z 4 ≤ 100000) (hD : 2 < D) (hn : zsn (e q 3) (e h 1) (e h 3) (e h 2) = 1) (hd : znt (e 36 1) (e 36 3) (e 36 2) = 1) : zE S D 15 [zv_a 34, zv_a q, zv_a z] n (zSg g) (zDg e) u Q ↔ Q (.inl (some (zv_i (0)))) n (zSg g) (zDg e) u := by
  obtain ⟨⟨p1, q1, d1, d2, d3, d4, d5, d6, d7, d8⟩, A, B, s1, f0, f1, f2, f3, u2, u3⟩ := id H
  obtain ⟨⟨pz1, qz1, pz2, qz2, pz3⟩, sz1, sz2, fz0, fz1, fz2, uz1, uz2⟩ := id HZ
  have hD1 : 0 < D := by omega
  have z5 : ∀ e, zDg e z 4 = e z 4 := fun e => fz1 e 4 (by decide) (by decide)
  have r1 := fun {S n u g Q} => @zE75 S (D - 1) n u g e Q q h c k b H (by unfold zB2; omega) hz hs (by omega) (by omega)
  have r2 := fun {S n u g Q} => @zE40 S (D - 1) n u g e Q 36 37 zHd_36 (by unfold zB2; omega) dz ds (by omega)
  have r3 := fun {S D n u g Q} => @zE37 S D n u g e Q z y HZ (by unfold zB2; omega) zz
  have r4 := fun {S D n u g Q} => @zE37 S D n u g e Q 36 37 zHd_36 (by unfold zB2; omega) dz
  have v1 := @zhv_r (e z 3) (e z 2)
  have v2 := @zhv_r (e 36 3) (e 36 2)
  rw [hn] at r1
  rw [hd] at r2
  simp (maxSteps := 10000000) (disch := first | omega | (simp (disch := omega) only [zm_ue, zm_un, zm_ri, zm_ro] <;> omega) | fail) only [zr_iconst, zr_aload, zr_goto, zr_getA, zr_iret, zr_callV, Nat.reduceLeDiff, Int.reduceLT, zf_14, zKa_s, zKr_s, zget_0, zget_s, zpop_0, zA_s, zaB_v, List.length_nil, true_and, and_true, zj_15_2, ze_15, zSg_34, zg_34_3, r1, r2, hD1, s1, p1, zSg_34, zSg_36]
theorem zE15_6 {S : zSs} {D n u : Nat} {g : Int → zk_K} {e : zm_D} {Q : ((Option zv_V) ⊕ Nat) → Nat → zk_S → zm_D → Nat → Prop} {q h c k b z y : Int} (H : zSe q h c k b) (HZ : zHd z y) (hm : 0 ≤ e h 2 ∧ e h 2 ≤ 1000) (hz : 0 ≤ e h 3 ∧ e h 3 ≤ 1) (hs : 0 ≤ e h 1 ∧ e h 1 ≤ 22) (h3 : 0 ≤ e q 3 ∧ e q 3 ≤ 1) (dm : 0 ≤ e 36 2 ∧ e 36 2 ≤ 1000) (dz : 0 ≤ e 36 3 ∧ e 36 3 ≤ 1) (ds : 0 ≤ e 36 1 ∧ e 36 1 ≤ 22) (zm : 0 ≤ e z 2 ∧ e z 2 ≤ 1000) (zz : 0 ≤ e z 3 ∧ e z 3 ≤ 1) (z4 : 0 ≤ e z 4 ∧ e z 4 ≤ 100000) (hD : 2 < D) (hn : zsn (e q 3) (e h 1) (e h 3) (e h 2) = 1) (hd : znt (e 36 1) (e 36 3) (e 36 2) = 0) (hr : e 34 8 = 1) : zE S D 15 [zv_a 34, zv_a q, zv_a z] n (zSg g) (zDg e) u Q ↔ Q (.inl (some (zv_i (e z 4 * 6 / 5)))) n (zSg g) (zDg (zm_u e 34 9 (e 34 9 + e z 4 * 6 % 5 * 2))) u := by
  obtain ⟨⟨p1, q1, d1, d2, d3, d4, d5, d6, d7, d8⟩, A, B, s1, f0, f1, f2, f3, u2, u3⟩ := id H
  obtain ⟨⟨pz1, qz1, pz2, qz2, pz3⟩, sz1, sz2, fz0, fz1, fz2, uz1, uz2⟩ := id HZ
  have hD1 : 0 < D := by omega
  have z5 : ∀ e, zDg e z 4 = e z 4 := fun e => fz1 e 4 (by decide) (by decide)
  have r1 := fun {S n u g Q} => @zE75 S (D - 1) n u g e Q q h c k b H (by unfold zB2; omega) hz hs (by omega) (by omega)
  have r2 := fun {S n u g Q} => @zE40 S (D - 1) n u g e Q 36 37 zHd_36 (by unfold zB2; omega) dz ds (by omega)
  have r3 := fun {S D n u g Q} => @zE37 S D n u g e Q z y HZ (by unfold zB2; omega) zz
  have r4 := fun {S D n u g Q} => @zE37 S D n u g e Q 36 37 zHd_36 (by unfold zB2; omega) dz
  have v1 := @zhv_r (e z 3) (e z 2)
  have v2 := @zhv_r (e 36 3) (e 36 2)
  rw [hn] at r1
  rw [hd] at r2
  have r5 := fun {S D n u g Q} => @zE16n S D n u g e Q (e z 4) z4 hr
  simp (maxSteps := 10000000) (disch := first | omega | (simp (disch := omega) only [zm_ue, zm_un, zm_ri, zm_ro] <;> omega) | fail) only [zr_aload, zr_fall, zr_getI, zr_getA, zr_iret, zr_callV, Nat.reduceLeDiff, Int.reduceLT, zt_14, zf_14, zKa_s, zKr_s, zget_0, zget_s, zpop_0, zpop_s, zA_s, zaB_v, List.length_nil, true_and, and_true, zj_15_1, zj_15_2, ze_15, zSg_34, zg_34_3, r1, r2, z5, hD1, s1, p1, pz1, sz1, zSg_34, zSg_36, r5]
theorem zE15_3 {S : zSs} {D n u : Nat} {g : Int → zk_K} {e : zm_D} {Q : ((Option zv_V) ⊕ Nat) → Nat → zk_S → zm_D → Nat → Prop} {q h c k b z y : Int} (H : zSe q h c k b) (HZ : zHd z y) (hm : 0 ≤ e h 2 ∧ e h 2 ≤ 1000) (hz : 0 ≤ e h 3 ∧ e h 3 ≤ 1) (hs : 0 ≤ e h 1 ∧ e h 1 ≤ 22) (h3 : 0 ≤ e q 3 ∧ e q 3 ≤ 1) (dm : 0 ≤ e 36 2 ∧ e 36 2 ≤ 1000) (dz : 0 ≤ e 36 3 ∧ e 36 3 ≤ 1) (ds : 0 ≤ e 36 1 ∧ e 36 1 ≤ 22) (zm : 0 ≤ e z 2 ∧ e z 2 ≤ 1000) (zz : 0 ≤ e z 3 ∧ e z 3 ≤ 1) (z4 : 0 ≤ e z 4 ∧ e z 4 ≤ 100000) (hD : 2 < D) (hn : zsn (e q 3) (e h 1) (e h 3) (e h 2) = 1) (hd : znt (e 36 1) (e 36 3) (e 36 2) = 0) (hr : e 34 8 = 0) : zE S D 15 [zv_a 34, zv_a q, zv_a z] n (zSg g) (zDg e) u Q ↔ Q (.inl (some (zv_i (e z 4 * 3 / 2)))) n (zSg g) (zDg (zm_u e 34 9 (e 34 9 + e z 4 * 3 % 2 * 5))) u := by
  obtain ⟨⟨p1, q1, d1, d2, d3, d4, d5, d6, d7, d8⟩, A, B, s1, f0, f1, f2, f3, u2, u3⟩ := id H
  obtain ⟨⟨pz1, qz1, pz2, qz2, pz3⟩, sz1, sz2, fz0, fz1, fz2, uz1, uz2⟩ := id HZ
  have hD1 : 0 < D := by omega
  have z5 : ∀ e, zDg e z 4 = e z 4 := fun e => fz1 e 4 (by decide) (by decide)
  have r1 := fun {S n u g Q} => @zE75 S (D - 1) n u g e Q q h c k b H (by unfold zB2; omega) hz hs (by omega) (by omega)
  have r2 := fun {S n u g Q} => @zE40 S (D - 1) n u g e Q 36 37 zHd_36 (by unfold zB2; omega) dz ds (by omega)
  have r3 := fun {S D n u g Q} => @zE37 S D n u g e Q z y HZ (by unfold zB2; omega) zz
  have r4 := fun {S D n u g Q} => @zE37 S D n u g e Q 36 37 zHd_36 (by unfold zB2; omega) dz
  have v1 := @zhv_r (e z 3) (e z 2)
  have v2 := @zhv_r (e 36 3) (e 36 2)
  rw [hn] at r1
  rw [hd] at r2
  have r5 := fun {S D n u g Q} => @zE16 S D n u g e Q (e z 4) z4 hr
  simp (maxSteps := 10000000) (disch := first | omega | (simp (disch := omega) only [zm_ue, zm_un, zm_ri, zm_ro] <;> omega) | fail) only [zr_aload, zr_fall, zr_getI, zr_getA, zr_iret, zr_callV, Nat.reduceLeDiff, Int.reduceLT, zt_14, zf_14, zKa_s, zKr_s, zget_0, zget_s, zpop_0, zpop_s, zA_s, zaB_v, List.length_nil, true_and, and_true, zj_15_1, zj_15_2, ze_15, zSg_34, zg_34_3, r1, r2, z5, hD1, s1, p1, pz1, sz1, zSg_34, zSg_36, r5]
theorem zE15_w {S : zSs} {D n u : Nat} {g : Int → zk_K} {e : zm_D} {Q : ((Option zv_V) ⊕ Nat) → Nat → zk_S → zm_D → Nat → Prop} {q h c k b z y : Int} (H : zSe q h c k b) (HZ : zHd z y) (hm : 0 ≤ e h 2 ∧ e h 2 ≤ 1000) (hz : 0 ≤ e h 3 ∧ e h 3 ≤ 1) (hs : 0 ≤ e h 1 ∧ e h 1 ≤ 22) (h3 : 0 ≤ e q 3 ∧ e q 3 ≤ 1) (dm : 0 ≤ e 36 2 ∧ e 36 2 ≤ 1000) (dz : 0 ≤ e 36 3 ∧ e 36 3 ≤ 1) (ds : 0 ≤ e 36 1 ∧ e 36 1 ≤ 22) (zm : 0 ≤ e z 2 ∧ e z 2 ≤ 1000) (zz : 0 ≤ e z 3 ∧ e z 3 ≤ 1) (z4 : 0 ≤ e z 4 ∧ e z 4 ≤ 100000) (hD : 2 < D) (hn : zsn (e q 3) (e h 1) (e h 3) (e h 2) = 0) (hw : 21 < zhv (e 36 3) (e 36 2) ∨ zhv (e 36 3) (e 36 2) < zhv (e z 3) (e z 2)) : zE S D 15 [zv_a 34, zv_a q, zv_a z] n (zSg g) (zDg e) u Q ↔ Q (.inl (some (zv_i (e z 4)))) n (zSg g) (zDg e) u := by
  obtain ⟨⟨p1, q1, d1, d2, d3, d4, d5, d6, d7, d8⟩, A, B, s1, f0, f1, f2, f3, u2, u3⟩ := id H
  obtain ⟨⟨pz1, qz1, pz2, qz2, pz3⟩, sz1, sz2, fz0, fz1, fz2, uz1, uz2⟩ := id HZ
  have hD1 : 0 < D := by omega
  have z5 : ∀ e, zDg e z 4 = e z 4 := fun e => fz1 e 4 (by decide) (by decide)
  have r1 := fun {S n u g Q} => @zE75 S (D - 1) n u g e Q q h c k b H (by unfold zB2; omega) hz hs (by omega) (by omega)
  have r2 := fun {S n u g Q} => @zE40 S (D - 1) n u g e Q 36 37 zHd_36 (by unfold zB2; omega) dz ds (by omega)
  have r3 := fun {S D n u g Q} => @zE37 S D n u g e Q z y HZ (by unfold zB2; omega) zz
  have r4 := fun {S D n u g Q} => @zE37 S D n u g e Q 36 37 zHd_36 (by unfold zB2; omega) dz
  have v1 := @zhv_r (e z 3) (e z 2)
  have v2 := @zhv_r (e 36 3) (e 36 2)
  rw [hn] at r1
  by_cases hw1 : 21 < zhv (e 36 3) (e 36 2)
  · clear hw
    simp (maxSteps := 10000000) (disch := first | omega | (simp (disch := omega) only [zm_ue, zm_un, zm_ri, zm_ro] <;> omega) | fail) only [zr_iconst, zr_aload, zr_iload, zr_istore, zr_getI, zr_getA, zr_iret, zr_callV, Nat.reduceAdd, Nat.reduceLeDiff, Int.reduceLT, zt_14, zt_24, zKa_s, zKi_s, zKr_s, zget_0, zget_s, zst1_0, zst1_1, zst1_s, zk1_i, zk1_a, zpop_0, zA_s, zaB_v, List.length_nil, true_and, and_true, zj_15_3, zj_15_4, ze_15, zSg_34, zg_34_3, r1, r3, r4, z5, hD1, s1, p1, pz1, sz1, zSg_34, zSg_36]
  · have hw2 : zhv (e 36 3) (e 36 2) < zhv (e z 3) (e z 2) := by omega
    clear hw
    simp (maxSteps := 10000000) (disch := first | omega | (simp (disch := omega) only [zm_ue, zm_un, zm_ri, zm_ro] <;> omega) | fail) only [zr_iconst, zr_aload, zr_iload, zr_istore, zr_fall, zr_getI, zr_getA, zr_iret, zr_callV, Nat.reduceAdd, Nat.reduceLeDiff, Int.reduceLT, zt_14, zf_24, zf_25, zKa_s, zKi_s, zKr_s, zget_0, zget_s, zst1_0, zst1_1, zst1_s, zk1_i, zk1_a, zpop_0, zA_s, zaB_v, List.length_nil, true_and, and_true, zj_15_3, zj_15_4, ze_15, zSg_34, zg_34_3, r1, r3, r4, z5, hD1, s1, p1, pz1, sz1, zSg_34, zSg_36]
theorem zE15_e {S : zSs} {D n u : Nat} {g : Int → zk_K} {e : zm_D} {Q : ((Option zv_V) ⊕ Nat) → Nat → zk_S → zm_D → Nat → Prop} {q h c k b z y : Int} (H : zSe q h c k b) (HZ : zHd z y) (hm : 0 ≤ e h 2 ∧ e h 2 ≤ 1000) (hz : 0 ≤ e h 3 ∧ e h 3 ≤ 1) (hs : 0 ≤ e h 1 ∧ e h 1 ≤ 22) (h3 : 0 ≤ e q 3 ∧ e q 3 ≤ 1) (dm : 0 ≤ e 36 2 ∧ e 36 2 ≤ 1000) (dz : 0 ≤ e 36 3 ∧ e 36 3 ≤ 1) (ds : 0 ≤ e 36 1 ∧ e 36 1 ≤ 22) (zm : 0 ≤ e z 2 ∧ e z 2 ≤ 1000) (zz : 0 ≤ e z 3 ∧ e z 3 ≤ 1) (z4 : 0 ≤ e z 4 ∧ e z 4 ≤ 100000) (hD : 2 < D) (hn : zsn (e q 3) (e h 1) (e h 3) (e h 2) = 0) (hw : zhv (e 36 3) (e 36 2) ≤ 21) (he : zhv (e z 3) (e z 2) = zhv (e 36 3) (e 36 2)) : zE S D 15 [zv_a 34, zv_a q, zv_a z] n (zSg g) (zDg e) u Q ↔ Q (.inl (some (zv_i (0)))) n (zSg g) (zDg e) u := by
  obtain ⟨⟨p1, q1, d1, d2, d3, d4, d5, d6, d7, d8⟩, A, B, s1, f0, f1, f2, f3, u2, u3⟩ := id H
  obtain ⟨⟨pz1, qz1, pz2, qz2, pz3⟩, sz1, sz2, fz0, fz1, fz2, uz1, uz2⟩ := id HZ
  have hD1 : 0 < D := by omega
  have z5 : ∀ e, zDg e z 4 = e z 4 := fun e => fz1 e 4 (by decide) (by decide)
  have r1 := fun {S n u g Q} => @zE75 S (D - 1) n u g e Q q h c k b H (by unfold zB2; omega) hz hs (by omega) (by omega)
  have r2 := fun {S n u g Q} => @zE40 S (D - 1) n u g e Q 36 37 zHd_36 (by unfold zB2; omega) dz ds (by omega)
  have r3 := fun {S D n u g Q} => @zE37 S D n u g e Q z y HZ (by unfold zB2; omega) zz
  have r4 := fun {S D n u g Q} => @zE37 S D n u g e Q 36 37 zHd_36 (by unfold zB2; omega) dz
  have v1 := @zhv_r (e z 3) (e z 2)
  have v2 := @zhv_r (e 36 3) (e 36 2)
  rw [hn] at r1
  simp (maxSteps := 10000000) (disch := first | omega | (simp (disch := omega) only [zm_ue, zm_un, zm_ri, zm_ro] <;> omega) | fail) only [zr_iconst, zr_aload, zr_iload, zr_istore, zr_goto, zr_getA, zr_iret, zr_callV, Nat.reduceAdd, Nat.reduceLeDiff, Int.reduceLT, zt_14, zf_21, zf_24, zt_25, zKa_s, zKi_s, zKr_s, zget_0, zget_s, zst1_0, zst1_1, zst1_s, zk1_i, zk1_a, zpop_0, zA_s, zaB_v, List.length_nil, true_and, and_true, zj_15_3, zj_15_5, zj_15_7, ze_15, zSg_34, zg_34_3, r1, r3, r4, hD1, s1, p1, pz1, sz1, zSg_34, zSg_36]
theorem zE15_l {S : zSs} {D n u : Nat} {g : Int → zk_K} {e : zm_D} {Q : ((Option zv_V) ⊕ Nat) → Nat → zk_S → zm_D → Nat → Prop} {q h c k b z y : Int} (H : zSe q h c k b) (HZ : zHd z y) (hm : 0 ≤ e h 2 ∧ e h 2 ≤ 1000) (hz : 0 ≤ e h 3 ∧ e h 3 ≤ 1) (hs : 0 ≤ e h 1 ∧ e h 1 ≤ 22) (h3 : 0 ≤ e q 3 ∧ e q 3 ≤ 1) (dm : 0 ≤ e 36 2 ∧ e 36 2 ≤ 1000) (dz : 0 ≤ e 36 3 ∧ e 36 3 ≤ 1) (ds : 0 ≤ e 36 1 ∧ e 36 1 ≤ 22) (zm : 0 ≤ e z 2 ∧ e z 2 ≤ 1000) (zz : 0 ≤ e z 3 ∧ e z 3 ≤ 1) (z4 : 0 ≤ e z 4 ∧ e z 4 ≤ 100000) (hD : 2 < D) (hn : zsn (e q 3) (e h 1) (e h 3) (e h 2) = 0) (hw : zhv (e 36 3) (e 36 2) ≤ 21) (he : zhv (e z 3) (e z 2) < zhv (e 36 3) (e 36 2)) : zE S D 15 [zv_a 34, zv_a q, zv_a z] n (zSg g) (zDg e) u Q ↔ Q (.inl (some (zv_i (-1)))) n (zSg g) (zDg e) u := by
  obtain ⟨⟨p1, q1, d1, d2, d3, d4, d5, d6, d7, d8⟩, A, B, s1, f0, f1, f2, f3, u2, u3⟩ := id H
  obtain ⟨⟨pz1, qz1, pz2, qz2, pz3⟩, sz1, sz2, fz0, fz1, fz2, uz1, uz2⟩ := id HZ
  have hD1 : 0 < D := by omega
  have z5 : ∀ e, zDg e z 4 = e z 4 := fun e => fz1 e 4 (by decide) (by decide)
  have r1 := fun {S n u g Q} => @zE75 S (D - 1) n u g e Q q h c k b H (by unfold zB2; omega) hz hs (by omega) (by omega)
  have r2 := fun {S n u g Q} => @zE40 S (D - 1) n u g e Q 36 37 zHd_36 (by unfold zB2; omega) dz ds (by omega)
  have r3 := fun {S D n u g Q} => @zE37 S D n u g e Q z y HZ (by unfold zB2; omega) zz
  have r4 := fun {S D n u g Q} => @zE37 S D n u g e Q 36 37 zHd_36 (by unfold zB2; omega) dz
  have v1 := @zhv_r (e z 3) (e z 2)
  have v2 := @zhv_r (e 36 3) (e 36 2)
  rw [hn] at r1
  simp (maxSteps := 10000000) (disch := first | omega | (simp (disch := omega) only [zm_ue, zm_un, zm_ri, zm_ro] <;> omega) | fail) only [zr_iconst, zr_aload, zr_iload, zr_istore, zr_fall, zr_getA, zr_iret, zr_callV, Nat.reduceAdd, Nat.reduceLeDiff, Int.reduceNeg, Int.reduceLT, zt_14, zt_21, zf_24, zt_25, zKa_s, zKi_s, zKr_s, zget_0, zget_s, zst1_0, zst1_1, zst1_s, zk1_i, zk1_a, zpop_0, zA_s, zaB_v, List.length_nil, true_and, and_true, zj_15_3, zj_15_5, zj_15_6, zj_15_7, ze_15, zSg_34, zg_34_3, r1, r3, r4, hD1, s1, p1, pz1, sz1, zSg_34, zSg_36]
