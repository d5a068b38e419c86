/-! ===== STEPS: a spin ends ===== -/
set_option maxRecDepth 65536
theorem zMq_e {e d : zm_D} (H : zMq e) (h : ∀ r j : Int, (134 ≤ r ∧ r ≤ 137) → d r j = e r j) (h1 : d 61 43 = e 61 43) (h2 : d 61 45 = e 61 45) : zMq d := by
  obtain ⟨a, b, c, f⟩ := H
  refine ⟨fun r q1 q2 k q3 q4 => by rw [h _ _ (by omega)]; exact a r q1 q2 k q3 q4, fun p q1 q2 => by rw [h _ _ (by omega)]; exact b p q1 q2, by rw [h1]; exact c, by rw [h2]; exact f⟩
theorem zRe_al {e b : zm_D} {x : Int} (R : zRm e) (hs : 0 ≤ e 61 42) (h : ∀ r j : Int, (134 ≤ r ∧ r ≤ 137) → b r j = e r j) (h1 : b 61 43 = e 61 43) (h2 : b 61 45 = e 61 45) (h3 : zD3 x) (hm : ∀ p : Int, 0 ≤ p → p < 24 → 0 ≤ e 59 p ∧ e 59 p ≤ 4) : zmpd b x = zpd e x ∧ zmhp b x = zhp e x := by
  obtain ⟨a1, a2, a3, -⟩ := R
  obtain ⟨x1, x2, x3, x4⟩ := h3
  have e1 : x / 10 / 10 % 10 = x / 100 := by omega
  have s0 := a1 0 (by decide) (by decide) (x / 100) (by omega) (by omega)
  have s1 := a1 1 (by decide) (by decide) (x / 10 % 10) (by omega) (by omega)
  have s2 := a1 2 (by decide) (by decide) (x % 10) (by omega) (by omega)
  rw [show (0 : Int) * 8 + x / 100 = x / 100 by omega] at s0
  rw [show (1 : Int) * 8 + x / 10 % 10 = 8 + x / 10 % 10 by omega] at s1
  rw [show (2 : Int) * 8 + x % 10 = 16 + x % 10 by omega] at s2
  simp only [Int.add_zero, Int.reduceAdd] at s0 s1 s2
  have al : zmal b x = zal e x := by
    unfold zmal zal
    rw [e1, h 134 _ (by decide), h 135 _ (by decide), h 136 _ (by decide), s0, s1, s2]
  constructor
  · unfold zmpd zpd
    rw [al]
    rcases @zal_b e x with c | c
    · rw [if_neg (by omega), if_neg (by omega)]
    · rw [if_pos c, if_pos c, e1, h 134 _ (by decide), s0, h 137 _ (by decide), h1]
      have al2 := c
      have k4 : 0 ≤ e 59 (x / 100) ∧ e 59 (x / 100) ≤ 4 := hm _ (by omega) (by omega)
      rw [a2 _ k4.1 (by omega)]
      rw [show e 61 43 = e 58 6 by omega]
  · unfold zmhp zhp
    rw [al, e1, h 134 _ (by decide), s0, h2, show e 61 45 = e 58 8 by omega]
set_option maxHeartbeats 8000000 in
theorem zP39 {S : zSs} {D n u : Nat} {g : Int → zk_K} {e : zm_D} {t : Int} {x : Int} (I : zIn t e) (J : zIp t e) (R : zRe e) (ht : t < 600) (hD : 40 ≤ D) (h_x : -2147483648 ≤ x ∧ x < 2147483648) : zE S D 365 [zv_a 1, zv_i x, zv_a 160] n (zSg g) (zDg e) u (zK1 S D t n u 291 [zv_a 61, zv_i x] zPi) := by
  obtain ⟨sp1, sp2, sp3⟩ := zRe_sp I R
  by_cases h3 : zD3 x
  · rcases zspn_b e with hv | hv
    · refine (zC157s I h3 hv hD).2 (zK1i (by omega) (by omega) (by omega) (by omega) (fun n2 u2 _ => (zX291s h3 (by omega) (by omega) (by rw [sp3]; exact hv) (by omega)).2 (zK2i (by omega) (by omega) (by omega) (by omega) (zIn_e I ht (fun r j _ _ => by simp (disch := omega) only [zm_un])) (zIp_e J (fun r j _ _ => by simp (disch := omega) only [zm_un])) (zRe_e R (zIn_w I) (fun r j _ _ _ => by simp (disch := omega) only [zm_un])) ⟨2, 0, rfl, rfl, zm_us, fun q => absurd q (by decide), by decide⟩)))
    have sp := zspn_1 hv
    have hw := zIn_w I
    have rm := R.2.2.2.2.2.2.2.2.2.1
    have im := I.2.2.2.2.2.2.2.2.1
    have sm1 := im.1.1
    have sm3 := im.1.2.2.1
    have T2 := I.2.2.2.2.1 2 (by decide) (by decide)
    have r88 := (R.2.2.2.1 2 (by decide) (by decide)).1
    rw [show (31 : Int) + 2 = 33 by decide] at T2 r88
    have ra := R.1
    unfold zRa at ra
    have it := I.1
    obtain ⟨j, hj⟩ : ∃ j, e 61 42 = j := ⟨_, rfl⟩
    have rm3 := rm.2.2.1
    rw [hj] at rm3
    have j8 : 0 ≤ j ∧ j < 8 := by omega
    have h58 : e 58 5 = 15 + 2 * j := by omega
    have hj0 : ¬ (15 + 2 * j = 0) := by omega
    have pdb : 0 ≤ zpd e x ∧ zpd e x ≤ 20000 := by
      obtain ⟨x1, x2, x3, x4⟩ := h3
      unfold zpd
      split
      · have k4 := sm1 (x / 100) (by omega) (by omega)
        have tm := im.1.2.1 _ k4.1 k4.2
        exact ⟨Int.mul_nonneg tm.1 sm3.1, Int.le_trans (Int.mul_le_mul tm.2 sm3.2 sm3.1 (by decide)) (by decide)⟩
      · decide
    have al0 := fun (b : zm_D) h h1 h2 => @zRe_al e b x rm (by omega) h h1 h2 h3 sm1
    have MQ := zRe_Mq I R
    have a := R.2.1 j j8.1 j8.2
    have b := I.2.2.1 j j8
    have r43 : e 61 43 = e 58 6 := by omega
    have r44 : e 61 44 = 0 := by omega
    have i4 := im.2.2.2.1
    clear rm im
    refine (zC157 I h3 hv hD).2 (zK1i (by omega) (by omega) (by omega) (by omega) (fun n2 u2 _ => ?_))
    rw [h58]
    obtain ⟨pd, hpd⟩ : ∃ pd, zpd e x = pd := ⟨_, rfl⟩
    rw [hpd] at pdb
    obtain ⟨y, hy⟩ : ∃ y, zlk pd (e 33 1 + (e 58 6 - e 58 6 / 10)) = y := ⟨_, rfl⟩
    have yb : 0 ≤ y ∧ y ≤ 20000 ∧ pd - (e 33 1 + (e 58 6 - e 58 6 / 10)) ≤ y := by
      rw [← hy]
      unfold zlk
      split <;> omega
    by_cases hc : zhp e x = 1
    · skip
      have hCE : zm_u (zspe e x (15 + 2 * j)) 160 0 (zw (zspq e x)) = (zm_u (zm_u (zm_u (zm_u (zm_u (zm_u (zm_u (zm_u (zm_u e 58 3 (e 58 3 + e 58 6 / 10)) 33 1 (e 33 1 + (e 58 6 - e 58 6 / 10))) 4 0 (e 4 0 - y)) 33 3 (e 33 3 + y)) 33 1 (e 33 1 + (e 58 6 - e 58 6 / 10) + y - pd)) 58 3 0) (15 + 2 * j) 2 (e (15 + 2 * j) 2 + (pd + (e 58 3 + e 58 6 / 10)))) 58 5 0) 160 0 (zw (pd + (e 58 3 + e 58 6 / 10)))) := by
        unfold zspe zspq zspm zpo
        simp (disch := omega) only [zm_un, zm_ue, if_pos hc, if_neg hj0, hpd, hy]
      rw [hCE]
      have EO : ∀ r k : Int, 60 < r → r ≠ 160 → (zm_u (zm_u (zm_u (zm_u (zm_u (zm_u (zm_u (zm_u (zm_u e 58 3 (e 58 3 + e 58 6 / 10)) 33 1 (e 33 1 + (e 58 6 - e 58 6 / 10))) 4 0 (e 4 0 - y)) 33 3 (e 33 3 + y)) 33 1 (e 33 1 + (e 58 6 - e 58 6 / 10) + y - pd)) 58 3 0) (15 + 2 * j) 2 (e (15 + 2 * j) 2 + (pd + (e 58 3 + e 58 6 / 10)))) 58 5 0) 160 0 (zw (pd + (e 58 3 + e 58 6 / 10)))) r k = e r k := fun r k q1 q2 => by simp (disch := omega) only [zm_un]
      obtain ⟨al1, al2⟩ := al0 (zm_u (zm_u (zm_u (zm_u (zm_u (zm_u (zm_u (zm_u (zm_u e 58 3 (e 58 3 + e 58 6 / 10)) 33 1 (e 33 1 + (e 58 6 - e 58 6 / 10))) 4 0 (e 4 0 - y)) 33 3 (e 33 3 + y)) 33 1 (e 33 1 + (e 58 6 - e 58 6 / 10) + y - pd)) 58 3 0) (15 + 2 * j) 2 (e (15 + 2 * j) 2 + (pd + (e 58 3 + e 58 6 / 10)))) 58 5 0) 160 0 (zw (pd + (e 58 3 + e 58 6 / 10)))) (fun r k q => EO r k (by omega) (by omega)) (EO _ _ (by decide) (by decide)) (EO _ _ (by decide) (by decide))
      rw [hpd] at al1
      refine (zX291 h3 (by rw [EO _ _ (by decide) (by decide)]; omega) (by rw [EO _ _ (by decide) (by decide)]; exact sp2) (by rw [zmsp_e (e := e) (EO _ _ (by decide) (by decide)) (EO _ _ (by decide) (by decide)), sp3]; exact hv) (by rw [EO _ _ (by decide) (by decide)]; omega) (zMq_e MQ (fun r k q => EO r k (by omega) (by omega)) (EO _ _ (by decide) (by decide)) (EO _ _ (by decide) (by decide))) (by rw [EO _ _ (by decide) (by decide)]; unfold zB2; omega) (by rw [EO _ _ (by decide) (by decide)]; unfold zB2; omega) (by omega)).2 ?_
      have hl : zmpl (zms1 (zm_u (zm_u (zm_u (zm_u (zm_u (zm_u (zm_u (zm_u (zm_u e 58 3 (e 58 3 + e 58 6 / 10)) 33 1 (e 33 1 + (e 58 6 - e 58 6 / 10))) 4 0 (e 4 0 - y)) 33 3 (e 33 3 + y)) 33 1 (e 33 1 + (e 58 6 - e 58 6 / 10) + y - pd)) 58 3 0) (15 + 2 * j) 2 (e (15 + 2 * j) 2 + (pd + (e 58 3 + e 58 6 / 10)))) 58 5 0) 160 0 (zw (pd + (e 58 3 + e 58 6 / 10))))) 2 pd = y := by
        unfold zms1 zmpl
        simp (disch := omega) only [zm_un, zm_ue]
        rw [← hy, r43, r88]
        unfold zlk
        split <;> split <;> omega
      have hF : zms3 (zm_u (zm_u (zm_u (zm_u (zm_u (zm_u (zm_u (zm_u (zm_u e 58 3 (e 58 3 + e 58 6 / 10)) 33 1 (e 33 1 + (e 58 6 - e 58 6 / 10))) 4 0 (e 4 0 - y)) 33 3 (e 33 3 + y)) 33 1 (e 33 1 + (e 58 6 - e 58 6 / 10) + y - pd)) 58 3 0) (15 + 2 * j) 2 (e (15 + 2 * j) 2 + (pd + (e 58 3 + e 58 6 / 10)))) 58 5 0) 160 0 (zw (pd + (e 58 3 + e 58 6 / 10)))) x = (zm_u (zm_u (zm_u (zm_u (zm_u (zm_u (zm_u (zm_u (zm_u (zm_u (zm_u (zm_u (zm_u (zm_u (zm_u (zm_u (zm_u (zm_u (zm_u e 58 3 (e 58 3 + e 58 6 / 10)) 33 1 (e 33 1 + (e 58 6 - e 58 6 / 10))) 4 0 (e 4 0 - y)) 33 3 (e 33 3 + y)) 33 1 (e 33 1 + (e 58 6 - e 58 6 / 10) + y - pd)) 58 3 0) (15 + 2 * j) 2 (e (15 + 2 * j) 2 + (pd + (e 58 3 + e 58 6 / 10)))) 58 5 0) 160 0 (zw (pd + (e 58 3 + e 58 6 / 10)))) 61 49 0) 61 41 (e 61 41 + e 58 6 / 10)) 88 2 (e 33 1 + (e 58 6 - e 58 6 / 10))) 61 32 (e 61 32 - y)) 90 2 (e 90 2 + y)) 88 2 (e 33 1 + (e 58 6 - e 58 6 / 10) + (y - pd))) 63 j (e 63 j + pd)) 63 j (e 63 j + pd + (e 61 41 + e 58 6 / 10))) 61 41 0) 61 42 (-1)) := by
        unfold zms3 zms2 zmpa
        rw [al1, al2, hl]
        unfold zms1
        simp (disch := omega) only [zm_un, zm_ue, if_pos hc, hj, r43, r88]
      have hq : zmpq (zm_u (zm_u (zm_u (zm_u (zm_u (zm_u (zm_u (zm_u (zm_u e 58 3 (e 58 3 + e 58 6 / 10)) 33 1 (e 33 1 + (e 58 6 - e 58 6 / 10))) 4 0 (e 4 0 - y)) 33 3 (e 33 3 + y)) 33 1 (e 33 1 + (e 58 6 - e 58 6 / 10) + y - pd)) 58 3 0) (15 + 2 * j) 2 (e (15 + 2 * j) 2 + (pd + (e 58 3 + e 58 6 / 10)))) 58 5 0) 160 0 (zw (pd + (e 58 3 + e 58 6 / 10)))) x = (pd + (e 58 3 + e 58 6 / 10)) := by
        unfold zmpq
        rw [al1, al2]
        simp (disch := omega) only [zm_un, zm_ue, if_pos hc, r43]
        rw [ra.2.1.2.2]
      rw [hF, hq]
      clear hF hq hl al1 al2 EO hCE al0 MQ a b sm1 T2 r88 sp1 sp2 sp3 rm3 hv h3 h_x hc hpd hy sp
      have pj := J
      obtain ⟨it, ia, ig, iv, itr, is, ic, iw, im, il⟩ := I
      obtain ⟨ra, rg, rh, rt, ru, rs, rd, rq, rv, rm, rl⟩ := R
      refine zK2i (by omega) (by omega) (by omega) (by omega) ⟨by omega, zIa_e ia (fun j => by simp (disch := omega) only [zm_un]), ?_, ?_, ?_, zIs_e is (fun r j _ => by simp (disch := omega) only [zm_un]), zIc_e ic (fun r j _ => by simp (disch := omega) only [zm_un]) (fun j _ _ => by simp (disch := omega) only [zm_un]) (by simp (disch := omega) only [zm_un]), zWh_e iw (fun r j _ _ => by simp (disch := omega) only [zm_un]), ?_, zIl_e il (fun j _ => by simp (disch := omega) only [zm_un]) (fun j => by simp (disch := omega) only [zm_un])⟩ ⟨?_, zIz_e pj.2 (fun r j _ => by simp (disch := omega) only [zm_un])⟩ ⟨?_, ?_, zRh_e rh (fun i j _ _ _ => by simp (disch := omega) only [zm_un]) (fun j => by simp (disch := omega) only [zm_un]) (fun j => by simp (disch := omega) only [zm_un]) (by simp (disch := omega) only [zm_un]), ?_, zRu_e ru (fun j _ _ => by simp (disch := omega) only [zm_un]) (fun j => by simp (disch := omega) only [zm_un]), zRs_e rs (fun j _ => by simp (disch := omega) only [zm_un]) (by simp (disch := omega) only [zm_un]) (by simp (disch := omega) only [zm_un]) (fun r j _ => by simp (disch := omega) only [zm_un]), zRd_e rd (by simp (disch := omega) only [zm_un]) (fun r j _ => by simp (disch := omega) only [zm_un]), fun s q1 q2 => zRq_e (rq s q1 q2) (by simp (disch := omega) only [zm_un]) (by simp (disch := omega) only [zm_un]) (by simp (disch := omega) only [zm_un]) (by simp (disch := omega) only [zm_un]) (fun r j _ => by simp (disch := omega) only [zm_un]) (fun r j _ => by simp (disch := omega) only [zm_un]), zRv_e rv (by simp (disch := omega) only [zm_un]) (fun r j _ => by simp (disch := omega) only [zm_un]) hw.1, ?_, zRl_e rl (fun j _ => by simp (disch := omega) only [zm_un]) (fun j _ => by simp (disch := omega) only [zm_un]) (fun r j _ => by simp (disch := omega) only [zm_un]) hw.2⟩ ⟨0, _, rfl, rfl, by simp (disch := omega) only [zm_un, zm_ue], fun _ => by simp (disch := omega) only [zm_un, zm_ue], by decide⟩
      · intro i hi
        have a2 := ig i hi
        by_cases q : i = j
        · subst q
          simp (disch := omega) only [zm_un, zm_ue, true_and, and_true]
          omega
        · simp (disch := omega) only [zm_un, zm_ue, true_and, and_true]
          omega
      · unfold zIv at iv ⊢
        simp (disch := omega) only [zm_un, zm_ue, true_and, and_true]
        omega
      · intro i h1 h2
        have a2 := itr i h1 h2
        by_cases q : i = 2
        · subst q
          try rw [show (31 : Int) + 2 = 33 by decide] at a2 ⊢
          simp (disch := omega) only [zm_un, zm_ue, true_and, and_true]
          omega
        · simp (disch := omega) only [zm_un, zm_ue, true_and, and_true]
          omega
      · obtain ⟨⟨s1, s2, s3, s4⟩, m2, m3, m4, m5⟩ := im
        exact ⟨⟨fun p q1 q2 => by simp (disch := omega) only [zm_un, zm_ue]; exact s1 p q1 q2, fun p q1 q2 => by simp (disch := omega) only [zm_un, zm_ue]; exact s2 p q1 q2, by simp (disch := omega) only [zm_un, zm_ue]; exact s3, by simp (disch := omega) only [zm_un, zm_ue]; exact s4⟩, by simp (disch := omega) only [zm_un, zm_ue]; exact m2, .inl (by simp (disch := omega) only [zm_un, zm_ue]), by simp (disch := omega) only [zm_un, zm_ue]; omega, by simp (disch := omega) only [zm_un, zm_ue]; exact m5⟩
      · have pj1 := pj.1.1
        refine ⟨by simp (disch := omega) only [zm_un, zm_ue, true_and, and_true]; omega, fun i h1 h2 => ?_⟩
        have a2 := pj.1.2 i h1 h2
        by_cases q : i = j
        · subst q
          simp (disch := omega) only [zm_un, zm_ue, true_and, and_true]
          omega
        · simp (disch := omega) only [zm_un, zm_ue, true_and, and_true]
          omega
      · unfold zRa
        simp (disch := omega) only [zm_un, zm_ue, true_and, and_true]
        omega
      · intro i h1 h2
        have a2 := rg i h1 h2
        by_cases q : i = j
        · subst q
          try rw [show (31 : Int) + 2 = 33 by decide] at a2 ⊢
          simp (disch := omega) only [zm_un, zm_ue, true_and, and_true]
          have a3 := a2.1
          refine ⟨by omega, a2.2.1, a2.2.2.1, a2.2.2.2⟩
        · simp (disch := omega) only [zm_un, zm_ue, true_and, and_true]
          exact a2
      · intro i h1 h2
        have a2 := rt i h1 h2
        by_cases q : i = 2
        · subst q
          try rw [show (31 : Int) + 2 = 33 by decide] at a2 ⊢
          simp (disch := omega) only [zm_un, zm_ue, true_and, and_true]
          omega
        · simp (disch := omega) only [zm_un, zm_ue, true_and, and_true]
          exact a2
      · obtain ⟨m1, m2, m3, m4⟩ := rm
        exact ⟨fun r q1 q2 k q3 q4 => by simp (disch := omega) only [zm_un, zm_ue]; exact m1 r q1 q2 k q3 q4, fun k q1 q2 => by simp (disch := omega) only [zm_un, zm_ue]; exact m2 k q1 q2, .inl ⟨by simp (disch := omega) only [zm_un, zm_ue], by simp (disch := omega) only [zm_un, zm_ue], by simp (disch := omega) only [zm_un, zm_ue]; omega⟩, by simp (disch := omega) only [zm_un, zm_ue]; exact m4⟩
    · skip
      have hCE : zm_u (zspe e x (15 + 2 * j)) 160 0 (zw (zspq e x)) = (zm_u (zm_u (zm_u (zm_u (zm_u (zm_u (zm_u (zm_u e 58 3 (e 58 3 + e 58 6 / 10)) 33 1 (e 33 1 + (e 58 6 - e 58 6 / 10))) 4 0 (e 4 0 - y)) 33 3 (e 33 3 + y)) 33 1 (e 33 1 + (e 58 6 - e 58 6 / 10) + y - pd)) (15 + 2 * j) 2 (e (15 + 2 * j) 2 + (pd + 0))) 58 5 0) 160 0 (zw (pd + 0))) := by
        unfold zspe zspq zspm zpo
        simp (disch := omega) only [zm_un, zm_ue, if_neg hc, if_neg hj0, hpd, hy]
      rw [hCE]
      have EO : ∀ r k : Int, 60 < r → r ≠ 160 → (zm_u (zm_u (zm_u (zm_u (zm_u (zm_u (zm_u (zm_u e 58 3 (e 58 3 + e 58 6 / 10)) 33 1 (e 33 1 + (e 58 6 - e 58 6 / 10))) 4 0 (e 4 0 - y)) 33 3 (e 33 3 + y)) 33 1 (e 33 1 + (e 58 6 - e 58 6 / 10) + y - pd)) (15 + 2 * j) 2 (e (15 + 2 * j) 2 + (pd + 0))) 58 5 0) 160 0 (zw (pd + 0))) r k = e r k := fun r k q1 q2 => by simp (disch := omega) only [zm_un]
      obtain ⟨al1, al2⟩ := al0 (zm_u (zm_u (zm_u (zm_u (zm_u (zm_u (zm_u (zm_u e 58 3 (e 58 3 + e 58 6 / 10)) 33 1 (e 33 1 + (e 58 6 - e 58 6 / 10))) 4 0 (e 4 0 - y)) 33 3 (e 33 3 + y)) 33 1 (e 33 1 + (e 58 6 - e 58 6 / 10) + y - pd)) (15 + 2 * j) 2 (e (15 + 2 * j) 2 + (pd + 0))) 58 5 0) 160 0 (zw (pd + 0))) (fun r k q => EO r k (by omega) (by omega)) (EO _ _ (by decide) (by decide)) (EO _ _ (by decide) (by decide))
      rw [hpd] at al1
      refine (zX291 h3 (by rw [EO _ _ (by decide) (by decide)]; omega) (by rw [EO _ _ (by decide) (by decide)]; exact sp2) (by rw [zmsp_e (e := e) (EO _ _ (by decide) (by decide)) (EO _ _ (by decide) (by decide)), sp3]; exact hv) (by rw [EO _ _ (by decide) (by decide)]; omega) (zMq_e MQ (fun r k q => EO r k (by omega) (by omega)) (EO _ _ (by decide) (by decide)) (EO _ _ (by decide) (by decide))) (by rw [EO _ _ (by decide) (by decide)]; unfold zB2; omega) (by rw [EO _ _ (by decide) (by decide)]; unfold zB2; omega) (by omega)).2 ?_
      have hl : zmpl (zms1 (zm_u (zm_u (zm_u (zm_u (zm_u (zm_u (zm_u (zm_u e 58 3 (e 58 3 + e 58 6 / 10)) 33 1 (e 33 1 + (e 58 6 - e 58 6 / 10))) 4 0 (e 4 0 - y)) 33 3 (e 33 3 + y)) 33 1 (e 33 1 + (e 58 6 - e 58 6 / 10) + y - pd)) (15 + 2 * j) 2 (e (15 + 2 * j) 2 + (pd + 0))) 58 5 0) 160 0 (zw (pd + 0)))) 2 pd = y := by
        unfold zms1 zmpl
        simp (disch := omega) only [zm_un, zm_ue]
        rw [← hy, r43, r88]
        unfold zlk
        split <;> split <;> omega
      have hF : zms3 (zm_u (zm_u (zm_u (zm_u (zm_u (zm_u (zm_u (zm_u e 58 3 (e 58 3 + e 58 6 / 10)) 33 1 (e 33 1 + (e 58 6 - e 58 6 / 10))) 4 0 (e 4 0 - y)) 33 3 (e 33 3 + y)) 33 1 (e 33 1 + (e 58 6 - e 58 6 / 10) + y - pd)) (15 + 2 * j) 2 (e (15 + 2 * j) 2 + (pd + 0))) 58 5 0) 160 0 (zw (pd + 0))) x = (zm_u (zm_u (zm_u (zm_u (zm_u (zm_u (zm_u (zm_u (zm_u (zm_u (zm_u (zm_u (zm_u (zm_u (zm_u (zm_u e 58 3 (e 58 3 + e 58 6 / 10)) 33 1 (e 33 1 + (e 58 6 - e 58 6 / 10))) 4 0 (e 4 0 - y)) 33 3 (e 33 3 + y)) 33 1 (e 33 1 + (e 58 6 - e 58 6 / 10) + y - pd)) (15 + 2 * j) 2 (e (15 + 2 * j) 2 + (pd + 0))) 58 5 0) 160 0 (zw (pd + 0))) 61 49 0) 61 41 (e 61 41 + e 58 6 / 10)) 88 2 (e 33 1 + (e 58 6 - e 58 6 / 10))) 61 32 (e 61 32 - y)) 90 2 (e 90 2 + y)) 88 2 (e 33 1 + (e 58 6 - e 58 6 / 10) + (y - pd))) 63 j (e 63 j + pd)) 61 42 (-1)) := by
        unfold zms3 zms2 zmpa
        rw [al1, al2, hl]
        unfold zms1
        simp (disch := omega) only [zm_un, zm_ue, if_neg hc, hj, r43, r88]
      have hq : zmpq (zm_u (zm_u (zm_u (zm_u (zm_u (zm_u (zm_u (zm_u e 58 3 (e 58 3 + e 58 6 / 10)) 33 1 (e 33 1 + (e 58 6 - e 58 6 / 10))) 4 0 (e 4 0 - y)) 33 3 (e 33 3 + y)) 33 1 (e 33 1 + (e 58 6 - e 58 6 / 10) + y - pd)) (15 + 2 * j) 2 (e (15 + 2 * j) 2 + (pd + 0))) 58 5 0) 160 0 (zw (pd + 0))) x = (pd + 0) := by
        unfold zmpq
        rw [al1, al2]
        simp (disch := omega) only [zm_un, zm_ue, if_neg hc, r43]
      rw [hF, hq]
      clear hF hq hl al1 al2 EO hCE al0 MQ a b sm1 T2 r88 sp1 sp2 sp3 rm3 hv h3 h_x hc hpd hy sp
      have pj := J
      obtain ⟨it, ia, ig, iv, itr, is, ic, iw, im, il⟩ := I
      obtain ⟨ra, rg, rh, rt, ru, rs, rd, rq, rv, rm, rl⟩ := R
      refine zK2i (by omega) (by omega) (by omega) (by omega) ⟨by omega, zIa_e ia (fun j => by simp (disch := omega) only [zm_un]), ?_, ?_, ?_, zIs_e is (fun r j _ => by simp (disch := omega) only [zm_un]), zIc_e ic (fun r j _ => by simp (disch := omega) only [zm_un]) (fun j _ _ => by simp (disch := omega) only [zm_un]) (by simp (disch := omega) only [zm_un]), zWh_e iw (fun r j _ _ => by simp (disch := omega) only [zm_un]), ?_, zIl_e il (fun j _ => by simp (disch := omega) only [zm_un]) (fun j => by simp (disch := omega) only [zm_un])⟩ ⟨?_, zIz_e pj.2 (fun r j _ => by simp (disch := omega) only [zm_un])⟩ ⟨?_, ?_, zRh_e rh (fun i j _ _ _ => by simp (disch := omega) only [zm_un]) (fun j => by simp (disch := omega) only [zm_un]) (fun j => by simp (disch := omega) only [zm_un]) (by simp (disch := omega) only [zm_un]), ?_, zRu_e ru (fun j _ _ => by simp (disch := omega) only [zm_un]) (fun j => by simp (disch := omega) only [zm_un]), zRs_e rs (fun j _ => by simp (disch := omega) only [zm_un]) (by simp (disch := omega) only [zm_un]) (by simp (disch := omega) only [zm_un]) (fun r j _ => by simp (disch := omega) only [zm_un]), zRd_e rd (by simp (disch := omega) only [zm_un]) (fun r j _ => by simp (disch := omega) only [zm_un]), fun s q1 q2 => zRq_e (rq s q1 q2) (by simp (disch := omega) only [zm_un]) (by simp (disch := omega) only [zm_un]) (by simp (disch := omega) only [zm_un]) (by simp (disch := omega) only [zm_un]) (fun r j _ => by simp (disch := omega) only [zm_un]) (fun r j _ => by simp (disch := omega) only [zm_un]), zRv_e rv (by simp (disch := omega) only [zm_un]) (fun r j _ => by simp (disch := omega) only [zm_un]) hw.1, ?_, zRl_e rl (fun j _ => by simp (disch := omega) only [zm_un]) (fun j _ => by simp (disch := omega) only [zm_un]) (fun r j _ => by simp (disch := omega) only [zm_un]) hw.2⟩ ⟨0, _, rfl, rfl, by simp (disch := omega) only [zm_un, zm_ue], fun _ => by simp (disch := omega) only [zm_un, zm_ue], by decide⟩
      · intro i hi
        have a2 := ig i hi
        by_cases q : i = j
        · subst q
          simp (disch := omega) only [zm_un, zm_ue, true_and, and_true]
          omega
        · simp (disch := omega) only [zm_un, zm_ue, true_and, and_true]
          omega
      · unfold zIv at iv ⊢
        simp (disch := omega) only [zm_un, zm_ue, true_and, and_true]
        omega
      · intro i h1 h2
        have a2 := itr i h1 h2
        by_cases q : i = 2
        · subst q
          try rw [show (31 : Int) + 2 = 33 by decide] at a2 ⊢
          simp (disch := omega) only [zm_un, zm_ue, true_and, and_true]
          omega
        · simp (disch := omega) only [zm_un, zm_ue, true_and, and_true]
          omega
      · obtain ⟨⟨s1, s2, s3, s4⟩, m2, m3, m4, m5⟩ := im
        exact ⟨⟨fun p q1 q2 => by simp (disch := omega) only [zm_un, zm_ue]; exact s1 p q1 q2, fun p q1 q2 => by simp (disch := omega) only [zm_un, zm_ue]; exact s2 p q1 q2, by simp (disch := omega) only [zm_un, zm_ue]; exact s3, by simp (disch := omega) only [zm_un, zm_ue]; exact s4⟩, by simp (disch := omega) only [zm_un, zm_ue]; exact m2, .inl (by simp (disch := omega) only [zm_un, zm_ue]), by simp (disch := omega) only [zm_un, zm_ue]; omega, by simp (disch := omega) only [zm_un, zm_ue]; exact m5⟩
      · have pj1 := pj.1.1
        refine ⟨by simp (disch := omega) only [zm_un, zm_ue, true_and, and_true]; omega, fun i h1 h2 => ?_⟩
        have a2 := pj.1.2 i h1 h2
        by_cases q : i = j
        · subst q
          simp (disch := omega) only [zm_un, zm_ue, true_and, and_true]
          omega
        · simp (disch := omega) only [zm_un, zm_ue, true_and, and_true]
          omega
      · unfold zRa
        simp (disch := omega) only [zm_un, zm_ue, true_and, and_true]
        omega
      · intro i h1 h2
        have a2 := rg i h1 h2
        by_cases q : i = j
        · subst q
          try rw [show (31 : Int) + 2 = 33 by decide] at a2 ⊢
          simp (disch := omega) only [zm_un, zm_ue, true_and, and_true]
          have a3 := a2.1
          refine ⟨by omega, a2.2.1, a2.2.2.1, a2.2.2.2⟩
        · simp (disch := omega) only [zm_un, zm_ue, true_and, and_true]
          exact a2
      · intro i h1 h2
        have a2 := rt i h1 h2
        by_cases q : i = 2
        · subst q
          try rw [show (31 : Int) + 2 = 33 by decide] at a2 ⊢
          simp (disch := omega) only [zm_un, zm_ue, true_and, and_true]
          omega
        · simp (disch := omega) only [zm_un, zm_ue, true_and, and_true]
          exact a2
      · obtain ⟨m1, m2, m3, m4⟩ := rm
        exact ⟨fun r q1 q2 k q3 q4 => by simp (disch := omega) only [zm_un, zm_ue]; exact m1 r q1 q2 k q3 q4, fun k q1 q2 => by simp (disch := omega) only [zm_un, zm_ue]; exact m2 k q1 q2, .inl ⟨by simp (disch := omega) only [zm_un, zm_ue], by simp (disch := omega) only [zm_un, zm_ue], by simp (disch := omega) only [zm_un, zm_ue]; omega⟩, by simp (disch := omega) only [zm_un, zm_ue]; exact m4⟩
  · refine (zC157x I h_x h3 hD).2 (zK1i (by omega) (by omega) (by omega) (by omega) (fun n2 u2 _ => (zX291x h_x h3 (by omega)).2 (zK2i (by omega) (by omega) (by omega) (by omega) (zIn_e I ht (fun r j _ _ => by simp (disch := omega) only [zm_un])) (zIp_e J (fun r j _ _ => by simp (disch := omega) only [zm_un])) (zRe_e R (zIn_w I) (fun r j _ _ _ => by simp (disch := omega) only [zm_un])) ⟨1, 0, rfl, rfl, zm_us, fun q => absurd q (by decide), by decide⟩)))
