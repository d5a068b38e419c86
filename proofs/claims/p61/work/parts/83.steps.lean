/-! ===== STEPS: rules, weights, the machine's figures ===== -/
set_option maxRecDepth 65536
theorem zIc_r {e d : zm_D} (H : zIc e) (h : ∀ r j : Int, (36 ≤ r ∧ r ≤ 52) → d r j = e r j) (o4 : d 34 4 = e 34 4) (hr : (d 34 5 = 0 ∨ d 34 5 = 1) ∧ (d 34 6 = 0 ∨ d 34 6 = 1) ∧ (d 34 7 = 0 ∨ d 34 7 = 1) ∧ (d 34 8 = 0 ∨ d 34 8 = 1)) (h57 : d 5 7 = e 5 7) : zIc d := by
  have K := zIc_e (d := zm_u (zm_u (zm_u (zm_u d 34 5 (e 34 5)) 34 6 (e 34 6)) 34 7 (e 34 7)) 34 8 (e 34 8)) H (fun r j q => by simp (disch := omega) only [zm_un]; exact h r j q) (fun j q1 q2 => by
    have q : j = 4 ∨ j = 5 ∨ j = 6 ∨ j = 7 ∨ j = 8 := by omega
    rcases q with q | q | q | q | q
    all_goals subst q
    all_goals simp (disch := omega) only [zm_un, zm_ue]
    exact o4) (by simp (disch := omega) only [zm_un]; exact h57)
  obtain ⟨s, ⟨b1, b2, b3, ⟨b4, b5⟩, b6⟩, -, f⟩ := K
  have z := fun (r j : Int) (q : r ≠ 34) => (by simp (disch := omega) only [zm_un] : zm_u (zm_u (zm_u (zm_u d 34 5 (e 34 5)) 34 6 (e 34 6)) 34 7 (e 34 7)) 34 8 (e 34 8) r j = d r j)
  have z4 : zm_u (zm_u (zm_u (zm_u d 34 5 (e 34 5)) 34 6 (e 34 6)) 34 7 (e 34 7)) 34 8 (e 34 8) 34 4 = d 34 4 := by simp (disch := omega) only [zm_un]
  have c := H.2.2.1.1
  generalize zm_u (zm_u (zm_u (zm_u d 34 5 (e 34 5)) 34 6 (e 34 6)) 34 7 (e 34 7)) 34 8 (e 34 8) = D at *
  refine ⟨fun i q1 q2 => ?_, ⟨?_, ?_, ?_, ⟨?_, ?_⟩, ?_⟩, ⟨by rw [o4]; exact c, hr⟩, ?_⟩
  · obtain ⟨x1, x2, x3, x4, x5, x6⟩ := s i q1 q2
    refine ⟨zIh_e x1 (fun j _ _ => (z _ _ (by omega)).symm) (fun j => (z _ _ (by omega)).symm) z4.symm, zIh_e x2 (fun j _ _ => (z _ _ (by omega)).symm) (fun j => (z _ _ (by omega)).symm) z4.symm, ?_, ?_, ?_, ?_⟩
    · rw [← z _ _ (by omega)]; exact x3
    · rw [← z _ _ (by omega)]; exact x4
    · rw [← z _ 2 (by omega), ← z _ 4 (by omega), ← z _ 4 (by omega)]; exact x5
    · rw [← z _ 3 (by omega), ← z _ 1 (by omega), ← z _ 4 (by omega), ← z _ 5 (by omega)]; exact x6
  · rw [← z _ 1 (by omega), ← z _ 2 (by omega)]; exact b1
  · rw [← z _ 2 (by omega)]; exact b2
  · rw [← z _ 3 (by omega)]; exact b3
  · rw [← z 36 2 (by omega), ← z 36 1 (by omega), ← zms_e (fun k => z _ k (by omega))]; exact b4
  · rw [← z 36 3 (by omega), ← z 36 1 (by omega), ← zma_e (fun k => z _ k (by omega))]; exact b5
  · intro k q1 q2
    rw [← z 36 1 (by omega)] at q2
    rw [← z 37 k (by omega)]
    exact b6 k q1 q2
  · rw [← z4, ← z 5 7 (by omega), ← z 36 1 (by omega)]; exact f
theorem zIs_w {e d : zm_D} (H : zIs e) (h : ∀ r j : Int, (r = 5 ∨ r = 6 ∨ r = 8) → d r j = e r j) (hw : ∀ r : Int, 1 ≤ r → r ≤ 10 → -3 ≤ d 9 r ∧ d 9 r ≤ 3) : zIs d := by
  obtain ⟨⟨a1, a2⟩, b, c, f, g⟩ := H
  have h5 := fun j => h 5 j (by omega)
  have h6 := fun j => h 6 j (by omega)
  have h8 := fun j => h 8 j (by omega)
  refine ⟨⟨by rw [h5, h5]; exact a1, fun i q1 q2 => ?_⟩, by rw [h5]; exact b, by rw [h5]; exact c, fun r q1 q2 => by rw [zwf_e h5 h6, h8, h5]; exact f r q1 q2, hw⟩
  rw [h5] at q1 q2
  rw [h6]
  exact a2 i q1 q2
/-- a spin that stands -/
theorem zRe_sp {t : Int} {e : zm_D} (I : zIn t e) (R : zRe e) : (-1 ≤ e 61 42 ∧ e 61 42 ≤ 7) ∧ (e 61 44 = 0 ∨ e 61 44 = 1) ∧ zmsp e = zspn e := by
  obtain ⟨-, -, -, -, -, -, -, -, im, -⟩ := I
  have i7 := im.2.1
  obtain ⟨-, -, -, -, -, -, -, -, -, rm, -⟩ := R
  obtain ⟨-, -, a, -⟩ := rm
  unfold zmsp zspn
  rcases a with a | a
  · refine ⟨by omega, by omega, ?_⟩
    rw [if_neg (by omega), if_neg (by omega)]
  · refine ⟨by omega, by omega, ?_⟩
    by_cases q : e 58 7 = 0
    · rw [if_pos (by omega), if_pos (by omega)]
    · rw [if_neg (by omega), if_neg (by omega)]
theorem zP10_100 {S : zSs} {D n u : Nat} {g : Int → zk_K} {e : zm_D} {t : Int} {y : Int} (I : zIn t e) (J : zIp t e) (R : zRe e) (ht : t < 600) (hD : 40 ≤ D) (hy : y = 0 ∨ y = 1) : zE S D 338 [zv_a 1, zv_i 100, zv_i y, zv_a 160] n (zSg g) (zDg e) u (zK1 S D t n u 232 [zv_a 61, zv_i 100, zv_i y] zPi) := by
  have z : zmrl 100 = 0 := by decide
  have c4 := I.2.2.2.2.2.2.1.2.2.1
  have r4 := R.2.2.2.2.2.1.1
  have u4 := R.2.2.2.2.1
  unfold zRu at u4
  by_cases h4 : e 34 4 = 1
  · refine (zC128r_100 I h4 hD).2 (zK1i (by omega) (by omega) (by omega) (by omega) (fun n2 u2 _ => (zX232r (by decide) (by decide) (by omega) (by omega)).2 (zK2i (by omega) (by omega) (by omega) (by omega) (zIn_e I ht (fun r j _ _ => by simp (disch := omega) only [zm_un])) (zIp_e J (fun r j _ _ => by simp (disch := omega) only [zm_un])) (zRe_e R (zIn_w I) (fun r j _ _ _ => by simp (disch := omega) only [zm_un])) ⟨2, 0, rfl, rfl, zm_us, fun q => absurd q (by decide), by decide⟩)))
  have h4 : e 34 4 = 0 := by omega
  have hw := zIn_w I
  refine (zC128_100 I h4 hy hD).2 (zK1i (by omega) (by omega) (by omega) (by omega) (fun n2 u2 _ => (zX232 (by decide) (by decide) (by first | omega | (unfold zB2; omega) | (simp (disch := omega) only [zm_un, zm_ue]; omega) | (unfold zB2; simp (disch := omega) only [zm_un, zm_ue]; omega)) hy (by rw [z]; simp (disch := omega) only [zm_un]; omega) (by omega)).2 ?_))
  rw [z]
  have pj := J
  obtain ⟨it, ia, ig, iv, itr, is, ic, iw, im, il⟩ := I
  obtain ⟨ra, rg, rh, rt, ru, rs, rd, rq, rv, rm, rl⟩ := R
  refine zK2i (by omega) (by omega) (by omega) (by omega) ⟨by omega, zIa_e ia (fun j => by simp (disch := omega) only [zm_un]), zIg_e ig (fun i j _ _ => by simp (disch := omega) only [zm_un]), zIv_e iv (by simp (disch := omega) only [zm_un]), zIt_e itr (fun i _ _ => by simp (disch := omega) only [zm_un]), zIs_e is (fun r j _ => by simp (disch := omega) only [zm_un]), ?_, zWh_e iw (fun r j _ _ => by simp (disch := omega) only [zm_un]), zIm_e im (fun r j _ => by simp (disch := omega) only [zm_un]), zIl_e il (fun j _ => by simp (disch := omega) only [zm_un]) (fun j => by simp (disch := omega) only [zm_un])⟩ ⟨zIp0_e pj.1 (fun r j _ _ => by simp (disch := omega) only [zm_un]), zIz_e pj.2 (fun r j _ => by simp (disch := omega) only [zm_un])⟩ ⟨zRa_e ra (fun j _ => by simp (disch := omega) only [zm_un]) (fun j _ => by simp (disch := omega) only [zm_un]) (by simp (disch := omega) only [zm_un]) (by simp (disch := omega) only [zm_un]) (fun j _ => by simp (disch := omega) only [zm_un]) (by simp (disch := omega) only [zm_un]), zRg_e rg (fun r j _ => by simp (disch := omega) only [zm_un]), zRh_e rh (fun i j _ _ _ => by simp (disch := omega) only [zm_un]) (fun j => by simp (disch := omega) only [zm_un]) (fun j => by simp (disch := omega) only [zm_un]) (by simp (disch := omega) only [zm_un]), zRt_e rt (fun r j _ => by simp (disch := omega) only [zm_un]), ?_, zRs_e rs (fun j _ => by simp (disch := omega) only [zm_un]) (by simp (disch := omega) only [zm_un]) (by simp (disch := omega) only [zm_un]) (fun r j _ => by simp (disch := omega) only [zm_un]), zRd_e rd (by simp (disch := omega) only [zm_un]) (fun r j _ => by simp (disch := omega) only [zm_un]), fun s q1 q2 => zRq_e (rq s q1 q2) (by simp (disch := omega) only [zm_un]) (by simp (disch := omega) only [zm_un]) (by simp (disch := omega) only [zm_un]) (by simp (disch := omega) only [zm_un]) (fun r j _ => by simp (disch := omega) only [zm_un]) (fun r j _ => by simp (disch := omega) only [zm_un]), zRv_e rv (by simp (disch := omega) only [zm_un]) (fun r j _ => by simp (disch := omega) only [zm_un]) hw.1, zRm_e rm (fun j _ _ => by simp (disch := omega) only [zm_un]) (fun r j _ => by simp (disch := omega) only [zm_un]) (fun j _ _ => by simp (disch := omega) only [zm_un]), zRl_e rl (fun j _ => by simp (disch := omega) only [zm_un]) (fun j _ => by simp (disch := omega) only [zm_un]) (fun r j _ => by simp (disch := omega) only [zm_un]) hw.2⟩ ⟨0, _, rfl, rfl, by simp (disch := omega) only [zm_un, zm_ue], fun _ => by simp (disch := omega) only [zm_un, zm_ue]; rw [zw_id (by omega) (by omega)]; omega, by decide⟩
  · exact zIc_r ic (fun r j _ => by simp (disch := omega) only [zm_un]) (by simp (disch := omega) only [zm_un]) (by simp (disch := omega) only [zm_un, zm_ue, true_and, and_true]; omega) (by simp (disch := omega) only [zm_un])
  · unfold zRu
    simp (disch := omega) only [zm_un, zm_ue, true_and, and_true]
    omega
theorem zP10_117 {S : zSs} {D n u : Nat} {g : Int → zk_K} {e : zm_D} {t : Int} {y : Int} (I : zIn t e) (J : zIp t e) (R : zRe e) (ht : t < 600) (hD : 40 ≤ D) (hy : y = 0 ∨ y = 1) : zE S D 338 [zv_a 1, zv_i 117, zv_i y, zv_a 160] n (zSg g) (zDg e) u (zK1 S D t n u 232 [zv_a 61, zv_i 117, zv_i y] zPi) := by
  have z : zmrl 117 = 1 := by decide
  have c4 := I.2.2.2.2.2.2.1.2.2.1
  have r4 := R.2.2.2.2.2.1.1
  have u4 := R.2.2.2.2.1
  unfold zRu at u4
  by_cases h4 : e 34 4 = 1
  · refine (zC128r_117 I h4 hD).2 (zK1i (by omega) (by omega) (by omega) (by omega) (fun n2 u2 _ => (zX232r (by decide) (by decide) (by omega) (by omega)).2 (zK2i (by omega) (by omega) (by omega) (by omega) (zIn_e I ht (fun r j _ _ => by simp (disch := omega) only [zm_un])) (zIp_e J (fun r j _ _ => by simp (disch := omega) only [zm_un])) (zRe_e R (zIn_w I) (fun r j _ _ _ => by simp (disch := omega) only [zm_un])) ⟨2, 0, rfl, rfl, zm_us, fun q => absurd q (by decide), by decide⟩)))
  have h4 : e 34 4 = 0 := by omega
  have hw := zIn_w I
  refine (zC128_117 I h4 hy hD).2 (zK1i (by omega) (by omega) (by omega) (by omega) (fun n2 u2 _ => (zX232 (by decide) (by decide) (by first | omega | (unfold zB2; omega) | (simp (disch := omega) only [zm_un, zm_ue]; omega) | (unfold zB2; simp (disch := omega) only [zm_un, zm_ue]; omega)) hy (by rw [z]; simp (disch := omega) only [zm_un]; omega) (by omega)).2 ?_))
  rw [z]
  have pj := J
  obtain ⟨it, ia, ig, iv, itr, is, ic, iw, im, il⟩ := I
  obtain ⟨ra, rg, rh, rt, ru, rs, rd, rq, rv, rm, rl⟩ := R
  refine zK2i (by omega) (by omega) (by omega) (by omega) ⟨by omega, zIa_e ia (fun j => by simp (disch := omega) only [zm_un]), zIg_e ig (fun i j _ _ => by simp (disch := omega) only [zm_un]), zIv_e iv (by simp (disch := omega) only [zm_un]), zIt_e itr (fun i _ _ => by simp (disch := omega) only [zm_un]), zIs_e is (fun r j _ => by simp (disch := omega) only [zm_un]), ?_, zWh_e iw (fun r j _ _ => by simp (disch := omega) only [zm_un]), zIm_e im (fun r j _ => by simp (disch := omega) only [zm_un]), zIl_e il (fun j _ => by simp (disch := omega) only [zm_un]) (fun j => by simp (disch := omega) only [zm_un])⟩ ⟨zIp0_e pj.1 (fun r j _ _ => by simp (disch := omega) only [zm_un]), zIz_e pj.2 (fun r j _ => by simp (disch := omega) only [zm_un])⟩ ⟨zRa_e ra (fun j _ => by simp (disch := omega) only [zm_un]) (fun j _ => by simp (disch := omega) only [zm_un]) (by simp (disch := omega) only [zm_un]) (by simp (disch := omega) only [zm_un]) (fun j _ => by simp (disch := omega) only [zm_un]) (by simp (disch := omega) only [zm_un]), zRg_e rg (fun r j _ => by simp (disch := omega) only [zm_un]), zRh_e rh (fun i j _ _ _ => by simp (disch := omega) only [zm_un]) (fun j => by simp (disch := omega) only [zm_un]) (fun j => by simp (disch := omega) only [zm_un]) (by simp (disch := omega) only [zm_un]), zRt_e rt (fun r j _ => by simp (disch := omega) only [zm_un]), ?_, zRs_e rs (fun j _ => by simp (disch := omega) only [zm_un]) (by simp (disch := omega) only [zm_un]) (by simp (disch := omega) only [zm_un]) (fun r j _ => by simp (disch := omega) only [zm_un]), zRd_e rd (by simp (disch := omega) only [zm_un]) (fun r j _ => by simp (disch := omega) only [zm_un]), fun s q1 q2 => zRq_e (rq s q1 q2) (by simp (disch := omega) only [zm_un]) (by simp (disch := omega) only [zm_un]) (by simp (disch := omega) only [zm_un]) (by simp (disch := omega) only [zm_un]) (fun r j _ => by simp (disch := omega) only [zm_un]) (fun r j _ => by simp (disch := omega) only [zm_un]), zRv_e rv (by simp (disch := omega) only [zm_un]) (fun r j _ => by simp (disch := omega) only [zm_un]) hw.1, zRm_e rm (fun j _ _ => by simp (disch := omega) only [zm_un]) (fun r j _ => by simp (disch := omega) only [zm_un]) (fun j _ _ => by simp (disch := omega) only [zm_un]), zRl_e rl (fun j _ => by simp (disch := omega) only [zm_un]) (fun j _ => by simp (disch := omega) only [zm_un]) (fun r j _ => by simp (disch := omega) only [zm_un]) hw.2⟩ ⟨0, _, rfl, rfl, by simp (disch := omega) only [zm_un, zm_ue], fun _ => by simp (disch := omega) only [zm_un, zm_ue]; rw [zw_id (by omega) (by omega)]; omega, by decide⟩
  · exact zIc_r ic (fun r j _ => by simp (disch := omega) only [zm_un]) (by simp (disch := omega) only [zm_un]) (by simp (disch := omega) only [zm_un, zm_ue, true_and, and_true]; omega) (by simp (disch := omega) only [zm_un])
  · unfold zRu
    simp (disch := omega) only [zm_un, zm_ue, true_and, and_true]
    omega
theorem zP10_115 {S : zSs} {D n u : Nat} {g : Int → zk_K} {e : zm_D} {t : Int} {y : Int} (I : zIn t e) (J : zIp t e) (R : zRe e) (ht : t < 600) (hD : 40 ≤ D) (hy : y = 0 ∨ y = 1) : zE S D 338 [zv_a 1, zv_i 115, zv_i y, zv_a 160] n (zSg g) (zDg e) u (zK1 S D t n u 232 [zv_a 61, zv_i 115, zv_i y] zPi) := by
  have z : zmrl 115 = 2 := by decide
  have c4 := I.2.2.2.2.2.2.1.2.2.1
  have r4 := R.2.2.2.2.2.1.1
  have u4 := R.2.2.2.2.1
  unfold zRu at u4
  by_cases h4 : e 34 4 = 1
  · refine (zC128r_115 I h4 hD).2 (zK1i (by omega) (by omega) (by omega) (by omega) (fun n2 u2 _ => (zX232r (by decide) (by decide) (by omega) (by omega)).2 (zK2i (by omega) (by omega) (by omega) (by omega) (zIn_e I ht (fun r j _ _ => by simp (disch := omega) only [zm_un])) (zIp_e J (fun r j _ _ => by simp (disch := omega) only [zm_un])) (zRe_e R (zIn_w I) (fun r j _ _ _ => by simp (disch := omega) only [zm_un])) ⟨2, 0, rfl, rfl, zm_us, fun q => absurd q (by decide), by decide⟩)))
  have h4 : e 34 4 = 0 := by omega
  have hw := zIn_w I
  refine (zC128_115 I h4 hy hD).2 (zK1i (by omega) (by omega) (by omega) (by omega) (fun n2 u2 _ => (zX232 (by decide) (by decide) (by first | omega | (unfold zB2; omega) | (simp (disch := omega) only [zm_un, zm_ue]; omega) | (unfold zB2; simp (disch := omega) only [zm_un, zm_ue]; omega)) hy (by rw [z]; simp (disch := omega) only [zm_un]; omega) (by omega)).2 ?_))
  rw [z]
  have pj := J
  obtain ⟨it, ia, ig, iv, itr, is, ic, iw, im, il⟩ := I
  obtain ⟨ra, rg, rh, rt, ru, rs, rd, rq, rv, rm, rl⟩ := R
  refine zK2i (by omega) (by omega) (by omega) (by omega) ⟨by omega, zIa_e ia (fun j => by simp (disch := omega) only [zm_un]), zIg_e ig (fun i j _ _ => by simp (disch := omega) only [zm_un]), zIv_e iv (by simp (disch := omega) only [zm_un]), zIt_e itr (fun i _ _ => by simp (disch := omega) only [zm_un]), zIs_e is (fun r j _ => by simp (disch := omega) only [zm_un]), ?_, zWh_e iw (fun r j _ _ => by simp (disch := omega) only [zm_un]), zIm_e im (fun r j _ => by simp (disch := omega) only [zm_un]), zIl_e il (fun j _ => by simp (disch := omega) only [zm_un]) (fun j => by simp (disch := omega) only [zm_un])⟩ ⟨zIp0_e pj.1 (fun r j _ _ => by simp (disch := omega) only [zm_un]), zIz_e pj.2 (fun r j _ => by simp (disch := omega) only [zm_un])⟩ ⟨zRa_e ra (fun j _ => by simp (disch := omega) only [zm_un]) (fun j _ => by simp (disch := omega) only [zm_un]) (by simp (disch := omega) only [zm_un]) (by simp (disch := omega) only [zm_un]) (fun j _ => by simp (disch := omega) only [zm_un]) (by simp (disch := omega) only [zm_un]), zRg_e rg (fun r j _ => by simp (disch := omega) only [zm_un]), zRh_e rh (fun i j _ _ _ => by simp (disch := omega) only [zm_un]) (fun j => by simp (disch := omega) only [zm_un]) (fun j => by simp (disch := omega) only [zm_un]) (by simp (disch := omega) only [zm_un]), zRt_e rt (fun r j _ => by simp (disch := omega) only [zm_un]), ?_, zRs_e rs (fun j _ => by simp (disch := omega) only [zm_un]) (by simp (disch := omega) only [zm_un]) (by simp (disch := omega) only [zm_un]) (fun r j _ => by simp (disch := omega) only [zm_un]), zRd_e rd (by simp (disch := omega) only [zm_un]) (fun r j _ => by simp (disch := omega) only [zm_un]), fun s q1 q2 => zRq_e (rq s q1 q2) (by simp (disch := omega) only [zm_un]) (by simp (disch := omega) only [zm_un]) (by simp (disch := omega) only [zm_un]) (by simp (disch := omega) only [zm_un]) (fun r j _ => by simp (disch := omega) only [zm_un]) (fun r j _ => by simp (disch := omega) only [zm_un]), zRv_e rv (by simp (disch := omega) only [zm_un]) (fun r j _ => by simp (disch := omega) only [zm_un]) hw.1, zRm_e rm (fun j _ _ => by simp (disch := omega) only [zm_un]) (fun r j _ => by simp (disch := omega) only [zm_un]) (fun j _ _ => by simp (disch := omega) only [zm_un]), zRl_e rl (fun j _ => by simp (disch := omega) only [zm_un]) (fun j _ => by simp (disch := omega) only [zm_un]) (fun r j _ => by simp (disch := omega) only [zm_un]) hw.2⟩ ⟨0, _, rfl, rfl, by simp (disch := omega) only [zm_un, zm_ue], fun _ => by simp (disch := omega) only [zm_un, zm_ue]; rw [zw_id (by omega) (by omega)]; omega, by decide⟩
  · exact zIc_r ic (fun r j _ => by simp (disch := omega) only [zm_un]) (by simp (disch := omega) only [zm_un]) (by simp (disch := omega) only [zm_un, zm_ue, true_and, and_true]; omega) (by simp (disch := omega) only [zm_un])
  · unfold zRu
    simp (disch := omega) only [zm_un, zm_ue, true_and, and_true]
    omega
theorem zP10_110 {S : zSs} {D n u : Nat} {g : Int → zk_K} {e : zm_D} {t : Int} {y : Int} (I : zIn t e) (J : zIp t e) (R : zRe e) (ht : t < 600) (hD : 40 ≤ D) (hy : y = 0 ∨ y = 1) : zE S D 338 [zv_a 1, zv_i 110, zv_i y, zv_a 160] n (zSg g) (zDg e) u (zK1 S D t n u 232 [zv_a 61, zv_i 110, zv_i y] zPi) := by
  have z : zmrl 110 = 3 := by decide
  have c4 := I.2.2.2.2.2.2.1.2.2.1
  have r4 := R.2.2.2.2.2.1.1
  have u4 := R.2.2.2.2.1
  unfold zRu at u4
  by_cases h4 : e 34 4 = 1
  · refine (zC128r_110 I h4 hD).2 (zK1i (by omega) (by omega) (by omega) (by omega) (fun n2 u2 _ => (zX232r (by decide) (by decide) (by omega) (by omega)).2 (zK2i (by omega) (by omega) (by omega) (by omega) (zIn_e I ht (fun r j _ _ => by simp (disch := omega) only [zm_un])) (zIp_e J (fun r j _ _ => by simp (disch := omega) only [zm_un])) (zRe_e R (zIn_w I) (fun r j _ _ _ => by simp (disch := omega) only [zm_un])) ⟨2, 0, rfl, rfl, zm_us, fun q => absurd q (by decide), by decide⟩)))
  have h4 : e 34 4 = 0 := by omega
  have hw := zIn_w I
  refine (zC128_110 I h4 hy hD).2 (zK1i (by omega) (by omega) (by omega) (by omega) (fun n2 u2 _ => (zX232 (by decide) (by decide) (by first | omega | (unfold zB2; omega) | (simp (disch := omega) only [zm_un, zm_ue]; omega) | (unfold zB2; simp (disch := omega) only [zm_un, zm_ue]; omega)) hy (by rw [z]; simp (disch := omega) only [zm_un]; omega) (by omega)).2 ?_))
  rw [z]
  have pj := J
  obtain ⟨it, ia, ig, iv, itr, is, ic, iw, im, il⟩ := I
  obtain ⟨ra, rg, rh, rt, ru, rs, rd, rq, rv, rm, rl⟩ := R
  refine zK2i (by omega) (by omega) (by omega) (by omega) ⟨by omega, zIa_e ia (fun j => by simp (disch := omega) only [zm_un]), zIg_e ig (fun i j _ _ => by simp (disch := omega) only [zm_un]), zIv_e iv (by simp (disch := omega) only [zm_un]), zIt_e itr (fun i _ _ => by simp (disch := omega) only [zm_un]), zIs_e is (fun r j _ => by simp (disch := omega) only [zm_un]), ?_, zWh_e iw (fun r j _ _ => by simp (disch := omega) only [zm_un]), zIm_e im (fun r j _ => by simp (disch := omega) only [zm_un]), zIl_e il (fun j _ => by simp (disch := omega) only [zm_un]) (fun j => by simp (disch := omega) only [zm_un])⟩ ⟨zIp0_e pj.1 (fun r j _ _ => by simp (disch := omega) only [zm_un]), zIz_e pj.2 (fun r j _ => by simp (disch := omega) only [zm_un])⟩ ⟨zRa_e ra (fun j _ => by simp (disch := omega) only [zm_un]) (fun j _ => by simp (disch := omega) only [zm_un]) (by simp (disch := omega) only [zm_un]) (by simp (disch := omega) only [zm_un]) (fun j _ => by simp (disch := omega) only [zm_un]) (by simp (disch := omega) only [zm_un]), zRg_e rg (fun r j _ => by simp (disch := omega) only [zm_un]), zRh_e rh (fun i j _ _ _ => by simp (disch := omega) only [zm_un]) (fun j => by simp (disch := omega) only [zm_un]) (fun j => by simp (disch := omega) only [zm_un]) (by simp (disch := omega) only [zm_un]), zRt_e rt (fun r j _ => by simp (disch := omega) only [zm_un]), ?_, zRs_e rs (fun j _ => by simp (disch := omega) only [zm_un]) (by simp (disch := omega) only [zm_un]) (by simp (disch := omega) only [zm_un]) (fun r j _ => by simp (disch := omega) only [zm_un]), zRd_e rd (by simp (disch := omega) only [zm_un]) (fun r j _ => by simp (disch := omega) only [zm_un]), fun s q1 q2 => zRq_e (rq s q1 q2) (by simp (disch := omega) only [zm_un]) (by simp (disch := omega) only [zm_un]) (by simp (disch := omega) only [zm_un]) (by simp (disch := omega) only [zm_un]) (fun r j _ => by simp (disch := omega) only [zm_un]) (fun r j _ => by simp (disch := omega) only [zm_un]), zRv_e rv (by simp (disch := omega) only [zm_un]) (fun r j _ => by simp (disch := omega) only [zm_un]) hw.1, zRm_e rm (fun j _ _ => by simp (disch := omega) only [zm_un]) (fun r j _ => by simp (disch := omega) only [zm_un]) (fun j _ _ => by simp (disch := omega) only [zm_un]), zRl_e rl (fun j _ => by simp (disch := omega) only [zm_un]) (fun j _ => by simp (disch := omega) only [zm_un]) (fun r j _ => by simp (disch := omega) only [zm_un]) hw.2⟩ ⟨0, _, rfl, rfl, by simp (disch := omega) only [zm_un, zm_ue], fun _ => by simp (disch := omega) only [zm_un, zm_ue]; rw [zw_id (by omega) (by omega)]; omega, by decide⟩
  · exact zIc_r ic (fun r j _ => by simp (disch := omega) only [zm_un]) (by simp (disch := omega) only [zm_un]) (by simp (disch := omega) only [zm_un, zm_ue, true_and, and_true]; omega) (by simp (disch := omega) only [zm_un])
  · unfold zRu
    simp (disch := omega) only [zm_un, zm_ue, true_and, and_true]
    omega
theorem zP10 {S : zSs} {D n u : Nat} {g : Int → zk_K} {e : zm_D} {t : Int} {x y : Int} (I : zIn t e) (J : zIp t e) (R : zRe e) (ht : t < 600) (hD : 40 ≤ D) (hx : 0 ≤ x ∧ x < 65536) (hy : y = 0 ∨ y = 1) : zE S D 338 [zv_a 1, zv_i x, zv_i y, zv_a 160] n (zSg g) (zDg e) u (zK1 S D t n u 232 [zv_a 61, zv_i x, zv_i y] zPi) := by
  rcases (by omega : x = 100 ∨ x = 117 ∨ x = 115 ∨ x = 110 ∨ (x ≠ 100 ∧ x ≠ 117 ∧ x ≠ 115 ∧ x ≠ 110)) with q | q | q | q | q
  · subst q; exact zP10_100 I J R ht hD hy
  · subst q; exact zP10_117 I J R ht hD hy
  · subst q; exact zP10_115 I J R ht hD hy
  · subst q; exact zP10_110 I J R ht hD hy
  · refine (zC128x I hx q hD).2 (zK1i (by omega) (by omega) (by omega) (by omega) (fun n2 u2 _ => (zX232x hx (by unfold zmrl; rw [if_neg q.1, if_neg q.2.1, if_neg q.2.2.1, if_neg q.2.2.2]; decide) (by omega)).2 (zK2i (by omega) (by omega) (by omega) (by omega) (zIn_e I ht (fun r j _ _ => by simp (disch := omega) only [zm_un])) (zIp_e J (fun r j _ _ => by simp (disch := omega) only [zm_un])) (zRe_e R (zIn_w I) (fun r j _ _ _ => by simp (disch := omega) only [zm_un])) ⟨1, 0, rfl, rfl, zm_us, fun q => absurd q (by decide), by decide⟩)))
theorem zP22 {S : zSs} {D n u : Nat} {g : Int → zk_K} {e : zm_D} {t : Int} {x : Int} (I : zIn t e) (J : zIp t e) (R : zRe e) (ht : t < 600) (hD : 40 ≤ D) (h_x : -2147483648 ≤ x ∧ x < 2147483648) : zE S D 350 [zv_a 1, zv_i x, zv_a 160] n (zSg g) (zDg e) u (zK1 S D t n u 262 [zv_a 61, zv_i x] zPi) := by
  have ic := I.2.2.2.2.2.2.1
  have d1 := ic.2.1.1
  have c4 := ic.2.2.1.1
  have f4 := ic.2.2.2
  have r4 := R.2.2.2.2.2.1.1
  have rd := R.2.2.2.2.2.2.1
  have rd1 := rd.1
  by_cases h4 : e 34 4 = 1
  · have f5 := f4 h4
    by_cases hx : x = 0
    · have a := rd.2 x (by omega) (by omega)
      refine (zC140 I (by omega) (by omega) hD).2 (zK1i (by omega) (by omega) (by omega) (by omega) (fun n2 u2 _ => (zX262t (by first | omega | (unfold zB2; omega) | (simp (disch := omega) only [zm_un, zm_ue]; omega) | (unfold zB2; simp (disch := omega) only [zm_un, zm_ue]; omega)) (by first | omega | (unfold zB2; omega) | (simp (disch := omega) only [zm_un, zm_ue]; omega) | (unfold zB2; simp (disch := omega) only [zm_un, zm_ue]; omega)) (by first | omega | (unfold zB2; omega) | (simp (disch := omega) only [zm_un, zm_ue]; omega) | (unfold zB2; simp (disch := omega) only [zm_un, zm_ue]; omega)) (by omega)).2 (zK2i (by omega) (by omega) (by omega) (by omega) (zIn_e I ht (fun r j _ _ => by simp (disch := omega) only [zm_un])) (zIp_e J (fun r j _ _ => by simp (disch := omega) only [zm_un])) (zRe_e R (zIn_w I) (fun r j _ _ _ => by simp (disch := omega) only [zm_un])) ⟨0, _, rfl, rfl, by simp (disch := omega) only [zm_ue], fun _ => by simp (disch := omega) only [zm_un, zm_ue]; exact congrArg zw (by omega), by decide⟩)))
    · refine (zC140x I h_x (by omega) hD).2 (zK1i (by omega) (by omega) (by omega) (by omega) (fun n2 u2 _ => (zX262xt h_x (by omega) (by omega) (by omega) (by omega)).2 (zK2i (by omega) (by omega) (by omega) (by omega) (zIn_e I ht (fun r j _ _ => by simp (disch := omega) only [zm_un])) (zIp_e J (fun r j _ _ => by simp (disch := omega) only [zm_un])) (zRe_e R (zIn_w I) (fun r j _ _ _ => by simp (disch := omega) only [zm_un])) ⟨1, 0, rfl, rfl, zm_us, fun q => absurd q (by decide), by decide⟩)))
  · have h0 : e 34 4 = 0 := by omega
    by_cases hx : x < 0 ∨ e 36 1 ≤ x
    · refine (zC140x I h_x (by omega) hD).2 (zK1i (by omega) (by omega) (by omega) (by omega) (fun n2 u2 _ => (zX262xf h_x (by omega) (by omega) (by omega) (by omega)).2 (zK2i (by omega) (by omega) (by omega) (by omega) (zIn_e I ht (fun r j _ _ => by simp (disch := omega) only [zm_un])) (zIp_e J (fun r j _ _ => by simp (disch := omega) only [zm_un])) (zRe_e R (zIn_w I) (fun r j _ _ _ => by simp (disch := omega) only [zm_un])) ⟨1, 0, rfl, rfl, zm_us, fun q => absurd q (by decide), by decide⟩)))
    · have hx : 0 ≤ x ∧ x < e 36 1 := by omega
      have a := rd.2 x hx.1 hx.2
      refine (zC140 I hx (by omega) hD).2 (zK1i (by omega) (by omega) (by omega) (by omega) (fun n2 u2 _ => (zX262f (by first | omega | (unfold zB2; omega) | (simp (disch := omega) only [zm_un, zm_ue]; omega) | (unfold zB2; simp (disch := omega) only [zm_un, zm_ue]; omega)) (by first | omega | (unfold zB2; omega) | (simp (disch := omega) only [zm_un, zm_ue]; omega) | (unfold zB2; simp (disch := omega) only [zm_un, zm_ue]; omega)) (by first | omega | (unfold zB2; omega) | (simp (disch := omega) only [zm_un, zm_ue]; omega) | (unfold zB2; simp (disch := omega) only [zm_un, zm_ue]; omega)) (by omega)).2 (zK2i (by omega) (by omega) (by omega) (by omega) (zIn_e I ht (fun r j _ _ => by simp (disch := omega) only [zm_un])) (zIp_e J (fun r j _ _ => by simp (disch := omega) only [zm_un])) (zRe_e R (zIn_w I) (fun r j _ _ _ => by simp (disch := omega) only [zm_un])) ⟨0, _, rfl, rfl, by simp (disch := omega) only [zm_ue], fun _ => by simp (disch := omega) only [zm_un, zm_ue]; exact congrArg zw (by omega), by decide⟩)))
theorem zP28 {S : zSs} {D n u : Nat} {g : Int → zk_K} {e : zm_D} {t : Int} {x y : Int} (I : zIn t e) (J : zIp t e) (R : zRe e) (ht : t < 600) (hD : 40 ≤ D) (h_x : -2147483648 ≤ x ∧ x < 2147483648) (h_y : -2147483648 ≤ y ∧ y < 2147483648) : zE S D 356 [zv_a 1, zv_i x, zv_i y, zv_a 160] n (zSg g) (zDg e) u (zK1 S D t n u 274 [zv_a 61, zv_i x, zv_i y] zPi) := by
  by_cases h : (1 ≤ x ∧ x ≤ 10) ∧ (-3 ≤ y ∧ y ≤ 3)
  · have hw := zIn_w I
    have a := R.2.2.2.2.2.1.2.2.1 x h.1.1 h.1.2
    refine (zC146 I h.1 h.2 hD).2 (zK1i (by omega) (by omega) (by omega) (by omega) (fun n2 u2 _ => (zX274 h.1 h.2 (by omega)).2 ?_))
    have pj := J
    obtain ⟨it, ia, ig, iv, itr, is, ic, iw, im, il⟩ := I
    obtain ⟨ra, rg, rh, rt, ru, rs, rd, rq, rv, rm, rl⟩ := R
    refine zK2i (by omega) (by omega) (by omega) (by omega) ⟨by omega, zIa_e ia (fun j => by simp (disch := omega) only [zm_un]), zIg_e ig (fun i j _ _ => by simp (disch := omega) only [zm_un]), zIv_e iv (by simp (disch := omega) only [zm_un]), zIt_e itr (fun i _ _ => by simp (disch := omega) only [zm_un]), ?_, zIc_e ic (fun r j _ => by simp (disch := omega) only [zm_un]) (fun j _ _ => by simp (disch := omega) only [zm_un]) (by simp (disch := omega) only [zm_un]), zWh_e iw (fun r j _ _ => by simp (disch := omega) only [zm_un]), zIm_e im (fun r j _ => by simp (disch := omega) only [zm_un]), zIl_e il (fun j _ => by simp (disch := omega) only [zm_un]) (fun j => by simp (disch := omega) only [zm_un])⟩ ⟨zIp0_e pj.1 (fun r j _ _ => by simp (disch := omega) only [zm_un]), zIz_e pj.2 (fun r j _ => by simp (disch := omega) only [zm_un])⟩ ⟨zRa_e ra (fun j _ => by simp (disch := omega) only [zm_un]) (fun j _ => by simp (disch := omega) only [zm_un]) (by simp (disch := omega) only [zm_un]) (by simp (disch := omega) only [zm_un]) (fun j _ => by simp (disch := omega) only [zm_un]) (by simp (disch := omega) only [zm_un]), zRg_e rg (fun r j _ => by simp (disch := omega) only [zm_un]), zRh_e rh (fun i j _ _ _ => by simp (disch := omega) only [zm_un]) (fun j => by simp (disch := omega) only [zm_un]) (fun j => by simp (disch := omega) only [zm_un]) (by simp (disch := omega) only [zm_un]), zRt_e rt (fun r j _ => by simp (disch := omega) only [zm_un]), zRu_e ru (fun j _ _ => by simp (disch := omega) only [zm_un]) (fun j => by simp (disch := omega) only [zm_un]), ?_, zRd_e rd (by simp (disch := omega) only [zm_un]) (fun r j _ => by simp (disch := omega) only [zm_un]), fun s q1 q2 => zRq_e (rq s q1 q2) (by simp (disch := omega) only [zm_un]) (by simp (disch := omega) only [zm_un]) (by simp (disch := omega) only [zm_un]) (by simp (disch := omega) only [zm_un]) (fun r j _ => by simp (disch := omega) only [zm_un]) (fun r j _ => by simp (disch := omega) only [zm_un]), zRv_e rv (by simp (disch := omega) only [zm_un]) (fun r j _ => by simp (disch := omega) only [zm_un]) hw.1, zRm_e rm (fun j _ _ => by simp (disch := omega) only [zm_un]) (fun r j _ => by simp (disch := omega) only [zm_un]) (fun j _ _ => by simp (disch := omega) only [zm_un]), zRl_e rl (fun j _ => by simp (disch := omega) only [zm_un]) (fun j _ => by simp (disch := omega) only [zm_un]) (fun r j _ => by simp (disch := omega) only [zm_un]) hw.2⟩ ⟨0, _, rfl, rfl, by simp (disch := omega) only [zm_un, zm_ue], fun _ => by simp (disch := omega) only [zm_un, zm_ue]; exact congrArg zw a.symm, by decide⟩
    · refine zIs_w is (fun r j _ => by simp (disch := omega) only [zm_un]) (fun r h1 h2 => ?_)
      have b := is.2.2.2.2 r h1 h2
      by_cases q : r = x
      · subst q
        simp (disch := omega) only [zm_un, zm_ue]
        exact h.2
      · simp (disch := omega) only [zm_un]
        exact b
    · obtain ⟨s1, s2, s3, s4⟩ := rs
      refine ⟨by simp (disch := omega) only [zm_un]; exact s1, fun k q1 q2 => ?_, fun r q1 q2 => ?_, by simp (disch := omega) only [zm_un]; exact s4⟩
      · simp (disch := omega) only [zm_un] at q2 ⊢
        exact s2 k q1 q2
      · have b := s3 r q1 q2
        by_cases q : r = x
        · subst q
          simp (disch := omega) only [zm_un, zm_ue]
        · simp (disch := omega) only [zm_un]
          exact b
  · refine (zC146x I h_x h_y h hD).2 (zK1i (by omega) (by omega) (by omega) (by omega) (fun n2 u2 _ => (zX274x h_x h_y h (by omega)).2 (zK2i (by omega) (by omega) (by omega) (by omega) (zIn_e I ht (fun r j _ _ => by simp (disch := omega) only [zm_un])) (zIp_e J (fun r j _ _ => by simp (disch := omega) only [zm_un])) (zRe_e R (zIn_w I) (fun r j _ _ _ => by simp (disch := omega) only [zm_un])) ⟨1, 0, rfl, rfl, zm_us, fun q => absurd q (by decide), by decide⟩)))
theorem zmsu_e (a b c d : Int) : zsp a b c d = zmsu c a d b := by
  unfold zsp zmsu
  by_cases q : 3 ≤ a ∧ 3 ≤ c ∧ 3 * d * a ≤ b * c
  · rw [if_pos q, if_pos ⟨q.2.1, q.1, q.2.2⟩]
  · rw [if_neg q, if_neg (fun p => q ⟨p.2.1, p.1, p.2.2⟩)]
theorem zmsu_w (a b c d : Int) : zw (zmsu a b c d) = zmsu a b c d := by
  unfold zmsu
  split <;> decide
theorem zP31 {S : zSs} {D n u : Nat} {g : Int → zk_K} {e : zm_D} {t : Int} {x : Int} (I : zIn t e) (J : zIp t e) (R : zRe e) (ht : t < 600) (hD : 40 ≤ D) (h_x : -2147483648 ≤ x ∧ x < 2147483648) : zE S D 358 [zv_a 1, zv_i x, zv_a 160] n (zSg g) (zDg e) u (zK1 S D t n u 278 [zv_a 61, zv_i x] zPi) := by
  have i9 := I.2.1.1
  have r31 := R.1.1.1
  by_cases hx : x < 0 ∨ e 1 9 ≤ x
  · refine (zC149x I h_x hx hD).2 (zK1i (by omega) (by omega) (by omega) (by omega) (fun n2 u2 _ => (zX278x h_x (by omega) (by omega) (by omega)).2 (zK2i (by omega) (by omega) (by omega) (by omega) (zIn_e I ht (fun r j _ _ => by simp (disch := omega) only [zm_un])) (zIp_e J (fun r j _ _ => by simp (disch := omega) only [zm_un])) (zRe_e R (zIn_w I) (fun r j _ _ _ => by simp (disch := omega) only [zm_un])) ⟨1, 0, rfl, rfl, zm_us, fun q => absurd q (by decide), by decide⟩)))
  have hx : 0 ≤ x ∧ x < e 1 9 := by omega
  obtain ⟨-, ⟨a1, a2, a3, a4⟩, -⟩ := R.2.1 x hx.1 (by omega)
  have b := I.2.2.1 x (by omega)
  have it := I.1
  refine (zC149 I hx hD).2 (zK1i (by omega) (by omega) (by omega) (by omega) (fun n2 u2 _ => (zX278 (by first | omega | (unfold zB2; omega) | (simp (disch := omega) only [zm_un, zm_ue]; omega) | (unfold zB2; simp (disch := omega) only [zm_un, zm_ue]; omega)) (by first | omega | (unfold zB2; omega) | (simp (disch := omega) only [zm_un, zm_ue]; omega) | (unfold zB2; simp (disch := omega) only [zm_un, zm_ue]; omega)) (by first | omega | (unfold zB2; omega) | (simp (disch := omega) only [zm_un, zm_ue]; omega) | (unfold zB2; simp (disch := omega) only [zm_un, zm_ue]; omega)) (by first | omega | (unfold zB2; omega) | (simp (disch := omega) only [zm_un, zm_ue]; omega) | (unfold zB2; simp (disch := omega) only [zm_un, zm_ue]; omega)) (by first | omega | (unfold zB2; omega) | (simp (disch := omega) only [zm_un, zm_ue]; omega) | (unfold zB2; simp (disch := omega) only [zm_un, zm_ue]; omega)) (by first | omega | (unfold zB2; omega) | (simp (disch := omega) only [zm_un, zm_ue]; omega) | (unfold zB2; simp (disch := omega) only [zm_un, zm_ue]; omega)) (by omega)).2 (zK2i (by omega) (by omega) (by omega) (by omega) (zIn_e I ht (fun r j _ _ => by simp (disch := omega) only [zm_un])) (zIp_e J (fun r j _ _ => by simp (disch := omega) only [zm_un])) (zRe_e R (zIn_w I) (fun r j _ _ _ => by simp (disch := omega) only [zm_un])) ⟨0, _, rfl, rfl, by simp (disch := omega) only [zm_ue], fun _ => by simp (disch := omega) only [zm_un, zm_ue]; rw [zmsu_w, zmsu_e, a1, a2, a3, a4], by decide⟩)))
theorem zP32 {S : zSs} {D n u : Nat} {g : Int → zk_K} {e : zm_D} {t : Int} (I : zIn t e) (J : zIp t e) (R : zRe e) (ht : t < 600) (hD : 40 ≤ D) : zE S D 150 [zv_a 1] n (zSg g) (zDg e) u (zK1 S D t n u 279 [zv_a 61] zPd) := by
  have a := R.1
  unfold zRa at a
  refine (zC150 I hD).2 (zK1i (by omega) (by omega) (by omega) (by omega) (fun n2 u2 _ => (zX279).2 (zK2i (by omega) (by omega) (by omega) (by omega) (zIn_e I ht (fun r j _ _ => by simp (disch := omega) only [zm_un])) (zIp_e J (fun r j _ _ => by simp (disch := omega) only [zm_un])) (zRe_e R (zIn_w I) (fun r j _ _ _ => by simp (disch := omega) only [zm_un])) ⟨by exact congrArg zv_i (by omega), by simp (disch := omega) only [zm_ue]⟩)))
