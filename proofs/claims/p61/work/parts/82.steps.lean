/-! ===== STEPS: chips, limits, trays ===== -/
set_option maxRecDepth 65536
theorem zP1 {S : zSs} {D n u : Nat} {g : Int → zk_K} {e : zm_D} {t : Int} {x y : Int} (I : zIn t e) (J : zIp t e) (R : zRe e) (ht : t < 600) (hD : 40 ≤ D) (h_x : -2147483648 ≤ x ∧ x < 2147483648) (h_y : -2147483648 ≤ y ∧ y < 2147483648) : zE S D 330 [zv_a 1, zv_i x, zv_i y, zv_a 160] n (zSg g) (zDg e) u (zK1 S D t n u 216 [zv_a 61, zv_i x, zv_i y] zPi) := by
  have i9 := I.2.1.1
  have r31 := R.1.1.1
  by_cases hx : x < 0 ∨ e 1 9 ≤ x
  · refine (zC119n I h_x hx hD).2 (zK1i (by omega) (by omega) (by omega) (by omega) (fun n2 u2 _ => (zX216n h_x (by omega) (by omega) (by omega)).2 (zK2i (by omega) (by omega) (by omega) (by omega) (zIn_e I ht (fun r j _ _ => by simp (disch := omega) only [zm_un])) (zIp_e J (fun r j _ _ => by simp (disch := omega) only [zm_un])) (zRe_e R (zIn_w I) (fun r j _ _ _ => by simp (disch := omega) only [zm_un])) ⟨1, 0, rfl, rfl, zm_us, fun q => absurd q (by decide), by decide⟩)))
  have hx : 0 ≤ x ∧ x < e 1 9 := by omega
  by_cases hy : y < 1 ∨ 9999 < y
  · refine (zC119x I hx h_y hy hD).2 (zK1i (by omega) (by omega) (by omega) (by omega) (fun n2 u2 _ => (zX216x (by omega) (by omega) h_y hy (by omega)).2 (zK2i (by omega) (by omega) (by omega) (by omega) (zIn_e I ht (fun r j _ _ => by simp (disch := omega) only [zm_un])) (zIp_e J (fun r j _ _ => by simp (disch := omega) only [zm_un])) (zRe_e R (zIn_w I) (fun r j _ _ _ => by simp (disch := omega) only [zm_un])) ⟨2, 0, rfl, rfl, zm_us, fun q => absurd q (by decide), by decide⟩)))
  have hy : 1 ≤ y ∧ y ≤ 9999 := by omega
  have a := R.2.1 x hx.1 (by omega)
  have b := I.2.2.1 x (by omega)
  have c := I.2.2.2.1
  have f := R.1.1
  unfold zIv at c
  have it := I.1
  by_cases hf : e (15 + 2 * x) 1 < y ∨ (y ≤ e (15 + 2 * x) 1 ∧ e 4 0 < y)
  · refine (zC119f I hx hy hf hD).2 (zK1i (by omega) (by omega) (by omega) (by omega) (fun n2 u2 _ => (zX216f (by first | omega | (unfold zB2; omega) | (simp (disch := omega) only [zm_un, zm_ue]; omega) | (unfold zB2; simp (disch := omega) only [zm_un, zm_ue]; omega)) (by first | omega | (unfold zB2; omega) | (simp (disch := omega) only [zm_un, zm_ue]; omega) | (unfold zB2; simp (disch := omega) only [zm_un, zm_ue]; omega)) hy (by first | omega | (unfold zB2; omega) | (simp (disch := omega) only [zm_un, zm_ue]; omega) | (unfold zB2; simp (disch := omega) only [zm_un, zm_ue]; omega)) (by first | omega | (unfold zB2; omega) | (simp (disch := omega) only [zm_un, zm_ue]; omega) | (unfold zB2; simp (disch := omega) only [zm_un, zm_ue]; omega)) (by first | omega | (unfold zB2; omega) | (simp (disch := omega) only [zm_un, zm_ue]; omega) | (unfold zB2; simp (disch := omega) only [zm_un, zm_ue]; omega)) (by omega)).2 (zK2i (by omega) (by omega) (by omega) (by omega) (zIn_e I ht (fun r j _ _ => by simp (disch := omega) only [zm_un])) (zIp_e J (fun r j _ _ => by simp (disch := omega) only [zm_un])) (zRe_e R (zIn_w I) (fun r j _ _ _ => by simp (disch := omega) only [zm_un])) ⟨3, 0, rfl, rfl, zm_us, fun q => absurd q (by decide), by decide⟩)))
  have hw := zIn_w I
  refine (zC119 I hx hy (by omega) hD).2 (zK1i (by omega) (by omega) (by omega) (by omega) (fun n2 u2 _ => (zX216 (by first | omega | (unfold zB2; omega) | (simp (disch := omega) only [zm_un, zm_ue]; omega) | (unfold zB2; simp (disch := omega) only [zm_un, zm_ue]; omega)) (by first | omega | (unfold zB2; omega) | (simp (disch := omega) only [zm_un, zm_ue]; omega) | (unfold zB2; simp (disch := omega) only [zm_un, zm_ue]; omega)) hy (by first | omega | (unfold zB2; omega) | (simp (disch := omega) only [zm_un, zm_ue]; omega) | (unfold zB2; simp (disch := omega) only [zm_un, zm_ue]; omega)) (by first | omega | (unfold zB2; omega) | (simp (disch := omega) only [zm_un, zm_ue]; omega) | (unfold zB2; simp (disch := omega) only [zm_un, zm_ue]; omega)) (by first | omega | (unfold zB2; omega) | (simp (disch := omega) only [zm_un, zm_ue]; omega) | (unfold zB2; simp (disch := omega) only [zm_un, zm_ue]; omega)) (by first | omega | (unfold zB2; omega) | (simp (disch := omega) only [zm_un, zm_ue]; omega) | (unfold zB2; simp (disch := omega) only [zm_un, zm_ue]; omega)) (by omega)).2 ?_))
  have pj := J
  obtain ⟨it, ia, ig, iv, itr, is, ic, iw, im, il⟩ := I
  obtain ⟨ra, rg, rh, rt, ru, rs, rd, rq, rv, rm, rl⟩ := R
  refine zK2i (by omega) (by omega) (by omega) (by omega) ⟨by omega, zIa_e ia (fun j => by simp (disch := omega) only [zm_un]), ?_, ?_, zIt_e itr (fun i _ _ => by simp (disch := omega) only [zm_un]), zIs_e is (fun r j _ => by simp (disch := omega) only [zm_un]), zIc_e ic (fun r j _ => by simp (disch := omega) only [zm_un]) (fun j _ _ => by simp (disch := omega) only [zm_un]) (by simp (disch := omega) only [zm_un]), zWh_e iw (fun r j _ _ => by simp (disch := omega) only [zm_un]), zIm_e im (fun r j _ => by simp (disch := omega) only [zm_un]), zIl_e il (fun j _ => by simp (disch := omega) only [zm_un]) (fun j => by simp (disch := omega) only [zm_un])⟩ ⟨?_, zIz_g pj.2 hx (fun r j _ => by simp (disch := omega) only [zm_un])⟩ ⟨?_, ?_, zRh_e rh (fun i j _ _ _ => by simp (disch := omega) only [zm_un]) (fun j => by simp (disch := omega) only [zm_un]) (fun j => by simp (disch := omega) only [zm_un]) (by simp (disch := omega) only [zm_un]), zRt_e rt (fun r j _ => by simp (disch := omega) only [zm_un]), zRu_e ru (fun j _ _ => by simp (disch := omega) only [zm_un]) (fun j => by simp (disch := omega) only [zm_un]), zRs_e rs (fun j _ => by simp (disch := omega) only [zm_un]) (by simp (disch := omega) only [zm_un]) (by simp (disch := omega) only [zm_un]) (fun r j _ => by simp (disch := omega) only [zm_un]), zRd_e rd (by simp (disch := omega) only [zm_un]) (fun r j _ => by simp (disch := omega) only [zm_un]), fun s q1 q2 => zRq_e (rq s q1 q2) (by simp (disch := omega) only [zm_un]) (by simp (disch := omega) only [zm_un]) (by simp (disch := omega) only [zm_un]) (by simp (disch := omega) only [zm_un]) (fun r j _ => by simp (disch := omega) only [zm_un]) (fun r j _ => by simp (disch := omega) only [zm_un]), zRv_e rv (by simp (disch := omega) only [zm_un]) (fun r j _ => by simp (disch := omega) only [zm_un]) hw.1, zRm_e rm (fun j _ _ => by simp (disch := omega) only [zm_un]) (fun r j _ => by simp (disch := omega) only [zm_un]) (fun j _ _ => by simp (disch := omega) only [zm_un]), zRl_e rl (fun j _ => by simp (disch := omega) only [zm_un]) (fun j _ => by simp (disch := omega) only [zm_un]) (fun r j _ => by simp (disch := omega) only [zm_un]) hw.2⟩ ⟨0, _, rfl, rfl, by simp (disch := omega) only [zm_un, zm_ue], fun _ => by simp (disch := omega) only [zm_un, zm_ue]; exact congrArg zw (by omega), by decide⟩
  · intro i hi
    have a2 := ig i hi
    by_cases q : i = x
    · subst q
      simp (disch := omega) only [zm_un, zm_ue, true_and, and_true]
      omega
    · simp (disch := omega) only [zm_un, zm_ue, true_and, and_true]
      omega
  · unfold zIv at iv ⊢
    simp (disch := omega) only [zm_un, zm_ue, true_and, and_true]
    omega
  · have pj1 := pj.1.1
    refine ⟨by simp (disch := omega) only [zm_un, zm_ue, true_and, and_true]; omega, fun i h1 h2 => ?_⟩
    have a2 := pj.1.2 i h1 h2
    by_cases q : i = x
    · subst q
      simp (disch := omega) only [zm_un, zm_ue, true_and, and_true]
      omega
    · simp (disch := omega) only [zm_un, zm_ue, true_and, and_true]
      omega
  · unfold zRa at ra ⊢
    simp (disch := omega) only [zm_un, zm_ue, true_and, and_true]
    omega
  · intro i h1 h2
    have a2 := rg i h1 h2
    by_cases q : i = x
    · subst q
      simp (disch := omega) only [zm_un, zm_ue, true_and, and_true]
      refine ⟨?_, a2.2.1, a2.2.2.1, a2.2.2.2⟩
      have a3 := a2.1
      simp only [a3, and_true, true_and]
    · simp (disch := omega) only [zm_un, zm_ue, true_and, and_true]
      exact a2
theorem zP2 {S : zSs} {D n u : Nat} {g : Int → zk_K} {e : zm_D} {t : Int} {x y : Int} (I : zIn t e) (J : zIp t e) (R : zRe e) (ht : t < 600) (hD : 40 ≤ D) (h_x : -2147483648 ≤ x ∧ x < 2147483648) (h_y : -2147483648 ≤ y ∧ y < 2147483648) : zE S D 331 [zv_a 1, zv_i x, zv_i y, zv_a 160] n (zSg g) (zDg e) u (zK1 S D t n u 217 [zv_a 61, zv_i x, zv_i y] zPi) := by
  have i9 := I.2.1.1
  have r31 := R.1.1.1
  by_cases hx : x < 0 ∨ e 1 9 ≤ x
  · refine (zC120n I h_x hx hD).2 (zK1i (by omega) (by omega) (by omega) (by omega) (fun n2 u2 _ => (zX217n h_x (by omega) (by omega) (by omega)).2 (zK2i (by omega) (by omega) (by omega) (by omega) (zIn_e I ht (fun r j _ _ => by simp (disch := omega) only [zm_un])) (zIp_e J (fun r j _ _ => by simp (disch := omega) only [zm_un])) (zRe_e R (zIn_w I) (fun r j _ _ _ => by simp (disch := omega) only [zm_un])) ⟨1, 0, rfl, rfl, zm_us, fun q => absurd q (by decide), by decide⟩)))
  have hx : 0 ≤ x ∧ x < e 1 9 := by omega
  by_cases hy : y < 1 ∨ 99999 < y
  · refine (zC120x I hx h_y hy hD).2 (zK1i (by omega) (by omega) (by omega) (by omega) (fun n2 u2 _ => (zX217x (by omega) (by omega) h_y hy (by omega)).2 (zK2i (by omega) (by omega) (by omega) (by omega) (zIn_e I ht (fun r j _ _ => by simp (disch := omega) only [zm_un])) (zIp_e J (fun r j _ _ => by simp (disch := omega) only [zm_un])) (zRe_e R (zIn_w I) (fun r j _ _ _ => by simp (disch := omega) only [zm_un])) ⟨2, 0, rfl, rfl, zm_us, fun q => absurd q (by decide), by decide⟩)))
  have hy : 1 ≤ y ∧ y ≤ 99999 := by omega
  have a := R.2.1 x hx.1 (by omega)
  have b := I.2.2.1 x (by omega)
  have c := I.2.2.2.1
  have f := R.1.1
  unfold zIv at c
  have it := I.1
  by_cases hf : e (15 + 2 * x) 2 < y
  · refine (zC120f I hx hy hf hD).2 (zK1i (by omega) (by omega) (by omega) (by omega) (fun n2 u2 _ => (zX217f (by first | omega | (unfold zB2; omega) | (simp (disch := omega) only [zm_un, zm_ue]; omega) | (unfold zB2; simp (disch := omega) only [zm_un, zm_ue]; omega)) (by first | omega | (unfold zB2; omega) | (simp (disch := omega) only [zm_un, zm_ue]; omega) | (unfold zB2; simp (disch := omega) only [zm_un, zm_ue]; omega)) hy (by first | omega | (unfold zB2; omega) | (simp (disch := omega) only [zm_un, zm_ue]; omega) | (unfold zB2; simp (disch := omega) only [zm_un, zm_ue]; omega)) (by first | omega | (unfold zB2; omega) | (simp (disch := omega) only [zm_un, zm_ue]; omega) | (unfold zB2; simp (disch := omega) only [zm_un, zm_ue]; omega)) (by omega)).2 (zK2i (by omega) (by omega) (by omega) (by omega) (zIn_e I ht (fun r j _ _ => by simp (disch := omega) only [zm_un])) (zIp_e J (fun r j _ _ => by simp (disch := omega) only [zm_un])) (zRe_e R (zIn_w I) (fun r j _ _ _ => by simp (disch := omega) only [zm_un])) ⟨3, 0, rfl, rfl, zm_us, fun q => absurd q (by decide), by decide⟩)))
  have hw := zIn_w I
  refine (zC120 I hx hy (by omega) hD).2 (zK1i (by omega) (by omega) (by omega) (by omega) (fun n2 u2 _ => (zX217 (by first | omega | (unfold zB2; omega) | (simp (disch := omega) only [zm_un, zm_ue]; omega) | (unfold zB2; simp (disch := omega) only [zm_un, zm_ue]; omega)) (by first | omega | (unfold zB2; omega) | (simp (disch := omega) only [zm_un, zm_ue]; omega) | (unfold zB2; simp (disch := omega) only [zm_un, zm_ue]; omega)) hy (by first | omega | (unfold zB2; omega) | (simp (disch := omega) only [zm_un, zm_ue]; omega) | (unfold zB2; simp (disch := omega) only [zm_un, zm_ue]; omega)) (by first | omega | (unfold zB2; omega) | (simp (disch := omega) only [zm_un, zm_ue]; omega) | (unfold zB2; simp (disch := omega) only [zm_un, zm_ue]; omega)) (by omega)).2 ?_))
  have pj := J
  obtain ⟨it, ia, ig, iv, itr, is, ic, iw, im, il⟩ := I
  obtain ⟨ra, rg, rh, rt, ru, rs, rd, rq, rv, rm, rl⟩ := R
  refine zK2i (by omega) (by omega) (by omega) (by omega) ⟨by omega, zIa_e ia (fun j => by simp (disch := omega) only [zm_un]), ?_, ?_, zIt_e itr (fun i _ _ => by simp (disch := omega) only [zm_un]), zIs_e is (fun r j _ => by simp (disch := omega) only [zm_un]), zIc_e ic (fun r j _ => by simp (disch := omega) only [zm_un]) (fun j _ _ => by simp (disch := omega) only [zm_un]) (by simp (disch := omega) only [zm_un]), zWh_e iw (fun r j _ _ => by simp (disch := omega) only [zm_un]), zIm_e im (fun r j _ => by simp (disch := omega) only [zm_un]), zIl_e il (fun j _ => by simp (disch := omega) only [zm_un]) (fun j => by simp (disch := omega) only [zm_un])⟩ ⟨?_, zIz_e pj.2 (fun r j _ => by simp (disch := omega) only [zm_un])⟩ ⟨?_, ?_, zRh_e rh (fun i j _ _ _ => by simp (disch := omega) only [zm_un]) (fun j => by simp (disch := omega) only [zm_un]) (fun j => by simp (disch := omega) only [zm_un]) (by simp (disch := omega) only [zm_un]), zRt_e rt (fun r j _ => by simp (disch := omega) only [zm_un]), zRu_e ru (fun j _ _ => by simp (disch := omega) only [zm_un]) (fun j => by simp (disch := omega) only [zm_un]), zRs_e rs (fun j _ => by simp (disch := omega) only [zm_un]) (by simp (disch := omega) only [zm_un]) (by simp (disch := omega) only [zm_un]) (fun r j _ => by simp (disch := omega) only [zm_un]), zRd_e rd (by simp (disch := omega) only [zm_un]) (fun r j _ => by simp (disch := omega) only [zm_un]), fun s q1 q2 => zRq_e (rq s q1 q2) (by simp (disch := omega) only [zm_un]) (by simp (disch := omega) only [zm_un]) (by simp (disch := omega) only [zm_un]) (by simp (disch := omega) only [zm_un]) (fun r j _ => by simp (disch := omega) only [zm_un]) (fun r j _ => by simp (disch := omega) only [zm_un]), zRv_e rv (by simp (disch := omega) only [zm_un]) (fun r j _ => by simp (disch := omega) only [zm_un]) hw.1, zRm_e rm (fun j _ _ => by simp (disch := omega) only [zm_un]) (fun r j _ => by simp (disch := omega) only [zm_un]) (fun j _ _ => by simp (disch := omega) only [zm_un]), zRl_e rl (fun j _ => by simp (disch := omega) only [zm_un]) (fun j _ => by simp (disch := omega) only [zm_un]) (fun r j _ => by simp (disch := omega) only [zm_un]) hw.2⟩ ⟨0, _, rfl, rfl, by simp (disch := omega) only [zm_un, zm_ue], fun _ => by simp (disch := omega) only [zm_un, zm_ue]; exact congrArg zw (by omega), by decide⟩
  · intro i hi
    have a2 := ig i hi
    by_cases q : i = x
    · subst q
      simp (disch := omega) only [zm_un, zm_ue, true_and, and_true]
      omega
    · simp (disch := omega) only [zm_un, zm_ue, true_and, and_true]
      omega
  · unfold zIv at iv ⊢
    simp (disch := omega) only [zm_un, zm_ue, true_and, and_true]
    omega
  · have pj1 := pj.1.1
    refine ⟨by simp (disch := omega) only [zm_un, zm_ue, true_and, and_true]; omega, fun i h1 h2 => ?_⟩
    have a2 := pj.1.2 i h1 h2
    by_cases q : i = x
    · subst q
      simp (disch := omega) only [zm_un, zm_ue, true_and, and_true]
      omega
    · simp (disch := omega) only [zm_un, zm_ue, true_and, and_true]
      omega
  · unfold zRa at ra ⊢
    simp (disch := omega) only [zm_un, zm_ue, true_and, and_true]
    omega
  · intro i h1 h2
    have a2 := rg i h1 h2
    by_cases q : i = x
    · subst q
      simp (disch := omega) only [zm_un, zm_ue, true_and, and_true]
      refine ⟨?_, a2.2.1, a2.2.2.1, a2.2.2.2⟩
      have a3 := a2.1
      simp only [a3, and_true, true_and]
    · simp (disch := omega) only [zm_un, zm_ue, true_and, and_true]
      exact a2
theorem zP6 {S : zSs} {D n u : Nat} {g : Int → zk_K} {e : zm_D} {t : Int} {x y : Int} (I : zIn t e) (J : zIp t e) (R : zRe e) (ht : t < 600) (hD : 40 ≤ D) (h_x : -2147483648 ≤ x ∧ x < 2147483648) (h_y : -2147483648 ≤ y ∧ y < 2147483648) : zE S D 335 [zv_a 1, zv_i x, zv_i y, zv_a 160] n (zSg g) (zDg e) u (zK1 S D t n u 226 [zv_a 61, zv_i x, zv_i y] zPi) := by
  have i9 := I.2.1.1
  have r31 := R.1.1.1
  by_cases hx : x < 0 ∨ 3 ≤ x
  · refine (zC124n I h_x hx hD).2 (zK1i (by omega) (by omega) (by omega) (by omega) (fun n2 u2 _ => (zX226n h_x hx (by omega)).2 (zK2i (by omega) (by omega) (by omega) (by omega) (zIn_e I ht (fun r j _ _ => by simp (disch := omega) only [zm_un])) (zIp_e J (fun r j _ _ => by simp (disch := omega) only [zm_un])) (zRe_e R (zIn_w I) (fun r j _ _ _ => by simp (disch := omega) only [zm_un])) ⟨1, 0, rfl, rfl, zm_us, fun q => absurd q (by decide), by decide⟩)))
  have hx : 0 ≤ x ∧ x < 3 := by omega
  by_cases hy : y < 1 ∨ 9999 < y
  · refine (zC124x I hx h_y hy hD).2 (zK1i (by omega) (by omega) (by omega) (by omega) (fun n2 u2 _ => (zX226x hx h_y hy (by omega)).2 (zK2i (by omega) (by omega) (by omega) (by omega) (zIn_e I ht (fun r j _ _ => by simp (disch := omega) only [zm_un])) (zIp_e J (fun r j _ _ => by simp (disch := omega) only [zm_un])) (zRe_e R (zIn_w I) (fun r j _ _ _ => by simp (disch := omega) only [zm_un])) ⟨2, 0, rfl, rfl, zm_us, fun q => absurd q (by decide), by decide⟩)))
  have hy : 1 ≤ y ∧ y ≤ 9999 := by omega
  have a := R.2.2.2.1 x hx.1 hx.2
  have b := I.2.2.2.2.1 x hx.1 hx.2
  have c := I.2.2.2.1
  have f := R.1.1
  unfold zIv at c
  have it := I.1
  by_cases hf : e 4 0 < y
  · refine (zC124f I hx hy hf hD).2 (zK1i (by omega) (by omega) (by omega) (by omega) (fun n2 u2 _ => (zX226f hx hy (by first | omega | (unfold zB2; omega) | (simp (disch := omega) only [zm_un, zm_ue]; omega) | (unfold zB2; simp (disch := omega) only [zm_un, zm_ue]; omega)) (by first | omega | (unfold zB2; omega) | (simp (disch := omega) only [zm_un, zm_ue]; omega) | (unfold zB2; simp (disch := omega) only [zm_un, zm_ue]; omega)) (by omega)).2 (zK2i (by omega) (by omega) (by omega) (by omega) (zIn_e I ht (fun r j _ _ => by simp (disch := omega) only [zm_un])) (zIp_e J (fun r j _ _ => by simp (disch := omega) only [zm_un])) (zRe_e R (zIn_w I) (fun r j _ _ _ => by simp (disch := omega) only [zm_un])) ⟨3, 0, rfl, rfl, zm_us, fun q => absurd q (by decide), by decide⟩)))
  have hw := zIn_w I
  refine (zC124 I hx hy (by omega) hD).2 (zK1i (by omega) (by omega) (by omega) (by omega) (fun n2 u2 _ => (zX226 hx hy (by first | omega | (unfold zB2; omega) | (simp (disch := omega) only [zm_un, zm_ue]; omega) | (unfold zB2; simp (disch := omega) only [zm_un, zm_ue]; omega)) (by first | omega | (unfold zB2; omega) | (simp (disch := omega) only [zm_un, zm_ue]; omega) | (unfold zB2; simp (disch := omega) only [zm_un, zm_ue]; omega)) (by omega)).2 ?_))
  have pj := J
  obtain ⟨it, ia, ig, iv, itr, is, ic, iw, im, il⟩ := I
  obtain ⟨ra, rg, rh, rt, ru, rs, rd, rq, rv, rm, rl⟩ := R
  refine zK2i (by omega) (by omega) (by omega) (by omega) ⟨by omega, zIa_e ia (fun j => by simp (disch := omega) only [zm_un]), zIg_e ig (fun i j _ _ => by simp (disch := omega) only [zm_un]), ?_, ?_, zIs_e is (fun r j _ => by simp (disch := omega) only [zm_un]), zIc_e ic (fun r j _ => by simp (disch := omega) only [zm_un]) (fun j _ _ => by simp (disch := omega) only [zm_un]) (by simp (disch := omega) only [zm_un]), zWh_e iw (fun r j _ _ => by simp (disch := omega) only [zm_un]), zIm_e im (fun r j _ => by simp (disch := omega) only [zm_un]), zIl_e il (fun j _ => by simp (disch := omega) only [zm_un]) (fun j => by simp (disch := omega) only [zm_un])⟩ ⟨zIp0_e pj.1 (fun r j _ _ => by simp (disch := omega) only [zm_un]), zIz_e pj.2 (fun r j _ => by simp (disch := omega) only [zm_un])⟩ ⟨?_, zRg_e rg (fun r j _ => by simp (disch := omega) only [zm_un]), zRh_e rh (fun i j _ _ _ => by simp (disch := omega) only [zm_un]) (fun j => by simp (disch := omega) only [zm_un]) (fun j => by simp (disch := omega) only [zm_un]) (by simp (disch := omega) only [zm_un]), ?_, zRu_e ru (fun j _ _ => by simp (disch := omega) only [zm_un]) (fun j => by simp (disch := omega) only [zm_un]), zRs_e rs (fun j _ => by simp (disch := omega) only [zm_un]) (by simp (disch := omega) only [zm_un]) (by simp (disch := omega) only [zm_un]) (fun r j _ => by simp (disch := omega) only [zm_un]), zRd_e rd (by simp (disch := omega) only [zm_un]) (fun r j _ => by simp (disch := omega) only [zm_un]), fun s q1 q2 => zRq_e (rq s q1 q2) (by simp (disch := omega) only [zm_un]) (by simp (disch := omega) only [zm_un]) (by simp (disch := omega) only [zm_un]) (by simp (disch := omega) only [zm_un]) (fun r j _ => by simp (disch := omega) only [zm_un]) (fun r j _ => by simp (disch := omega) only [zm_un]), zRv_e rv (by simp (disch := omega) only [zm_un]) (fun r j _ => by simp (disch := omega) only [zm_un]) hw.1, zRm_e rm (fun j _ _ => by simp (disch := omega) only [zm_un]) (fun r j _ => by simp (disch := omega) only [zm_un]) (fun j _ _ => by simp (disch := omega) only [zm_un]), zRl_e rl (fun j _ => by simp (disch := omega) only [zm_un]) (fun j _ => by simp (disch := omega) only [zm_un]) (fun r j _ => by simp (disch := omega) only [zm_un]) hw.2⟩ ⟨0, _, rfl, rfl, by simp (disch := omega) only [zm_un, zm_ue], fun _ => by simp (disch := omega) only [zm_un, zm_ue]; exact congrArg zw (by omega), by decide⟩
  · unfold zIv at iv ⊢
    simp (disch := omega) only [zm_un, zm_ue, true_and, and_true]
    omega
  · intro i h1 h2
    have a2 := itr i h1 h2
    by_cases q : i = x
    · subst q
      simp (disch := omega) only [zm_un, zm_ue, true_and, and_true]
      omega
    · simp (disch := omega) only [zm_un, zm_ue, true_and, and_true]
      omega
  · unfold zRa at ra ⊢
    simp (disch := omega) only [zm_un, zm_ue, true_and, and_true]
    omega
  · intro i h1 h2
    have a2 := rt i h1 h2
    by_cases q : i = x
    · subst q
      simp (disch := omega) only [zm_un, zm_ue, true_and, and_true]
      omega
    · simp (disch := omega) only [zm_un, zm_ue, true_and, and_true]
      omega
theorem zP7 {S : zSs} {D n u : Nat} {g : Int → zk_K} {e : zm_D} {t : Int} {x y : Int} (I : zIn t e) (J : zIp t e) (R : zRe e) (ht : t < 600) (hD : 40 ≤ D) (h_x : -2147483648 ≤ x ∧ x < 2147483648) (h_y : -2147483648 ≤ y ∧ y < 2147483648) : zE S D 336 [zv_a 1, zv_i x, zv_i y, zv_a 160] n (zSg g) (zDg e) u (zK1 S D t n u 227 [zv_a 61, zv_i x, zv_i y] zPi) := by
  have i9 := I.2.1.1
  have r31 := R.1.1.1
  by_cases hx : x < 0 ∨ 3 ≤ x
  · refine (zC125n I h_x hx hD).2 (zK1i (by omega) (by omega) (by omega) (by omega) (fun n2 u2 _ => (zX227n h_x hx (by omega)).2 (zK2i (by omega) (by omega) (by omega) (by omega) (zIn_e I ht (fun r j _ _ => by simp (disch := omega) only [zm_un])) (zIp_e J (fun r j _ _ => by simp (disch := omega) only [zm_un])) (zRe_e R (zIn_w I) (fun r j _ _ _ => by simp (disch := omega) only [zm_un])) ⟨1, 0, rfl, rfl, zm_us, fun q => absurd q (by decide), by decide⟩)))
  have hx : 0 ≤ x ∧ x < 3 := by omega
  by_cases hy : y < 1 ∨ 9999 < y
  · refine (zC125x I hx h_y hy hD).2 (zK1i (by omega) (by omega) (by omega) (by omega) (fun n2 u2 _ => (zX227x hx h_y hy (by omega)).2 (zK2i (by omega) (by omega) (by omega) (by omega) (zIn_e I ht (fun r j _ _ => by simp (disch := omega) only [zm_un])) (zIp_e J (fun r j _ _ => by simp (disch := omega) only [zm_un])) (zRe_e R (zIn_w I) (fun r j _ _ _ => by simp (disch := omega) only [zm_un])) ⟨2, 0, rfl, rfl, zm_us, fun q => absurd q (by decide), by decide⟩)))
  have hy : 1 ≤ y ∧ y ≤ 9999 := by omega
  have a := R.2.2.2.1 x hx.1 hx.2
  have b := I.2.2.2.2.1 x hx.1 hx.2
  have c := I.2.2.2.1
  have f := R.1.1
  unfold zIv at c
  have it := I.1
  by_cases hf : e (31 + x) 1 < y
  · refine (zC125f I hx hy hf hD).2 (zK1i (by omega) (by omega) (by omega) (by omega) (fun n2 u2 _ => (zX227f hx hy (by first | omega | (unfold zB2; omega) | (simp (disch := omega) only [zm_un, zm_ue]; omega) | (unfold zB2; simp (disch := omega) only [zm_un, zm_ue]; omega)) (by first | omega | (unfold zB2; omega) | (simp (disch := omega) only [zm_un, zm_ue]; omega) | (unfold zB2; simp (disch := omega) only [zm_un, zm_ue]; omega)) (by omega)).2 (zK2i (by omega) (by omega) (by omega) (by omega) (zIn_e I ht (fun r j _ _ => by simp (disch := omega) only [zm_un])) (zIp_e J (fun r j _ _ => by simp (disch := omega) only [zm_un])) (zRe_e R (zIn_w I) (fun r j _ _ _ => by simp (disch := omega) only [zm_un])) ⟨3, 0, rfl, rfl, zm_us, fun q => absurd q (by decide), by decide⟩)))
  have hw := zIn_w I
  refine (zC125 I hx hy (by omega) hD).2 (zK1i (by omega) (by omega) (by omega) (by omega) (fun n2 u2 _ => (zX227 hx hy (by first | omega | (unfold zB2; omega) | (simp (disch := omega) only [zm_un, zm_ue]; omega) | (unfold zB2; simp (disch := omega) only [zm_un, zm_ue]; omega)) (by first | omega | (unfold zB2; omega) | (simp (disch := omega) only [zm_un, zm_ue]; omega) | (unfold zB2; simp (disch := omega) only [zm_un, zm_ue]; omega)) (by omega)).2 ?_))
  have pj := J
  obtain ⟨it, ia, ig, iv, itr, is, ic, iw, im, il⟩ := I
  obtain ⟨ra, rg, rh, rt, ru, rs, rd, rq, rv, rm, rl⟩ := R
  refine zK2i (by omega) (by omega) (by omega) (by omega) ⟨by omega, zIa_e ia (fun j => by simp (disch := omega) only [zm_un]), zIg_e ig (fun i j _ _ => by simp (disch := omega) only [zm_un]), ?_, ?_, zIs_e is (fun r j _ => by simp (disch := omega) only [zm_un]), zIc_e ic (fun r j _ => by simp (disch := omega) only [zm_un]) (fun j _ _ => by simp (disch := omega) only [zm_un]) (by simp (disch := omega) only [zm_un]), zWh_e iw (fun r j _ _ => by simp (disch := omega) only [zm_un]), zIm_e im (fun r j _ => by simp (disch := omega) only [zm_un]), zIl_e il (fun j _ => by simp (disch := omega) only [zm_un]) (fun j => by simp (disch := omega) only [zm_un])⟩ ⟨zIp0_e pj.1 (fun r j _ _ => by simp (disch := omega) only [zm_un]), zIz_e pj.2 (fun r j _ => by simp (disch := omega) only [zm_un])⟩ ⟨?_, zRg_e rg (fun r j _ => by simp (disch := omega) only [zm_un]), zRh_e rh (fun i j _ _ _ => by simp (disch := omega) only [zm_un]) (fun j => by simp (disch := omega) only [zm_un]) (fun j => by simp (disch := omega) only [zm_un]) (by simp (disch := omega) only [zm_un]), ?_, zRu_e ru (fun j _ _ => by simp (disch := omega) only [zm_un]) (fun j => by simp (disch := omega) only [zm_un]), zRs_e rs (fun j _ => by simp (disch := omega) only [zm_un]) (by simp (disch := omega) only [zm_un]) (by simp (disch := omega) only [zm_un]) (fun r j _ => by simp (disch := omega) only [zm_un]), zRd_e rd (by simp (disch := omega) only [zm_un]) (fun r j _ => by simp (disch := omega) only [zm_un]), fun s q1 q2 => zRq_e (rq s q1 q2) (by simp (disch := omega) only [zm_un]) (by simp (disch := omega) only [zm_un]) (by simp (disch := omega) only [zm_un]) (by simp (disch := omega) only [zm_un]) (fun r j _ => by simp (disch := omega) only [zm_un]) (fun r j _ => by simp (disch := omega) only [zm_un]), zRv_e rv (by simp (disch := omega) only [zm_un]) (fun r j _ => by simp (disch := omega) only [zm_un]) hw.1, zRm_e rm (fun j _ _ => by simp (disch := omega) only [zm_un]) (fun r j _ => by simp (disch := omega) only [zm_un]) (fun j _ _ => by simp (disch := omega) only [zm_un]), zRl_e rl (fun j _ => by simp (disch := omega) only [zm_un]) (fun j _ => by simp (disch := omega) only [zm_un]) (fun r j _ => by simp (disch := omega) only [zm_un]) hw.2⟩ ⟨0, _, rfl, rfl, by simp (disch := omega) only [zm_un, zm_ue], fun _ => by simp (disch := omega) only [zm_un, zm_ue]; exact congrArg zw (by omega), by decide⟩
  · unfold zIv at iv ⊢
    simp (disch := omega) only [zm_un, zm_ue, true_and, and_true]
    omega
  · intro i h1 h2
    have a2 := itr i h1 h2
    by_cases q : i = x
    · subst q
      simp (disch := omega) only [zm_un, zm_ue, true_and, and_true]
      omega
    · simp (disch := omega) only [zm_un, zm_ue, true_and, and_true]
      omega
  · unfold zRa at ra ⊢
    simp (disch := omega) only [zm_un, zm_ue, true_and, and_true]
    omega
  · intro i h1 h2
    have a2 := rt i h1 h2
    by_cases q : i = x
    · subst q
      simp (disch := omega) only [zm_un, zm_ue, true_and, and_true]
      omega
    · simp (disch := omega) only [zm_un, zm_ue, true_and, and_true]
      omega
theorem zP3 {S : zSs} {D n u : Nat} {g : Int → zk_K} {e : zm_D} {t : Int} {x y : Int} (I : zIn t e) (J : zIp t e) (R : zRe e) (ht : t < 600) (hD : 40 ≤ D) (h_x : -2147483648 ≤ x ∧ x < 2147483648) (h_y : -2147483648 ≤ y ∧ y < 2147483648) : zE S D 332 [zv_a 1, zv_i x, zv_i y, zv_a 160] n (zSg g) (zDg e) u (zK1 S D t n u 218 [zv_a 61, zv_i x, zv_i y] zPi) := by
  have i9 := I.2.1.1
  have r31 := R.1.1.1
  by_cases hx : x < 0 ∨ e 1 9 ≤ x
  · refine (zC121n I h_x hx hD).2 (zK1i (by omega) (by omega) (by omega) (by omega) (fun n2 u2 _ => (zX218n h_x (by omega) (by omega) (by omega)).2 (zK2i (by omega) (by omega) (by omega) (by omega) (zIn_e I ht (fun r j _ _ => by simp (disch := omega) only [zm_un])) (zIp_e J (fun r j _ _ => by simp (disch := omega) only [zm_un])) (zRe_e R (zIn_w I) (fun r j _ _ _ => by simp (disch := omega) only [zm_un])) ⟨1, 0, rfl, rfl, zm_us, fun q => absurd q (by decide), by decide⟩)))
  have hx : 0 ≤ x ∧ x < e 1 9 := by omega
  by_cases hy : y < 0 ∨ 5000 < y
  · refine (zC121x I hx h_y hy hD).2 (zK1i (by omega) (by omega) (by omega) (by omega) (fun n2 u2 _ => (zX218x (by omega) (by omega) h_y hy (by omega)).2 (zK2i (by omega) (by omega) (by omega) (by omega) (zIn_e I ht (fun r j _ _ => by simp (disch := omega) only [zm_un])) (zIp_e J (fun r j _ _ => by simp (disch := omega) only [zm_un])) (zRe_e R (zIn_w I) (fun r j _ _ _ => by simp (disch := omega) only [zm_un])) ⟨2, 0, rfl, rfl, zm_us, fun q => absurd q (by decide), by decide⟩)))
  have hy : 0 ≤ y ∧ y ≤ 5000 := by omega
  have l67 := ((R.2.2.1 x hx.1 (by omega)).1 hx.2).1
  have b := I.2.2.1 x (by omega)
  have hw := zIn_w I
  have it := I.1
  by_cases hk : y < e (15 + 2 * x) 3
  · have n1 : ¬ e (15 + 2 * x) 3 < y := by omega
    refine (zC121t I hx hy hk hD).2 (zK1i (by omega) (by omega) (by omega) (by omega) (fun n2 u2 _ => (zX218 (by first | omega | (unfold zB2; omega) | (simp (disch := omega) only [zm_un, zm_ue]; omega) | (unfold zB2; simp (disch := omega) only [zm_un, zm_ue]; omega)) (by first | omega | (unfold zB2; omega) | (simp (disch := omega) only [zm_un, zm_ue]; omega) | (unfold zB2; simp (disch := omega) only [zm_un, zm_ue]; omega)) hy (by first | omega | (unfold zB2; omega) | (simp (disch := omega) only [zm_un, zm_ue]; omega) | (unfold zB2; simp (disch := omega) only [zm_un, zm_ue]; omega)) (by omega)).2 ?_))
    simp (disch := omega) only [zm_un, l67, if_neg n1]
    have pj := J
    obtain ⟨it, ia, ig, iv, itr, is, ic, iw, im, il⟩ := I
    obtain ⟨ra, rg, rh, rt, ru, rs, rd, rq, rv, rm, rl⟩ := R
    refine zK2i (by omega) (by omega) (by omega) (by omega) ⟨by omega, zIa_e ia (fun j => by simp (disch := omega) only [zm_un]), ?_, zIv_e iv (by simp (disch := omega) only [zm_un]), zIt_e itr (fun i _ _ => by simp (disch := omega) only [zm_un]), zIs_e is (fun r j _ => by simp (disch := omega) only [zm_un]), zIc_e ic (fun r j _ => by simp (disch := omega) only [zm_un]) (fun j _ _ => by simp (disch := omega) only [zm_un]) (by simp (disch := omega) only [zm_un]), zWh_e iw (fun r j _ _ => by simp (disch := omega) only [zm_un]), zIm_e im (fun r j _ => by simp (disch := omega) only [zm_un]), zIl_e il (fun j _ => by simp (disch := omega) only [zm_un]) (fun j => by simp (disch := omega) only [zm_un])⟩ ⟨zIp0_e pj.1 (fun r j _ _ => by simp (disch := omega) only [zm_un]), zIz_e pj.2 (fun r j _ => by simp (disch := omega) only [zm_un])⟩ ⟨zRa_e ra (fun j _ => by simp (disch := omega) only [zm_un]) (fun j _ => by simp (disch := omega) only [zm_un]) (by simp (disch := omega) only [zm_un]) (by simp (disch := omega) only [zm_un]) (fun j _ => by simp (disch := omega) only [zm_un]) (by simp (disch := omega) only [zm_un]), ?_, ?_, zRt_e rt (fun r j _ => by simp (disch := omega) only [zm_un]), zRu_e ru (fun j _ _ => by simp (disch := omega) only [zm_un]) (fun j => by simp (disch := omega) only [zm_un]), zRs_e rs (fun j _ => by simp (disch := omega) only [zm_un]) (by simp (disch := omega) only [zm_un]) (by simp (disch := omega) only [zm_un]) (fun r j _ => by simp (disch := omega) only [zm_un]), zRd_e rd (by simp (disch := omega) only [zm_un]) (fun r j _ => by simp (disch := omega) only [zm_un]), fun s q1 q2 => zRq_e (rq s q1 q2) (by simp (disch := omega) only [zm_un]) (by simp (disch := omega) only [zm_un]) (by simp (disch := omega) only [zm_un]) (by simp (disch := omega) only [zm_un]) (fun r j _ => by simp (disch := omega) only [zm_un]) (fun r j _ => by simp (disch := omega) only [zm_un]), zRv_e rv (by simp (disch := omega) only [zm_un]) (fun r j _ => by simp (disch := omega) only [zm_un]) hw.1, zRm_e rm (fun j _ _ => by simp (disch := omega) only [zm_un]) (fun r j _ => by simp (disch := omega) only [zm_un]) (fun j _ _ => by simp (disch := omega) only [zm_un]), zRl_e rl (fun j _ => by simp (disch := omega) only [zm_un]) (fun j _ => by simp (disch := omega) only [zm_un]) (fun r j _ => by simp (disch := omega) only [zm_un]) hw.2⟩ ⟨0, _, rfl, rfl, by simp (disch := omega) only [zm_un, zm_ue], fun _ => by simp (disch := omega) only [zm_un, zm_ue], by decide⟩
    · intro i hi
      have a2 := ig i hi
      by_cases q : i = x
      · subst q
        simp (disch := omega) only [zm_un, zm_ue, true_and, and_true]
        omega
      · simp (disch := omega) only [zm_un, zm_ue, true_and, and_true]
        omega
    · intro i h1 h2
      have a2 := rg i h1 h2
      by_cases q : i = x
      · subst q
        simp (disch := omega) only [zm_un, zm_ue, true_and, and_true]
        exact ⟨a2.1, a2.2.1, a2.2.2.1, by omega⟩
      · simp (disch := omega) only [zm_un, zm_ue, true_and, and_true]
        exact a2
    · intro i h1 h2
      have a2 := rh i h1 h2
      by_cases q : i = x
      · subst q
        simp (disch := omega) only [zm_un, zm_ue, true_and, and_true, true_or, implies_true]
        exact fun _ => by omega
      · simp (disch := omega) only [zm_un, zm_ue, true_and, and_true]
        exact a2
  by_cases n1 : e (15 + 2 * x) 3 < y
  · refine (zC121f I hx hy (by omega) hD).2 (zK1i (by omega) (by omega) (by omega) (by omega) (fun n2 u2 _ => (zX218 (by first | omega | (unfold zB2; omega) | (simp (disch := omega) only [zm_un, zm_ue]; omega) | (unfold zB2; simp (disch := omega) only [zm_un, zm_ue]; omega)) (by first | omega | (unfold zB2; omega) | (simp (disch := omega) only [zm_un, zm_ue]; omega) | (unfold zB2; simp (disch := omega) only [zm_un, zm_ue]; omega)) hy (by first | omega | (unfold zB2; omega) | (simp (disch := omega) only [zm_un, zm_ue]; omega) | (unfold zB2; simp (disch := omega) only [zm_un, zm_ue]; omega)) (by omega)).2 ?_))
    simp (disch := omega) only [zm_un, l67, if_pos n1]
    have pj := J
    obtain ⟨it, ia, ig, iv, itr, is, ic, iw, im, il⟩ := I
    obtain ⟨ra, rg, rh, rt, ru, rs, rd, rq, rv, rm, rl⟩ := R
    refine zK2i (by omega) (by omega) (by omega) (by omega) ⟨by omega, zIa_e ia (fun j => by simp (disch := omega) only [zm_un]), ?_, zIv_e iv (by simp (disch := omega) only [zm_un]), zIt_e itr (fun i _ _ => by simp (disch := omega) only [zm_un]), zIs_e is (fun r j _ => by simp (disch := omega) only [zm_un]), zIc_e ic (fun r j _ => by simp (disch := omega) only [zm_un]) (fun j _ _ => by simp (disch := omega) only [zm_un]) (by simp (disch := omega) only [zm_un]), zWh_e iw (fun r j _ _ => by simp (disch := omega) only [zm_un]), zIm_e im (fun r j _ => by simp (disch := omega) only [zm_un]), zIl_e il (fun j _ => by simp (disch := omega) only [zm_un]) (fun j => by simp (disch := omega) only [zm_un])⟩ ⟨zIp0_e pj.1 (fun r j _ _ => by simp (disch := omega) only [zm_un]), zIz_e pj.2 (fun r j _ => by simp (disch := omega) only [zm_un])⟩ ⟨zRa_e ra (fun j _ => by simp (disch := omega) only [zm_un]) (fun j _ => by simp (disch := omega) only [zm_un]) (by simp (disch := omega) only [zm_un]) (by simp (disch := omega) only [zm_un]) (fun j _ => by simp (disch := omega) only [zm_un]) (by simp (disch := omega) only [zm_un]), ?_, ?_, zRt_e rt (fun r j _ => by simp (disch := omega) only [zm_un]), zRu_e ru (fun j _ _ => by simp (disch := omega) only [zm_un]) (fun j => by simp (disch := omega) only [zm_un]), zRs_e rs (fun j _ => by simp (disch := omega) only [zm_un]) (by simp (disch := omega) only [zm_un]) (by simp (disch := omega) only [zm_un]) (fun r j _ => by simp (disch := omega) only [zm_un]), zRd_e rd (by simp (disch := omega) only [zm_un]) (fun r j _ => by simp (disch := omega) only [zm_un]), fun s q1 q2 => zRq_e (rq s q1 q2) (by simp (disch := omega) only [zm_un]) (by simp (disch := omega) only [zm_un]) (by simp (disch := omega) only [zm_un]) (by simp (disch := omega) only [zm_un]) (fun r j _ => by simp (disch := omega) only [zm_un]) (fun r j _ => by simp (disch := omega) only [zm_un]), zRv_e rv (by simp (disch := omega) only [zm_un]) (fun r j _ => by simp (disch := omega) only [zm_un]) hw.1, zRm_e rm (fun j _ _ => by simp (disch := omega) only [zm_un]) (fun r j _ => by simp (disch := omega) only [zm_un]) (fun j _ _ => by simp (disch := omega) only [zm_un]), zRl_e rl (fun j _ => by simp (disch := omega) only [zm_un]) (fun j _ => by simp (disch := omega) only [zm_un]) (fun r j _ => by simp (disch := omega) only [zm_un]) hw.2⟩ ⟨0, _, rfl, rfl, by simp (disch := omega) only [zm_un, zm_ue], fun _ => by simp (disch := omega) only [zm_un, zm_ue], by decide⟩
    · intro i hi
      have a2 := ig i hi
      by_cases q : i = x
      · subst q
        simp (disch := omega) only [zm_un, zm_ue, true_and, and_true]
        omega
      · simp (disch := omega) only [zm_un, zm_ue, true_and, and_true]
        omega
    · intro i h1 h2
      have a2 := rg i h1 h2
      by_cases q : i = x
      · subst q
        simp (disch := omega) only [zm_un, zm_ue, true_and, and_true]
        exact ⟨a2.1, a2.2.1, a2.2.2.1, by omega⟩
      · simp (disch := omega) only [zm_un, zm_ue, true_and, and_true]
        exact a2
    · intro i h1 h2
      have a2 := rh i h1 h2
      by_cases q : i = x
      · subst q
        simp (disch := omega) only [zm_un, zm_ue, true_and, and_true]
        exact ⟨fun _ => by omega, fun _ => by omega⟩
      · simp (disch := omega) only [zm_un, zm_ue, true_and, and_true]
        exact a2
  · have e3 : e (15 + 2 * x) 3 = y := by omega
    refine (zC121f I hx hy (by omega) hD).2 (zK1i (by omega) (by omega) (by omega) (by omega) (fun n2 u2 _ => (zX218 (by first | omega | (unfold zB2; omega) | (simp (disch := omega) only [zm_un, zm_ue]; omega) | (unfold zB2; simp (disch := omega) only [zm_un, zm_ue]; omega)) (by first | omega | (unfold zB2; omega) | (simp (disch := omega) only [zm_un, zm_ue]; omega) | (unfold zB2; simp (disch := omega) only [zm_un, zm_ue]; omega)) hy (by first | omega | (unfold zB2; omega) | (simp (disch := omega) only [zm_un, zm_ue]; omega) | (unfold zB2; simp (disch := omega) only [zm_un, zm_ue]; omega)) (by omega)).2 ?_))
    simp (disch := omega) only [zm_un, l67, if_neg n1]
    have pj := J
    obtain ⟨it, ia, ig, iv, itr, is, ic, iw, im, il⟩ := I
    obtain ⟨ra, rg, rh, rt, ru, rs, rd, rq, rv, rm, rl⟩ := R
    refine zK2i (by omega) (by omega) (by omega) (by omega) ⟨by omega, zIa_e ia (fun j => by simp (disch := omega) only [zm_un]), ?_, zIv_e iv (by simp (disch := omega) only [zm_un]), zIt_e itr (fun i _ _ => by simp (disch := omega) only [zm_un]), zIs_e is (fun r j _ => by simp (disch := omega) only [zm_un]), zIc_e ic (fun r j _ => by simp (disch := omega) only [zm_un]) (fun j _ _ => by simp (disch := omega) only [zm_un]) (by simp (disch := omega) only [zm_un]), zWh_e iw (fun r j _ _ => by simp (disch := omega) only [zm_un]), zIm_e im (fun r j _ => by simp (disch := omega) only [zm_un]), zIl_e il (fun j _ => by simp (disch := omega) only [zm_un]) (fun j => by simp (disch := omega) only [zm_un])⟩ ⟨zIp0_e pj.1 (fun r j _ _ => by simp (disch := omega) only [zm_un]), zIz_e pj.2 (fun r j _ => by simp (disch := omega) only [zm_un])⟩ ⟨zRa_e ra (fun j _ => by simp (disch := omega) only [zm_un]) (fun j _ => by simp (disch := omega) only [zm_un]) (by simp (disch := omega) only [zm_un]) (by simp (disch := omega) only [zm_un]) (fun j _ => by simp (disch := omega) only [zm_un]) (by simp (disch := omega) only [zm_un]), ?_, ?_, zRt_e rt (fun r j _ => by simp (disch := omega) only [zm_un]), zRu_e ru (fun j _ _ => by simp (disch := omega) only [zm_un]) (fun j => by simp (disch := omega) only [zm_un]), zRs_e rs (fun j _ => by simp (disch := omega) only [zm_un]) (by simp (disch := omega) only [zm_un]) (by simp (disch := omega) only [zm_un]) (fun r j _ => by simp (disch := omega) only [zm_un]), zRd_e rd (by simp (disch := omega) only [zm_un]) (fun r j _ => by simp (disch := omega) only [zm_un]), fun s q1 q2 => zRq_e (rq s q1 q2) (by simp (disch := omega) only [zm_un]) (by simp (disch := omega) only [zm_un]) (by simp (disch := omega) only [zm_un]) (by simp (disch := omega) only [zm_un]) (fun r j _ => by simp (disch := omega) only [zm_un]) (fun r j _ => by simp (disch := omega) only [zm_un]), zRv_e rv (by simp (disch := omega) only [zm_un]) (fun r j _ => by simp (disch := omega) only [zm_un]) hw.1, zRm_e rm (fun j _ _ => by simp (disch := omega) only [zm_un]) (fun r j _ => by simp (disch := omega) only [zm_un]) (fun j _ _ => by simp (disch := omega) only [zm_un]), zRl_e rl (fun j _ => by simp (disch := omega) only [zm_un]) (fun j _ => by simp (disch := omega) only [zm_un]) (fun r j _ => by simp (disch := omega) only [zm_un]) hw.2⟩ ⟨0, _, rfl, rfl, by simp (disch := omega) only [zm_un, zm_ue], fun _ => by simp (disch := omega) only [zm_un, zm_ue]; exact congrArg zw e3, by decide⟩
    · intro i hi
      have a2 := ig i hi
      by_cases q : i = x
      · subst q
        simp (disch := omega) only [zm_un, zm_ue, true_and, and_true]
        omega
      · simp (disch := omega) only [zm_un, zm_ue, true_and, and_true]
        omega
    · intro i h1 h2
      have a2 := rg i h1 h2
      by_cases q : i = x
      · subst q
        simp (disch := omega) only [zm_un, zm_ue, true_and, and_true]
        exact ⟨a2.1, a2.2.1, a2.2.2.1, by omega⟩
      · simp (disch := omega) only [zm_un, zm_ue, true_and, and_true]
        exact a2
    · intro i h1 h2
      have a2 := rh i h1 h2
      by_cases q : i = x
      · subst q
        simp (disch := omega) only [zm_un, zm_ue, true_and, and_true]
        exact ⟨fun _ => by omega, fun _ => by omega⟩
      · simp (disch := omega) only [zm_un, zm_ue, true_and, and_true]
        exact a2
theorem zP8 {S : zSs} {D n u : Nat} {g : Int → zk_K} {e : zm_D} {t : Int} (I : zIn t e) (J : zIp t e) (R : zRe e) (ht : t < 600) (hD : 40 ≤ D) : zE S D 126 [zv_a 1] n (zSg g) (zDg e) u (zK1 S D t n u 229 [zv_a 61] zPd) := by
  have q0 : (31 : Int) + 0 = 31 := by decide
  have q1 : (31 : Int) + 1 = 32 := by decide
  have q2 : (31 : Int) + 2 = 33 := by decide
  have a0 := R.2.2.2.1 0 (by decide) (by decide)
  have a1 := R.2.2.2.1 1 (by decide) (by decide)
  have a2 := R.2.2.2.1 2 (by decide) (by decide)
  rw [q0] at a0
  rw [q1] at a1
  rw [q2] at a2
  have hw := zIn_w I
  have pj := J
  obtain ⟨it, ia, ig, iv, itr, is, ic, iw, im, il⟩ := I
  obtain ⟨ra, rg, rh, rt, ru, rs, rd, rq, rv, rm, rl⟩ := R
  refine (zC126 ⟨it, ia, ig, iv, itr, is, ic, iw, im, il⟩ hD).2 (zK1i (by omega) (by omega) (by omega) (by omega) (fun n2 u2 _ => (zX229 (by omega)).2 (zK2i (by omega) (by omega) (by omega) (by omega) ⟨by omega, zIa_e ia (fun j => by simp (disch := omega) only [zm_un]), zIg_e ig (fun i j _ _ => by simp (disch := omega) only [zm_un]), zIv_e iv (by simp (disch := omega) only [zm_un]), zIt_e itr (fun i _ _ => by simp (disch := omega) only [zm_un]), zIs_e is (fun r j _ => by simp (disch := omega) only [zm_un]), zIc_e ic (fun r j _ => by simp (disch := omega) only [zm_un]) (fun j _ _ => by simp (disch := omega) only [zm_un]) (by simp (disch := omega) only [zm_un]), zWh_e iw (fun r j _ _ => by simp (disch := omega) only [zm_un]), zIm_e im (fun r j _ => by simp (disch := omega) only [zm_un]), zIl_e il (fun j _ => by simp (disch := omega) only [zm_un]) (fun j => by simp (disch := omega) only [zm_un])⟩ ⟨zIp0_e pj.1 (fun r j _ _ => by simp (disch := omega) only [zm_un]), zIz_e pj.2 (fun r j _ => by simp (disch := omega) only [zm_un])⟩ ⟨zRa_e ra (fun j _ => by simp (disch := omega) only [zm_un]) (fun j _ => by simp (disch := omega) only [zm_un]) (by simp (disch := omega) only [zm_un]) (by simp (disch := omega) only [zm_un]) (fun j _ => by simp (disch := omega) only [zm_un]) (by simp (disch := omega) only [zm_un]), zRg_e rg (fun r j _ => by simp (disch := omega) only [zm_un]), zRh_e rh (fun i j _ _ _ => by simp (disch := omega) only [zm_un]) (fun j => by simp (disch := omega) only [zm_un]) (fun j => by simp (disch := omega) only [zm_un]) (by simp (disch := omega) only [zm_un]), ?_, zRu_e ru (fun j _ _ => by simp (disch := omega) only [zm_un]) (fun j => by simp (disch := omega) only [zm_un]), zRs_e rs (fun j _ => by simp (disch := omega) only [zm_un]) (by simp (disch := omega) only [zm_un]) (by simp (disch := omega) only [zm_un]) (fun r j _ => by simp (disch := omega) only [zm_un]), zRd_e rd (by simp (disch := omega) only [zm_un]) (fun r j _ => by simp (disch := omega) only [zm_un]), fun s q1 q2 => zRq_e (rq s q1 q2) (by simp (disch := omega) only [zm_un]) (by simp (disch := omega) only [zm_un]) (by simp (disch := omega) only [zm_un]) (by simp (disch := omega) only [zm_un]) (fun r j _ => by simp (disch := omega) only [zm_un]) (fun r j _ => by simp (disch := omega) only [zm_un]), zRv_e rv (by simp (disch := omega) only [zm_un]) (fun r j _ => by simp (disch := omega) only [zm_un]) hw.1, zRm_e rm (fun j _ _ => by simp (disch := omega) only [zm_un]) (fun r j _ => by simp (disch := omega) only [zm_un]) (fun j _ _ => by simp (disch := omega) only [zm_un]), zRl_e rl (fun j _ => by simp (disch := omega) only [zm_un]) (fun j _ => by simp (disch := omega) only [zm_un]) (fun r j _ => by simp (disch := omega) only [zm_un]) hw.2⟩ ⟨?_, by simp (disch := omega) only [zm_un, zm_ue]⟩)))
  · intro i h1 h2
    have q : i = 0 ∨ i = 1 ∨ i = 2 := by omega
    rcases q with q | q | q
    · subst q
      simp (disch := omega) only [q0, zm_un, zm_ue, true_and, and_true]
      omega
    · subst q
      simp (disch := omega) only [q1, zm_un, zm_ue, true_and, and_true]
      omega
    · subst q
      simp (disch := omega) only [q2, zm_un, zm_ue, true_and, and_true]
      omega
  · simp (disch := omega) only [zm_un, zm_ue]
    exact congrArg zv_i (by omega)
