/-! ===== STEPS: the machine ===== -/
set_option maxRecDepth 65536
theorem zmsp_e {e d : zm_D} (h1 : d 61 42 = e 61 42) (h2 : d 61 44 = e 61 44) : zmsp d = zmsp e := by
  unfold zmsp
  rw [h1, h2]
/-- guest and reference's row of figures change at one guest: the rest of the piece of guests -/
theorem zspn_1 {e : zm_D} (h : zspn e = 1) : e 58 5 ≠ 0 ∧ e 58 7 = 0 := by
  unfold zspn at h
  split at h
  · assumption
  · exact absurd h (by decide)
theorem zspn_0 {e : zm_D} (h : zspn e = 0) : e 58 5 = 0 ∨ e 58 7 ≠ 0 := by
  unfold zspn at h
  split at h
  · exact absurd h (by decide)
  · omega
theorem zspn_b (e : zm_D) : zspn e = 0 ∨ zspn e = 1 := by
  unfold zspn
  split <;> simp
theorem zP36 {S : zSs} {D n u : Nat} {g : Int → zk_K} {e : zm_D} {t : Int} {x y : Int} (I : zIn t e) (J : zIp t e) (R : zRe e) (ht : t < 600) (hD : 40 ≤ D) (h_x : -2147483648 ≤ x ∧ x < 2147483648) (h_y : -2147483648 ≤ y ∧ y < 2147483648) : zE S D 362 [zv_a 1, zv_i x, zv_i y, zv_a 160] n (zSg g) (zDg e) u (zK1 S D t n u 288 [zv_a 61, zv_i x, zv_i y] zPi) := by
  obtain ⟨sp1, sp2, sp3⟩ := zRe_sp I R
  by_cases h : (0 ≤ x ∧ x ≤ 4) ∧ (0 ≤ y ∧ y ≤ 200)
  · rcases zspn_b e with hv | hv
    · have hw := zIn_w I
      have a := R.2.2.2.2.2.2.2.2.2.1.2.1 x h.1.1 (by omega)
      refine (zC154 I h.1 h.2 hv hD).2 (zK1i (by omega) (by omega) (by omega) (by omega) (fun n2 u2 _ => (zX288 h.1 h.2 (by first | omega | (unfold zB2; omega) | (simp (disch := omega) only [zm_un, zm_ue]; omega) | (unfold zB2; simp (disch := omega) only [zm_un, zm_ue]; omega)) (by first | omega | (unfold zB2; omega) | (simp (disch := omega) only [zm_un, zm_ue]; omega) | (unfold zB2; simp (disch := omega) only [zm_un, zm_ue]; omega)) (by rw [zmsp_e (e := e) (by simp (disch := omega) only [zm_un]) (by simp (disch := omega) only [zm_un]), sp3]; exact hv) (by omega)).2 ?_))
      have pj := J
      obtain ⟨it, ia, ig, iv, itr, is, ic, iw, im, il⟩ := I
      obtain ⟨ra, rg, rh, rt, ru, rs, rd, rq, rv, rm, rl⟩ := R
      refine zK2i (by omega) (by omega) (by omega) (by omega) ⟨by omega, zIa_e ia (fun j => by simp (disch := omega) only [zm_un]), zIg_e ig (fun i j _ _ => by simp (disch := omega) only [zm_un]), zIv_e iv (by simp (disch := omega) only [zm_un]), zIt_e itr (fun i _ _ => by simp (disch := omega) only [zm_un]), zIs_e is (fun r j _ => by simp (disch := omega) only [zm_un]), zIc_e ic (fun r j _ => by simp (disch := omega) only [zm_un]) (fun j _ _ => by simp (disch := omega) only [zm_un]) (by simp (disch := omega) only [zm_un]), zWh_e iw (fun r j _ _ => by simp (disch := omega) only [zm_un]), ?_, zIl_e il (fun j _ => by simp (disch := omega) only [zm_un]) (fun j => by simp (disch := omega) only [zm_un])⟩ ⟨zIp0_e pj.1 (fun r j _ _ => by simp (disch := omega) only [zm_un]), zIz_e pj.2 (fun r j _ => by simp (disch := omega) only [zm_un])⟩ ⟨zRa_e ra (fun j _ => by simp (disch := omega) only [zm_un]) (fun j _ => by simp (disch := omega) only [zm_un]) (by simp (disch := omega) only [zm_un]) (by simp (disch := omega) only [zm_un]) (fun j _ => by simp (disch := omega) only [zm_un]) (by simp (disch := omega) only [zm_un]), zRg_e rg (fun r j _ => by simp (disch := omega) only [zm_un]), zRh_e rh (fun i j _ _ _ => by simp (disch := omega) only [zm_un]) (fun j => by simp (disch := omega) only [zm_un]) (fun j => by simp (disch := omega) only [zm_un]) (by simp (disch := omega) only [zm_un]), zRt_e rt (fun r j _ => by simp (disch := omega) only [zm_un]), zRu_e ru (fun j _ _ => by simp (disch := omega) only [zm_un]) (fun j => by simp (disch := omega) only [zm_un]), zRs_e rs (fun j _ => by simp (disch := omega) only [zm_un]) (by simp (disch := omega) only [zm_un]) (by simp (disch := omega) only [zm_un]) (fun r j _ => by simp (disch := omega) only [zm_un]), zRd_e rd (by simp (disch := omega) only [zm_un]) (fun r j _ => by simp (disch := omega) only [zm_un]), fun s q1 q2 => zRq_e (rq s q1 q2) (by simp (disch := omega) only [zm_un]) (by simp (disch := omega) only [zm_un]) (by simp (disch := omega) only [zm_un]) (by simp (disch := omega) only [zm_un]) (fun r j _ => by simp (disch := omega) only [zm_un]) (fun r j _ => by simp (disch := omega) only [zm_un]), zRv_e rv (by simp (disch := omega) only [zm_un]) (fun r j _ => by simp (disch := omega) only [zm_un]) hw.1, ?_, zRl_e rl (fun j _ => by simp (disch := omega) only [zm_un]) (fun j _ => by simp (disch := omega) only [zm_un]) (fun r j _ => by simp (disch := omega) only [zm_un]) hw.2⟩ ⟨0, _, rfl, rfl, by simp (disch := omega) only [zm_un, zm_ue], fun _ => by simp (disch := omega) only [zm_un, zm_ue]; exact congrArg zw a.symm, by decide⟩
      · obtain ⟨⟨s1, s2, s3, s4⟩, m2, m3, m4, m5⟩ := im
        refine ⟨⟨fun p q1 q2 => by simp (disch := omega) only [zm_un]; exact s1 p q1 q2, fun p q1 q2 => ?_, by simp (disch := omega) only [zm_un]; exact s3, by simp (disch := omega) only [zm_un]; exact s4⟩, by simp (disch := omega) only [zm_un]; exact m2, by simp (disch := omega) only [zm_un]; exact m3, by simp (disch := omega) only [zm_un]; omega, by simp (disch := omega) only [zm_un]; exact m5⟩
        have b := s2 p q1 q2
        by_cases q : p = x
        · subst q
          simp (disch := omega) only [zm_un, zm_ue]
          exact h.2
        · simp (disch := omega) only [zm_un]
          exact b
      · obtain ⟨m1, m2, m3, m4⟩ := rm
        refine ⟨fun r q1 q2 k q3 q4 => by simp (disch := omega) only [zm_un]; exact m1 r q1 q2 k q3 q4, fun k q1 q2 => ?_, by simp (disch := omega) only [zm_un]; exact m3, by simp (disch := omega) only [zm_un]; exact m4⟩
        have b := m2 k q1 q2
        by_cases q : k = x
        · subst q
          simp (disch := omega) only [zm_un, zm_ue]
        · simp (disch := omega) only [zm_un]
          exact b
    · refine (zC154s I h.1 h.2 hv hD).2 (zK1i (by omega) (by omega) (by omega) (by omega) (fun n2 u2 _ => (zX288s h.1 h.2 (by omega) (by omega) (by rw [sp3]; exact hv) (by omega)).2 (zK2i (by omega) (by omega) (by omega) (by omega) (zIn_e I ht (fun r j _ _ => by simp (disch := omega) only [zm_un])) (zIp_e J (fun r j _ _ => by simp (disch := omega) only [zm_un])) (zRe_e R (zIn_w I) (fun r j _ _ _ => by simp (disch := omega) only [zm_un])) ⟨2, 0, rfl, rfl, zm_us, fun q => absurd q (by decide), by decide⟩)))
  · refine (zC154x I h_x h_y h hD).2 (zK1i (by omega) (by omega) (by omega) (by omega) (fun n2 u2 _ => (zX288x h_x h_y h (by omega)).2 (zK2i (by omega) (by omega) (by omega) (by omega) (zIn_e I ht (fun r j _ _ => by simp (disch := omega) only [zm_un])) (zIp_e J (fun r j _ _ => by simp (disch := omega) only [zm_un])) (zRe_e R (zIn_w I) (fun r j _ _ _ => by simp (disch := omega) only [zm_un])) ⟨1, 0, rfl, rfl, zm_us, fun q => absurd q (by decide), by decide⟩)))
theorem zP37 {S : zSs} {D n u : Nat} {g : Int → zk_K} {e : zm_D} {t : Int} {x : Int} (I : zIn t e) (J : zIp t e) (R : zRe e) (ht : t < 600) (hD : 40 ≤ D) (h_x : -2147483648 ≤ x ∧ x < 2147483648) : zE S D 363 [zv_a 1, zv_i x, zv_a 160] n (zSg g) (zDg e) u (zK1 S D t n u 289 [zv_a 61, zv_i x] zPi) := by
  obtain ⟨sp1, sp2, sp3⟩ := zRe_sp I R
  by_cases hx : x < 1 ∨ 5000 < x
  · refine (zC155x I h_x hx hD).2 (zK1i (by omega) (by omega) (by omega) (by omega) (fun n2 u2 _ => (zX289x h_x hx (by omega)).2 (zK2i (by omega) (by omega) (by omega) (by omega) (zIn_e I ht (fun r j _ _ => by simp (disch := omega) only [zm_un])) (zIp_e J (fun r j _ _ => by simp (disch := omega) only [zm_un])) (zRe_e R (zIn_w I) (fun r j _ _ _ => by simp (disch := omega) only [zm_un])) ⟨1, 0, rfl, rfl, zm_us, fun q => absurd q (by decide), by decide⟩)))
  have hx : 1 ≤ x ∧ x ≤ 5000 := by omega
  rcases zspn_b e with hv | hv
  · have hw := zIn_w I
    refine (zC155 I hx hv hD).2 (zK1i (by omega) (by omega) (by omega) (by omega) (fun n2 u2 _ => (zX289 hx (by first | omega | (unfold zB2; omega) | (simp (disch := omega) only [zm_un, zm_ue]; omega) | (unfold zB2; simp (disch := omega) only [zm_un, zm_ue]; omega)) (by first | omega | (unfold zB2; omega) | (simp (disch := omega) only [zm_un, zm_ue]; omega) | (unfold zB2; simp (disch := omega) only [zm_un, zm_ue]; omega)) (by rw [zmsp_e (e := e) (by simp (disch := omega) only [zm_un]) (by simp (disch := omega) only [zm_un]), sp3]; exact hv) (by omega)).2 ?_))
    have pj := J
    obtain ⟨it, ia, ig, iv, itr, is, ic, iw, im, il⟩ := I
    obtain ⟨ra, rg, rh, rt, ru, rs, rd, rq, rv, rm, rl⟩ := R
    have a := ra.2.1
    refine zK2i (by omega) (by omega) (by omega) (by omega) ⟨by omega, zIa_e ia (fun j => by simp (disch := omega) only [zm_un]), zIg_e ig (fun i j _ _ => by simp (disch := omega) only [zm_un]), zIv_e iv (by simp (disch := omega) only [zm_un]), zIt_e itr (fun i _ _ => by simp (disch := omega) only [zm_un]), zIs_e is (fun r j _ => by simp (disch := omega) only [zm_un]), zIc_e ic (fun r j _ => by simp (disch := omega) only [zm_un]) (fun j _ _ => by simp (disch := omega) only [zm_un]) (by simp (disch := omega) only [zm_un]), zWh_e iw (fun r j _ _ => by simp (disch := omega) only [zm_un]), ?_, zIl_e il (fun j _ => by simp (disch := omega) only [zm_un]) (fun j => by simp (disch := omega) only [zm_un])⟩ ⟨zIp0_e pj.1 (fun r j _ _ => by simp (disch := omega) only [zm_un]), zIz_e pj.2 (fun r j _ => by simp (disch := omega) only [zm_un])⟩ ⟨?_, zRg_e rg (fun r j _ => by simp (disch := omega) only [zm_un]), zRh_e rh (fun i j _ _ _ => by simp (disch := omega) only [zm_un]) (fun j => by simp (disch := omega) only [zm_un]) (fun j => by simp (disch := omega) only [zm_un]) (by simp (disch := omega) only [zm_un]), zRt_e rt (fun r j _ => by simp (disch := omega) only [zm_un]), zRu_e ru (fun j _ _ => by simp (disch := omega) only [zm_un]) (fun j => by simp (disch := omega) only [zm_un]), zRs_e rs (fun j _ => by simp (disch := omega) only [zm_un]) (by simp (disch := omega) only [zm_un]) (by simp (disch := omega) only [zm_un]) (fun r j _ => by simp (disch := omega) only [zm_un]), zRd_e rd (by simp (disch := omega) only [zm_un]) (fun r j _ => by simp (disch := omega) only [zm_un]), fun s q1 q2 => zRq_e (rq s q1 q2) (by simp (disch := omega) only [zm_un]) (by simp (disch := omega) only [zm_un]) (by simp (disch := omega) only [zm_un]) (by simp (disch := omega) only [zm_un]) (fun r j _ => by simp (disch := omega) only [zm_un]) (fun r j _ => by simp (disch := omega) only [zm_un]), zRv_e rv (by simp (disch := omega) only [zm_un]) (fun r j _ => by simp (disch := omega) only [zm_un]) hw.1, zRm_e rm (fun j _ _ => by simp (disch := omega) only [zm_un]) (fun r j _ => by simp (disch := omega) only [zm_un]) (fun j _ _ => by simp (disch := omega) only [zm_un]), zRl_e rl (fun j _ => by simp (disch := omega) only [zm_un]) (fun j _ => by simp (disch := omega) only [zm_un]) (fun r j _ => by simp (disch := omega) only [zm_un]) hw.2⟩ ⟨0, _, rfl, rfl, by simp (disch := omega) only [zm_un, zm_ue], fun _ => by simp (disch := omega) only [zm_un, zm_ue]; exact congrArg zw (by omega), by decide⟩
    · obtain ⟨⟨s1, s2, s3, s4⟩, m2, m3, m4, m5⟩ := im
      exact ⟨⟨fun p q1 q2 => by simp (disch := omega) only [zm_un, zm_ue]; exact s1 p q1 q2, fun p q1 q2 => by simp (disch := omega) only [zm_un, zm_ue]; exact s2 p q1 q2, by simp (disch := omega) only [zm_un, zm_ue]; exact s3, by simp (disch := omega) only [zm_un, zm_ue]; exact s4⟩, by simp (disch := omega) only [zm_un, zm_ue]; exact m2, by simp (disch := omega) only [zm_un, zm_ue]; exact m3, by simp (disch := omega) only [zm_un, zm_ue]; omega, by simp (disch := omega) only [zm_un, zm_ue]; omega⟩
    · unfold zRa at ra ⊢
      simp (disch := omega) only [zm_un, zm_ue, true_and, and_true]
      omega
  · refine (zC155s I hx hv hD).2 (zK1i (by omega) (by omega) (by omega) (by omega) (fun n2 u2 _ => (zX289s hx (by omega) (by omega) (by rw [sp3]; exact hv) (by omega)).2 (zK2i (by omega) (by omega) (by omega) (by omega) (zIn_e I ht (fun r j _ _ => by simp (disch := omega) only [zm_un])) (zIp_e J (fun r j _ _ => by simp (disch := omega) only [zm_un])) (zRe_e R (zIn_w I) (fun r j _ _ _ => by simp (disch := omega) only [zm_un])) ⟨2, 0, rfl, rfl, zm_us, fun q => absurd q (by decide), by decide⟩)))
theorem zP40 {S : zSs} {D n u : Nat} {g : Int → zk_K} {e : zm_D} {t : Int} (I : zIn t e) (J : zIp t e) (R : zRe e) (ht : t < 600) (hD : 40 ≤ D) : zE S D 366 [zv_a 1, zv_a 160] n (zSg g) (zDg e) u (zK1 S D t n u 292 [zv_a 61] zPi) := by
  obtain ⟨sp1, sp2, sp3⟩ := zRe_sp I R
  rcases zspn_b e with hv | hv
  · refine (zC158x I hv hD).2 (zK1i (by omega) (by omega) (by omega) (by omega) (fun n2 u2 _ => (zX292x (by omega) (by omega) (by rw [sp3]; exact hv) (by omega)).2 (zK2i (by omega) (by omega) (by omega) (by omega) (zIn_e I ht (fun r j _ _ => by simp (disch := omega) only [zm_un])) (zIp_e J (fun r j _ _ => by simp (disch := omega) only [zm_un])) (zRe_e R (zIn_w I) (fun r j _ _ _ => by simp (disch := omega) only [zm_un])) ⟨1, 0, rfl, rfl, zm_us, fun q => absurd q (by decide), by decide⟩)))
  have sp := zspn_1 hv
  have hw := zIn_w I
  refine (zC158 I hv hD).2 (zK1i (by omega) (by omega) (by omega) (by omega) (fun n2 u2 _ => (zX292 (by first | omega | (unfold zB2; omega) | (simp (disch := omega) only [zm_un, zm_ue]; omega) | (unfold zB2; simp (disch := omega) only [zm_un, zm_ue]; omega)) (by first | omega | (unfold zB2; omega) | (simp (disch := omega) only [zm_un, zm_ue]; omega) | (unfold zB2; simp (disch := omega) only [zm_un, zm_ue]; omega)) (by rw [zmsp_e (e := e) (by simp (disch := omega) only [zm_un]) (by simp (disch := omega) only [zm_un]), sp3]; exact hv) (by omega)).2 ?_))
  have pj := J
  obtain ⟨it, ia, ig, iv, itr, is, ic, iw, im, il⟩ := I
  obtain ⟨ra, rg, rh, rt, ru, rs, rd, rq, rv, rm, rl⟩ := R
  have rm3 := rm.2.2
  refine zK2i (by omega) (by omega) (by omega) (by omega) ⟨by omega, zIa_e ia (fun j => by simp (disch := omega) only [zm_un]), zIg_e ig (fun i j _ _ => by simp (disch := omega) only [zm_un]), zIv_e iv (by simp (disch := omega) only [zm_un]), zIt_e itr (fun i _ _ => by simp (disch := omega) only [zm_un]), zIs_e is (fun r j _ => by simp (disch := omega) only [zm_un]), zIc_e ic (fun r j _ => by simp (disch := omega) only [zm_un]) (fun j _ _ => by simp (disch := omega) only [zm_un]) (by simp (disch := omega) only [zm_un]), zWh_e iw (fun r j _ _ => by simp (disch := omega) only [zm_un]), ?_, zIl_e il (fun j _ => by simp (disch := omega) only [zm_un]) (fun j => by simp (disch := omega) only [zm_un])⟩ ⟨zIp0_e pj.1 (fun r j _ _ => by simp (disch := omega) only [zm_un]), zIz_e pj.2 (fun r j _ => by simp (disch := omega) only [zm_un])⟩ ⟨zRa_e ra (fun j _ => by simp (disch := omega) only [zm_un]) (fun j _ => by simp (disch := omega) only [zm_un]) (by simp (disch := omega) only [zm_un]) (by simp (disch := omega) only [zm_un]) (fun j _ => by simp (disch := omega) only [zm_un]) (by simp (disch := omega) only [zm_un]), zRg_e rg (fun r j _ => by simp (disch := omega) only [zm_un]), zRh_e rh (fun i j _ _ _ => by simp (disch := omega) only [zm_un]) (fun j => by simp (disch := omega) only [zm_un]) (fun j => by simp (disch := omega) only [zm_un]) (by simp (disch := omega) only [zm_un]), zRt_e rt (fun r j _ => by simp (disch := omega) only [zm_un]), zRu_e ru (fun j _ _ => by simp (disch := omega) only [zm_un]) (fun j => by simp (disch := omega) only [zm_un]), zRs_e rs (fun j _ => by simp (disch := omega) only [zm_un]) (by simp (disch := omega) only [zm_un]) (by simp (disch := omega) only [zm_un]) (fun r j _ => by simp (disch := omega) only [zm_un]), zRd_e rd (by simp (disch := omega) only [zm_un]) (fun r j _ => by simp (disch := omega) only [zm_un]), fun s q1 q2 => zRq_e (rq s q1 q2) (by simp (disch := omega) only [zm_un]) (by simp (disch := omega) only [zm_un]) (by simp (disch := omega) only [zm_un]) (by simp (disch := omega) only [zm_un]) (fun r j _ => by simp (disch := omega) only [zm_un]) (fun r j _ => by simp (disch := omega) only [zm_un]), zRv_e rv (by simp (disch := omega) only [zm_un]) (fun r j _ => by simp (disch := omega) only [zm_un]) hw.1, ?_, zRl_e rl (fun j _ => by simp (disch := omega) only [zm_un]) (fun j _ => by simp (disch := omega) only [zm_un]) (fun r j _ => by simp (disch := omega) only [zm_un]) hw.2⟩ ⟨0, _, rfl, rfl, by simp (disch := omega) only [zm_un, zm_ue], fun _ => by simp (disch := omega) only [zm_un, zm_ue]; exact congrArg zw (by omega), by decide⟩
  · obtain ⟨⟨s1, s2, s3, s4⟩, m2, m3, m4, m5⟩ := im
    exact ⟨⟨fun p q1 q2 => by simp (disch := omega) only [zm_un, zm_ue]; exact s1 p q1 q2, fun p q1 q2 => by simp (disch := omega) only [zm_un, zm_ue]; exact s2 p q1 q2, by simp (disch := omega) only [zm_un, zm_ue]; exact s3, by simp (disch := omega) only [zm_un, zm_ue]; exact s4⟩, .inr (by simp (disch := omega) only [zm_un, zm_ue]), by simp (disch := omega) only [zm_un, zm_ue]; exact m3, by simp (disch := omega) only [zm_un, zm_ue]; omega, by simp (disch := omega) only [zm_un, zm_ue]; omega⟩
  · obtain ⟨m1, m2, m3, m4⟩ := rm
    refine ⟨fun r q1 q2 k q3 q4 => by simp (disch := omega) only [zm_un, zm_ue]; exact m1 r q1 q2 k q3 q4, fun k q1 q2 => by simp (disch := omega) only [zm_un, zm_ue]; exact m2 k q1 q2, ?_, by simp (disch := omega) only [zm_un, zm_ue]; exact m4⟩
    simp (disch := omega) only [zm_un, zm_ue, true_and, and_true]
    omega
theorem zP41 {S : zSs} {D n u : Nat} {g : Int → zk_K} {e : zm_D} {t : Int} (I : zIn t e) (J : zIp t e) (R : zRe e) (ht : t < 600) (hD : 40 ≤ D) : zE S D 367 [zv_a 1, zv_a 160] n (zSg g) (zDg e) u (zK1 S D t n u 293 [zv_a 61] zPi) := by
  obtain ⟨sp1, sp2, sp3⟩ := zRe_sp I R
  obtain ⟨j, hj⟩ : ∃ j, e 61 42 = j := ⟨_, rfl⟩
  have rm3 := R.2.2.2.2.2.2.2.2.2.1.2.2.1
  rw [hj] at rm3
  have i7 := I.2.2.2.2.2.2.2.2.1.2.1
  by_cases hf : e 58 5 = 0 ∨ e 58 7 = 0
  · refine (zC159x I hf hD).2 (zK1i (by omega) (by omega) (by omega) (by omega) (fun n2 u2 _ => (zX293x (by omega) (by omega) (by omega) (by omega)).2 (zK2i (by omega) (by omega) (by omega) (by omega) (zIn_e I ht (fun r j _ _ => by simp (disch := omega) only [zm_un])) (zIp_e J (fun r j _ _ => by simp (disch := omega) only [zm_un])) (zRe_e R (zIn_w I) (fun r j _ _ _ => by simp (disch := omega) only [zm_un])) ⟨1, 0, rfl, rfl, zm_us, fun q => absurd q (by decide), by decide⟩)))
  have hw := zIn_w I
  have b8 : 0 ≤ j ∧ j < 8 := by omega
  have a := R.2.1 j b8.1 b8.2
  have b := I.2.2.1 j b8
  have s6 := I.2.2.2.2.2.2.2.2.1.1.2.2.1
  refine (zC159 I b8 (by omega) (by omega) hD).2 (zK1i (by omega) (by omega) (by omega) (by omega) (fun n2 u2 _ => (zX293 (by first | omega | (unfold zB2; omega) | (simp (disch := omega) only [zm_un, zm_ue]; omega) | (unfold zB2; simp (disch := omega) only [zm_un, zm_ue]; omega)) (by first | omega | (unfold zB2; omega) | (simp (disch := omega) only [zm_un, zm_ue]; omega) | (unfold zB2; simp (disch := omega) only [zm_un, zm_ue]; omega)) (by omega)).2 ?_))
  simp (disch := omega) only [zm_un, hj]
  have pj := J
  obtain ⟨it, ia, ig, iv, itr, is, ic, iw, im, il⟩ := I
  obtain ⟨ra, rg, rh, rt, ru, rs, rd, rq, rv, rm, rl⟩ := R
  refine zK2i (by omega) (by omega) (by omega) (by omega) ⟨by omega, zIa_e ia (fun j => by simp (disch := omega) only [zm_un]), ?_, zIv_e iv (by simp (disch := omega) only [zm_un]), zIt_e itr (fun i _ _ => by simp (disch := omega) only [zm_un]), zIs_e is (fun r j _ => by simp (disch := omega) only [zm_un]), zIc_e ic (fun r j _ => by simp (disch := omega) only [zm_un]) (fun j _ _ => by simp (disch := omega) only [zm_un]) (by simp (disch := omega) only [zm_un]), zWh_e iw (fun r j _ _ => by simp (disch := omega) only [zm_un]), ?_, zIl_e il (fun j _ => by simp (disch := omega) only [zm_un]) (fun j => by simp (disch := omega) only [zm_un])⟩ ⟨?_, zIz_e pj.2 (fun r j _ => by simp (disch := omega) only [zm_un])⟩ ⟨zRa_e ra (fun j _ => by simp (disch := omega) only [zm_un]) (fun j _ => by simp (disch := omega) only [zm_un]) (by simp (disch := omega) only [zm_un]) (by simp (disch := omega) only [zm_un]) (fun j _ => by simp (disch := omega) only [zm_un]) (by simp (disch := omega) only [zm_un]), ?_, zRh_e rh (fun i j _ _ _ => by simp (disch := omega) only [zm_un]) (fun j => by simp (disch := omega) only [zm_un]) (fun j => by simp (disch := omega) only [zm_un]) (by simp (disch := omega) only [zm_un]), zRt_e rt (fun r j _ => by simp (disch := omega) only [zm_un]), zRu_e ru (fun j _ _ => by simp (disch := omega) only [zm_un]) (fun j => by simp (disch := omega) only [zm_un]), zRs_e rs (fun j _ => by simp (disch := omega) only [zm_un]) (by simp (disch := omega) only [zm_un]) (by simp (disch := omega) only [zm_un]) (fun r j _ => by simp (disch := omega) only [zm_un]), zRd_e rd (by simp (disch := omega) only [zm_un]) (fun r j _ => by simp (disch := omega) only [zm_un]), fun s q1 q2 => zRq_e (rq s q1 q2) (by simp (disch := omega) only [zm_un]) (by simp (disch := omega) only [zm_un]) (by simp (disch := omega) only [zm_un]) (by simp (disch := omega) only [zm_un]) (fun r j _ => by simp (disch := omega) only [zm_un]) (fun r j _ => by simp (disch := omega) only [zm_un]), zRv_e rv (by simp (disch := omega) only [zm_un]) (fun r j _ => by simp (disch := omega) only [zm_un]) hw.1, ?_, zRl_e rl (fun j _ => by simp (disch := omega) only [zm_un]) (fun j _ => by simp (disch := omega) only [zm_un]) (fun r j _ => by simp (disch := omega) only [zm_un]) hw.2⟩ ⟨0, _, rfl, rfl, by simp (disch := omega) only [zm_un, zm_ue], fun _ => by simp (disch := omega) only [zm_un, zm_ue]; exact congrArg zw (by omega), by decide⟩
  · intro i hi
    have a2 := ig i hi
    by_cases q : i = j
    · subst q
      simp (disch := omega) only [zm_un, zm_ue, true_and, and_true]
      omega
    · simp (disch := omega) only [zm_un, zm_ue, true_and, and_true]
      omega
  · obtain ⟨⟨s1, s2, s3, s4⟩, m2, m3, m4, m5⟩ := im
    exact ⟨⟨fun p q1 q2 => by simp (disch := omega) only [zm_un, zm_ue]; exact s1 p q1 q2, fun p q1 q2 => by simp (disch := omega) only [zm_un, zm_ue]; exact s2 p q1 q2, by simp (disch := omega) only [zm_un, zm_ue]; exact s3, by simp (disch := omega) only [zm_un, zm_ue]; exact s4⟩, by simp (disch := omega) only [zm_un, zm_ue]; exact m2, .inl (by simp (disch := omega) only [zm_un, zm_ue]), by simp (disch := omega) only [zm_un, zm_ue]; omega, by simp (disch := omega) only [zm_un, zm_ue]; exact m5⟩
  · have pj1 := pj.1.1
    refine ⟨by simp (disch := omega) only [zm_un, zm_ue, true_and, and_true]; omega, fun i h1 h2 => ?_⟩
    have a2 := pj.1.2 i h1 h2
    by_cases q : i = j
    · subst q
      simp (disch := omega) only [zm_un, zm_ue, true_and, and_true]
      omega
    · simp (disch := omega) only [zm_un, zm_ue, true_and, and_true]
      omega
  · intro i h1 h2
    have a2 := rg i h1 h2
    by_cases q : i = j
    · subst q
      simp (disch := omega) only [zm_un, zm_ue, true_and, and_true]
      have a3 := a2.1
      refine ⟨by omega, a2.2.1, a2.2.2.1, a2.2.2.2⟩
    · simp (disch := omega) only [zm_un, zm_ue, true_and, and_true]
      exact a2
  · obtain ⟨m1, m2, m3, m4⟩ := rm
    refine ⟨fun r q1 q2 k q3 q4 => by simp (disch := omega) only [zm_un, zm_ue]; exact m1 r q1 q2 k q3 q4, fun k q1 q2 => by simp (disch := omega) only [zm_un, zm_ue]; exact m2 k q1 q2, .inl ⟨by simp (disch := omega) only [zm_un, zm_ue], by simp (disch := omega) only [zm_un, zm_ue], by simp (disch := omega) only [zm_un, zm_ue]⟩, by simp (disch := omega) only [zm_un, zm_ue]; exact m4⟩
theorem zP38 {S : zSs} {D n u : Nat} {g : Int → zk_K} {e : zm_D} {t : Int} {x y : Int} (I : zIn t e) (J : zIp t e) (R : zRe e) (ht : t < 600) (hD : 40 ≤ D) (h_x : -2147483648 ≤ x ∧ x < 2147483648) (h_y : -2147483648 ≤ y ∧ y < 2147483648) : zE S D 364 [zv_a 1, zv_i x, zv_i y, zv_a 160] n (zSg g) (zDg e) u (zK1 S D t n u 290 [zv_a 61, zv_i x, zv_i y] zPi) := by
  have i9 := I.2.1.1
  have r31 := R.1.1.1
  obtain ⟨sp1, sp2, sp3⟩ := zRe_sp I R
  by_cases hx : x < 0 ∨ e 1 9 ≤ x
  · refine (zC156n I h_x hx hD).2 (zK1i (by omega) (by omega) (by omega) (by omega) (fun n2 u2 _ => (zX290n h_x (by omega) (by omega) (by omega)).2 (zK2i (by omega) (by omega) (by omega) (by omega) (zIn_e I ht (fun r j _ _ => by simp (disch := omega) only [zm_un])) (zIp_e J (fun r j _ _ => by simp (disch := omega) only [zm_un])) (zRe_e R (zIn_w I) (fun r j _ _ _ => by simp (disch := omega) only [zm_un])) ⟨1, 0, rfl, rfl, zm_us, fun q => absurd q (by decide), by decide⟩)))
  have hx : 0 ≤ x ∧ x < e 1 9 := by omega
  by_cases hy : y < 1 ∨ 100 < y
  · refine (zC156x I hx h_y hy hD).2 (zK1i (by omega) (by omega) (by omega) (by omega) (fun n2 u2 _ => (zX290x (by omega) (by omega) h_y hy (by omega)).2 (zK2i (by omega) (by omega) (by omega) (by omega) (zIn_e I ht (fun r j _ _ => by simp (disch := omega) only [zm_un])) (zIp_e J (fun r j _ _ => by simp (disch := omega) only [zm_un])) (zRe_e R (zIn_w I) (fun r j _ _ _ => by simp (disch := omega) only [zm_un])) ⟨2, 0, rfl, rfl, zm_us, fun q => absurd q (by decide), by decide⟩)))
  have hy : 1 ≤ y ∧ y ≤ 100 := by omega
  have a := R.2.1 x hx.1 (by omega)
  have l67 := ((R.2.2.1 x hx.1 (by omega)).1 hx.2).1
  have b := I.2.2.1 x (by omega)
  have it := I.1
  have i10 := I.2.1.2
  have ra := R.1
  unfold zRa at ra
  have im := I.2.2.2.2.2.2.2.2.1
  have im4 := im.2.2.2
  have rm3 := R.2.2.2.2.2.2.2.2.2.1.2.2.1
  have mg : zMg e x := by unfold zMg zB2; omega
  by_cases hk : zCj e x y
  · have mk : zMj e x y := by unfold zMj; unfold zCj at hk; omega
    by_cases hp : e 58 5 = 0
    · have hw := zIn_w I
      have pb : zmpb (zm_u (zm_u (zm_u (zm_u (zm_u (zm_u (zm_u e (15 + 2 * x) 2 (e (15 + 2 * x) 2 - y)) (15 + 2 * x) 5 (e (15 + 2 * x) 5 + y)) 58 5 (15 + 2 * x)) 58 6 y) 58 7 0) 58 8 (zpb e)) 160 0 (zw (e (15 + 2 * x) 2 - y))) = zpb e := by
        unfold zmpb zpb
        simp (disch := omega) only [zm_un]
        rw [ra.2.1.2.1, ra.2.1.2.2]
      have mg2 : zMg (zm_u (zm_u (zm_u (zm_u (zm_u (zm_u (zm_u e (15 + 2 * x) 2 (e (15 + 2 * x) 2 - y)) (15 + 2 * x) 5 (e (15 + 2 * x) 5 + y)) 58 5 (15 + 2 * x)) 58 6 y) 58 7 0) 58 8 (zpb e)) 160 0 (zw (e (15 + 2 * x) 2 - y))) x := by unfold zMg zB2 at *; simp (disch := omega) only [zm_un]; exact mg
      have mk2 : zMj (zm_u (zm_u (zm_u (zm_u (zm_u (zm_u (zm_u e (15 + 2 * x) 2 (e (15 + 2 * x) 2 - y)) (15 + 2 * x) 5 (e (15 + 2 * x) 5 + y)) 58 5 (15 + 2 * x)) 58 6 y) 58 7 0) 58 8 (zpb e)) 160 0 (zw (e (15 + 2 * x) 2 - y))) x y := by unfold zMj at *; simp (disch := omega) only [zm_un]; exact mk
      have pb2 : zpb e = 0 ∨ zpb e = 1 := by unfold zpb; split <;> simp
      unfold zCj at hk
      refine (zC156 I hx hy (by unfold zCj; exact hk) hp hD).2 (zK1i (by omega) (by omega) (by omega) (by omega) (fun n2 u2 _ => (zX290 (by first | omega | (unfold zB2; omega) | (simp (disch := omega) only [zm_un, zm_ue]; omega) | (unfold zB2; simp (disch := omega) only [zm_un, zm_ue]; omega)) (by first | omega | (unfold zB2; omega) | (simp (disch := omega) only [zm_un, zm_ue]; omega) | (unfold zB2; simp (disch := omega) only [zm_un, zm_ue]; omega)) hy mg2 mk2 (by first | omega | (unfold zB2; omega) | (simp (disch := omega) only [zm_un, zm_ue]; omega) | (unfold zB2; simp (disch := omega) only [zm_un, zm_ue]; omega)) (by first | omega | (unfold zB2; omega) | (simp (disch := omega) only [zm_un, zm_ue]; omega) | (unfold zB2; simp (disch := omega) only [zm_un, zm_ue]; omega)) (by first | omega | (unfold zB2; omega) | (simp (disch := omega) only [zm_un, zm_ue]; omega) | (unfold zB2; simp (disch := omega) only [zm_un, zm_ue]; omega)) (by omega)).2 ?_))
      rw [pb]
      clear pb mg2 mk2 mk mg im
      have pj := J
      obtain ⟨it, ia, ig, iv, itr, is, ic, iw, im, il⟩ := I
      obtain ⟨ra, rg, rh, rt, ru, rs, rd, rq, rv, rm, rl⟩ := R
      refine zK2i (by omega) (by omega) (by omega) (by omega) ⟨by omega, zIa_e ia (fun j => by simp (disch := omega) only [zm_un]), ?_, zIv_e iv (by simp (disch := omega) only [zm_un]), zIt_e itr (fun i _ _ => by simp (disch := omega) only [zm_un]), zIs_e is (fun r j _ => by simp (disch := omega) only [zm_un]), zIc_e ic (fun r j _ => by simp (disch := omega) only [zm_un]) (fun j _ _ => by simp (disch := omega) only [zm_un]) (by simp (disch := omega) only [zm_un]), zWh_e iw (fun r j _ _ => by simp (disch := omega) only [zm_un]), ?_, zIl_e il (fun j _ => by simp (disch := omega) only [zm_un]) (fun j => by simp (disch := omega) only [zm_un])⟩ ⟨?_, zIz_g pj.2 hx (fun r j _ => by simp (disch := omega) only [zm_un])⟩ ⟨zRa_e ra (fun j _ => by simp (disch := omega) only [zm_un]) (fun j _ => by simp (disch := omega) only [zm_un]) (by simp (disch := omega) only [zm_un]) (by simp (disch := omega) only [zm_un]) (fun j _ => by simp (disch := omega) only [zm_un]) (by simp (disch := omega) only [zm_un]), ?_, zRh_e rh (fun i j _ _ _ => by simp (disch := omega) only [zm_un]) (fun j => by simp (disch := omega) only [zm_un]) (fun j => by simp (disch := omega) only [zm_un]) (by simp (disch := omega) only [zm_un]), zRt_e rt (fun r j _ => by simp (disch := omega) only [zm_un]), zRu_e ru (fun j _ _ => by simp (disch := omega) only [zm_un]) (fun j => by simp (disch := omega) only [zm_un]), zRs_e rs (fun j _ => by simp (disch := omega) only [zm_un]) (by simp (disch := omega) only [zm_un]) (by simp (disch := omega) only [zm_un]) (fun r j _ => by simp (disch := omega) only [zm_un]), zRd_e rd (by simp (disch := omega) only [zm_un]) (fun r j _ => by simp (disch := omega) only [zm_un]), fun s q1 q2 => zRq_e (rq s q1 q2) (by simp (disch := omega) only [zm_un]) (by simp (disch := omega) only [zm_un]) (by simp (disch := omega) only [zm_un]) (by simp (disch := omega) only [zm_un]) (fun r j _ => by simp (disch := omega) only [zm_un]) (fun r j _ => by simp (disch := omega) only [zm_un]), zRv_e rv (by simp (disch := omega) only [zm_un]) (fun r j _ => by simp (disch := omega) only [zm_un]) hw.1, ?_, zRl_e rl (fun j _ => by simp (disch := omega) only [zm_un]) (fun j _ => by simp (disch := omega) only [zm_un]) (fun r j _ => by simp (disch := omega) only [zm_un]) hw.2⟩ ⟨0, _, rfl, rfl, by simp (disch := omega) only [zm_un, zm_ue], fun _ => by simp (disch := omega) only [zm_un, zm_ue]; exact congrArg zw (by omega), by decide⟩
      · intro i hi
        have a2 := ig i hi
        by_cases q : i = x
        · subst q
          simp (disch := omega) only [zm_un, zm_ue, true_and, and_true]
          omega
        · simp (disch := omega) only [zm_un, zm_ue, true_and, and_true]
          omega
      · obtain ⟨⟨s1, s2, s3, s4⟩, m2, m3, m4, m5⟩ := im
        exact ⟨⟨fun p q1 q2 => by simp (disch := omega) only [zm_un, zm_ue]; exact s1 p q1 q2, fun p q1 q2 => by simp (disch := omega) only [zm_un, zm_ue]; exact s2 p q1 q2, by simp (disch := omega) only [zm_un, zm_ue]; omega, by simp (disch := omega) only [zm_un, zm_ue]; exact pb2⟩, .inl (by simp (disch := omega) only [zm_un, zm_ue]), .inr ⟨x, by omega, by simp (disch := omega) only [zm_un, zm_ue]⟩, by simp (disch := omega) only [zm_un, zm_ue]; omega, by simp (disch := omega) only [zm_un, zm_ue]; exact m5⟩
      · have pj1 := pj.1.1
        refine ⟨by simp (disch := omega) only [zm_un, zm_ue, true_and, and_true]; omega, fun i h1 h2 => ?_⟩
        have a2 := pj.1.2 i h1 h2
        by_cases q : i = x
        · subst q
          simp (disch := omega) only [zm_un, zm_ue, true_and, and_true]
          omega
        · simp (disch := omega) only [zm_un, zm_ue, true_and, and_true]
          omega
      · intro i h1 h2
        have a2 := rg i h1 h2
        by_cases q : i = x
        · subst q
          simp (disch := omega) only [zm_un, zm_ue, true_and, and_true]
          have a3 := a2.1
          refine ⟨by omega, a2.2.1, a2.2.2.1, a2.2.2.2⟩
        · simp (disch := omega) only [zm_un, zm_ue, true_and, and_true]
          exact a2
      · obtain ⟨m1, m2, m3, m4⟩ := rm
        refine ⟨fun r q1 q2 k q3 q4 => by simp (disch := omega) only [zm_un, zm_ue]; exact m1 r q1 q2 k q3 q4, fun k q1 q2 => by simp (disch := omega) only [zm_un, zm_ue]; exact m2 k q1 q2, .inr ⟨by simp (disch := omega) only [zm_un, zm_ue]; omega, by simp (disch := omega) only [zm_un, zm_ue], by simp (disch := omega) only [zm_un, zm_ue]; omega, by simp (disch := omega) only [zm_un, zm_ue], by simp (disch := omega) only [zm_un, zm_ue]⟩, by simp (disch := omega) only [zm_un, zm_ue]; omega, by simp (disch := omega) only [zm_un, zm_ue]; exact pb2⟩
    · refine (zC156s I hx hy hk hp hD).2 (zK1i (by omega) (by omega) (by omega) (by omega) (fun n2 u2 _ => (zX290s (by omega) (by omega) hy mg mk (by omega) (by omega)).2 (zK2i (by omega) (by omega) (by omega) (by omega) (zIn_e I ht (fun r j _ _ => by simp (disch := omega) only [zm_un])) (zIp_e J (fun r j _ _ => by simp (disch := omega) only [zm_un])) (zRe_e R (zIn_w I) (fun r j _ _ _ => by simp (disch := omega) only [zm_un])) ⟨4, 0, rfl, rfl, zm_us, fun q => absurd q (by decide), by decide⟩)))
  · refine (zC156k I hx hy hk hD).2 (zK1i (by omega) (by omega) (by omega) (by omega) (fun n2 u2 _ => (zX290k (by omega) (by omega) hy mg (fun p => hk (by unfold zMj at p; unfold zCj; omega)) (by omega)).2 (zK2i (by omega) (by omega) (by omega) (by omega) (zIn_e I ht (fun r j _ _ => by simp (disch := omega) only [zm_un])) (zIp_e J (fun r j _ _ => by simp (disch := omega) only [zm_un])) (zRe_e R (zIn_w I) (fun r j _ _ _ => by simp (disch := omega) only [zm_un])) ⟨3, 0, rfl, rfl, zm_us, fun q => absurd q (by decide), by decide⟩)))
