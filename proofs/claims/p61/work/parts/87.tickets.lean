/-! ===== STEPS: checksum, prizes, tickets ===== -/
set_option maxRecDepth 65536
theorem zRe_ck {e : zm_D} (R : zRe e) : ∀ k : Nat, k ≤ 8 → zmck e k = zcck e k := by
  intro k
  induction k with
  | zero => intro _; rfl
  | succ k ih =>
    intro q
    have a := (R.2.1 (k : Int) (by omega) (by omega)).1
    unfold zmck zcck
    rw [ih (by omega), a.1, a.2.1]
theorem zRe_cx {t : Int} {e : zm_D} (I : zIn t e) (R : zRe e) : zmcx e = zccx e := by
  have i9 := I.2.1.1
  have ra := R.1
  unfold zRa at ra
  obtain ⟨⟨a1, a2, a3⟩, ⟨a4, a5, a6⟩, a7⟩ := ra
  have t0 := (R.2.2.2.1 0 (by decide) (by decide)).1
  have t1 := (R.2.2.2.1 1 (by decide) (by decide)).1
  have t2 := (R.2.2.2.1 2 (by decide) (by decide)).1
  unfold zmcx zccx
  rw [a1, zRe_ck R (e 1 9).toNat (by omega), t0, t1, t2, a2, a6, a7]
  rfl
theorem zP60 {S : zSs} {D n u : Nat} {g : Int → zk_K} {e : zm_D} {t : Int} (I : zIn t e) (J : zIp t e) (R : zRe e) (ht : t < 600) (hD : 40 ≤ D) : zE S D 178 [zv_a 1] n (zSg g) (zDg e) u (zK1 S D t n u 317 [zv_a 61] zPd) := by
  have i9 := I.2.1.1
  have r31 := R.1.1.1
  refine (zC178 I hD).2 (zK1i (by omega) (by omega) (by omega) (by omega) (fun n2 u2 _ => (zX317 (by omega) (by omega)).2 (zK2i (by omega) (by omega) (by omega) (by omega) (zIn_e I ht (fun r j _ _ => by simp (disch := omega) only [zm_un])) (zIp_e J (fun r j _ _ => by simp (disch := omega) only [zm_un])) (zRe_e R (zIn_w I) (fun r j _ _ _ => by simp (disch := omega) only [zm_un])) ⟨by rw [zRe_cx I R], by simp (disch := omega) only [zm_ue]⟩)))
theorem zP48 {S : zSs} {D n u : Nat} {g : Int → zk_K} {e : zm_D} {t : Int} {x : Int} (I : zIn t e) (J : zIp t e) (R : zRe e) (ht : t < 600) (hD : 40 ≤ D) (h_x : -2147483648 ≤ x ∧ x < 2147483648) : zE S D 371 [zv_a 1, zv_i x, zv_a 160] n (zSg g) (zDg e) u (zK1 S D t n u 303 [zv_a 61, zv_i x] zPi) := by
  have i9 := I.2.1.1
  have r31 := R.1.1.1
  by_cases hx : x < 0 ∨ e 1 9 ≤ x
  · refine (zC166n I h_x hx hD).2 (zK1i (by omega) (by omega) (by omega) (by omega) (fun n2 u2 _ => (zX303n h_x (by omega) (by omega) (by omega)).2 (zK2i (by omega) (by omega) (by omega) (by omega) (zIn_e I ht (fun r j _ _ => by simp (disch := omega) only [zm_un])) (zIp_e J (fun r j _ _ => by simp (disch := omega) only [zm_un])) (zRe_e R (zIn_w I) (fun r j _ _ _ => by simp (disch := omega) only [zm_un])) ⟨1, 0, rfl, rfl, zm_us, fun q => absurd q (by decide), by decide⟩)))
  have hx : 0 ≤ x ∧ x < e 1 9 := by omega
  have a := R.2.1 x hx.1 (by omega)
  have b := I.2.2.1 x (by omega)
  have it := I.1
  obtain ⟨a1, a2, a3, a4⟩ := a
  have p0 := a3 0 (by decide) (by decide)
  have p1 := a3 1 (by decide) (by decide)
  have p2 := a3 2 (by decide) (by decide)
  have p3 := a3 3 (by decide) (by decide)
  have pe : 0 + e (152 + x) 0 + e (152 + x) 1 + e (152 + x) 2 + e (152 + x) 3 = 0 + e (16 + 2 * x) 0 + e (16 + 2 * x) 1 + e (16 + 2 * x) 2 + e (16 + 2 * x) 3 := by rw [p0, p1, p2, p3]
  by_cases hz : zw (0 + e (16 + 2 * x) 0 + e (16 + 2 * x) 1 + e (16 + 2 * x) 2 + e (16 + 2 * x) 3) = 0
  · refine (zC166z I hx hz hD).2 (zK1i (by omega) (by omega) (by omega) (by omega) (fun n2 u2 _ => (zX303z (by omega) (by omega) (by rw [pe]; exact hz) (by omega)).2 (zK2i (by omega) (by omega) (by omega) (by omega) (zIn_e I ht (fun r j _ _ => by simp (disch := omega) only [zm_un])) (zIp_e J (fun r j _ _ => by simp (disch := omega) only [zm_un])) (zRe_e R (zIn_w I) (fun r j _ _ _ => by simp (disch := omega) only [zm_un])) ⟨2, 0, rfl, rfl, zm_us, fun q => absurd q (by decide), by decide⟩)))
  have hw := zIn_w I
  refine (zC166 I hx hz hD).2 (zK1i (by omega) (by omega) (by omega) (by omega) (fun n2 u2 _ => (zX303 (by simp (disch := omega) only [zm_un, zm_ro]; omega) (by simp (disch := omega) only [zm_un, zm_ro]; omega) (by simp (disch := omega) only [zm_un, zm_ro]; rw [pe]; exact hz) (by omega)).2 ?_))
  simp (disch := omega) only [zm_un, zm_ro]
  rw [pe]
  clear pe
  have pj := J
  obtain ⟨it, ia, ig, iv, itr, is, ic, iw, im, il⟩ := I
  obtain ⟨ra, rg, rh, rt, ru, rs, rd, rq, rv, rm, rl⟩ := R
  refine zK2i (by omega) (by omega) (by omega) (by omega) ⟨by omega, zIa_e ia (fun j => by simp (disch := omega) only [zm_un, zm_ro]), ?_, zIv_e iv (by simp (disch := omega) only [zm_un, zm_ro]), zIt_e itr (fun i _ _ => by simp (disch := omega) only [zm_un, zm_ro]), zIs_e is (fun r j _ => by simp (disch := omega) only [zm_un, zm_ro]), zIc_e ic (fun r j _ => by simp (disch := omega) only [zm_un, zm_ro]) (fun j _ _ => by simp (disch := omega) only [zm_un, zm_ro]) (by simp (disch := omega) only [zm_un, zm_ro]), zWh_e iw (fun r j _ _ => by simp (disch := omega) only [zm_un, zm_ro]), zIm_e im (fun r j _ => by simp (disch := omega) only [zm_un, zm_ro]), zIl_e il (fun j _ => by simp (disch := omega) only [zm_un, zm_ro]) (fun j => by simp (disch := omega) only [zm_un, zm_ro])⟩ ⟨?_, ?_⟩ ⟨zRa_e ra (fun j _ => by simp (disch := omega) only [zm_un, zm_ro]) (fun j _ => by simp (disch := omega) only [zm_un, zm_ro]) (by simp (disch := omega) only [zm_un, zm_ro]) (by simp (disch := omega) only [zm_un, zm_ro]) (fun j _ => by simp (disch := omega) only [zm_un, zm_ro]) (by simp (disch := omega) only [zm_un, zm_ro]), ?_, zRh_e rh (fun i j _ _ _ => by simp (disch := omega) only [zm_un, zm_ro]) (fun j => by simp (disch := omega) only [zm_un, zm_ro]) (fun j => by simp (disch := omega) only [zm_un, zm_ro]) (by simp (disch := omega) only [zm_un, zm_ro]), zRt_e rt (fun r j _ => by simp (disch := omega) only [zm_un, zm_ro]), zRu_e ru (fun j _ _ => by simp (disch := omega) only [zm_un, zm_ro]) (fun j => by simp (disch := omega) only [zm_un, zm_ro]), zRs_e rs (fun j _ => by simp (disch := omega) only [zm_un, zm_ro]) (by simp (disch := omega) only [zm_un, zm_ro]) (by simp (disch := omega) only [zm_un, zm_ro]) (fun r j _ => by simp (disch := omega) only [zm_un, zm_ro]), zRd_e rd (by simp (disch := omega) only [zm_un, zm_ro]) (fun r j _ => by simp (disch := omega) only [zm_un, zm_ro]), fun s q1 q2 => zRq_e (rq s q1 q2) (by simp (disch := omega) only [zm_un, zm_ro]) (by simp (disch := omega) only [zm_un, zm_ro]) (by simp (disch := omega) only [zm_un, zm_ro]) (by simp (disch := omega) only [zm_un, zm_ro]) (fun r j _ => by simp (disch := omega) only [zm_un, zm_ro]) (fun r j _ => by simp (disch := omega) only [zm_un, zm_ro]), zRv_e rv (by simp (disch := omega) only [zm_un, zm_ro]) (fun r j _ => by simp (disch := omega) only [zm_un, zm_ro]) hw.1, zRm_e rm (fun j _ _ => by simp (disch := omega) only [zm_un, zm_ro]) (fun r j _ => by simp (disch := omega) only [zm_un, zm_ro]) (fun j _ _ => by simp (disch := omega) only [zm_un, zm_ro]), zRl_e rl (fun j _ => by simp (disch := omega) only [zm_un, zm_ro]) (fun j _ => by simp (disch := omega) only [zm_un, zm_ro]) (fun r j _ => by simp (disch := omega) only [zm_un, zm_ro]) hw.2⟩ ⟨0, _, rfl, rfl, by simp (disch := omega) only [zm_un, zm_ue], fun _ => by simp (disch := omega) only [zm_un, zm_ue], by decide⟩
  · intro i hi
    have a2 := ig i hi
    have c2 := pj.1.2 i hi.1 hi.2
    by_cases q : i = x
    · subst q
      simp (disch := omega) only [zm_un, zm_ue, zm_ri, zm_ro, true_and, and_true]
      omega
    · simp (disch := omega) only [zm_un, zm_ue, zm_ri, zm_ro, true_and, and_true]
      omega
  · have pj1 := pj.1.1
    refine ⟨by simp (disch := omega) only [zm_un, zm_ue, zm_ri, zm_ro, true_and, and_true]; omega, fun i h1 h2 => ?_⟩
    have a2 := pj.1.2 i h1 h2
    by_cases q : i = x
    · subst q
      simp (disch := omega) only [zm_un, zm_ue, zm_ri, zm_ro, true_and, and_true]
      omega
    · simp (disch := omega) only [zm_un, zm_ue, zm_ri, zm_ro, true_and, and_true]
      omega
  · obtain ⟨w1, w2, w3, w4, w5⟩ := pj.2
    have a2 := pj.1.2 x hx.1 (by omega)
    refine ⟨?_, fun i h0 h1 h2 => ?_, fun k h1 h2 => ?_, fun s h1 h2 => ?_, fun p => ?_⟩
    · rw [zpp_at (e := e) (x := x) (by omega) (fun i h1 h2 q => by unfold zsp4; simp (disch := omega) only [zm_un, zm_ue, zm_ri, zm_ro, true_and, and_true])]
      unfold zsp4
      simp (disch := omega) only [zm_un, zm_ue, zm_ri, zm_ro, true_and, and_true]
      omega
    · simp (disch := omega) only [zm_un, zm_ro] at h0
      have f := w2 i h0 h1 h2
      simp (disch := omega) only [zm_un, zm_ue, zm_ri, zm_ro, true_and, and_true]
      exact f
    · simp (disch := omega) only [zm_un, zm_ro] at h2
      have f := w3 k h1 h2
      simp (disch := omega) only [zm_un, zm_ue, zm_ri, zm_ro, true_and, and_true]
      exact f
    · have f := w4 s h1 h2
      simp (disch := omega) only [zm_un, zm_ue, zm_ri, zm_ro, true_and, and_true]
      exact f
    · simp (disch := omega) only [zm_un, zm_ro] at p
      exact zNn_e (w5 p) (fun j _ _ => by simp (disch := omega) only [zm_un, zm_ro]) (fun r j _ _ => by simp (disch := omega) only [zm_un, zm_ro])
  · intro i h1 h2
    have b2 := rg i h1 h2
    by_cases q : i = x
    · subst q
      refine ⟨by simp (disch := omega) only [zm_un, zm_ue, zm_ri, zm_ro, true_and, and_true]; omega, by simp (disch := omega) only [zm_un, zm_ue, zm_ri, zm_ro, true_and, and_true]; exact b2.2.1, fun k k1 k2 => ?_, by simp (disch := omega) only [zm_un, zm_ue, zm_ri, zm_ro, true_and, and_true]; exact b2.2.2.2⟩
      rcases (by omega : k = 0 ∨ k = 1 ∨ k = 2 ∨ k = 3) with q | q | q | q
      all_goals subst q
      all_goals simp (disch := omega) only [zm_un, zm_ue, zm_ri, zm_ro]
    · refine ⟨by simp (disch := omega) only [zm_un, zm_ue, zm_ri, zm_ro, true_and, and_true]; exact b2.1, by simp (disch := omega) only [zm_un, zm_ue, zm_ri, zm_ro, true_and, and_true]; exact b2.2.1, fun k k1 k2 => by simp (disch := omega) only [zm_un, zm_ue, zm_ri, zm_ro, true_and, and_true]; exact b2.2.2.1 k k1 k2, by simp (disch := omega) only [zm_un, zm_ue, zm_ri, zm_ro, true_and, and_true]; exact b2.2.2.2⟩
theorem zP45 {S : zSs} {D n u : Nat} {g : Int → zk_K} {e : zm_D} {t : Int} {x y : Int} (I : zIn t e) (J : zIp t e) (R : zRe e) (ht : t < 600) (hD : 40 ≤ D) (h_x : -2147483648 ≤ x ∧ x < 2147483648) (h_y : -2147483648 ≤ y ∧ y < 2147483648) : zE S D 368 [zv_a 1, zv_i x, zv_i y, zv_a 160] n (zSg g) (zDg e) u (zK1 S D t n u 299 [zv_a 61, zv_i x, zv_i y] zPi) := by
  have i9 := I.2.1.1
  have r31 := R.1.1.1
  by_cases hx : x < 0 ∨ e 1 9 ≤ x
  · refine (zC163n I h_x hx hD).2 (zK1i (by omega) (by omega) (by omega) (by omega) (fun n2 u2 _ => (zX299n h_x (by omega) (by omega) (by omega)).2 (zK2i (by omega) (by omega) (by omega) (by omega) (zIn_e I ht (fun r j _ _ => by simp (disch := omega) only [zm_un])) (zIp_e J (fun r j _ _ => by simp (disch := omega) only [zm_un])) (zRe_e R (zIn_w I) (fun r j _ _ _ => by simp (disch := omega) only [zm_un])) ⟨1, 0, rfl, rfl, zm_us, fun q => absurd q (by decide), by decide⟩)))
  have hx : 0 ≤ x ∧ x < e 1 9 := by omega
  by_cases hy : zt3 y
  · have a := R.2.1 x hx.1 (by omega)
    have l67 := ((R.2.2.1 x hx.1 (by omega)).1 hx.2).1
    have b := I.2.2.1 x (by omega)
    have it := I.1
    have i10 := I.2.1.2
    have ra := R.1
    unfold zRa at ra
    have l1 := R.2.2.2.2.2.2.2.2.2.2.1
    have il1 := I.2.2.2.2.2.2.2.2.2
    have il2 := il1.1.1
    have il3 := il1.2
    have mg : zMg e x := by unfold zMg zB2; omega
    by_cases hk : zCj e x 2
    · have mk : zMj e x 2 := by unfold zMj; unfold zCj at hk; omega
      by_cases hs : e 12 2 = 12 ∨ e 12 3 ≠ 0
      · refine (zC163s I hx hy hk hs hD).2 (zK1i (by omega) (by omega) (by omega) (by omega) (fun n2 u2 _ => (zX299s (by omega) (by omega) hy mg mk (by omega) (by omega) (by omega) (by omega)).2 (zK2i (by omega) (by omega) (by omega) (by omega) (zIn_e I ht (fun r j _ _ => by simp (disch := omega) only [zm_un])) (zIp_e J (fun r j _ _ => by simp (disch := omega) only [zm_un])) (zRe_e R (zIn_w I) (fun r j _ _ _ => by simp (disch := omega) only [zm_un])) ⟨4, 0, rfl, rfl, zm_us, fun q => absurd q (by decide), by decide⟩)))
      have h3 : e 12 3 = 0 := by omega
      have h2 : e 12 2 < 12 := by omega
      have hw := zIn_w I
      obtain ⟨c, hc⟩ : ∃ c, e 12 2 = c := ⟨_, rfl⟩
      have hE : zm_u (zsl (zm_u (zm_u e (15 + 2 * x) 2 (e (15 + 2 * x) 2 - 2)) (15 + 2 * x) 5 (e (15 + 2 * x) 5 + 2)) (15 + 2 * x) (zsC y)) 160 0 (zw (e 12 2 + 1)) = (zm_u (zm_u (zm_u (zm_u (zm_u (zm_u (zm_u e (15 + 2 * x) 2 (e (15 + 2 * x) 2 - 2)) (15 + 2 * x) 5 (e (15 + 2 * x) 5 + 2)) 13 c (15 + 2 * x)) 14 c (zsC y)) 12 2 (c + 1)) 12 4 (e 12 4 + 2)) 160 0 (zw (c + 1))) := by
        unfold zsl
        simp (disch := omega) only [zm_un, hc]
      have mg2 : zMg (zm_u (zm_u (zm_u (zm_u (zm_u (zm_u (zm_u e (15 + 2 * x) 2 (e (15 + 2 * x) 2 - 2)) (15 + 2 * x) 5 (e (15 + 2 * x) 5 + 2)) 13 c (15 + 2 * x)) 14 c (zsC y)) 12 2 (c + 1)) 12 4 (e 12 4 + 2)) 160 0 (zw (c + 1))) x := by unfold zMg zB2 at *; simp (disch := omega) only [zm_un]; exact mg
      have mk2 : zMj (zm_u (zm_u (zm_u (zm_u (zm_u (zm_u (zm_u e (15 + 2 * x) 2 (e (15 + 2 * x) 2 - 2)) (15 + 2 * x) 5 (e (15 + 2 * x) 5 + 2)) 13 c (15 + 2 * x)) 14 c (zsC y)) 12 2 (c + 1)) 12 4 (e 12 4 + 2)) 160 0 (zw (c + 1))) x 2 := by unfold zMj at *; simp (disch := omega) only [zm_un]; exact mk
      refine (zC163 I hx hy hk h2 h3 hD).2 ?_
      rw [hE]
      refine zK1i (by omega) (by omega) (by omega) (by omega) (fun n2 u2 _ => (zX299 (by first | omega | (unfold zB2; omega) | (simp (disch := omega) only [zm_un, zm_ue]; omega) | (unfold zB2; simp (disch := omega) only [zm_un, zm_ue]; omega)) (by first | omega | (unfold zB2; omega) | (simp (disch := omega) only [zm_un, zm_ue]; omega) | (unfold zB2; simp (disch := omega) only [zm_un, zm_ue]; omega)) hy mg2 mk2 (by first | omega | (unfold zB2; omega) | (simp (disch := omega) only [zm_un, zm_ue]; omega) | (unfold zB2; simp (disch := omega) only [zm_un, zm_ue]; omega)) (by first | omega | (unfold zB2; omega) | (simp (disch := omega) only [zm_un, zm_ue]; omega) | (unfold zB2; simp (disch := omega) only [zm_un, zm_ue]; omega)) (by omega)).2 ?_)
      have e46 : e 61 46 = c := by omega
      simp (disch := omega) only [zm_un, e46]
      unfold zCj at hk
      clear mg2 mk2 mk mg hE
      have pj := J
      obtain ⟨it, ia, ig, iv, itr, is, ic, iw, im, il⟩ := I
      obtain ⟨ra, rg, rh, rt, ru, rs, rd, rq, rv, rm, rl⟩ := R
      refine zK2i (by omega) (by omega) (by omega) (by omega) ⟨by omega, zIa_e ia (fun j => by simp (disch := omega) only [zm_un]), ?_, zIv_e iv (by simp (disch := omega) only [zm_un]), zIt_e itr (fun i _ _ => by simp (disch := omega) only [zm_un]), zIs_e is (fun r j _ => by simp (disch := omega) only [zm_un]), zIc_e ic (fun r j _ => by simp (disch := omega) only [zm_un]) (fun j _ _ => by simp (disch := omega) only [zm_un]) (by simp (disch := omega) only [zm_un]), zWh_e iw (fun r j _ _ => by simp (disch := omega) only [zm_un]), zIm_e im (fun r j _ => by simp (disch := omega) only [zm_un]), ?_⟩ ⟨?_, ?_⟩ ⟨?_, ?_, zRh_e rh (fun i j _ _ _ => by simp (disch := omega) only [zm_un]) (fun j => by simp (disch := omega) only [zm_un]) (fun j => by simp (disch := omega) only [zm_un]) (by simp (disch := omega) only [zm_un]), zRt_e rt (fun r j _ => by simp (disch := omega) only [zm_un]), zRu_e ru (fun j _ _ => by simp (disch := omega) only [zm_un]) (fun j => by simp (disch := omega) only [zm_un]), zRs_e rs (fun j _ => by simp (disch := omega) only [zm_un]) (by simp (disch := omega) only [zm_un]) (by simp (disch := omega) only [zm_un]) (fun r j _ => by simp (disch := omega) only [zm_un]), zRd_e rd (by simp (disch := omega) only [zm_un]) (fun r j _ => by simp (disch := omega) only [zm_un]), fun s q1 q2 => zRq_e (rq s q1 q2) (by simp (disch := omega) only [zm_un]) (by simp (disch := omega) only [zm_un]) (by simp (disch := omega) only [zm_un]) (by simp (disch := omega) only [zm_un]) (fun r j _ => by simp (disch := omega) only [zm_un]) (fun r j _ => by simp (disch := omega) only [zm_un]), zRv_e rv (by simp (disch := omega) only [zm_un]) (fun r j _ => by simp (disch := omega) only [zm_un]) hw.1, zRm_e rm (fun j _ _ => by simp (disch := omega) only [zm_un]) (fun r j _ => by simp (disch := omega) only [zm_un]) (fun j _ _ => by simp (disch := omega) only [zm_un]), ?_⟩ ⟨0, _, rfl, rfl, by simp (disch := omega) only [zm_un, zm_ue], fun _ => by simp (disch := omega) only [zm_un, zm_ue], by decide⟩
      · intro i hi
        have a2 := ig i hi
        by_cases q : i = x
        · subst q
          simp (disch := omega) only [zm_un, zm_ue, true_and, and_true]
          omega
        · simp (disch := omega) only [zm_un, zm_ue, true_and, and_true]
          omega
      · obtain ⟨⟨z1, z2⟩, z3⟩ := il
        refine ⟨⟨by simp (disch := omega) only [zm_un, zm_ue, true_and, and_true]; omega, fun i q1 q2 => ?_⟩, by simp (disch := omega) only [zm_un, zm_ue, true_and, and_true]; exact z3⟩
        simp (disch := omega) only [zm_un, zm_ue] at q2
        by_cases q : i = c
        · subst q
          simp (disch := omega) only [zm_un, zm_ue]
          exact .inr ⟨x, by omega, rfl⟩
        · simp (disch := omega) only [zm_un]
          exact z2 i q1 (by omega)
      · have pj1 := pj.1.1
        refine ⟨by simp (disch := omega) only [zm_un, zm_ue, true_and, and_true]; omega, fun i h1 h2 => ?_⟩
        have a2 := pj.1.2 i h1 h2
        by_cases q : i = x
        · subst q
          simp (disch := omega) only [zm_un, zm_ue, true_and, and_true]
          omega
        · simp (disch := omega) only [zm_un, zm_ue, true_and, and_true]
          omega
      · obtain ⟨w1, w2, w3, w4, w5⟩ := pj.2
        refine ⟨?_, fun i h0 h1 h2 => ?_, fun k h1 h2 => ?_, fun s h1 h2 => ?_, fun p => ?_⟩
        · rw [zpp_e (e := e) (fun i h1 h2 => by unfold zsp4; simp (disch := omega) only [zm_un, zm_ue, true_and, and_true])]
          simp (disch := omega) only [zm_un, zm_ue, true_and, and_true]
          omega
        · simp (disch := omega) only [zm_un] at h0
          have f := w2 i h0 h1 h2
          simp (disch := omega) only [zm_un, zm_ue, true_and, and_true]
          exact f
        · simp (disch := omega) only [zm_un, zm_ue] at h2
          by_cases q : k = c
          · subst q
            simp (disch := omega) only [zm_un, zm_ue, true_and, and_true]
            omega
          · have f := w3 k h1 (by omega)
            simp (disch := omega) only [zm_un, zm_ue, true_and, and_true]
            exact f
        · have f := w4 s h1 h2
          simp (disch := omega) only [zm_un, zm_ue, true_and, and_true]
          exact f
        · simp (disch := omega) only [zm_un] at p
          exact zNn_e (w5 p) (fun j _ _ => by simp (disch := omega) only [zm_un]) (fun r j _ _ => by simp (disch := omega) only [zm_un])
      · unfold zRa
        simp (disch := omega) only [zm_un, zm_ue, true_and, and_true]
        omega
      · intro i h1 h2
        have a2 := rg i h1 h2
        by_cases q : i = x
        · subst q
          simp (disch := omega) only [zm_un, zm_ue, true_and, and_true]
          have a3 := a2.1
          refine ⟨by omega, a2.2.1, a2.2.2.1, a2.2.2.2⟩
        · simp (disch := omega) only [zm_un, zm_ue, true_and, and_true]
          exact a2
      · obtain ⟨z1, z2⟩ := rl
        refine ⟨by simp (disch := omega) only [zm_un, zm_ue, true_and, and_true]; omega, fun k q1 q2 => ?_⟩
        simp (disch := omega) only [zm_un, zm_ue] at q2
        by_cases q : k = c
        · subst q
          simp (disch := omega) only [zm_un, zm_ue]
          exact ⟨.inr ⟨by omega, trivial⟩, trivial⟩
        · simp (disch := omega) only [zm_un]
          exact z2 k q1 (by omega)
    · refine (zC163k I hx hy hk hD).2 (zK1i (by omega) (by omega) (by omega) (by omega) (fun n2 u2 _ => (zX299k (by omega) (by omega) hy mg (fun p => hk (by unfold zMj at p; unfold zCj; omega)) (by omega)).2 (zK2i (by omega) (by omega) (by omega) (by omega) (zIn_e I ht (fun r j _ _ => by simp (disch := omega) only [zm_un])) (zIp_e J (fun r j _ _ => by simp (disch := omega) only [zm_un])) (zRe_e R (zIn_w I) (fun r j _ _ _ => by simp (disch := omega) only [zm_un])) ⟨3, 0, rfl, rfl, zm_us, fun q => absurd q (by decide), by decide⟩)))
  · refine (zC163x I hx h_y hy hD).2 (zK1i (by omega) (by omega) (by omega) (by omega) (fun n2 u2 _ => (zX299x (by omega) (by omega) h_y hy (by omega)).2 (zK2i (by omega) (by omega) (by omega) (by omega) (zIn_e I ht (fun r j _ _ => by simp (disch := omega) only [zm_un])) (zIp_e J (fun r j _ _ => by simp (disch := omega) only [zm_un])) (zRe_e R (zIn_w I) (fun r j _ _ _ => by simp (disch := omega) only [zm_un])) ⟨2, 0, rfl, rfl, zm_us, fun q => absurd q (by decide), by decide⟩)))
