/-! ===== STEPS: the draw ===== -/
set_option maxRecDepth 65536
theorem zrc_m {e d : zm_D} {y : Int} (h : ∀ r j : Int, (12 ≤ r ∧ r ≤ 14) → d r j = e r j) : ∀ k : Nat, zrc d y k = zrc e y k := by
  intro k
  induction k with
  | zero => rfl
  | succ k ih => unfold zrc zrn; rw [ih, h 13 _ (by omega), h 14 _ (by omega), h 12 _ (by omega)]
/-- right tickets: class and reference -/
theorem zRe_rg {d : zm_D} (R : zRl d) (h3 : d 12 3 ≠ 0) {y : Int} (hy : y ≠ 0) : ∀ k : Nat, (k : Int) ≤ d 12 2 → zmrg d y k = zrc d y k := by
  obtain ⟨⟨-, a⟩, b⟩ := R
  have a2 : d 61 47 = d 12 3 := by omega
  intro k
  induction k with
  | zero => intro _; rfl
  | succ k ih =>
    intro q
    obtain ⟨c, f⟩ := b (k : Int) (by omega) (by omega)
    unfold zmrg zrc zmrn zrn
    rw [ih (by omega), f, a2]
    rcases c with c | c
    · rw [if_neg (by omega), if_pos c.1, if_neg (by unfold zw; omega)]
    · rw [if_neg (show ¬ d 13 (k : Int) = 0 by omega)]
      by_cases p : zw (zbc (zb_and (d 14 (k : Int)) (d 12 3))) = y
      · rw [if_pos ⟨by omega, p⟩, if_pos p]
      · rw [if_neg (fun q => p q.2), if_neg p]
theorem zRe_Ml {t : Int} {e : zm_D} (I : zIn t e) (R : zRe e) : zMl e := by
  have il := I.2.2.2.2.2.2.2.2.2.1.1
  obtain ⟨a, b⟩ := R.2.2.2.2.2.2.2.2.2.2
  refine ⟨by omega, fun k q1 q2 => ?_⟩
  have c := (b k q1 (by omega)).1
  omega
theorem zP46 {S : zSs} {D n u : Nat} {g : Int → zk_K} {e : zm_D} {t : Int} {x : Int} (I : zIn t e) (J : zIp t e) (R : zRe e) (ht : t < 600) (hD : 40 ≤ D) (h_x : -2147483648 ≤ x ∧ x < 2147483648) : zE S D 369 [zv_a 1, zv_i x, zv_a 160] n (zSg g) (zDg e) u (zK1 S D t n u 301 [zv_a 61, zv_i x] zPi) := by
  by_cases ht3 : zt3 x
  · have hw := zIn_w I
    have Ml := zRe_Ml I R
    have zs := (zsT_i ht3.1).2
    have m1 := Ml.1
    have ME : zMl (zm_u (zm_u e 12 3 (zsC x)) 160 0 (zw (zrc (zm_u e 12 3 (zsC x)) 3 (e 12 2).toNat))) := by
      refine ⟨by simp (disch := omega) only [zm_un]; exact Ml.1, fun k q1 q2 => ?_⟩
      simp (disch := omega) only [zm_un] at q2
      simp (disch := omega) only [zm_un]
      exact Ml.2 k q1 q2
    have pj := J
    obtain ⟨it, ia, ig, iv, itr, is, ic, iw, im, il⟩ := I
    obtain ⟨ra, rg, rh, rt, ru, rs, rd, rq, rv, rm, rl⟩ := R
    have rlG : zRl (zm_u (zm_u (zm_u (zm_u e 12 3 (zsC x)) 160 0 (zw (zrc (zm_u e 12 3 (zsC x)) 3 (e 12 2).toNat))) 61 49 0) 61 47 (zsC x)) := by
      obtain ⟨⟨l1, l2⟩, l3⟩ := rl
      have c12 := il.1.1
      refine ⟨⟨by simp (disch := omega) only [zm_un]; exact l1, .inr ⟨by simp (disch := omega) only [zm_un, zm_ue]; omega, by simp (disch := omega) only [zm_un, zm_ue]⟩⟩, fun k q1 q2 => ?_⟩
      simp (disch := omega) only [zm_un] at q2
      simp (disch := omega) only [zm_un]
      exact l3 k q1 q2
    have val : zmr (zm_u (zm_u (zm_u (zm_u e 12 3 (zsC x)) 160 0 (zw (zrc (zm_u e 12 3 (zsC x)) 3 (e 12 2).toNat))) 61 49 0) 61 47 (zsC x)) 3 = zrc (zm_u e 12 3 (zsC x)) 3 (e 12 2).toNat := by
      have e46 : (zm_u (zm_u (zm_u (zm_u e 12 3 (zsC x)) 160 0 (zw (zrc (zm_u e 12 3 (zsC x)) 3 (e 12 2).toNat))) 61 49 0) 61 47 (zsC x)) 61 46 = e 12 2 := by simp (disch := omega) only [zm_un]; exact rl.1.1
      have c12 := il.1.1
      unfold zmr
      rw [e46, zRe_rg rlG (by simp (disch := omega) only [zm_un, zm_ue]; omega) (by decide) _ (by simp (disch := omega) only [zm_un]; omega)]
      exact zrc_m (fun r j _ => by simp (disch := omega) only [zm_un]) _
    refine (zC164 ⟨it, ia, ig, iv, itr, is, ic, iw, im, il⟩ ht3 hD).2 (zK1i (by omega) (by omega) (by omega) (by omega) (fun n2 u2 _ => (zX301 ht3 ME (by omega)).2 ?_))
    rw [val]
    clear val ME
    refine zK2i (by omega) (by omega) (by omega) (by omega) ⟨by omega, zIa_e ia (fun j => by simp (disch := omega) only [zm_un]), zIg_e ig (fun i j _ _ => by simp (disch := omega) only [zm_un]), zIv_e iv (by simp (disch := omega) only [zm_un]), zIt_e itr (fun i _ _ => by simp (disch := omega) only [zm_un]), zIs_e is (fun r j _ => by simp (disch := omega) only [zm_un]), zIc_e ic (fun r j _ => by simp (disch := omega) only [zm_un]) (fun j _ _ => by simp (disch := omega) only [zm_un]) (by simp (disch := omega) only [zm_un]), zWh_e iw (fun r j _ _ => by simp (disch := omega) only [zm_un]), zIm_e im (fun r j _ => by simp (disch := omega) only [zm_un]), ?_⟩ ⟨zIp0_e pj.1 (fun r j _ _ => by simp (disch := omega) only [zm_un]), zIz_e pj.2 (fun r j _ => by simp (disch := omega) only [zm_un])⟩ ⟨zRa_e ra (fun j _ => by simp (disch := omega) only [zm_un]) (fun j _ => by simp (disch := omega) only [zm_un]) (by simp (disch := omega) only [zm_un]) (by simp (disch := omega) only [zm_un]) (fun j _ => by simp (disch := omega) only [zm_un]) (by simp (disch := omega) only [zm_un]), zRg_e rg (fun r j _ => by simp (disch := omega) only [zm_un]), zRh_e rh (fun i j _ _ _ => by simp (disch := omega) only [zm_un]) (fun j => by simp (disch := omega) only [zm_un]) (fun j => by simp (disch := omega) only [zm_un]) (by simp (disch := omega) only [zm_un]), zRt_e rt (fun r j _ => by simp (disch := omega) only [zm_un]), zRu_e ru (fun j _ _ => by simp (disch := omega) only [zm_un]) (fun j => by simp (disch := omega) only [zm_un]), zRs_e rs (fun j _ => by simp (disch := omega) only [zm_un]) (by simp (disch := omega) only [zm_un]) (by simp (disch := omega) only [zm_un]) (fun r j _ => by simp (disch := omega) only [zm_un]), zRd_e rd (by simp (disch := omega) only [zm_un]) (fun r j _ => by simp (disch := omega) only [zm_un]), fun s q1 q2 => zRq_e (rq s q1 q2) (by simp (disch := omega) only [zm_un]) (by simp (disch := omega) only [zm_un]) (by simp (disch := omega) only [zm_un]) (by simp (disch := omega) only [zm_un]) (fun r j _ => by simp (disch := omega) only [zm_un]) (fun r j _ => by simp (disch := omega) only [zm_un]), zRv_e rv (by simp (disch := omega) only [zm_un]) (fun r j _ => by simp (disch := omega) only [zm_un]) hw.1, zRm_e rm (fun j _ _ => by simp (disch := omega) only [zm_un]) (fun r j _ => by simp (disch := omega) only [zm_un]) (fun j _ _ => by simp (disch := omega) only [zm_un]), ?_⟩ ⟨0, _, rfl, rfl, by simp (disch := omega) only [zm_un, zm_ue], fun _ => by simp (disch := omega) only [zm_un, zm_ue], by decide⟩
    · obtain ⟨z1, z2⟩ := il
      refine ⟨zLo_e z1 (by simp (disch := omega) only [zm_un]) (fun j => by simp (disch := omega) only [zm_un]), by simp (disch := omega) only [zm_un, zm_ue]; omega⟩
    · exact rlG
  · refine (zC164x I h_x ht3 hD).2 (zK1i (by omega) (by omega) (by omega) (by omega) (fun n2 u2 _ => (zX301x h_x ht3 (by omega)).2 (zK2i (by omega) (by omega) (by omega) (by omega) (zIn_e I ht (fun r j _ _ => by simp (disch := omega) only [zm_un])) (zIp_e J (fun r j _ _ => by simp (disch := omega) only [zm_un])) (zRe_e R (zIn_w I) (fun r j _ _ _ => by simp (disch := omega) only [zm_un])) ⟨1, 0, rfl, rfl, zm_us, fun q => absurd q (by decide), by decide⟩)))
