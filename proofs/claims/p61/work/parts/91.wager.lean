/-! ===== STEPS: a wager ===== -/
set_option maxRecDepth 65536
theorem zmwg_r {e : zm_D} {N q k y x w r j : Int} (hw : e 61 39 = w) (b : 0 ≤ w ∧ w < 10) (hN : 162 ≤ N) (hr : r ≤ 161) : zmwg e N q k y x r j = (zm_u (zm_u (zm_u (zm_u (zm_u (zm_u (zm_u (zm_u e 61 49 0) 63 q (e 63 q - x)) 64 q (e 64 q + x)) (123 + w) 0 q) (123 + w) 1 k) (123 + w) 2 y) (123 + w) 3 x) 61 39 (w + 1)) r j := by
  unfold zmwg
  rw [hw]
  by_cases c : r = 61 ∧ j = 39
  · rw [zm_ue c.1 c.2, zm_ue c.1 c.2]
  · rw [zm_un (by omega), zm_un (r := 61) (j := 39) (by omega)]
    unfold zm_cp
    by_cases p : r = 123 + w ∧ (0 ≤ j ∧ j < 0 + 4)
    · rw [if_pos p]
      rcases (by omega : j = 0 ∨ j = 1 ∨ j = 2 ∨ j = 3) with z | z | z | z
      all_goals subst z
      all_goals simp (disch := omega) only [zm_un, zm_ue]
    · rw [if_neg p]
      simp (disch := omega) only [zm_un, zm_zn]
theorem zP33 {S : zSs} {D n u : Nat} {g : Int → zk_K} {e : zm_D} {t : Int} {x k y c : Int} (I : zIn t e) (J : zIp t e) (R : zRe e) (ht : t < 600) (hD : 40 ≤ D) (hn : 161 ≤ n) (h_x : -2147483648 ≤ x ∧ x < 2147483648) (hk0 : 0 ≤ k ∧ k < 65536) (h_y : -2147483648 ≤ y ∧ y < 2147483648) (h_c : -2147483648 ≤ c ∧ c < 2147483648) : zE S D 359 [zv_a 1, zv_i x, zv_i k, zv_i y, zv_i c, zv_a 160] n (zSg g) (zDg e) u (zK1 S D t n u 280 [zv_a 61, zv_i x, zv_i k, zv_i y, zv_i c] zPi) := by
  have i9 := I.2.1.1
  have r31 := R.1.1.1
  by_cases hx : x < 0 ∨ e 1 9 ≤ x
  · refine (zC151n I h_x hx hD).2 (zK1i (by omega) (by omega) (by omega) (by omega) (fun n2 u2 _ => (zX280n hk0 h_y h_x (by omega) (by omega) (by omega)).2 (zK2i (by omega) (by omega) (by omega) (by omega) (zIn_e I ht (fun r j _ _ => by simp (disch := omega) only [zm_un])) (zIp_e J (fun r j _ _ => by simp (disch := omega) only [zm_un])) (zRe_e R (zIn_w I) (fun r j _ _ _ => by simp (disch := omega) only [zm_un])) ⟨1, 0, rfl, rfl, zm_us, fun q => absurd q (by decide), by decide⟩)))
  have hx : 0 ≤ x ∧ x < e 1 9 := by omega
  rcases (by unfold zwg; split <;> omega : zwg k y = 0 ∨ zwg k y = 1) with hg | hg
  · refine (zC151w I hx hk0 h_y hg hD).2 (zK1i (by omega) (by omega) (by omega) (by omega) (fun n2 u2 _ => (zX280x hk0 h_y (by omega) (by omega) h_c (.inl hg) (by omega)).2 (zK2i (by omega) (by omega) (by omega) (by omega) (zIn_e I ht (fun r j _ _ => by simp (disch := omega) only [zm_un])) (zIp_e J (fun r j _ _ => by simp (disch := omega) only [zm_un])) (zRe_e R (zIn_w I) (fun r j _ _ _ => by simp (disch := omega) only [zm_un])) ⟨2, 0, rfl, rfl, zm_us, fun q => absurd q (by decide), by decide⟩)))
  by_cases hc : c < 1 ∨ 500 < c
  · refine (zC151x I hx hk0 h_y hg h_c hc hD).2 (zK1i (by omega) (by omega) (by omega) (by omega) (fun n2 u2 _ => (zX280x hk0 h_y (by omega) (by omega) h_c (.inr hc) (by omega)).2 (zK2i (by omega) (by omega) (by omega) (by omega) (zIn_e I ht (fun r j _ _ => by simp (disch := omega) only [zm_un])) (zIp_e J (fun r j _ _ => by simp (disch := omega) only [zm_un])) (zRe_e R (zIn_w I) (fun r j _ _ _ => by simp (disch := omega) only [zm_un])) ⟨2, 0, rfl, rfl, zm_us, fun q => absurd q (by decide), by decide⟩)))
  have hc : 1 ≤ c ∧ c ≤ 500 := by omega
  have a := R.2.1 x hx.1 (by omega)
  have l67 := ((R.2.2.1 x hx.1 (by omega)).1 hx.2).1
  have b := I.2.2.1 x (by omega)
  have it := I.1
  have i10 := I.2.1.2
  have ra := R.1
  unfold zRa at ra
  have mg : zMg e x := by unfold zMg zB2; omega
  have v39 := R.2.2.2.2.2.2.2.2.1.1
  have v5 := I.2.2.2.2.2.2.2.1.1
  by_cases hk : zCj e x c
  · have mk : zMj e x c := by unfold zMj; unfold zCj at hk; omega
    by_cases h5 : e 53 5 = 10
    · refine (zC151f I hx hk0 h_y hg hc hk h5 hD).2 (zK1i (by omega) (by omega) (by omega) (by omega) (fun n2 u2 _ => (zX280f hk0 h_y (by omega) (by omega) hc hg mg mk (by omega) (by omega)).2 (zK2i (by omega) (by omega) (by omega) (by omega) (zIn_e I ht (fun r j _ _ => by simp (disch := omega) only [zm_un])) (zIp_e J (fun r j _ _ => by simp (disch := omega) only [zm_un])) (zRe_e R (zIn_w I) (fun r j _ _ _ => by simp (disch := omega) only [zm_un])) ⟨4, 0, rfl, rfl, zm_us, fun q => absurd q (by decide), by decide⟩)))
    have h5 : e 53 5 < 10 := by omega
    have hw := zIn_w I
    obtain ⟨w, hw5⟩ : ∃ w, e 53 5 = w := ⟨_, rfl⟩
    have hE : zm_u (zwa (zm_u (zm_u e (15 + 2 * x) 2 (e (15 + 2 * x) 2 - c)) (15 + 2 * x) 5 (e (15 + 2 * x) 5 + c)) (15 + 2 * x) k y c) 160 0 (zw (e 53 5 + 1)) = (zm_u (zm_u (zm_u (zm_u (zm_u (zm_u (zm_u (zm_u e (15 + 2 * x) 2 (e (15 + 2 * x) 2 - c)) (15 + 2 * x) 5 (e (15 + 2 * x) 5 + c)) 54 w (15 + 2 * x)) 55 w k) 56 w y) 57 w c) 53 5 (w + 1)) 160 0 (zw (w + 1))) := by
      unfold zwa
      simp (disch := omega) only [zm_un, hw5]
    have mg2 : zMg (zm_u (zm_u (zm_u (zm_u (zm_u (zm_u (zm_u (zm_u e (15 + 2 * x) 2 (e (15 + 2 * x) 2 - c)) (15 + 2 * x) 5 (e (15 + 2 * x) 5 + c)) 54 w (15 + 2 * x)) 55 w k) 56 w y) 57 w c) 53 5 (w + 1)) 160 0 (zw (w + 1))) x := by unfold zMg zB2 at *; simp (disch := omega) only [zm_un]; exact mg
    have mk2 : zMj (zm_u (zm_u (zm_u (zm_u (zm_u (zm_u (zm_u (zm_u e (15 + 2 * x) 2 (e (15 + 2 * x) 2 - c)) (15 + 2 * x) 5 (e (15 + 2 * x) 5 + c)) 54 w (15 + 2 * x)) 55 w k) 56 w y) 57 w c) 53 5 (w + 1)) 160 0 (zw (w + 1))) x c := by unfold zMj at *; simp (disch := omega) only [zm_un]; exact mk
    have e39 : (zm_u (zm_u (zm_u (zm_u (zm_u (zm_u (zm_u (zm_u e (15 + 2 * x) 2 (e (15 + 2 * x) 2 - c)) (15 + 2 * x) 5 (e (15 + 2 * x) 5 + c)) 54 w (15 + 2 * x)) 55 w k) 56 w y) 57 w c) 53 5 (w + 1)) 160 0 (zw (w + 1))) 61 39 = w := by simp (disch := omega) only [zm_un]; omega
    refine (zC151 I hx hk0 h_y hg hc hk h5 hD).2 ?_
    rw [hE]
    refine zK1i (by omega) (by omega) (by omega) (by omega) (fun n2 u2 hn2 => (zX280 hk0 h_y (by first | omega | (unfold zB2; omega) | (simp (disch := omega) only [zm_un, zm_ue]; omega) | (unfold zB2; simp (disch := omega) only [zm_un, zm_ue]; omega)) (by first | omega | (unfold zB2; omega) | (simp (disch := omega) only [zm_un, zm_ue]; omega) | (unfold zB2; simp (disch := omega) only [zm_un, zm_ue]; omega)) hc hg mg2 mk2 (by omega) (by omega) (by omega)).2 ?_)
    have hd : ∀ r j : Int, r ≤ 161 → zmwg (zm_u (zm_u (zm_u (zm_u (zm_u (zm_u (zm_u (zm_u e (15 + 2 * x) 2 (e (15 + 2 * x) 2 - c)) (15 + 2 * x) 5 (e (15 + 2 * x) 5 + c)) 54 w (15 + 2 * x)) 55 w k) 56 w y) 57 w c) 53 5 (w + 1)) 160 0 (zw (w + 1))) ((n2 : Int) + 1) x k y c r j = (zm_u (zm_u (zm_u (zm_u (zm_u (zm_u (zm_u (zm_u (zm_u (zm_u (zm_u (zm_u (zm_u (zm_u (zm_u (zm_u e (15 + 2 * x) 2 (e (15 + 2 * x) 2 - c)) (15 + 2 * x) 5 (e (15 + 2 * x) 5 + c)) 54 w (15 + 2 * x)) 55 w k) 56 w y) 57 w c) 53 5 (w + 1)) 160 0 (zw (w + 1))) 61 49 0) 63 x (e 63 x - c)) 64 x (e 64 x + c)) (123 + w) 0 x) (123 + w) 1 k) (123 + w) 2 y) (123 + w) 3 c) 61 39 (w + 1)) r j := fun r j h => by
      rw [zmwg_r e39 (by omega) (by omega) h]
      simp (disch := omega) only [zm_un]
    rw [e39]
    generalize zmwg (zm_u (zm_u (zm_u (zm_u (zm_u (zm_u (zm_u (zm_u e (15 + 2 * x) 2 (e (15 + 2 * x) 2 - c)) (15 + 2 * x) 5 (e (15 + 2 * x) 5 + c)) 54 w (15 + 2 * x)) 55 w k) 56 w y) 57 w c) 53 5 (w + 1)) 160 0 (zw (w + 1))) ((n2 : Int) + 1) x k y c = d at hd ⊢
    unfold zCj at hk
    clear mg2 mk2 mk mg hE e39
    have pj := J
    obtain ⟨it, ia, ig, iv, itr, is, ic, iw, im, il⟩ := I
    obtain ⟨ra, rg, rh, rt, ru, rs, rd, rq, rv, rm, rl⟩ := R
    refine zK2i (by omega) (by omega) (by omega) (by omega) ⟨by omega, zIa_e ia (fun j => by rw [hd _ _ (by omega)]; simp (disch := omega) only [zm_un]), ?_, zIv_e iv (by rw [hd _ _ (by omega)]; simp (disch := omega) only [zm_un]), zIt_e itr (fun i _ _ => by rw [hd _ _ (by omega)]; simp (disch := omega) only [zm_un]), zIs_e is (fun r j _ => by rw [hd _ _ (by omega)]; simp (disch := omega) only [zm_un]), zIc_e ic (fun r j _ => by rw [hd _ _ (by omega)]; simp (disch := omega) only [zm_un]) (fun j _ _ => by rw [hd _ _ (by omega)]; simp (disch := omega) only [zm_un]) (by rw [hd _ _ (by omega)]; simp (disch := omega) only [zm_un]), ?_, zIm_e im (fun r j _ => by rw [hd _ _ (by omega)]; simp (disch := omega) only [zm_un]), zIl_e il (fun j _ => by rw [hd _ _ (by omega)]; simp (disch := omega) only [zm_un]) (fun j => by rw [hd _ _ (by omega)]; simp (disch := omega) only [zm_un])⟩ ⟨?_, zIz_g pj.2 hx (fun r j _ => by rw [hd _ _ (by omega)]; simp (disch := omega) only [zm_un])⟩ ⟨?_, ?_, zRh_e rh (fun i j _ _ _ => by rw [hd _ _ (by omega)]; simp (disch := omega) only [zm_un]) (fun j => by rw [hd _ _ (by omega)]; simp (disch := omega) only [zm_un]) (fun j => by rw [hd _ _ (by omega)]; simp (disch := omega) only [zm_un]) (by rw [hd _ _ (by omega)]; simp (disch := omega) only [zm_un]), zRt_e rt (fun r j _ => by rw [hd _ _ (by omega)]; simp (disch := omega) only [zm_un]), zRu_e ru (fun j _ _ => by rw [hd _ _ (by omega)]; simp (disch := omega) only [zm_un]) (fun j => by rw [hd _ _ (by omega)]; simp (disch := omega) only [zm_un]), zRs_e rs (fun j _ => by rw [hd _ _ (by omega)]; simp (disch := omega) only [zm_un]) (by rw [hd _ _ (by omega)]; simp (disch := omega) only [zm_un]) (by rw [hd _ _ (by omega)]; simp (disch := omega) only [zm_un]) (fun r j _ => by rw [hd _ _ (by omega)]; simp (disch := omega) only [zm_un]), zRd_e rd (by rw [hd _ _ (by omega)]; simp (disch := omega) only [zm_un]) (fun r j _ => by rw [hd _ _ (by omega)]; simp (disch := omega) only [zm_un]), fun s q1 q2 => zRq_e (rq s q1 q2) (by rw [hd _ _ (by omega)]; simp (disch := omega) only [zm_un]) (by rw [hd _ _ (by omega)]; simp (disch := omega) only [zm_un]) (by rw [hd _ _ (by omega)]; simp (disch := omega) only [zm_un]) (by rw [hd _ _ (by omega)]; simp (disch := omega) only [zm_un]) (fun r j _ => by rw [hd _ _ (by omega)]; simp (disch := omega) only [zm_un]) (fun r j _ => by rw [hd _ _ (by omega)]; simp (disch := omega) only [zm_un]), ?_, zRm_e rm (fun j _ _ => by rw [hd _ _ (by omega)]; simp (disch := omega) only [zm_un]) (fun r j _ => by rw [hd _ _ (by omega)]; simp (disch := omega) only [zm_un]) (fun j _ _ => by rw [hd _ _ (by omega)]; simp (disch := omega) only [zm_un]), zRl_e rl (fun j _ => by rw [hd _ _ (by omega)]; simp (disch := omega) only [zm_un]) (fun j _ => by rw [hd _ _ (by omega)]; simp (disch := omega) only [zm_un]) (fun r j _ => by rw [hd _ _ (by omega)]; simp (disch := omega) only [zm_un]) hw.2⟩ ⟨0, _, rfl, rfl, by simp (disch := omega) only [hd, zm_un, zm_ue, true_and, and_true], fun _ => by simp (disch := omega) only [hd, zm_un, zm_ue, true_and, and_true], by decide⟩
    · intro i hi
      have a2 := ig i hi
      by_cases q : i = x
      · subst q
        simp (disch := omega) only [hd, zm_un, zm_ue, true_and, and_true]
        omega
      · simp (disch := omega) only [hd, zm_un, zm_ue, true_and, and_true]
        omega
    · obtain ⟨z1, z2⟩ := iw
      refine ⟨by simp (disch := omega) only [hd, zm_un, zm_ue, true_and, and_true]; omega, fun i q1 q2 => ?_⟩
      simp (disch := omega) only [hd, zm_un, zm_ue] at q2
      by_cases q : i = w
      · subst q
        simp (disch := omega) only [hd, zm_un, zm_ue]
        unfold zwg at hg
        refine ⟨.inr ⟨x, by omega, rfl⟩, hk0, fun _ => ?_, by omega⟩
        split at hg <;> omega
      · simp (disch := omega) only [hd, zm_un]
        exact z2 i q1 (by omega)
    · have pj1 := pj.1.1
      refine ⟨by simp (disch := omega) only [hd, zm_un, zm_ue, true_and, and_true]; omega, fun i h1 h2 => ?_⟩
      have a2 := pj.1.2 i h1 h2
      by_cases q : i = x
      · subst q
        simp (disch := omega) only [hd, zm_un, zm_ue, true_and, and_true]
        omega
      · simp (disch := omega) only [hd, zm_un, zm_ue, true_and, and_true]
        omega
    · unfold zRa
      simp (disch := omega) only [hd, zm_un, zm_ue, true_and, and_true]
      omega
    · intro i h1 h2
      have a2 := rg i h1 h2
      by_cases q : i = x
      · subst q
        simp (disch := omega) only [hd, zm_un, zm_ue, true_and, and_true]
        have a3 := a2.1
        refine ⟨by omega, a2.2.1, a2.2.2.1, a2.2.2.2⟩
      · simp (disch := omega) only [hd, zm_un, zm_ue, true_and, and_true]
        exact a2
    · obtain ⟨z1, z2⟩ := rv
      refine ⟨by simp (disch := omega) only [hd, zm_un, zm_ue, true_and, and_true], fun i q1 q2 => ?_⟩
      simp (disch := omega) only [hd, zm_un, zm_ue] at q2
      by_cases q : i = w
      · subst q
        simp (disch := omega) only [hd, zm_un, zm_ue]
        unfold zwg at hg
        refine ⟨⟨by omega, trivial⟩, trivial, trivial, trivial, fun _ => ?_⟩
        split at hg <;> omega
      · simp (disch := omega) only [hd, zm_un]
        exact z2 i q1 (by omega)
  · refine (zC151k I hx hk0 h_y hg hc hk hD).2 (zK1i (by omega) (by omega) (by omega) (by omega) (fun n2 u2 _ => (zX280k hk0 h_y (by omega) (by omega) hc hg mg (fun p => hk (by unfold zMj at p; unfold zCj; omega)) (by omega)).2 (zK2i (by omega) (by omega) (by omega) (by omega) (zIn_e I ht (fun r j _ _ => by simp (disch := omega) only [zm_un])) (zIp_e J (fun r j _ _ => by simp (disch := omega) only [zm_un])) (zRe_e R (zIn_w I) (fun r j _ _ _ => by simp (disch := omega) only [zm_un])) ⟨3, 0, rfl, rfl, zm_us, fun q => absurd q (by decide), by decide⟩)))
