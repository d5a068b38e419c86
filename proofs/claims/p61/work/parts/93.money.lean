/-! ===== STEPS: money of tables; the wheel and the machine settled ===== -/
set_option maxRecDepth 65536
/-- money of a (the class) and of b (the reference) -/
def zMon (a b : zm_D) : Prop := b 61 32 = a 4 0 ∧ (∀ i : Int, 0 ≤ i → i < 8 → b 63 i = a (15 + 2 * i) 2) ∧ (∀ i : Int, 0 ≤ i → i < 3 → b 88 i = a (31 + i) 1 ∧ b 90 i = a (31 + i) 3 - a (31 + i) 4)
theorem zRe_Mon {e : zm_D} (R : zRe e) : zMon e e := by
  have ra := R.1
  unfold zRa at ra
  exact ⟨ra.1.2.1, fun i h1 h2 => (R.2.1 i h1 h2).1.2.1, fun i h1 h2 => ⟨(R.2.2.2.1 i h1 h2).1, (R.2.2.2.1 i h1 h2).2.2⟩⟩
theorem zMon_e {a b c d : zm_D} (H : zMon a b) (h1 : c 4 0 = a 4 0) (h2 : ∀ i : Int, 0 ≤ i → i < 8 → c (15 + 2 * i) 2 = a (15 + 2 * i) 2) (h3 : ∀ i j : Int, 0 ≤ i → i < 3 → (j = 1 ∨ j = 3 ∨ j = 4) → c (31 + i) j = a (31 + i) j) (h4 : d 61 32 = b 61 32) (h5 : ∀ i : Int, 0 ≤ i → i < 8 → d 63 i = b 63 i) (h6 : ∀ i j : Int, (i = 88 ∨ i = 90) → 0 ≤ j → j < 3 → d i j = b i j) : zMon c d := by
  obtain ⟨m1, m2, m3⟩ := H
  refine ⟨by rw [h1, h4]; exact m1, fun i p1 p2 => by rw [h2 i p1 p2, h5 i p1 p2]; exact m2 i p1 p2, fun i p1 p2 => ?_⟩
  rw [h3 i 1 p1 p2 (by omega), h3 i 3 p1 p2 (by omega), h3 i 4 p1 p2 (by omega), h6 88 i (by omega) p1 p2, h6 90 i (by omega) p1 p2]
  exact m3 i p1 p2
/-- the tray gets -/
theorem zMon_get {a b : zm_D} {t s : Int} (H : zMon a b) (ht : 0 ≤ t ∧ t < 3) : zMon (zm_u a (31 + t) 1 (a (31 + t) 1 + s)) (zm_u b 88 t (b 88 t + s)) := by
  obtain ⟨m1, m2, m3⟩ := H
  refine ⟨by simp (disch := omega) only [zm_un]; exact m1, fun i p1 p2 => by simp (disch := omega) only [zm_un]; exact m2 i p1 p2, fun i p1 p2 => ?_⟩
  have m4 := m3 i p1 p2
  by_cases q : i = t
  · subst q
    simp (disch := omega) only [zm_un, zm_ue]
    omega
  · simp (disch := omega) only [zm_un]
    exact m4
/-- chips come to a guest -/
theorem zMon_chp {a b : zm_D} {q c : Int} (H : zMon a b) (hq : 0 ≤ q ∧ q < 8) : zMon (zm_u a (15 + 2 * q) 2 (a (15 + 2 * q) 2 + c)) (zm_u b 63 q (b 63 q + c)) := by
  obtain ⟨m1, m2, m3⟩ := H
  refine ⟨by simp (disch := omega) only [zm_un]; exact m1, fun i p1 p2 => ?_, fun i p1 p2 => by simp (disch := omega) only [zm_un]; exact m3 i p1 p2⟩
  have m4 := m2 i p1 p2
  by_cases p : i = q
  · subst p
    simp (disch := omega) only [zm_un, zm_ue]
    omega
  · simp (disch := omega) only [zm_un]
    exact m4
/-- a table pays -/
theorem zMon_pay {a b : zm_D} {t q x : Int} (H : zMon a b) (ht : 0 ≤ t ∧ t < 3) (hq : 0 ≤ q ∧ q < 8) : zMon (zm_u (zpo a (31 + t) x) (15 + 2 * q) 2 (a (15 + 2 * q) 2 + x)) (zmpa b t q x) := by
  obtain ⟨m1, m2, m3⟩ := H
  have l : zmpl b t x = zlk x (a (31 + t) 1) := by
    have m5 := (m3 t ht.1 ht.2).1
    unfold zmpl zlk
    rw [m5]
    split <;> split <;> omega
  unfold zmpa zpo
  rw [l]
  generalize zlk x (a (31 + t) 1) = y
  refine ⟨by simp (disch := omega) only [zm_un, zm_ue]; omega, fun i p1 p2 => ?_, fun i p1 p2 => ?_⟩
  · have m4 := m2 i p1 p2
    by_cases p : i = q
    · subst p
      simp (disch := omega) only [zm_un, zm_ue]
      omega
    · simp (disch := omega) only [zm_un]
      exact m4
  · have m4 := m3 i p1 p2
    by_cases p : i = t
    · subst p
      simp (disch := omega) only [zm_un, zm_ue]
      omega
    · simp (disch := omega) only [zm_un]
      exact m4
/-- nothing is paid -/
theorem zMon_pay0 {a b : zm_D} {t q : Int} (H : zMon a b) (h : 0 ≤ b 88 t) : zMon a (zmpa b t q 0) := by
  have l : zmpl b t 0 = 0 := by
    unfold zmpl
    rw [if_neg (by omega)]
  obtain ⟨m1, m2, m3⟩ := H
  unfold zmpa
  rw [l]
  refine ⟨by simp (disch := omega) only [zm_un, zm_ue]; omega, fun i p1 p2 => ?_, fun i p1 p2 => ?_⟩
  · have m4 := m2 i p1 p2
    by_cases p : i = q
    · subst p
      simp (disch := omega) only [zm_un, zm_ue]
      omega
    · simp (disch := omega) only [zm_un]
      exact m4
  · have m4 := m3 i p1 p2
    by_cases p : i = t
    · subst p
      simp (disch := omega) only [zm_un, zm_ue]
      omega
    · simp (disch := omega) only [zm_un]
      exact m4
/-- the wheel settled, wager by wager: money agrees, and its bounds -/
theorem zwm_M {e b : zm_D} {x : Int} (hm : zMon e b) (V : zWh e) (RV : zRv e) (hb : ∀ k j : Int, 0 ≤ k → k < e 53 5 → b (123 + k) j = e (123 + k) j) (ht : 0 ≤ e 32 1) : ∀ k : Nat, (k : Int) ≤ e 53 5 → zMon (zwm e x k) (zmsm b x k) ∧ zwq e x k = zmsq b x k ∧ (0 ≤ zwq e x k ∧ zwq e x k ≤ 18000 * k) ∧ (e 4 0 - 17500 * k ≤ zwm e x k 4 0 ∧ zwm e x k 4 0 ≤ e 4 0) ∧ (∀ i : Int, 0 ≤ i → i < 8 → e (15 + 2 * i) 2 ≤ zwm e x k (15 + 2 * i) 2 ∧ zwm e x k (15 + 2 * i) 2 ≤ e (15 + 2 * i) 2 + 18000 * k) ∧ (∀ r j : Int, (r ≠ 4 ∨ j ≠ 0) → (r ≠ 32 ∨ (j ≠ 1 ∧ j ≠ 3)) → (r < 15 ∨ 30 < r ∨ j ≠ 2 ∨ r % 2 = 0) → zwm e x k r j = e r j) := by
  intro k
  induction k with
  | zero => intro _; exact ⟨hm, rfl, ⟨Int.le_refl _, by show (0 : Int) ≤ 18000 * ((0 : Nat) : Int); omega⟩, ⟨by show e 4 0 - 17500 * ((0 : Nat) : Int) ≤ e 4 0; omega, Int.le_refl _⟩, fun i _ _ => ⟨Int.le_refl _, by show e (15 + 2 * i) 2 ≤ e (15 + 2 * i) 2 + 18000 * ((0 : Nat) : Int); omega⟩, fun _ _ _ _ _ => rfl⟩
  | succ k ih =>
    intro hk
    obtain ⟨i1, i2, i3, i4, i5, i6⟩ := ih (by omega)
    obtain ⟨g1, g2, g3, g4⟩ := V.2 k (by omega) (by omega)
    obtain ⟨r1, r2, r3, r4, r5⟩ := RV.2 k (by omega) (by omega)
    have hp := @zprod35 (e 55 (k : Int)) (e 56 (k : Int)) x _ g4
    have hv := @zti_v (e 55 (k : Int)) (e 56 (k : Int)) x
    have T := zwm_t (x := x) V ht k (by omega)
    have b0 := hb (k : Int) 0 (by omega) (by omega)
    have b1 := hb (k : Int) 1 (by omega) (by omega)
    have b2 := hb (k : Int) 2 (by omega) (by omega)
    have b3 := hb (k : Int) 3 (by omega) (by omega)
    have e1 : zwm e x (k + 1) = if zti (e 55 (k : Int)) (e 56 (k : Int)) x = 0 ∨ e 54 (k : Int) = 0 then zm_u (zwm e x k) 32 1 (zwm e x k 32 1 + e 57 (k : Int)) else zm_u (zpo (zwm e x k) 32 (zti (e 55 (k : Int)) (e 56 (k : Int)) x * e 57 (k : Int))) (e 54 (k : Int)) 2 (zwm e x k (e 54 (k : Int)) 2 + (zti (e 55 (k : Int)) (e 56 (k : Int)) x + 1) * e 57 (k : Int)) := rfl
    have e2 : zmsm b x (k + 1) = zmsl (zmsm b x k) (b (123 + (k : Int)) 0) (b (123 + (k : Int)) 3) (zti (b (123 + (k : Int)) 1) (b (123 + (k : Int)) 2) x) := rfl
    have e3 : zwq e x (k + 1) = if zti (e 55 (k : Int)) (e 56 (k : Int)) x = 0 ∨ e 54 (k : Int) = 0 then zwq e x k else zwq e x k + (zti (e 55 (k : Int)) (e 56 (k : Int)) x + 1) * e 57 (k : Int) := rfl
    have e4 : zmsq b x (k + 1) = zmsq b x k + (if zti (b (123 + (k : Int)) 1) (b (123 + (k : Int)) 2) x = 0 then 0 else (zti (b (123 + (k : Int)) 1) (b (123 + (k : Int)) 2) x + 1) * b (123 + (k : Int)) 3) := rfl
    rw [e1, e2, e3, e4, b0, b1, b2, b3, r2, r3, r4]
    clear e1 e2 e3 e4 b0 b1 b2 b3 r2 r3 r4 hb RV V g1 g2 g3 r5
    obtain ⟨q, hq⟩ : ∃ q, e (123 + (k : Int)) 0 = q := ⟨_, rfl⟩
    rw [hq] at r1 ⊢
    rw [r1.2]
    have hq8 := r1.1
    clear r1 hq
    generalize zwm e x k = A at i1 i4 i5 i6 T ⊢
    generalize zmsm b x k = B at i1 ⊢
    generalize zti (e 55 (k : Int)) (e 56 (k : Int)) x = t at hp hv ⊢
    generalize e 57 (k : Int) = s at hp g4 ⊢
    rw [← i2]
    generalize zwq e x k = z at i3 ⊢
    have k1 : (18000 : Int) * ((k + 1 : Nat) : Int) = 18000 * (k : Int) + 18000 := by omega
    have k2 : (17500 : Int) * ((k + 1 : Nat) : Int) = 17500 * (k : Int) + 17500 := by omega
    rw [k1, k2]
    have T88 : B 88 1 = A 32 1 := (i1.2.2 1 (by decide) (by decide)).1
    by_cases c : t = 0
    · subst c
      rw [if_pos (.inl rfl), if_pos (.inl rfl), if_pos rfl]
      unfold zmsl
      rw [if_pos rfl]
      refine ⟨?_, by omega, by omega, ⟨by simp (disch := omega) only [zm_un]; omega, by simp (disch := omega) only [zm_un]; omega⟩, fun i p1 p2 => ?_, fun r j p1 p2 p3 => ?_⟩
      · refine zMon_pay0 ?_ (by simp (disch := omega) only [zm_un, zm_ue]; omega)
        refine zMon_e (zMon_get (t := 1) (s := s) i1 (by decide)) rfl (fun _ _ _ => rfl) (fun _ _ _ _ _ => rfl) (by simp (disch := omega) only [zm_un]) (fun i p1 p2 => ?_) (fun i j p1 p2 p3 => by simp (disch := omega) only [zm_un])
        by_cases p : i = q
        · subst p
          simp (disch := omega) only [zm_un, zm_ue, Int.add_zero]
        · simp (disch := omega) only [zm_un]
      · have f := i5 i p1 p2
        simp (disch := omega) only [zm_un]
        omega
      · rw [zm_un (by omega)]
        exact i6 r j p1 p2 p3
    · have hn : ¬ (t = 0 ∨ 15 + 2 * q = 0) := by omega
      rw [if_neg hn, if_neg hn, if_neg c]
      unfold zmsl
      rw [if_neg c]
      have ts : (t + 1) * s = t * s + s := by rw [Int.add_mul, Int.one_mul]
      rw [ts]
      generalize t * s = y at hp ⊢
      refine ⟨?_, by omega, by omega, ⟨?_, ?_⟩, fun i p1 p2 => ?_, fun r j p1 p2 p3 => ?_⟩
      · have m1 : zMon (zm_u A (15 + 2 * q) 2 (A (15 + 2 * q) 2 + s)) (zm_u (zm_u B 88 1 (B 88 1 + 0)) 63 q (B 63 q + s)) := by
          refine zMon_e (zMon_chp (c := s) i1 hq8) rfl (fun _ _ _ => rfl) (fun _ _ _ _ _ => rfl) (by simp (disch := omega) only [zm_un]) (fun i p1 p2 => ?_) (fun i j p1 p2 p3 => ?_)
          · by_cases p : i = q
            · subst p
              simp (disch := omega) only [zm_un, zm_ue]
            · simp (disch := omega) only [zm_un]
          · by_cases p : i = 88 ∧ j = 1
            · simp (disch := omega) only [zm_un, zm_ue, p.1, p.2, Int.add_zero]
            · simp (disch := omega) only [zm_un]
        refine zMon_e (zMon_pay (t := 1) (q := q) (x := y) m1 (by decide) hq8) ?_ (fun i p1 p2 => ?_) (fun i j p1 p2 p3 => ?_) rfl (fun _ _ _ => rfl) (fun _ _ _ _ _ => rfl)
        · unfold zpo
          simp (disch := omega) only [zm_un, zm_ue, Int.reduceAdd]
        · by_cases p : i = q
          · subst p
            simp (disch := omega) only [zm_un, zm_ue]
            omega
          · unfold zpo
            simp (disch := omega) only [zm_un]
        · unfold zpo
          by_cases p : i = 1
          · subst p
            rcases p3 with p3 | p3 | p3
            all_goals subst p3
            all_goals simp (disch := omega) only [zm_un, zm_ue, Int.reduceAdd]
          · simp (disch := omega) only [zm_un]
      · unfold zpo zlk
        simp (disch := omega) only [zm_un, zm_ue]
        split <;> omega
      · unfold zpo zlk
        simp (disch := omega) only [zm_un, zm_ue]
        split <;> omega
      · have f := i5 i p1 p2
        by_cases p : i = q
        · subst p
          simp (disch := omega) only [zm_un, zm_ue]
          omega
        · unfold zpo
          simp (disch := omega) only [zm_un]
          omega
      · unfold zpo
        rw [zm_un (by omega), zm_un (by omega), zm_un (by omega), zm_un (by omega)]
        exact i6 r j p1 p2 p3
theorem zP34 {S : zSs} {D n u : Nat} {g : Int → zk_K} {e : zm_D} {t : Int} {x : Int} (I : zIn t e) (J : zIp t e) (R : zRe e) (ht : t < 600) (hD : 40 ≤ D) (h_x : -2147483648 ≤ x ∧ x < 2147483648) : zE S D 360 [zv_a 1, zv_i x, zv_a 160] n (zSg g) (zDg e) u (zK1 S D t n u 283 [zv_a 61, zv_i x] zPi) := by
  by_cases hx : x < 0 ∨ 36 < x
  · refine (zC152x I h_x hx hD).2 (zK1i (by omega) (by omega) (by omega) (by omega) (fun n2 u2 _ => (zX283x h_x hx (by omega)).2 (zK2i (by omega) (by omega) (by omega) (by omega) (zIn_e I ht (fun r j _ _ => by simp (disch := omega) only [zm_un])) (zIp_e J (fun r j _ _ => by simp (disch := omega) only [zm_un])) (zRe_e R (zIn_w I) (fun r j _ _ _ => by simp (disch := omega) only [zm_un])) ⟨1, 0, rfl, rfl, zm_us, fun q => absurd q (by decide), by decide⟩)))
  have hx : 0 ≤ x ∧ x ≤ 36 := by omega
  have hw := zIn_w I
  have iw := I.2.2.2.2.2.2.2.1
  have rv := R.2.2.2.2.2.2.2.2.1
  have it := I.1
  have T1 := I.2.2.2.2.1 1 (by decide) (by decide)
  have r88 := (R.2.2.2.1 1 (by decide) (by decide)).1
  rw [show (31 : Int) + 1 = 32 by decide] at T1 r88
  obtain ⟨n5, hn5⟩ : ∃ n5 : Nat, (e 53 5).toNat = n5 := ⟨_, rfl⟩
  have e5 : e 53 5 = (n5 : Int) := by have := iw.1.1; omega
  have e39 : e 61 39 = (n5 : Int) := by rw [rv.1]; exact e5
  refine (zC152 I hx hD).2 (zK1i (by omega) (by omega) (by omega) (by omega) (fun n2 u2 _ => ?_))
  rw [hn5]
  have EO : ∀ r j : Int, 60 < r → r ≠ 160 → (zm_u (zm_u (zwm e x n5) 53 5 0) 160 0 (zw (zwq e x n5))) r j = e r j := fun r j h1 h2 => by
    rw [zm_un (by omega), zm_un (by omega), zwm_o (by omega) (by omega) (by omega) iw n5 (by omega)]
  have MV : zMv (zm_u (zm_u (zwm e x n5) 53 5 0) 160 0 (zw (zwq e x n5))) := by
    refine ⟨by rw [EO _ _ (by decide) (by decide), e39]; omega, fun i q1 q2 => ?_⟩
    rw [EO _ _ (by decide) (by decide), e39] at q2
    rw [EO _ _ (by omega) (by omega), EO _ _ (by omega) (by omega), EO _ _ (by omega) (by omega), EO _ _ (by omega) (by omega)]
    obtain ⟨p1, p2, p3, p4, p5⟩ := rv.2 i q1 (by omega)
    obtain ⟨g1, g2, g3, g4⟩ := iw.2 i q1 (by omega)
    rw [p2, p3, p4]
    exact ⟨by omega, g2, p5, g4⟩
  have S39 : (zm_u (zm_u (zwm e x n5) 53 5 0) 160 0 (zw (zwq e x n5))) 61 39 = (n5 : Int) := by rw [EO _ _ (by decide) (by decide), e39]
  have M0 : zMon e (zm_u (zm_u (zm_u (zwm e x n5) 53 5 0) 160 0 (zw (zwq e x n5))) 61 49 0) := zMon_e (zRe_Mon R) rfl (fun _ _ _ => rfl) (fun _ _ _ _ _ => rfl) (by rw [zm_un (by decide), EO _ _ (by decide) (by decide)]) (fun i _ _ => by rw [zm_un (by omega), EO _ _ (by omega) (by omega)]) (fun i j _ _ _ => by rw [zm_un (by omega), EO _ _ (by omega) (by omega)])
  obtain ⟨F1, F2, F3, F4, F5, F6⟩ := zwm_M (x := x) M0 iw rv (fun k j _ _ => by rw [zm_un (by omega), EO _ _ (by omega) (by omega)]) T1.1 n5 (by omega)
  have FT := zwm_t (x := x) iw T1.1 n5 (by omega)
  refine (zX283 hx MV (by rw [EO _ _ (by decide) (by decide)]; omega) (by omega)).2 ?_
  rw [S39, Int.toNat_natCast, ← F2]
  have n10 : n5 ≤ 10 := by have := iw.1.2; omega
  have D1 : ∀ r j : Int, (r ≠ 61 ∨ j ≠ 32) → r ≠ 90 → r ≠ 88 → r ≠ 63 → zmsm (zm_u (zm_u (zm_u (zwm e x n5) 53 5 0) 160 0 (zw (zwq e x n5))) 61 49 0) x n5 r j = zm_u (zm_u (zm_u (zwm e x n5) 53 5 0) 160 0 (zw (zwq e x n5))) 61 49 0 r j := fun r j h1 h2 h3 h4 => zmsm_o h1 h2 h3 h4 n5
  generalize zmsm (zm_u (zm_u (zm_u (zwm e x n5) 53 5 0) 160 0 (zw (zwq e x n5))) 61 49 0) x n5 = B at F1 D1 ⊢
  have hf : ∀ r j : Int, ((r ≠ 4 ∨ j ≠ 0) ∧ (r ≠ 32 ∨ (j ≠ 1 ∧ j ≠ 3)) ∧ (r < 15 ∨ 30 < r ∨ j ≠ 2 ∨ r % 2 = 0) ∧ (r ≠ 53 ∨ j ≠ 5)) → ((r ≠ 61 ∨ (j ≠ 32 ∧ j ≠ 39 ∧ j ≠ 49)) ∧ r ≠ 90 ∧ r ≠ 88 ∧ r ≠ 63 ∧ r ≠ 160) → zm_u B 61 39 0 r j = e r j := fun r j h1 h2 => by
    rw [zm_un (by omega), D1 r j (by omega) (by omega) (by omega) (by omega), zm_un (by omega), zm_un (by omega), zm_un (by omega), F6 r j (by omega) (by omega) (by omega)]
  have hc : ∀ r j : Int, r ≤ 60 → (r ≠ 53 ∨ j ≠ 5) → zm_u B 61 39 0 r j = zwm e x n5 r j := fun r j h1 h2 => by
    rw [zm_un (by omega), D1 r j (by omega) (by omega) (by omega) (by omega), zm_un (by omega), zm_un (by omega), zm_un (by omega)]
  have hb : ∀ r j : Int, (r ≠ 61 ∨ j ≠ 39) → zm_u B 61 39 0 r j = B r j := fun r j h => zm_un (by omega)
  have h49 : zm_u B 61 39 0 61 49 = 0 := by rw [zm_un (by decide), D1 61 49 (by decide) (by decide) (by decide) (by decide)]; exact zm_ue rfl rfl
  have h160 : zm_u B 61 39 0 160 0 = zw (zwq e x n5) := by rw [zm_un (by decide), D1 160 0 (by decide) (by decide) (by decide) (by decide), zm_un (by decide)]; exact zm_ue rfl rfl
  have h39 : zm_u B 61 39 0 61 39 = 0 := zm_ue rfl rfl
  have h53 : zm_u B 61 39 0 53 5 = 0 := by rw [zm_un (by decide), D1 53 5 (by decide) (by decide) (by decide) (by decide), zm_un (by decide), zm_un (by decide)]; exact zm_ue rfl rfl
  obtain ⟨M1, M2, M3⟩ := F1
  generalize zm_u B 61 39 0 = d at hf hc hb h49 h160 h39 h53 ⊢
  generalize zwm e x n5 = A at hc M1 M2 M3 F4 F5 F6 FT
  clear EO MV S39 M0 D1 F2
  have pj := J
  obtain ⟨it, ia, ig, iv, itr, is, ic, iw, im, il⟩ := I
  obtain ⟨ra, rg, rh, rt, ru, rs, rd, rq, rv, rm, rl⟩ := R
  refine zK2i (by omega) (by omega) (by omega) (by omega) ⟨by omega, zIa_e ia (fun j => by rw [hf _ _ (by omega) (by omega)]), ?_, ?_, ?_, zIs_e is (fun r j _ => by rw [hf _ _ (by omega) (by omega)]), zIc_e ic (fun r j _ => by rw [hf _ _ (by omega) (by omega)]) (fun j _ _ => by rw [hf _ _ (by omega) (by omega)]) (by rw [hf _ _ (by omega) (by omega)]), ?_, zIm_e im (fun r j _ => by rw [hf _ _ (by omega) (by omega)]), zIl_e il (fun j _ => by rw [hf _ _ (by omega) (by omega)]) (fun j => by rw [hf _ _ (by omega) (by omega)])⟩ ⟨?_, zIz_e pj.2 (fun r j _ => by rw [hf _ _ (by omega) (by omega)])⟩ ⟨?_, ?_, zRh_e rh (fun i j _ _ _ => by rw [hf _ _ (by omega) (by omega)]) (fun j => by rw [hf _ _ (by omega) (by omega)]) (fun j => by rw [hf _ _ (by omega) (by omega)]) (by rw [hf _ _ (by omega) (by omega)]), ?_, zRu_e ru (fun j _ _ => by rw [hf _ _ (by omega) (by omega)]) (fun j => by rw [hf _ _ (by omega) (by omega)]), zRs_e rs (fun j _ => by rw [hf _ _ (by omega) (by omega)]) (by rw [hf _ _ (by omega) (by omega)]) (by rw [hf _ _ (by omega) (by omega)]) (fun r j _ => by rw [hf _ _ (by omega) (by omega)]), zRd_e rd (by rw [hf _ _ (by omega) (by omega)]) (fun r j _ => by rw [hf _ _ (by omega) (by omega)]), fun s q1 q2 => zRq_e (rq s q1 q2) (by rw [hf _ _ (by omega) (by omega)]) (by rw [hf _ _ (by omega) (by omega)]) (by rw [hf _ _ (by omega) (by omega)]) (by rw [hf _ _ (by omega) (by omega)]) (fun r j _ => by rw [hf _ _ (by omega) (by omega)]) (fun r j _ => by rw [hf _ _ (by omega) (by omega)]), ?_, zRm_e rm (fun j _ _ => by rw [hf _ _ (by omega) (by omega)]) (fun r j _ => by rw [hf _ _ (by omega) (by omega)]) (fun j _ _ => by rw [hf _ _ (by omega) (by omega)]), zRl_e rl (fun j _ => by rw [hf _ _ (by omega) (by omega)]) (fun j _ => by rw [hf _ _ (by omega) (by omega)]) (fun r j _ => by rw [hf _ _ (by omega) (by omega)]) hw.2⟩ ⟨0, _, rfl, rfl, h49, fun _ => h160, by decide⟩
  · intro i hi
    have a := ig i hi
    have f := F5 i hi.1 hi.2
    rw [hc (15 + 2 * i) 2 (by omega) (by omega), hf _ 1 (by omega) (by omega), hf _ 3 (by omega) (by omega), hf _ 4 (by omega) (by omega), hf _ 5 (by omega) (by omega), hf _ 6 (by omega) (by omega), hf _ 7 (by omega) (by omega), hf _ 9 (by omega) (by omega), hf _ 10 (by omega) (by omega), hf _ 11 (by omega) (by omega), hf _ 12 (by omega) (by omega)]
    omega
  · unfold zIv at iv ⊢
    rw [hc _ _ (by decide) (by decide)]
    omega
  · intro i h1 h2
    have a := itr i h1 h2
    by_cases q : i = 1
    · subst q
      rw [show (31 : Int) + 1 = 32 by decide] at a ⊢
      rw [hc _ _ (by decide) (by decide)]
      omega
    · rw [hf _ _ (by omega) (by omega)]
      omega
  · refine ⟨by rw [h53]; decide, fun i q1 q2 => ?_⟩
    rw [h53] at q2
    omega
  · obtain ⟨p1, p2⟩ := pj.1
    refine ⟨by rw [hf _ _ (by decide) (by decide)]; omega, fun i h1 h2 => ?_⟩
    have a := p2 i h1 h2
    have f := F5 i h1 h2
    rw [hc (15 + 2 * i) 2 (by omega) (by omega), hf (16 + 2 * i) 0 (by omega) (by omega), hf (16 + 2 * i) 1 (by omega) (by omega), hf (16 + 2 * i) 2 (by omega) (by omega), hf (16 + 2 * i) 3 (by omega) (by omega)]
    omega
  · unfold zRa at ra ⊢
    rw [hb 61 32 (by decide), hc 4 0 (by decide) (by decide), hf 61 31 (by decide) (by decide), hf 1 9 (by decide) (by decide), hf 61 33 (by decide) (by decide), hf 1 10 (by decide) (by decide), hf 61 38 (by decide) (by decide), hf 34 9 (by decide) (by decide), hf 61 40 (by decide) (by decide), hf 58 4 (by decide) (by decide), hf 61 41 (by decide) (by decide), hf 58 3 (by decide) (by decide), hf 61 48 (by decide) (by decide), hf 12 4 (by decide) (by decide)]
    exact ⟨⟨ra.1.1, M1, ra.1.2.2⟩, ra.2⟩
  · intro i h1 h2
    obtain ⟨⟨a1, a2, a3⟩, a4, a5, a6⟩ := rg i h1 h2
    have m := M2 i h1 h2
    refine ⟨?_, ?_, fun k q1 q2 => ?_, ?_⟩
    · rw [hb 63 i (by omega), hc (15 + 2 * i) 2 (by omega) (by omega), hf 62 i (by omega) (by omega), hf _ 1 (by omega) (by omega), hf 64 i (by omega) (by omega), hf _ 5 (by omega) (by omega), hf 65 i (by omega) (by omega), hf _ 7 (by omega) (by omega), hf 66 i (by omega) (by omega), hf _ 8 (by omega) (by omega), hf 69 i (by omega) (by omega), hf _ 6 (by omega) (by omega)]
      exact ⟨a1, m, a3⟩
    · rw [hf (71 + i) 0 (by omega) (by omega), hf (71 + i) 1 (by omega) (by omega), hf (80 + i) 0 (by omega) (by omega), hf (80 + i) 1 (by omega) (by omega), hf _ 12 (by omega) (by omega), hf _ 10 (by omega) (by omega), hf _ 11 (by omega) (by omega), hf _ 9 (by omega) (by omega)]
      exact a4
    · rw [hf _ _ (by omega) (by omega), hf _ _ (by omega) (by omega)]
      exact a5 k q1 q2
    · rw [hf _ _ (by omega) (by omega)]
      exact a6
  · intro i h1 h2
    have a := rt i h1 h2
    have m := M3 i h1 h2
    rw [hb 88 i (by omega), hb 90 i (by omega), hf 89 i (by omega) (by omega), hc _ 1 (by omega) (by omega), hc _ 3 (by omega) (by omega), hc _ 4 (by omega) (by omega), hf _ 2 (by omega) (by omega)]
    exact ⟨m.1, a.2.1, m.2⟩
  · refine ⟨by rw [h39, h53], fun i q1 q2 => ?_⟩
    rw [h53] at q2
    omega
