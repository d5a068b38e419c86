/-! ===== STEPS: what a call of a round keeps ===== -/
set_option maxRecDepth 65536
/-- the cells that calls of a round may change -/
def zTo (r j : Int) : Prop := r = 4 ∨ r = 5 ∨ r = 8 ∨ (15 ≤ r ∧ r ≤ 29 ∧ r % 2 = 1 ∧ (j = 2 ∨ j = 5)) ∨ (r = 31 ∧ (j = 1 ∨ j = 3)) ∨ (r = 34 ∧ (j = 4 ∨ j = 9)) ∨ (36 ≤ r ∧ r ≤ 52) ∨ (r = 61 ∧ (j = 32 ∨ j = 35 ∨ j = 36 ∨ j = 37 ∨ j = 38 ∨ j = 49)) ∨ r = 63 ∨ r = 64 ∨ r = 88 ∨ r = 90 ∨ r = 92 ∨ (96 ≤ r ∧ r ≤ 98) ∨ (101 ≤ r ∧ r ≤ 121)
/-- what holds of memory d within a call of a round that began at e (m = 1: at its end) -/
def zQz (m : Int) (e d : zm_D) : Prop := (∀ r j : Int, 1 ≤ r → r ≤ 159 → ¬ zTo r j → d r j = e r j) ∧ zMon d d ∧ (∀ i : Int, 0 ≤ i → i < 8 → d 64 i = d (15 + 2 * i) 5 ∧ (e (15 + 2 * i) 5 ≤ d (15 + 2 * i) 5 ∧ d (15 + 2 * i) 5 ≤ e (15 + 2 * i) 5 + 2000) ∧ (e 1 9 ≤ i → d (15 + 2 * i) 5 = e (15 + 2 * i) 5)) ∧ ((e 4 0 - 20000 * m ≤ d 4 0 ∧ d 4 0 ≤ e 4 0) ∧ (0 ≤ d 31 1 ∧ d 31 1 ≤ e 31 1 + 5000 + 15000 * m) ∧ (∀ i : Int, 0 ≤ i → i < 8 → e (15 + 2 * i) 2 - 2000 ≤ d (15 + 2 * i) 2 ∧ d (15 + 2 * i) 2 ≤ e (15 + 2 * i) 2 + 20000 + 40000 * m)) ∧ d 61 38 = d 34 9 ∧ zIs d ∧ zIc d ∧ zRs d ∧ zRd d ∧ (∀ s : Int, 0 ≤ s → s < 3 → zRq d s ∧ d (38 + 5 * s) 2 < 15 + 2 * e 1 9)
theorem zQz_fin {t : Int} {e d : zm_D} (I : zIn t e) (J : zIp t e) (R : zRe e) (ht : t < 600) (Q : zQz 1 e d) (hN : d 34 4 = 1 → zNn d) : zIn (t + 1) d ∧ zIp (t + 1) d ∧ zRe d := by
  obtain ⟨k, M, S, B, b38, qs, qc, rs2, rd2, rq2⟩ := Q
  have K : ∀ r j : Int, (1 ≤ r ∧ r ≤ 159) → (r ≠ 4 ∧ r ≠ 5 ∧ r ≠ 8 ∧ (r < 15 ∨ 30 < r ∨ r % 2 = 0 ∨ (j ≠ 2 ∧ j ≠ 5)) ∧ (r ≠ 31 ∨ (j ≠ 1 ∧ j ≠ 3)) ∧ (r ≠ 34 ∨ (j ≠ 4 ∧ j ≠ 9)) ∧ (r < 36 ∨ 52 < r) ∧ (r ≠ 61 ∨ (j ≠ 32 ∧ j ≠ 35 ∧ j ≠ 36 ∧ j ≠ 37 ∧ j ≠ 38 ∧ j ≠ 49)) ∧ r ≠ 63 ∧ r ≠ 64 ∧ r ≠ 88 ∧ r ≠ 90 ∧ r ≠ 92 ∧ (r < 96 ∨ 98 < r) ∧ (r < 101 ∨ 121 < r)) → d r j = e r j := fun r j h1 h2 => k r j h1.1 h1.2 (by unfold zTo; omega)
  clear k
  obtain ⟨it, ia, ig, iv, itr, is, ic, iw, im, il⟩ := I
  have hw : e 53 5 ≤ 10 ∧ e 12 2 ≤ 12 := ⟨iw.1.2, il.1.1.2⟩
  obtain ⟨ra, rg, rh, rt, ru, rs, rd, rq, rv, rm, rl⟩ := R
  obtain ⟨B1, B2, B3⟩ := B
  refine ⟨⟨by omega, zIa_e ia (fun j => K _ _ (by decide) (by omega)), ?_, ?_, ?_, qs, qc, zWh_e iw (fun r j _ _ => K _ _ (by omega) (by omega)), zIm_e im (fun r j _ => K _ _ (by omega) (by omega)), zIl_e il (fun j _ => K _ _ (by decide) (by omega)) (fun j => K _ _ (by decide) (by omega))⟩, ⟨?_, ?_⟩, ⟨?_, ?_, zRh_e rh (fun i j _ _ _ => K _ _ (by omega) (by omega)) (fun j => K _ _ (by decide) (by omega)) (fun j => K _ _ (by decide) (by omega)) (K _ _ (by decide) (by decide)), ?_, zRu_e ru (fun j _ _ => K _ _ (by decide) (by omega)) (fun j => K _ _ (by decide) (by omega)), rs2, rd2, fun s h1 h2 => (rq2 s h1 h2).1, zRv_e rv (K _ _ (by decide) (by decide)) (fun r j _ => K _ _ (by omega) (by omega)) hw.1, zRm_e rm (fun j _ _ => K _ _ (by decide) (by omega)) (fun r j _ => K _ _ (by omega) (by omega)) (fun j _ _ => K _ _ (by decide) (by omega)), zRl_e rl (fun j _ => K _ _ (by decide) (by omega)) (fun j _ => K _ _ (by decide) (by omega)) (fun r j _ => K _ _ (by omega) (by omega)) hw.2⟩⟩
  · intro i hi
    have a := ig i hi
    have b := B3 i hi.1 hi.2
    have s := S i hi.1 hi.2
    rw [K (15 + 2 * i) 1 (by omega) (by omega), K (15 + 2 * i) 3 (by omega) (by omega), K (15 + 2 * i) 4 (by omega) (by omega), K (15 + 2 * i) 6 (by omega) (by omega), K (15 + 2 * i) 7 (by omega) (by omega), K (15 + 2 * i) 9 (by omega) (by omega), K (15 + 2 * i) 10 (by omega) (by omega), K (15 + 2 * i) 11 (by omega) (by omega), K (15 + 2 * i) 12 (by omega) (by omega)]
    omega
  · unfold zIv at *
    omega
  · intro i h1 h2
    have a := itr i h1 h2
    by_cases q : i = 0
    · subst q
      rw [show (31 : Int) + 0 = 31 by decide] at a ⊢
      omega
    · rw [K _ _ (by omega) (by omega)]
      omega
  · obtain ⟨p1, p2⟩ := J.1
    refine ⟨by rw [K _ _ (by decide) (by decide)]; omega, fun i h1 h2 => ?_⟩
    have a := p2 i h1 h2
    have b := B3 i h1 h2
    rw [K (16 + 2 * i) 0 (by omega) (by omega), K (16 + 2 * i) 1 (by omega) (by omega), K (16 + 2 * i) 2 (by omega) (by omega), K (16 + 2 * i) 3 (by omega) (by omega)]
    omega
  · obtain ⟨w1, w2, w3, w4, w5⟩ := J.2
    have k19 := K 1 9 (by decide) (by decide)
    refine ⟨?_, fun i q0 q1 q2 => ?_, fun k q1 q2 => ?_, fun s q1 q2 => ?_, hN⟩
    · rw [zpp_e (e := e) (fun i q1 q2 => by unfold zsp4; rw [K (16 + 2 * i) 0 (by omega) (by omega), K (16 + 2 * i) 1 (by omega) (by omega), K (16 + 2 * i) 2 (by omega) (by omega), K (16 + 2 * i) 3 (by omega) (by omega)]), K 12 4 (by decide) (by decide)]
      omega
    · rw [k19] at q0
      have f := w2 i q0 q1 q2
      rw [(S i q1 q2).2.2 q0, K (15 + 2 * i) 7 (by omega) (by omega), K (16 + 2 * i) 0 (by omega) (by omega), K (16 + 2 * i) 1 (by omega) (by omega), K (16 + 2 * i) 2 (by omega) (by omega), K (16 + 2 * i) 3 (by omega) (by omega)]
      exact f
    · rw [K 12 2 (by decide) (by decide)] at q2
      rw [K 13 k (by decide) (by omega), k19]
      exact w3 k q1 q2
    · rw [k19]
      exact (rq2 s q1 q2).2
  · unfold zRa at ra ⊢
    rw [K 61 31 (by decide) (by decide), K 1 9 (by decide) (by decide), K 61 33 (by decide) (by decide), K 1 10 (by decide) (by decide), K 61 40 (by decide) (by decide), K 58 4 (by decide) (by decide), K 61 41 (by decide) (by decide), K 58 3 (by decide) (by decide), K 61 48 (by decide) (by decide), K 12 4 (by decide) (by decide)]
    exact ⟨⟨ra.1.1, M.1, ra.1.2.2⟩, ⟨b38, ra.2.1.2⟩, ra.2.2⟩
  · intro i h1 h2
    obtain ⟨⟨a1, a2, a3, a4, a5, a6⟩, a7, a8, a9⟩ := rg i h1 h2
    have m := M.2.1 i h1 h2
    have s := (S i h1 h2).1
    refine ⟨⟨?_, m, s, ?_, ?_, ?_⟩, ?_, fun k q1 q2 => ?_, ?_⟩
    · rw [K 62 i (by decide) (by omega), K (15 + 2 * i) 1 (by omega) (by omega)]; exact a1
    · rw [K 65 i (by decide) (by omega), K (15 + 2 * i) 7 (by omega) (by omega)]; exact a4
    · rw [K 66 i (by decide) (by omega), K (15 + 2 * i) 8 (by omega) (by omega)]; exact a5
    · rw [K 69 i (by decide) (by omega), K (15 + 2 * i) 6 (by omega) (by omega)]; exact a6
    · rw [K (71 + i) 0 (by omega) (by omega), K (71 + i) 1 (by omega) (by omega), K (80 + i) 0 (by omega) (by omega), K (80 + i) 1 (by omega) (by omega), K (15 + 2 * i) 12 (by omega) (by omega), K (15 + 2 * i) 10 (by omega) (by omega), K (15 + 2 * i) 11 (by omega) (by omega), K (15 + 2 * i) 9 (by omega) (by omega)]
      exact a7
    · rw [K (152 + i) k (by omega) (by omega), K (16 + 2 * i) k (by omega) (by omega)]
      exact a8 k q1 q2
    · rw [K 68 i (by decide) (by omega)]
      exact a9
  · intro i h1 h2
    have a := rt i h1 h2
    have m := M.2.2 i h1 h2
    refine ⟨m.1, ?_, m.2⟩
    rw [K 89 i (by decide) (by omega), K (31 + i) 2 (by omega) (by omega)]
    exact a.2.1
/-- nothing but garbage differs -/
theorem zQz_e {m : Int} {e d c : zm_D} (Q : zQz m e d) (h : ∀ r j : Int, 1 ≤ r → r ≤ 159 → c r j = d r j) : zQz m e c := by
  obtain ⟨k, M, S, ⟨B1, B2, B3⟩, b38, qs, qc, rs2, rd2, rq2⟩ := Q
  refine ⟨fun r j h1 h2 h3 => by rw [h r j h1 h2]; exact k r j h1 h2 h3, zMon_e M (h _ _ (by decide) (by decide)) (fun i _ _ => h _ _ (by omega) (by omega)) (fun i j _ _ _ => h _ _ (by omega) (by omega)) (h _ _ (by decide) (by decide)) (fun i _ _ => h _ _ (by decide) (by decide)) (fun i j _ _ _ => h _ _ (by omega) (by omega)), fun i h1 h2 => by rw [h 64 i (by decide) (by decide), h (15 + 2 * i) 5 (by omega) (by omega)]; exact S i h1 h2, ⟨by rw [h 4 0 (by decide) (by decide)]; exact B1, by rw [h 31 1 (by decide) (by decide)]; exact B2, fun i h1 h2 => by rw [h (15 + 2 * i) 2 (by omega) (by omega)]; exact B3 i h1 h2⟩, by rw [h 61 38 (by decide) (by decide), h 34 9 (by decide) (by decide)]; exact b38, zIs_e qs (fun r j _ => h _ _ (by omega) (by omega)), zIc_e qc (fun r j _ => h _ _ (by omega) (by omega)) (fun j _ _ => h _ _ (by omega) (by omega)) (h _ _ (by decide) (by decide)), zRs_e rs2 (fun j _ => h _ _ (by decide) (by decide)) (h _ _ (by decide) (by decide)) (h _ _ (by decide) (by decide)) (fun r j _ => h _ _ (by omega) (by omega)), zRd_e rd2 (h _ _ (by decide) (by decide)) (fun r j _ => h _ _ (by omega) (by omega)), fun s h1 h2 => ⟨zRq_e (rq2 s h1 h2).1 (h _ _ (by decide) (by decide)) (h _ _ (by decide) (by decide)) (h _ _ (by decide) (by decide)) (h _ _ (by decide) (by decide)) (fun r j _ => h _ _ (by omega) (by omega)) (fun r j _ => h _ _ (by omega) (by omega)), by rw [h (38 + 5 * s) 2 (by omega) (by omega)]; exact (rq2 s h1 h2).2⟩⟩
theorem zQz_m {e d : zm_D} (Q : zQz 0 e d) : zQz 1 e d := by
  obtain ⟨k, M, S, ⟨B1, B2, B3⟩, r⟩ := Q
  refine ⟨k, M, S, ⟨by omega, by omega, fun i h1 h2 => ?_⟩, r⟩
  have := B3 i h1 h2
  omega
/-- who is in turn, by the relation of seats -/
theorem zRq_ts {e : zm_D} (R : ∀ s : Int, 0 ≤ s → s < 3 → zRq e s) (h : e 34 4 = 1) {s : Int} (hs : 0 ≤ s ∧ s < 3) : zmts e s = if e (39 + 5 * s) 5 = 1 then s else if e (41 + 5 * s) 5 = 1 then s + 10 else -1 := by
  obtain ⟨-, b2, -, -, -, a, -, -⟩ := R s hs.1 hs.2
  obtain ⟨-, -, -, a4, a5, a6, a7⟩ := a h
  unfold zmts
  rcases (by omega : e 98 s = 0 ∨ e 98 s = 1 ∨ e 98 s = 2) with q | q | q
  · have c := a4 (by omega)
    have d := a5 q
    rw [if_neg (by omega), if_neg (by omega), if_neg (by omega), if_neg (by omega)]
  · have c := a4 (by omega)
    have d := a6 (by omega)
    by_cases p : e (39 + 5 * s) 5 = 1
    · rw [if_pos (by omega), if_pos p]
    · rw [if_neg (by omega), if_neg (by omega), if_neg p, if_neg (by omega)]
  · have c := a7 q
    have d := a6 (by omega)
    by_cases p : e (39 + 5 * s) 5 = 1
    · rw [if_pos (by omega), if_pos p]
    · rw [if_neg (by omega), if_neg p]
      by_cases p2 : e (41 + 5 * s) 5 = 1
      · rw [if_pos (by omega), if_pos p2]
      · rw [if_neg (by omega), if_neg p2]
/-- turn: the seat, and whether it is its second hand -/
theorem zRq_tn {e : zm_D} (R : ∀ s : Int, 0 ≤ s → s < 3 → zRq e s) (h : e 34 4 = 1) : (zst e < 0 → zmtn e = -1) ∧ (0 ≤ zst e → (e (39 + 5 * zst e) 5 = 1 → zmtn e = zst e) ∧ (e (39 + 5 * zst e) 5 ≠ 1 → e (41 + 5 * zst e) 5 = 1 ∧ zmtn e = zst e + 10)) := by
  have t0 := zRq_ts R h (s := 0) (by decide)
  have t1 := zRq_ts R h (s := 1) (by decide)
  have t2 := zRq_ts R h (s := 2) (by decide)
  simp only [Int.reduceMul, Int.reduceAdd] at t0 t1 t2
  unfold zmtn
  rw [t0, t1, t2]
  unfold zst
  by_cases a0 : e 39 5 = 1
  · simp [a0]
  · by_cases a1 : e 41 5 = 1
    · simp [a0, a1]
    · by_cases b0 : e 44 5 = 1
      · simp [a0, a1, b0]
      · by_cases b1 : e 46 5 = 1
        · simp [a0, a1, b0, b1]
        · by_cases c0 : e 49 5 = 1
          · simp [a0, a1, b0, b1, c0]
          · by_cases c1 : e 51 5 = 1
            · simp [a0, a1, b0, b1, c0, c1]
            · simp [a0, a1, b0, b1, c0, c1]
theorem zst_0 {e : zm_D} (h : zst e < 0) : ∀ s : Int, 0 ≤ s → s < 3 → e (39 + 5 * s) 5 ≠ 1 ∧ e (41 + 5 * s) 5 ≠ 1 := by
  intro s q1 q2
  unfold zst at h
  rcases (by omega : s = 0 ∨ s = 1 ∨ s = 2) with z | z | z
  all_goals subst z
  all_goals simp only [Int.reduceMul, Int.reduceAdd, Int.mul_zero, Int.add_zero]
  all_goals repeat' split at h
  all_goals omega
/-- a seat of a round in which nobody plays, ahead of its settling -/
theorem zRq_Sp {d : zm_D} {s : Int} (Q : zRq d s) (h : d 34 4 = 1) (hs : 0 ≤ s ∧ s < 3) (C : zIc d) (h1 : d (39 + 5 * s) 5 ≠ 1) (h2 : d (41 + 5 * s) 5 ≠ 1) : zSp 0 d d s := by
  obtain ⟨w, c98, -, -, -, on, k1, k2⟩ := Q
  obtain ⟨o1, o2, o3, o4, o5, o6, o7⟩ := on h
  obtain ⟨x1, x2, -, -, -, -⟩ := C.1 s hs.1 hs.2
  have val : ∀ q h c n : Int, zIh (d 34 4) d h c → n = d h 1 → (∀ k : Int, 0 ≤ k → k < n → d q k = d c k) → zmv d q n = zhv (d h 3) (d h 2) := fun q h c n H hn hk => by
    obtain ⟨y1, -, -, -, -, -, -, ⟨y8, y9⟩, -⟩ := H
    have z := @zms_x d d q c (d h 1).toNat (fun k p1 p2 => hk k p1 (by omega))
    unfold zmv
    rw [hn, z.1, z.2, ← y8, ← y9]
  refine ⟨c98, fun p => (o5 p).1, fun p => (o4 p).1, fun p => ?_, fun p => ⟨rfl, ?_⟩⟩
  · obtain ⟨n1, n2, n3, n4⟩ := k1 p
    obtain ⟨m1, m2⟩ := o6 p
    have f := x1.2.2.2.1
    refine ⟨by have := o3 (by omega); omega, ⟨?_, ?_, ?_, ?_, fun z => absurd z (by decide)⟩, n4⟩
    · simp only [Int.mul_zero, Int.add_zero]
      omega
    · omega
    · simp only [Int.mul_zero, Int.add_zero]
      exact n1
    · simp only [Int.mul_zero, Int.add_zero]
      exact val _ _ _ _ x1 n1 n3
  · obtain ⟨n1, n2, n3⟩ := k2 p
    obtain ⟨m1, m2⟩ := o7 p
    have f := x2.2.2.2.1
    unfold zSh1
    rw [show 39 + 5 * s + 2 * 1 = 41 + 5 * s by omega, show 101 + 3 * s + 1 = 102 + 3 * s by omega]
    exact ⟨by omega, by omega, n1, val _ _ _ _ x2 n1 n3, fun z => absurd z (by decide)⟩
