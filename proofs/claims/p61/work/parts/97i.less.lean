/-! ===== STEPS: surrender ===== -/
set_option maxRecDepth 65536
/-- stake and state of a hand, and money, change -/
theorem zHnd_c {e N M : zm_D} {x k h sk p st : Int} (hx : 0 ≤ x ∧ x < 3) (hk : k = 0 ∨ k = 1) (hh : 39 + 5 * x + 2 * k = h) (Q : zQz 0 e N) (h4 : N 34 4 = 1) (h98 : k < N 98 x) (S : ∀ r j : Int, (1 ≤ r ∧ r ≤ 159) → ((r ≠ h ∨ (j ≠ 4 ∧ j ≠ 5 ∧ j ≠ 6)) ∧ (r ≠ 114 + x ∨ j ≠ k) ∧ (r ≠ 118 + x ∨ j ≠ k) ∧ (r < 15 ∨ 29 < r ∨ r % 2 = 0 ∨ (j ≠ 2 ∧ j ≠ 5)) ∧ (r ≠ 31 ∨ j ≠ 1) ∧ r ≠ 63 ∧ r ≠ 64 ∧ (r ≠ 88 ∨ j ≠ 0)) → M r j = N r j) (Mo : zMon M M) (St : ∀ i : Int, 0 ≤ i → i < 8 → M 64 i = M (15 + 2 * i) 5 ∧ (e (15 + 2 * i) 5 ≤ M (15 + 2 * i) 5 ∧ M (15 + 2 * i) 5 ≤ e (15 + 2 * i) 5 + 2000) ∧ (e 1 9 ≤ i → M (15 + 2 * i) 5 = e (15 + 2 * i) 5)) (V2 : 0 ≤ M 31 1 ∧ M 31 1 ≤ e 31 1 + 5000) (V3 : ∀ i : Int, 0 ≤ i → i < 8 → e (15 + 2 * i) 2 - 2000 ≤ M (15 + 2 * i) 2 ∧ M (15 + 2 * i) 2 ≤ e (15 + 2 * i) 2 + 20000) (m4 : M h 4 = sk) (m5 : M h 5 = p) (m6 : 0 ≤ M h 6 ∧ M h 6 ≤ 1) (g4 : M (114 + x) k = sk) (g8 : M (118 + x) k = st) (sb : 0 ≤ sk ∧ sk ≤ 2000) (ok : (p = 0 ∧ st = 2 ∧ 0 < sk) ∨ (p = 0 ∧ st = 3 ∧ sk = 0)) (hg : N (38 + 5 * x) 2 ≠ 0) : zQz 0 e M := by
  obtain ⟨kk, -, -, ⟨V1, -, -⟩, b38, qs, qc, rs2, rd2, rq2⟩ := Q
  have hh2 : 39 ≤ h ∧ h ≤ 51 := by omega
  have SL : ∀ a j : Int, ((1 ≤ a ∧ a ≤ 14) ∨ (32 ≤ a ∧ a ≤ 38) ∨ (a = 31 ∧ j ≠ 1)) → M a j = N a j := fun a j q => S a j (by omega) (by omega)
  have SB : ∀ a j : Int, ((51 < a ∧ a ≤ 62) ∨ (65 ≤ a ∧ a ≤ 113 ∧ a ≠ 88) ∨ a = 117 ∨ (120 < a ∧ a ≤ 159)) → M a j = N a j := fun a j q => S a j (by omega) (by omega)
  have SJ : ∀ a j : Int, 38 ≤ a → a ≤ 60 → (j ≠ 4 ∧ j ≠ 5 ∧ j ≠ 6) → M a j = N a j := fun a j q1 q2 q => S a j (by omega) (by omega)
  have SO : ∀ a j : Int, 38 ≤ a → a ≤ 60 → a ≠ h → M a j = N a j := fun a j q1 q2 q => S a j (by omega) (by omega)
  have d34 : M 34 4 = N 34 4 := SL _ _ (by decide)
  have ok5 : p = 0 := by omega
  have hand : ∀ h2 c2 : Int, 38 ≤ h2 → h2 ≤ 60 → (∀ j : Int, M c2 j = N c2 j) → zIh (N 34 4) N h2 c2 → zIh (M 34 4) M h2 c2 := fun h2 c2 q1 q2 q5 H => by
    obtain ⟨y1, y2, y3, y4, y5, y6, y7, ⟨y8, y9⟩, y10⟩ := H
    unfold zIh
    rw [SJ h2 1 q1 q2 (by decide), SJ h2 2 q1 q2 (by decide), SJ h2 3 q1 q2 (by decide), d34, zms_e q5, zma_e q5]
    by_cases z : h2 = h
    · rw [z, m4, m5, ok5]
      rw [z] at y1 y2 y3 y8 y9 y10
      exact ⟨y1, y2, y3, sb, by decide, m6, fun z2 => absurd z2 (by decide), ⟨y8, y9⟩, fun j r1 r2 => by rw [q5]; exact y10 j r1 r2⟩
    · rw [SO h2 4 q1 q2 z, SO h2 5 q1 q2 z, SO h2 6 q1 q2 z]
      exact ⟨y1, y2, y3, y4, y5, y6, y7, ⟨y8, y9⟩, fun j r1 r2 => by rw [q5]; exact y10 j r1 r2⟩
  have cards : ∀ i j : Int, 0 ≤ i → i < 3 → M (40 + 5 * i) j = N (40 + 5 * i) j ∧ M (42 + 5 * i) j = N (42 + 5 * i) j := fun i j q1 q2 => ⟨SO _ _ (by omega) (by omega) (by omega), SO _ _ (by omega) (by omega) (by omega)⟩
  have s38 : ∀ i j : Int, 0 ≤ i → i < 3 → M (38 + 5 * i) j = N (38 + 5 * i) j := fun i j q1 q2 => SO _ _ (by omega) (by omega) (by omega)
  refine ⟨fun a j q1 q2 q3 => ?_, Mo, St, ⟨by rw [SL 4 0 (by decide)]; exact V1, by omega, fun i q1 q2 => by have := V3 i q1 q2; omega⟩, by rw [SB 61 38 (by decide), SL 34 9 (by decide)]; exact b38, zIs_e qs (fun r j _ => SL _ _ (by omega)), ?_, zRs_e rs2 (fun j _ => SB _ _ (by omega)) d34 (SL _ _ (by decide)) (fun r j q => by
      by_cases z : r ≤ 38
      · exact SL _ _ (by omega)
      · exact SB _ _ (by omega)), zRd_e rd2 (SB _ _ (by decide)) (fun r j q => by
      by_cases z : r ≤ 38
      · exact SL _ _ (by omega)
      · exact SB _ _ (by omega)), fun s q1 q2 => ⟨?_, ?_⟩⟩
  · rw [← kk a j q1 q2 q3]
    unfold zTo at q3
    exact S a j ⟨q1, q2⟩ (by omega)
  · obtain ⟨s, ⟨b1, b2, b3, ⟨b4, b5⟩, b6⟩, c1, f⟩ := qc
    have d36 : ∀ j, M 36 j = N 36 j := fun j => SL 36 j (by omega)
    have d37 : ∀ j, M 37 j = N 37 j := fun j => SL 37 j (by omega)
    refine ⟨fun i q1 q2 => ?_, ⟨by rw [d36, d36]; exact b1, by rw [d36]; exact b2, by rw [d36]; exact b3, ⟨by rw [d36, d36, zms_e d37]; exact b4, by rw [d36, d36, zma_e d37]; exact b5⟩, fun j p1 p2 => by rw [d36] at p2; rw [d37]; exact b6 j p1 p2⟩, by rw [d34, SL 34 5 (by decide), SL 34 6 (by decide), SL 34 7 (by decide), SL 34 8 (by decide)]; exact c1, fun p => by rw [SL 5 7 (by decide), d36]; exact f (by omega)⟩
    obtain ⟨x1, x2, x3, x4, x5, x6⟩ := s i q1 q2
    refine ⟨hand _ _ (by omega) (by omega) (fun j => (cards i j q1 q2).1) x1, hand _ _ (by omega) (by omega) (fun j => (cards i j q1 q2).2) x2, by rw [s38 i 3 q1 q2]; exact x3, by rw [s38 i 2 q1 q2]; exact x4, fun z => ?_, fun z => ?_⟩
    · rw [s38 i 2 q1 q2] at z
      have ni : i ≠ x := fun z2 => by subst z2; exact hg z
      rw [SO (39 + 5 * i) 4 (by omega) (by omega) (by omega), SO (41 + 5 * i) 4 (by omega) (by omega) (by omega)]
      exact x5 z
    · rw [s38 i 3 q1 q2] at z
      have x6 := x6 z
      rw [SJ (41 + 5 * i) 1 (by omega) (by omega) (by decide)]
      by_cases q : 41 + 5 * i = h
      · exfalso
        have ix : i = x ∧ k = 1 := by omega
        have sp := (rq2 i q1 q2).1.2.2.2.2.2.2
        rw [← ix.1, ix.2] at h98
        have := (sp.1 (by omega)).2.2.2
        omega
      · rw [SO (41 + 5 * i) 4 (by omega) (by omega) q, SO (41 + 5 * i) 5 (by omega) (by omega) q]
        exact x6
  · by_cases q : s = x
    · subst q
      have alt : (p = 1 ∧ st = 1 ∧ 0 < sk) ∨ (p = 0 ∧ st = 2 ∧ 0 < sk) ∨ (p = 0 ∧ st = 3 ∧ sk = 0) := .inr ok
      have st3 : 0 ≤ st ∧ st ≤ 3 := by omega
      have n0 : ¬ N 98 s = 0 := by omega
      have p0 : 1 ≤ N 98 s := by omega
      have nf : ¬ N 34 4 = 0 := by omega
      clear ok ok5
      have e1 : M (39 + 5 * s) 1 = N (39 + 5 * s) 1 := SJ _ _ (by omega) (by omega) (by decide)
      have e2 : M (41 + 5 * s) 1 = N (41 + 5 * s) 1 := SJ _ _ (by omega) (by omega) (by decide)
      have eb : ∀ a, (a = 96 ∨ a = 97 ∨ a = 98) → M a s = N a s := fun a p => SB a s (by omega)
      have ec : ∀ j, M (110 + s) j = N (110 + s) j := fun j => SB _ j (by omega)
      have ed : ∀ a j, (a = 101 + 3 * s ∨ a = 102 + 3 * s) → M a j = N a j := fun a j p => SB a j (by omega)
      unfold zRq
      rw [s38 s 2 q1 q2, s38 s 3 q1 q2, eb 96 (by decide), eb 97 (by decide), eb 98 (by decide), d34, e1, e2, ec, ec]
      rcases hk with k0 | k0
      · subst k0
        simp only [Int.mul_zero, Int.add_zero] at hh
        subst hh
        have f5 : M (41 + 5 * s) 5 = N (41 + 5 * s) 5 := SO _ _ (by omega) (by omega) (by omega)
        have f4 : M (41 + 5 * s) 4 = N (41 + 5 * s) 4 := SO _ _ (by omega) (by omega) (by omega)
        have f6 : M (41 + 5 * s) 6 = N (41 + 5 * s) 6 := SO _ _ (by omega) (by omega) (by omega)
        have f8 : M (118 + s) 1 = N (118 + s) 1 := S _ _ (by omega) (by omega)
        have f9 : M (114 + s) 1 = N (114 + s) 1 := S _ _ (by omega) (by omega)
        rw [m4, m5, g4, g8, f4, f5, f6, f8, f9]
        obtain ⟨z1, z2, z3, z4, z5, z6, z7, z8⟩ := (rq2 s q1 q2).1
        obtain ⟨o1, o2, o3, o4, o5, o6, o7⟩ := z6 h4
        have z7 := z7 p0
        exact ⟨z1, z2, ⟨st3, z3.2⟩, ⟨sb, z4.2⟩, fun p => absurd p nf, fun _ => ⟨o1, o2, o3, o4, fun p => absurd p n0, fun _ => ⟨rfl, alt⟩, o7⟩, fun _ => ⟨z7.1, z7.2.1, fun j r1 r2 => by rw [ed _ _ (.inl rfl), (cards s j q1 q2).1]; exact z7.2.2.1 j r1 r2, z7.2.2.2⟩, fun p => ⟨(z8 p).1, (z8 p).2.1, fun j r1 r2 => by rw [ed _ _ (.inr rfl), (cards s j q1 q2).2]; exact (z8 p).2.2 j r1 r2⟩⟩
      · subst k0
        have n1 : ¬ N 98 s ≤ 1 := by omega
        rw [show 39 + 5 * s + 2 * 1 = 41 + 5 * s by omega] at hh
        subst hh
        have f5 : M (39 + 5 * s) 5 = N (39 + 5 * s) 5 := SO _ _ (by omega) (by omega) (by omega)
        have f4 : M (39 + 5 * s) 4 = N (39 + 5 * s) 4 := SO _ _ (by omega) (by omega) (by omega)
        have f6 : M (39 + 5 * s) 6 = N (39 + 5 * s) 6 := SO _ _ (by omega) (by omega) (by omega)
        have f8 : M (118 + s) 0 = N (118 + s) 0 := S _ _ (by omega) (by omega)
        have f9 : M (114 + s) 0 = N (114 + s) 0 := S _ _ (by omega) (by omega)
        rw [m4, m5, g4, g8, f4, f5, f6, f8, f9]
        obtain ⟨z1, z2, z3, z4, z5, z6, z7, z8⟩ := (rq2 s q1 q2).1
        obtain ⟨o1, o2, o3, o4, o5, o6, o7⟩ := z6 h4
        have z7 := z7 p0
        exact ⟨z1, z2, ⟨z3.1, st3⟩, ⟨z4.1, sb⟩, fun p => absurd p nf, fun _ => ⟨o1, o2, o3, fun p => absurd p n1, o5, o6, fun _ => ⟨rfl, alt⟩⟩, fun _ => ⟨z7.1, z7.2.1, fun j r1 r2 => by rw [ed _ _ (.inl rfl), (cards s j q1 q2).1]; exact z7.2.2.1 j r1 r2, z7.2.2.2⟩, fun p => ⟨(z8 p).1, (z8 p).2.1, fun j r1 r2 => by rw [ed _ _ (.inr rfl), (cards s j q1 q2).2]; exact (z8 p).2.2 j r1 r2⟩⟩
    · exact zRq_e (rq2 s q1 q2).1 d34 (SB _ _ (by omega)) (SB _ _ (by omega)) (SB _ _ (by omega)) (fun a j p => SO a j (by omega) (by omega) (by omega)) (fun a j p => S a j (by omega) (by omega))
  · rw [s38 s 2 q1 q2]
    exact (rq2 s q1 q2).2
theorem zP20 {S : zSs} {D n u : Nat} {g : Int → zk_K} {e : zm_D} {t : Int} {x : Int} (I : zIn t e) (J : zIp t e) (R : zRe e) (ht : t < 600) (hD : 40 ≤ D) (h_x : -2147483648 ≤ x ∧ x < 2147483648) : zE S D 348 [zv_a 1, zv_i x, zv_a 160] n (zSg g) (zDg e) u (zK1 S D t n u 260 [zv_a 61, zv_i x] zPi) := by
  have c4 := I.2.2.2.2.2.2.1.2.2.1.1
  have rs1 := R.2.2.2.2.2.1.1
  by_cases hx : x < 0 ∨ 3 ≤ x
  · refine (zC138a I h_x hx hD).2 (zK1i (by omega) (by omega) (by omega) (by omega) (fun n2 u2 _ => (zX260a h_x hx (by omega)).2 (zK2i (by omega) (by omega) (by omega) (by omega) (zIn_e I ht (fun r j _ _ => by simp (disch := omega) only [zm_un])) (zIp_e J (fun r j _ _ => by simp (disch := omega) only [zm_un])) (zRe_e R (zIn_w I) (fun r j _ _ _ => by simp (disch := omega) only [zm_un])) ⟨1, 0, rfl, rfl, zm_us, fun q => absurd q (by decide), by decide⟩)))
  have hx : 0 ≤ x ∧ x < 3 := by omega
  rcases c4 with h4 | h4
  · refine (zC138b I hx h4 hD).2 (zK1i (by omega) (by omega) (by omega) (by omega) (fun n2 u2 _ => (zX260b hx (by omega) (by omega)).2 (zK2i (by omega) (by omega) (by omega) (by omega) (zIn_e I ht (fun r j _ _ => by simp (disch := omega) only [zm_un])) (zIp_e J (fun r j _ _ => by simp (disch := omega) only [zm_un])) (zRe_e R (zIn_w I) (fun r j _ _ _ => by simp (disch := omega) only [zm_un])) ⟨2, 0, rfl, rfl, zm_us, fun q => absurd q (by decide), by decide⟩)))
  have nn := J.2.2.2.2.2 h4
  have TN := (zRq_tn R.2.2.2.2.2.2.2.1 h4).2 nn.2.1
  by_cases ht2 : zst e = x
  rotate_left
  · refine (zC138c I hx h4 ht2 hD).2 (zK1i (by omega) (by omega) (by omega) (by omega) (fun n2 u2 _ => (zX260c hx (by omega) (zRe_M3 R) (by by_cases p : e (39 + 5 * zst e) 5 = 1; (· have := TN.1 p; have := @zst_r e; omega); (· have := TN.2 p; have := @zst_r e; omega)) (by omega)).2 (zK2i (by omega) (by omega) (by omega) (by omega) (zIn_e I ht (fun r j _ _ => by simp (disch := omega) only [zm_un])) (zIp_e J (fun r j _ _ => by simp (disch := omega) only [zm_un])) (zRe_e R (zIn_w I) (fun r j _ _ _ => by simp (disch := omega) only [zm_un])) ⟨3, 0, rfl, rfl, zm_us, fun q => absurd q (by decide), by decide⟩)))
  rw [ht2] at TN
  have ci := I.2.2.2.2.2.2.1.1 x hx.1 hx.2
  have rq := R.2.2.2.2.2.2.2.1 x hx.1 hx.2
  obtain ⟨who, c98, -, -, -, on, k1, k2⟩ := rq
  have on := on h4
  have sh := I.2.2.2.2.2.1.1.1
  have it := I.1
  have ru := R.2.2.2.2.1
  unfold zRu at ru
  have r91 := I.2.2.2.2.2.2.1.2.2.1
  by_cases h5 : e (39 + 5 * x) 5 = 1
  · have tn := TN.1 h5
    have c0 : 0 < e 98 x := by
      by_cases z : e 98 x = 0
      · have := (on.2.2.2.2.1 z).2; omega
      · omega
    have HI : zIh (e 34 4) e (39 + 5 * x) (40 + 5 * x) := ci.1
    have y7 := HI.2.2.2.2.2.2.1 h5
    have oo := on.2.2.2.2.2.1 (by omega)
    have cnt := k1 (by omega)
    have two := nn.2.2 (39 + 5 * x) (by omega) h5
    by_cases hf : e 34 6 = 1 ∧ e (38 + 5 * x) 3 = 0 ∧ e (39 + 5 * x) 1 = 2
    rotate_left
    · refine (zC138f0 I hx h4 ht2 h5 hf hD).2 (zK1i (by omega) (by omega) (by omega) (by omega) (fun n2 u2 _ => (zX260f0 (B := 80000000) (by decide) (zRe_Mr I R h4 (fun r j _ _ => rfl)) hx (by omega) tn (by omega) (fun z => hf ⟨by omega, by omega, by omega⟩) (by omega)).2 (zK2i (by omega) (by omega) (by omega) (by omega) (zIn_e I ht (fun r j _ _ => by simp (disch := omega) only [zm_un])) (zIp_e J (fun r j _ _ => by simp (disch := omega) only [zm_un])) (zRe_e R (zIn_w I) (fun r j _ _ _ => by simp (disch := omega) only [zm_un])) ⟨3, 0, rfl, rfl, zm_us, fun q => absurd q (by decide), by decide⟩)))
    obtain ⟨j, hj⟩ : ∃ j, e 96 x = j := ⟨_, rfl⟩
    have b8 : 0 ≤ j ∧ j < 8 := by omega
    have hg : e (38 + 5 * x) 2 = 15 + 2 * j := by omega
    have w4 := J.2.2.2.2.1 x hx.1 hx.2
    obtain ⟨s, hs⟩ : ∃ s, e (39 + 5 * x) 4 = s := ⟨_, rfl⟩
    have CC := fun {B2 : Int} (hB2 : B2 ≤ 100000000) => @zC138_0 S D n u g e (zK1 S D t n u 260 [zv_a 61, zv_i x] zPi) t x I B2 hB2 j b8 hg hx h4 ht2 h5 hf
    rw [hs] at CC
    obtain ⟨E, hE⟩ : ∃ E, zm_u (zgoc (zm_u (zm_u (zse e (39 + 5 * x)) 31 1 (e 31 1 + (s - s / 2))) (15 + 2 * j) 2 (e (15 + 2 * j) 2 + s / 2))) 160 0 (zw (s / 2)) = E := ⟨_, rfl⟩
    have Ae : ∀ r i : Int, 60 < r → (zm_u (zm_u (zse e (39 + 5 * x)) 31 1 (e 31 1 + (s - s / 2))) (15 + 2 * j) 2 (e (15 + 2 * j) 2 + s / 2)) r i = e r i := fun r i p => by rw [zm_un (by omega), zm_un (by omega), zse_o (by omega)]
    have GG : ∀ i : Int, 0 ≤ i → i < 3 → zGr ((zm_u (zm_u (zse e (39 + 5 * x)) 31 1 (e 31 1 + (s - s / 2))) (15 + 2 * j) 2 (e (15 + 2 * j) 2 + s / 2)) (38 + 5 * i) 2) := fun i q1 q2 => by
      rw [zm_un (by omega), zm_un (by omega), zse_o (by omega)]
      exact (I.2.2.2.2.2.2.1.1 i q1 q2).2.2.2.1
    have EO : ∀ r i : Int, 60 < r → r ≤ 159 → E r i = e r i := fun r i q1 q2 => by rw [← hE, zm_un (by omega), zgoc_h GG q1, Ae r i q1]
    have Q0 : zQz 0 e (zmx e (zm_u E 61 49 0)) := zQz_0 I J R (fun r j q1 q2 q3 => by
      by_cases q : r ≤ 60
      · exact zmx_l q
      · rw [zmx_h (by omega), zm_un (by omega), EO r j (by omega) q2])
    have Mo0 := zRe_Mon R
    have g114 : E (114 + x) 0 = s := by rw [EO _ _ (by omega) (by omega)]; omega
    have Z2 := zHnd_c (e := e) (N := zmx e (zm_u E 61 49 0)) (M := zmx (zm_u (zm_u (zse e (39 + 5 * x)) 31 1 (e 31 1 + (s - s / 2))) (15 + 2 * j) 2 (e (15 + 2 * j) 2 + s / 2)) (zmls (zm_u (zm_u (zm_u E 61 49 0) (114 + x) 0 (s - s / 2)) 63 j (e 63 j + s / 2)) x 0)) (x := x) (k := 0) (h := 39 + 5 * x) (sk := 0) (p := 0) (st := 3) hx (by decide) (by omega) Q0 (by rw [zmx_l (by decide)]; exact h4) (by rw [zmx_h (by decide), zm_un (by omega), EO _ _ (by decide) (by decide)]; omega) (fun r i q1 q2 => by
      by_cases q : r ≤ 60
      · rw [zmx_l q, zmx_l q, zm_un (by omega), zm_un (by omega), zse_o (by omega)]
      · rw [zmx_h (by omega), zmx_h (by omega)]
        unfold zmls
        rw [zm_un (by omega), zm_un (by omega), zm_un (by omega), zm_un (by omega), zm_un (by omega)]) (by
      refine zMon_e (zMon_chp (q := j) (c := s / 2) (zMon_get (t := 0) (s := s - s / 2) Mo0 (by decide)) b8) ?_ (fun i p1 p2 => ?_) (fun i i2 p1 p2 p3 => ?_) ?_ (fun i p1 p2 => ?_) (fun i i2 p1 p2 p3 => ?_)
      · rw [zmx_l (by decide), zm_un (by omega), zm_un (by omega), zse_o (by omega), zm_un (by omega), zm_un (by omega)]
      · rw [zmx_l (by omega)]
        by_cases z : i = j
        · subst z
          rw [zm_ue rfl rfl, zm_ue rfl rfl, zm_un (by omega)]
        · rw [zm_un (by omega), zm_un (by omega), zse_o (by omega), zm_un (by omega), zm_un (by omega)]
      · rw [zmx_l (by omega), zm_un (show 31 + i ≠ 15 + 2 * j ∨ i2 ≠ 2 by omega), zm_un (show 31 + i ≠ 15 + 2 * j ∨ i2 ≠ 2 by omega)]
        by_cases z : i = 0 ∧ i2 = 1
        · rw [z.1, z.2]
          simp only [Int.add_zero]
          rw [zm_ue rfl rfl, zm_ue rfl rfl]
        · rw [zm_un (by omega), zm_un (by omega), zse_o (by omega)]
      · rw [zmx_h (by decide)]
        unfold zmls
        rw [zm_un (by omega), zm_un (by omega), zm_un (by omega), zm_un (by omega), zm_un (by omega), zm_un (by omega), EO _ _ (by decide) (by decide), zm_un (by omega), zm_un (by omega)]
      · rw [zmx_h (by decide)]
        unfold zmls
        rw [zm_un (by omega), zm_un (by omega), zm_un (by omega)]
        by_cases z : i = j
        · subst z
          rw [zm_ue rfl rfl, zm_ue rfl rfl, zm_un (by omega)]
        · rw [zm_un (by omega), zm_un (by omega), zm_un (by omega), EO _ _ (by decide) (by decide), zm_un (by omega), zm_un (by omega)]
      · rw [zmx_h (by omega), zm_un (by omega)]
        unfold zmls
        rw [zm_un (by omega), zm_un (by omega)]
        by_cases z : i = 88 ∧ i2 = 0
        · rw [z.1, z.2, zm_ue rfl rfl, zm_ue rfl rfl, zm_un (by omega), zm_un (by omega), zm_un (by omega), EO _ _ (by decide) (by decide), zm_un (by omega), zm_ue rfl rfl]
        · rw [zm_un (by omega), zm_un (by omega), zm_un (by omega), zm_un (by omega), EO _ _ (by omega) (by omega), zm_un (by omega)]) (fun i p1 p2 => by
      have a := (R.2.1 i p1 p2).1.2.2.1
      have b := I.2.2.1 i ⟨p1, p2⟩
      rw [zmx_h (by decide), zmx_l (by omega), zm_un (by omega), zm_un (by omega), zse_o (by omega)]
      unfold zmls
      rw [zm_un (by omega), zm_un (by omega), zm_un (by omega), zm_un (by omega), zm_un (by omega), zm_un (by omega), EO _ _ (by decide) (by decide)]
      exact ⟨a, by omega, fun _ => rfl⟩) (by
      have t0 := I.2.2.2.2.1 0 (by decide) (by decide)
      simp only [Int.add_zero] at t0
      rw [zmx_l (by decide), zm_un (by omega), zm_ue rfl rfl]
      omega) (fun i p1 p2 => by
      rw [zmx_l (by omega)]
      by_cases z : i = j
      · subst z
        rw [zm_ue rfl rfl]
        omega
      · rw [zm_un (by omega), zm_un (by omega), zse_o (by omega)]
        omega) (by rw [zmx_l (by omega), zm_un (by omega), zm_un (by omega)]; exact zse_4) (by rw [zmx_l (by omega), zm_un (by omega), zm_un (by omega)]; exact zse_5) (by rw [zmx_l (by omega), zm_un (by omega), zm_un (by omega), zse_6]; decide) (by rw [zmx_h (by omega)]; unfold zmls; rw [zm_un (by omega)]; exact zm_ue rfl rfl) (by rw [zmx_h (by omega)]; exact zm_ue rfl rfl) (by decide) (.inr (by decide)) (by rw [zmx_l (by omega)]; omega)
    have on4 : (zm_u (zm_u (zse e (39 + 5 * x)) 31 1 (e 31 1 + (s - s / 2))) (15 + 2 * j) 2 (e (15 + 2 * j) 2 + s / 2)) 34 4 = 1 := by rw [zm_un (by omega), zm_un (by omega), zse_o (by omega)]; exact h4
    have JJ := zQz_J I ht Z2 (by rw [zmx_l (by decide)]; exact on4) (fun r j p => zmx_l p)
    have X := zRnd_call I J R ht hE Ae Z2 on4 (by rw [zm_un (by omega), zm_un (by omega), zse_o (by omega), zm_un (by omega), zm_un (by omega), zse_o (by omega), zm_un (by omega), zm_un (by omega), zse_o (by omega)]; exact nn.1) (fun y q p => by
      by_cases z : y = 39 + 5 * x
      · rw [z, zm_un (by omega), zm_un (by omega), zse_5] at p
        exact absurd p (by decide)
      · rw [zm_un (by omega), zm_un (by omega), zse_o (by omega)] at p ⊢
        exact nn.2.2 y q p) (fun r i p => by
      unfold zmls
      rw [zm_un (by omega), zm_un (by omega), zm_un (by omega), zm_un (by omega), zm_un (by omega), zm_un (by omega)]) (by
      unfold zmls
      rw [zm_un (by omega), zm_un (by omega), zm_un (by omega), zm_un (by omega), zm_un (by omega)]
      exact zm_ue rfl rfl)
    refine (CC (by omega) JJ hD).2 (zK1i (by omega) (by omega) (by omega) (by omega) (fun n2 u2 _ => ?_))
    rw [hE]
    have XX := fun {Q2 : ((Option zv_V) ⊕ Nat) → Nat → zk_S → zm_D → Nat → Prop} => @zX260 S D n2 u2 g E Q2 80000000 (by decide) (zRe_Mr I R h4 EO) x hx (by rw [EO _ _ (by decide) (by decide)]; omega) (by rw [zmtn_h (fun r j q1 q2 _ => EO r j q1 q2)]; exact tn) (by rw [EO _ _ (by decide) (by decide), EO _ _ (by decide) (by omega), EO _ _ (by omega) (by omega)]; omega) (by rw [EO _ _ (by decide) (by decide)]; omega) (by omega)
    rw [g114, EO 96 x (by decide) (by decide), hj, EO 63 j (by decide) (by decide)] at XX
    refine XX.2 ?_
    exact zK2i (by omega) (by omega) (by omega) (by omega) X.1.1 X.1.2.1 X.1.2.2 ⟨0, _, rfl, rfl, X.2.1, fun _ => X.2.2.1, by decide⟩
  · have n5 : e (39 + 5 * x) 5 = 0 := by have := ci.1.2.2.2.2.1; omega
    have tn := (TN.2 h5).2
    have h5 := (TN.2 h5).1
    have c0 : 1 < e 98 x := by
      by_cases z : e 98 x ≤ 1
      · have := (on.2.2.2.1 z).2; omega
      · omega
    have cnt := k1 (by omega)
    refine (zC138f1 I hx h4 ht2 n5 h5 (fun z => by omega) hD).2 (zK1i (by omega) (by omega) (by omega) (by omega) (fun n2 u2 _ => (zX260f1 (B := 80000000) (by decide) (zRe_Mr I R h4 (fun r j _ _ => rfl)) hx (by omega) tn (by omega) (fun z => by omega) (by omega)).2 (zK2i (by omega) (by omega) (by omega) (by omega) (zIn_e I ht (fun r j _ _ => by simp (disch := omega) only [zm_un])) (zIp_e J (fun r j _ _ => by simp (disch := omega) only [zm_un])) (zRe_e R (zIn_w I) (fun r j _ _ _ => by simp (disch := omega) only [zm_un])) ⟨3, 0, rfl, rfl, zm_us, fun q => absurd q (by decide), by decide⟩)))
