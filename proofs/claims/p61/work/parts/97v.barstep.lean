/-! ===== STEPS: seats and money behind bar ===== -/
set_option maxRecDepth 65536
theorem zbf_45 {F : zm_D} {b h j : Int} (p : j = 4 ∨ j = 5) : zbf F b h j = 0 := if_pos p
theorem zbf_n {F : zm_D} {b h j : Int} (p : (j < 1 ∨ 5 < j) ∨ (j < 4 ∧ ¬ (b = 1 ∧ 0 < F h 4))) : zbf F b h j = F h j := by
  unfold zbf
  rw [if_neg (by omega), if_neg (fun z => by rcases p with p | p; (· omega); (· exact p.2 z.1))]
theorem zbf_z {F : zm_D} {b h j : Int} (p : 1 ≤ j ∧ j ≤ 3) (q : b = 1 ∧ 0 < F h 4) : zbf F b h j = 0 := by
  unfold zbf
  rw [if_neg (by omega), if_pos ⟨q, p⟩]
/-- a hand taken away is a hand -/
theorem zIh_t {F M : zm_D} {on b p h c : Int} (H : zIh on F h c) (m : ∀ j, M h j = zbf F b h j) (mc : ∀ j, M c j = F c j) : zIh p M h c := by
  obtain ⟨y1, y2, y3, y4, y5, y6, y7, ⟨y8, y9⟩, y10⟩ := H
  unfold zIh
  rw [m 1, m 2, m 3, m 4, m 5, m 6, zbf_45 (.inl rfl), zbf_45 (.inr rfl), zbf_n (j := 6) (.inl (by decide)), zms_e mc, zma_e mc]
  by_cases q : b = 1 ∧ 0 < F h 4
  · rw [zbf_z (by decide) q, zbf_z (by decide) q, zbf_z (by decide) q]
    exact ⟨by decide, by decide, by decide, by decide, by decide, y6, fun z => absurd z (by decide), ⟨rfl, rfl⟩, fun k p1 p2 => by omega⟩
  · rw [zbf_n (.inr ⟨by decide, q⟩), zbf_n (.inr ⟨by decide, q⟩), zbf_n (.inr ⟨by decide, q⟩)]
    exact ⟨y1, y2, y3, by decide, by decide, y6, fun z => absurd z (by decide), ⟨y8, y9⟩, fun k p1 p2 => by rw [mc]; exact y10 k p1 p2⟩
/-- what comes back of a seat, on both sides -/
theorem zBk_s {e c d : zm_D} {x s : Int} (hx : 0 ≤ x) (Q : zRq e s) (on : e 34 4 = 0 ∨ e 34 4 = 1) (h37 : e 61 37 = e 34 4) (hc : ∀ r j : Int, (r = 38 + 5 * s ∨ r = 39 + 5 * s ∨ r = 41 + 5 * s) → c r j = e r j) (hd : d 96 s = e 96 s ∧ d 97 s = e 97 s ∧ d 98 s = e 98 s ∧ d 61 37 = e 61 37) (h114 : ∀ j, d (114 + s) j = e (114 + s) j) (b1 : 0 ≤ e (39 + 5 * s) 4 ∧ e (39 + 5 * s) 4 ≤ 2000) (b2 : 0 ≤ e (41 + 5 * s) 4 ∧ e (41 + 5 * s) 4 ≤ 2000) : zbk c (15 + 2 * x) (38 + 5 * s) (39 + 5 * s) (41 + 5 * s) = zmb6 0 d s x ∧ 0 ≤ zmb6 0 d s x ∧ zmb6 0 d s x ≤ 4000 := by
  obtain ⟨who, w2, -, w4, off, o, -, -⟩ := Q
  unfold zbk zmb6
  rw [hc (38 + 5 * s) 2 (.inl rfl), hc (39 + 5 * s) 4 (.inr (.inl rfl)), hc (41 + 5 * s) 4 (.inr (.inr rfl)), hd.1, hd.2.1, hd.2.2.1, hd.2.2.2, h114, h114, h37]
  by_cases p : e 96 s = x
  · rw [if_pos p, if_pos (by omega)]
    rcases on with z | z
    · have f := off z
      rw [if_neg (by omega)]
      omega
    · obtain ⟨f1, f2, f3, f4, f5, f6, f7⟩ := o z
      rw [if_pos z]
      have n0 : e 98 s ≠ 0 := fun y => by have := f2 y; omega
      rw [if_neg n0]
      have g6 := (f6 (by omega)).1
      by_cases y : e 98 s = 1
      · have g4 := (f4 (by omega)).1
        rw [if_pos y]
        omega
      · have g7 := (f7 (by omega)).1
        rw [if_neg y]
        omega
  · rw [if_neg p, if_neg (by omega)]
    decide
/-- the seats and the money -/
theorem zBar_2 {t : Int} {F M : zm_D} {x b : Int} (I : zIn t F) (J : zIp t F) (R : zRe F) (x8 : 0 ≤ x ∧ x < 8)
    (ML : ∀ r j : Int, (1 ≤ r ∧ r ≤ 60) → ((r < 38 ∨ 52 < r) ∧ (r ≠ 15 + 2 * x ∨ j ≠ 2)) → M r j = F r j)
    (MH : ∀ r j : Int, (60 < r ∧ r ≤ 159) → ((r < 96 ∨ 98 < r) ∧ (r < 114 ∨ 120 < r) ∧ (r ≠ 63 ∨ j ≠ x)) → M r j = F r j)
    (m2 : M (15 + 2 * x) 2 = F (15 + 2 * x) 2 + b) (m63 : M 63 x = F 63 x + b) (hb : 0 ≤ b ∧ b ≤ 20000)
    (SC : ∀ s : Int, 0 ≤ s → s < 3 → (F (38 + 5 * s) 2 ≠ 15 + 2 * x → ∀ r j : Int, 38 + 5 * s ≤ r → r ≤ 42 + 5 * s → M r j = F r j) ∧ (F (38 + 5 * s) 2 = 15 + 2 * x → M (38 + 5 * s) 2 = 0 ∧ (∀ j : Int, M (39 + 5 * s) j = zbf F (F 34 4) (39 + 5 * s) j) ∧ (∀ j : Int, M (41 + 5 * s) j = zbf F (F 34 4) (41 + 5 * s) j)) ∧ (∀ r j : Int, (r = 38 + 5 * s ∧ j ≠ 2) ∨ r = 40 + 5 * s ∨ r = 42 + 5 * s → M r j = F r j))
    (SM : ∀ s : Int, 0 ≤ s → s < 3 → (F 96 s ≠ x → ∀ r j : Int, ((r = 96 ∨ r = 97 ∨ r = 98) ∧ j = s) ∨ r = 114 + s ∨ r = 118 + s → M r j = F r j) ∧ (F 96 s = x → M 96 s = -1 ∧ M 97 s = 0 ∧ M 98 s = (if F 61 37 = 1 then 0 else F 98 s)) ∧ (∀ r j : Int, (r = 114 + s ∨ r = 118 + s) → (M r j = F r j ∨ M r j = 0))) : zQz 0 F M ∧ (z2c F → z2c M) := by
  have Mo := zRe_Mon R
  obtain ⟨it, -, ig, iv, itr, is, ic, -⟩ := I
  have w4 := J.2.2.2.2.1
  obtain ⟨ra, rg, rh, rt, ru, rs, rd, rq, -⟩ := R
  have t0 := itr 0 (by decide) (by decide)
  simp only [Int.add_zero] at t0
  unfold zRa at ra
  have on : M 34 4 = F 34 4 := ML 34 4 (by decide) (by omega)
  have h37 := rs.1.2.2
  have tk : ∀ s : Int, 0 ≤ s → s < 3 → (F (38 + 5 * s) 2 = 15 + 2 * x ↔ F 96 s = x) := fun s q1 q2 => by
    have who := (rq s q1 q2).1
    omega
  refine ⟨⟨fun r j q1 q2 q3 => ?_, ⟨?_, fun i q1 q2 => ?_, fun i q1 q2 => ?_⟩, fun i q1 q2 => ?_, ⟨by rw [ML 4 0 (by decide) (by omega)]; omega, by rw [ML 31 1 (by decide) (by omega)]; omega, fun i q1 q2 => ?_⟩, by rw [MH 61 38 (by decide) (by omega), ML 34 9 (by decide) (by omega)]; exact ra.2.1.1, zIs_e is (fun r j q => ML r j (by omega) (by omega)), ⟨fun s q1 q2 => ?_, ?_, ?_, ?_⟩, zRs_e rs (fun j _ => MH _ _ (by decide) (by omega)) on (ML _ _ (by decide) (by omega)) (fun r j q => by
      by_cases z : r ≤ 60
      · exact ML r j (by omega) (by omega)
      · exact MH r j (by omega) (by omega)), zRd_e rd (MH _ _ (by decide) (by omega)) (fun r j q => by
      by_cases z : r ≤ 60
      · exact ML r j (by omega) (by omega)
      · exact MH r j (by omega) (by omega)), fun s q1 q2 => ⟨?_, ?_⟩⟩, fun H y q p => ?_⟩
  · unfold zTo at q3
    by_cases z : r ≤ 60
    · exact ML r j ⟨q1, z⟩ (by omega)
    · exact MH r j (by omega) (by omega)
  · rw [MH 61 32 (by decide) (by omega), ML 4 0 (by decide) (by omega)]
    exact Mo.1
  · have m := Mo.2.1 i q1 q2
    by_cases z : i = x
    · rw [z] at m ⊢
      omega
    · rw [MH 63 i (by decide) (by omega), ML (15 + 2 * i) 2 (by omega) (by omega)]
      exact m
  · have m := Mo.2.2 i q1 q2
    rw [MH 88 i (by decide) (by omega), MH 90 i (by decide) (by omega), ML (31 + i) 1 (by omega) (by omega), ML (31 + i) 3 (by omega) (by omega), ML (31 + i) 4 (by omega) (by omega)]
    exact m
  · have m := (rg i q1 q2).1.2.2.1
    rw [MH 64 i (by decide) (by omega), ML (15 + 2 * i) 5 (by omega) (by omega)]
    exact ⟨m, by omega, fun _ => rfl⟩
  · by_cases z : i = x
    · rw [z, m2]
      omega
    · rw [ML (15 + 2 * i) 2 (by omega) (by omega)]
      omega
  · obtain ⟨c1, c2, c3⟩ := SC s q1 q2
    obtain ⟨x1, x2, x3, x4, x5, x6⟩ := ic.1 s q1 q2
    by_cases z : F (38 + 5 * s) 2 = 15 + 2 * x
    · obtain ⟨k1, k2, k3⟩ := c2 z
      refine ⟨zIh_t x1 k2 (fun j => c3 _ j (.inr (.inl rfl))), zIh_t x2 k3 (fun j => c3 _ j (.inr (.inr rfl))), by rw [c3 (38 + 5 * s) 3 (.inl ⟨rfl, by decide⟩)]; exact x3, .inl k1, fun _ => ⟨by rw [k2]; exact zbf_45 (.inl rfl), by rw [k3]; exact zbf_45 (.inl rfl)⟩, fun p => ⟨?_, by rw [k3]; exact zbf_45 (.inl rfl), by rw [k3]; exact zbf_45 (.inr rfl)⟩⟩
      rw [c3 (38 + 5 * s) 3 (.inl ⟨rfl, by decide⟩)] at p
      rw [k3]
      by_cases q : F 34 4 = 1 ∧ 0 < F (41 + 5 * s) 4
      · exact zbf_z (by decide) q
      · rw [zbf_n (.inr ⟨by decide, q⟩)]
        exact (x6 p).1
    · have k := c1 z
      exact ⟨zIh_e x1 (fun j _ _ => k _ _ (by omega) (by omega)) (fun j => k _ _ (by omega) (by omega)) on, zIh_e x2 (fun j _ _ => k _ _ (by omega) (by omega)) (fun j => k _ _ (by omega) (by omega)) on, by rw [k (38 + 5 * s) 3 (by omega) (by omega)]; exact x3, by rw [k (38 + 5 * s) 2 (by omega) (by omega)]; exact x4, by rw [k (38 + 5 * s) 2 (by omega) (by omega), k (39 + 5 * s) 4 (by omega) (by omega), k (41 + 5 * s) 4 (by omega) (by omega)]; exact x5, by rw [k (38 + 5 * s) 3 (by omega) (by omega), k (41 + 5 * s) 1 (by omega) (by omega), k (41 + 5 * s) 4 (by omega) (by omega), k (41 + 5 * s) 5 (by omega) (by omega)]; exact x6⟩
  · have d36 : ∀ j, M 36 j = F 36 j := fun j => ML 36 j (by decide) (by omega)
    have d37 : ∀ j, M 37 j = F 37 j := fun j => ML 37 j (by decide) (by omega)
    rw [d36, d36, d36, zms_e d37, zma_e d37]
    obtain ⟨b1, b2, b3, b4, b5⟩ := ic.2.1
    exact ⟨b1, b2, b3, b4, fun k p1 p2 => by rw [d37]; exact b5 k p1 p2⟩
  · rw [on, ML 34 5 (by decide) (by omega), ML 34 6 (by decide) (by omega), ML 34 7 (by decide) (by omega), ML 34 8 (by decide) (by omega)]
    exact ic.2.2.1
  · rw [on, ML 5 7 (by decide) (by omega), ML 36 1 (by decide) (by omega)]
    exact ic.2.2.2
  · obtain ⟨c1, c2, c3⟩ := SC s q1 q2
    obtain ⟨n1, n2, n3⟩ := SM s q1 q2
    have Q := rq s q1 q2
    by_cases z : F 96 s = x
    · obtain ⟨k1, k2, k3⟩ := c2 ((tk s q1 q2).2 z)
      obtain ⟨l1, l2, l3⟩ := n2 z
      obtain ⟨z1, z2, z3, z4, z5, z6, z7, z8⟩ := Q
      have v0 := n3 (118 + s) 0 (.inr rfl)
      have v1 := n3 (118 + s) 1 (.inr rfl)
      have u0 := n3 (114 + s) 0 (.inl rfl)
      have u1 := n3 (114 + s) 1 (.inl rfl)
      have h98 : (F 34 4 = 1 → M 98 s = 0) ∧ (F 34 4 ≠ 1 → M 98 s = F 98 s) := ⟨fun y => by rw [l3, if_pos (by omega)], fun y => by rw [l3, if_neg (by omega)]⟩
      have o01 := ic.2.2.1.1
      unfold zRq
      rw [k1, l1, l2, on, k2 4, k2 5, k2 6, k2 1, k3 4, k3 5, k3 6, k3 1, zbf_45 (.inl rfl), zbf_45 (.inr rfl), zbf_45 (.inl rfl), zbf_45 (.inr rfl), zbf_n (j := 6) (.inl (by decide)), zbf_n (j := 6) (.inl (by decide)), c3 (38 + 5 * s) 3 (.inl ⟨rfl, by decide⟩), MH (110 + s) 0 (by omega) (by omega), MH (110 + s) 1 (by omega) (by omega)]
      refine ⟨.inl ⟨rfl, rfl⟩, ?_, ⟨by omega, by omega⟩, ⟨by omega, by omega⟩, fun y => ⟨rfl, rfl, rfl, rfl, (z5 y).2.2.2.2.1, (z5 y).2.2.2.2.2.1, ⟨fun _ => rfl, fun _ => rfl⟩, by decide⟩, fun y => ?_, fun p => ?_, fun p => ?_⟩
      · rcases o01 with y | y
        · rw [h98.2 (by omega)]; exact z2
        · rw [h98.1 y]; decide
      · rw [h98.1 y]
        exact ⟨rfl, fun _ => rfl, fun q => absurd q (by decide), fun _ => ⟨rfl, rfl⟩, fun _ => ⟨rfl, rfl⟩, fun q => absurd q (by decide), fun q => absurd q (by decide)⟩
      · have y : F 34 4 ≠ 1 := fun y => by rw [h98.1 y] at p; exact absurd p (by decide)
        rw [h98.2 y] at p
        obtain ⟨a1, a2, a3, a4⟩ := z7 p
        rw [h98.2 y, zbf_n (.inr ⟨by decide, fun q => y q.1⟩)]
        exact ⟨a1, a2, fun k p1 p2 => by rw [MH (101 + 3 * s) k (by omega) (by omega), c3 (40 + 5 * s) k (.inr (.inl rfl))]; exact a3 k p1 p2, a4⟩
      · have y : F 34 4 ≠ 1 := fun y => by rw [h98.1 y] at p; exact absurd p (by decide)
        rw [h98.2 y] at p
        obtain ⟨a1, a2, a3⟩ := z8 p
        rw [zbf_n (.inr ⟨by decide, fun q => y q.1⟩)]
        exact ⟨a1, a2, fun k p1 p2 => by rw [MH (102 + 3 * s) k (by omega) (by omega), c3 (42 + 5 * s) k (.inr (.inr rfl))]; exact a3 k p1 p2⟩
    · have k := c1 (fun y => z ((tk s q1 q2).1 y))
      have l := n1 z
      exact zRq_e Q on (l _ _ (by omega)) (l _ _ (by omega)) (l _ _ (by omega)) (fun r j p => k r j p.1 p.2) (fun r j p => by
        rcases p with p | p | p | p | p
        · exact MH _ _ (by omega) (by omega)
        · exact l _ _ (by omega)
        · exact l _ _ (by omega)
        · exact MH _ _ (by omega) (by omega)
        · exact MH _ _ (by omega) (by omega))
  · obtain ⟨c1, c2, c3⟩ := SC s q1 q2
    have f := w4 s q1 q2
    by_cases z : F (38 + 5 * s) 2 = 15 + 2 * x
    · rw [(c2 z).1]
      omega
    · rw [c1 z (38 + 5 * s) 2 (by omega) (by omega)]
      exact f
  · obtain ⟨s, hs, hy⟩ : ∃ s : Int, (0 ≤ s ∧ s < 3) ∧ (y = 39 + 5 * s ∨ y = 41 + 5 * s) := ⟨(y - 38) / 5, by omega⟩
    obtain ⟨c1, c2, c3⟩ := SC s hs.1 hs.2
    by_cases z : F (38 + 5 * s) 2 = 15 + 2 * x
    · obtain ⟨k1, k2, k3⟩ := c2 z
      exfalso
      rcases hy with h | h
      · rw [h, k2 5, zbf_45 (.inr rfl)] at p
        exact absurd p (by decide)
      · rw [h, k3 5, zbf_45 (.inr rfl)] at p
        exact absurd p (by decide)
    · have k := c1 z
      rw [k y 5 (by omega) (by omega)] at p
      rw [k y 1 (by omega) (by omega)]
      exact H y q p
/-- the reference's cells ahead of a round's end, out of what the round keeps -/
theorem zQz_Mr {F M B : zm_D} {t : Int} (I : zIn t F) (ht : t < 600) (RU : zRu F) (Q : zQz 0 F M) (h4 : M 34 4 = 1) (h : ∀ r j : Int, 60 < r → r ≤ 159 → B r j = M r j) : zMr 80000000 B := by
  have it := I.1
  have t0 := I.2.2.2.2.1 0 (by decide) (by decide)
  simp only [Int.add_zero] at t0
  obtain ⟨k, Mo, -, ⟨-, V2, -⟩, -, is, ic, rs, rd, rq⟩ := Q
  have u0 := (Mo.2.2 0 (by decide) (by decide)).1
  simp only [Int.add_zero] at u0
  have ru2 : M 91 2 = M 34 7 ∧ M 91 3 = M 34 8 := by
    unfold zRu at RU
    rw [k 91 2 (by decide) (by decide) (by unfold zTo; omega), k 91 3 (by decide) (by decide) (by unfold zTo; omega), k 34 7 (by decide) (by decide) (by unfold zTo; omega), k 34 8 (by decide) (by decide) (by unfold zTo; omega)]
    exact RU.2.2
  obtain ⟨⟨s1, s2, s3⟩, s4, -⟩ := rs
  obtain ⟨d1, d2⟩ := rd
  have r8 := ic.2.2.1
  have sh := is.1.1
  have dl := ic.2.1
  refine ⟨⟨by rw [h _ _ (by decide) (by decide)]; omega, fun k q1 q2 => ?_, ⟨by rw [h _ _ (by decide) (by decide)]; omega, fun k q1 q2 => ?_⟩, by rw [h _ _ (by decide) (by decide)]; omega, by rw [h _ _ (by decide) (by decide)]; omega⟩, fun s q1 q2 => ?_, ⟨by rw [h _ _ (by decide) (by decide)]; omega, by rw [h _ _ (by decide) (by decide)]; omega⟩⟩
  · rw [h _ _ (by decide) (by decide)] at q2
    rw [h _ _ (by decide) (by decide), s4 k q1 (by omega)]
    exact is.1.2 _ (by omega) (by omega)
  · rw [h _ _ (by decide) (by decide)] at q2
    rw [h _ _ (by decide) (by decide), d2 k q1 (by omega)]
    exact dl.2.2.2.2 k q1 (by omega)
  · obtain ⟨z1, z2, z3, z4, -, z6, z7, z8⟩ := (rq s q1 q2).1
    have z6 := z6 h4
    have ci := ic.1 s q1 q2
    have y1 := ci.1.1
    have y2 := ci.2.1.1
    unfold zMw zMs zCd
    rw [h 98 s (by decide) (by decide), h (118 + s) 0 (by omega) (by omega), h (118 + s) 1 (by omega) (by omega), h (114 + s) 0 (by omega) (by omega), h (114 + s) 1 (by omega) (by omega), h (110 + s) 0 (by omega) (by omega), h (110 + s) 1 (by omega) (by omega), h 96 s (by decide) (by decide)]
    refine ⟨⟨z2, z3⟩, ⟨by omega, by omega⟩, fun p => ?_, fun p => ?_, fun p => ?_⟩
    · have a := z7 (by omega)
      refine ⟨by omega, fun k p1 p2 => ?_⟩
      rw [h _ _ (by omega) (by omega), a.2.2.1 k p1 p2]
      exact ci.1.2.2.2.2.2.2.2.2 k p1 (by omega)
    · have a := z8 (by omega)
      refine ⟨by omega, fun k p1 p2 => ?_⟩
      rw [h _ _ (by omega) (by omega), a.2.2 k p1 p2]
      exact ci.2.1.2.2.2.2.2.2.2.2 k p1 (by omega)
    · have := z6.2.2.1 p
      have := z1
      omega
