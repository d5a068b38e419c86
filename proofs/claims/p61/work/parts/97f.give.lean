/-! ===== STEPS: a card is given ===== -/
set_option maxRecDepth 65536
def zF1 (G a b v : Int) : Prop := v = if 21 < G then a else b
def zF2 (G a b v : Int) : Prop := v = if G < 21 then a else b
def zF3 (G a b c v : Int) : Prop := v = if 21 < G then a else if G = 21 then b else c
theorem zF1_u {G a b v : Int} (H : zF1 G a b v) : v = if 21 < G then a else b := H
theorem zF2_u {G a b v : Int} (H : zF2 G a b v) : v = if G < 21 then a else b := H
theorem zF3_u {G a b c v : Int} (H : zF3 G a b c v) : v = if 21 < G then a else if G = 21 then b else c := H
/-- a hand that plays, or stands -/
def zSel (a b : Int) : Prop := (a = 1 ∧ b = 1) ∨ (a = 0 ∧ b = 2)
theorem zSel_u {a b : Int} (H : zSel a b) : (a = 1 ∧ b = 1) ∨ (a = 0 ∧ b = 2) := H
/-- what a given card changes: hand k of seat x, h its cell, c its cards, r the reference's row; v the card, G the value then -/
def zGvS (x k h c r v G : Int) (N M : zm_D) : Prop := (∀ a j : Int, 1 ≤ a → a ≤ 60 → (a ≠ 5 ∨ j ≠ 4) → a ≠ 8 → a ≠ h → a ≠ c → (a ≠ 31 ∨ j ≠ 1) → M a j = N a j) ∧ (∀ a j : Int, (a = 5 ∨ a = 6 ∨ a = 8 ∨ a = 9) → M a j = ztk N a j) ∧ (M h 1 = N h 1 + 1 ∧ M h 2 = N h 2 + v ∧ M h 3 = zor (N h 3) v ∧ ∀ j : Int, M c j = if j = N h 1 then v else N c j) ∧ (zF1 G 0 (N h 4) (M h 4) ∧ zF2 G (N h 5) 0 (M h 5) ∧ (0 ≤ M h 6 ∧ M h 6 ≤ 1) ∧ zF1 G (N 31 1 + N h 4) (N 31 1) (M 31 1)) ∧ (∀ a j : Int, 60 < a → a ≤ 159 → (a ≠ 61 ∨ j ≠ 35) → a ≠ 92 → a ≠ r → (a ≠ 110 + x ∨ j ≠ k) → (a ≠ 118 + x ∨ j ≠ k) → (a ≠ 88 ∨ j ≠ 0) → (a ≠ 114 + x ∨ j ≠ k) → M a j = N a j) ∧ (M 61 35 = N 61 35 - 1 ∧ (∀ j : Int, 0 ≤ j → j < N 61 35 - 1 → M 92 j = N 92 (j + 1)) ∧ (∀ j : Int, M r j = if j = N (110 + x) k then v else N r j) ∧ M (110 + x) k = N (110 + x) k + 1) ∧ (zF3 G 3 2 (N (118 + x) k) (M (118 + x) k) ∧ zF1 G 0 (N (114 + x) k) (M (114 + x) k) ∧ zF1 G (N 88 0 + N (114 + x) k) (N 88 0) (M 88 0))
theorem zGiv_c {e N M : zm_D} {x k v G : Int} (hx : 0 ≤ x ∧ x < 3) (hk : k = 0 ∨ k = 1) (Q : zQz 0 e N) (h4 : N 34 4 = 1) (hl : N 5 4 < N 5 5) (h98 : k < N 98 x) (h5 : zSel (N (39 + 5 * x + 2 * k) 5) (N (118 + x) k)) (hp : 0 < N (39 + 5 * x + 2 * k) 4) (hv : zhv (N (39 + 5 * x + 2 * k) 3) (N (39 + 5 * x + 2 * k) 2) < 21) (ht : N 31 1 + N (39 + 5 * x + 2 * k) 4 ≤ e 31 1 + 5000) (h92 : v = N 6 (N 5 4)) (hG : G = zhv (zor (N (39 + 5 * x + 2 * k) 3) v) (N (39 + 5 * x + 2 * k) 2 + v)) (S : zGvS x k (39 + 5 * x + 2 * k) (40 + 5 * x + 2 * k) (101 + 3 * x + k) v G N M) : zQz 0 e M := by
  obtain ⟨kk, Mo, St, ⟨V1, V2, V3⟩, b38, qs, qc, rs2, rd2, rq2⟩ := Q
  obtain ⟨S1, S2, ⟨S31, S32, S33, S3c⟩, ⟨S44, S45, S46, St31⟩, S5, ⟨S61, S62, S63, S64⟩, ⟨S71, S72, S73⟩⟩ := S
  obtain ⟨h, hh⟩ : ∃ h, 39 + 5 * x + 2 * k = h := ⟨_, rfl⟩
  obtain ⟨c, hc⟩ : ∃ c, 40 + 5 * x + 2 * k = c := ⟨_, rfl⟩
  obtain ⟨r, hr⟩ : ∃ r, 101 + 3 * x + k = r := ⟨_, rfl⟩
  rw [hh] at h5 hp hv ht hG S1 S31 S32 S33 S3c S44 S45 S46 St31
  rw [hc] at S1 S3c
  rw [hr] at S5 S63
  have vb := qs.1.2 (N 5 4) (by omega) hl
  rw [← h92] at vb
  have d34 : M 34 4 = 1 := by rw [S1 34 4 (by omega) (by omega) (by omega) (by omega) (by omega) (by omega) (by omega)]; exact h4
  -- the hand's own facts
  have HI : zIh (N 34 4) N h c := by
    have z := qc.1 x hx.1 hx.2
    rcases hk with q | q
    · subst q
      rw [← hh, ← hc]
      simp only [Int.mul_zero, Int.add_zero]
      exact z.1
    · subst q
      rw [← hh, ← hc, show 39 + 5 * x + 2 * 1 = 41 + 5 * x by omega, show 40 + 5 * x + 2 * 1 = 42 + 5 * x by omega]
      exact z.2.1
  have HR : N h 4 = N (114 + x) k ∧ N (110 + x) k = N h 1 ∧ 1 ≤ N h 1 ∧ (∀ j : Int, 0 ≤ j → j < N h 1 → N r j = N c j) := by
    obtain ⟨-, -, -, -, -, on, k1, k2⟩ := (rq2 x hx.1 hx.2).1
    obtain ⟨-, -, -, -, -, o6, o7⟩ := on h4
    rcases hk with q | q
    · subst q
      have a := k1 (by omega)
      have b := o6 (by omega)
      rw [← hh, ← hc, ← hr]
      simp only [Int.mul_zero, Int.add_zero]
      rw [a.1] at a
      exact ⟨b.1, by omega, a.2.1, a.2.2.1⟩
    · subst q
      have q2 := (rq2 x hx.1 hx.2).1.2.1
      have a := k2 (by omega)
      have b := o7 (by omega)
      rw [← hh, ← hc, ← hr, show 39 + 5 * x + 2 * 1 = 41 + 5 * x by omega, show 40 + 5 * x + 2 * 1 = 42 + 5 * x by omega, show 101 + 3 * x + 1 = 102 + 3 * x by omega]
      rw [a.1] at a
      exact ⟨b.1, by omega, a.2.1, a.2.2⟩
  have hh2 : 39 ≤ h ∧ h ≤ 51 ∧ c = h + 1 := by omega
  have hr2 : 101 ≤ r ∧ r ≤ 108 := by omega
  have SL : ∀ a j : Int, (1 ≤ a ∧ a ≤ 38 ∧ (a ≠ 5 ∨ j ≠ 4) ∧ a ≠ 8 ∧ (a ≠ 31 ∨ j ≠ 1)) → M a j = N a j := fun a j q => S1 a j (by omega) (by omega) (by omega) (by omega) (by omega) (by omega) (by omega)
  have SH : ∀ i j : Int, 0 ≤ i → i < 3 → M (38 + 5 * i) j = N (38 + 5 * i) j := fun i j q1 q2 => S1 (38 + 5 * i) j (by omega) (by omega) (by omega) (by omega) (by omega) (by omega) (by omega)
  have SX : ∀ s a j : Int, 0 ≤ s → s < 3 → s ≠ x → (38 + 5 * s ≤ a ∧ a ≤ 42 + 5 * s) → M a j = N a j := fun s a j q1 q2 q3 q4 => S1 a j (by omega) (by omega) (by omega) (by omega) (by omega) (by omega) (by omega)
  have SB : ∀ a j : Int, (60 < a ∧ a ≤ 100 ∧ (a ≠ 61 ∨ j ≠ 35) ∧ a ≠ 92 ∧ (a ≠ 88 ∨ j ≠ 0)) → M a j = N a j := fun a j q => S5 a j (by omega) (by omega) (by omega) (by omega) (by omega) (by omega) (by omega) (by omega) (by omega)
  have SY : ∀ s a j : Int, 0 ≤ s → s < 3 → s ≠ x → (a = 110 + s ∨ a = 114 + s ∨ a = 118 + s ∨ a = 101 + 3 * s ∨ a = 102 + 3 * s) → M a j = N a j := fun s a j q1 q2 q3 q4 => S5 a j (by omega) (by omega) (by omega) (by omega) (by omega) (by omega) (by omega) (by omega) (by omega)
  obtain ⟨y1, y2, y3, y4, y5, y6, y7, ⟨y8, y9⟩, y10⟩ := HI
  obtain ⟨w1, w2, w3, w4⟩ := HR
  have s20 := (@zhv_r (N h 3) (N h 2)).1
  obtain ⟨n, hn⟩ : ∃ n : Nat, N h 1 = (n : Int) := ⟨(N h 1).toNat, by omega⟩
  rw [hn, Int.toNat_natCast] at y8 y9
  have zz := @zms_x N M c c n (fun j q1 q2 => by rw [S3c, if_neg (by omega)])
  have HI2 : zIh (M 34 4) M h c := by
    unfold zIh
    rw [S31, S32, S33, zF1_u S44, zF2_u S45, d34]
    refine ⟨by omega, by omega, zor_b, by split <;> omega, by split <;> omega, S46, fun p => ?_, ⟨?_, ?_⟩, fun j q1 q2 => ?_⟩
    · have g : G < 21 := by
        refine Classical.byContradiction fun z => ?_
        rw [if_neg z] at p
        exact absurd p (by decide)
      rw [if_pos g] at p
      rw [if_neg (by omega), ← hG]
      have z := y7 p
      exact ⟨rfl, z.2.1, z.2.2.1, by omega, g⟩
    · rw [hn, show ((n : Int) + 1).toNat = n + 1 by omega]
      show _ = zms M c n + M c (n : Int)
      rw [zz.1, S3c, if_pos hn.symm, y8]
    · rw [hn, show ((n : Int) + 1).toNat = n + 1 by omega]
      show _ = (if zma M c n = 1 ∨ M c (n : Int) = 1 then (1 : Int) else 0)
      rw [zz.2, S3c, if_pos hn.symm, ← y9]
      unfold zor
      split <;> split <;> omega
    · rw [S3c]
      split
      · exact vb
      · exact y10 j q1 (by omega)
  clear y1 y2 y3 y4 y5 y6 y7 y8 y9 y10 zz s20 vb
  have other : ∀ h2 c2 : Int, 39 ≤ h2 → h2 ≤ 51 → 39 ≤ c2 → c2 ≤ 52 → h2 ≠ h → h2 ≠ c → c2 ≠ h → c2 ≠ c → zIh (N 34 4) N h2 c2 → zIh (M 34 4) M h2 c2 := fun h2 c2 q1 q2 q3 q4 q5 q6 q7 q8 H => zIh_e H (fun j _ _ => S1 h2 j (by omega) (by omega) (by omega) (by omega) (by omega) (by omega) (by omega)) (fun j => S1 c2 j (by omega) (by omega) (by omega) (by omega) (by omega) (by omega) (by omega)) (by rw [d34, h4])
  refine ⟨fun a j q1 q2 q3 => ?_, ?_, fun i q1 q2 => ?_, ⟨?_, ?_, fun i q1 q2 => ?_⟩, ?_, ?_, ?_, ?_, ?_, fun s q1 q2 => ⟨?_, ?_⟩⟩
  · rw [← kk a j q1 q2 q3]
    unfold zTo at q3
    by_cases q : a ≤ 60
    · exact S1 a j q1 q (by omega) (by omega) (by omega) (by omega) (by omega)
    · exact S5 a j (by omega) q2 (by omega) (by omega) (by omega) (by omega) (by omega) (by omega) (by omega)
  · by_cases g : 21 < G
    · replace St31 := zF1_u St31
      replace S73 := zF1_u S73
      rw [if_pos g] at St31 S73
      refine zMon_e (zMon_get (t := 0) (s := N h 4) Mo (by decide)) ?_ (fun i p1 p2 => ?_) (fun i j p1 p2 p3 => ?_) ?_ (fun i p1 p2 => ?_) (fun i j p1 p2 p3 => ?_)
      · rw [zm_un (by omega), SL 4 0 (by first | decide | omega)]
      · rw [zm_un (by omega), SL (15 + 2 * i) 2 (by omega)]
      · by_cases p : i = 0 ∧ j = 1
        · rw [p.1, p.2, zm_ue rfl rfl]
          simp only [Int.add_zero]
          exact St31
        · rw [zm_un (by omega), SL (31 + i) j (by omega)]
      · rw [zm_un (by omega), SB 61 32 (by first | decide | omega)]
      · rw [zm_un (by omega), SB 63 i (by first | decide | omega)]
      · by_cases p : i = 88 ∧ j = 0
        · rw [p.1, p.2, zm_ue rfl rfl, w1]
          exact S73
        · rw [zm_un (by omega), SB i j (by omega)]
    · replace St31 := zF1_u St31
      replace S73 := zF1_u S73
      rw [if_neg g] at St31 S73
      refine zMon_e Mo (SL 4 0 (by first | decide | omega)) (fun i p1 p2 => SL (15 + 2 * i) 2 (by omega)) (fun i j p1 p2 p3 => ?_) (SB 61 32 (by first | decide | omega)) (fun i p1 p2 => SB 63 i (by first | decide | omega)) (fun i j p1 p2 p3 => ?_)
      · by_cases p : i = 0 ∧ j = 1
        · rw [p.1, p.2]
          simp only [Int.add_zero]
          exact St31
        · exact SL (31 + i) j (by omega)
      · by_cases p : i = 88 ∧ j = 0
        · rw [p.1, p.2]
          exact S73
        · exact SB i j (by omega)
  · rw [SL (15 + 2 * i) 5 (by omega), SB 64 i (by first | decide | omega)]
    exact St i q1 q2
  · rw [SL 4 0 (by first | decide | omega)]
    exact V1
  · rw [zF1_u St31]
    split <;> omega
  · rw [SL (15 + 2 * i) 2 (by omega)]
    exact V3 i q1 q2
  · rw [SL 34 9 (by first | decide | omega), SB 61 38 (by first | decide | omega)]
    exact b38
  · exact zIs_e (zIs_tk qs hl) (fun a j q => S2 a j q)
  · obtain ⟨s, ⟨b1, b2, b3, ⟨b4, b5⟩, b6⟩, c1, f⟩ := qc
    have d36 : ∀ j, M 36 j = N 36 j := fun j => SL 36 j (by first | decide | omega)
    have d37 : ∀ j, M 37 j = N 37 j := fun j => SL 37 j (by first | decide | omega)
    refine ⟨fun i q1 q2 => ?_, ⟨by rw [d36, d36]; exact b1, by rw [d36]; exact b2, by rw [d36]; exact b3, ⟨by rw [d36, d36, zms_e d37]; exact b4, by rw [d36, d36, zma_e d37]; exact b5⟩, fun j p1 p2 => by rw [d36] at p2; rw [d37]; exact b6 j p1 p2⟩, ?_, fun _ => ?_⟩
    · obtain ⟨x1, x2, x3, x4, x5, x6⟩ := s i q1 q2
      have e38 : ∀ j, M (38 + 5 * i) j = N (38 + 5 * i) j := fun j => SH i j q1 q2
      refine ⟨?_, ?_, by rw [e38]; exact x3, by rw [e38]; exact x4, fun p => ?_, fun p => ?_⟩
      · by_cases q : 39 + 5 * i = h
        · rw [show 40 + 5 * i = c by omega, q]
          exact HI2
        · exact other _ _ (by omega) (by omega) (by omega) (by omega) q (by omega) (by omega) (by omega) x1
      · by_cases q : 41 + 5 * i = h
        · rw [show 42 + 5 * i = c by omega, q]
          exact HI2
        · exact other _ _ (by omega) (by omega) (by omega) (by omega) q (by omega) (by omega) (by omega) x2
      · rw [e38] at p
        have z := x5 p
        have ni : i ≠ x := fun z2 => by
          subst z2
          rcases hk with q | q <;> subst q <;> rw [← hh] at hp
          · simp only [Int.mul_zero, Int.add_zero] at hp; omega
          · rw [show 39 + 5 * i + 2 * 1 = 41 + 5 * i by omega] at hp; omega
        rw [SX i (39 + 5 * i) 4 q1 q2 ni (by omega), SX i (41 + 5 * i) 4 q1 q2 ni (by omega)]
        exact z
      · rw [e38] at p
        have z := x6 p
        by_cases q : 41 + 5 * i = h
        · rw [← q] at hp
          omega
        · rw [S1 (41 + 5 * i) 1 (by omega) (by omega) (by omega) (by omega) q (by omega) (by omega), S1 (41 + 5 * i) 4 (by omega) (by omega) (by omega) (by omega) q (by omega) (by omega), S1 (41 + 5 * i) 5 (by omega) (by omega) (by omega) (by omega) q (by omega) (by omega)]
          exact z
    · rw [d34, SL 34 5 (by first | decide | omega), SL 34 6 (by first | decide | omega), SL 34 7 (by first | decide | omega), SL 34 8 (by first | decide | omega)]
      exact ⟨.inr rfl, c1.2⟩
    · rw [SL 5 7 (by first | decide | omega), d36]
      exact f h4
  · obtain ⟨⟨a1, a2, a3⟩, b, c1, f, g⟩ := rs2
    have m5 : ∀ j, j ≠ 4 → M 5 j = N 5 j := fun j q => SL 5 j (by first | decide | omega)
    have m4 : M 5 4 = N 5 4 + 1 := by rw [S2 5 4 (by omega), ztk_4]
    refine ⟨⟨by rw [SB 61 34 (by first | decide | omega), m5 6 (by omega)]; exact a1, by rw [S61, m5 5 (by omega), m4]; omega, by rw [SB 61 37 (by first | decide | omega), d34, ← h4]; exact a3⟩, fun j q1 q2 => ?_, fun i q1 q2 => ?_, fun p => by omega, fun _ => ?_⟩
    · rw [m5 5 (by omega), m4] at q2
      rw [S62 j q1 (by omega), b (j + 1) (by omega) (by omega), m4, SL 6 _ (by first | decide | omega), show N 5 4 + (j + 1) = N 5 4 + 1 + j by omega]
    · rw [SB 95 i (by first | decide | omega), SL 9 i (by first | decide | omega)]
      exact c1 i q1 q2
    · rw [SL 37 1 (by first | decide | omega), m5 7 (by omega)]
      exact g h4
  · exact zRd_e rd2 (SB 61 36 (by first | decide | omega)) (fun a j q => by
      by_cases z : a = 121
      · exact S5 a j (by omega) (by omega) (by omega) (by omega) (by omega) (by omega) (by omega) (by omega) (by omega)
      · exact SL a j (by omega))
  · by_cases q : s = x
    · subst q
      obtain ⟨z1, z2, z3, z4, z5, z6, z7, z8⟩ := (rq2 s q1 q2).1
      obtain ⟨o1, o2, o3, o4, o5, o6, o7⟩ := z6 h4
      have o6 := o6 (by omega)
      have z7 := z7 (by omega)
      have e38 : ∀ j, M (38 + 5 * s) j = N (38 + 5 * s) j := fun j => SH s j q1 q2
      have e96 : M 96 s = N 96 s := SB 96 s (by first | decide | omega)
      have e97 : M 97 s = N 97 s := SB 97 s (by first | decide | omega)
      have e98 : M 98 s = N 98 s := SB 98 s (by first | decide | omega)
      rcases hk with q | q
      · subst q
        simp only [Int.mul_zero, Int.add_zero] at hh hc hr
        subst hh hc hr
        have f41 : ∀ j, M (41 + 5 * s) j = N (41 + 5 * s) j := fun j => S1 (41 + 5 * s) j (by omega) (by omega) (by omega) (by omega) (by omega) (by omega) (by omega)
        have f42 : ∀ j, M (42 + 5 * s) j = N (42 + 5 * s) j := fun j => S1 (42 + 5 * s) j (by omega) (by omega) (by omega) (by omega) (by omega) (by omega) (by omega)
        have f102 : ∀ j, M (102 + 3 * s) j = N (102 + 3 * s) j := fun j => S5 (102 + 3 * s) j (by omega) (by omega) (by omega) (by omega) (by omega) (by omega) (by omega) (by omega) (by omega)
        have fo : ∀ a, (a = 110 + s ∨ a = 114 + s ∨ a = 118 + s) → M a 1 = N a 1 := fun a q => S5 a 1 (by omega) (by omega) (by omega) (by omega) (by omega) (by omega) (by omega) (by omega) (by omega)
        unfold zRq
        rw [e38, e38, e96, e97, e98, d34, f41, f41, f41, f41, fo (110 + s) (by omega), fo (114 + s) (by omega), fo (118 + s) (by omega), zF3_u S71, zF1_u S72, zF1_u S44, zF2_u S45, S64, S31]
        refine ⟨z1, z2, ⟨?_, z3.2⟩, ⟨?_, z4.2⟩, fun p => absurd p (by decide), fun _ => ⟨o1, o2, o3, o4, fun p => by omega, fun _ => ⟨?_, ?_⟩, o7⟩, fun _ => ⟨by omega, by omega, fun j r1 r2 => ?_, z7.2.2.2⟩, fun p => ?_⟩
        · split
          · decide
          · split
            · decide
            · exact z3.1
        · split
          · decide
          · exact z4.1
        · split
          · rfl
          · exact o6.1
        · by_cases g : 21 < G
          · rw [if_neg (show ¬ G < 21 by omega), if_pos g, if_pos g]
            exact .inr (.inr ⟨rfl, rfl, rfl⟩)
          · rw [if_neg g, if_neg g]
            by_cases g2 : G = 21
            · rw [if_neg (by omega), if_pos g2]
              exact .inr (.inl ⟨rfl, rfl, by omega⟩)
            · have h5 := zSel_u h5
              rw [if_pos (by omega), if_neg g2]
              omega
        · rw [S63, S3c, w2]
          by_cases g : j = N (39 + 5 * s) 1
          · rw [if_pos g, if_pos g]
          · rw [if_neg g, if_neg g]
            exact w4 j r1 (by omega)
        · obtain ⟨n1, n2, n3⟩ := z8 p
          exact ⟨n1, n2, fun j r1 r2 => by rw [f102, f42]; exact n3 j r1 r2⟩
      · subst q
        have hs2 : N 98 s = 2 := by omega
        rw [show 39 + 5 * s + 2 * 1 = 41 + 5 * s by omega] at hh
        rw [show 40 + 5 * s + 2 * 1 = 42 + 5 * s by omega] at hc
        rw [show 101 + 3 * s + 1 = 102 + 3 * s by omega] at hr
        subst hh hc hr
        have z8 := z8 hs2
        have o7 := o7 hs2
        have f39 : ∀ j, M (39 + 5 * s) j = N (39 + 5 * s) j := fun j => S1 (39 + 5 * s) j (by omega) (by omega) (by omega) (by omega) (by omega) (by omega) (by omega)
        have f40 : ∀ j, M (40 + 5 * s) j = N (40 + 5 * s) j := fun j => S1 (40 + 5 * s) j (by omega) (by omega) (by omega) (by omega) (by omega) (by omega) (by omega)
        have f101 : ∀ j, M (101 + 3 * s) j = N (101 + 3 * s) j := fun j => S5 (101 + 3 * s) j (by omega) (by omega) (by omega) (by omega) (by omega) (by omega) (by omega) (by omega) (by omega)
        have fo : ∀ a, (a = 110 + s ∨ a = 114 + s ∨ a = 118 + s) → M a 0 = N a 0 := fun a q => S5 a 0 (by omega) (by omega) (by omega) (by omega) (by omega) (by omega) (by omega) (by omega) (by omega)
        unfold zRq
        rw [e38, e38, e96, e97, e98, d34, f39, f39, f39, f39, fo (110 + s) (by omega), fo (114 + s) (by omega), fo (118 + s) (by omega), zF3_u S71, zF1_u S72, zF1_u S44, zF2_u S45, S64, S31]
        refine ⟨z1, z2, ⟨z3.1, ?_⟩, ⟨z4.1, ?_⟩, fun p => absurd p (by decide), fun _ => ⟨o1, o2, o3, fun p => by omega, o5, fun _ => o6, fun _ => ⟨?_, ?_⟩⟩, fun _ => ⟨z7.1, z7.2.1, fun j r1 r2 => by rw [f101, f40]; exact z7.2.2.1 j r1 r2, z7.2.2.2⟩, fun p => ⟨by omega, by omega, fun j r1 r2 => ?_⟩⟩
        · split
          · decide
          · split
            · decide
            · exact z3.2
        · split
          · decide
          · exact z4.2
        · split
          · rfl
          · exact o7.1
        · by_cases g : 21 < G
          · rw [if_neg (show ¬ G < 21 by omega), if_pos g, if_pos g]
            exact .inr (.inr ⟨rfl, rfl, rfl⟩)
          · rw [if_neg g, if_neg g]
            by_cases g2 : G = 21
            · rw [if_neg (by omega), if_pos g2]
              exact .inr (.inl ⟨rfl, rfl, by omega⟩)
            · have h5 := zSel_u h5
              rw [if_pos (by omega), if_neg g2]
              omega
        · rw [S63, S3c, w2]
          by_cases g : j = N (41 + 5 * s) 1
          · rw [if_pos g, if_pos g]
          · rw [if_neg g, if_neg g]
            exact w4 j r1 (by omega)
    · exact zRq_e (rq2 s q1 q2).1 (by rw [d34, h4]) (SB 96 s (by first | decide | omega)) (SB 97 s (by first | decide | omega)) (SB 98 s (by first | decide | omega)) (fun a j p => SX s a j q1 q2 q p) (fun a j p => SY s a j q1 q2 q p)
  · rw [SH s 2 q1 q2]
    exact (rq2 s q1 q2).2
