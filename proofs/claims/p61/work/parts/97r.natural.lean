/-! ===== STEPS: the dealer has a natural ===== -/
set_option maxRecDepth 65536
/-- a seat of which one hand of two cards waits, ahead of a settling against a natural -/
theorem zSp_n1 {N A B : zm_D} {s : Int} (hs : 0 ≤ s ∧ s < 3) (P : zSp 0 N N s) (h1 : N 98 s ≤ 1) (h2 : N 98 s = 1 → N (39 + 5 * s) 1 = 2 ∧ N (118 + s) 0 = 2 ∧ zhv (N (39 + 5 * s) 3) (N (39 + 5 * s) 2) ≤ 21) (h8 : B (118 + s) 0 = 1 ∨ B (118 + s) 0 = 2) (hA : ∀ r j : Int, 38 ≤ r → r ≤ 51 → A r j = N r j) (hB : ∀ r j : Int, 60 < r → r ≤ 159 → (r < 118 ∨ 120 < r ∨ j ≠ 0) → B r j = N r j) : zSp 1 A B s := by
  obtain ⟨p1, p2, p3, p4, p5⟩ := P
  have b98 : B 98 s = N 98 s := hB _ _ (by decide) (by decide) (by omega)
  unfold zSp
  rw [b98, hA (39 + 5 * s) 4 (by omega) (by omega), hA (41 + 5 * s) 4 (by omega) (by omega), hB 96 s (by decide) (by decide) (by omega), hA (38 + 5 * s) 2 (by omega) (by omega), hA (38 + 5 * s) 3 (by omega) (by omega)]
  refine ⟨p1, p2, p3, fun q => ?_, fun q => by omega⟩
  obtain ⟨r1, r2, r3⟩ := p4 q
  obtain ⟨x1, x2, x3, x4, -⟩ := r2
  obtain ⟨y1, y2, y3⟩ := h2 (by omega)
  refine ⟨r1, ?_, r3⟩
  unfold zSh1 zmv
  simp only [Int.mul_zero, Int.add_zero] at x1 x2 x3 x4 ⊢
  rw [hA (39 + 5 * s) 4 (by omega) (by omega), hA (39 + 5 * s) 1 (by omega) (by omega), hA (39 + 5 * s) 2 (by omega) (by omega), hA (39 + 5 * s) 3 (by omega) (by omega), hB (114 + s) 0 (by omega) (by omega) (by omega), hB (110 + s) 0 (by omega) (by omega) (by omega), zms_e (e := N) (fun k => hB (101 + 3 * s) k (by omega) (by omega) (by omega)), zma_e (e := N) (fun k => hB (101 + 3 * s) k (by omega) (by omega) (by omega))]
  unfold zmv at x4
  refine ⟨x1, .inl ⟨by omega, ?_⟩, x3, x4, fun _ => ⟨y1, y3⟩⟩
  rcases h8 with z | z
  · first | exact .inr ⟨rfl, z⟩ | exact .inr ⟨trivial, z⟩ | exact .inr z
  · exact .inl z
theorem zRnd_nat {e A B M d : zm_D} (hA : ∀ r j : Int, r ≤ 60 → M r j = A r j) (hB0 : ∀ r j : Int, 60 < r → r ≤ 159 → (r < 118 ∨ 120 < r ∨ j ≠ 0) → M r j = B r j) (h8 : ∀ s : Int, 0 ≤ s → s < 3 → (B (118 + s) 0 = 1 ∨ B (118 + s) 0 = 2) ∧ M 98 s ≤ 1 ∧ (M 98 s = 1 → M (39 + 5 * s) 1 = 2 ∧ M (118 + s) 0 = 2 ∧ zhv (M (39 + 5 * s) 3) (M (39 + 5 * s) 2) ≤ 21)) (RU : zRu e) (H19 : 0 ≤ e 1 9) (Q : zQz 0 e M) (h4 : M 34 4 = 1) (hn : znt (M 36 1) (M 36 3) (M 36 2) = 1) (hz : zst M < 0) (dA : ∀ r j : Int, r ≤ 60 → d r j = zfnd A r j) (dB : ∀ r j : Int, 60 < r → r ≤ 159 → d r j = zmsA B 1 r j) : zQz 1 e d ∧ d 34 4 = 0 := by
  obtain ⟨k, Mo, S, ⟨V1, V2, V3⟩, b38, qs, qc, rs2, rd2, rq2⟩ := Q
  have n0 := zst_0 hz
  have c57 := (qc.2.2.2 h4).1
  have c36 := (qc.2.2.2 h4).2
  have hB : ∀ r j : Int, 60 < r → (r ≤ 159 ∧ (r < 118 ∨ 120 < r ∨ j ≠ 0)) → M r j = B r j := fun r j p q => hB0 r j p q.1 q.2
  -- the hidden card is shown
  obtain ⟨A1, hA1⟩ : ∃ A1, zhw A = A1 := ⟨_, rfl⟩
  have A1o : ∀ r j : Int, r ≤ 60 → (r ≠ 5 ∨ j ≠ 7) → r ≠ 8 → A1 r j = M r j := fun r j p1 p2 p3 => by rw [← hA1, zhw_o p2 p3, hA r j p1]
  have A157 : A1 5 7 = 0 := by rw [← hA1]; exact zm_ue rfl rfl
  have qA : zIs A := zIs_e qs (fun r j _ => (hA r j (by omega)).symm)
  have qA1 : zIs A1 := by rw [← hA1]; exact zIs_hw qA (by rw [← hA 5 7 (by omega)]; exact c57)
  have DK : zDk A1 B := by
    obtain ⟨⟨s1, s2, s3⟩, s4, -⟩ := rs2
    obtain ⟨d1, d2⟩ := rd2
    obtain ⟨-, ⟨b1, b2, b3, b4, b5⟩, -, -⟩ := qc
    have ru : M 91 2 = M 34 7 := by
      rw [k 91 2 (by omega) (by omega) (by unfold zTo; omega), k 34 7 (by omega) (by omega) (by unfold zTo; omega)]
      exact RU.2.2.1
    refine ⟨⟨by rw [← hB _ _ (by omega) (by omega), A1o _ _ (by omega) (by omega) (by omega), A1o _ _ (by omega) (by omega) (by omega)]; exact s2, fun i p1 p2 => ?_⟩, ⟨by rw [← hB _ _ (by omega) (by omega), A1o _ _ (by omega) (by omega) (by omega)]; exact d1, fun i p1 p2 => ?_⟩, ⟨by rw [A1o _ _ (by omega) (by omega) (by omega), A1o _ _ (by omega) (by omega) (by omega)]; exact b1, by rw [A1o _ _ (by omega) (by omega) (by omega)]; exact b2, by rw [A1o _ _ (by omega) (by omega) (by omega)]; exact b3, ?_, fun i p1 p2 => ?_⟩, by rw [← hB _ _ (by omega) (by omega), A1o _ _ (by omega) (by omega) (by omega)]; exact ru, qA1⟩
    · rw [A1o _ _ (by omega) (by omega) (by omega), A1o _ _ (by omega) (by omega) (by omega)] at p2
      rw [← hB _ _ (by omega) (by omega), A1o 6 _ (by omega) (by omega) (by omega), A1o 5 4 (by omega) (by omega) (by omega)]
      exact s4 i p1 p2
    · rw [A1o _ _ (by omega) (by omega) (by omega)] at p2
      rw [← hB _ _ (by omega) (by omega), A1o 37 _ (by omega) (by omega) (by omega)]
      exact d2 i p1 p2
    · rw [A1o 36 2 (by omega) (by omega) (by omega), A1o 36 1 (by omega) (by omega) (by omega), A1o 36 3 (by omega) (by omega) (by omega), zms_e (fun j => A1o 37 j (by omega) (by omega) (by omega)), zma_e (fun j => A1o 37 j (by omega) (by omega) (by omega))]
      exact b4
    · rw [A1o _ _ (by omega) (by omega) (by omega)] at p2
      rw [A1o 37 _ (by omega) (by omega) (by omega)]
      exact b5 i p1 p2
  have P1 : ∀ s : Int, 0 ≤ s → s < 3 → zSp 1 A1 B s := fun s q1 q2 => zSp_n1 ⟨q1, q2⟩ (zRq_Sp (rq2 s q1 q2).1 h4 ⟨q1, q2⟩ qc (n0 s q1 q2).1 (n0 s q1 q2).2) (h8 s q1 q2).2.1 (h8 s q1 q2).2.2 (h8 s q1 q2).1 (fun r j _ _ => A1o _ _ (by omega) (by omega) (by omega)) (fun r j p1 p2 p3 => (hB r j p1 ⟨p2, p3⟩).symm)
  -- the dealer does not draw
  have nt1 : znt (A1 36 1) (A1 36 3) (A1 36 2) = 1 := by rw [A1o 36 1 (by omega) (by omega) (by omega), A1o 36 2 (by omega) (by omega) (by omega), A1o 36 3 (by omega) (by omega) (by omega)]; exact hn
  have vv := zDk_v DK
  have v21 : zhv (A1 36 3) (A1 36 2) = 21 := by
    unfold znt at nt1
    split at nt1
    · rename_i z; exact z.2
    · exact absurd nt1 (by decide)
  have A2A : zdd A1 = A1 := by
    unfold zdd
    split
    · refine zdra_f (f := 17) (fun z => ?_)
      have c := z.1
      unfold zdc zda at c
      rw [v21, if_neg (by omega)] at c
      exact absurd c (by decide)
    · rfl
  obtain ⟨A2, hA2⟩ : ∃ A2, A1 = A2 := ⟨_, rfl⟩
  obtain ⟨B2, hB2⟩ : ∃ B2, B = B2 := ⟨_, rfl⟩
  have DK2 : zDk A2 B2 := by rw [← hA2, ← hB2]; exact DK
  have A2o : ∀ r j : Int, (r ≠ 5 ∨ j ≠ 4) → r ≠ 8 → r ≠ 36 → r ≠ 37 → A2 r j = A1 r j := fun r j p1 p2 p3 p4 => by rw [← hA2]
  have B2o : ∀ r j : Int, (r ≠ 61 ∨ (j ≠ 35 ∧ j ≠ 36)) → r ≠ 92 → r ≠ 121 → B2 r j = B r j := fun r j p1 p2 p3 => by rw [← hB2]
  obtain ⟨v, hv⟩ : ∃ v, zmv B2 121 (B2 61 36) = v := ⟨_, rfl⟩
  rw [hB2, hv] at vv
  have A2m : ∀ r j : Int, r ≤ 60 → r ≠ 5 → r ≠ 8 → r ≠ 36 → r ≠ 37 → A2 r j = M r j := fun r j p0 p1 p2 p3 p4 => by rw [A2o r j (by omega) p2 p3 p4, A1o r j p0 (by omega) p2]
  have B2m : ∀ r j : Int, 60 < r → (r ≤ 159 ∧ (r < 118 ∨ 120 < r ∨ j ≠ 0)) → (r ≠ 61 ∨ (j ≠ 35 ∧ j ≠ 36)) → r ≠ 92 → r ≠ 121 → B2 r j = M r j := fun r j p0 p5 p1 p2 p3 => by rw [B2o r j p1 p2 p3, hB r j p0 p5]
  have Mo2 : zMon A2 B2 := zMon_e Mo (A2m _ _ (by omega) (by omega) (by omega) (by omega) (by omega)) (fun i _ _ => A2m _ _ (by omega) (by omega) (by omega) (by omega) (by omega)) (fun i j _ _ _ => A2m _ _ (by omega) (by omega) (by omega) (by omega) (by omega)) (B2m _ _ (by omega) (by omega) (by omega) (by omega) (by omega)) (fun i _ _ => B2m _ _ (by omega) (by omega) (by omega) (by omega) (by omega)) (fun i j _ _ _ => B2m _ _ (by omega) (by omega) (by omega) (by omega) (by omega))
  have ru3 : M 91 3 = M 34 8 := by
    rw [k 91 3 (by omega) (by omega) (by unfold zTo; omega), k 34 8 (by omega) (by omega) (by unfold zTo; omega)]
    exact RU.2.2.2
  have ST := zSt_all (a := A2) (b := B2) (nat := 1) (v := v) Mo2 (by rw [B2m _ _ (by omega) (by omega) (by omega) (by omega) (by omega), A2m _ _ (by omega) (by omega) (by omega) (by omega) (by omega)]; exact b38) (by rw [B2m _ _ (by omega) (by omega) (by omega) (by omega) (by omega), A2m _ _ (by omega) (by omega) (by omega) (by omega) (by omega)]; exact ru3) (by rw [A2m _ _ (by omega) (by omega) (by omega) (by omega) (by omega)]; omega) (by rw [← hA2]; exact vv.1) (by rw [← hA2]; exact nt1.symm) (fun s q1 q2 => by rw [← hA2, ← hB2]; exact P1 s q1 q2) (fun s q1 q2 => by rw [A2m _ _ (by omega) (by omega) (by omega) (by omega) (by omega)]; exact (qc.1 s q1 q2).2.2.2.1)
  obtain ⟨c1, c2, ⟨t1, t2, t3⟩, c4, c5, SO, ZO⟩ := ST
  have dS : ∀ r j : Int, r ≤ 60 → (r ≠ 34 ∨ j ≠ 4) → d r j = zfs (zfs (zfs A2 38 39 41) 43 44 46) 48 49 51 r j := fun r j p1 p2 => by
    rw [dA r j p1]
    unfold zfnd
    rw [hA1, A2A, hA2, zm_un p2]
  have dZ : ∀ r j : Int, 60 < r → r ≤ 159 → (r ≠ 61 ∨ j ≠ 37) → d r j = zmss (zmss (zmss B2 0 v 1) 1 v 1) 2 v 1 r j := fun r j p1 p2 p3 => by
    rw [dB r j p1 p2, hB2]
    unfold zmsA
    rw [hv, zm_un p3]
  have e8 : ∀ s : Int, 0 ≤ s → s < 3 → B2 (118 + s) 0 = 1 ∨ B2 (118 + s) 0 = 2 := fun s q1 q2 => by rw [← hB2]; exact (h8 s q1 q2).1
  have d34 : d 34 4 = 0 := by rw [dA _ _ (by omega)]; exact zm_ue rfl rfl
  have d37 : d 61 37 = 0 := by
    rw [dB _ _ (by omega) (by omega)]
    unfold zmsA
    exact zm_ue rfl rfl
  have S31 : ∀ j : Int, (j ≠ 1 ∧ j ≠ 3) → zfs (zfs (zfs A2 38 39 41) 43 44 46) 48 49 51 31 j = A2 31 j := fun j hj => by
    have gg : ∀ s : Int, 0 ≤ s → s < 3 → zGr (A2 (38 + 5 * s) 2) := fun s q1 q2 => by rw [A2m _ _ (by omega) (by omega) (by omega) (by omega) (by omega)]; exact (qc.1 s q1 q2).2.2.2.1
    have g0 := gg 0 (by omega) (by omega)
    have g1 := gg 1 (by omega) (by omega)
    have g2 := gg 2 (by omega) (by omega)
    simp only [Int.mul_zero, Int.add_zero, Int.mul_one, Int.reduceAdd, Int.reduceMul] at g0 g1 g2
    have h1 : zfs A2 38 39 41 43 2 = A2 43 2 := zfs_o g0 (by omega) (by omega) (by omega) (by omega) (by omega) (by omega) (by omega) (by omega) (by omega)
    have h2 : zfs A2 38 39 41 48 2 = A2 48 2 := zfs_o g0 (by omega) (by omega) (by omega) (by omega) (by omega) (by omega) (by omega) (by omega) (by omega)
    have k1 : zGr (zfs A2 38 39 41 43 2) := by rw [h1]; exact g1
    have h3 : zfs (zfs A2 38 39 41) 43 44 46 48 2 = A2 48 2 := (zfs_o k1 (by omega) (by omega) (by omega) (by omega) (by omega) (by omega) (by omega) (by omega) (by omega)).trans h2
    rw [zfs_q (by rw [h3]; exact g2) (by omega) (by omega) (by omega) hj, zfs_q k1 (by omega) (by omega) (by omega) hj, zfs_q g0 (by omega) (by omega) (by omega) hj]
  have ZR := fun s i (h1 : 0 ≤ s ∧ s < 3) => @zms3_r B2 v 1 s i h1
  clear dA dB
  generalize zfs (zfs (zfs A2 38 39 41) 43 44 46) 48 49 51 = SS at c1 c2 t1 t2 t3 c4 c5 SO dS S31
  generalize zmss (zmss (zmss B2 0 v 1) 1 v 1) 2 v 1 = ZZ at c1 c2 c4 ZO dZ ZR
  -- the cells of the end
  have DO : ∀ r j : Int, r ≤ 60 → 1 ≤ r → ((r ≠ 34 ∨ (j ≠ 9 ∧ j ≠ 4)) ∧ r ≠ 31 ∧ r ≠ 4 ∧ (r < 15 ∨ 30 < r ∨ j ≠ 2 ∨ r % 2 = 0) ∧ (r < 38 ∨ 51 < r ∨ j < 2 ∨ j = 3 ∨ 6 < j ∨ (r ≠ 38 ∧ r ≠ 43 ∧ r ≠ 48 ∧ (j < 4 ∨ (r ≠ 39 ∧ r ≠ 41 ∧ r ≠ 44 ∧ r ≠ 46 ∧ r ≠ 49 ∧ r ≠ 51))))) → d r j = A2 r j := fun r j p0 p1 p2 => by
    rw [dS r j p0 (by omega), SO r j p1 (by omega) (by omega) (by omega) (by omega) (by omega)]
  have DZ : ∀ r j : Int, 60 < r → r ≤ 159 → (r ≠ 96 ∧ (r ≠ 61 ∨ (j ≠ 32 ∧ j ≠ 37 ∧ j ≠ 38)) ∧ r ≠ 90 ∧ r ≠ 88 ∧ r ≠ 63 ∧ (r < 114 ∨ 116 < r) ∧ (r < 118 ∨ 120 < r)) → d r j = B2 r j := fun r j p0 p1 p2 => by
    rw [dZ r j p0 p1 (by omega), ZO r j (by omega) (by omega) (by omega) (by omega) (by omega) (by omega) (by omega)]
  have DM : ∀ r j : Int, r ≤ 60 → 1 ≤ r → r ≠ 5 → r ≠ 8 → r ≠ 36 → r ≠ 37 → ((r ≠ 34 ∨ (j ≠ 9 ∧ j ≠ 4)) ∧ r ≠ 31 ∧ r ≠ 4 ∧ (r < 15 ∨ 30 < r ∨ j ≠ 2 ∨ r % 2 = 0) ∧ (r < 38 ∨ 51 < r ∨ j < 2 ∨ j = 3 ∨ 6 < j ∨ (r ≠ 38 ∧ r ≠ 43 ∧ r ≠ 48 ∧ (j < 4 ∨ (r ≠ 39 ∧ r ≠ 41 ∧ r ≠ 44 ∧ r ≠ 46 ∧ r ≠ 49 ∧ r ≠ 51))))) → d r j = M r j := fun r j p0 p1 p3 p4 p5 p6 p2 => by
    rw [DO r j p0 p1 p2, A2m r j p0 p3 p4 p5 p6]
  have DB : ∀ r j : Int, 60 < r → r ≤ 159 → (r ≠ 61 ∨ (j ≠ 35 ∧ j ≠ 36)) → r ≠ 92 → r ≠ 121 → (r ≠ 96 ∧ (r ≠ 61 ∨ (j ≠ 32 ∧ j ≠ 37 ∧ j ≠ 38)) ∧ r ≠ 90 ∧ r ≠ 88 ∧ r ≠ 63 ∧ (r < 114 ∨ 116 < r) ∧ (r < 118 ∨ 120 < r)) → d r j = M r j := fun r j p0 p1 p3 p4 p5 p2 => by
    rw [DZ r j p0 p1 p2, B2m r j p0 ⟨p1, by omega⟩ p3 p4 p5]
  have a40 : A2 4 0 = M 4 0 := A2m _ _ (by omega) (by omega) (by omega) (by omega) (by omega)
  have a31 : A2 31 1 = M 31 1 := A2m _ _ (by omega) (by omega) (by omega) (by omega) (by omega)
  refine ⟨⟨fun r j q1 q2 q3 => ?_, ?_, fun i q1 q2 => ?_, ⟨?_, ?_, fun i q1 q2 => ?_⟩, ?_, ?_, ?_, ?_, ?_, fun s q1 q2 => ⟨?_, ?_⟩⟩, d34⟩
  · rw [← k r j q1 q2 q3]
    unfold zTo at q3
    by_cases q : r ≤ 60
    · by_cases q31 : r = 31
      · rw [q31, dS 31 j (by omega) (by omega), S31 j (by omega), A2m 31 j (by omega) (by omega) (by omega) (by omega) (by omega)]
      · exact DM r j q q1 (by omega) (by omega) (by omega) (by omega) (by omega)
    · by_cases p : r = 88 ∨ r = 90
      · omega
      · exact DB r j (by omega) q2 (by omega) (by omega) (by omega) (by omega)
  · exact zMon_e c1 (dS _ _ (by omega) (by omega)) (fun i _ _ => dS _ _ (by omega) (by omega)) (fun i j _ _ _ => dS _ _ (by omega) (by omega)) (dZ _ _ (by omega) (by omega) (by omega)) (fun i _ _ => dZ _ _ (by omega) (by omega) (by omega)) (fun i j _ _ _ => dZ _ _ (by omega) (by omega) (by omega))
  · rw [DM (15 + 2 * i) 5 (by omega) (by omega) (by omega) (by omega) (by omega) (by omega) (by omega), DB 64 i (by omega) (by omega) (by omega) (by omega) (by omega) (by omega)]
    exact S i q1 q2
  · rw [dS 4 0 (by omega) (by omega)]
    omega
  · rw [dS 31 1 (by omega) (by omega)]
    omega
  · have f1 := t3 i q1 q2
    have f2 := V3 i q1 q2
    rw [A2m (15 + 2 * i) 2 (by omega) (by omega) (by omega) (by omega) (by omega)] at f1
    rw [dS (15 + 2 * i) 2 (by omega) (by omega)]
    omega
  · rw [dS 34 9 (by omega) (by omega), dZ 61 38 (by omega) (by omega) (by omega)]
    exact c2
  · exact zIs_e DK2.2.2.2.2 (fun r j _ => DO r j (by omega) (by omega) (by omega))
  · obtain ⟨s, -, c, -⟩ := qc
    obtain ⟨-, -, ⟨b1, b2, b3, b4, b5⟩, -, -⟩ := DK2
    refine ⟨fun i q1 q2 => ?_, ⟨by rw [DO 36 1 (by omega) (by omega) (by omega), DO 36 2 (by omega) (by omega) (by omega)]; exact b1, by rw [DO 36 2 (by omega) (by omega) (by omega)]; exact b2, by rw [DO 36 3 (by omega) (by omega) (by omega)]; exact b3, ?_, fun i p1 p2 => ?_⟩, ?_, fun z => by omega⟩
    · obtain ⟨x1, x2, x3, x4, x5, x6⟩ := s i q1 q2
      obtain ⟨z1, z2, z3, z4, z5⟩ := (c4 i q1 q2).1
      have hand : ∀ h c2 : Int, (h = 39 + 5 * i ∨ h = 41 + 5 * i) → (c2 = 40 + 5 * i ∨ c2 = 42 + 5 * i) → zIh (M 34 4) M h c2 → M h 5 ≠ 1 → SS h 4 = 0 → SS h 6 = 0 → zIh (d 34 4) d h c2 := fun h c2 p1 p2 H p3 p4 p5 => by
        obtain ⟨y1, y2, y3, y4, y5, y6, y7, ⟨y8, y9⟩, y10⟩ := H
        have e5 : d h 5 = 0 := by
          rw [dS h 5 (by omega) (by omega)]
          refine c5 h (by omega) ?_
          rw [A2m h 5 (by omega) (by omega) (by omega) (by omega) (by omega)]
          omega
        have dc : ∀ j : Int, d c2 j = M c2 j := fun j => DM c2 j (by omega) (by omega) (by omega) (by omega) (by omega) (by omega) (by omega)
        have dh : ∀ j : Int, 1 ≤ j → j ≤ 3 → d h j = M h j := fun j r1 r2 => DM h j (by omega) (by omega) (by omega) (by omega) (by omega) (by omega) (by omega)
        unfold zIh
        rw [e5, dh 1 (by omega) (by omega), dh 2 (by omega) (by omega), dh 3 (by omega) (by omega), dS h 4 (by omega) (by omega), p4, dS h 6 (by omega) (by omega), p5, zms_e dc, zma_e dc]
        exact ⟨y1, y2, y3, by omega, by omega, by omega, fun z => absurd z (by omega), ⟨y8, y9⟩, fun k2 r1 r2 => by rw [dc]; exact y10 k2 r1 r2⟩
      have m := n0 i q1 q2
      refine ⟨hand _ _ (.inl rfl) (.inl rfl) x1 m.1 z1 z3, hand _ _ (.inr rfl) (.inr rfl) x2 m.2 z2 z4, ?_, ?_, ?_, ?_⟩
      · rw [DM (38 + 5 * i) 3 (by omega) (by omega) (by omega) (by omega) (by omega) (by omega) (by omega)]
        exact x3
      · rw [dS (38 + 5 * i) 2 (by omega) (by omega), z5]
        exact .inl rfl
      · intro _
        rw [dS (39 + 5 * i) 4 (by omega) (by omega), dS (41 + 5 * i) 4 (by omega) (by omega)]
        exact ⟨z1, z2⟩
      · intro p
        rw [DM (38 + 5 * i) 3 (by omega) (by omega) (by omega) (by omega) (by omega) (by omega) (by omega)] at p
        have y := x6 p
        rw [DM (41 + 5 * i) 1 (by omega) (by omega) (by omega) (by omega) (by omega) (by omega) (by omega), dS (41 + 5 * i) 4 (by omega) (by omega), dS (41 + 5 * i) 5 (by omega) (by omega)]
        refine ⟨y.1, z2, c5 _ (by omega) ?_⟩
        rw [A2m (41 + 5 * i) 5 (by omega) (by omega) (by omega) (by omega) (by omega)]
        exact y.2.2
    · rw [DO 36 1 (by omega) (by omega) (by omega), DO 36 2 (by omega) (by omega) (by omega), DO 36 3 (by omega) (by omega) (by omega), zms_e (fun j => DO 37 j (by omega) (by omega) (by omega)), zma_e (fun j => DO 37 j (by omega) (by omega) (by omega))]
      exact b4
    · rw [DO 36 1 (by omega) (by omega) (by omega)] at p2
      rw [DO 37 i (by omega) (by omega) (by omega)]
      exact b5 i p1 p2
    · rw [d34, DM 34 5 (by omega) (by omega) (by omega) (by omega) (by omega) (by omega) (by omega), DM 34 6 (by omega) (by omega) (by omega) (by omega) (by omega) (by omega) (by omega), DM 34 7 (by omega) (by omega) (by omega) (by omega) (by omega) (by omega) (by omega), DM 34 8 (by omega) (by omega) (by omega) (by omega) (by omega) (by omega) (by omega)]
      exact ⟨.inl rfl, c.2⟩
  · obtain ⟨⟨s1, s2, s3⟩, s4, s5, s6, s7⟩ := rs2
    obtain ⟨⟨e1, e2⟩, -⟩ := DK2
    have d57 : d 5 7 = 0 := by rw [DO 5 7 (by omega) (by omega) (by omega), A2o 5 7 (by omega) (by omega) (by omega) (by omega), A157]
    refine ⟨⟨?_, ?_, by rw [d37, d34]⟩, fun i q1 q2 => ?_, fun r q1 q2 => ?_, fun _ => d57, fun z => by omega⟩
    · rw [DB 61 34 (by omega) (by omega) (by omega) (by omega) (by omega) (by omega), DO 5 6 (by omega) (by omega) (by omega), A2o 5 6 (by omega) (by omega) (by omega) (by omega), A1o 5 6 (by omega) (by omega) (by omega)]
      exact s1
    · rw [DZ 61 35 (by omega) (by omega) (by omega), DO 5 5 (by omega) (by omega) (by omega), DO 5 4 (by omega) (by omega) (by omega)]
      exact e1
    · rw [DO 5 5 (by omega) (by omega) (by omega), DO 5 4 (by omega) (by omega) (by omega)] at q2
      rw [DZ 92 i (by omega) (by omega) (by omega), DO 5 4 (by omega) (by omega) (by omega), DO 6 _ (by omega) (by omega) (by omega)]
      exact e2 i q1 q2
    · rw [DB 95 r (by omega) (by omega) (by omega) (by omega) (by omega) (by omega), DM 9 r (by omega) (by omega) (by omega) (by omega) (by omega) (by omega) (by omega)]
      exact s5 r q1 q2
  · obtain ⟨-, ⟨e1, e2⟩, -⟩ := DK2
    refine ⟨by rw [DZ 61 36 (by omega) (by omega) (by omega), DO 36 1 (by omega) (by omega) (by omega)]; exact e1, fun i q1 q2 => ?_⟩
    rw [DO 36 1 (by omega) (by omega) (by omega)] at q2
    rw [DZ 121 i (by omega) (by omega) (by omega), DO 37 i (by omega) (by omega) (by omega)]
    exact e2 i q1 q2
  · obtain ⟨w1, w2, w3, w4, -, on, k1, k2⟩ := (rq2 s q1 q2).1
    obtain ⟨⟨z1, z2, z3, z4, z5⟩, z6⟩ := c4 s q1 q2
    obtain ⟨o1, o2, o3, o4, o5, o6, o7⟩ := on h4
    have sp := P1 s q1 q2
    have m := n0 s q1 q2
    have xx := qc.1 s q1 q2
    have f5 := xx.1.2.2.2.2.1
    have g5 := xx.2.1.2.2.2.2.1
    have y5 := c5 (39 + 5 * s) (by omega) (by rw [A2m (39 + 5 * s) 5 (by omega) (by omega) (by omega) (by omega) (by omega)]; omega)
    have u5 := c5 (41 + 5 * s) (by omega) (by rw [A2m (41 + 5 * s) 5 (by omega) (by omega) (by omega) (by omega) (by omega)]; omega)
    unfold zRq
    rw [d34, dZ 96 s (by omega) (by omega) (by omega), z6, dS (38 + 5 * s) 2 (by omega) (by omega), z5, DB 98 s (by omega) (by omega) (by omega) (by omega) (by omega) (by omega), DB 97 s (by omega) (by omega) (by omega) (by omega) (by omega) (by omega), o1, dS (39 + 5 * s) 4 (by omega) (by omega), z1, dS (41 + 5 * s) 4 (by omega) (by omega), z2, dS (39 + 5 * s) 5 (by omega) (by omega), y5, dS (41 + 5 * s) 5 (by omega) (by omega), u5, dS (39 + 5 * s) 6 (by omega) (by omega), z3, dS (41 + 5 * s) 6 (by omega) (by omega), z4, DM (38 + 5 * s) 3 (by omega) (by omega) (by omega) (by omega) (by omega) (by omega) (by omega), DM (39 + 5 * s) 1 (by omega) (by omega) (by omega) (by omega) (by omega) (by omega) (by omega), DM (41 + 5 * s) 1 (by omega) (by omega) (by omega) (by omega) (by omega) (by omega) (by omega), DB (110 + s) 0 (by omega) (by omega) (by omega) (by omega) (by omega) (by omega), DB (110 + s) 1 (by omega) (by omega) (by omega) (by omega) (by omega) (by omega)]
    refine ⟨.inl ⟨rfl, rfl⟩, w2, ?_, ?_, fun _ => ⟨rfl, rfl, rfl, rfl, rfl, rfl, ⟨fun _ => rfl, fun _ => rfl⟩, by decide⟩, fun z => absurd z (by omega), fun p => ?_, fun p => ?_⟩
    · rw [dZ (118 + s) 0 (by omega) (by omega) (by omega), dZ (118 + s) 1 (by omega) (by omega) (by omega)]
      have r0 := (ZR s 0 ⟨q1, q2⟩).2
      have r1 := (ZR s 1 ⟨q1, q2⟩).2
      have r8 := e8 s q1 q2
      rw [B2m (118 + s) 1 (by omega) (by omega) (by omega) (by omega) (by omega)] at r1
      omega
    · rw [dZ (114 + s) 0 (by omega) (by omega) (by omega), dZ (114 + s) 1 (by omega) (by omega) (by omega)]
      have r0 := (ZR s 0 ⟨q1, q2⟩).1
      have r1 := (ZR s 1 ⟨q1, q2⟩).1
      rw [B2m (114 + s) 0 (by omega) (by omega) (by omega) (by omega) (by omega)] at r0
      rw [B2m (114 + s) 1 (by omega) (by omega) (by omega) (by omega) (by omega)] at r1
      omega
    · obtain ⟨n1, n2, n3, n4⟩ := k1 p
      refine ⟨n1, n2, fun j r1 r2 => ?_, n4⟩
      rw [DB (101 + 3 * s) j (by omega) (by omega) (by omega) (by omega) (by omega) (by omega), DM (40 + 5 * s) j (by omega) (by omega) (by omega) (by omega) (by omega) (by omega) (by omega)]
      exact n3 j r1 r2
    · obtain ⟨n1, n2, n3⟩ := k2 p
      refine ⟨n1, n2, fun j r1 r2 => ?_⟩
      rw [DB (102 + 3 * s) j (by omega) (by omega) (by omega) (by omega) (by omega) (by omega), DM (42 + 5 * s) j (by omega) (by omega) (by omega) (by omega) (by omega) (by omega) (by omega)]
      exact n3 j r1 r2
  · rw [dS (38 + 5 * s) 2 (by omega) (by omega), ((c4 s q1 q2).1).2.2.2.2]
    omega
