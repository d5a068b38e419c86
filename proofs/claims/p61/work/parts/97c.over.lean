/-! ===== STEPS: the end of a round ===== -/
set_option maxRecDepth 65536
theorem zSp_e {nat : Int} {a b c d : zm_D} {s : Int} (P : zSp nat a b s) (h1 : ∀ j : Int, (j = 2 ∨ j = 3) → c (38 + 5 * s) j = a (38 + 5 * s) j) (h2 : ∀ j : Int, 1 ≤ j → j ≤ 4 → c (39 + 5 * s) j = a (39 + 5 * s) j) (h3 : ∀ j : Int, 1 ≤ j → j ≤ 4 → c (41 + 5 * s) j = a (41 + 5 * s) j) (h4 : d 98 s = b 98 s) (h5 : d 96 s = b 96 s) (h6 : ∀ r j : Int, (r = 110 + s ∨ r = 114 + s ∨ r = 118 + s ∨ r = 101 + 3 * s ∨ r = 102 + 3 * s) → d r j = b r j) : zSp nat c d s := by
  obtain ⟨p1, p2, p3, p4, p5⟩ := P
  unfold zSp
  rw [h4, h5, h1 2 (by omega), h1 3 (by omega), h2 4 (by decide) (by decide), h3 4 (by decide) (by decide)]
  refine ⟨p1, p2, p3, fun q => ?_, fun q => ?_⟩
  · obtain ⟨x1, x2, x3⟩ := p4 q
    refine ⟨x1, zSh1_e x2 (.inl rfl) (fun j q1 q2 => ?_) (h6 _ _ (by omega)) (h6 _ _ (by omega)) (h6 _ _ (by omega)) (fun j => h6 _ _ (by omega)), x3⟩
    simp only [Int.mul_zero, Int.add_zero]
    exact h2 j q1 q2
  · obtain ⟨x1, x2⟩ := p5 q
    refine ⟨x1, zSh1_e x2 (.inr rfl) (fun j q1 q2 => ?_) (h6 _ _ (by omega)) (h6 _ _ (by omega)) (h6 _ _ (by omega)) (fun j => h6 _ _ (by omega))⟩
    rw [show 39 + 5 * s + 2 * 1 = 41 + 5 * s by omega]
    exact h3 j q1 q2
/-- who stood still stands still -/
theorem zstl_5 {e : zm_D} {q h z y : Int} (G : zGr (e q 2)) (hy : 39 ≤ y) (h0 : e y 5 = 0) : zstl e q h z y 5 = 0 := by
  unfold zstl
  split
  · exact h0
  · have g := zGr_r G
    have f : zse (zgm e q h z) z y 5 = 0 := by
      unfold zse
      by_cases p : y = z
      · subst p
        rw [zm_un (by omega), zm_ue rfl rfl]
      · rw [zm_un (by omega), zm_un (by omega), zm_un (by omega), zgm_o (by omega)]
        exact h0
    split
    · rw [zm_un (by omega)]
      exact f
    · rw [zm_un (by omega), zpo_o (by omega) (by omega)]
      exact f
theorem zfs_5 {e : zm_D} {q h k y : Int} (G : zGr (e q 2)) (hq : q = 38 ∨ q = 43 ∨ q = 48) (hh : h = q + 1) (hy : 39 ≤ y) (h5 : e y 5 = 0) : zfs e q h k y 5 = 0 := by
  have e1 : zstl e q h h q 2 = e q 2 := by
    have g := zGr_r G
    exact zstl_o (by omega) (by omega) (by omega) (by omega) (by omega)
  unfold zfs
  rw [zm_un (by omega), zm_un (by omega), zm_un (by omega)]
  exact zstl_5 (by rw [e1]; exact G) hy (zstl_5 G hy h5)
/-- all hands are settled on both sides -/
theorem zSt_all {a b : zm_D} {nat v : Int} (M : zMon a b) (H38 : b 61 38 = a 34 9) (hru : b 91 3 = a 34 8) (T : 0 ≤ a 31 1) (hv : v = zhv (a 36 3) (a 36 2)) (hnat : nat = znt (a 36 1) (a 36 3) (a 36 2)) (P : ∀ s : Int, 0 ≤ s → s < 3 → zSp nat a b s) (G : ∀ s : Int, 0 ≤ s → s < 3 → zGr (a (38 + 5 * s) 2)) : zMon (zfs (zfs (zfs a 38 39 41) 43 44 46) 48 49 51) (zmss (zmss (zmss b 0 v nat) 1 v nat) 2 v nat) ∧ zmss (zmss (zmss b 0 v nat) 1 v nat) 2 v nat 61 38 = zfs (zfs (zfs a 38 39 41) 43 44 46) 48 49 51 34 9 ∧ zBd 18000 12000 30000 a (zfs (zfs (zfs a 38 39 41) 43 44 46) 48 49 51) ∧ (∀ s : Int, 0 ≤ s → s < 3 → (zfs (zfs (zfs a 38 39 41) 43 44 46) 48 49 51 (39 + 5 * s) 4 = 0 ∧ zfs (zfs (zfs a 38 39 41) 43 44 46) 48 49 51 (41 + 5 * s) 4 = 0 ∧ zfs (zfs (zfs a 38 39 41) 43 44 46) 48 49 51 (39 + 5 * s) 6 = 0 ∧ zfs (zfs (zfs a 38 39 41) 43 44 46) 48 49 51 (41 + 5 * s) 6 = 0 ∧ zfs (zfs (zfs a 38 39 41) 43 44 46) 48 49 51 (38 + 5 * s) 2 = 0) ∧ zmss (zmss (zmss b 0 v nat) 1 v nat) 2 v nat 96 s = -1) ∧ (∀ y : Int, 39 ≤ y → a y 5 = 0 → zfs (zfs (zfs a 38 39 41) 43 44 46) 48 49 51 y 5 = 0) ∧ (∀ r j : Int, 1 ≤ r → (r ≠ 34 ∨ j ≠ 9) → r ≠ 31 → r ≠ 4 → (r < 38 ∨ 51 < r ∨ j < 2 ∨ j = 3 ∨ 6 < j ∨ (r ≠ 38 ∧ r ≠ 43 ∧ r ≠ 48 ∧ (j < 4 ∨ (r ≠ 39 ∧ r ≠ 41 ∧ r ≠ 44 ∧ r ≠ 46 ∧ r ≠ 49 ∧ r ≠ 51)))) → (r < 15 ∨ 30 < r ∨ j ≠ 2 ∨ r % 2 = 0) → zfs (zfs (zfs a 38 39 41) 43 44 46) 48 49 51 r j = a r j) ∧ (∀ r j : Int, r ≠ 96 → (r ≠ 61 ∨ (j ≠ 32 ∧ j ≠ 38)) → r ≠ 90 → r ≠ 88 → r ≠ 63 → (r < 114 ∨ 116 < r) → (r < 118 ∨ 120 < r) → zmss (zmss (zmss b 0 v nat) 1 v nat) 2 v nat r j = b r j) := by
  have G0 := G 0 (by decide) (by decide)
  have G1 := G 1 (by decide) (by decide)
  have G2 := G 2 (by decide) (by decide)
  have P0 := P 0 (by decide) (by decide)
  have P1 := P 1 (by decide) (by decide)
  have P2 := P 2 (by decide) (by decide)
  have A := zSt_q (s := 0) (by decide) M H38 hru T hv hnat P0
  simp only [Int.mul_zero, Int.add_zero, Int.mul_one, Int.reduceAdd, Int.reduceMul] at A G0 G1 G2
  obtain ⟨a1, a2, a3, a4, a5⟩ := A
  have OA : ∀ r j : Int, (r ≠ 34 ∨ j ≠ 9) → r ≠ 31 → r ≠ 4 → (r ≠ 39 ∨ j < 4 ∨ 6 < j) → (r ≠ 41 ∨ j < 4 ∨ 6 < j) → 1 ≤ r → (r < 15 ∨ 30 < r ∨ j ≠ 2 ∨ r % 2 = 0) → (r ≠ 38 ∨ j ≠ 2) → zfs a 38 39 41 r j = a r j := fun r j => zfs_o G0 (by decide)
  have OB : ∀ r j : Int, (r ≠ 96 ∨ j ≠ 0) → (r ≠ 61 ∨ (j ≠ 32 ∧ j ≠ 38)) → r ≠ 90 → r ≠ 88 → r ≠ 63 → r ≠ 114 + 0 → r ≠ 118 + 0 → zmss b 0 v nat r j = b r j := fun r j => zmss_o
  have YY0 := fun (y : Int) (hy : 39 ≤ y) (h : a y 5 = 0) => zfs_5 (k := 41) G0 (.inl rfl) (show (39 : Int) = 38 + 1 by decide) hy h
  generalize zfs a 38 39 41 = A1 at a1 a2 a3 a4 OA YY0 ⊢
  generalize zmss b 0 v nat = B1 at a1 a2 a5 OB ⊢
  have G1' : zGr (A1 43 2) := by rw [OA 43 2 (by decide) (by decide) (by decide) (by decide) (by decide) (by decide) (by decide) (by decide)]; exact G1
  have G2' : zGr (A1 48 2) := by rw [OA 48 2 (by decide) (by decide) (by decide) (by decide) (by decide) (by decide) (by decide) (by decide)]; exact G2
  have sp : ∀ s : Int, 1 ≤ s → s < 3 → zSp nat a b s → zSp nat A1 B1 s := fun s q1 q2 p => zSp_e p (fun j _ => OA _ _ (by omega) (by omega) (by omega) (by omega) (by omega) (by omega) (by omega) (by omega)) (fun j _ _ => OA _ _ (by omega) (by omega) (by omega) (by omega) (by omega) (by omega) (by omega) (by omega)) (fun j _ _ => OA _ _ (by omega) (by omega) (by omega) (by omega) (by omega) (by omega) (by omega) (by omega)) (OB _ _ (by omega) (by omega) (by omega) (by omega) (by omega) (by omega) (by omega)) (OB _ _ (by omega) (by omega) (by omega) (by omega) (by omega) (by omega) (by omega)) (fun r j _ => OB _ _ (by omega) (by omega) (by omega) (by omega) (by omega) (by omega) (by omega))
  have d1 : ∀ j : Int, A1 36 j = a 36 j := fun j => OA 36 j (by omega) (by omega) (by omega) (by omega) (by omega) (by omega) (by omega) (by omega)
  have A := zSt_q (v := v) (nat := nat) (s := 1) (by decide) a1 a2 (by rw [OB 91 3 (by decide) (by decide) (by decide) (by decide) (by decide) (by decide) (by decide), OA 34 8 (by decide) (by decide) (by decide) (by decide) (by decide) (by decide) (by decide) (by decide)]; exact hru) a3.2.1.1 (by rw [d1, d1]; exact hv) (by rw [d1, d1, d1]; exact hnat) (sp 1 (by decide) (by decide) P1)
  simp only [Int.mul_one, Int.reduceAdd] at A
  obtain ⟨b1, b2, b3, b4, b5⟩ := A
  have OA2 : ∀ r j : Int, (r ≠ 34 ∨ j ≠ 9) → r ≠ 31 → r ≠ 4 → (r ≠ 44 ∨ j < 4 ∨ 6 < j) → (r ≠ 46 ∨ j < 4 ∨ 6 < j) → 1 ≤ r → (r < 15 ∨ 30 < r ∨ j ≠ 2 ∨ r % 2 = 0) → (r ≠ 43 ∨ j ≠ 2) → zfs A1 43 44 46 r j = A1 r j := fun r j => zfs_o G1' (by decide)
  have OB2 : ∀ r j : Int, (r ≠ 96 ∨ j ≠ 1) → (r ≠ 61 ∨ (j ≠ 32 ∧ j ≠ 38)) → r ≠ 90 → r ≠ 88 → r ≠ 63 → r ≠ 114 + 1 → r ≠ 118 + 1 → zmss B1 1 v nat r j = B1 r j := fun r j => zmss_o
  have y1 := fun (y : Int) (hy : 39 ≤ y) (h : A1 y 5 = 0) => zfs_5 (k := 46) G1' (.inr (.inl rfl)) (show (44 : Int) = 43 + 1 by decide) hy h
  generalize zfs A1 43 44 46 = A2 at b1 b2 b3 b4 OA2 y1 ⊢
  generalize zmss B1 1 v nat = B2 at b1 b2 b5 OB2 ⊢
  have G2'' : zGr (A2 48 2) := by rw [OA2 48 2 (by decide) (by decide) (by decide) (by decide) (by decide) (by decide) (by decide) (by decide)]; exact G2'
  have sp2 : zSp nat A2 B2 2 := zSp_e (sp 2 (by decide) (by decide) P2) (fun j _ => OA2 _ _ (by omega) (by omega) (by omega) (by omega) (by omega) (by omega) (by omega) (by omega)) (fun j _ _ => OA2 _ _ (by omega) (by omega) (by omega) (by omega) (by omega) (by omega) (by omega) (by omega)) (fun j _ _ => OA2 _ _ (by omega) (by omega) (by omega) (by omega) (by omega) (by omega) (by omega) (by omega)) (OB2 _ _ (by omega) (by omega) (by omega) (by omega) (by omega) (by omega) (by omega)) (OB2 _ _ (by omega) (by omega) (by omega) (by omega) (by omega) (by omega) (by omega)) (fun r j _ => OB2 _ _ (by omega) (by omega) (by omega) (by omega) (by omega) (by omega) (by omega))
  have d2 : ∀ j : Int, A2 36 j = a 36 j := fun j => by rw [OA2 36 j (by omega) (by omega) (by omega) (by omega) (by omega) (by omega) (by omega) (by omega), d1]
  have A := zSt_q (v := v) (nat := nat) (s := 2) (by decide) b1 b2 (by rw [OB2 91 3 (by decide) (by decide) (by decide) (by decide) (by decide) (by decide) (by decide), OB 91 3 (by decide) (by decide) (by decide) (by decide) (by decide) (by decide) (by decide), OA2 34 8 (by decide) (by decide) (by decide) (by decide) (by decide) (by decide) (by decide) (by decide), OA 34 8 (by decide) (by decide) (by decide) (by decide) (by decide) (by decide) (by decide) (by decide)]; exact hru) b3.2.1.1 (by rw [d2, d2]; exact hv) (by rw [d2, d2, d2]; exact hnat) sp2
  simp only [Int.reduceMul, Int.reduceAdd] at A
  obtain ⟨c1, c2, c3, c4, c5⟩ := A
  have OA3 : ∀ r j : Int, (r ≠ 34 ∨ j ≠ 9) → r ≠ 31 → r ≠ 4 → (r ≠ 49 ∨ j < 4 ∨ 6 < j) → (r ≠ 51 ∨ j < 4 ∨ 6 < j) → 1 ≤ r → (r < 15 ∨ 30 < r ∨ j ≠ 2 ∨ r % 2 = 0) → (r ≠ 48 ∨ j ≠ 2) → zfs A2 48 49 51 r j = A2 r j := fun r j => zfs_o G2'' (by decide)
  have OB3 : ∀ r j : Int, (r ≠ 96 ∨ j ≠ 2) → (r ≠ 61 ∨ (j ≠ 32 ∧ j ≠ 38)) → r ≠ 90 → r ≠ 88 → r ≠ 63 → r ≠ 114 + 2 → r ≠ 118 + 2 → zmss B2 2 v nat r j = B2 r j := fun r j => zmss_o
  have y2 := fun (y : Int) (hy : 39 ≤ y) (h : A2 y 5 = 0) => zfs_5 (k := 51) G2'' (.inr (.inr rfl)) (show (49 : Int) = 48 + 1 by decide) hy h
  generalize zfs A2 48 49 51 = A3 at c1 c2 c3 c4 OA3 y2 ⊢
  generalize zmss B2 2 v nat = B3 at c1 c2 c5 OB3 ⊢
  have t := zBd_t (zBd_t a3 b3) c3
  simp only [Int.reduceAdd] at t
  refine ⟨c1, c2, t, fun s q1 q2 => ?_, fun y q1 q2 => ?_, fun r j q0 q1 q2 q3 q4 q5 => ?_, fun r j q0 q1 q2 q3 q4 q5 q6 => ?_⟩
  · rcases (by omega : s = 0 ∨ s = 1 ∨ s = 2) with z | z | z
    · subst z
      simp only [Int.mul_zero, Int.add_zero]
      rw [OA3 39 4 (by decide) (by decide) (by decide) (by decide) (by decide) (by decide) (by decide) (by decide), OA2 39 4 (by decide) (by decide) (by decide) (by decide) (by decide) (by decide) (by decide) (by decide), OA3 41 4 (by decide) (by decide) (by decide) (by decide) (by decide) (by decide) (by decide) (by decide), OA2 41 4 (by decide) (by decide) (by decide) (by decide) (by decide) (by decide) (by decide) (by decide), OA3 39 6 (by decide) (by decide) (by decide) (by decide) (by decide) (by decide) (by decide) (by decide), OA2 39 6 (by decide) (by decide) (by decide) (by decide) (by decide) (by decide) (by decide) (by decide), OA3 41 6 (by decide) (by decide) (by decide) (by decide) (by decide) (by decide) (by decide) (by decide), OA2 41 6 (by decide) (by decide) (by decide) (by decide) (by decide) (by decide) (by decide) (by decide), OA3 38 2 (by decide) (by decide) (by decide) (by decide) (by decide) (by decide) (by decide) (by decide), OA2 38 2 (by decide) (by decide) (by decide) (by decide) (by decide) (by decide) (by decide) (by decide), OB3 96 0 (by decide) (by decide) (by decide) (by decide) (by decide) (by decide) (by decide), OB2 96 0 (by decide) (by decide) (by decide) (by decide) (by decide) (by decide) (by decide)]
      exact ⟨a4, a5⟩
    · subst z
      simp only [Int.mul_one, Int.reduceAdd]
      rw [OA3 44 4 (by decide) (by decide) (by decide) (by decide) (by decide) (by decide) (by decide) (by decide), OA3 46 4 (by decide) (by decide) (by decide) (by decide) (by decide) (by decide) (by decide) (by decide), OA3 44 6 (by decide) (by decide) (by decide) (by decide) (by decide) (by decide) (by decide) (by decide), OA3 46 6 (by decide) (by decide) (by decide) (by decide) (by decide) (by decide) (by decide) (by decide), OA3 43 2 (by decide) (by decide) (by decide) (by decide) (by decide) (by decide) (by decide) (by decide), OB3 96 1 (by decide) (by decide) (by decide) (by decide) (by decide) (by decide) (by decide)]
      exact ⟨b4, b5⟩
    · subst z
      simp only [Int.reduceMul, Int.reduceAdd]
      exact ⟨c4, c5⟩
  · exact y2 y q1 (y1 y q1 (YY0 y q1 q2))
  · rw [OA3 r j (by omega) (by omega) (by omega) (by omega) (by omega) (by omega) (by omega) (by omega), OA2 r j (by omega) (by omega) (by omega) (by omega) (by omega) (by omega) (by omega) (by omega), OA r j (by omega) (by omega) (by omega) (by omega) (by omega) (by omega) (by omega) (by omega)]
  · rw [OB3 r j (by omega) (by omega) (by omega) (by omega) (by omega) (by omega) (by omega), OB2 r j (by omega) (by omega) (by omega) (by omega) (by omega) (by omega) (by omega), OB r j (by omega) (by omega) (by omega) (by omega) (by omega) (by omega) (by omega)]
