/-! ===== STEPS: a round goes on or ends ===== -/
set_option maxRecDepth 65536
theorem zdra_5 : ∀ (f : Nat) {e : zm_D} {j : Int}, j ≠ 4 → zdra f e 5 j = e 5 j := by
  intro f
  induction f with
  | zero => intro e j _; rfl
  | succ f ih =>
    intro e j h
    by_cases p : zdc e = 1 ∧ e 5 4 < e 5 5
    · rw [zdra_t p, ih h, zad_o (by omega) (by omega), ztk_k h]
    · rw [zdra_f p]
theorem zstl_q {e : zm_D} {q h z j : Int} (G : zGr (e q 2)) (hz : z ≠ 31) (hj : j ≠ 1 ∧ j ≠ 3) : zstl e q h z 31 j = e 31 j := by
  have g := zGr_r G
  unfold zstl
  split
  · rfl
  · split
    · rw [zm_un (by omega), zse_o (by omega), zgm_o (by omega)]
    · rename_i p _
      have g2 : 31 ≠ e q 2 := by
        rcases G with x | ⟨i, hi, x⟩
        · omega
        · omega
      rw [zm_un (by omega)]
      unfold zpo
      rw [zm_un (by omega), zm_un (by omega), zm_un (by omega), zse_o (by omega), zgm_o (by omega)]
theorem zfs_q {e : zm_D} {q h k j : Int} (G : zGr (e q 2)) (hq : q = 38 ∨ q = 43 ∨ q = 48) (hh : h = q + 1) (hk : k = q + 3) (hj : j ≠ 1 ∧ j ≠ 3) : zfs e q h k 31 j = e 31 j := by
  have g := zGr_r G
  have e1 : zstl e q h h q 2 = e q 2 := zstl_o (by omega) (by omega) (by omega) (by omega) (by omega)
  unfold zfs
  rw [zm_un (by omega), zm_un (by omega), zm_un (by omega), zstl_q (by rw [e1]; exact G) (by omega) hj, zstl_q G (by omega) hj]
theorem zmsh_r {e : zm_D} {s k r v nat i : Int} (hs : 0 ≤ s ∧ s < 3) : (zmsh e s k r v nat (114 + s) i = e (114 + s) i ∨ zmsh e s k r v nat (114 + s) i = 0) ∧ (zmsh e s k r v nat (118 + s) i = e (118 + s) i ∨ zmsh e s k r v nat (118 + s) i = 3) := by
  by_cases p : i = k
  · subst p
    unfold zmsh
    split
    · have x := zmst_s (e := e) (k := i) (o := zmv e r (e (110 + s) i)) (v := v) (nat := nat) hs
      exact ⟨.inr x.1, .inr x.2⟩
    · exact ⟨.inl rfl, .inl rfl⟩
  · exact ⟨.inl (zmsh_o (by omega) (by omega) (by omega) (by omega) (by omega) (by omega)), .inl (zmsh_o (by omega) (by omega) (by omega) (by omega) (by omega) (by omega))⟩
theorem zmss_r {e : zm_D} {s v nat i : Int} (hs : 0 ≤ s ∧ s < 3) : (zmss e s v nat (114 + s) i = e (114 + s) i ∨ zmss e s v nat (114 + s) i = 0) ∧ (zmss e s v nat (118 + s) i = e (118 + s) i ∨ zmss e s v nat (118 + s) i = 3) := by
  unfold zmss
  rw [zm_un (by omega), zm_un (by omega)]
  split
  · exact ⟨.inl rfl, .inl rfl⟩
  · split
    · exact zmsh_r hs
    · have a := zmsh_r (e := e) (k := 0) (r := 101 + 3 * s) (v := v) (nat := nat) (i := i) hs
      have b := zmsh_r (e := zmsh e s 0 (101 + 3 * s) v nat) (k := 1) (r := 102 + 3 * s) (v := v) (nat := nat) (i := i) hs
      omega
theorem zms3_r {e : zm_D} {v nat s i : Int} (hs : 0 ≤ s ∧ s < 3) : (zmss (zmss (zmss e 0 v nat) 1 v nat) 2 v nat (114 + s) i = e (114 + s) i ∨ zmss (zmss (zmss e 0 v nat) 1 v nat) 2 v nat (114 + s) i = 0) ∧ (zmss (zmss (zmss e 0 v nat) 1 v nat) 2 v nat (118 + s) i = e (118 + s) i ∨ zmss (zmss (zmss e 0 v nat) 1 v nat) 2 v nat (118 + s) i = 3) := by
  have o : ∀ (d : zm_D) (t r : Int), (r = 114 + s ∨ r = 118 + s) → (0 ≤ t ∧ t < 3) → t ≠ s → zmss d t v nat r i = d r i := fun d t r h1 h2 h3 => zmss_o (by omega) (by omega) (by omega) (by omega) (by omega) (by omega) (by omega)
  rcases (by omega : s = 0 ∨ s = 1 ∨ s = 2) with z | z | z
  · subst z
    rw [o _ 2 _ (.inl rfl) (by omega) (by omega), o _ 1 _ (.inl rfl) (by omega) (by omega), o _ 2 _ (.inr rfl) (by omega) (by omega), o _ 1 _ (.inr rfl) (by omega) (by omega)]
    exact zmss_r hs
  · subst z
    rw [o _ 2 _ (.inl rfl) (by omega) (by omega), o _ 2 _ (.inr rfl) (by omega) (by omega)]
    have a := zmss_r (e := zmss e 0 v nat) (v := v) (nat := nat) (i := i) hs
    rw [o _ 0 _ (.inl rfl) (by omega) (by omega), o _ 0 _ (.inr rfl) (by omega) (by omega)] at a
    exact a
  · subst z
    have a := zmss_r (e := zmss (zmss e 0 v nat) 1 v nat) (v := v) (nat := nat) (i := i) hs
    rw [o _ 1 _ (.inl rfl) (by omega) (by omega), o _ 0 _ (.inl rfl) (by omega) (by omega), o _ 1 _ (.inr rfl) (by omega) (by omega), o _ 0 _ (.inr rfl) (by omega) (by omega)] at a
    exact a
theorem zRnd_end {e A B M d : zm_D} (hA : ∀ r j : Int, r ≤ 60 → M r j = A r j) (hB : ∀ r j : Int, 60 < r → r ≤ 159 → M r j = B r j) (RU : zRu e) (H19 : 0 ≤ e 1 9) (Q : zQz 0 e M) (h4 : M 34 4 = 1) (hn : znt (M 36 1) (M 36 3) (M 36 2) = 0) (hz : zst M < 0) (dA : ∀ r j : Int, r ≤ 60 → d r j = zfnd A r j) (dB : ∀ r j : Int, 60 < r → r ≤ 159 → d r j = zmfn B r j) : zQz 1 e d ∧ d 34 4 = 0 := by
  obtain ⟨k, Mo, S, ⟨V1, V2, V3⟩, b38, qs, qc, rs2, rd2, rq2⟩ := Q
  have n0 := zst_0 hz
  have c57 := (qc.2.2.2 h4).1
  have c36 := (qc.2.2.2 h4).2
  -- the hidden card is shown
  obtain ⟨A1, hA1⟩ : ∃ A1, zhw A = A1 := ⟨_, rfl⟩
  have A1o : ∀ r j : Int, r ≤ 60 → (r ≠ 5 ∨ j ≠ 7) → r ≠ 8 → A1 r j = M r j := fun r j p1 p2 p3 => by rw [← hA1, zhw_o p2 p3, hA r j p1]
  have A157 : A1 5 7 = 0 := by rw [← hA1]; exact zm_ue rfl rfl
  have qA : zIs A := zIs_e qs (fun r j _ => (hA r j (by omega)).symm)
  have qA1 : zIs A1 := by rw [← hA1]; exact zIs_hw qA (by rw [← hA 5 7 (by omega)]; exact c57)
  have DK : zDk A1 B := by
    obtain ⟨⟨s1, s2, s3⟩, s4, -⟩ := rs2
    obtain ⟨d1, d2⟩ := rd2
    obtain ⟨-, ⟨b1, b2, b3, b4, b5⟩, -, -⟩ := qc
    have ru : M 91 2 = M 34 7 := by
      rw [k 91 2 (by omega) (by omega) (by unfold zTo; omega), k 34 7 (by omega) (by omega) (by unfold zTo; omega)]
      exact RU.2.2.1
    refine ⟨⟨by rw [← hB _ _ (by omega) (by omega), A1o _ _ (by omega) (by omega) (by omega), A1o _ _ (by omega) (by omega) (by omega)]; exact s2, fun i p1 p2 => ?_⟩, ⟨by rw [← hB _ _ (by omega) (by omega), A1o _ _ (by omega) (by omega) (by omega)]; exact d1, fun i p1 p2 => ?_⟩, ⟨by rw [A1o _ _ (by omega) (by omega) (by omega), A1o _ _ (by omega) (by omega) (by omega)]; exact b1, by rw [A1o _ _ (by omega) (by omega) (by omega)]; exact b2, by rw [A1o _ _ (by omega) (by omega) (by omega)]; exact b3, ?_, fun i p1 p2 => ?_⟩, by rw [← hB _ _ (by omega) (by omega), A1o _ _ (by omega) (by omega) (by omega)]; exact ru, qA1⟩
    · rw [A1o _ _ (by omega) (by omega) (by omega), A1o _ _ (by omega) (by omega) (by omega)] at p2
      rw [← hB _ _ (by omega) (by omega), A1o 6 _ (by omega) (by omega) (by omega), A1o 5 4 (by omega) (by omega) (by omega)]
      exact s4 i p1 p2
    · rw [A1o _ _ (by omega) (by omega) (by omega)] at p2
      rw [← hB _ _ (by omega) (by omega), A1o 37 _ (by omega) (by omega) (by omega)]
      exact d2 i p1 p2
    · rw [A1o 36 2 (by omega) (by omega) (by omega), A1o 36 1 (by omega) (by omega) (by omega), A1o 36 3 (by omega) (by omega) (by omega), zms_e (fun j => A1o 37 j (by omega) (by omega) (by omega)), zma_e (fun j => A1o 37 j (by omega) (by omega) (by omega))]
      exact b4
    · rw [A1o _ _ (by omega) (by omega) (by omega)] at p2
      rw [A1o 37 _ (by omega) (by omega) (by omega)]
      exact b5 i p1 p2
  have P1 : ∀ s : Int, 0 ≤ s → s < 3 → zSp 0 A1 B s := fun s q1 q2 => zSp_e (zRq_Sp (rq2 s q1 q2).1 h4 ⟨q1, q2⟩ qc (n0 s q1 q2).1 (n0 s q1 q2).2) (fun j _ => A1o _ _ (by omega) (by omega) (by omega)) (fun j _ _ => A1o _ _ (by omega) (by omega) (by omega)) (fun j _ _ => A1o _ _ (by omega) (by omega) (by omega)) (hB _ _ (by omega) (by omega)).symm (hB _ _ (by omega) (by omega)).symm (fun r j _ => (hB _ _ (by omega) (by omega)).symm)
  -- the dealer draws
  have i0 := zSp_i (x := 0) (P1 0 (by omega) (by omega)) (.inl rfl)
  have i1 := zSp_i (x := zmis B 0 0) (P1 1 (by omega) (by omega)) (zmis_b (.inl rfl))
  have i2 := zSp_i (x := zmis B 1 (zmis B 0 0)) (P1 2 (by omega) (by omega)) (zmis_b (zmis_b (.inl rfl)))
  simp only [Int.mul_zero, Int.add_zero, Int.mul_one, Int.reduceAdd, Int.reduceMul] at i0 i1 i2
  have nd : znd A1 = 1 ↔ zmil B = 1 := by
    unfold zmil
    rw [i2, i1, i0]
    unfold znd
    constructor
    · intro q
      split at q
      · omega
      · exact absurd q (by omega)
    · intro q
      rw [if_pos (by omega)]
  obtain ⟨A2, hA2⟩ : ∃ A2, zdd A1 = A2 := ⟨_, rfl⟩
  obtain ⟨B2, hB2⟩ : ∃ B2, (if zmil B = 1 then zmdr 18 B else B) = B2 := ⟨_, rfl⟩
  have D2 : zDk A2 B2 ∧ A1 36 1 ≤ A2 36 1 ∧ (A2 36 1 = A1 36 1 → A2 36 2 = A1 36 2 ∧ A2 36 3 = A1 36 3) := by
    rw [← hA2, ← hB2]
    unfold zdd
    by_cases q : zmil B = 1
    · rw [if_pos q, if_pos (nd.2 q)]
      exact zDk_r 18 DK
    · rw [if_neg q, if_neg (fun z => q (nd.1 z))]
      exact ⟨DK, Int.le_refl _, fun _ => ⟨rfl, rfl⟩⟩
  obtain ⟨DK2, mono, same⟩ := D2
  have A2o : ∀ r j : Int, (r ≠ 5 ∨ j ≠ 4) → r ≠ 8 → r ≠ 36 → r ≠ 37 → A2 r j = A1 r j := fun r j p1 p2 p3 p4 => by
    rw [← hA2]
    by_cases q : r = 5
    · subst q
      unfold zdd
      split
      · exact zdra_5 18 (by omega)
      · rfl
    · exact zdd_o q p2 p3 p4
  have B2o : ∀ r j : Int, (r ≠ 61 ∨ (j ≠ 35 ∧ j ≠ 36)) → r ≠ 92 → r ≠ 121 → B2 r j = B r j := fun r j p1 p2 p3 => by
    rw [← hB2]
    split
    · exact zmdr_o p1 p2 p3 18 B
    · rfl
  have nt2 : znt (A2 36 1) (A2 36 3) (A2 36 2) = 0 := by
    have x1 := A1o 36 1 (by omega) (by omega) (by omega)
    by_cases q : A2 36 1 = A1 36 1
    · rw [q, (same q).1, (same q).2, x1, A1o 36 2 (by omega) (by omega) (by omega), A1o 36 3 (by omega) (by omega) (by omega)]
      exact hn
    · unfold znt
      rw [if_neg (fun z => by have := z.1; omega)]
  have vv := zDk_v DK2
  obtain ⟨v, hv⟩ : ∃ v, zmv B2 121 (B2 61 36) = v := ⟨_, rfl⟩
  rw [hv] at vv
  have A2m : ∀ r j : Int, r ≤ 60 → r ≠ 5 → r ≠ 8 → r ≠ 36 → r ≠ 37 → A2 r j = M r j := fun r j p0 p1 p2 p3 p4 => by rw [A2o r j (by omega) p2 p3 p4, A1o r j p0 (by omega) p2]
  have B2m : ∀ r j : Int, 60 < r → r ≤ 159 → (r ≠ 61 ∨ (j ≠ 35 ∧ j ≠ 36)) → r ≠ 92 → r ≠ 121 → B2 r j = M r j := fun r j p0 p5 p1 p2 p3 => by rw [B2o r j p1 p2 p3, hB r j p0 p5]
  have Mo2 : zMon A2 B2 := zMon_e Mo (A2m _ _ (by omega) (by omega) (by omega) (by omega) (by omega)) (fun i _ _ => A2m _ _ (by omega) (by omega) (by omega) (by omega) (by omega)) (fun i j _ _ _ => A2m _ _ (by omega) (by omega) (by omega) (by omega) (by omega)) (B2m _ _ (by omega) (by omega) (by omega) (by omega) (by omega)) (fun i _ _ => B2m _ _ (by omega) (by omega) (by omega) (by omega) (by omega)) (fun i j _ _ _ => B2m _ _ (by omega) (by omega) (by omega) (by omega) (by omega))
  have ru3 : M 91 3 = M 34 8 := by
    rw [k 91 3 (by omega) (by omega) (by unfold zTo; omega), k 34 8 (by omega) (by omega) (by unfold zTo; omega)]
    exact RU.2.2.2
  have ST := zSt_all (a := A2) (b := B2) (nat := 0) (v := v) Mo2 (by rw [B2m _ _ (by omega) (by omega) (by omega) (by omega) (by omega), A2m _ _ (by omega) (by omega) (by omega) (by omega) (by omega)]; exact b38) (by rw [B2m _ _ (by omega) (by omega) (by omega) (by omega) (by omega), A2m _ _ (by omega) (by omega) (by omega) (by omega) (by omega)]; exact ru3) (by rw [A2m _ _ (by omega) (by omega) (by omega) (by omega) (by omega)]; omega) vv.1 nt2.symm (fun s q1 q2 => zSp_e (P1 s q1 q2) (fun j _ => A2o _ _ (by omega) (by omega) (by omega) (by omega)) (fun j _ _ => A2o _ _ (by omega) (by omega) (by omega) (by omega)) (fun j _ _ => A2o _ _ (by omega) (by omega) (by omega) (by omega)) (B2o _ _ (by omega) (by omega) (by omega)) (B2o _ _ (by omega) (by omega) (by omega)) (fun r j _ => B2o _ _ (by omega) (by omega) (by omega))) (fun s q1 q2 => by rw [A2m _ _ (by omega) (by omega) (by omega) (by omega) (by omega)]; exact (qc.1 s q1 q2).2.2.2.1)
  obtain ⟨c1, c2, ⟨t1, t2, t3⟩, c4, c5, SO, ZO⟩ := ST
  have dS : ∀ r j : Int, r ≤ 60 → (r ≠ 34 ∨ j ≠ 4) → d r j = zfs (zfs (zfs A2 38 39 41) 43 44 46) 48 49 51 r j := fun r j p1 p2 => by
    rw [dA r j p1]
    unfold zfnd
    rw [hA1, hA2, zm_un p2]
  have dZ : ∀ r j : Int, 60 < r → r ≤ 159 → (r ≠ 61 ∨ j ≠ 37) → d r j = zmss (zmss (zmss B2 0 v 0) 1 v 0) 2 v 0 r j := fun r j p1 p2 p3 => by
    rw [dB r j p1 p2]
    unfold zmfn
    rw [hB2]
    unfold zmsA
    rw [hv, zm_un p3]
  have d34 : d 34 4 = 0 := by rw [dA _ _ (by omega)]; exact zm_ue rfl rfl
  have d37 : d 61 37 = 0 := by
    rw [dB _ _ (by omega) (by omega)]
    unfold zmfn zmsA
    exact zm_ue rfl rfl
  have S31 : ∀ j : Int, (j ≠ 1 ∧ j ≠ 3) → zfs (zfs (zfs A2 38 39 41) 43 44 46) 48 49 51 31 j = A2 31 j := fun j hj => by
    have gg : ∀ s : Int, 0 ≤ s → s < 3 → zGr (A2 (38 + 5 * s) 2) := fun s q1 q2 => by rw [A2m _ _ (by omega) (by omega) (by omega) (by omega) (by omega)]; exact (qc.1 s q1 q2).2.2.2.1
    have g0 := gg 0 (by omega) (by omega)
    have g1 := gg 1 (by omega) (by omega)
    have g2 := gg 2 (by omega) (by omega)
    simp only [Int.mul_zero, Int.add_zero, Int.mul_one, Int.reduceAdd, Int.reduceMul] at g0 g1 g2
    have h1 : zfs A2 38 39 41 43 2 = A2 43 2 := zfs_o g0 (by omega) (by omega) (by omega) (by omega) (by omega) (by omega) (by omega) (by omega) (by omega)
    have h2 : zfs A2 38 39 41 48 2 = A2 48 2 := zfs_o g0 (by omega) (by omega) (by omega) (by omega) (by omega) (by omega) (by omega) (by omega) (by omega)
    have k1 : zGr (zfs A2 38 39 41 43 2) := by rw [h1]; exact g1
    have h3 : zfs (zfs A2 38 39 41) 43 44 46 48 2 = A2 48 2 := (zfs_o k1 (by omega) (by omega) (by omega) (by omega) (by omega) (by omega) (by omega) (by omega) (by omega)).trans h2
    rw [zfs_q (by rw [h3]; exact g2) (by omega) (by omega) (by omega) hj, zfs_q k1 (by omega) (by omega) (by omega) hj, zfs_q g0 (by omega) (by omega) (by omega) hj]
  have ZR := fun s i (h1 : 0 ≤ s ∧ s < 3) => @zms3_r B2 v 0 s i h1
  clear dA dB
  generalize zfs (zfs (zfs A2 38 39 41) 43 44 46) 48 49 51 = SS at c1 c2 t1 t2 t3 c4 c5 SO dS S31
  generalize zmss (zmss (zmss B2 0 v 0) 1 v 0) 2 v 0 = ZZ at c1 c2 c4 ZO dZ ZR
  -- the cells of the end
  have DO : ∀ r j : Int, r ≤ 60 → 1 ≤ r → ((r ≠ 34 ∨ (j ≠ 9 ∧ j ≠ 4)) ∧ r ≠ 31 ∧ r ≠ 4 ∧ (r < 15 ∨ 30 < r ∨ j ≠ 2 ∨ r % 2 = 0) ∧ (r < 38 ∨ 51 < r ∨ j < 2 ∨ j = 3 ∨ 6 < j ∨ (r ≠ 38 ∧ r ≠ 43 ∧ r ≠ 48 ∧ (j < 4 ∨ (r ≠ 39 ∧ r ≠ 41 ∧ r ≠ 44 ∧ r ≠ 46 ∧ r ≠ 49 ∧ r ≠ 51))))) → d r j = A2 r j := fun r j p0 p1 p2 => by
    rw [dS r j p0 (by omega), SO r j p1 (by omega) (by omega) (by omega) (by omega) (by omega)]
  have DZ : ∀ r j : Int, 60 < r → r ≤ 159 → (r ≠ 96 ∧ (r ≠ 61 ∨ (j ≠ 32 ∧ j ≠ 37 ∧ j ≠ 38)) ∧ r ≠ 90 ∧ r ≠ 88 ∧ r ≠ 63 ∧ (r < 114 ∨ 116 < r) ∧ (r < 118 ∨ 120 < r)) → d r j = B2 r j := fun r j p0 p1 p2 => by
    rw [dZ r j p0 p1 (by omega), ZO r j (by omega) (by omega) (by omega) (by omega) (by omega) (by omega) (by omega)]
  have DM : ∀ r j : Int, r ≤ 60 → 1 ≤ r → r ≠ 5 → r ≠ 8 → r ≠ 36 → r ≠ 37 → ((r ≠ 34 ∨ (j ≠ 9 ∧ j ≠ 4)) ∧ r ≠ 31 ∧ r ≠ 4 ∧ (r < 15 ∨ 30 < r ∨ j ≠ 2 ∨ r % 2 = 0) ∧ (r < 38 ∨ 51 < r ∨ j < 2 ∨ j = 3 ∨ 6 < j ∨ (r ≠ 38 ∧ r ≠ 43 ∧ r ≠ 48 ∧ (j < 4 ∨ (r ≠ 39 ∧ r ≠ 41 ∧ r ≠ 44 ∧ r ≠ 46 ∧ r ≠ 49 ∧ r ≠ 51))))) → d r j = M r j := fun r j p0 p1 p3 p4 p5 p6 p2 => by
    rw [DO r j p0 p1 p2, A2m r j p0 p3 p4 p5 p6]
  have DB : ∀ r j : Int, 60 < r → r ≤ 159 → (r ≠ 61 ∨ (j ≠ 35 ∧ j ≠ 36)) → r ≠ 92 → r ≠ 121 → (r ≠ 96 ∧ (r ≠ 61 ∨ (j ≠ 32 ∧ j ≠ 37 ∧ j ≠ 38)) ∧ r ≠ 90 ∧ r ≠ 88 ∧ r ≠ 63 ∧ (r < 114 ∨ 116 < r) ∧ (r < 118 ∨ 120 < r)) → d r j = M r j := fun r j p0 p1 p3 p4 p5 p2 => by
    rw [DZ r j p0 p1 p2, B2m r j p0 p1 p3 p4 p5]
  have a40 : A2 4 0 = M 4 0 := A2m _ _ (by omega) (by omega) (by omega) (by omega) (by omega)
  have a31 : A2 31 1 = M 31 1 := A2m _ _ (by omega) (by omega) (by omega) (by omega) (by omega)
  refine ⟨⟨fun r j q1 q2 q3 => ?_, ?_, fun i q1 q2 => ?_, ⟨?_, ?_, fun i q1 q2 => ?_⟩, ?_, ?_, ?_, ?_, ?_, fun s q1 q2 => ⟨?_, ?_⟩⟩, d34⟩
  · rw [← k r j q1 q2 q3]
    unfold zTo at q3
    by_cases q : r ≤ 60
    · by_cases q31 : r = 31
      · rw [q31, dS 31 j (by omega) (by omega), S31 j (by omega), A2m 31 j (by omega) (by omega) (by omega) (by omega) (by omega)]
      · exact DM r j q q1 (by omega) (by omega) (by omega) (by omega) (by omega)
    · by_cases p : r = 88 ∨ r = 90
      · omega
      · exact DB r j (by omega) q2 (by omega) (by omega) (by omega) (by omega)
  · exact zMon_e c1 (dS _ _ (by omega) (by omega)) (fun i _ _ => dS _ _ (by omega) (by omega)) (fun i j _ _ _ => dS _ _ (by omega) (by omega)) (dZ _ _ (by omega) (by omega) (by omega)) (fun i _ _ => dZ _ _ (by omega) (by omega) (by omega)) (fun i j _ _ _ => dZ _ _ (by omega) (by omega) (by omega))
  · rw [DM (15 + 2 * i) 5 (by omega) (by omega) (by omega) (by omega) (by omega) (by omega) (by omega), DB 64 i (by omega) (by omega) (by omega) (by omega) (by omega) (by omega)]
    exact S i q1 q2
  · rw [dS 4 0 (by omega) (by omega)]
    omega
  · rw [dS 31 1 (by omega) (by omega)]
    omega
  · have f1 := t3 i q1 q2
    have f2 := V3 i q1 q2
    rw [A2m (15 + 2 * i) 2 (by omega) (by omega) (by omega) (by omega) (by omega)] at f1
    rw [dS (15 + 2 * i) 2 (by omega) (by omega)]
    omega
  · rw [dS 34 9 (by omega) (by omega), dZ 61 38 (by omega) (by omega) (by omega)]
    exact c2
  · exact zIs_e DK2.2.2.2.2 (fun r j _ => DO r j (by omega) (by omega) (by omega))
  · obtain ⟨s, -, c, -⟩ := qc
    obtain ⟨-, -, ⟨b1, b2, b3, b4, b5⟩, -, -⟩ := DK2
    refine ⟨fun i q1 q2 => ?_, ⟨by rw [DO 36 1 (by omega) (by omega) (by omega), DO 36 2 (by omega) (by omega) (by omega)]; exact b1, by rw [DO 36 2 (by omega) (by omega) (by omega)]; exact b2, by rw [DO 36 3 (by omega) (by omega) (by omega)]; exact b3, ?_, fun i p1 p2 => ?_⟩, ?_, fun z => by omega⟩
    · obtain ⟨x1, x2, x3, x4, x5, x6⟩ := s i q1 q2
      obtain ⟨z1, z2, z3, z4, z5⟩ := (c4 i q1 q2).1
      have hand : ∀ h c2 : Int, (h = 39 + 5 * i ∨ h = 41 + 5 * i) → (c2 = 40 + 5 * i ∨ c2 = 42 + 5 * i) → zIh (M 34 4) M h c2 → M h 5 ≠ 1 → SS h 4 = 0 → SS h 6 = 0 → zIh (d 34 4) d h c2 := fun h c2 p1 p2 H p3 p4 p5 => by
        obtain ⟨y1, y2, y3, y4, y5, y6, y7, ⟨y8, y9⟩, y10⟩ := H
        have e5 : d h 5 = 0 := by
          rw [dS h 5 (by omega) (by omega)]
          refine c5 h (by omega) ?_
          rw [A2m h 5 (by omega) (by omega) (by omega) (by omega) (by omega)]
          omega
        have dc : ∀ j : Int, d c2 j = M c2 j := fun j => DM c2 j (by omega) (by omega) (by omega) (by omega) (by omega) (by omega) (by omega)
        have dh : ∀ j : Int, 1 ≤ j → j ≤ 3 → d h j = M h j := fun j r1 r2 => DM h j (by omega) (by omega) (by omega) (by omega) (by omega) (by omega) (by omega)
        unfold zIh
        rw [e5, dh 1 (by omega) (by omega), dh 2 (by omega) (by omega), dh 3 (by omega) (by omega), dS h 4 (by omega) (by omega), p4, dS h 6 (by omega) (by omega), p5, zms_e dc, zma_e dc]
        exact ⟨y1, y2, y3, by omega, by omega, by omega, fun z => absurd z (by omega), ⟨y8, y9⟩, fun k2 r1 r2 => by rw [dc]; exact y10 k2 r1 r2⟩
      have m := n0 i q1 q2
      refine ⟨hand _ _ (.inl rfl) (.inl rfl) x1 m.1 z1 z3, hand _ _ (.inr rfl) (.inr rfl) x2 m.2 z2 z4, ?_, ?_, ?_, ?_⟩
      · rw [DM (38 + 5 * i) 3 (by omega) (by omega) (by omega) (by omega) (by omega) (by omega) (by omega)]
        exact x3
      · rw [dS (38 + 5 * i) 2 (by omega) (by omega), z5]
        exact .inl rfl
      · intro _
        rw [dS (39 + 5 * i) 4 (by omega) (by omega), dS (41 + 5 * i) 4 (by omega) (by omega)]
        exact ⟨z1, z2⟩
      · intro p
        rw [DM (38 + 5 * i) 3 (by omega) (by omega) (by omega) (by omega) (by omega) (by omega) (by omega)] at p
        have y := x6 p
        rw [DM (41 + 5 * i) 1 (by omega) (by omega) (by omega) (by omega) (by omega) (by omega) (by omega), dS (41 + 5 * i) 4 (by omega) (by omega), dS (41 + 5 * i) 5 (by omega) (by omega)]
        refine ⟨y.1, z2, c5 _ (by omega) ?_⟩
        rw [A2m (41 + 5 * i) 5 (by omega) (by omega) (by omega) (by omega) (by omega)]
        exact y.2.2
    · rw [DO 36 1 (by omega) (by omega) (by omega), DO 36 2 (by omega) (by omega) (by omega), DO 36 3 (by omega) (by omega) (by omega), zms_e (fun j => DO 37 j (by omega) (by omega) (by omega)), zma_e (fun j => DO 37 j (by omega) (by omega) (by omega))]
      exact b4
    · rw [DO 36 1 (by omega) (by omega) (by omega)] at p2
      rw [DO 37 i (by omega) (by omega) (by omega)]
      exact b5 i p1 p2
    · rw [d34, DM 34 5 (by omega) (by omega) (by omega) (by omega) (by omega) (by omega) (by omega), DM 34 6 (by omega) (by omega) (by omega) (by omega) (by omega) (by omega) (by omega), DM 34 7 (by omega) (by omega) (by omega) (by omega) (by omega) (by omega) (by omega), DM 34 8 (by omega) (by omega) (by omega) (by omega) (by omega) (by omega) (by omega)]
      exact ⟨.inl rfl, c.2⟩
  · obtain ⟨⟨s1, s2, s3⟩, s4, s5, s6, s7⟩ := rs2
    obtain ⟨⟨e1, e2⟩, -⟩ := DK2
    have d57 : d 5 7 = 0 := by rw [DO 5 7 (by omega) (by omega) (by omega), A2o 5 7 (by omega) (by omega) (by omega) (by omega), A157]
    refine ⟨⟨?_, ?_, by rw [d37, d34]⟩, fun i q1 q2 => ?_, fun r q1 q2 => ?_, fun _ => d57, fun z => by omega⟩
    · rw [DB 61 34 (by omega) (by omega) (by omega) (by omega) (by omega) (by omega), DO 5 6 (by omega) (by omega) (by omega), A2o 5 6 (by omega) (by omega) (by omega) (by omega), A1o 5 6 (by omega) (by omega) (by omega)]
      exact s1
    · rw [DZ 61 35 (by omega) (by omega) (by omega), DO 5 5 (by omega) (by omega) (by omega), DO 5 4 (by omega) (by omega) (by omega)]
      exact e1
    · rw [DO 5 5 (by omega) (by omega) (by omega), DO 5 4 (by omega) (by omega) (by omega)] at q2
      rw [DZ 92 i (by omega) (by omega) (by omega), DO 5 4 (by omega) (by omega) (by omega), DO 6 _ (by omega) (by omega) (by omega)]
      exact e2 i q1 q2
    · rw [DB 95 r (by omega) (by omega) (by omega) (by omega) (by omega) (by omega), DM 9 r (by omega) (by omega) (by omega) (by omega) (by omega) (by omega) (by omega)]
      exact s5 r q1 q2
  · obtain ⟨-, ⟨e1, e2⟩, -⟩ := DK2
    refine ⟨by rw [DZ 61 36 (by omega) (by omega) (by omega), DO 36 1 (by omega) (by omega) (by omega)]; exact e1, fun i q1 q2 => ?_⟩
    rw [DO 36 1 (by omega) (by omega) (by omega)] at q2
    rw [DZ 121 i (by omega) (by omega) (by omega), DO 37 i (by omega) (by omega) (by omega)]
    exact e2 i q1 q2
  · obtain ⟨w1, w2, w3, w4, -, on, k1, k2⟩ := (rq2 s q1 q2).1
    obtain ⟨⟨z1, z2, z3, z4, z5⟩, z6⟩ := c4 s q1 q2
    obtain ⟨o1, o2, o3, o4, o5, o6, o7⟩ := on h4
    have sp := P1 s q1 q2
    have m := n0 s q1 q2
    have xx := qc.1 s q1 q2
    have f5 := xx.1.2.2.2.2.1
    have g5 := xx.2.1.2.2.2.2.1
    have y5 := c5 (39 + 5 * s) (by omega) (by rw [A2m (39 + 5 * s) 5 (by omega) (by omega) (by omega) (by omega) (by omega)]; omega)
    have u5 := c5 (41 + 5 * s) (by omega) (by rw [A2m (41 + 5 * s) 5 (by omega) (by omega) (by omega) (by omega) (by omega)]; omega)
    unfold zRq
    rw [d34, dZ 96 s (by omega) (by omega) (by omega), z6, dS (38 + 5 * s) 2 (by omega) (by omega), z5, DB 98 s (by omega) (by omega) (by omega) (by omega) (by omega) (by omega), DB 97 s (by omega) (by omega) (by omega) (by omega) (by omega) (by omega), o1, dS (39 + 5 * s) 4 (by omega) (by omega), z1, dS (41 + 5 * s) 4 (by omega) (by omega), z2, dS (39 + 5 * s) 5 (by omega) (by omega), y5, dS (41 + 5 * s) 5 (by omega) (by omega), u5, dS (39 + 5 * s) 6 (by omega) (by omega), z3, dS (41 + 5 * s) 6 (by omega) (by omega), z4, DM (38 + 5 * s) 3 (by omega) (by omega) (by omega) (by omega) (by omega) (by omega) (by omega), DM (39 + 5 * s) 1 (by omega) (by omega) (by omega) (by omega) (by omega) (by omega) (by omega), DM (41 + 5 * s) 1 (by omega) (by omega) (by omega) (by omega) (by omega) (by omega) (by omega), DB (110 + s) 0 (by omega) (by omega) (by omega) (by omega) (by omega) (by omega), DB (110 + s) 1 (by omega) (by omega) (by omega) (by omega) (by omega) (by omega)]
    refine ⟨.inl ⟨rfl, rfl⟩, w2, ?_, ?_, fun _ => ⟨rfl, rfl, rfl, rfl, rfl, rfl, ⟨fun _ => rfl, fun _ => rfl⟩, by decide⟩, fun z => absurd z (by omega), fun p => ?_, fun p => ?_⟩
    · rw [dZ (118 + s) 0 (by omega) (by omega) (by omega), dZ (118 + s) 1 (by omega) (by omega) (by omega)]
      have r0 := (ZR s 0 ⟨q1, q2⟩).2
      have r1 := (ZR s 1 ⟨q1, q2⟩).2
      rw [B2m (118 + s) 0 (by omega) (by omega) (by omega) (by omega) (by omega)] at r0
      rw [B2m (118 + s) 1 (by omega) (by omega) (by omega) (by omega) (by omega)] at r1
      omega
    · rw [dZ (114 + s) 0 (by omega) (by omega) (by omega), dZ (114 + s) 1 (by omega) (by omega) (by omega)]
      have r0 := (ZR s 0 ⟨q1, q2⟩).1
      have r1 := (ZR s 1 ⟨q1, q2⟩).1
      rw [B2m (114 + s) 0 (by omega) (by omega) (by omega) (by omega) (by omega)] at r0
      rw [B2m (114 + s) 1 (by omega) (by omega) (by omega) (by omega) (by omega)] at r1
      omega
    · obtain ⟨n1, n2, n3, n4⟩ := k1 p
      refine ⟨n1, n2, fun j r1 r2 => ?_, n4⟩
      rw [DB (101 + 3 * s) j (by omega) (by omega) (by omega) (by omega) (by omega) (by omega), DM (40 + 5 * s) j (by omega) (by omega) (by omega) (by omega) (by omega) (by omega) (by omega)]
      exact n3 j r1 r2
    · obtain ⟨n1, n2, n3⟩ := k2 p
      refine ⟨n1, n2, fun j r1 r2 => ?_⟩
      rw [DB (102 + 3 * s) j (by omega) (by omega) (by omega) (by omega) (by omega) (by omega), DM (42 + 5 * s) j (by omega) (by omega) (by omega) (by omega) (by omega) (by omega) (by omega)]
      exact n3 j r1 r2
  · rw [dS (38 + 5 * s) 2 (by omega) (by omega), ((c4 s q1 q2).1).2.2.2.2]
    omega
/-- the round goes on or ends -/
theorem zRnd_go {e A B M d : zm_D} (hA : ∀ r j : Int, r ≤ 60 → M r j = A r j) (hB : ∀ r j : Int, 60 < r → r ≤ 159 → M r j = B r j) (RU : zRu e) (H19 : 0 ≤ e 1 9) (Q : zQz 0 e M) (h4 : M 34 4 = 1) (hn : znt (M 36 1) (M 36 3) (M 36 2) = 0) (h2 : z2c M) (dA : ∀ r j : Int, r ≤ 60 → d r j = zgoc A r j) (dB : ∀ r j : Int, 60 < r → r ≤ 159 → d r j = zmgo B r j) : zQz 1 e d ∧ (d 34 4 = 1 → zNn d) ∧ zst d = (if 0 ≤ zst M then zst M else -1) := by
  have sA : zst A = zst M := by
    unfold zst
    rw [hA _ _ (by omega), hA _ _ (by omega), hA _ _ (by omega), hA _ _ (by omega), hA _ _ (by omega), hA _ _ (by omega)]
  have tB : zmtn B = zmtn M := by
    unfold zmtn
    rw [zmts_e (e := M) (d := B) (hB _ _ (by omega) (by omega)).symm (hB _ _ (by omega) (by omega)).symm (hB _ _ (by omega) (by omega)).symm, zmts_e (e := M) (d := B) (hB _ _ (by omega) (by omega)).symm (hB _ _ (by omega) (by omega)).symm (hB _ _ (by omega) (by omega)).symm, zmts_e (e := M) (d := B) (hB _ _ (by omega) (by omega)).symm (hB _ _ (by omega) (by omega)).symm (hB _ _ (by omega) (by omega)).symm]
  have T := zRq_tn (fun s q1 q2 => (Q.2.2.2.2.2.2.2.2.2 s q1 q2).1) h4
  unfold zgoc at dA
  unfold zmgo at dB
  rw [sA] at dA
  rw [tB] at dB
  by_cases hz : zst M < 0
  · rw [if_neg (by omega)] at dA
    rw [if_pos (by have := T.1 hz; omega)] at dB
    have E := zRnd_end hA hB RU H19 Q h4 hn hz dA dB
    refine ⟨E.1, fun p => by have := E.2; omega, ?_⟩
    rw [if_neg (by omega)]
    have off : ∀ h : Int, (h = 39 ∨ h = 41 ∨ h = 44 ∨ h = 46 ∨ h = 49 ∨ h = 51) → d h 5 ≠ 1 := fun h p z => by
      have c := E.1.2.2.2.2.2.2.1.1
      have c0 := c 0 (by omega) (by omega)
      have c1 := c 1 (by omega) (by omega)
      have c2 := c 2 (by omega) (by omega)
      have o := E.2
      rcases p with p | p | p | p | p | p
      all_goals subst p
      · have := (c0.1.2.2.2.2.2.2.1 z).1; omega
      · have := (c0.2.1.2.2.2.2.2.2.1 z).1; omega
      · have := (c1.1.2.2.2.2.2.2.1 z).1; omega
      · have := (c1.2.1.2.2.2.2.2.2.1 z).1; omega
      · have := (c2.1.2.2.2.2.2.2.1 z).1; omega
      · have := (c2.2.1.2.2.2.2.2.2.1 z).1; omega
    unfold zst
    rw [if_neg (fun z => z.elim (off 39 (by omega)) (off 41 (by omega))), if_neg (fun z => z.elim (off 44 (by omega)) (off 46 (by omega))), if_neg (fun z => z.elim (off 49 (by omega)) (off 51 (by omega)))]
  · rw [if_pos (by omega)] at dA
    rw [if_neg (by
      have t := T.2 (by omega)
      by_cases p : M (39 + 5 * zst M) 5 = 1
      · have := t.1 p; omega
      · have := t.2 p; omega)] at dB
    have dM : ∀ r j : Int, 1 ≤ r → r ≤ 159 → d r j = M r j := fun r j q1 q2 => by
      by_cases q : r ≤ 60
      · rw [dA r j q, hA r j q]
      · rw [dB r j (by omega) q2, hB r j (by omega) q2]
    have sd : zst d = zst M := by
      unfold zst
      rw [dM _ _ (by omega) (by omega), dM _ _ (by omega) (by omega), dM _ _ (by omega) (by omega), dM _ _ (by omega) (by omega), dM _ _ (by omega) (by omega), dM _ _ (by omega) (by omega)]
    refine ⟨zQz_m (zQz_e Q dM), fun _ => ⟨?_, by rw [sd]; omega, z2c_e h2 (fun r j _ _ => dM r j (by omega) (by omega))⟩, by rw [sd, if_pos (by omega)]⟩
    rw [dM _ _ (by omega) (by omega), dM _ _ (by omega) (by omega), dM _ _ (by omega) (by omega)]
    exact hn
