/-! ===== STEPS: the cards dealt ===== -/
set_option maxRecDepth 65536
/-- the dealer gets a card, seen or not -/
theorem zDk_t {a b T : zm_D} (H : zDk a b) (x17 : a 36 2 ≤ 16) (hl : a 5 4 < a 5 5) (t4 : T 5 4 = a 5 4 + 1) (t5 : T 5 5 = a 5 5) (to : ∀ r j : Int, r ≠ 5 → r ≠ 8 → T r j = a r j) (I2 : zIs T) : zDk (zad T 36 37 (a 6 (a 5 4))) (zmda b) := by
  obtain ⟨⟨s1, s2⟩, ⟨d1, d2⟩, ⟨c1, c2, c3, ⟨c4, c5⟩, c6⟩, r, I⟩ := H
  have xb := I.1.2 (a 5 4) (by omega) hl
  have b0 := s2 0 (by decide) (by omega)
  rw [Int.add_zero] at b0
  obtain ⟨x, hx⟩ : ∃ x, a 6 (a 5 4) = x := ⟨_, rfl⟩
  rw [hx] at xb b0 ⊢
  obtain ⟨n, hn⟩ : ∃ n : Nat, a 36 1 = (n : Int) := ⟨(a 36 1).toNat, by omega⟩
  have O : ∀ r j : Int, r ≠ 36 → r ≠ 37 → zad T 36 37 x r j = T r j := fun r j q1 q2 => zad_o q1 q2
  have e1 : zad T 36 37 x 36 1 = (n : Int) + 1 := by rw [zad_1, to _ _ (by decide) (by decide), hn]
  have e2 : zad T 36 37 x 36 2 = a 36 2 + x := by rw [zad_2, to _ _ (by decide) (by decide)]
  have e3 : zad T 36 37 x 36 3 = zor (a 36 3) x := by rw [zad_3, to _ _ (by decide) (by decide)]
  have e7 : ∀ j, zad T 36 37 x 37 j = if j = (n : Int) then x else a 37 j := fun j => by
    rw [zad_c (by decide), to _ _ (by decide) (by decide), to _ _ (by decide) (by decide), hn]
  have z := @zms_x a (zad T 36 37 x) 37 37 n (fun k q1 q2 => by rw [e7, if_neg (by omega)])
  rw [hn] at c1 c4 c5 c6 d1 d2
  rw [Int.toNat_natCast] at c4 c5
  refine ⟨⟨?_, fun k q1 q2 => ?_⟩, ⟨?_, fun k q1 q2 => ?_⟩, ⟨?_, ?_, ?_, ⟨?_, ?_⟩, fun k q1 q2 => ?_⟩, ?_, ?_⟩
  · rw [zmda_1.1, O _ _ (by decide) (by decide), O _ _ (by decide) (by decide), t5, t4, s1]
    omega
  · rw [O _ _ (by decide) (by decide), O _ _ (by decide) (by decide), t5, t4] at q2
    rw [zmda_s (by omega), s2 (k + 1) (by omega) (by omega), O 6 _ (by decide) (by decide), O 5 4 (by decide) (by decide), t4, to _ _ (by decide) (by decide), show a 5 4 + (k + 1) = a 5 4 + 1 + k by omega]
  · rw [zmda_1.2, e1, d1]
  · rw [e1] at q2
    rw [zmda_d, e7, d1, b0]
    by_cases p : k = (n : Int)
    · rw [if_pos p, if_pos p]
    · rw [if_neg p, if_neg p]
      exact d2 k q1 (by omega)
  · rw [e1, e2]
    omega
  · rw [e2]
    omega
  · rw [e3]
    exact zor_b
  · rw [e1, e2, show ((n : Int) + 1).toNat = n + 1 by omega]
    show _ = zms (zad T 36 37 x) 37 n + zad T 36 37 x 37 (n : Int)
    rw [z.1, e7, if_pos rfl, c4]
  · rw [e1, e3, show ((n : Int) + 1).toNat = n + 1 by omega]
    show _ = (if zma (zad T 36 37 x) 37 n = 1 ∨ zad T 36 37 x 37 (n : Int) = 1 then (1 : Int) else 0)
    rw [z.2, e7, if_pos rfl, ← c5]
    unfold zor
    split <;> split <;> omega
  · rw [e1] at q2
    rw [e7]
    split
    · exact xb
    · exact c6 k q1 (by omega)
  · rw [zmda_o (by decide) (by decide) (by decide), O _ _ (by decide) (by decide), to _ _ (by decide) (by decide)]
    exact r
  · exact zIs_e I2 (fun r j q => O r j (by omega) (by omega))
/-- a card is dealt unseen -/
theorem zIs_th {e : zm_D} (H : zIs e) (h : e 5 4 < e 5 5) (h7 : e 5 7 = 0) : zIs (zth e) := by
  obtain ⟨⟨a1, a2⟩, b, c, f, g⟩ := H
  obtain ⟨x, hx⟩ : ∃ x, e 6 (e 5 4) = x := ⟨_, rfl⟩
  have xb := a2 (e 5 4) (by omega) h
  rw [hx] at xb
  have k5 : ∀ j : Int, j ≠ 4 → j ≠ 7 → zth e 5 j = e 5 j := fun j q q2 => (zm_un (.inr q2)).trans (zm_un (.inr q))
  have k7 : zth e 5 7 = x := by unfold zth; rw [zm_ue rfl rfl, hx]
  have kk : ∀ r j : Int, r ≠ 5 → zth e r j = e r j := fun r j q => (zm_un (.inl q)).trans (zm_un (.inl q))
  have k6 : ∀ j : Int, zth e 6 j = e 6 j := fun j => kk _ _ (by decide)
  have k4 : zth e 5 4 = e 5 4 + 1 := (zm_un (.inr (by decide))).trans (zm_ue rfl rfl)
  refine ⟨⟨by rw [k4, k5 5 (by decide) (by decide)]; omega, fun i q1 q2 => ?_⟩, by rw [k7]; omega, by rw [k5 6 (by decide) (by decide)]; exact c, fun r q1 q2 => ?_, fun r q1 q2 => by rw [kk _ _ (by decide)]; exact g r q1 q2⟩
  · rw [k4] at q1
    rw [k5 5 (by decide) (by decide)] at q2
    rw [k6]
    exact a2 i (by omega) q2
  · have w := f r q1 q2
    obtain ⟨n, hn⟩ : ∃ n : Nat, e 5 5 - e 5 4 = ((n + 1 : Nat) : Int) := ⟨(e 5 5 - e 5 4 - 1).toNat, by omega⟩
    have e8 : zth e 8 r = e 8 r := kk _ _ (by decide)
    have ec : zch e r (n + 1) = (if x = r then 1 else 0) + zch (zth e) r n := by
      have s1 := @zsu_s (zrkf e r) 1 n
      rw [zch_z, zch_z, Nat.add_comm n 1]
      have s2 : zsu (zrkf (zth e) r) n = zsu (fun i => zrkf e r (i + ((1 : Nat) : Int))) n := zsu_e n (fun i p1 p2 => by
        show (if zth e 6 (zth e 5 4 + i) = r then (1 : Int) else 0) = (if e 6 (e 5 4 + (i + ((1 : Nat) : Int))) = r then 1 else 0)
        rw [k6, k4, show e 5 4 + 1 + i = e 5 4 + (i + ((1 : Nat) : Int)) by omega])
      rw [s2, s1]
      have s3 : zsu (zrkf e r) 1 = if x = r then 1 else 0 := by
        show (0 : Int) + (if e 6 (e 5 4 + ((0 : Nat) : Int)) = r then 1 else 0) = _
        rw [show e 5 4 + ((0 : Nat) : Int) = e 5 4 by omega, hx]
        omega
      rw [s3]
      omega
    have ew : zwf (zth e) r + zth e 8 r = zwf e r + e 8 r := by
      unfold zwf zhd1
      rw [k7, h7, if_neg (show ¬ (0 : Int) = r by omega), k5 5 (by decide) (by decide), k4, e8, hn, show (e 5 5 - (e 5 4 + 1)).toNat = n by omega, show (((n + 1 : Nat) : Int)).toNat = n + 1 by omega, ec]
      omega
    rw [ew, k5 6 (by decide) (by decide), e8]
    exact w
theorem zDk_e {a b c d : zm_D} (H : zDk a b) (h5 : ∀ r j : Int, (r = 5 ∨ r = 6 ∨ r = 8 ∨ r = 9 ∨ r = 36 ∨ r = 37 ∨ (r = 34 ∧ j = 7)) → c r j = a r j) (h6 : ∀ r j : Int, ((r = 61 ∧ (j = 35 ∨ j = 36)) ∨ r = 92 ∨ r = 121 ∨ (r = 91 ∧ j = 2)) → d r j = b r j) : zDk c d := by
  obtain ⟨⟨s1, s2⟩, ⟨d1, d2⟩, ⟨c1, c2, c3, ⟨c4, c5⟩, c6⟩, r, I⟩ := H
  refine ⟨⟨by rw [h6 61 35 (by omega), h5 5 5 (by omega), h5 5 4 (by omega)]; exact s1, fun k q1 q2 => ?_⟩, ⟨by rw [h6 61 36 (by omega), h5 36 1 (by omega)]; exact d1, fun k q1 q2 => ?_⟩, ⟨by rw [h5 36 1 (by omega), h5 36 2 (by omega)]; exact c1, by rw [h5 36 2 (by omega)]; exact c2, by rw [h5 36 3 (by omega)]; exact c3, ⟨by rw [h5 36 1 (by omega), h5 36 2 (by omega), zms_e (fun i => h5 37 i (by omega))]; exact c4, by rw [h5 36 1 (by omega), h5 36 3 (by omega), zma_e (fun i => h5 37 i (by omega))]; exact c5⟩, fun k q1 q2 => ?_⟩, by rw [h6 91 2 (by omega), h5 34 7 (by omega)]; exact r, zIs_e I (fun r j q => h5 r j (by omega))⟩
  · rw [h5 5 5 (by omega), h5 5 4 (by omega)] at q2
    rw [h6 92 k (by omega), h5 5 4 (by omega), h5 6 _ (by omega)]
    exact s2 k q1 q2
  · rw [h5 36 1 (by omega)] at q2
    rw [h6 121 k (by omega), h5 37 k (by omega)]
    exact d2 k q1 q2
  · rw [h5 36 1 (by omega)] at q2
    rw [h5 37 k (by omega)]
    exact c6 k q1 q2
/-- seat s has c cards, or does not play -/
def zDv (c : Int) (a b : zm_D) (s : Int) : Prop := (b 98 s = 0 ∨ b 98 s = 1) ∧ (b 98 s = 1 ↔ 0 < a (39 + 5 * s) 4 + a (41 + 5 * s) 4) ∧ ((b 98 s = 0 → a (39 + 5 * s) 1 = 0) ∧ (b 98 s = 1 → a (39 + 5 * s) 1 = c)) ∧ b (110 + s) 0 = a (39 + 5 * s) 1 ∧ (0 ≤ a (39 + 5 * s) 1 ∧ a (39 + 5 * s) 1 ≤ a (39 + 5 * s) 2 ∧ a (39 + 5 * s) 2 ≤ 10 * a (39 + 5 * s) 1) ∧ (0 ≤ a (39 + 5 * s) 3 ∧ a (39 + 5 * s) 3 ≤ 1) ∧ (a (39 + 5 * s) 2 = zms a (40 + 5 * s) (a (39 + 5 * s) 1).toNat ∧ a (39 + 5 * s) 3 = zma a (40 + 5 * s) (a (39 + 5 * s) 1).toNat) ∧ (∀ k : Int, 0 ≤ k → k < a (39 + 5 * s) 1 → (1 ≤ a (40 + 5 * s) k ∧ a (40 + 5 * s) k ≤ 10) ∧ b (101 + 3 * s) k = a (40 + 5 * s) k)
theorem zDv_e {x : Int} {a b c d : zm_D} {s : Int} (H : zDv x a b s) (h39 : ∀ j : Int, 1 ≤ j → j ≤ 4 → c (39 + 5 * s) j = a (39 + 5 * s) j) (h41 : c (41 + 5 * s) 4 = a (41 + 5 * s) 4) (h40 : ∀ j : Int, c (40 + 5 * s) j = a (40 + 5 * s) j) (h98 : d 98 s = b 98 s) (h110 : d (110 + s) 0 = b (110 + s) 0) (h101 : ∀ j : Int, d (101 + 3 * s) j = b (101 + 3 * s) j) : zDv x c d s := by
  unfold zDv at *
  rw [h39 1 (by decide) (by decide), h39 2 (by decide) (by decide), h39 3 (by decide) (by decide), h39 4 (by decide) (by decide), h41, h98, h110, zms_e h40, zma_e h40]
  obtain ⟨q1, q2, q3, q4, q5, q6, q7, q8⟩ := H
  exact ⟨q1, q2, q3, q4, q5, q6, q7, fun k p1 p2 => by rw [h40, h101]; exact q8 k p1 p2⟩
/-- a seat's card -/
theorem zDv_s {c : Int} {a b : zm_D} {s : Int} (hs : 0 ≤ s ∧ s < 3) (hc : 0 ≤ c ∧ c < 3) (K : zDk a b) (V : zDv c a b s) (hl : a 5 4 < a 5 5) : zDk (zds1 a (39 + 5 * s) (41 + 5 * s) (40 + 5 * s)) (zmd2 b s) ∧ zDv (c + 1) (zds1 a (39 + 5 * s) (41 + 5 * s) (40 + 5 * s)) (zmd2 b s) s ∧ (∀ r j : Int, r ≠ 5 → r ≠ 8 → r ≠ 39 + 5 * s → r ≠ 40 + 5 * s → zds1 a (39 + 5 * s) (41 + 5 * s) (40 + 5 * s) r j = a r j) ∧ (∀ j : Int, 4 ≤ j → zds1 a (39 + 5 * s) (41 + 5 * s) (40 + 5 * s) (39 + 5 * s) j = a (39 + 5 * s) j) ∧ (∀ r j : Int, (r ≠ 61 ∨ j ≠ 35) → r ≠ 92 → r ≠ 101 + 3 * s → (r ≠ 110 + s ∨ j ≠ 0) → zmd2 b s r j = b r j) ∧ (zds1 a (39 + 5 * s) (41 + 5 * s) (40 + 5 * s) 5 5 = a 5 5 ∧ zds1 a (39 + 5 * s) (41 + 5 * s) (40 + 5 * s) 5 7 = a 5 7 ∧ zds1 a (39 + 5 * s) (41 + 5 * s) (40 + 5 * s) 5 6 = a 5 6 ∧ a 5 4 ≤ zds1 a (39 + 5 * s) (41 + 5 * s) (40 + 5 * s) 5 4 ∧ zds1 a (39 + 5 * s) (41 + 5 * s) (40 + 5 * s) 5 4 ≤ a 5 4 + 1) := by
  obtain ⟨v1, v2, v3, v4, v5, v6, ⟨v7, v8⟩, v9⟩ := V
  unfold zds1 zmd2
  by_cases p : b 98 s = 1
  · rw [if_pos (v2.1 p), if_pos (by omega)]
    obtain ⟨⟨s1, s2⟩, D, E, r91, I⟩ := K
    have xb := I.1.2 (a 5 4) (by omega) hl
    have b0 := s2 0 (by decide) (by omega)
    rw [Int.add_zero] at b0
    obtain ⟨x, hx⟩ : ∃ x, a 6 (a 5 4) = x := ⟨_, rfl⟩
    rw [hx] at xb b0 ⊢
    have n1 := v3.2 p
    obtain ⟨n, hn⟩ : ∃ n : Nat, a (39 + 5 * s) 1 = (n : Int) := ⟨(a (39 + 5 * s) 1).toNat, by omega⟩
    have O : ∀ r j : Int, r ≠ 39 + 5 * s → r ≠ 40 + 5 * s → zad (ztk a) (39 + 5 * s) (40 + 5 * s) x r j = ztk a r j := fun r j q1 q2 => zad_o q1 q2
    have t5 : ztk a 5 5 = a 5 5 := ztk_k (by decide)
    have e1 : zad (ztk a) (39 + 5 * s) (40 + 5 * s) x (39 + 5 * s) 1 = (n : Int) + 1 := by rw [zad_1, ztk_o (by omega) (by omega), hn]
    have e2 : zad (ztk a) (39 + 5 * s) (40 + 5 * s) x (39 + 5 * s) 2 = a (39 + 5 * s) 2 + x := by rw [zad_2, ztk_o (by omega) (by omega)]
    have e3 : zad (ztk a) (39 + 5 * s) (40 + 5 * s) x (39 + 5 * s) 3 = zor (a (39 + 5 * s) 3) x := by rw [zad_3, ztk_o (by omega) (by omega)]
    have e4 : ∀ j : Int, 4 ≤ j → zad (ztk a) (39 + 5 * s) (40 + 5 * s) x (39 + 5 * s) j = a (39 + 5 * s) j := fun j q => by rw [zad_k (by omega) q, ztk_o (by omega) (by omega)]
    have e7 : ∀ j, zad (ztk a) (39 + 5 * s) (40 + 5 * s) x (40 + 5 * s) j = if j = (n : Int) then x else a (40 + 5 * s) j := fun j => by
      rw [zad_c (by omega), ztk_o (by omega) (by omega), ztk_o (by omega) (by omega), hn]
    have z := @zms_x a (zad (ztk a) (39 + 5 * s) (40 + 5 * s) x) (40 + 5 * s) (40 + 5 * s) n (fun k q1 q2 => by rw [e7, if_neg (by omega)])
    have f41 : zad (ztk a) (39 + 5 * s) (40 + 5 * s) x (41 + 5 * s) 4 = a (41 + 5 * s) 4 := by rw [O _ _ (by omega) (by omega), ztk_o (by omega) (by omega)]
    have g98 : zmtk b s 0 (101 + 3 * s) 98 s = b 98 s := zmtk_o0 (by omega) (by omega) (by omega) (by omega)
    have g35 : zmtk b s 0 (101 + 3 * s) 61 35 = b 61 35 - 1 := (zm_un (Or.inl (by omega))).trans ((zm_un (Or.inl (by omega))).trans zmnx_c)
    have g92 : ∀ k : Int, 0 ≤ k → k < b 61 35 - 1 → zmtk b s 0 (101 + 3 * s) 92 k = b 92 (k + 1) := fun k q1 q2 => (zm_un (Or.inl (by omega))).trans ((zm_un (Or.inl (by omega))).trans (zmnx_s ⟨q1, q2⟩))
    rw [hn] at v5 v7 v8 v9 v4
    rw [Int.toNat_natCast] at v7 v8
    have v21 := v2.1 p
    refine ⟨⟨⟨?_, fun k q1 q2 => ?_⟩, ?_, ?_, ?_, zIs_e (zIs_tk I hl) (fun r j q => O r j (by omega) (by omega))⟩, ?_, fun r j q1 q2 q3 q4 => by rw [O r j q3 q4, ztk_o q1 q2], e4, fun r j q1 q2 q3 q4 => zmtk_o0 q1 q2 q3 q4, ⟨by rw [O _ _ (by omega) (by omega)]; exact t5, by rw [O _ _ (by omega) (by omega)]; exact ztk_k (by decide), by rw [O _ _ (by omega) (by omega)]; exact ztk_k (by decide), by rw [O _ _ (by omega) (by omega), ztk_4]; omega, by rw [O _ _ (by omega) (by omega), ztk_4]; omega⟩⟩
    · rw [g35, O _ _ (by omega) (by omega), O _ _ (by omega) (by omega), t5, ztk_4, s1]
      omega
    · rw [O _ _ (by omega) (by omega), O _ _ (by omega) (by omega), t5, ztk_4] at q2
      rw [g92 k q1 (by omega), s2 (k + 1) (by omega) (by omega), O 6 _ (by omega) (by omega), O 5 4 (by omega) (by omega), ztk_4, ztk_o (by decide) (by decide), show a 5 4 + (k + 1) = a 5 4 + 1 + k by omega]
    · rw [zmtk_o0 (by omega) (by omega) (by omega) (by omega), O 36 1 (by omega) (by omega), ztk_o (by decide) (by decide)]
      exact ⟨D.1, fun k q1 q2 => by
        rw [zmtk_o0 (by omega) (by omega) (by omega) (by omega), O 37 k (by omega) (by omega), ztk_o (by decide) (by decide)]
        exact D.2 k q1 q2⟩
    · have o6 : ∀ j, zad (ztk a) (39 + 5 * s) (40 + 5 * s) x 36 j = a 36 j := fun j => by rw [O _ _ (by omega) (by omega), ztk_o (by decide) (by decide)]
      have o7 : ∀ j, zad (ztk a) (39 + 5 * s) (40 + 5 * s) x 37 j = a 37 j := fun j => by rw [O _ _ (by omega) (by omega), ztk_o (by decide) (by decide)]
      rw [o6, o6, o6, zms_e o7, zma_e o7]
      exact ⟨E.1, E.2.1, E.2.2.1, E.2.2.2.1, fun k q1 q2 => by rw [o7]; exact E.2.2.2.2 k q1 q2⟩
    · rw [zmtk_o0 (by omega) (by omega) (by omega) (by omega), O _ _ (by omega) (by omega), ztk_o (by decide) (by decide)]
      exact r91
    · unfold zDv
      rw [g98, e1, e2, e3, e4 4 (by decide), f41, zmtk_n0, v4, show ((n : Int) + 1).toNat = n + 1 by omega]
      refine ⟨v1, v2, ⟨fun q => by omega, fun _ => by omega⟩, rfl, by omega, zor_b, ⟨?_, ?_⟩, fun k q1 q2 => ?_⟩
      · show _ = zms (zad (ztk a) (39 + 5 * s) (40 + 5 * s) x) (40 + 5 * s) n + zad (ztk a) (39 + 5 * s) (40 + 5 * s) x (40 + 5 * s) (n : Int)
        rw [z.1, e7, if_pos rfl, v7]
      · show _ = (if zma (zad (ztk a) (39 + 5 * s) (40 + 5 * s) x) (40 + 5 * s) n = 1 ∨ zad (ztk a) (39 + 5 * s) (40 + 5 * s) x (40 + 5 * s) (n : Int) = 1 then (1 : Int) else 0)
        rw [z.2, e7, if_pos rfl, ← v8]
        unfold zor
        split <;> split <;> omega
      · rw [e7, zmtk_r0 hs, v4, b0]
        by_cases y : k = (n : Int)
        · rw [if_pos y, if_pos y]
          exact ⟨xb, rfl⟩
        · rw [if_neg y, if_neg y]
          exact v9 k q1 (by omega)
  · have p0 : b 98 s = 0 := by omega
    rw [if_neg (fun q => p (v2.2 q)), if_neg (by omega)]
    exact ⟨K, ⟨v1, v2, ⟨v3.1, fun q => absurd q p⟩, v4, v5, v6, ⟨v7, v8⟩, v9⟩, fun r j _ _ _ _ => rfl, fun j _ => rfl, fun r j _ _ _ _ => rfl, ⟨rfl, rfl, rfl, by omega, by omega⟩⟩
