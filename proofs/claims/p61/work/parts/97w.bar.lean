/-! ===== STEPS: bar ===== -/
set_option maxRecDepth 65536
theorem zBar_3 {t : Int} {e E : zm_D} {x y : Int} (I : zIn t e) (J : zIp t e) (R : zRe e) (hx : 0 ≤ x ∧ x < e 1 9) (hk : e 1 10 < y ∧ y ≤ 999) (EO : ∀ r j : Int, 60 < r → r ≤ 159 → E r j = e r j) : ∃ F, zIn t F ∧ zIp t F ∧ zRe F ∧ zQz 0 F (zmx (zcE e x y) (zmbC E x y)) ∧ (z2c e → z2c (zcE e x y)) ∧ zcBk e x y = zmbV E x y ∧ (∀ j : Int, F 34 j = e 34 j) ∧ (∀ j : Int, zcE e x y 36 j = e 36 j) := by
  have it := I.1
  have ia := I.2.1
  have iw := I.2.2.2.2.2.2.2.1
  have im := I.2.2.2.2.2.2.2.2.1
  have il := I.2.2.2.2.2.2.2.2.2
  have ic := I.2.2.2.2.2.2.1
  have rv := R.2.2.2.2.2.2.2.2.1
  have rm := R.2.2.2.2.2.2.2.2.2.1
  have rl := R.2.2.2.2.2.2.2.2.2.2
  have rq := R.2.2.2.2.2.2.2.1
  have rg := R.2.1
  have h37 := R.2.2.2.2.2.1.1.2.2
  have x8 : 0 ≤ x ∧ x < 8 := ⟨hx.1, by have := ia.1; omega⟩
  have e39 : E 61 39 = e 53 5 := by rw [EO _ _ (by decide) (by decide)]; exact rv.1
  have e46 : E 61 46 = e 12 2 := by rw [EO _ _ (by decide) (by decide)]; exact rl.1.1
  have w10 := iw.1
  have l12 := il.1.1
  obtain ⟨v1, v2, v3, v4, v5, v6, v7, v8⟩ := zcE_v (e := e) (x := x) (y := y) x8
  obtain ⟨b1, b2, b3, b4, ⟨b5, b55⟩, b6, b7, b8, b9, b10, b11, b12⟩ := zmbC_v (E := E) (x := x) (y := y) x8 (by omega) (by omega)
  obtain ⟨n, hn⟩ : ∃ n : Nat, e 53 5 = (n : Int) := ⟨(e 53 5).toNat, by omega⟩
  have nn : (e 53 5).toNat = n := by omega
  have nE : (E 61 39).toNat = n := by omega
  rw [nn] at v3
  rw [nE] at b3 b4
  have a5 : zcA e x y 53 5 = (n : Int) := by rw [zcA_o (by omega) (by omega)]; exact hn
  have WH := zBw (e := zcA e x y) (E := zmbI E x y) (x := x) (fun k q1 q2 => by
    rw [a5] at q2
    have en : zBwE e e k := ⟨iw.2 k q1 (by omega), rv.2 k q1 (by omega)⟩
    exact zBwE_e en (zcA_o (by omega) (by omega)) (zcA_o (by omega) (by omega)) (zcA_o (by omega) (by omega)) (zcA_o (by omega) (by omega)) (by rw [b12 k 0 q1 (by omega)]; exact EO _ _ (by omega) (by omega)) (by rw [b12 k 1 q1 (by omega)]; exact EO _ _ (by omega) (by omega)) (by rw [b12 k 2 q1 (by omega)]; exact EO _ _ (by omega) (by omega)) (by rw [b12 k 3 q1 (by omega)]; exact EO _ _ (by omega) (by omega))) n (by omega)
  obtain ⟨W1, W2, W3, W4⟩ := WH
  have kb := @zmbk_b (zmbI E x y) x n
  -- what comes back
  have c34 : ∀ r j : Int, 38 ≤ r → zm_u e (15 + 2 * x) 6 y r j = e r j := fun r j p => zm_un (.inl (by omega))
  have d2 : ∀ r j : Int, (r ≠ 61 ∨ j ≠ 49) → 60 < r → r ≤ 159 → (r ≠ 69 ∨ j ≠ x) → zm_u (zm_u E 61 49 0) 69 x y r j = e r j := fun r j p1 p2 p3 p4 => by rw [zm_un p4, zm_un p1, EO r j p2 p3]
  have BS : ∀ s : Int, 0 ≤ s → s < 3 → zbk (zm_u e (15 + 2 * x) 6 y) (15 + 2 * x) (38 + 5 * s) (39 + 5 * s) (41 + 5 * s) = zmb6 0 (zm_u (zm_u E 61 49 0) 69 x y) s x ∧ 0 ≤ zmb6 0 (zm_u (zm_u E 61 49 0) 69 x y) s x ∧ zmb6 0 (zm_u (zm_u E 61 49 0) 69 x y) s x ≤ 4000 := fun s q1 q2 => zBk_s x8.1 (rq s q1 q2) ic.2.2.1.1 h37 (fun r j p => c34 r j (by omega)) ⟨d2 _ _ (by omega) (by omega) (by omega) (by omega), d2 _ _ (by omega) (by omega) (by omega) (by omega), d2 _ _ (by omega) (by omega) (by omega) (by omega), d2 _ _ (by omega) (by omega) (by omega) (by omega)⟩ (fun j => d2 _ _ (by omega) (by omega) (by omega) (by omega)) (ic.1 s q1 q2).1.2.2.2.1 (ic.1 s q1 q2).2.1.2.2.2.1
  have s0 := BS 0 (by decide) (by decide)
  have s1 := BS 1 (by decide) (by decide)
  have s2 := BS 2 (by decide) (by decide)
  simp only [Int.mul_zero, Int.add_zero, Int.mul_one, Int.reduceAdd, Int.reduceMul] at s0 s1 s2
  have e42 : E 61 42 = e 61 42 := EO _ _ (by decide) (by decide)
  have e43 : E 61 43 = e 61 43 := EO _ _ (by decide) (by decide)
  have m6 := im.1.2.2.1
  have rm3 := rm.2.2.1
  have BK : zcBk e x y = zmbV E x y ∧ 0 ≤ zcBk e x y ∧ zcBk e x y ≤ 20000 := by
    unfold zcBk zmbV
    rw [nn, nE, W3, zmbB_v, s0.1, s1.1, s2.1, e42, e43]
    unfold zsk
    clear BS d2 c34 v3 v4 v5 v6 v7 v8 b3 b4 b5 b6 b7 b8 b9 b11 b12 W2 W3 rq rg ic
    by_cases z : e 61 42 = x
    · rw [if_pos z, if_pos (by omega)]
      omega
    · rw [if_neg z, if_neg (by omega)]
      omega
  clear s0 s1 s2 BS
  obtain ⟨BK1, BK2⟩ := BK
  generalize hb : zcBk e x y = b at v1 BK1 BK2
  rw [← BK1] at b1
  have AO : ∀ r j : Int, (1 ≤ r ∧ r ≤ 60) → ((r < 38 ∨ 57 < r) ∧ (r ≠ 15 + 2 * x ∨ (j ≠ 6 ∧ j ≠ 2)) ∧ (r ≠ 58 ∨ j ≠ 5) ∧ (r ≠ 12 ∨ j ≠ 4) ∧ r ≠ 13 ∧ r ≠ 16 + 2 * x) → zcE e x y r j = e r j := fun r j _ q => zcE_o q.1 q.2.1 q.2.2.1 q.2.2.2.1 q.2.2.2.2.1 q.2.2.2.2.2
  have sE : ∀ r j : Int, ((96 ≤ r ∧ r ≤ 98) ∨ (114 ≤ r ∧ r ≤ 120)) → zm_u (zm_u E 61 49 0) 69 x y r j = e r j := fun r j p => d2 r j (by omega) (by omega) (by omega) (by omega)
  clear d2
  generalize hA : zcE e x y = A at v1 v2 v3 v4 v5 v6 v7 v8 AO
  generalize hB : zmbC E x y = B at b1 b2 b3 b4 b5 b55 b6 b7 b8 b9 b10 b11
  have FL : ∀ r j : Int, (1 ≤ r ∧ r ≤ 60) → ((r < 53 ∨ 57 < r) ∧ (r ≠ 15 + 2 * x ∨ j ≠ 6) ∧ (r ≠ 58 ∨ j ≠ 5) ∧ (r ≠ 12 ∨ j ≠ 4) ∧ r ≠ 13 ∧ r ≠ 16 + 2 * x) → zBf e A B x r j = e r j := fun r j p q => by
    by_cases z : (38 ≤ r ∧ r ≤ 52) ∨ (r = 15 + 2 * x ∧ j = 2)
    · exact zBf_k (by omega)
    · rw [zBf_n (by omega), zmx_l p.2]
      exact AO r j p (by omega)
  have FH : ∀ r j : Int, (60 < r ∧ r ≤ 159) → ((r ≠ 61 ∨ (j ≠ 49 ∧ j ≠ 39 ∧ j ≠ 42 ∧ j ≠ 44 ∧ j ≠ 48)) ∧ (r ≠ 69 ∨ j ≠ x) ∧ (r < 123 ∨ 132 < r) ∧ (r < 139 ∨ 150 < r ∨ j ≠ 0) ∧ (r ≠ 152 + x ∨ j < 0 ∨ 3 < j)) → zBf e A B x r j = e r j := fun r j p q => by
    by_cases z : (96 ≤ r ∧ r ≤ 98) ∨ (114 ≤ r ∧ r ≤ 120) ∨ r = 63
    · exact zBf_k (by omega)
    · rw [zBf_n (by omega), zmx_h p.1, b11 r j (by omega) (by omega)]
      exact EO r j p.1 p.2
  have NL : ∀ r j : Int, r ≤ 60 → (r < 38 ∨ 52 < r) → (r ≠ 15 + 2 * x ∨ j ≠ 2) → zBf e A B x r j = A r j := fun r j p1 p2 p3 => by rw [zBf_n (by omega), zmx_l p1]
  have NH : ∀ r j : Int, 60 < r → (r < 96 ∨ 98 < r) → (r < 114 ∨ 120 < r) → r ≠ 63 → zBf e A B x r j = B r j := fun r j p1 p2 p3 p4 => by rw [zBf_n (by omega), zmx_h p1]
  have F53 : zBf e A B x 53 5 = zmbk (zmbI E x y) x n := by rw [NL _ _ (by decide) (by omega) (by omega), v3 53 5 (by decide) (by decide)]; exact W1
  have S1 := zBar_1 (A := A) (B := B) (F := zBf e A B x) I J R hx ⟨by have := ia.2; omega, hk.2⟩ FL FH (by rw [NL _ _ (by omega) (by omega) (by omega)]; exact v2) (by rw [NH _ _ (by decide) (by omega) (by omega) (by omega)]; exact b2) ⟨by rw [F53, NH _ _ (by decide) (by omega) (by omega) (by omega)]; exact b3, by rw [F53]; omega, fun k q1 q2 => by
      rw [F53] at q2
      exact zBwE_e (W2 k q1 q2) (by rw [NL _ _ (by decide) (by omega) (by omega)]; exact v3 54 k (by decide) (by decide)) (by rw [NL _ _ (by decide) (by omega) (by omega)]; exact v3 55 k (by decide) (by decide)) (by rw [NL _ _ (by decide) (by omega) (by omega)]; exact v3 56 k (by decide) (by decide)) (by rw [NL _ _ (by decide) (by omega) (by omega)]; exact v3 57 k (by decide) (by decide)) (by rw [NH _ _ (by omega) (by omega) (by omega) (by omega)]; exact b4 _ _ (by omega) (by omega)) (by rw [NH _ _ (by omega) (by omega) (by omega) (by omega)]; exact b4 _ _ (by omega) (by omega)) (by rw [NH _ _ (by omega) (by omega) (by omega) (by omega)]; exact b4 _ _ (by omega) (by omega)) (by rw [NH _ _ (by omega) (by omega) (by omega) (by omega)]; exact b4 _ _ (by omega) (by omega))⟩ (by rw [NL _ _ (by decide) (by omega) (by omega)]; exact v4) ⟨by rw [NH _ _ (by decide) (by omega) (by omega) (by omega), b5, e42], by rw [NH _ _ (by decide) (by omega) (by omega) (by omega), b55, e42, EO 61 44 (by decide) (by decide)]⟩ (by rw [NL _ _ (by decide) (by omega) (by omega)]; exact v5) (by rw [NH _ _ (by decide) (by omega) (by omega) (by omega), b6, EO 61 48 (by decide) (by decide), EO _ _ (by omega) (by omega), EO _ _ (by omega) (by omega), EO _ _ (by omega) (by omega), EO _ _ (by omega) (by omega)]) (fun k q1 q2 => by rw [NL _ _ (by decide) (by omega) (by omega)]; exact v6 k q1 (by omega)) (fun k q1 q2 => by rw [NH _ _ (by omega) (by omega) (by omega) (by omega), b8 k q1 (by omega), EO _ _ (by omega) (by omega)]) (fun j q1 q2 => by rw [NL _ _ (by omega) (by omega) (by omega)]; exact v7 j q1 q2) (fun j q1 q2 => by rw [NH _ _ (by omega) (by omega) (by omega) (by omega)]; exact b7 j q1 q2)
  have Fs : ∀ r j : Int, (38 ≤ r ∧ r ≤ 52) ∨ (96 ≤ r ∧ r ≤ 98) ∨ (114 ≤ r ∧ r ≤ 120) ∨ r = 63 → zBf e A B x r j = e r j := fun r j p => zBf_k (by omega)
  have F34 : ∀ j : Int, zBf e A B x 34 j = e 34 j := fun j => FL 34 j (by decide) (by omega)
  have S2 := zBar_2 (F := zBf e A B x) (M := zmx A B) (b := b) (x := x) S1.1 S1.2.1 S1.2.2 x8 (fun r j p q => by rw [zmx_l p.2, NL r j p.2 q.1 q.2]) (fun r j p q => by
      rw [zmx_h p.1]
      by_cases z : r = 63
      · rw [Fs r j (by omega), b11 r j (by omega) (by omega)]
        exact EO r j p.1 p.2
      · rw [NH r j p.1 q.1 q.2.1 z]) (by rw [zmx_l (by omega), zBf_k (by omega)]; exact v1) (by rw [zmx_h (by decide), zBf_k (by omega), b1, EO _ _ (by decide) (by decide)]) BK2 (fun s q1 q2 => by
      obtain ⟨c1, c2, c3⟩ := ztA3_v (e := zm_u e (15 + 2 * x) 6 y) (a := 15 + 2 * x) (s := s) ⟨q1, q2⟩
      have cz : ∀ h j : Int, 38 ≤ h → h ≤ 52 → zbf (zm_u e (15 + 2 * x) 6 y) (zm_u e (15 + 2 * x) 6 y 34 4) h j = zbf (zBf e A B x) (zBf e A B x 34 4) h j := fun h j p1 p2 => by
        unfold zbf
        rw [zm_un (.inl (by omega)), F34, c34 h 4 p1, c34 h j p1, Fs h 4 (by omega), Fs h j (by omega)]
      refine ⟨fun p r j p1 p2 => ?_, fun p => ⟨?_, fun j => ?_, fun j => ?_⟩, fun r j p => ?_⟩
      · rw [Fs _ _ (by omega)] at p
        rw [zmx_l (by omega), v8 r j (by omega) (by omega), c1 (by rw [c34 _ _ (by omega)]; exact p) r j p1 p2, c34 r j (by omega), Fs r j (by omega)]
      · rw [Fs _ _ (by omega)] at p
        rw [zmx_l (by omega), v8 _ _ (by omega) (by omega)]
        exact (c2 (by rw [c34 _ _ (by omega)]; exact p)).1
      · rw [Fs _ _ (by omega)] at p
        rw [zmx_l (by omega), v8 _ _ (by omega) (by omega), (c2 (by rw [c34 _ _ (by omega)]; exact p)).2.1 j]
        exact cz _ _ (by omega) (by omega)
      · rw [Fs _ _ (by omega)] at p
        rw [zmx_l (by omega), v8 _ _ (by omega) (by omega), (c2 (by rw [c34 _ _ (by omega)]; exact p)).2.2 j]
        exact cz _ _ (by omega) (by omega)
      · rw [zmx_l (by omega), v8 _ _ (by omega) (by omega), c3 r j p, c34 r j (by omega), Fs r j (by omega)]) (fun s q1 q2 => by
      obtain ⟨c1, c2, c3⟩ := zmbS_v (d := zm_u (zm_u E 61 49 0) 69 x y) (g := x) (s := s) ⟨q1, q2⟩
      rw [sE 96 s (by omega)] at c1 c2
      rw [sE 98 s (by omega), zm_un (r := 69) (by omega), zm_un (r := 61) (by omega), EO 61 37 (by decide) (by decide)] at c2
      refine ⟨fun p r j q => ?_, fun p => ?_, fun r j q => ?_⟩
      · rw [Fs _ _ (by omega)] at p
        rw [zmx_h (by omega), b9 r j (by omega), c1 p r j q, sE r j (by omega), Fs r j (by omega)]
      · rw [Fs _ _ (by omega)] at p
        rw [zmx_h (by decide), zmx_h (by decide), zmx_h (by decide), b9 96 s (by omega), b9 97 s (by omega), b9 98 s (by omega), Fs 98 s (by omega), FH 61 37 (by decide) (by omega)]
        exact c2 p
      · rw [zmx_h (by omega), b9 r j (by omega), Fs r j (by omega)]
        have := c3 r j q
        rw [sE r j (by omega)] at this
        exact this)
  exact ⟨zBf e A B x, S1.1, S1.2.1, S1.2.2, S2.1, fun z => z2c_e (S2.2 (z2c_e z (fun r j _ _ => Fs r j (by omega)))) (fun r j _ _ => (zmx_l (by omega)).symm), BK1, F34, fun j => AO 36 j (by decide) (by omega)⟩
theorem zcE_h {e : zm_D} {x y r j : Int} (hx : 0 ≤ x ∧ x < 8) (h : 60 < r) : zcE e x y r j = e r j := zcE_o (by omega) (by omega) (by omega) (by omega) (by omega) (by omega)
theorem zP4 {S : zSs} {D n u : Nat} {g : Int → zk_K} {e : zm_D} {t : Int} {x y : Int} (I : zIn t e) (J : zIp t e) (R : zRe e) (ht : t < 600) (hD : 40 ≤ D) (h_x : -2147483648 ≤ x ∧ x < 2147483648) (h_y : -2147483648 ≤ y ∧ y < 2147483648) : zE S D 333 [zv_a 1, zv_i x, zv_i y, zv_a 160] n (zSg g) (zDg e) u (zK1 S D t n u 223 [zv_a 61, zv_i x, zv_i y] zPi) := by
  have it := I.1
  have ia := I.2.1
  have ra := R.1
  unfold zRa at ra
  have d10 := ia.2
  have d9 := ia.1
  by_cases hx : x < 0 ∨ e 1 9 ≤ x
  · refine (zC122n I h_x hx hD).2 (zK1i (by omega) (by omega) (by omega) (by omega) (fun n2 u2 _ => (zX223n h_x (by omega) (by omega) (by omega)).2 (zK2i (by omega) (by omega) (by omega) (by omega) (zIn_e I ht (fun r j _ _ => by simp (disch := omega) only [zm_un])) (zIp_e J (fun r j _ _ => by simp (disch := omega) only [zm_un])) (zRe_e R (zIn_w I) (fun r j _ _ _ => by simp (disch := omega) only [zm_un])) ⟨1, 0, rfl, rfl, zm_us, fun q => absurd q (by decide), by decide⟩)))
  have hx : 0 ≤ x ∧ x < e 1 9 := by omega
  have x8 : 0 ≤ x ∧ x < 8 := by have := ia.1; omega
  have r69 := (R.2.1 x x8.1 x8.2).1.2.2.2.2.2
  have g6 := (I.2.2.1 x x8).2.2.2.2.2.1
  by_cases hf : y ≤ e 1 10 ∨ 999 < y ∨ y < e (15 + 2 * x) 6
  · refine (zC122x I hx h_y hf hD).2 (zK1i (by omega) (by omega) (by omega) (by omega) (fun n2 u2 _ => (zX223x (by omega) (by omega) h_y (by omega) (by omega) (by omega) (by omega)).2 (zK2i (by omega) (by omega) (by omega) (by omega) (zIn_e I ht (fun r j _ _ => by simp (disch := omega) only [zm_un])) (zIp_e J (fun r j _ _ => by simp (disch := omega) only [zm_un])) (zRe_e R (zIn_w I) (fun r j _ _ _ => by simp (disch := omega) only [zm_un])) ⟨2, 0, rfl, rfl, zm_us, fun q => absurd q (by decide), by decide⟩)))
  have hk : e 1 10 < y ∧ y ≤ 999 ∧ e (15 + 2 * x) 6 ≤ y := by omega
  obtain ⟨E, hE⟩ : ∃ E, zm_u (if e 34 4 = 1 then zgoc (zcE e x y) else zcE e x y) 160 0 (zw (zcBk e x y)) = E := ⟨_, rfl⟩
  have GG : ∀ s : Int, 0 ≤ s → s < 3 → zGr (zcE e x y (38 + 5 * s) 2) := fun s q1 q2 => by
    rw [(zcE_v x8).2.2.2.2.2.2.2 _ _ (by omega) (by omega)]
    obtain ⟨c1, c2, -⟩ := ztA3_v (e := zm_u e (15 + 2 * x) 6 y) (a := 15 + 2 * x) (s := s) ⟨q1, q2⟩
    by_cases z : zm_u e (15 + 2 * x) 6 y (38 + 5 * s) 2 = 15 + 2 * x
    · rw [(c2 z).1]; exact .inl rfl
    · rw [c1 z _ _ (by omega) (by omega), zm_un (.inl (by omega))]
      exact (I.2.2.2.2.2.2.1.1 s q1 q2).2.2.2.1
  have EO : ∀ r j : Int, 60 < r → r ≤ 159 → E r j = e r j := fun r j q1 q2 => by
    rw [← hE, zm_un (by omega)]
    split
    · rw [zgoc_h GG q1, zcE_h x8 q1]
    · exact zcE_h x8 q1
  obtain ⟨F, I2, J2, R2, Q, Z2, BK, F34, A36⟩ := zBar_3 I J R hx ⟨hk.1, hk.2.1⟩ EO
  have e4 : zcE e x y 34 4 = e 34 4 := zcE_o (by omega) (by omega) (by omega) (by omega) (by omega) (by omega)
  have HC : e 34 4 = 1 → zJf (100000 * (t + 1)) (zcE e x y) := fun z => zQz_J I2 ht Q (by rw [zmx_l (by decide), e4]; exact z) (fun r j p => zmx_l p)
  have BL : ∀ r j : Int, (r ≤ 60 ∨ r = 160) → zmbC E x y r j = E r j := fun r j p => (zmbC_v x8 (by rw [EO _ _ (by decide) (by decide)]; have := R.2.2.2.2.2.2.2.2.1.1; have := I.2.2.2.2.2.2.2.1.1; omega) (by rw [EO _ _ (by decide) (by decide)]; have := R.2.2.2.2.2.2.2.2.2.2.1.1; have := I.2.2.2.2.2.2.2.2.2.1.1; omega)).2.2.2.2.2.2.2.2.2.2.1 r j (by omega) (by omega)
  have B49 : zmbC E x y 61 49 = 0 := (zmbC_v x8 (by rw [EO _ _ (by decide) (by decide)]; have := R.2.2.2.2.2.2.2.2.1.1; have := I.2.2.2.2.2.2.2.1.1; omega) (by rw [EO _ _ (by decide) (by decide)]; have := R.2.2.2.2.2.2.2.2.2.2.1.1; have := I.2.2.2.2.2.2.2.2.2.1.1; omega)).2.2.2.2.2.2.2.2.2.1
  have mx : zMx E := by
    have rq := R.2.2.2.2.2.2.2.1
    have rv := R.2.2.2.2.2.2.2.2.1
    have rm := R.2.2.2.2.2.2.2.2.2.1.2.2.1
    have rl := R.2.2.2.2.2.2.2.2.2.2
    have iw := I.2.2.2.2.2.2.2.1.1
    have il := I.2.2.2.2.2.2.2.2.2.1.1
    have c4 := I.2.2.2.2.2.2.1.2.2.1.1
    have h37 := R.2.2.2.2.2.1.1.2.2
    refine ⟨fun s q1 q2 => ?_, ⟨by rw [EO _ _ (by decide) (by decide)]; have := rv.1; omega, fun i q1 q2 => ?_⟩, ⟨by rw [EO _ _ (by decide) (by decide)]; have := rl.1.1; omega, fun i q1 q2 => ?_⟩, by rw [EO _ _ (by decide) (by decide)]; omega⟩
    · have w := (rq s q1 q2).1
      have w2 := (rq s q1 q2).2.1
      unfold zMz
      rw [EO 96 s (by decide) (by decide), EO 98 s (by decide) (by decide), EO 61 37 (by decide) (by decide)]
      exact ⟨by omega, w2, by omega⟩
    · rw [EO _ _ (by decide) (by decide), rv.1] at q2
      have := (rv.2 i q1 q2).1.1
      rw [EO _ _ (by omega) (by omega)]
      omega
    · rw [EO _ _ (by decide) (by decide), rl.1.1] at q2
      have := (rl.2 i q1 q2).1
      rw [EO _ _ (by omega) (by omega)]
      omega
  have HR : E 61 37 = 1 → zMr 80000000 (zmbC E x y) := fun z => zQz_Mr I2 ht R2.2.2.2.2.1 Q (by rw [zmx_l (by decide), e4]; rw [EO _ _ (by decide) (by decide)] at z; have := R.2.2.2.2.2.1.1.2.2; omega) (fun r j q1 q2 => (zmx_h q1).symm)
  have e37 : E 61 37 = e 34 4 := by rw [EO _ _ (by decide) (by decide)]; exact R.2.2.2.2.2.1.1.2.2
  refine (zC122 I (by omega) hx hk HC hD).2 (zK1i (by omega) (by omega) (by omega) (by omega) (fun n2 u2 _ => ?_))
  rw [hE]
  refine (zX223 (B := 80000000) (by decide) (by rw [EO _ _ (by decide) (by decide)]; omega) (by rw [EO _ _ (by decide) (by decide)]; omega) (by rw [EO _ _ (by decide) (by decide)]; omega) (by rw [EO _ _ (by decide) (by omega)]; omega) (by rw [EO _ _ (by decide) (by decide), EO _ _ (by decide) (by omega)]; omega) mx HR (by omega)).2 ?_
  by_cases h4 : e 34 4 = 1
  · rw [if_pos (by omega)]
    rw [if_pos h4] at hE
    have nn := J.2.2.2.2.2 h4
    have X := zRnd_go (e := F) (A := zcE e x y) (B := zmbC E x y) (M := zmx (zcE e x y) (zmbC E x y)) (d := zmgo (zmbC E x y)) (fun r j p => zmx_l p) (fun r j p _ => zmx_h p) R2.2.2.2.2.1 I2.2.1.1.1 Q (by rw [zmx_l (by decide), e4]; exact h4) (by rw [zmx_l (by decide), zmx_l (by decide), zmx_l (by decide), A36, A36, A36]; exact nn.1) (z2c_e (Z2 nn.2.2) (fun r j _ _ => zmx_l (by omega))) (fun r j p => by rw [zmgo_l (by omega), BL r j (.inl p), ← hE, zm_un (by omega)]) (fun r j _ _ => rfl)
    have G := zQz_fin I2 J2 R2 ht X.1 X.2.1
    exact zK2i (by omega) (by omega) (by omega) (by omega) G.1 G.2.1 G.2.2 ⟨0, _, rfl, rfl, by rw [zmgo_l (by decide)]; exact B49, fun _ => by rw [zmgo_l (by decide), BL 160 0 (.inr rfl), ← BK, ← hE]; exact zm_ue rfl rfl, by decide⟩
  · rw [if_neg (by omega)]
    rw [if_neg h4] at hE
    have dM : ∀ r j : Int, 1 ≤ r → r ≤ 159 → zmbC E x y r j = zmx (zcE e x y) (zmbC E x y) r j := fun r j q1 q2 => by
      by_cases z : r ≤ 60
      · rw [zmx_l z, BL r j (.inl z), ← hE, zm_un (by omega)]
      · rw [zmx_h (by omega)]
    have G := zQz_fin I2 J2 R2 ht (zQz_m (zQz_e Q dM)) (fun p => by
      rw [dM _ _ (by decide) (by decide), zmx_l (by decide), e4] at p
      exact absurd p h4)
    exact zK2i (by omega) (by omega) (by omega) (by omega) G.1 G.2.1 G.2.2 ⟨0, _, rfl, rfl, B49, fun _ => by rw [BL 160 0 (.inr rfl), ← BK, ← hE]; exact zm_ue rfl rfl, by decide⟩
