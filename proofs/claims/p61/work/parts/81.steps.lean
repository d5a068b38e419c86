/-! ===== STEPS: a call on both objects keeps invariant and relation ===== -/
set_option maxRecDepth 65536
/-- prizes and the pool -/
def zIp0 (t : Int) (e : zm_D) : Prop := (0 ≤ e 12 4 ∧ e 12 4 ≤ 2 * t) ∧ ∀ i : Int, 0 ≤ i → i < 8 → (0 ≤ e (16 + 2 * i) 0 ∧ 0 ≤ e (16 + 2 * i) 1 ∧ 0 ≤ e (16 + 2 * i) 2 ∧ 0 ≤ e (16 + 2 * i) 3) ∧ e (15 + 2 * i) 2 + e (16 + 2 * i) 0 + e (16 + 2 * i) 1 + e (16 + 2 * i) 2 + e (16 + 2 * i) 3 ≤ 200000 * t
theorem zIp0_e {t : Int} {e d : zm_D} (H : zIp0 t e) (h : ∀ r j : Int, ((r = 12 ∧ j = 4) ∨ (15 ≤ r ∧ r ≤ 30 ∧ 0 ≤ j ∧ j ≤ 3)) → (r % 2 = 1 → j = 2) → d r j = e r j) : zIp0 (t + 1) d := by
  obtain ⟨a, b⟩ := H
  refine ⟨?_, fun i h1 h2 => ?_⟩
  · rw [h 12 4 (by omega) (by omega)]
    omega
  · have c := b i h1 h2
    rw [h (16 + 2 * i) 0 (by omega) (by omega), h (16 + 2 * i) 1 (by omega) (by omega), h (16 + 2 * i) 2 (by omega) (by omega), h (16 + 2 * i) 3 (by omega) (by omega), h (15 + 2 * i) 2 (by omega) (by omega)]
    omega
/-- the prizes of a guest, of all -/
def zsp4 (e : zm_D) (i : Int) : Int := e (16 + 2 * i) 0 + e (16 + 2 * i) 1 + e (16 + 2 * i) 2 + e (16 + 2 * i) 3
def zpp (e : zm_D) : Int := zsp4 e 0 + zsp4 e 1 + zsp4 e 2 + zsp4 e 3 + zsp4 e 4 + zsp4 e 5 + zsp4 e 6 + zsp4 e 7
theorem zpp_e {e d : zm_D} (h : ∀ i : Int, 0 ≤ i → i < 8 → zsp4 d i = zsp4 e i) : zpp d = zpp e := by
  unfold zpp
  rw [h 0 (by decide) (by decide), h 1 (by decide) (by decide), h 2 (by decide) (by decide), h 3 (by decide) (by decide), h 4 (by decide) (by decide), h 5 (by decide) (by decide), h 6 (by decide) (by decide), h 7 (by decide) (by decide)]
theorem zpp_at {e d : zm_D} {x : Int} (hx : 0 ≤ x ∧ x < 8) (h : ∀ i : Int, 0 ≤ i → i < 8 → i ≠ x → zsp4 d i = zsp4 e i) : zpp d = zpp e - zsp4 e x + zsp4 d x := by
  have g0 := h 0 (by decide) (by decide)
  have g1 := h 1 (by decide) (by decide)
  have g2 := h 2 (by decide) (by decide)
  have g3 := h 3 (by decide) (by decide)
  have g4 := h 4 (by decide) (by decide)
  have g5 := h 5 (by decide) (by decide)
  have g6 := h 6 (by decide) (by decide)
  have g7 := h 7 (by decide) (by decide)
  unfold zpp
  rcases (by omega : x = 0 ∨ x = 1 ∨ x = 2 ∨ x = 3 ∨ x = 4 ∨ x = 5 ∨ x = 6 ∨ x = 7) with q | q | q | q | q | q | q | q
  all_goals subst q
  all_goals omega
/-- a hand that plays has two cards -/
def z2c (e : zm_D) : Prop := ∀ y : Int, (y = 39 ∨ y = 41 ∨ y = 44 ∨ y = 46 ∨ y = 49 ∨ y = 51) → e y 5 = 1 → 2 ≤ e y 1
theorem z2c_e {e d : zm_D} (H : z2c e) (h : ∀ r j : Int, (r = 39 ∨ r = 41 ∨ r = 44 ∨ r = 46 ∨ r = 49 ∨ r = 51) → (j = 1 ∨ j = 5) → d r j = e r j) : z2c d := fun y q p => by
  rw [h y 5 q (.inr rfl)] at p
  rw [h y 1 q (.inl rfl)]
  exact H y q p
/-- the dealer has no natural, and somebody plays; who plays has two cards -/
def zNn (e : zm_D) : Prop := znt (e 36 1) (e 36 3) (e 36 2) = 0 ∧ 0 ≤ zst e ∧ z2c e
theorem zNn_e {e d : zm_D} (H : zNn e) (h36 : ∀ j : Int, 1 ≤ j → j ≤ 3 → d 36 j = e 36 j) (h : ∀ r j : Int, (r = 39 ∨ r = 41 ∨ r = 44 ∨ r = 46 ∨ r = 49 ∨ r = 51) → (j = 1 ∨ j = 5) → d r j = e r j) : zNn d := by
  refine ⟨?_, ?_, z2c_e H.2.2 h⟩
  · rw [h36 1 (by decide) (by decide), h36 2 (by decide) (by decide), h36 3 (by decide) (by decide)]
    exact H.1
  · have a := H.2.1
    unfold zst at *
    rw [h 39 5 (by decide) (by decide), h 41 5 (by decide) (by decide), h 44 5 (by decide) (by decide), h 46 5 (by decide) (by decide), h 49 5 (by decide) (by decide), h 51 5 (by decide) (by decide)]
    exact a
/-- pool and prizes together; who is no guest yet has nothing; who holds a ticket or sits at the cards is a guest; a round goes on without a natural of the dealer -/
def zIz (t : Int) (e : zm_D) : Prop := e 12 4 + zpp e ≤ 2 * t ∧ (∀ i : Int, e 1 9 ≤ i → 0 ≤ i → i < 8 → e (15 + 2 * i) 5 = 0 ∧ e (15 + 2 * i) 7 = 0 ∧ e (16 + 2 * i) 0 = 0 ∧ e (16 + 2 * i) 1 = 0 ∧ e (16 + 2 * i) 2 = 0 ∧ e (16 + 2 * i) 3 = 0) ∧ (∀ k : Int, 0 ≤ k → k < e 12 2 → e 13 k < 15 + 2 * e 1 9) ∧ (∀ s : Int, 0 ≤ s → s < 3 → e (38 + 5 * s) 2 < 15 + 2 * e 1 9) ∧ (e 34 4 = 1 → zNn e)
theorem zIz_g {t : Int} {e d : zm_D} {x : Int} (H : zIz t e) (hx : 0 ≤ x ∧ x < e 1 9) (h : ∀ r j : Int, ((r = 12 ∧ (j = 2 ∨ j = 4)) ∨ (r = 1 ∧ j = 9) ∨ r = 13 ∨ (16 ≤ r ∧ r ≤ 30 ∧ r % 2 = 0) ∨ (15 ≤ r ∧ r ≤ 29 ∧ r % 2 = 1 ∧ (j = 5 ∨ j = 7) ∧ r ≠ 15 + 2 * x) ∨ ((r = 38 ∨ r = 43 ∨ r = 48) ∧ j = 2) ∨ (r = 34 ∧ j = 4) ∨ r = 36 ∨ ((r = 39 ∨ r = 41 ∨ r = 44 ∨ r = 46 ∨ r = 49 ∨ r = 51) ∧ (j = 1 ∨ j = 5))) → d r j = e r j) : zIz (t + 1) d := by
  obtain ⟨a, b, c, f, g⟩ := H
  have h9 := h 1 9 (by omega)
  refine ⟨?_, fun i h0 h1 h2 => ?_, fun k h1 h2 => ?_, fun s h1 h2 => ?_, fun p => ?_⟩
  · rw [zpp_e (e := e) (fun i h1 h2 => ?_), h 12 4 (by omega)]
    · omega
    · unfold zsp4
      rw [h _ _ (by omega), h _ _ (by omega), h _ _ (by omega), h _ _ (by omega)]
  · rw [h9] at h0
    have f := b i h0 h1 h2
    rw [h (16 + 2 * i) 0 (by omega), h (16 + 2 * i) 1 (by omega), h (16 + 2 * i) 2 (by omega), h (16 + 2 * i) 3 (by omega), h (15 + 2 * i) 5 (by omega), h (15 + 2 * i) 7 (by omega)]
    exact f
  · rw [h 12 2 (by omega)] at h2
    rw [h 13 k (by omega), h9]
    exact c k h1 h2
  · rw [h (38 + 5 * s) 2 (by omega), h9]
    exact f s h1 h2
  · rw [h 34 4 (by omega)] at p
    exact zNn_e (g p) (fun j _ _ => h 36 j (by omega)) (fun r j q q2 => h r j (by omega))
theorem zIz_e {t : Int} {e d : zm_D} (H : zIz t e) (h : ∀ r j : Int, ((r = 12 ∧ (j = 2 ∨ j = 4)) ∨ (r = 1 ∧ j = 9) ∨ r = 13 ∨ (16 ≤ r ∧ r ≤ 30 ∧ r % 2 = 0) ∨ (15 ≤ r ∧ r ≤ 29 ∧ r % 2 = 1 ∧ (j = 5 ∨ j = 7)) ∨ ((r = 38 ∨ r = 43 ∨ r = 48) ∧ j = 2) ∨ (r = 34 ∧ j = 4) ∨ r = 36 ∨ ((r = 39 ∨ r = 41 ∨ r = 44 ∨ r = 46 ∨ r = 49 ∨ r = 51) ∧ (j = 1 ∨ j = 5))) → d r j = e r j) : zIz (t + 1) d := by
  obtain ⟨a, b, c, f, g⟩ := H
  have h9 := h 1 9 (by omega)
  refine ⟨?_, fun i h0 h1 h2 => ?_, fun k h1 h2 => ?_, fun s h1 h2 => ?_, fun p => ?_⟩
  · rw [zpp_e (e := e) (fun i h1 h2 => ?_), h 12 4 (by omega)]
    · omega
    · unfold zsp4
      rw [h _ _ (by omega), h _ _ (by omega), h _ _ (by omega), h _ _ (by omega)]
  · rw [h9] at h0
    have f := b i h0 h1 h2
    rw [h (16 + 2 * i) 0 (by omega), h (16 + 2 * i) 1 (by omega), h (16 + 2 * i) 2 (by omega), h (16 + 2 * i) 3 (by omega), h (15 + 2 * i) 5 (by omega), h (15 + 2 * i) 7 (by omega)]
    exact f
  · rw [h 12 2 (by omega)] at h2
    rw [h 13 k (by omega), h9]
    exact c k h1 h2
  · rw [h (38 + 5 * s) 2 (by omega), h9]
    exact f s h1 h2
  · rw [h 34 4 (by omega)] at p
    exact zNn_e (g p) (fun j _ _ => h 36 j (by omega)) (fun r j q q2 => h r j (by omega))
def zIp (t : Int) (e : zm_D) : Prop := zIp0 t e ∧ zIz t e
theorem zIp_e {t : Int} {e d : zm_D} (H : zIp t e) (h : ∀ r j : Int, 1 ≤ r → r ≤ 60 → d r j = e r j) : zIp (t + 1) d := ⟨zIp0_e H.1 (fun r j _ _ => h r j (by omega) (by omega)), zIz_e H.2 (fun r j _ => h r j (by omega) (by omega))⟩
/-- behind the reference's call -/
def zK2 (t : Int) (n u : Nat) (P : zv_V → zm_D → Prop) (r : (Option zv_V) ⊕ Nat) (n1 : Nat) (sh : zk_S) (d : zm_D) (u1 : Nat) : Prop := ∃ v e2 g2, r = .inl (some v) ∧ sh = zSg g2 ∧ d = zDg e2 ∧ (n ≤ n1 ∧ n1 ≤ n + 1 ∧ u ≤ u1 ∧ u1 ≤ u + 6) ∧ zIn (t + 1) e2 ∧ zIp (t + 1) e2 ∧ zRe e2 ∧ P v e2
theorem zK2i {t : Int} {n u n1 u1 : Nat} {P : zv_V → zm_D → Prop} {v : zv_V} {g : Int → zk_K} {e : zm_D} (h1 : n ≤ n1) (h2 : n1 ≤ n + 1) (h3 : u ≤ u1) (h4 : u1 ≤ u + 6) (I : zIn (t + 1) e) (J : zIp (t + 1) e) (R : zRe e) (p : P v e) : zK2 t n u P (.inl (some v)) n1 (zSg g) (zDg e) u1 := ⟨v, e, g, rfl, rfl, rfl, ⟨h1, h2, h3, h4⟩, I, J, R, p⟩
/-- what is compared behind a wrapper: code, answer in the cell -/
def zPi (v1 v : zv_V) (d : zm_D) : Prop := ∃ k w, v1 = zv_i k ∧ v = zv_i w ∧ d 61 49 = k ∧ (k = 0 → d 160 0 = zw w) ∧ (0 ≤ k ∧ k ≤ 9)
/-- what is compared of direct answers -/
def zPd (v1 v : zv_V) (d : zm_D) : Prop := v1 = v ∧ d 61 49 = 0
/-- behind the class's call; the reference's call M follows -/
def zK1 (S : zSs) (D : Nat) (t : Int) (n u : Nat) (M : Nat) (A : List zv_V) (P : zv_V → zv_V → zm_D → Prop) (r : (Option zv_V) ⊕ Nat) (n1 : Nat) (sh : zk_S) (d : zm_D) (u1 : Nat) : Prop := ∃ v1 e1 g1, r = .inl (some v1) ∧ sh = zSg g1 ∧ d = zDg e1 ∧ (n ≤ n1 ∧ n1 ≤ n + 1 ∧ u ≤ u1 ∧ u1 ≤ u + 6) ∧ ∀ n2 u2 : Nat, n ≤ n2 → zE S D M A n2 (zSg g1) (zDg e1) u2 (zK2 t n2 u2 (P v1))
theorem zK1i {S : zSs} {D n u n1 u1 M : Nat} {t : Int} {v1 : zv_V} {P : zv_V → zv_V → zm_D → Prop} {A : List zv_V} {g : Int → zk_K} {e : zm_D} (h1 : n ≤ n1) (h2 : n1 ≤ n + 1) (h3 : u ≤ u1) (h4 : u1 ≤ u + 6) (h : ∀ n2 u2 : Nat, n ≤ n2 → zE S D M A n2 (zSg g) (zDg e) u2 (zK2 t n2 u2 (P v1))) : zK1 S D t n u M A P (.inl (some v1)) n1 (zSg g) (zDg e) u1 := ⟨v1, e, g, rfl, rfl, rfl, ⟨h1, h2, h3, h4⟩, h⟩
theorem zIn_w {t : Int} {e : zm_D} (I : zIn t e) : e 53 5 ≤ 10 ∧ e 12 2 ≤ 12 := by
  obtain ⟨-, -, -, -, -, -, -, iw, -, il⟩ := I
  exact ⟨iw.1.2, il.1.1.2⟩
theorem zP0 {S : zSs} {D n u : Nat} {g : Int → zk_K} {e : zm_D} {t : Int} {x : Int} (I : zIn t e) (J : zIp t e) (R : zRe e) (ht : t < 600) (hD : 40 ≤ D) (h_x : -2147483648 ≤ x ∧ x < 2147483648) : zE S D 329 [zv_a 1, zv_i x, zv_a 160] n (zSg g) (zDg e) u (zK1 S D t n u 215 [zv_a 61, zv_i x] zPi) := by
  have i9 := I.2.1.1
  have r31 := R.1.1.1
  by_cases hx : x < 0 ∨ 99999 < x
  · refine (zC118x I h_x hx hD).2 (zK1i (by omega) (by omega) (by omega) (by omega) (fun n2 u2 _ => (zX215x h_x hx (by omega)).2 (zK2i (by omega) (by omega) (by omega) (by omega) (zIn_e I ht (fun r j _ _ => by simp (disch := omega) only [zm_un])) (zIp_e J (fun r j _ _ => by simp (disch := omega) only [zm_un])) (zRe_e R (zIn_w I) (fun r j _ _ _ => by simp (disch := omega) only [zm_un])) ⟨1, 0, rfl, rfl, zm_us, fun q => absurd q (by decide), by decide⟩)))
  have hx : 0 ≤ x ∧ x ≤ 99999 := by omega
  by_cases h9 : e 1 9 = 8
  · refine (zC118f I hx h9 hD).2 (zK1i (by omega) (by omega) (by omega) (by omega) (fun n2 u2 _ => (zX215f hx (by omega) (by omega)).2 (zK2i (by omega) (by omega) (by omega) (by omega) (zIn_e I ht (fun r j _ _ => by simp (disch := omega) only [zm_un])) (zIp_e J (fun r j _ _ => by simp (disch := omega) only [zm_un])) (zRe_e R (zIn_w I) (fun r j _ _ _ => by simp (disch := omega) only [zm_un])) ⟨2, 0, rfl, rfl, zm_us, fun q => absurd q (by decide), by decide⟩)))
  have h9 : e 1 9 < 8 := by omega
  have hw := zIn_w I
  refine (zC118 I hx h9 hD).2 (zK1i (by omega) (by omega) (by omega) (by omega) (fun n2 u2 _ => (zX215 hx (by simp (disch := omega) only [zm_un]; omega) (by omega)).2 ?_))
  have e31 : (zm_u (zm_u (zm_u e (15 + 2 * e 1 9) 1 x) 1 9 (e 1 9 + 1)) 160 0 (zw (e 1 9))) 61 31 = e 1 9 := by
    simp (disch := omega) only [zm_un]
    exact r31
  rw [e31, zw_id (by omega) (by omega)]
  have pj := J
  obtain ⟨it, ia, ig, iv, itr, is, ic, iw, im, il⟩ := I
  obtain ⟨ra, rg, rh, rt, ru, rs, rd, rq, rv, rm, rl⟩ := R
  obtain ⟨c, hc⟩ : ∃ c, e 1 9 = c := ⟨_, rfl⟩
  rw [hc] at i9 r31 h9 ⊢
  refine zK2i (by omega) (by omega) (by omega) (by omega) ⟨by omega, ?_, ?_, zIv_e iv (by simp (disch := omega) only [zm_un]), zIt_e itr (fun i _ _ => by simp (disch := omega) only [zm_un]), zIs_e is (fun r j _ => by simp (disch := omega) only [zm_un]), zIc_e ic (fun r j _ => by simp (disch := omega) only [zm_un]) (fun j _ _ => by simp (disch := omega) only [zm_un]) (by simp (disch := omega) only [zm_un]), zWh_e iw (fun r j _ _ => by simp (disch := omega) only [zm_un]), zIm_e im (fun r j _ => by simp (disch := omega) only [zm_un]), zIl_e il (fun j _ => by simp (disch := omega) only [zm_un]) (fun j => by simp (disch := omega) only [zm_un])⟩ ⟨zIp0_e pj.1 (fun r j _ _ => by simp (disch := omega) only [zm_un]), ?_⟩ ⟨?_, ?_, ?_, zRt_e rt (fun r j _ => by simp (disch := omega) only [zm_un]), zRu_e ru (fun j _ _ => by simp (disch := omega) only [zm_un]) (fun j => by simp (disch := omega) only [zm_un]), zRs_e rs (fun j _ => by simp (disch := omega) only [zm_un]) (by simp (disch := omega) only [zm_un]) (by simp (disch := omega) only [zm_un]) (fun r j _ => by simp (disch := omega) only [zm_un]), zRd_e rd (by simp (disch := omega) only [zm_un]) (fun r j _ => by simp (disch := omega) only [zm_un]), fun s q1 q2 => zRq_e (rq s q1 q2) (by simp (disch := omega) only [zm_un]) (by simp (disch := omega) only [zm_un]) (by simp (disch := omega) only [zm_un]) (by simp (disch := omega) only [zm_un]) (fun r j _ => by simp (disch := omega) only [zm_un]) (fun r j _ => by simp (disch := omega) only [zm_un]), zRv_e rv (by simp (disch := omega) only [zm_un]) (fun r j _ => by simp (disch := omega) only [zm_un]) hw.1, zRm_e rm (fun j _ _ => by simp (disch := omega) only [zm_un]) (fun r j _ => by simp (disch := omega) only [zm_un]) (fun j _ _ => by simp (disch := omega) only [zm_un]), zRl_e rl (fun j _ => by simp (disch := omega) only [zm_un]) (fun j _ => by simp (disch := omega) only [zm_un]) (fun r j _ => by simp (disch := omega) only [zm_un]) hw.2⟩ ⟨0, _, rfl, rfl, by simp (disch := omega) only [zm_un, zm_ue], fun _ => by simp (disch := omega) only [zm_un, zm_ue]; exact (zw_id (by omega) (by omega)).symm, by decide⟩
  · unfold zIa at ia ⊢
    simp (disch := omega) only [zm_un, zm_ue, true_and, and_true]
    omega
  · intro i hi
    have a := ig i hi
    by_cases q : i = c
    · subst q
      simp (disch := omega) only [zm_un, zm_ue, true_and, and_true]
      omega
    · simp (disch := omega) only [zm_un]
      omega
  · obtain ⟨w1, w2, w3, w4, w5⟩ := pj.2
    refine ⟨?_, fun i h0 h1 h2 => ?_, fun k h1 h2 => ?_, fun s h1 h2 => ?_, fun p => ?_⟩
    · rw [zpp_e (e := e) (fun i h1 h2 => ?_)]
      · simp (disch := omega) only [zm_un]
        omega
      · unfold zsp4
        simp (disch := omega) only [zm_un]
    · simp (disch := omega) only [zm_un, zm_ue] at h0
      have f := w2 i (by omega) h1 h2
      simp (disch := omega) only [zm_un]
      exact f
    · simp (disch := omega) only [zm_un] at h2
      have f := w3 k h1 h2
      simp (disch := omega) only [zm_un, zm_ue]
      omega
    · have f := w4 s h1 h2
      simp (disch := omega) only [zm_un, zm_ue]
      omega
    · simp (disch := omega) only [zm_un] at p
      exact zNn_e (w5 p) (fun j _ _ => by simp (disch := omega) only [zm_un]) (fun r j _ _ => by simp (disch := omega) only [zm_un])
  · unfold zRa at ra ⊢
    simp (disch := omega) only [zm_un, zm_ue, true_and, and_true]
    omega
  · intro i h1 h2
    have a := rg i h1 h2
    by_cases q : i = c
    · subst q
      simp (disch := omega) only [zm_un, zm_ue, true_and, and_true]
      exact ⟨a.1.2, a.2.1, a.2.2.1, by omega⟩
    · simp (disch := omega) only [zm_un]
      exact a
  · intro i h1 h2
    have a := rh i h1 h2
    by_cases q : i = c
    · subst q
      simp (disch := omega) only [zm_un, zm_ue, true_and, and_true]
      rw [hc] at a
      have b := a.2 (by omega)
      exact ⟨fun _ => ⟨by omega, .inl (by omega)⟩, fun p => by omega⟩
    · simp (disch := omega) only [zm_un, zm_ue, true_and, and_true]
      rw [hc] at a
      exact ⟨fun p => a.1 (by omega), fun p => a.2 (by omega)⟩
theorem zP51 {S : zSs} {D n u : Nat} {g : Int → zk_K} {e : zm_D} {t : Int} {x : Int} (I : zIn t e) (J : zIp t e) (R : zRe e) (ht : t < 600) (hD : 40 ≤ D) (h_x : -2147483648 ≤ x ∧ x < 2147483648) : zE S D 372 [zv_a 1, zv_i x, zv_a 160] n (zSg g) (zDg e) u (zK1 S D t n u 306 [zv_a 61, zv_i x] zPi) := by
  have i9 := I.2.1.1
  have r31 := R.1.1.1
  by_cases hx : x < 0 ∨ e 1 9 ≤ x
  · refine (zC169x I h_x hx hD).2 (zK1i (by omega) (by omega) (by omega) (by omega) (fun n2 u2 _ => (zX306x h_x (by omega) (by omega) (by omega)).2 (zK2i (by omega) (by omega) (by omega) (by omega) (zIn_e I ht (fun r j _ _ => by simp (disch := omega) only [zm_un])) (zIp_e J (fun r j _ _ => by simp (disch := omega) only [zm_un])) (zRe_e R (zIn_w I) (fun r j _ _ _ => by simp (disch := omega) only [zm_un])) ⟨1, 0, rfl, rfl, zm_us, fun q => absurd q (by decide), by decide⟩)))
  have hx : 0 ≤ x ∧ x < e 1 9 := by omega
  have a := R.2.1 x hx.1 (by omega)
  refine (zC169 I hx hD).2 (zK1i (by omega) (by omega) (by omega) (by omega) (fun n2 u2 _ => (zX306 (by first | omega | (unfold zB2; omega) | (simp (disch := omega) only [zm_un, zm_ue]; omega) | (unfold zB2; simp (disch := omega) only [zm_un, zm_ue]; omega)) (by first | omega | (unfold zB2; omega) | (simp (disch := omega) only [zm_un, zm_ue]; omega) | (unfold zB2; simp (disch := omega) only [zm_un, zm_ue]; omega)) (by omega)).2 (zK2i (by omega) (by omega) (by omega) (by omega) (zIn_e I ht (fun r j _ _ => by simp (disch := omega) only [zm_un])) (zIp_e J (fun r j _ _ => by simp (disch := omega) only [zm_un])) (zRe_e R (zIn_w I) (fun r j _ _ _ => by simp (disch := omega) only [zm_un])) ⟨0, _, rfl, rfl, by simp (disch := omega) only [zm_ue], fun _ => by simp (disch := omega) only [zm_un, zm_ue]; exact congrArg zw (by omega), by decide⟩)))
theorem zP52 {S : zSs} {D n u : Nat} {g : Int → zk_K} {e : zm_D} {t : Int} {x : Int} (I : zIn t e) (J : zIp t e) (R : zRe e) (ht : t < 600) (hD : 40 ≤ D) (h_x : -2147483648 ≤ x ∧ x < 2147483648) : zE S D 373 [zv_a 1, zv_i x, zv_a 160] n (zSg g) (zDg e) u (zK1 S D t n u 307 [zv_a 61, zv_i x] zPi) := by
  have i9 := I.2.1.1
  have r31 := R.1.1.1
  by_cases hx : x < 0 ∨ e 1 9 ≤ x
  · refine (zC170x I h_x hx hD).2 (zK1i (by omega) (by omega) (by omega) (by omega) (fun n2 u2 _ => (zX307x h_x (by omega) (by omega) (by omega)).2 (zK2i (by omega) (by omega) (by omega) (by omega) (zIn_e I ht (fun r j _ _ => by simp (disch := omega) only [zm_un])) (zIp_e J (fun r j _ _ => by simp (disch := omega) only [zm_un])) (zRe_e R (zIn_w I) (fun r j _ _ _ => by simp (disch := omega) only [zm_un])) ⟨1, 0, rfl, rfl, zm_us, fun q => absurd q (by decide), by decide⟩)))
  have hx : 0 ≤ x ∧ x < e 1 9 := by omega
  have a := R.2.1 x hx.1 (by omega)
  refine (zC170 I hx hD).2 (zK1i (by omega) (by omega) (by omega) (by omega) (fun n2 u2 _ => (zX307 (by first | omega | (unfold zB2; omega) | (simp (disch := omega) only [zm_un, zm_ue]; omega) | (unfold zB2; simp (disch := omega) only [zm_un, zm_ue]; omega)) (by first | omega | (unfold zB2; omega) | (simp (disch := omega) only [zm_un, zm_ue]; omega) | (unfold zB2; simp (disch := omega) only [zm_un, zm_ue]; omega)) (by omega)).2 (zK2i (by omega) (by omega) (by omega) (by omega) (zIn_e I ht (fun r j _ _ => by simp (disch := omega) only [zm_un])) (zIp_e J (fun r j _ _ => by simp (disch := omega) only [zm_un])) (zRe_e R (zIn_w I) (fun r j _ _ _ => by simp (disch := omega) only [zm_un])) ⟨0, _, rfl, rfl, by simp (disch := omega) only [zm_ue], fun _ => by simp (disch := omega) only [zm_un, zm_ue]; exact congrArg zw (by omega), by decide⟩)))
theorem zP54 {S : zSs} {D n u : Nat} {g : Int → zk_K} {e : zm_D} {t : Int} {x : Int} (I : zIn t e) (J : zIp t e) (R : zRe e) (ht : t < 600) (hD : 40 ≤ D) (h_x : -2147483648 ≤ x ∧ x < 2147483648) : zE S D 375 [zv_a 1, zv_i x, zv_a 160] n (zSg g) (zDg e) u (zK1 S D t n u 309 [zv_a 61, zv_i x] zPi) := by
  have i9 := I.2.1.1
  have r31 := R.1.1.1
  by_cases hx : x < 0 ∨ e 1 9 ≤ x
  · refine (zC172x I h_x hx hD).2 (zK1i (by omega) (by omega) (by omega) (by omega) (fun n2 u2 _ => (zX309x h_x (by omega) (by omega) (by omega)).2 (zK2i (by omega) (by omega) (by omega) (by omega) (zIn_e I ht (fun r j _ _ => by simp (disch := omega) only [zm_un])) (zIp_e J (fun r j _ _ => by simp (disch := omega) only [zm_un])) (zRe_e R (zIn_w I) (fun r j _ _ _ => by simp (disch := omega) only [zm_un])) ⟨1, 0, rfl, rfl, zm_us, fun q => absurd q (by decide), by decide⟩)))
  have hx : 0 ≤ x ∧ x < e 1 9 := by omega
  have a := R.2.1 x hx.1 (by omega)
  refine (zC172 I hx hD).2 (zK1i (by omega) (by omega) (by omega) (by omega) (fun n2 u2 _ => (zX309 (by first | omega | (unfold zB2; omega) | (simp (disch := omega) only [zm_un, zm_ue]; omega) | (unfold zB2; simp (disch := omega) only [zm_un, zm_ue]; omega)) (by first | omega | (unfold zB2; omega) | (simp (disch := omega) only [zm_un, zm_ue]; omega) | (unfold zB2; simp (disch := omega) only [zm_un, zm_ue]; omega)) (by omega)).2 (zK2i (by omega) (by omega) (by omega) (by omega) (zIn_e I ht (fun r j _ _ => by simp (disch := omega) only [zm_un])) (zIp_e J (fun r j _ _ => by simp (disch := omega) only [zm_un])) (zRe_e R (zIn_w I) (fun r j _ _ _ => by simp (disch := omega) only [zm_un])) ⟨0, _, rfl, rfl, by simp (disch := omega) only [zm_ue], fun _ => by simp (disch := omega) only [zm_un, zm_ue]; exact congrArg zw (by omega), by decide⟩)))
theorem zP55 {S : zSs} {D n u : Nat} {g : Int → zk_K} {e : zm_D} {t : Int} {x : Int} (I : zIn t e) (J : zIp t e) (R : zRe e) (ht : t < 600) (hD : 40 ≤ D) (h_x : -2147483648 ≤ x ∧ x < 2147483648) : zE S D 376 [zv_a 1, zv_i x, zv_a 160] n (zSg g) (zDg e) u (zK1 S D t n u 310 [zv_a 61, zv_i x] zPi) := by
  have i9 := I.2.1.1
  have r31 := R.1.1.1
  by_cases hx : x < 0 ∨ e 1 9 ≤ x
  · refine (zC173x I h_x hx hD).2 (zK1i (by omega) (by omega) (by omega) (by omega) (fun n2 u2 _ => (zX310x h_x (by omega) (by omega) (by omega)).2 (zK2i (by omega) (by omega) (by omega) (by omega) (zIn_e I ht (fun r j _ _ => by simp (disch := omega) only [zm_un])) (zIp_e J (fun r j _ _ => by simp (disch := omega) only [zm_un])) (zRe_e R (zIn_w I) (fun r j _ _ _ => by simp (disch := omega) only [zm_un])) ⟨1, 0, rfl, rfl, zm_us, fun q => absurd q (by decide), by decide⟩)))
  have hx : 0 ≤ x ∧ x < e 1 9 := by omega
  have a := R.2.1 x hx.1 (by omega)
  refine (zC173 I hx hD).2 (zK1i (by omega) (by omega) (by omega) (by omega) (fun n2 u2 _ => (zX310 (by first | omega | (unfold zB2; omega) | (simp (disch := omega) only [zm_un, zm_ue]; omega) | (unfold zB2; simp (disch := omega) only [zm_un, zm_ue]; omega)) (by first | omega | (unfold zB2; omega) | (simp (disch := omega) only [zm_un, zm_ue]; omega) | (unfold zB2; simp (disch := omega) only [zm_un, zm_ue]; omega)) (by omega)).2 (zK2i (by omega) (by omega) (by omega) (by omega) (zIn_e I ht (fun r j _ _ => by simp (disch := omega) only [zm_un])) (zIp_e J (fun r j _ _ => by simp (disch := omega) only [zm_un])) (zRe_e R (zIn_w I) (fun r j _ _ _ => by simp (disch := omega) only [zm_un])) ⟨0, _, rfl, rfl, by simp (disch := omega) only [zm_ue], fun _ => by simp (disch := omega) only [zm_un, zm_ue]; exact congrArg zw (by omega), by decide⟩)))
theorem zP53 {S : zSs} {D n u : Nat} {g : Int → zk_K} {e : zm_D} {t : Int} {x : Int} (I : zIn t e) (J : zIp t e) (R : zRe e) (ht : t < 600) (hD : 40 ≤ D) (h_x : -2147483648 ≤ x ∧ x < 2147483648) : zE S D 374 [zv_a 1, zv_i x, zv_a 160] n (zSg g) (zDg e) u (zK1 S D t n u 308 [zv_a 61, zv_i x] zPi) := by
  have i9 := I.2.1.1
  have r31 := R.1.1.1
  by_cases hx : x < 0 ∨ e 1 9 ≤ x
  · refine (zC171x I h_x hx hD).2 (zK1i (by omega) (by omega) (by omega) (by omega) (fun n2 u2 _ => (zX308x h_x (by omega) (by omega) (by omega)).2 (zK2i (by omega) (by omega) (by omega) (by omega) (zIn_e I ht (fun r j _ _ => by simp (disch := omega) only [zm_un])) (zIp_e J (fun r j _ _ => by simp (disch := omega) only [zm_un])) (zRe_e R (zIn_w I) (fun r j _ _ _ => by simp (disch := omega) only [zm_un])) ⟨1, 0, rfl, rfl, zm_us, fun q => absurd q (by decide), by decide⟩)))
  have hx : 0 ≤ x ∧ x < e 1 9 := by omega
  have a := R.2.1 x hx.1 (by omega)
  have b := I.2.2.1 x (by omega)
  have c := I.2.1.2
  have f := R.1.1
  have it := I.1
  by_cases hb : e 1 10 < e (15 + 2 * x) 6
  · refine (zC171t I hx hb hD).2 (zK1i (by omega) (by omega) (by omega) (by omega) (fun n2 u2 _ => (zX308t (by first | omega | (unfold zB2; omega) | (simp (disch := omega) only [zm_un, zm_ue]; omega) | (unfold zB2; simp (disch := omega) only [zm_un, zm_ue]; omega)) (by first | omega | (unfold zB2; omega) | (simp (disch := omega) only [zm_un, zm_ue]; omega) | (unfold zB2; simp (disch := omega) only [zm_un, zm_ue]; omega)) (by first | omega | (unfold zB2; omega) | (simp (disch := omega) only [zm_un, zm_ue]; omega) | (unfold zB2; simp (disch := omega) only [zm_un, zm_ue]; omega)) (by first | omega | (unfold zB2; omega) | (simp (disch := omega) only [zm_un, zm_ue]; omega) | (unfold zB2; simp (disch := omega) only [zm_un, zm_ue]; omega)) (by first | omega | (unfold zB2; omega) | (simp (disch := omega) only [zm_un, zm_ue]; omega) | (unfold zB2; simp (disch := omega) only [zm_un, zm_ue]; omega)) (by omega)).2 (zK2i (by omega) (by omega) (by omega) (by omega) (zIn_e I ht (fun r j _ _ => by simp (disch := omega) only [zm_un])) (zIp_e J (fun r j _ _ => by simp (disch := omega) only [zm_un])) (zRe_e R (zIn_w I) (fun r j _ _ _ => by simp (disch := omega) only [zm_un])) ⟨0, _, rfl, rfl, by simp (disch := omega) only [zm_ue], fun _ => by simp (disch := omega) only [zm_un, zm_ue]; decide, by decide⟩)))
  refine (zC171f I hx (by omega) hD).2 (zK1i (by omega) (by omega) (by omega) (by omega) (fun n2 u2 _ => (zX308f (by first | omega | (unfold zB2; omega) | (simp (disch := omega) only [zm_un, zm_ue]; omega) | (unfold zB2; simp (disch := omega) only [zm_un, zm_ue]; omega)) (by first | omega | (unfold zB2; omega) | (simp (disch := omega) only [zm_un, zm_ue]; omega) | (unfold zB2; simp (disch := omega) only [zm_un, zm_ue]; omega)) (by first | omega | (unfold zB2; omega) | (simp (disch := omega) only [zm_un, zm_ue]; omega) | (unfold zB2; simp (disch := omega) only [zm_un, zm_ue]; omega)) (by first | omega | (unfold zB2; omega) | (simp (disch := omega) only [zm_un, zm_ue]; omega) | (unfold zB2; simp (disch := omega) only [zm_un, zm_ue]; omega)) (by first | omega | (unfold zB2; omega) | (simp (disch := omega) only [zm_un, zm_ue]; omega) | (unfold zB2; simp (disch := omega) only [zm_un, zm_ue]; omega)) (by omega)).2 (zK2i (by omega) (by omega) (by omega) (by omega) (zIn_e I ht (fun r j _ _ => by simp (disch := omega) only [zm_un])) (zIp_e J (fun r j _ _ => by simp (disch := omega) only [zm_un])) (zRe_e R (zIn_w I) (fun r j _ _ _ => by simp (disch := omega) only [zm_un])) ⟨0, _, rfl, rfl, by simp (disch := omega) only [zm_ue], fun _ => by simp (disch := omega) only [zm_un, zm_ue]; decide, by decide⟩)))
theorem zP9 {S : zSs} {D n u : Nat} {g : Int → zk_K} {e : zm_D} {t : Int} {x : Int} (I : zIn t e) (J : zIp t e) (R : zRe e) (ht : t < 600) (hD : 40 ≤ D) (h_x : -2147483648 ≤ x ∧ x < 2147483648) : zE S D 337 [zv_a 1, zv_i x, zv_a 160] n (zSg g) (zDg e) u (zK1 S D t n u 230 [zv_a 61, zv_i x] zPi) := by
  by_cases hx : x < 0 ∨ 3 ≤ x
  · refine (zC127x I h_x hx hD).2 (zK1i (by omega) (by omega) (by omega) (by omega) (fun n2 u2 _ => (zX230x h_x hx (by omega)).2 (zK2i (by omega) (by omega) (by omega) (by omega) (zIn_e I ht (fun r j _ _ => by simp (disch := omega) only [zm_un])) (zIp_e J (fun r j _ _ => by simp (disch := omega) only [zm_un])) (zRe_e R (zIn_w I) (fun r j _ _ _ => by simp (disch := omega) only [zm_un])) ⟨1, 0, rfl, rfl, zm_us, fun q => absurd q (by decide), by decide⟩)))
  have hx : 0 ≤ x ∧ x < 3 := by omega
  have a := R.2.2.2.1 x hx.1 hx.2
  refine (zC127 I hx hD).2 (zK1i (by omega) (by omega) (by omega) (by omega) (fun n2 u2 _ => (zX230 hx (by omega)).2 (zK2i (by omega) (by omega) (by omega) (by omega) (zIn_e I ht (fun r j _ _ => by simp (disch := omega) only [zm_un])) (zIp_e J (fun r j _ _ => by simp (disch := omega) only [zm_un])) (zRe_e R (zIn_w I) (fun r j _ _ _ => by simp (disch := omega) only [zm_un])) ⟨0, _, rfl, rfl, by simp (disch := omega) only [zm_ue], fun _ => by simp (disch := omega) only [zm_un, zm_ue]; exact congrArg zw (by omega), by decide⟩)))
theorem zP56 {S : zSs} {D n u : Nat} {g : Int → zk_K} {e : zm_D} {t : Int} {x : Int} (I : zIn t e) (J : zIp t e) (R : zRe e) (ht : t < 600) (hD : 40 ≤ D) (h_x : -2147483648 ≤ x ∧ x < 2147483648) : zE S D 377 [zv_a 1, zv_i x, zv_a 160] n (zSg g) (zDg e) u (zK1 S D t n u 311 [zv_a 61, zv_i x] zPi) := by
  by_cases hx : x < 0 ∨ 3 ≤ x
  · refine (zC174x I h_x hx hD).2 (zK1i (by omega) (by omega) (by omega) (by omega) (fun n2 u2 _ => (zX311x h_x hx (by omega)).2 (zK2i (by omega) (by omega) (by omega) (by omega) (zIn_e I ht (fun r j _ _ => by simp (disch := omega) only [zm_un])) (zIp_e J (fun r j _ _ => by simp (disch := omega) only [zm_un])) (zRe_e R (zIn_w I) (fun r j _ _ _ => by simp (disch := omega) only [zm_un])) ⟨1, 0, rfl, rfl, zm_us, fun q => absurd q (by decide), by decide⟩)))
  have hx : 0 ≤ x ∧ x < 3 := by omega
  have a := R.2.2.2.1 x hx.1 hx.2
  refine (zC174 I hx hD).2 (zK1i (by omega) (by omega) (by omega) (by omega) (fun n2 u2 _ => (zX311 hx (by omega)).2 (zK2i (by omega) (by omega) (by omega) (by omega) (zIn_e I ht (fun r j _ _ => by simp (disch := omega) only [zm_un])) (zIp_e J (fun r j _ _ => by simp (disch := omega) only [zm_un])) (zRe_e R (zIn_w I) (fun r j _ _ _ => by simp (disch := omega) only [zm_un])) ⟨0, _, rfl, rfl, by simp (disch := omega) only [zm_ue], fun _ => by simp (disch := omega) only [zm_un, zm_ue]; exact congrArg zw (by omega), by decide⟩)))
theorem zP42 {S : zSs} {D n u : Nat} {g : Int → zk_K} {e : zm_D} {t : Int} (I : zIn t e) (J : zIp t e) (R : zRe e) (ht : t < 600) (hD : 40 ≤ D) : zE S D 160 [zv_a 1] n (zSg g) (zDg e) u (zK1 S D t n u 294 [zv_a 61] zPd) := by
  have a := R.1
  unfold zRa at a
  refine (zC160 I hD).2 (zK1i (by omega) (by omega) (by omega) (by omega) (fun n2 u2 _ => (zX294).2 (zK2i (by omega) (by omega) (by omega) (by omega) (zIn_e I ht (fun r j _ _ => by simp (disch := omega) only [zm_un])) (zIp_e J (fun r j _ _ => by simp (disch := omega) only [zm_un])) (zRe_e R (zIn_w I) (fun r j _ _ _ => by simp (disch := omega) only [zm_un])) ⟨by exact congrArg zv_i (by omega), by simp (disch := omega) only [zm_ue]⟩)))
theorem zP49 {S : zSs} {D n u : Nat} {g : Int → zk_K} {e : zm_D} {t : Int} (I : zIn t e) (J : zIp t e) (R : zRe e) (ht : t < 600) (hD : 40 ≤ D) : zE S D 167 [zv_a 1] n (zSg g) (zDg e) u (zK1 S D t n u 304 [zv_a 61] zPd) := by
  have a := R.1
  unfold zRa at a
  refine (zC167 I hD).2 (zK1i (by omega) (by omega) (by omega) (by omega) (fun n2 u2 _ => (zX304).2 (zK2i (by omega) (by omega) (by omega) (by omega) (zIn_e I ht (fun r j _ _ => by simp (disch := omega) only [zm_un])) (zIp_e J (fun r j _ _ => by simp (disch := omega) only [zm_un])) (zRe_e R (zIn_w I) (fun r j _ _ _ => by simp (disch := omega) only [zm_un])) ⟨by exact congrArg zv_i (by omega), by simp (disch := omega) only [zm_ue]⟩)))
theorem zP50 {S : zSs} {D n u : Nat} {g : Int → zk_K} {e : zm_D} {t : Int} (I : zIn t e) (J : zIp t e) (R : zRe e) (ht : t < 600) (hD : 40 ≤ D) : zE S D 168 [zv_a 1] n (zSg g) (zDg e) u (zK1 S D t n u 305 [zv_a 61] zPd) := by
  have a := R.1
  unfold zRa at a
  refine (zC168 I hD).2 (zK1i (by omega) (by omega) (by omega) (by omega) (fun n2 u2 _ => (zX305).2 (zK2i (by omega) (by omega) (by omega) (by omega) (zIn_e I ht (fun r j _ _ => by simp (disch := omega) only [zm_un])) (zIp_e J (fun r j _ _ => by simp (disch := omega) only [zm_un])) (zRe_e R (zIn_w I) (fun r j _ _ _ => by simp (disch := omega) only [zm_un])) ⟨by exact congrArg zv_i (by omega), by simp (disch := omega) only [zm_ue]⟩)))
theorem zP57 {S : zSs} {D n u : Nat} {g : Int → zk_K} {e : zm_D} {t : Int} (I : zIn t e) (J : zIp t e) (R : zRe e) (ht : t < 600) (hD : 40 ≤ D) : zE S D 175 [zv_a 1] n (zSg g) (zDg e) u (zK1 S D t n u 312 [zv_a 61] zPd) := by
  have a := R.1
  unfold zRa at a
  refine (zC175 I hD).2 (zK1i (by omega) (by omega) (by omega) (by omega) (fun n2 u2 _ => (zX312).2 (zK2i (by omega) (by omega) (by omega) (by omega) (zIn_e I ht (fun r j _ _ => by simp (disch := omega) only [zm_un])) (zIp_e J (fun r j _ _ => by simp (disch := omega) only [zm_un])) (zRe_e R (zIn_w I) (fun r j _ _ _ => by simp (disch := omega) only [zm_un])) ⟨by exact congrArg zv_i (by omega), by simp (disch := omega) only [zm_ue]⟩)))

