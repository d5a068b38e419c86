/-! ===== STEPS: who is in turn, cards shown ===== -/
set_option maxRecDepth 65536
theorem zRe_M3 {e : zm_D} (R : zRe e) : zM3 e := by
  intro s q1 q2
  have a := R.2.2.2.2.2.2.2.1 s q1 q2
  exact ⟨a.2.1, a.2.2.1.1, a.2.2.1.2⟩
theorem zRe_ts {e : zm_D} (R : zRe e) (h : e 34 4 = 1) {s : Int} (hs : 0 ≤ s ∧ s < 3) : zmts e s = if e (39 + 5 * s) 5 = 1 then s else if e (41 + 5 * s) 5 = 1 then s + 10 else -1 := by
  obtain ⟨-, -, -, -, -, a, -, -⟩ := R.2.2.2.2.2.2.2.1 s hs.1 hs.2
  obtain ⟨-, -, -, a4, a5, a6, a7⟩ := a h
  have b := R.2.2.2.2.2.2.2.1 s hs.1 hs.2
  have b2 := b.2.1
  unfold zmts
  rcases (by omega : e 98 s = 0 ∨ e 98 s = 1 ∨ e 98 s = 2) with q | q | q
  · have c := a4 (by omega)
    have d := a5 q
    rw [if_neg (by omega), if_neg (by omega), if_neg (by omega), if_neg (by omega)]
  · have c := a4 (by omega)
    have d := a6 (by omega)
    by_cases p : e (39 + 5 * s) 5 = 1
    · rw [if_pos (by omega), if_pos p]
    · rw [if_neg (by omega), if_neg (by omega), if_neg p, if_neg (by omega)]
  · have c := a7 q
    have d := a6 (by omega)
    by_cases p : e (39 + 5 * s) 5 = 1
    · rw [if_pos (by omega), if_pos p]
    · rw [if_neg (by omega), if_neg p]
      by_cases p2 : e (41 + 5 * s) 5 = 1
      · rw [if_pos (by omega), if_pos p2]
      · rw [if_neg (by omega), if_neg p2]
theorem zRe_tn {e : zm_D} (R : zRe e) (h : e 34 4 = 1) : (zmtn e).tmod 10 = zst e := by
  have t0 := zRe_ts R h (s := 0) (by decide)
  have t1 := zRe_ts R h (s := 1) (by decide)
  have t2 := zRe_ts R h (s := 2) (by decide)
  simp only [Int.reduceMul, Int.reduceAdd] at t0 t1 t2
  unfold zmtn zst
  rw [t0, t1, t2]
  by_cases a0 : e 39 5 = 1
  · simp [a0]
  · by_cases a1 : e 41 5 = 1
    · simp [a0, a1]
    · by_cases b0 : e 44 5 = 1
      · simp [a0, a1, b0]
      · by_cases b1 : e 46 5 = 1
        · simp [a0, a1, b0, b1]
        · by_cases c0 : e 49 5 = 1
          · simp [a0, a1, b0, b1, c0]
          · by_cases c1 : e 51 5 = 1
            · simp [a0, a1, b0, b1, c0, c1]
            · simp [a0, a1, b0, b1, c0, c1]
theorem zP23 {S : zSs} {D n u : Nat} {g : Int → zk_K} {e : zm_D} {t : Int} (I : zIn t e) (J : zIp t e) (R : zRe e) (ht : t < 600) (hD : 40 ≤ D) : zE S D 351 [zv_a 1, zv_a 160] n (zSg g) (zDg e) u (zK1 S D t n u 263 [zv_a 61] zPi) := by
  have c4 := I.2.2.2.2.2.2.1.2.2.1.1
  have r4 := R.2.2.2.2.2.1.1.2.2
  rcases c4 with h4 | h4
  · refine (zC141x I h4 hD).2 (zK1i (by omega) (by omega) (by omega) (by omega) (fun n2 u2 _ => (zX263x (by omega) (by omega)).2 (zK2i (by omega) (by omega) (by omega) (by omega) (zIn_e I ht (fun r j _ _ => by simp (disch := omega) only [zm_un])) (zIp_e J (fun r j _ _ => by simp (disch := omega) only [zm_un])) (zRe_e R (zIn_w I) (fun r j _ _ _ => by simp (disch := omega) only [zm_un])) ⟨1, 0, rfl, rfl, zm_us, fun q => absurd q (by decide), by decide⟩)))
  have RE : zRe (zm_u e 160 0 (zw (zst e))) := zRe_e R (zIn_w I) (fun r j _ _ _ => by simp (disch := omega) only [zm_un])
  have q1 : (zmtn (zm_u e 160 0 (zw (zst e)))).tmod 10 = zst e := by
    rw [zRe_tn RE (by simp (disch := omega) only [zm_un]; exact h4)]
    unfold zst
    simp (disch := omega) only [zm_un]
  refine (zC141 I h4 hD).2 (zK1i (by omega) (by omega) (by omega) (by omega) (fun n2 u2 _ => (zX263 (by first | omega | (unfold zB2; omega) | (simp (disch := omega) only [zm_un, zm_ue]; omega) | (unfold zB2; simp (disch := omega) only [zm_un, zm_ue]; omega)) (zRe_M3 RE) (by omega)).2 (zK2i (by omega) (by omega) (by omega) (by omega) (zIn_e I ht (fun r j _ _ => by simp (disch := omega) only [zm_un])) (zIp_e J (fun r j _ _ => by simp (disch := omega) only [zm_un])) (zRe_e R (zIn_w I) (fun r j _ _ _ => by simp (disch := omega) only [zm_un])) ⟨0, _, rfl, rfl, by simp (disch := omega) only [zm_ue], fun _ => by simp (disch := omega) only [zm_un, zm_ue]; rw [q1], by decide⟩)))
/-- nothing is compared -/
def zPt (v1 v : zv_V) (_ : zm_D) : Prop := (∃ k, v1 = zv_i k) ∧ ∃ k, v = zv_i k
theorem zP21m {S : zSs} {D n u : Nat} {g : Int → zk_K} {e : zm_D} {t : Int} {x y c : Int} {e0 : zm_D} (I : zIn t e0) (J : zIp t e0) (R : zRe e0) (ht : t < 600) (hD : 40 ≤ D) (h_x : -2147483648 ≤ x ∧ x < 2147483648) (h_y : -2147483648 ≤ y ∧ y < 2147483648) (h_c : -2147483648 ≤ c ∧ c < 2147483648) (hE : ∀ r j : Int, r ≠ 160 → e r j = e0 r j) (v1 : Int) : zE S D 261 [zv_a 61, zv_i x, zv_i y, zv_i c] n (zSg g) (zDg e) u (zK2 t n u (zPt (zv_i v1))) := by
  have K : ∀ k : Int, zIn (t + 1) (zm_u e 61 49 k) ∧ zIp (t + 1) (zm_u e 61 49 k) ∧ zRe (zm_u e 61 49 k) := fun k => ⟨zIn_e I ht (fun r j _ _ => by rw [zm_un (by omega)]; exact hE r j (by omega)), zIp_e J (fun r j _ _ => by rw [zm_un (by omega)]; exact hE r j (by omega)), zRe_e R (zIn_w I) (fun r j _ _ _ => by rw [zm_un (by omega)]; exact hE r j (by omega))⟩
  by_cases hx : 0 ≤ x ∧ x < 3
  · have q := R.2.2.2.2.2.2.2.1 x hx.1 hx.2
    have s := I.2.2.2.2.2.2.1.1 x hx.1 hx.2
    have s1 := s.1.1
    have s2 := s.2.1.1
    obtain ⟨-, q2, -, -, -, -, q7, q8⟩ := q
    have e98 := hE 98 x (by omega)
    have e10 := hE (110 + x) 0 (by omega)
    have e11 := hE (110 + x) 1 (by omega)
    by_cases hy : 0 ≤ y ∧ y < e 98 x
    · rcases (by omega : y = 0 ∨ y = 1) with z | z
      · subst z
        have q9 := (q7 (by omega)).1
        by_cases hc : c < 0 ∨ e (110 + x) 0 ≤ c
        · exact (zX261f0 hx (by omega) (by omega) h_c hc (by omega)).2 (zK2i (by omega) (by omega) (by omega) (by omega) (K _).1 (K _).2.1 (K _).2.2 ⟨⟨_, rfl⟩, _, rfl⟩)
        · exact (zX261_0 hx (by omega) (by omega) (by omega) (by omega)).2 (zK2i (by omega) (by omega) (by omega) (by omega) (K _).1 (K _).2.1 (K _).2.2 ⟨⟨_, rfl⟩, _, rfl⟩)
      · subst z
        have q9 := (q8 (by omega)).1
        by_cases hc : c < 0 ∨ e (110 + x) 1 ≤ c
        · exact (zX261f1 hx (by omega) (by omega) h_c hc (by omega)).2 (zK2i (by omega) (by omega) (by omega) (by omega) (K _).1 (K _).2.1 (K _).2.2 ⟨⟨_, rfl⟩, _, rfl⟩)
        · exact (zX261_1 hx (by omega) (by omega) (by omega) (by omega)).2 (zK2i (by omega) (by omega) (by omega) (by omega) (K _).1 (K _).2.1 (K _).2.2 ⟨⟨_, rfl⟩, _, rfl⟩)
    · exact (zX261x h_x h_y (.inl (by omega)) (fun p => hy p.2) (by omega)).2 (zK2i (by omega) (by omega) (by omega) (by omega) (K _).1 (K _).2.1 (K _).2.2 ⟨⟨_, rfl⟩, _, rfl⟩)
  · exact (zX261x h_x h_y (.inr (by omega)) (fun p => hx p.1) (by omega)).2 (zK2i (by omega) (by omega) (by omega) (by omega) (K _).1 (K _).2.1 (K _).2.2 ⟨⟨_, rfl⟩, _, rfl⟩)
theorem zP21 {S : zSs} {D n u : Nat} {g : Int → zk_K} {e : zm_D} {t : Int} {x y c : Int} (I : zIn t e) (J : zIp t e) (R : zRe e) (ht : t < 600) (hD : 40 ≤ D) (h_x : -2147483648 ≤ x ∧ x < 2147483648) (h_y : -2147483648 ≤ y ∧ y < 2147483648) (h_c : -2147483648 ≤ c ∧ c < 2147483648) : zE S D 349 [zv_a 1, zv_i x, zv_i y, zv_i c, zv_a 160] n (zSg g) (zDg e) u (zK1 S D t n u 261 [zv_a 61, zv_i x, zv_i y, zv_i c] zPt) := by
  by_cases hx : x < 0 ∨ 3 ≤ x
  · exact (zC139n I h_x hx hD).2 (zK1i (by omega) (by omega) (by omega) (by omega) (fun n2 u2 _ => zP21m I J R ht hD h_x h_y h_c (fun r j q => by first | rfl | exact zm_un (by omega)) _))
  have hx : 0 ≤ x ∧ x < 3 := by omega
  have s := I.2.2.2.2.2.2.1.1 x hx.1 hx.2
  have s1 := s.1.1
  have s2 := s.2.1.1
  by_cases hy : y < 0 ∨ 1 < y
  · exact (zC139o I hx h_y hy hD).2 (zK1i (by omega) (by omega) (by omega) (by omega) (fun n2 u2 _ => zP21m I J R ht hD h_x h_y h_c (fun r j q => by first | rfl | exact zm_un (by omega)) _))
  · rcases (by omega : y = 0 ∨ y = 1) with z | z
    · subst z
      by_cases hz : e (39 + 5 * x) 1 = 0
      · exact (zC139z0 I hx hz hD).2 (zK1i (by omega) (by omega) (by omega) (by omega) (fun n2 u2 _ => zP21m I J R ht hD h_x h_y h_c (fun r j q => by first | rfl | exact zm_un (by omega)) _))
      · by_cases hc : c < 0 ∨ e (39 + 5 * x) 1 ≤ c
        · exact (zC139f0 I hx (by omega) h_c hc hD).2 (zK1i (by omega) (by omega) (by omega) (by omega) (fun n2 u2 _ => zP21m I J R ht hD h_x h_y h_c (fun r j q => by first | rfl | exact zm_un (by omega)) _))
        · exact (zC139_0 I hx (by omega) hD).2 (zK1i (by omega) (by omega) (by omega) (by omega) (fun n2 u2 _ => zP21m I J R ht hD h_x h_y h_c (fun r j q => by first | rfl | exact zm_un (by omega)) _))
    · subst z
      by_cases hz : e (41 + 5 * x) 1 = 0
      · exact (zC139z1 I hx hz hD).2 (zK1i (by omega) (by omega) (by omega) (by omega) (fun n2 u2 _ => zP21m I J R ht hD h_x h_y h_c (fun r j q => by first | rfl | exact zm_un (by omega)) _))
      · by_cases hc : c < 0 ∨ e (41 + 5 * x) 1 ≤ c
        · exact (zC139f1 I hx (by omega) h_c hc hD).2 (zK1i (by omega) (by omega) (by omega) (by omega) (fun n2 u2 _ => zP21m I J R ht hD h_x h_y h_c (fun r j q => by first | rfl | exact zm_un (by omega)) _))
        · exact (zC139_1 I hx (by omega) hD).2 (zK1i (by omega) (by omega) (by omega) (by omega) (fun n2 u2 _ => zP21m I J R ht hD h_x h_y h_c (fun r j q => by first | rfl | exact zm_un (by omega)) _))
