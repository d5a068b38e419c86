/-! ===== STEPS: hit, stand ===== -/
set_option maxRecDepth 65536
theorem zgoc_h {A : zm_D} {r j : Int} (G : ∀ s : Int, 0 ≤ s → s < 3 → zGr (A (38 + 5 * s) 2)) (hr : 60 < r) : zgoc A r j = A r j := by
  have g0 := G 0 (by decide) (by decide)
  have g1 := G 1 (by decide) (by decide)
  have g2 := G 2 (by decide) (by decide)
  simp only [Int.mul_zero, Int.add_zero, Int.mul_one, Int.reduceAdd, Int.reduceMul] at g0 g1 g2
  unfold zgoc
  split
  · rfl
  · unfold zfnd
    have e0 : ∀ a k : Int, 36 < a → a ≠ 37 → zdd (zhw A) a k = A a k := fun a k p1 p2 => by rw [zdd_o (by omega) (by omega) (by omega) (by omega), zhw_o (by omega) (by omega)]
    have k0 : zGr (zdd (zhw A) 38 2) := by rw [e0 38 2 (by decide) (by decide)]; exact g0
    have e1 : ∀ a k : Int, (51 < a ∨ a = 43 ∨ a = 48) → zfs (zdd (zhw A)) 38 39 41 a k = A a k := fun a k p => by rw [zfs_o k0 (by decide) (by omega) (by omega) (by omega) (by omega) (by omega) (by omega) (by omega) (by omega), e0 a k (by omega) (by omega)]
    have k1 : zGr (zfs (zdd (zhw A)) 38 39 41 43 2) := by rw [e1 43 2 (by decide)]; exact g1
    have e2 : ∀ a k : Int, (51 < a ∨ a = 48) → zfs (zfs (zdd (zhw A)) 38 39 41) 43 44 46 a k = A a k := fun a k p => by rw [zfs_o k1 (by decide) (by omega) (by omega) (by omega) (by omega) (by omega) (by omega) (by omega) (by omega), e1 a k (by omega)]
    have k2 : zGr (zfs (zfs (zdd (zhw A)) 38 39 41) 43 44 46 48 2) := by rw [e2 48 2 (by decide)]; exact g2
    rw [zm_un (by omega), zfs_o k2 (by decide) (by omega) (by omega) (by omega) (by omega) (by omega) (by omega) (by omega) (by omega), e2 r j (by omega)]
theorem zmgo_l {B : zm_D} {r j : Int} (h : r ≠ 96 ∧ (r ≠ 61 ∨ (j ≠ 32 ∧ j ≠ 35 ∧ j ≠ 36 ∧ j ≠ 37 ∧ j ≠ 38)) ∧ r ≠ 90 ∧ r ≠ 88 ∧ r ≠ 63 ∧ r ≠ 92 ∧ r ≠ 121 ∧ (r < 114 ∨ 120 < r)) : zmgo B r j = B r j := by
  have z : ∀ D : zm_D, zmsA D 0 r j = D r j := fun D => by
    unfold zmsA
    rw [zm_un (by omega), zmss_o (by omega) (by omega) (by omega) (by omega) (by omega) (by omega) (by omega), zmss_o (by omega) (by omega) (by omega) (by omega) (by omega) (by omega) (by omega), zmss_o (by omega) (by omega) (by omega) (by omega) (by omega) (by omega) (by omega)]
  unfold zmgo
  split
  · unfold zmfn
    rw [z]
    split
    · exact zmdr_o (by omega) (by omega) (by omega) 18 B
    · rfl
  · rfl
theorem zmgv_l {B : zm_D} {x k r v a j : Int} (hx : 0 ≤ x ∧ x < 3) (hr : 101 ≤ r ∧ r ≤ 108) (h : a ≤ 60 ∨ 121 < a ∨ (a = 61 ∧ j = 49)) : zmlk (zmtk B x k r) x k v a j = B a j := by
  have e : zmtk B x k r a j = B a j := by
    unfold zmtk
    rw [zm_un (by omega), zm_un (by omega), zmnx_o (by omega) (by omega)]
  unfold zmlk zmls
  split
  · rw [zm_un (by omega), e]
  · split
    · rw [zm_un (by omega), zm_un (by omega), zm_un (by omega), e]
    · exact e
theorem zmtn_h {e E : zm_D} (h : ∀ r j : Int, 60 < r → r ≤ 159 → (r ≠ 61 ∨ j ≠ 49) → E r j = e r j) : zmtn E = zmtn e := by
  unfold zmtn
  rw [zmts_e (e := e) (d := E) (h _ _ (by decide) (by decide) (by decide)) (h _ _ (by decide) (by decide) (by decide)) (h _ _ (by decide) (by decide) (by decide)), zmts_e (e := e) (d := E) (h _ _ (by decide) (by decide) (by decide)) (h _ _ (by decide) (by decide) (by decide)) (h _ _ (by decide) (by decide) (by decide)), zmts_e (e := e) (d := E) (h _ _ (by decide) (by decide) (by decide)) (h _ _ (by decide) (by decide) (by decide)) (h _ _ (by decide) (by decide) (by decide))]
/-- the reference's cells ahead of a call of a round -/
theorem zRe_Mr {t : Int} {e E : zm_D} (I : zIn t e) (R : zRe e) (h4 : e 34 4 = 1) (h : ∀ r j : Int, 60 < r → r ≤ 159 → E r j = e r j) : zMr 80000000 E := by
  obtain ⟨it, -, -, -, itr, is, ic, -⟩ := I
  obtain ⟨-, -, -, rt, ru, rs, rd, rq, -⟩ := R
  obtain ⟨⟨s1, s2, s3⟩, s4, -⟩ := rs
  obtain ⟨d1, d2⟩ := rd
  have r8 := ic.2.2.1
  have t0 := itr 0 (by decide) (by decide)
  have u0 := (rt 0 (by decide) (by decide)).1
  simp only [Int.add_zero] at t0 u0
  unfold zRu at ru
  have sh := is.1.1
  have dl := ic.2.1
  refine ⟨⟨by rw [h _ _ (by decide) (by decide)]; omega, fun k q1 q2 => ?_, ⟨by rw [h _ _ (by decide) (by decide)]; omega, fun k q1 q2 => ?_⟩, by rw [h _ _ (by decide) (by decide)]; omega, by rw [h _ _ (by decide) (by decide)]; omega⟩, fun s q1 q2 => ?_, ⟨by rw [h _ _ (by decide) (by decide)]; omega, by rw [h _ _ (by decide) (by decide)]; omega⟩⟩
  · rw [h _ _ (by decide) (by decide)] at q2
    rw [h _ _ (by decide) (by decide), s4 k q1 (by omega)]
    exact is.1.2 _ (by omega) (by omega)
  · rw [h _ _ (by decide) (by decide)] at q2
    rw [h _ _ (by decide) (by decide), d2 k q1 (by omega)]
    exact dl.2.2.2.2 k q1 (by omega)
  · obtain ⟨z1, z2, z3, z4, -, z6, z7, z8⟩ := rq s q1 q2
    have z6 := z6 h4
    have ci := ic.1 s q1 q2
    have y1 := ci.1.1
    have y2 := ci.2.1.1
    unfold zMw zMs zCd
    rw [h 98 s (by decide) (by decide), h (118 + s) 0 (by omega) (by omega), h (118 + s) 1 (by omega) (by omega), h (114 + s) 0 (by omega) (by omega), h (114 + s) 1 (by omega) (by omega), h (110 + s) 0 (by omega) (by omega), h (110 + s) 1 (by omega) (by omega), h 96 s (by decide) (by decide)]
    refine ⟨⟨z2, z3⟩, ⟨by omega, by omega⟩, fun p => ?_, fun p => ?_, fun p => ?_⟩
    · have a := z7 (by omega)
      refine ⟨by omega, fun k p1 p2 => ?_⟩
      rw [h _ _ (by omega) (by omega), a.2.2.1 k p1 p2]
      exact ci.1.2.2.2.2.2.2.2.2 k p1 (by omega)
    · have a := z8 (by omega)
      refine ⟨by omega, fun k p1 p2 => ?_⟩
      rw [h _ _ (by omega) (by omega), a.2.2 k p1 p2]
      exact ci.2.1.2.2.2.2.2.2.2.2 k p1 (by omega)
    · have := z6.2.2.1 p
      omega
/-- a call of a round begins -/
theorem zQz_0 {t : Int} {e N : zm_D} (I : zIn t e) (J : zIp t e) (R : zRe e) (h : ∀ r j : Int, 1 ≤ r → r ≤ 159 → (r ≠ 61 ∨ j ≠ 49) → N r j = e r j) : zQz 0 e N := by
  have M := zRe_Mon R
  obtain ⟨it, -, ig, iv, itr, is, ic, -⟩ := I
  have w4 := J.2.2.2.2.1
  obtain ⟨ra, rg, rh, rt, ru, rs, rd, rq, -⟩ := R
  have t0 := itr 0 (by decide) (by decide)
  simp only [Int.add_zero] at t0
  unfold zRa at ra
  refine ⟨fun r j q1 q2 q3 => h r j q1 q2 (by unfold zTo at q3; omega), zMon_e M (h _ _ (by decide) (by decide) (by decide)) (fun i _ _ => h _ _ (by omega) (by omega) (by omega)) (fun i j _ _ _ => h _ _ (by omega) (by omega) (by omega)) (h _ _ (by decide) (by decide) (by decide)) (fun i _ _ => h _ _ (by decide) (by decide) (by omega)) (fun i j _ _ _ => h _ _ (by omega) (by omega) (by omega)), fun i q1 q2 => ?_, ⟨by rw [h 4 0 (by decide) (by decide) (by decide)]; omega, by rw [h 31 1 (by decide) (by decide) (by decide)]; omega, fun i q1 q2 => by rw [h (15 + 2 * i) 2 (by omega) (by omega) (by omega)]; omega⟩, by rw [h 61 38 (by decide) (by decide) (by decide), h 34 9 (by decide) (by decide) (by decide)]; exact ra.2.1.1, zIs_e is (fun r j _ => h _ _ (by omega) (by omega) (by omega)), zIc_e ic (fun r j _ => h _ _ (by omega) (by omega) (by omega)) (fun j _ _ => h _ _ (by decide) (by decide) (by omega)) (h _ _ (by decide) (by decide) (by decide)), zRs_e rs (fun j _ => h _ _ (by decide) (by decide) (by omega)) (h _ _ (by decide) (by decide) (by decide)) (h _ _ (by decide) (by decide) (by decide)) (fun r j _ => h _ _ (by omega) (by omega) (by omega)), zRd_e rd (h _ _ (by decide) (by decide) (by decide)) (fun r j _ => h _ _ (by omega) (by omega) (by omega)), fun s q1 q2 => ⟨zRq_e (rq s q1 q2) (h _ _ (by decide) (by decide) (by decide)) (h _ _ (by decide) (by decide) (by omega)) (h _ _ (by decide) (by decide) (by omega)) (h _ _ (by decide) (by decide) (by omega)) (fun r j _ => h _ _ (by omega) (by omega) (by omega)) (fun r j _ => h _ _ (by omega) (by omega) (by omega)), by rw [h (38 + 5 * s) 2 (by omega) (by omega) (by omega)]; exact w4 s q1 q2⟩⟩
  have a := (rg i q1 q2).1.2.2.1
  rw [h 64 i (by decide) (by decide) (by omega), h (15 + 2 * i) 5 (by omega) (by omega) (by omega)]
  exact ⟨a, by omega, fun _ => rfl⟩
/-- what the class's contract asks of the memory behind the action -/
theorem zQz_J {t : Int} {e M A : zm_D} (I : zIn t e) (ht : t < 600) (Q : zQz 0 e M) (h4 : M 34 4 = 1) (hA : ∀ r j : Int, r ≤ 60 → M r j = A r j) : zJf (100000 * (t + 1)) A := by
  have it := I.1
  have itr := I.2.2.2.2.1
  obtain ⟨kk, -, -, ⟨-, V2, -⟩, -, qs, qc, -⟩ := Q
  have t0 := itr 0 (by decide) (by decide)
  have t1 := itr 1 (by decide) (by decide)
  have t2 := itr 2 (by decide) (by decide)
  simp only [Int.add_zero, Int.reduceAdd] at t0 t1 t2
  have cA : zIc A := zIc_e qc (fun r j _ => (hA _ _ (by omega)).symm) (fun j _ _ => (hA _ _ (by decide)).symm) (hA _ _ (by decide)).symm
  have sA : zIs A := zIs_e qs (fun r j _ => (hA _ _ (by omega)).symm)
  have tA : zIt (t + 1) A := fun i q1 q2 => by
    rw [← hA _ _ (by omega)]
    by_cases z : i = 0
    · subst z
      simp only [Int.add_zero]
      omega
    · rw [kk (31 + i) 1 (by omega) (by omega) (by unfold zTo; omega)]
      have := itr i q1 q2
      omega
  have f := qc.2.2.2 h4
  have s7 := qs.2.1
  refine ⟨zIc_H cA, zIc_F (by omega) cA tA, zIc_D cA sA, by rw [← hA _ _ (by decide)]; exact h4, by rw [← hA _ _ (by decide)]; omega⟩
/-- behind a given card who plays has two cards -/
theorem zGv2 {x k h c r v G : Int} {A B N : zm_D} (S : zGvS x k h c r v G N (zmx A B)) (hx : 0 ≤ x ∧ x < 3) (hk : k = 0 ∨ k = 1) (hh : h = 39 + 5 * x + 2 * k) (hc : c = h + 1) (h1 : 1 ≤ N h 1) (H : ∀ y : Int, (y = 39 ∨ y = 41 ∨ y = 44 ∨ y = 46 ∨ y = 49 ∨ y = 51) → y ≠ h → N y 5 = 1 → 2 ≤ N y 1) : z2c A := fun y q p => by
  have L : ∀ j : Int, zmx A B y j = A y j := fun j => zmx_l (by omega)
  rw [← L] at p ⊢
  by_cases z : y = h
  · rw [z, S.2.2.1.1]
    omega
  · have e : ∀ j : Int, zmx A B y j = N y j := fun j => S.1 y j (by omega) (by omega) (by omega) (by omega) z (by omega) (by omega)
    rw [e] at p ⊢
    exact H y q z p
/-- a call of a round ends -/
theorem zRnd_call {t v : Int} {e A E B : zm_D} (I : zIn t e) (J : zIp t e) (R : zRe e) (ht : t < 600) (hE : zm_u (zgoc A) 160 0 v = E) (hEA : ∀ r j : Int, 60 < r → A r j = e r j) (Q : zQz 0 e (zmx A B)) (h4 : A 34 4 = 1) (hn : znt (A 36 1) (A 36 3) (A 36 2) = 0) (h2 : z2c A) (hBl : ∀ r j : Int, (r ≤ 60 ∨ r = 160) → B r j = E r j) (hB9 : B 61 49 = 0) : (zIn (t + 1) (zmgo B) ∧ zIp (t + 1) (zmgo B) ∧ zRe (zmgo B)) ∧ zmgo B 61 49 = 0 ∧ zmgo B 160 0 = v ∧ zst (zmgo B) = (if 0 ≤ zst A then zst A else -1) := by
  have G : ∀ s : Int, 0 ≤ s → s < 3 → zGr (A (38 + 5 * s) 2) := fun s q1 q2 => by
    have := (Q.2.2.2.2.2.2.1.1 s q1 q2).2.2.2.1
    rw [zmx_l (by omega)] at this
    exact this
  have X := zRnd_go (e := e) (A := A) (B := B) (M := zmx A B) (d := zmgo B) (fun r j p => zmx_l p) (fun r j p _ => zmx_h p) R.2.2.2.2.1 I.2.1.1.1 Q (by rw [zmx_l (by decide)]; exact h4) (by rw [zmx_l (by decide), zmx_l (by decide), zmx_l (by decide)]; exact hn) (z2c_e h2 (fun r j _ _ => zmx_l (by omega))) (fun r j p => by rw [zmgo_l (by omega), hBl r j (.inl p), ← hE, zm_un (by omega)]) (fun r j _ _ => rfl)
  have zs : zst (zmx A B) = zst A := by
    unfold zst
    rw [zmx_l (by decide), zmx_l (by decide), zmx_l (by decide), zmx_l (by decide), zmx_l (by decide), zmx_l (by decide)]
  rw [zs] at X
  exact ⟨zQz_fin I J R ht X.1 X.2.1, by rw [zmgo_l (by decide)]; exact hB9, by rw [zmgo_l (by decide), hBl 160 0 (.inr rfl), ← hE]; exact zm_ue rfl rfl, X.2.2⟩
theorem zP16 {S : zSs} {D n u : Nat} {g : Int → zk_K} {e : zm_D} {t : Int} {x : Int} (I : zIn t e) (J : zIp t e) (R : zRe e) (ht : t < 600) (hD : 40 ≤ D) (h_x : -2147483648 ≤ x ∧ x < 2147483648) : zE S D 344 [zv_a 1, zv_i x, zv_a 160] n (zSg g) (zDg e) u (zK1 S D t n u 256 [zv_a 61, zv_i x] zPi) := by
  have c4 := I.2.2.2.2.2.2.1.2.2.1.1
  have rs1 := R.2.2.2.2.2.1.1
  by_cases hx : x < 0 ∨ 3 ≤ x
  · refine (zC134a I h_x hx hD).2 (zK1i (by omega) (by omega) (by omega) (by omega) (fun n2 u2 _ => (zX256a h_x hx (by omega)).2 (zK2i (by omega) (by omega) (by omega) (by omega) (zIn_e I ht (fun r j _ _ => by simp (disch := omega) only [zm_un])) (zIp_e J (fun r j _ _ => by simp (disch := omega) only [zm_un])) (zRe_e R (zIn_w I) (fun r j _ _ _ => by simp (disch := omega) only [zm_un])) ⟨1, 0, rfl, rfl, zm_us, fun q => absurd q (by decide), by decide⟩)))
  have hx : 0 ≤ x ∧ x < 3 := by omega
  rcases c4 with h4 | h4
  · refine (zC134b I hx h4 hD).2 (zK1i (by omega) (by omega) (by omega) (by omega) (fun n2 u2 _ => (zX256b hx (by omega) (by omega)).2 (zK2i (by omega) (by omega) (by omega) (by omega) (zIn_e I ht (fun r j _ _ => by simp (disch := omega) only [zm_un])) (zIp_e J (fun r j _ _ => by simp (disch := omega) only [zm_un])) (zRe_e R (zIn_w I) (fun r j _ _ _ => by simp (disch := omega) only [zm_un])) ⟨2, 0, rfl, rfl, zm_us, fun q => absurd q (by decide), by decide⟩)))
  have nn := J.2.2.2.2.2 h4
  have TN := (zRq_tn R.2.2.2.2.2.2.2.1 h4).2 nn.2.1
  by_cases ht2 : zst e = x
  rotate_left
  · refine (zC134c I hx h4 ht2 hD).2 (zK1i (by omega) (by omega) (by omega) (by omega) (fun n2 u2 _ => (zX256c hx (by omega) (zRe_M3 R) (by by_cases p : e (39 + 5 * zst e) 5 = 1; (· have := TN.1 p; have := @zst_r e; omega); (· have := TN.2 p; have := @zst_r e; omega)) (by omega)).2 (zK2i (by omega) (by omega) (by omega) (by omega) (zIn_e I ht (fun r j _ _ => by simp (disch := omega) only [zm_un])) (zIp_e J (fun r j _ _ => by simp (disch := omega) only [zm_un])) (zRe_e R (zIn_w I) (fun r j _ _ _ => by simp (disch := omega) only [zm_un])) ⟨3, 0, rfl, rfl, zm_us, fun q => absurd q (by decide), by decide⟩)))
  rw [ht2] at TN
  have ci := I.2.2.2.2.2.2.1.1 x hx.1 hx.2
  have rq := R.2.2.2.2.2.2.2.1 x hx.1 hx.2
  obtain ⟨who, c98, -, -, -, on, k1, k2⟩ := rq
  have on := on h4
  have sh := I.2.2.2.2.2.1.1.1
  have it := I.1
  by_cases h5 : e (39 + 5 * x) 5 = 1
  · have tn := TN.1 h5
    have c0 : 0 < e 98 x := by
      by_cases z : e 98 x = 0
      · have := (on.2.2.2.2.1 z).2; omega
      · omega
    have HI : zIh (e 34 4) e (39 + 5 * x) (40 + 5 * x) := ci.1
    have y7 := HI.2.2.2.2.2.2.1 h5
    have oo := on.2.2.2.2.2.1 (by omega)
    have cnt := k1 (by omega)
    have y1 := HI.1
    have sel : zSel (e (39 + 5 * x) 5) (e (118 + x) 0) := .inl (by omega)
    by_cases hl : e 5 4 = e 5 5
    · refine (zC134z0 I hx h4 ht2 h5 hl hD).2 (zK1i (by omega) (by omega) (by omega) (by omega) (fun n2 u2 _ => (zX256z0 (B := 80000000) (by decide) (zRe_Mr I R h4 (fun r j _ _ => rfl)) hx (by omega) tn (by omega) (by omega)).2 (zK2i (by omega) (by omega) (by omega) (by omega) (zIn_e I ht (fun r j _ _ => by simp (disch := omega) only [zm_un])) (zIp_e J (fun r j _ _ => by simp (disch := omega) only [zm_un])) (zRe_e R (zIn_w I) (fun r j _ _ _ => by simp (disch := omega) only [zm_un])) ⟨3, 0, rfl, rfl, zm_us, fun q => absurd q (by decide), by decide⟩)))
    have hl : e 5 4 < e 5 5 := by omega
    obtain ⟨V, hV⟩ : ∃ V, zgiv e (39 + 5 * x) = V := ⟨_, rfl⟩
    obtain ⟨E, hE⟩ : ∃ E, zm_u (zgoc (zgi e (39 + 5 * x) (40 + 5 * x))) 160 0 (zw V) = E := ⟨_, rfl⟩
    have Ae : ∀ r j : Int, 60 < r → zgi e (39 + 5 * x) (40 + 5 * x) r j = e r j := fun r j p => zgi_o (by omega) (by omega) (by omega) (by omega) (by omega)
    have GG : ∀ s : Int, 0 ≤ s → s < 3 → zGr (zgi e (39 + 5 * x) (40 + 5 * x) (38 + 5 * s) 2) := fun s q1 q2 => by
      rw [zgi_o (by omega) (by omega) (by omega) (by omega) (by omega)]
      exact (I.2.2.2.2.2.2.1.1 s q1 q2).2.2.2.1
    have EO : ∀ r j : Int, 60 < r → r ≤ 159 → E r j = e r j := fun r j q1 q2 => by rw [← hE, zm_un (by omega), zgoc_h GG q1, Ae r j q1]
    have Q0 : zQz 0 e (zmx e (zm_u E 61 49 0)) := zQz_0 I J R (fun r j q1 q2 q3 => by
      by_cases q : r ≤ 60
      · exact zmx_l q
      · rw [zmx_h (by omega), zm_un (by omega), EO r j (by omega) q2])
    have Z := zGiv (e := e) (A := e) (B := zm_u E 61 49 0) (x := x) (k := 0) hx (by decide) Q0 h4 hl (by rw [zm_un (by omega), EO _ _ (by decide) (by decide)]; omega) (by rw [zm_un (by omega), EO _ _ (by omega) (by omega)]; simp only [Int.mul_zero, Int.add_zero]; exact sel) (by simp only [Int.mul_zero, Int.add_zero]; omega) (by simp only [Int.mul_zero, Int.add_zero]; exact y7.2.2.2.2) (by simp only [Int.mul_zero, Int.add_zero]; omega)
    simp only [Int.mul_zero, Int.add_zero] at Z
    obtain ⟨Z1, Z2, Z3⟩ := Z
    rw [hV] at Z1
    have on4 : zgi e (39 + 5 * x) (40 + 5 * x) 34 4 = 1 := by rw [zgi_o (by omega) (by omega) (by omega) (by omega) (by omega)]; exact h4
    have JJ := zQz_J I ht Z2 (by rw [zmx_l (by decide)]; exact on4) (fun r j p => zmx_l p)
    refine (zC134_0 I (by omega) hx h4 ht2 h5 hl JJ hD).2 (zK1i (by omega) (by omega) (by omega) (by omega) (fun n2 u2 _ => ?_))
    rw [hV, hE]
    refine (zX256_0 (B := 80000000) (by decide) (zRe_Mr I R h4 EO) hx (by rw [EO _ _ (by decide) (by decide)]; omega) (by rw [zmtn_h (fun r j q1 q2 _ => EO r j q1 q2)]; exact tn) (by rw [EO _ _ (by decide) (by decide)]; omega) (by rw [EO _ _ (by omega) (by omega)]; omega) (by omega)).2 ?_
    have X := zRnd_call I J R ht hE Ae Z2 on4 (by rw [zgi_o (by omega) (by omega) (by omega) (by omega) (by omega), zgi_o (by omega) (by omega) (by omega) (by omega) (by omega), zgi_o (by omega) (by omega) (by omega) (by omega) (by omega)]; exact nn.1) (zGv2 Z3 hx (by decide) (by omega) (by omega) (by rw [zmx_l (by omega)]; omega) (fun y q q2 p => by rw [zmx_l (by omega)] at p ⊢; exact nn.2.2 y q p)) (fun r j p => by rw [zmgv_l hx (by omega) (by omega), zm_un (by omega)]) (by rw [zmgv_l hx (by omega) (by omega)]; exact zm_ue rfl rfl)
    rw [Z1] at X ⊢
    exact zK2i (by omega) (by omega) (by omega) (by omega) X.1.1 X.1.2.1 X.1.2.2 ⟨0, _, rfl, rfl, X.2.1, fun _ => X.2.2.1, by decide⟩
  · have n5 : e (39 + 5 * x) 5 = 0 := by have := ci.1.2.2.2.2.1; omega
    have tn := (TN.2 h5).2
    have h5 := (TN.2 h5).1
    have c0 : 1 < e 98 x := by
      by_cases z : e 98 x ≤ 1
      · have := (on.2.2.2.1 z).2; omega
      · omega
    have HI : zIh (e 34 4) e (41 + 5 * x) (42 + 5 * x) := ci.2.1
    have y7 := HI.2.2.2.2.2.2.1 h5
    have oo := on.2.2.2.2.2.2 (by omega)
    have cnt := k2 (by omega)
    have y1 := HI.1
    have sel : zSel (e (41 + 5 * x) 5) (e (118 + x) 1) := .inl (by omega)
    by_cases hl : e 5 4 = e 5 5
    · refine (zC134z1 I hx h4 ht2 n5 h5 hl hD).2 (zK1i (by omega) (by omega) (by omega) (by omega) (fun n2 u2 _ => (zX256z1 (B := 80000000) (by decide) (zRe_Mr I R h4 (fun r j _ _ => rfl)) hx (by omega) tn (by omega) (by omega)).2 (zK2i (by omega) (by omega) (by omega) (by omega) (zIn_e I ht (fun r j _ _ => by simp (disch := omega) only [zm_un])) (zIp_e J (fun r j _ _ => by simp (disch := omega) only [zm_un])) (zRe_e R (zIn_w I) (fun r j _ _ _ => by simp (disch := omega) only [zm_un])) ⟨3, 0, rfl, rfl, zm_us, fun q => absurd q (by decide), by decide⟩)))
    have hl : e 5 4 < e 5 5 := by omega
    obtain ⟨V, hV⟩ : ∃ V, zgiv e (41 + 5 * x) = V := ⟨_, rfl⟩
    obtain ⟨E, hE⟩ : ∃ E, zm_u (zgoc (zgi e (41 + 5 * x) (42 + 5 * x))) 160 0 (zw V) = E := ⟨_, rfl⟩
    have Ae : ∀ r j : Int, 60 < r → zgi e (41 + 5 * x) (42 + 5 * x) r j = e r j := fun r j p => zgi_o (by omega) (by omega) (by omega) (by omega) (by omega)
    have GG : ∀ s : Int, 0 ≤ s → s < 3 → zGr (zgi e (41 + 5 * x) (42 + 5 * x) (38 + 5 * s) 2) := fun s q1 q2 => by
      rw [zgi_o (by omega) (by omega) (by omega) (by omega) (by omega)]
      exact (I.2.2.2.2.2.2.1.1 s q1 q2).2.2.2.1
    have EO : ∀ r j : Int, 60 < r → r ≤ 159 → E r j = e r j := fun r j q1 q2 => by rw [← hE, zm_un (by omega), zgoc_h GG q1, Ae r j q1]
    have Q0 : zQz 0 e (zmx e (zm_u E 61 49 0)) := zQz_0 I J R (fun r j q1 q2 q3 => by
      by_cases q : r ≤ 60
      · exact zmx_l q
      · rw [zmx_h (by omega), zm_un (by omega), EO r j (by omega) q2])
    have Z := zGiv (e := e) (A := e) (B := zm_u E 61 49 0) (x := x) (k := 1) hx (by decide) Q0 h4 hl (by rw [zm_un (by omega), EO _ _ (by decide) (by decide)]; omega) (by rw [zm_un (by omega), EO _ _ (by omega) (by omega)]; rw [show 39 + 5 * x + 2 * 1 = 41 + 5 * x by omega]; exact sel) (by rw [show 39 + 5 * x + 2 * 1 = 41 + 5 * x by omega]; omega) (by rw [show 39 + 5 * x + 2 * 1 = 41 + 5 * x by omega]; exact y7.2.2.2.2) (by rw [show 39 + 5 * x + 2 * 1 = 41 + 5 * x by omega]; omega)
    rw [show 39 + 5 * x + 2 * 1 = 41 + 5 * x by omega, show 40 + 5 * x + 2 * 1 = 42 + 5 * x by omega, show 101 + 3 * x + 1 = 102 + 3 * x by omega] at Z
    obtain ⟨Z1, Z2, Z3⟩ := Z
    rw [hV] at Z1
    have on4 : zgi e (41 + 5 * x) (42 + 5 * x) 34 4 = 1 := by rw [zgi_o (by omega) (by omega) (by omega) (by omega) (by omega)]; exact h4
    have JJ := zQz_J I ht Z2 (by rw [zmx_l (by decide)]; exact on4) (fun r j p => zmx_l p)
    refine (zC134_1 I (by omega) hx h4 ht2 n5 h5 hl JJ hD).2 (zK1i (by omega) (by omega) (by omega) (by omega) (fun n2 u2 _ => ?_))
    rw [hV, hE]
    refine (zX256_1 (B := 80000000) (by decide) (zRe_Mr I R h4 EO) hx (by rw [EO _ _ (by decide) (by decide)]; omega) (by rw [zmtn_h (fun r j q1 q2 _ => EO r j q1 q2)]; exact tn) (by rw [EO _ _ (by decide) (by decide)]; omega) (by rw [EO _ _ (by omega) (by omega)]; omega) (by omega)).2 ?_
    have X := zRnd_call I J R ht hE Ae Z2 on4 (by rw [zgi_o (by omega) (by omega) (by omega) (by omega) (by omega), zgi_o (by omega) (by omega) (by omega) (by omega) (by omega), zgi_o (by omega) (by omega) (by omega) (by omega) (by omega)]; exact nn.1) (zGv2 Z3 hx (by decide) (by omega) (by omega) (by rw [zmx_l (by omega)]; omega) (fun y q q2 p => by rw [zmx_l (by omega)] at p ⊢; exact nn.2.2 y q p)) (fun r j p => by rw [zmgv_l hx (by omega) (by omega), zm_un (by omega)]) (by rw [zmgv_l hx (by omega) (by omega)]; exact zm_ue rfl rfl)
    rw [Z1] at X ⊢
    exact zK2i (by omega) (by omega) (by omega) (by omega) X.1.1 X.1.2.1 X.1.2.2 ⟨0, _, rfl, rfl, X.2.1, fun _ => X.2.2.1, by decide⟩
/-- a hand stands -/
theorem zStd_c {e N M : zm_D} {x k h : Int} (hx : 0 ≤ x ∧ x < 3) (hk : k = 0 ∨ k = 1) (hh : 39 + 5 * x + 2 * k = h) (Q : zQz 0 e N) (h4 : N 34 4 = 1) (h98 : k < N 98 x) (h5 : N h 5 = 1) (S : ∀ r j : Int, 1 ≤ r → r ≤ 159 → (r ≠ h ∨ j ≠ 5) → (r ≠ 118 + x ∨ j ≠ k) → M r j = N r j) (S1 : M h 5 = 0) (S2 : M (118 + x) k = 2) : zQz 0 e M := by
  obtain ⟨kk, Mo, St, ⟨V1, V2, V3⟩, b38, qs, qc, rs2, rd2, rq2⟩ := Q
  have hh2 : 39 ≤ h ∧ h ≤ 51 := by omega
  have SL : ∀ a j : Int, (1 ≤ a ∧ a ≤ 38) → M a j = N a j := fun a j q => S a j (by omega) (by omega) (by omega) (by omega)
  have SB : ∀ a j : Int, ((51 < a ∧ a ≤ 117) ∨ (120 < a ∧ a ≤ 159)) → M a j = N a j := fun a j q => S a j (by omega) (by omega) (by omega) (by omega)
  have SJ : ∀ a j : Int, 1 ≤ a → a ≤ 60 → j ≠ 5 → M a j = N a j := fun a j q1 q2 q => S a j (by omega) (by omega) (by omega) (by omega)
  have d34 : M 34 4 = N 34 4 := SL _ _ (by decide)
  have hand : ∀ h2 c2 : Int, 1 ≤ h2 → h2 ≤ 60 → 1 ≤ c2 → c2 ≤ 60 → (∀ j : Int, M c2 j = N c2 j) → zIh (N 34 4) N h2 c2 → zIh (M 34 4) M h2 c2 := fun h2 c2 q1 q2 q3 q4 q5 H => by
    obtain ⟨y1, y2, y3, y4, y5, y6, y7, ⟨y8, y9⟩, y10⟩ := H
    unfold zIh
    rw [SJ h2 1 q1 q2 (by decide), SJ h2 2 q1 q2 (by decide), SJ h2 3 q1 q2 (by decide), SJ h2 4 q1 q2 (by decide), SJ h2 6 q1 q2 (by decide), d34, zms_e q5, zma_e q5]
    by_cases p : h2 = h
    · rw [p, S1]
      rw [p] at y1 y2 y3 y4 y6 y8 y9 y10
      exact ⟨y1, y2, y3, y4, by decide, y6, fun z => absurd z (by decide), ⟨y8, y9⟩, fun j r1 r2 => by rw [q5]; exact y10 j r1 r2⟩
    · rw [S h2 5 (by omega) (by omega) (by omega) (by omega)]
      exact ⟨y1, y2, y3, y4, y5, y6, y7, ⟨y8, y9⟩, fun j r1 r2 => by rw [q5]; exact y10 j r1 r2⟩
  have cards : ∀ i j : Int, 0 ≤ i → i < 3 → M (40 + 5 * i) j = N (40 + 5 * i) j ∧ M (42 + 5 * i) j = N (42 + 5 * i) j := fun i j q1 q2 => ⟨S _ _ (by omega) (by omega) (by omega) (by omega), S _ _ (by omega) (by omega) (by omega) (by omega)⟩
  have s38 : ∀ i j : Int, 0 ≤ i → i < 3 → M (38 + 5 * i) j = N (38 + 5 * i) j := fun i j q1 q2 => S _ _ (by omega) (by omega) (by omega) (by omega)
  refine ⟨fun a j q1 q2 q3 => ?_, zMon_e Mo (SL _ _ (by decide)) (fun i _ _ => SL _ _ (by omega)) (fun i j _ _ _ => SL _ _ (by omega)) (SB _ _ (by decide)) (fun i _ _ => SB _ _ (by decide)) (fun i j _ _ _ => SB _ _ (by omega)), fun i q1 q2 => ?_, ⟨?_, ?_, fun i q1 q2 => ?_⟩, ?_, zIs_e qs (fun r j _ => SL _ _ (by omega)), ?_, zRs_e rs2 (fun j _ => SB _ _ (by decide)) d34 (SL _ _ (by decide)) (fun r j q => by
      by_cases p : r ≤ 38
      · exact SL _ _ (by omega)
      · exact SB _ _ (by omega)), zRd_e rd2 (SB _ _ (by decide)) (fun r j q => by
      by_cases p : r ≤ 38
      · exact SL _ _ (by omega)
      · exact SB _ _ (by omega)), fun s q1 q2 => ⟨?_, ?_⟩⟩
  · rw [← kk a j q1 q2 q3]
    unfold zTo at q3
    exact S a j q1 q2 (by omega) (by omega)
  · rw [SB 64 i (by decide), SL (15 + 2 * i) 5 (by omega)]
    exact St i q1 q2
  · rw [SL 4 0 (by decide)]; exact V1
  · rw [SL 31 1 (by decide)]; exact V2
  · rw [SL (15 + 2 * i) 2 (by omega)]; exact V3 i q1 q2
  · rw [SB 61 38 (by decide), SL 34 9 (by decide)]; exact b38
  · obtain ⟨s, ⟨b1, b2, b3, ⟨b4, b5⟩, b6⟩, c1, f⟩ := qc
    have d36 : ∀ j, M 36 j = N 36 j := fun j => SL 36 j (by decide)
    have d37 : ∀ j, M 37 j = N 37 j := fun j => SL 37 j (by decide)
    refine ⟨fun i q1 q2 => ?_, ⟨by rw [d36, d36]; exact b1, by rw [d36]; exact b2, by rw [d36]; exact b3, ⟨by rw [d36, d36, zms_e d37]; exact b4, by rw [d36, d36, zma_e d37]; exact b5⟩, fun j p1 p2 => by rw [d36] at p2; rw [d37]; exact b6 j p1 p2⟩, by rw [d34, SL 34 5 (by decide), SL 34 6 (by decide), SL 34 7 (by decide), SL 34 8 (by decide)]; exact c1, fun p => by rw [SL 5 7 (by decide), d36]; exact f (by omega)⟩
    obtain ⟨x1, x2, x3, x4, x5, x6⟩ := s i q1 q2
    refine ⟨hand _ _ (by omega) (by omega) (by omega) (by omega) (fun j => (cards i j q1 q2).1) x1, hand _ _ (by omega) (by omega) (by omega) (by omega) (fun j => (cards i j q1 q2).2) x2, by rw [s38 i 3 q1 q2]; exact x3, by rw [s38 i 2 q1 q2]; exact x4, by rw [s38 i 2 q1 q2, SJ (39 + 5 * i) 4 (by omega) (by omega) (by decide), SJ (41 + 5 * i) 4 (by omega) (by omega) (by decide)]; exact x5, fun p => ?_⟩
    rw [s38 i 3 q1 q2] at p
    have z := x6 p
    rw [SJ (41 + 5 * i) 1 (by omega) (by omega) (by decide), SJ (41 + 5 * i) 4 (by omega) (by omega) (by decide)]
    refine ⟨z.1, z.2.1, ?_⟩
    by_cases q : 41 + 5 * i = h
    · rw [q]; exact S1
    · rw [S (41 + 5 * i) 5 (by omega) (by omega) (by omega) (by omega)]; exact z.2.2
  · by_cases q : s = x
    · subst q
      obtain ⟨z1, z2, z3, z4, z5, z6, z7, z8⟩ := (rq2 s q1 q2).1
      obtain ⟨o1, o2, o3, o4, o5, o6, o7⟩ := z6 h4
      have o6 := o6 (by omega)
      have z7 := z7 (by omega)
      have e1 : ∀ j, j ≠ 5 → M (39 + 5 * s) j = N (39 + 5 * s) j := fun j p => SJ _ _ (by omega) (by omega) p
      have e2 : ∀ j, j ≠ 5 → M (41 + 5 * s) j = N (41 + 5 * s) j := fun j p => SJ _ _ (by omega) (by omega) p
      have eb : ∀ a, (a = 96 ∨ a = 97 ∨ a = 98) → M a s = N a s := fun a p => SB a s (by omega)
      have ec : ∀ a j, (a = 110 + s ∨ a = 114 + s) → M a j = N a j := fun a j p => SB a j (by omega)
      have ed : ∀ a j, (a = 101 + 3 * s ∨ a = 102 + 3 * s) → M a j = N a j := fun a j p => SB a j (by omega)
      unfold zRq
      rw [s38 s 2 q1 q2, s38 s 3 q1 q2, eb 96 (by decide), eb 97 (by decide), eb 98 (by decide), d34, e1 1 (by decide), e1 4 (by decide), e1 6 (by decide), e2 1 (by decide), e2 4 (by decide), e2 6 (by decide), ec (110 + s) 0 (by omega), ec (110 + s) 1 (by omega), ec (114 + s) 0 (by omega), ec (114 + s) 1 (by omega)]
      rcases hk with p | p
      · subst p
        simp only [Int.mul_zero, Int.add_zero] at hh
        subst hh
        have f5 : M (41 + 5 * s) 5 = N (41 + 5 * s) 5 := S _ _ (by omega) (by omega) (by omega) (by omega)
        have f8 : M (118 + s) 1 = N (118 + s) 1 := S _ _ (by omega) (by omega) (by omega) (by omega)
        rw [S1, S2, f5, f8]
        exact ⟨z1, z2, ⟨by decide, z3.2⟩, z4, fun p => by omega, fun _ => ⟨o1, o2, o3, o4, fun p => by omega, fun _ => ⟨o6.1, .inr (.inl ⟨rfl, rfl, by omega⟩)⟩, o7⟩, fun _ => ⟨z7.1, z7.2.1, fun j r1 r2 => by rw [ed _ _ (.inl rfl), (cards s j q1 q2).1]; exact z7.2.2.1 j r1 r2, z7.2.2.2⟩, fun p => ⟨(z8 p).1, (z8 p).2.1, fun j r1 r2 => by rw [ed _ _ (.inr rfl), (cards s j q1 q2).2]; exact (z8 p).2.2 j r1 r2⟩⟩
      · subst p
        rw [show 39 + 5 * s + 2 * 1 = 41 + 5 * s by omega] at hh
        subst hh
        have o7 := o7 (by omega)
        have f5 : M (39 + 5 * s) 5 = N (39 + 5 * s) 5 := S _ _ (by omega) (by omega) (by omega) (by omega)
        have f8 : M (118 + s) 0 = N (118 + s) 0 := S _ _ (by omega) (by omega) (by omega) (by omega)
        rw [S1, S2, f5, f8]
        exact ⟨z1, z2, ⟨z3.1, by decide⟩, z4, fun p => by omega, fun _ => ⟨o1, o2, o3, fun p => by omega, o5, fun _ => o6, fun _ => ⟨o7.1, .inr (.inl ⟨rfl, rfl, by omega⟩)⟩⟩, fun _ => ⟨z7.1, z7.2.1, fun j r1 r2 => by rw [ed _ _ (.inl rfl), (cards s j q1 q2).1]; exact z7.2.2.1 j r1 r2, z7.2.2.2⟩, fun p => ⟨(z8 p).1, (z8 p).2.1, fun j r1 r2 => by rw [ed _ _ (.inr rfl), (cards s j q1 q2).2]; exact (z8 p).2.2 j r1 r2⟩⟩
    · exact zRq_e (rq2 s q1 q2).1 d34 (SB _ _ (by decide)) (SB _ _ (by decide)) (SB _ _ (by decide)) (fun a j p => S a j (by omega) (by omega) (by omega) (by omega)) (fun a j p => S a j (by omega) (by omega) (by omega) (by omega))
  · rw [s38 s 2 q1 q2]
    exact (rq2 s q1 q2).2
theorem zP17 {S : zSs} {D n u : Nat} {g : Int → zk_K} {e : zm_D} {t : Int} {x : Int} (I : zIn t e) (J : zIp t e) (R : zRe e) (ht : t < 600) (hD : 40 ≤ D) (h_x : -2147483648 ≤ x ∧ x < 2147483648) : zE S D 345 [zv_a 1, zv_i x, zv_a 160] n (zSg g) (zDg e) u (zK1 S D t n u 257 [zv_a 61, zv_i x] zPi) := by
  have c4 := I.2.2.2.2.2.2.1.2.2.1.1
  have rs1 := R.2.2.2.2.2.1.1
  by_cases hx : x < 0 ∨ 3 ≤ x
  · refine (zC135a I h_x hx hD).2 (zK1i (by omega) (by omega) (by omega) (by omega) (fun n2 u2 _ => (zX257a h_x hx (by omega)).2 (zK2i (by omega) (by omega) (by omega) (by omega) (zIn_e I ht (fun r j _ _ => by simp (disch := omega) only [zm_un])) (zIp_e J (fun r j _ _ => by simp (disch := omega) only [zm_un])) (zRe_e R (zIn_w I) (fun r j _ _ _ => by simp (disch := omega) only [zm_un])) ⟨1, 0, rfl, rfl, zm_us, fun q => absurd q (by decide), by decide⟩)))
  have hx : 0 ≤ x ∧ x < 3 := by omega
  rcases c4 with h4 | h4
  · refine (zC135b I hx h4 hD).2 (zK1i (by omega) (by omega) (by omega) (by omega) (fun n2 u2 _ => (zX257b hx (by omega) (by omega)).2 (zK2i (by omega) (by omega) (by omega) (by omega) (zIn_e I ht (fun r j _ _ => by simp (disch := omega) only [zm_un])) (zIp_e J (fun r j _ _ => by simp (disch := omega) only [zm_un])) (zRe_e R (zIn_w I) (fun r j _ _ _ => by simp (disch := omega) only [zm_un])) ⟨2, 0, rfl, rfl, zm_us, fun q => absurd q (by decide), by decide⟩)))
  have nn := J.2.2.2.2.2 h4
  have TN := (zRq_tn R.2.2.2.2.2.2.2.1 h4).2 nn.2.1
  by_cases ht2 : zst e = x
  rotate_left
  · refine (zC135c I hx h4 ht2 hD).2 (zK1i (by omega) (by omega) (by omega) (by omega) (fun n2 u2 _ => (zX257c hx (by omega) (zRe_M3 R) (by by_cases p : e (39 + 5 * zst e) 5 = 1; (· have := TN.1 p; have := @zst_r e; omega); (· have := TN.2 p; have := @zst_r e; omega)) (by omega)).2 (zK2i (by omega) (by omega) (by omega) (by omega) (zIn_e I ht (fun r j _ _ => by simp (disch := omega) only [zm_un])) (zIp_e J (fun r j _ _ => by simp (disch := omega) only [zm_un])) (zRe_e R (zIn_w I) (fun r j _ _ _ => by simp (disch := omega) only [zm_un])) ⟨3, 0, rfl, rfl, zm_us, fun q => absurd q (by decide), by decide⟩)))
  rw [ht2] at TN
  have ci := I.2.2.2.2.2.2.1.1 x hx.1 hx.2
  have rq := R.2.2.2.2.2.2.2.1 x hx.1 hx.2
  obtain ⟨who, c98, -, -, -, on, k1, k2⟩ := rq
  have on := on h4
  have sh := I.2.2.2.2.2.1.1.1
  have it := I.1
  by_cases h5 : e (39 + 5 * x) 5 = 1
  · have tn := TN.1 h5
    have c0 : 0 < e 98 x := by
      by_cases z : e 98 x = 0
      · have := (on.2.2.2.2.1 z).2; omega
      · omega
    obtain ⟨E, hE⟩ : ∃ E, zm_u (zgoc (zm_u e (39 + 5 * x) 5 0)) 160 0 (zw (zst (zgoc (zm_u e (39 + 5 * x) 5 0)))) = E := ⟨_, rfl⟩
    have GG : ∀ s : Int, 0 ≤ s → s < 3 → zGr ((zm_u e (39 + 5 * x) 5 0) (38 + 5 * s) 2) := fun s q1 q2 => by
      rw [zm_un (by omega)]
      exact (I.2.2.2.2.2.2.1.1 s q1 q2).2.2.2.1
    have Ae : ∀ r j : Int, 60 < r → (zm_u e (39 + 5 * x) 5 0) r j = e r j := fun r j p => zm_un (by omega)
    have EO : ∀ r j : Int, 60 < r → r ≤ 159 → E r j = e r j := fun r j q1 q2 => by rw [← hE, zm_un (by omega), zgoc_h GG q1, Ae r j q1]
    have Q0 : zQz 0 e (zmx e (zm_u E 61 49 0)) := zQz_0 I J R (fun r j q1 q2 q3 => by
      by_cases q : r ≤ 60
      · exact zmx_l q
      · rw [zmx_h (by omega), zm_un (by omega), EO r j (by omega) q2])
    have Z2 := zStd_c (e := e) (N := zmx e (zm_u E 61 49 0)) (M := zmx (zm_u e (39 + 5 * x) 5 0) (zm_u (zm_u E 61 49 0) (118 + x) 0 2)) (x := x) (k := 0) (h := (39 + 5 * x)) hx (by decide) (by omega) Q0 (by rw [zmx_l (by decide)]; exact h4) (by rw [zmx_h (by decide), zm_un (by omega), EO _ _ (by decide) (by decide)]; omega) (by rw [zmx_l (by omega)]; exact h5) (fun r j q1 q2 q3 q4 => by
      by_cases q : r ≤ 60
      · rw [zmx_l q, zmx_l q, zm_un q3]
      · rw [zmx_h (by omega), zmx_h (by omega), zm_un q4]) (by rw [zmx_l (by omega)]; exact zm_ue rfl rfl) (by rw [zmx_h (by omega)]; exact zm_ue rfl rfl)
    have on4 : (zm_u e (39 + 5 * x) 5 0) 34 4 = 1 := by rw [zm_un (by omega)]; exact h4
    have JJ := zQz_J I ht Z2 (by rw [zmx_l (by decide)]; exact on4) (fun r j p => zmx_l p)
    have X := zRnd_call I J R ht hE Ae Z2 on4 (by rw [zm_un (by omega), zm_un (by omega), zm_un (by omega)]; exact nn.1) (fun y q p => by by_cases z : y = (39 + 5 * x); (· rw [z, zm_ue rfl rfl] at p; exact absurd p (by decide)); (· rw [zm_un (by omega)] at p ⊢; exact nn.2.2 y q p)) (fun r j p => by rw [zm_un (by omega), zm_un (by omega)]) (by rw [zm_un (by omega)]; exact zm_ue rfl rfl)
    have rows : ∀ r j : Int, r ≤ 60 → zgoc (zm_u e (39 + 5 * x) 5 0) r j = zmgo (zm_u (zm_u E 61 49 0) (118 + x) 0 2) r j := fun r j p => by rw [zmgo_l (by omega), zm_un (by omega), zm_un (by omega), ← hE, zm_un (by omega)]
    have cA : zIc (zgoc (zm_u e (39 + 5 * x) 5 0)) := zIc_e X.1.1.2.2.2.2.2.2.1 (fun r j _ => rows r j (by omega)) (fun j _ _ => rows _ j (by decide)) (rows _ _ (by decide))
    have sA : zst (zgoc (zm_u e (39 + 5 * x) 5 0)) = zst (zmgo (zm_u (zm_u E 61 49 0) (118 + x) 0 2)) := by
      unfold zst
      rw [rows _ _ (by decide), rows _ _ (by decide), rows _ _ (by decide), rows _ _ (by decide), rows _ _ (by decide), rows _ _ (by decide)]
    refine (zC135_0 I (by omega) hx h4 ht2 h5 JJ (zIc_H cA) hD).2 (zK1i (by omega) (by omega) (by omega) (by omega) (fun n2 u2 _ => ?_))
    rw [hE]
    refine (zX257_0 (B := 80000000) (by decide) (zRe_Mr I R h4 EO) hx (by rw [EO _ _ (by decide) (by decide)]; omega) (by rw [zmtn_h (fun r j q1 q2 _ => EO r j q1 q2)]; exact tn) (by omega)).2 ?_
    have TM := zRq_tn (e := zmx (zm_u e (39 + 5 * x) 5 0) (zm_u (zm_u E 61 49 0) (118 + x) 0 2)) (fun s q1 q2 => (Z2.2.2.2.2.2.2.2.2.2 s q1 q2).1) (by rw [zmx_l (by decide)]; exact on4)
    have zs : zst (zmx (zm_u e (39 + 5 * x) 5 0) (zm_u (zm_u E 61 49 0) (118 + x) 0 2)) = zst (zm_u e (39 + 5 * x) 5 0) := by
      unfold zst
      rw [zmx_l (by decide), zmx_l (by decide), zmx_l (by decide), zmx_l (by decide), zmx_l (by decide), zmx_l (by decide)]
    have tm : zmtn (zmx (zm_u e (39 + 5 * x) 5 0) (zm_u (zm_u E 61 49 0) (118 + x) 0 2)) = zmtn (zm_u (zm_u E 61 49 0) (118 + x) 0 2) := zmtn_h (fun r j q1 _ _ => zmx_h q1)
    rw [zs, tm] at TM
    have ans : (if zmtn (zm_u (zm_u E 61 49 0) (118 + x) 0 2) < 0 then -1 else zmtn (zm_u (zm_u E 61 49 0) (118 + x) 0 2) % 10) = zst (zgoc (zm_u e (39 + 5 * x) 5 0)) := by
      rw [sA, X.2.2.2]
      have sr := @zst_r (zm_u e (39 + 5 * x) 5 0)
      by_cases z : zst (zm_u e (39 + 5 * x) 5 0) < 0
      · rw [if_pos (by have := TM.1 z; omega), if_neg (by omega)]
      · have t2 := TM.2 (by omega)
        by_cases p : zmx (zm_u e (39 + 5 * x) 5 0) (zm_u (zm_u E 61 49 0) (118 + x) 0 2) (39 + 5 * zst (zm_u e (39 + 5 * x) 5 0)) 5 = 1
        · have := t2.1 p
          rw [if_neg (by omega), if_pos (by omega), this]
          omega
        · have := (t2.2 p).2
          rw [if_neg (by omega), if_pos (by omega), this]
          omega
    rw [ans]
    exact zK2i (by omega) (by omega) (by omega) (by omega) X.1.1 X.1.2.1 X.1.2.2 ⟨0, _, rfl, rfl, X.2.1, fun _ => X.2.2.1, by decide⟩
  · have n5 : e (39 + 5 * x) 5 = 0 := by have := ci.1.2.2.2.2.1; omega
    have tn := (TN.2 h5).2
    have h5 := (TN.2 h5).1
    have c0 : 1 < e 98 x := by
      by_cases z : e 98 x ≤ 1
      · have := (on.2.2.2.1 z).2; omega
      · omega
    obtain ⟨E, hE⟩ : ∃ E, zm_u (zgoc (zm_u e (41 + 5 * x) 5 0)) 160 0 (zw (zst (zgoc (zm_u e (41 + 5 * x) 5 0)))) = E := ⟨_, rfl⟩
    have GG : ∀ s : Int, 0 ≤ s → s < 3 → zGr ((zm_u e (41 + 5 * x) 5 0) (38 + 5 * s) 2) := fun s q1 q2 => by
      rw [zm_un (by omega)]
      exact (I.2.2.2.2.2.2.1.1 s q1 q2).2.2.2.1
    have Ae : ∀ r j : Int, 60 < r → (zm_u e (41 + 5 * x) 5 0) r j = e r j := fun r j p => zm_un (by omega)
    have EO : ∀ r j : Int, 60 < r → r ≤ 159 → E r j = e r j := fun r j q1 q2 => by rw [← hE, zm_un (by omega), zgoc_h GG q1, Ae r j q1]
    have Q0 : zQz 0 e (zmx e (zm_u E 61 49 0)) := zQz_0 I J R (fun r j q1 q2 q3 => by
      by_cases q : r ≤ 60
      · exact zmx_l q
      · rw [zmx_h (by omega), zm_un (by omega), EO r j (by omega) q2])
    have Z2 := zStd_c (e := e) (N := zmx e (zm_u E 61 49 0)) (M := zmx (zm_u e (41 + 5 * x) 5 0) (zm_u (zm_u E 61 49 0) (118 + x) 1 2)) (x := x) (k := 1) (h := (41 + 5 * x)) hx (by decide) (by omega) Q0 (by rw [zmx_l (by decide)]; exact h4) (by rw [zmx_h (by decide), zm_un (by omega), EO _ _ (by decide) (by decide)]; omega) (by rw [zmx_l (by omega)]; exact h5) (fun r j q1 q2 q3 q4 => by
      by_cases q : r ≤ 60
      · rw [zmx_l q, zmx_l q, zm_un q3]
      · rw [zmx_h (by omega), zmx_h (by omega), zm_un q4]) (by rw [zmx_l (by omega)]; exact zm_ue rfl rfl) (by rw [zmx_h (by omega)]; exact zm_ue rfl rfl)
    have on4 : (zm_u e (41 + 5 * x) 5 0) 34 4 = 1 := by rw [zm_un (by omega)]; exact h4
    have JJ := zQz_J I ht Z2 (by rw [zmx_l (by decide)]; exact on4) (fun r j p => zmx_l p)
    have X := zRnd_call I J R ht hE Ae Z2 on4 (by rw [zm_un (by omega), zm_un (by omega), zm_un (by omega)]; exact nn.1) (fun y q p => by by_cases z : y = (41 + 5 * x); (· rw [z, zm_ue rfl rfl] at p; exact absurd p (by decide)); (· rw [zm_un (by omega)] at p ⊢; exact nn.2.2 y q p)) (fun r j p => by rw [zm_un (by omega), zm_un (by omega)]) (by rw [zm_un (by omega)]; exact zm_ue rfl rfl)
    have rows : ∀ r j : Int, r ≤ 60 → zgoc (zm_u e (41 + 5 * x) 5 0) r j = zmgo (zm_u (zm_u E 61 49 0) (118 + x) 1 2) r j := fun r j p => by rw [zmgo_l (by omega), zm_un (by omega), zm_un (by omega), ← hE, zm_un (by omega)]
    have cA : zIc (zgoc (zm_u e (41 + 5 * x) 5 0)) := zIc_e X.1.1.2.2.2.2.2.2.1 (fun r j _ => rows r j (by omega)) (fun j _ _ => rows _ j (by decide)) (rows _ _ (by decide))
    have sA : zst (zgoc (zm_u e (41 + 5 * x) 5 0)) = zst (zmgo (zm_u (zm_u E 61 49 0) (118 + x) 1 2)) := by
      unfold zst
      rw [rows _ _ (by decide), rows _ _ (by decide), rows _ _ (by decide), rows _ _ (by decide), rows _ _ (by decide), rows _ _ (by decide)]
    refine (zC135_1 I (by omega) hx h4 ht2 n5 h5 JJ (zIc_H cA) hD).2 (zK1i (by omega) (by omega) (by omega) (by omega) (fun n2 u2 _ => ?_))
    rw [hE]
    refine (zX257_1 (B := 80000000) (by decide) (zRe_Mr I R h4 EO) hx (by rw [EO _ _ (by decide) (by decide)]; omega) (by rw [zmtn_h (fun r j q1 q2 _ => EO r j q1 q2)]; exact tn) (by omega)).2 ?_
    have TM := zRq_tn (e := zmx (zm_u e (41 + 5 * x) 5 0) (zm_u (zm_u E 61 49 0) (118 + x) 1 2)) (fun s q1 q2 => (Z2.2.2.2.2.2.2.2.2.2 s q1 q2).1) (by rw [zmx_l (by decide)]; exact on4)
    have zs : zst (zmx (zm_u e (41 + 5 * x) 5 0) (zm_u (zm_u E 61 49 0) (118 + x) 1 2)) = zst (zm_u e (41 + 5 * x) 5 0) := by
      unfold zst
      rw [zmx_l (by decide), zmx_l (by decide), zmx_l (by decide), zmx_l (by decide), zmx_l (by decide), zmx_l (by decide)]
    have tm : zmtn (zmx (zm_u e (41 + 5 * x) 5 0) (zm_u (zm_u E 61 49 0) (118 + x) 1 2)) = zmtn (zm_u (zm_u E 61 49 0) (118 + x) 1 2) := zmtn_h (fun r j q1 _ _ => zmx_h q1)
    rw [zs, tm] at TM
    have ans : (if zmtn (zm_u (zm_u E 61 49 0) (118 + x) 1 2) < 0 then -1 else zmtn (zm_u (zm_u E 61 49 0) (118 + x) 1 2) % 10) = zst (zgoc (zm_u e (41 + 5 * x) 5 0)) := by
      rw [sA, X.2.2.2]
      have sr := @zst_r (zm_u e (41 + 5 * x) 5 0)
      by_cases z : zst (zm_u e (41 + 5 * x) 5 0) < 0
      · rw [if_pos (by have := TM.1 z; omega), if_neg (by omega)]
      · have t2 := TM.2 (by omega)
        by_cases p : zmx (zm_u e (41 + 5 * x) 5 0) (zm_u (zm_u E 61 49 0) (118 + x) 1 2) (39 + 5 * zst (zm_u e (41 + 5 * x) 5 0)) 5 = 1
        · have := t2.1 p
          rw [if_neg (by omega), if_pos (by omega), this]
          omega
        · have := (t2.2 p).2
          rw [if_neg (by omega), if_pos (by omega), this]
          omega
    rw [ans]
    exact zK2i (by omega) (by omega) (by omega) (by omega) X.1.1 X.1.2.1 X.1.2.2 ⟨0, _, rfl, rfl, X.2.1, fun _ => X.2.2.1, by decide⟩
