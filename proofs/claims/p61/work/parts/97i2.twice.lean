/-! ===== STEPS: twice ===== -/
set_option maxRecDepth 65536
/-- the card of a doubled hand -/
theorem zGvS_t {x k h c r v G : Int} {N M N1 M1 : zm_D} (S : zGvS x k h c r v G N M) (hx : 0 ≤ x ∧ x < 3) (hh : 39 ≤ h ∧ h ≤ 51) (hc : 39 ≤ c ∧ c ≤ 52 ∧ c ≠ h) (hr : 101 ≤ r ∧ r ≤ 109) (n : ∀ a j : Int, 1 ≤ a → a ≤ 159 → (a ≠ h ∨ j ≠ 5) → (a ≠ 118 + x ∨ j ≠ k) → N1 a j = N a j) (m : ∀ a j : Int, 1 ≤ a → a ≤ 159 → (a ≠ h ∨ j ≠ 5) → (a ≠ 118 + x ∨ j ≠ k) → M1 a j = M a j) (n5 : N1 h 5 = 0) (m5 : M1 h 5 = 0) (n8 : N1 (118 + x) k = 2) (m8 : M1 (118 + x) k = if 21 < G then 3 else 2) : zGvS x k h c r v G N1 M1 := by
  obtain ⟨S1, S2, ⟨S31, S32, S33, S3c⟩, ⟨S44, S45, S46, St31⟩, S5, ⟨S61, S62, S63, S64⟩, ⟨S71, S72, S73⟩⟩ := S
  refine ⟨fun a j q1 q2 q3 q4 q5 q6 q7 => ?_, fun a j q => ?_, ⟨?_, ?_, ?_, fun j => ?_⟩, ⟨?_, ?_, ?_, ?_⟩, fun a j q1 q2 q3 q4 q5 q6 q7 q8 q9 => ?_, ⟨?_, fun j q1 q2 => ?_, fun j => ?_, ?_⟩, ⟨?_, ?_, ?_⟩⟩
  · rw [m a j (by omega) (by omega) (by omega) (by omega), n a j (by omega) (by omega) (by omega) (by omega)]
    exact S1 a j q1 q2 q3 q4 q5 q6 q7
  · rw [m a j (by omega) (by omega) (by omega) (by omega), S2 a j q]
    have n4 : N1 5 4 = N 5 4 := n _ _ (by omega) (by omega) (by omega) (by omega)
    unfold ztk
    rw [n4, n 6 _ (by omega) (by omega) (by omega) (by omega), n 8 _ (by omega) (by omega) (by omega) (by omega)]
    by_cases z : a = 8 ∧ j = N 6 (N 5 4)
    · rw [zm_ue z.1 z.2, zm_ue z.1 z.2]
    · have z : a ≠ 8 ∨ j ≠ N 6 (N 5 4) := by omega
      rw [zm_un z, zm_un z]
      by_cases z2 : a = 5 ∧ j = 4
      · rw [zm_ue z2.1 z2.2, zm_ue z2.1 z2.2]
      · have z2 : a ≠ 5 ∨ j ≠ 4 := by omega
        rw [zm_un z2, zm_un z2, n a j (by omega) (by omega) (by omega) (by omega)]
  · rw [m h 1 (by omega) (by omega) (by omega) (by omega), n h 1 (by omega) (by omega) (by omega) (by omega)]; exact S31
  · rw [m h 2 (by omega) (by omega) (by omega) (by omega), n h 2 (by omega) (by omega) (by omega) (by omega)]; exact S32
  · rw [m h 3 (by omega) (by omega) (by omega) (by omega), n h 3 (by omega) (by omega) (by omega) (by omega)]; exact S33
  · rw [m c j (by omega) (by omega) (by omega) (by omega), n h 1 (by omega) (by omega) (by omega) (by omega), n c j (by omega) (by omega) (by omega) (by omega)]; exact S3c j
  · rw [m h 4 (by omega) (by omega) (by omega) (by omega), n h 4 (by omega) (by omega) (by omega) (by omega)]; exact S44
  · unfold zF2
    rw [m5, n5]
    split <;> rfl
  · rw [m h 6 (by omega) (by omega) (by omega) (by omega)]; exact S46
  · rw [m 31 1 (by omega) (by omega) (by omega) (by omega), n 31 1 (by omega) (by omega) (by omega) (by omega), n h 4 (by omega) (by omega) (by omega) (by omega)]; exact St31
  · rw [m a j (by omega) (by omega) (by omega) (by omega), n a j (by omega) (by omega) (by omega) (by omega)]
    exact S5 a j q1 q2 q3 q4 q5 q6 q7 q8 q9
  · rw [m 61 35 (by omega) (by omega) (by omega) (by omega), n 61 35 (by omega) (by omega) (by omega) (by omega)]; exact S61
  · rw [n 61 35 (by omega) (by omega) (by omega) (by omega)] at q2
    rw [m 92 j (by omega) (by omega) (by omega) (by omega), n 92 (j + 1) (by omega) (by omega) (by omega) (by omega)]; exact S62 j q1 q2
  · rw [m r j (by omega) (by omega) (by omega) (by omega), n (110 + x) k (by omega) (by omega) (by omega) (by omega), n r j (by omega) (by omega) (by omega) (by omega)]; exact S63 j
  · rw [m (110 + x) k (by omega) (by omega) (by omega) (by omega), n (110 + x) k (by omega) (by omega) (by omega) (by omega)]; exact S64
  · unfold zF3
    rw [m8, n8]
    split
    · rfl
    · split <;> rfl
  · rw [m (114 + x) k (by omega) (by omega) (by omega) (by omega), n (114 + x) k (by omega) (by omega) (by omega) (by omega)]; exact S72
  · rw [m 88 0 (by omega) (by omega) (by omega) (by omega), n 88 0 (by omega) (by omega) (by omega) (by omega), n (114 + x) k (by omega) (by omega) (by omega) (by omega)]; exact S73
/-- the reference looks at a hand that stands -/
theorem zmlk_t {D : zm_D} {x k G : Int} (hx : 0 ≤ x ∧ x < 3) : (∀ a j : Int, (a ≠ 118 + x ∨ j ≠ k) → zmlk (zm_u D (118 + x) k 2) x k G a j = zmlk D x k G a j) ∧ zmlk (zm_u D (118 + x) k 2) x k G (118 + x) k = if 21 < G then 3 else 2 := by
  unfold zmlk zmls
  rcases (by omega : 21 < G ∨ G = 21 ∨ G < 21) with g | g | g
  · rw [if_neg (by omega), if_pos g, if_neg (by omega), if_pos g, if_pos g]
    refine ⟨fun a j q => ?_, zm_ue rfl rfl⟩
    rw [zm_un q, zm_un q]
    by_cases z : a = 114 + x ∧ j = k
    · rw [zm_ue z.1 z.2, zm_ue z.1 z.2]
    · have z : a ≠ 114 + x ∨ j ≠ k := by omega
      rw [zm_un z, zm_un z]
      by_cases z2 : a = 88 ∧ j = 0
      · rw [zm_ue z2.1 z2.2, zm_ue z2.1 z2.2, zm_un (by omega), zm_un (by omega)]
      · have z2 : a ≠ 88 ∨ j ≠ 0 := by omega
        rw [zm_un z2, zm_un z2, zm_un q]
  · rw [if_pos g, if_pos g, if_neg (by omega)]
    exact ⟨fun a j q => by rw [zm_un q, zm_un q], zm_ue rfl rfl⟩
  · rw [if_neg (by omega), if_neg (by omega), if_neg (by omega), if_neg (by omega), if_neg (by omega)]
    exact ⟨fun a j q => zm_un q, zm_ue rfl rfl⟩
theorem zP18_0 {S : zSs} {D n u : Nat} {g : Int → zk_K} {e : zm_D} {t : Int} {x : Int} (I : zIn t e) (J : zIp t e) (R : zRe e) (ht : t < 600) (hD : 40 ≤ D) (h_x : -2147483648 ≤ x ∧ x < 2147483648) (hx : 0 ≤ x ∧ x < 3) (h4 : e 34 4 = 1) (ht2 : zst e = x) (h5 : e (39 + 5 * x) 5 = 1) : zE S D 346 [zv_a 1, zv_i x, zv_a 160] n (zSg g) (zDg e) u (zK1 S D t n u 258 [zv_a 61, zv_i x] zPi) := by
  have nn := J.2.2.2.2.2 h4
  have TN := (zRq_tn R.2.2.2.2.2.2.2.1 h4).2 nn.2.1
  rw [ht2] at TN
  have rs1 := R.2.2.2.2.2.1.1
  have ci := I.2.2.2.2.2.2.1.1 x hx.1 hx.2
  have rq := R.2.2.2.2.2.2.2.1 x hx.1 hx.2
  obtain ⟨who, c98, -, -, -, on, k1, k2⟩ := rq
  have on := on h4
  have sh := I.2.2.2.2.2.1.1.1
  have it := I.1
  have ru := R.2.2.2.2.1
  have ra := R.1
  unfold zRu at ru
  unfold zRa at ra
  have r91 := I.2.2.2.2.2.2.1.2.2.1
  have tn := TN.1 h5
  have c0 : 0 < e 98 x := by
    by_cases z : e 98 x = 0
    · have := (on.2.2.2.2.1 z).2; omega
    · omega
  have HI : zIh (e 34 4) e (39 + 5 * x) (40 + 5 * x) := ci.1
  have y7 := HI.2.2.2.2.2.2.1 h5
  have oo := on.2.2.2.2.2.1 (by omega)
  have cnt := k1 (by omega)
  have sp := (k1 (by omega)).2.2.2
  have y1 := HI.1
  obtain ⟨j, hj⟩ : ∃ j, e 96 x = j := ⟨_, rfl⟩
  have b8 : 0 ≤ j ∧ j < 8 := by omega
  have hg : e (38 + 5 * x) 2 = 15 + 2 * j := by omega
  have w4 := J.2.2.2.2.1 x hx.1 hx.2
  have ng : j < e 1 9 := by omega
  obtain ⟨s, hs⟩ : ∃ s, e (39 + 5 * x) 4 = s := ⟨_, rfl⟩
  have ga := R.2.1 j b8.1 b8.2
  have l67 := ((R.2.2.1 j b8.1 b8.2).1 ng).1
  have gb := I.2.2.1 j b8
  have i10 := I.2.1.2
  have mg : zMg e j := by unfold zMg zB2; omega
  have cm : zCj e j s ↔ zMj e j s := by unfold zCj zMj; omega
  have g114 : e (114 + x) 0 = s := by omega
  have RF := fun {Q2 : ((Option zv_V) ⊕ Nat) → Nat → zk_S → zm_D → Nat → Prop} {n2 u2 : Nat} => @zX258f0 S D n2 u2 g e Q2 80000000 (by decide) (zRe_Mr I R h4 (fun r j _ _ => rfl)) x hx (by omega) tn (by omega) (by omega) (by rw [hj]; exact mg)
  rw [hj, g114] at RF
  have RG := fun {Q2 : ((Option zv_V) ⊕ Nat) → Nat → zk_S → zm_D → Nat → Prop} {n2 u2 : Nat} hf => @RF Q2 n2 u2 hf (by omega)
  by_cases hf : (e (39 + 5 * x) 1 = 2 ∧ (e (38 + 5 * x) 3 = 0 ∨ e 34 5 = 1))
  rotate_left
  · refine (zC136f0 I hx h4 ht2 h5 hf hD).2 (zK1i (by omega) (by omega) (by omega) (by omega) (fun n2 u2 _ => (RG (.inl (fun z => hf ⟨by omega, by omega⟩))).2 (zK2i (by omega) (by omega) (by omega) (by omega) (zIn_e I ht (fun r j _ _ => by simp (disch := omega) only [zm_un])) (zIp_e J (fun r j _ _ => by simp (disch := omega) only [zm_un])) (zRe_e R (zIn_w I) (fun r j _ _ _ => by simp (disch := omega) only [zm_un])) ⟨3, 0, rfl, rfl, zm_us, fun q => absurd q (by decide), by decide⟩)))
  by_cases hl : e 5 5 - e 5 4 < 1
  · refine (zC136z0 I hx h4 ht2 h5 hf hl hD).2 (zK1i (by omega) (by omega) (by omega) (by omega) (fun n2 u2 _ => (RG (.inl (fun z => by omega))).2 (zK2i (by omega) (by omega) (by omega) (by omega) (zIn_e I ht (fun r j _ _ => by simp (disch := omega) only [zm_un])) (zIp_e J (fun r j _ _ => by simp (disch := omega) only [zm_un])) (zRe_e R (zIn_w I) (fun r j _ _ _ => by simp (disch := omega) only [zm_un])) ⟨3, 0, rfl, rfl, zm_us, fun q => absurd q (by decide), by decide⟩)))
  by_cases hk : zCj e j s
  rotate_left
  · refine (zC136k0 I b8 hg hx h4 ht2 h5 hf (by omega) (by rw [hs]; exact hk) hD).2 (zK1i (by omega) (by omega) (by omega) (by omega) (fun n2 u2 _ => (RG (.inr (fun z => hk (cm.2 z)))).2 (zK2i (by omega) (by omega) (by omega) (by omega) (zIn_e I ht (fun r j _ _ => by simp (disch := omega) only [zm_un])) (zIp_e J (fun r j _ _ => by simp (disch := omega) only [zm_un])) (zRe_e R (zIn_w I) (fun r j _ _ _ => by simp (disch := omega) only [zm_un])) ⟨3, 0, rfl, rfl, zm_us, fun q => absurd q (by decide), by decide⟩)))
  clear RF RG
  have CC := fun {B2 : Int} (hB2 : B2 ≤ 100000000) => @zC136_0 S D n u g e (zK1 S D t n u 258 [zv_a 61, zv_i x] zPi) t x I B2 hB2 j b8 hg hx h4 ht2 h5 hf (by omega) (by rw [hs]; exact hk)
  have to : ∀ r i : Int, (r ≠ 15 + 2 * j ∨ (i ≠ 2 ∧ i ≠ 5)) → (r ≠ (39 + 5 * x) ∨ i ≠ 4) → (ztw e (15 + 2 * j) (39 + 5 * x)) r i = e r i := fun r i p1 p2 => ztw_o p1 p2
  have t4 : (ztw e (15 + 2 * j) (39 + 5 * x)) (39 + 5 * x) 4 = s + s := by unfold ztw; rw [zm_ue rfl rfl, hs]
  have tq2 : (ztw e (15 + 2 * j) (39 + 5 * x)) (15 + 2 * j) 2 = e (15 + 2 * j) 2 - s := by unfold ztw; rw [zm_un (by omega), zm_un (by omega), zm_ue rfl rfl, hs]
  have tq5 : (ztw e (15 + 2 * j) (39 + 5 * x)) (15 + 2 * j) 5 = e (15 + 2 * j) 5 + s := by unfold ztw; rw [zm_un (by omega), zm_ue rfl rfl, hs]
  obtain ⟨V, hV⟩ : ∃ V, zgiv (ztw e (15 + 2 * j) (39 + 5 * x)) (39 + 5 * x) = V := ⟨_, rfl⟩
  obtain ⟨E, hE⟩ : ∃ E, zm_u (zgoc (zm_u (zgi (ztw e (15 + 2 * j) (39 + 5 * x)) (39 + 5 * x) (40 + 5 * x)) (39 + 5 * x) 5 0)) 160 0 (zw V) = E := ⟨_, rfl⟩
  rw [hV] at CC
  have Ae : ∀ r i : Int, 60 < r → (zm_u (zgi (ztw e (15 + 2 * j) (39 + 5 * x)) (39 + 5 * x) (40 + 5 * x)) (39 + 5 * x) 5 0) r i = e r i := fun r i p => by rw [zm_un (by omega), zgi_o (by omega) (by omega) (by omega) (by omega) (by omega), to r i (by omega) (by omega)]
  have A38 : ∀ i q : Int, 0 ≤ i → i < 3 → (zm_u (zgi (ztw e (15 + 2 * j) (39 + 5 * x)) (39 + 5 * x) (40 + 5 * x)) (39 + 5 * x) 5 0) (38 + 5 * i) q = e (38 + 5 * i) q := fun i q q1 q2 => by rw [zm_un (by omega), zgi_o (by omega) (by omega) (by omega) (by omega) (by omega), to _ _ (by omega) (by omega)]
  have GG : ∀ i : Int, 0 ≤ i → i < 3 → zGr ((zm_u (zgi (ztw e (15 + 2 * j) (39 + 5 * x)) (39 + 5 * x) (40 + 5 * x)) (39 + 5 * x) 5 0) (38 + 5 * i) 2) := fun i q1 q2 => by
    rw [A38 i 2 q1 q2]
    exact (I.2.2.2.2.2.2.1.1 i q1 q2).2.2.2.1
  have EO : ∀ r i : Int, 60 < r → r ≤ 159 → E r i = e r i := fun r i q1 q2 => by rw [← hE, zm_un (by omega), zgoc_h GG q1, Ae r i q1]
  have Q0 : zQz 0 e (zmx e (zm_u E 61 49 0)) := zQz_0 I J R (fun r j q1 q2 q3 => by
    by_cases q : r ≤ 60
    · exact zmx_l q
    · rw [zmx_h (by omega), zm_un (by omega), EO r j (by omega) q2])
  have Mo0 := zRe_Mon R
  have two : (zm_u (zm_u (zm_u (zm_u E 61 49 0) 63 j (e 63 j - s)) 64 j (e 64 j + s)) (114 + x) 0 (2 * s)) 92 0 = e 92 0 := by rw [zm_un (by omega), zm_un (by omega), zm_un (by omega), zm_un (by omega), EO _ _ (by decide) (by decide)]
  have tgo : ∀ r i : Int, 60 < r → r ≤ 159 → (r ≠ 61 ∨ i ≠ 49) → r ≠ 63 → r ≠ 64 → (r ≠ 114 + x ∨ i ≠ 0) → (zm_u (zm_u (zm_u (zm_u E 61 49 0) 63 j (e 63 j - s)) 64 j (e 64 j + s)) (114 + x) 0 (2 * s)) r i = e r i := fun r i p1 p2 p3 p4 p5 p6 => by rw [zm_un (by omega), zm_un (by omega), zm_un (by omega), zm_un (by omega), EO r i p1 p2]
  have b92 := R.2.2.2.2.2.1.2.1 0 (by decide) (by omega)
  rw [Int.add_zero] at b92
  have tv : (ztw e (15 + 2 * j) (39 + 5 * x)) 6 ((ztw e (15 + 2 * j) (39 + 5 * x)) 5 4) = e 6 (e 5 4) := by rw [to 5 4 (by omega) (by omega), to 6 _ (by omega) (by omega)]
  have VV : zmv (zmtk (zm_u (zm_u (zm_u (zm_u E 61 49 0) 63 j (e 63 j - s)) 64 j (e 64 j + s)) (114 + x) 0 (2 * s)) x 0 (101 + 3 * x)) (101 + 3 * x) (zmtk (zm_u (zm_u (zm_u (zm_u E 61 49 0) 63 j (e 63 j - s)) 64 j (e 64 j + s)) (114 + x) 0 (2 * s)) x 0 (101 + 3 * x) (110 + x) 0) = V := by
    rw [← hV]
    refine zGiv_v (c := (40 + 5 * x)) (v := e 6 (e 5 4)) (by omega) hx (by rw [two]; exact b92) tv (by rw [to _ _ (by omega) (by omega)]; omega) (by rw [tgo _ _ (by omega) (by omega) (by omega) (by omega) (by omega) (by omega), to _ _ (by omega) (by omega)]; exact cnt.1) (by rw [to _ _ (by omega) (by omega), to _ _ (by omega) (by omega), to _ _ (by omega) (by omega), zms_e (fun i => to _ _ (by omega) (by omega)), zma_e (fun i => to _ _ (by omega) (by omega))]; exact HI.2.2.2.2.2.2.2.1) (fun i q1 q2 => ?_)
    rw [to _ _ (by omega) (by omega)] at q2
    rw [tgo _ _ (by omega) (by omega) (by omega) (by omega) (by omega) (by omega), to _ _ (by omega) (by omega)]
    exact cnt.2.2.1 i q1 (by omega)
  have N1l : ∀ r i : Int, r ≤ 60 → (r ≠ 15 + 2 * j ∨ (i ≠ 2 ∧ i ≠ 5)) → (r ≠ (39 + 5 * x) ∨ (i ≠ 4 ∧ i ≠ 5)) → zmx (zm_u (ztw e (15 + 2 * j) (39 + 5 * x)) (39 + 5 * x) 5 0) (zm_u (zm_u (zm_u (zm_u (zm_u E 61 49 0) 63 j (e 63 j - s)) 64 j (e 64 j + s)) (114 + x) 0 (2 * s)) (118 + x) 0 2) r i = e r i := fun r i p p1 p2 => by rw [zmx_l p, zm_un (by omega), to r i p1 (by omega)]
  have N1h : ∀ r i : Int, 60 < r → r ≤ 159 → (r ≠ 61 ∨ i ≠ 49) → r ≠ 63 → r ≠ 64 → (r ≠ 114 + x ∨ i ≠ 0) → (r ≠ 118 + x ∨ i ≠ 0) → zmx (zm_u (ztw e (15 + 2 * j) (39 + 5 * x)) (39 + 5 * x) 5 0) (zm_u (zm_u (zm_u (zm_u (zm_u E 61 49 0) 63 j (e 63 j - s)) 64 j (e 64 j + s)) (114 + x) 0 (2 * s)) (118 + x) 0 2) r i = e r i := fun r i p p1 p2 p3 p4 p5 p6 => by rw [zmx_h p, zm_un p6, tgo r i p p1 p2 p3 p4 p5]
  have N1q2 : ∀ i : Int, 0 ≤ i → i < 8 → zmx (zm_u (ztw e (15 + 2 * j) (39 + 5 * x)) (39 + 5 * x) 5 0) (zm_u (zm_u (zm_u (zm_u (zm_u E 61 49 0) 63 j (e 63 j - s)) 64 j (e 64 j + s)) (114 + x) 0 (2 * s)) (118 + x) 0 2) (15 + 2 * i) 2 = if i = j then e (15 + 2 * i) 2 - s else e (15 + 2 * i) 2 := fun i p1 p2 => by
    rw [zmx_l (by omega), zm_un (by omega)]
    by_cases z : i = j
    · rw [z, if_pos rfl]; exact tq2
    · rw [if_neg z, to _ _ (by omega) (by omega)]
  have N1q5 : ∀ i : Int, 0 ≤ i → i < 8 → zmx (zm_u (ztw e (15 + 2 * j) (39 + 5 * x)) (39 + 5 * x) 5 0) (zm_u (zm_u (zm_u (zm_u (zm_u E 61 49 0) 63 j (e 63 j - s)) 64 j (e 64 j + s)) (114 + x) 0 (2 * s)) (118 + x) 0 2) (15 + 2 * i) 5 = if i = j then e (15 + 2 * i) 5 + s else e (15 + 2 * i) 5 := fun i p1 p2 => by
    rw [zmx_l (by omega), zm_un (by omega)]
    by_cases z : i = j
    · rw [z, if_pos rfl]; exact tq5
    · rw [if_neg z, to _ _ (by omega) (by omega)]
  have N1c : ∀ i : Int, 0 ≤ i → i < 8 → zmx (zm_u (ztw e (15 + 2 * j) (39 + 5 * x)) (39 + 5 * x) 5 0) (zm_u (zm_u (zm_u (zm_u (zm_u E 61 49 0) 63 j (e 63 j - s)) 64 j (e 64 j + s)) (114 + x) 0 (2 * s)) (118 + x) 0 2) 63 i = (if i = j then e 63 i - s else e 63 i) ∧ zmx (zm_u (ztw e (15 + 2 * j) (39 + 5 * x)) (39 + 5 * x) 5 0) (zm_u (zm_u (zm_u (zm_u (zm_u E 61 49 0) 63 j (e 63 j - s)) 64 j (e 64 j + s)) (114 + x) 0 (2 * s)) (118 + x) 0 2) 64 i = (if i = j then e 64 i + s else e 64 i) := fun i p1 p2 => by
    have a1 : zmx (zm_u (ztw e (15 + 2 * j) (39 + 5 * x)) (39 + 5 * x) 5 0) (zm_u (zm_u (zm_u (zm_u (zm_u E 61 49 0) 63 j (e 63 j - s)) 64 j (e 64 j + s)) (114 + x) 0 (2 * s)) (118 + x) 0 2) 63 i = zm_u (zm_u E 61 49 0) 63 j (e 63 j - s) 63 i := by rw [zmx_h (by omega), zm_un (by omega), zm_un (by omega), zm_un (by omega)]
    have a2 : zmx (zm_u (ztw e (15 + 2 * j) (39 + 5 * x)) (39 + 5 * x) 5 0) (zm_u (zm_u (zm_u (zm_u (zm_u E 61 49 0) 63 j (e 63 j - s)) 64 j (e 64 j + s)) (114 + x) 0 (2 * s)) (118 + x) 0 2) 64 i = zm_u (zm_u (zm_u E 61 49 0) 63 j (e 63 j - s)) 64 j (e 64 j + s) 64 i := by rw [zmx_h (by omega), zm_un (by omega), zm_un (by omega)]
    rw [a1, a2]
    by_cases z : i = j
    · rw [z, if_pos rfl, if_pos rfl, zm_ue rfl rfl, zm_ue rfl rfl]
      exact ⟨rfl, rfl⟩
    · rw [if_neg z, if_neg z, zm_un (by omega), zm_un (by omega), zm_un (by omega), zm_un (by omega), zm_un (by omega), EO 63 i (by decide) (by decide), EO 64 i (by decide) (by decide)]
      exact ⟨rfl, rfl⟩
  have n4 : zmx (zm_u (ztw e (15 + 2 * j) (39 + 5 * x)) (39 + 5 * x) 5 0) (zm_u (zm_u (zm_u (zm_u (zm_u E 61 49 0) 63 j (e 63 j - s)) 64 j (e 64 j + s)) (114 + x) 0 (2 * s)) (118 + x) 0 2) (39 + 5 * x) 4 = s + s := by rw [zmx_l (by omega), zm_un (by omega)]; exact t4
  have n5z : zmx (zm_u (ztw e (15 + 2 * j) (39 + 5 * x)) (39 + 5 * x) 5 0) (zm_u (zm_u (zm_u (zm_u (zm_u E 61 49 0) 63 j (e 63 j - s)) 64 j (e 64 j + s)) (114 + x) 0 (2 * s)) (118 + x) 0 2) (39 + 5 * x) 5 = 0 := by rw [zmx_l (by omega)]; exact zm_ue rfl rfl
  have g4z : zmx (zm_u (ztw e (15 + 2 * j) (39 + 5 * x)) (39 + 5 * x) 5 0) (zm_u (zm_u (zm_u (zm_u (zm_u E 61 49 0) 63 j (e 63 j - s)) 64 j (e 64 j + s)) (114 + x) 0 (2 * s)) (118 + x) 0 2) (114 + x) 0 = s + s := by rw [zmx_h (by omega), zm_un (by omega), zm_ue rfl rfl]; omega
  have g8z : zmx (zm_u (ztw e (15 + 2 * j) (39 + 5 * x)) (39 + 5 * x) 5 0) (zm_u (zm_u (zm_u (zm_u (zm_u E 61 49 0) 63 j (e 63 j - s)) 64 j (e 64 j + s)) (114 + x) 0 (2 * s)) (118 + x) 0 2) (118 + x) 0 = 2 := by rw [zmx_h (by omega)]; exact zm_ue rfl rfl
  have Q1 := zHnd_c (e := e) (N := zmx e (zm_u E 61 49 0)) (M := zmx (zm_u (ztw e (15 + 2 * j) (39 + 5 * x)) (39 + 5 * x) 5 0) (zm_u (zm_u (zm_u (zm_u (zm_u E 61 49 0) 63 j (e 63 j - s)) 64 j (e 64 j + s)) (114 + x) 0 (2 * s)) (118 + x) 0 2)) (x := x) (k := 0) (h := (39 + 5 * x)) (sk := s + s) (p := 0) (st := 2) hx (by decide) (by omega) Q0 (by rw [zmx_l (by decide)]; exact h4) (by rw [zmx_h (by decide), zm_un (by omega), EO _ _ (by decide) (by decide)]; omega) (fun r i q1 q2 => by
    by_cases q : r ≤ 60
    · rw [N1l r i q (by omega) (by omega), zmx_l q]
    · by_cases z : r = 61 ∧ i = 49
      · rw [zmx_h (by omega), zmx_h (by omega), zm_un (by omega), zm_un (by omega), zm_un (by omega), zm_un (by omega)]
      · rw [N1h r i (by omega) q1.2 (by omega) (by omega) (by omega) (by omega) (by omega), zmx_h (by omega), zm_un (by omega), EO r i (by omega) q1.2]) (by
    refine ⟨?_, fun i p1 p2 => ?_, fun i p1 p2 => ?_⟩
    · rw [N1h 61 32 (by decide) (by decide) (by decide) (by decide) (by decide) (by omega) (by omega), N1l 4 0 (by decide) (by omega) (by omega)]
      exact Mo0.1
    · rw [(N1c i p1 p2).1, N1q2 i p1 p2, Mo0.2.1 i p1 p2]
    · rw [N1h 88 i (by decide) (by decide) (by omega) (by decide) (by decide) (by omega) (by omega), N1h 90 i (by decide) (by decide) (by omega) (by decide) (by decide) (by omega) (by omega), N1l (31 + i) 1 (by omega) (by omega) (by omega), N1l (31 + i) 3 (by omega) (by omega) (by omega), N1l (31 + i) 4 (by omega) (by omega) (by omega)]
      exact Mo0.2.2 i p1 p2) (fun i p1 p2 => by
    have a := (R.2.1 i p1 p2).1.2.2.1
    rw [(N1c i p1 p2).2, N1q5 i p1 p2]
    by_cases z : i = j
    · rw [if_pos z, if_pos z]
      exact ⟨by omega, by omega, fun z2 => by omega⟩
    · rw [if_neg z, if_neg z]
      exact ⟨a, by omega, fun _ => rfl⟩) (by
    have t0 := I.2.2.2.2.1 0 (by decide) (by decide)
    simp only [Int.add_zero] at t0
    rw [N1l 31 1 (by decide) (by omega) (by omega)]
    omega) (fun i p1 p2 => by
    rw [N1q2 i p1 p2]
    split <;> omega) n4 n5z (by rw [N1l (39 + 5 * x) 6 (by omega) (by omega) (by omega)]; exact HI.2.2.2.2.2.1) g4z g8z (by omega) (.inl ⟨rfl, rfl, by omega⟩) (by rw [zmx_l (by omega)]; omega)
  have ml := zmlk_t (D := zmtk (zm_u (zm_u (zm_u (zm_u E 61 49 0) 63 j (e 63 j - s)) 64 j (e 64 j + s)) (114 + x) 0 (2 * s)) x 0 (101 + 3 * x)) (k := 0) (G := V) hx
  have S0 := zGiv_s (A := (ztw e (15 + 2 * j) (39 + 5 * x))) (B := (zm_u (zm_u (zm_u (zm_u E 61 49 0) 63 j (e 63 j - s)) 64 j (e 64 j + s)) (114 + x) 0 (2 * s))) (x := x) (k := 0) (h := (39 + 5 * x)) (c := (40 + 5 * x)) (r := (101 + 3 * x)) (v := e 6 (e 5 4)) (G := V) hx (by decide) (by omega) (by omega) (by omega) tv (by rw [two]; exact b92) hV (by rw [to _ _ (by omega) (by omega)]; exact HI.2.2.2.2.2.1)
  have S1 := zGvS_t (N1 := zmx (zm_u (ztw e (15 + 2 * j) (39 + 5 * x)) (39 + 5 * x) 5 0) (zm_u (zm_u (zm_u (zm_u (zm_u E 61 49 0) 63 j (e 63 j - s)) 64 j (e 64 j + s)) (114 + x) 0 (2 * s)) (118 + x) 0 2)) (M1 := zmx (zm_u (zgi (ztw e (15 + 2 * j) (39 + 5 * x)) (39 + 5 * x) (40 + 5 * x)) (39 + 5 * x) 5 0) (zmlk (zm_u (zmtk (zm_u (zm_u (zm_u (zm_u E 61 49 0) 63 j (e 63 j - s)) 64 j (e 64 j + s)) (114 + x) 0 (2 * s)) x 0 (101 + 3 * x)) (118 + x) 0 2) x 0 V)) S0 hx (by omega) (by omega) (by omega) (fun a i q1 q2 q3 q4 => by
    by_cases q : a ≤ 60
    · rw [zmx_l q, zmx_l q, zm_un q3]
    · rw [zmx_h (by omega), zmx_h (by omega), zm_un q4]) (fun a i q1 q2 q3 q4 => by
    by_cases q : a ≤ 60
    · rw [zmx_l q, zmx_l q, zm_un q3]
    · rw [zmx_h (by omega), zmx_h (by omega), ml.1 a i q4]) n5z (by rw [zmx_l (by omega)]; exact zm_ue rfl rfl) g8z (by rw [zmx_h (by omega)]; exact ml.2)
  have hsz : ∀ w : Int, w + 2 * 0 = w := fun w => by omega
  have nh : 39 + 5 * x + 2 * 0 = (39 + 5 * x) := by omega
  have nc : 40 + 5 * x + 2 * 0 = (40 + 5 * x) := by omega
  have nr : 101 + 3 * x + 0 = (101 + 3 * x) := by omega
  have Z2 : zQz 0 e (zmx (zm_u (zgi (ztw e (15 + 2 * j) (39 + 5 * x)) (39 + 5 * x) (40 + 5 * x)) (39 + 5 * x) 5 0) (zmlk (zm_u (zmtk (zm_u (zm_u (zm_u (zm_u E 61 49 0) 63 j (e 63 j - s)) 64 j (e 64 j + s)) (114 + x) 0 (2 * s)) x 0 (101 + 3 * x)) (118 + x) 0 2) x 0 V)) := by
    refine zGiv_c (N := zmx (zm_u (ztw e (15 + 2 * j) (39 + 5 * x)) (39 + 5 * x) 5 0) (zm_u (zm_u (zm_u (zm_u (zm_u E 61 49 0) 63 j (e 63 j - s)) 64 j (e 64 j + s)) (114 + x) 0 (2 * s)) (118 + x) 0 2)) (x := x) (k := 0) (v := e 6 (e 5 4)) (G := V) hx (by decide) Q1 (by rw [N1l 34 4 (by decide) (by omega) (by omega)]; exact h4) (by rw [N1l 5 4 (by decide) (by omega) (by omega), N1l 5 5 (by decide) (by omega) (by omega)]; omega) (by rw [N1h 98 x (by decide) (by decide) (by omega) (by decide) (by decide) (by omega) (by omega)]; omega) (by rw [nh, n5z, g8z]; exact .inr ⟨rfl, rfl⟩) (by rw [nh, n4]; omega) (by rw [nh, N1l (39 + 5 * x) 3 (by omega) (by omega) (by omega), N1l (39 + 5 * x) 2 (by omega) (by omega) (by omega)]; exact y7.2.2.2.2) (by rw [nh, n4, N1l 31 1 (by decide) (by omega) (by omega)]; omega) (by rw [N1l 5 4 (by decide) (by omega) (by omega), N1l 6 _ (by decide) (by omega) (by omega)]) ?_ (by rw [nh, nc, nr]; exact S1)
    rw [nh, N1l (39 + 5 * x) 3 (by omega) (by omega) (by omega), N1l (39 + 5 * x) 2 (by omega) (by omega) (by omega), ← hV]
    unfold zgiv
    rw [tv, to (39 + 5 * x) 3 (by omega) (by omega), to (39 + 5 * x) 2 (by omega) (by omega)]
  have on4 : (zm_u (zgi (ztw e (15 + 2 * j) (39 + 5 * x)) (39 + 5 * x) (40 + 5 * x)) (39 + 5 * x) 5 0) 34 4 = 1 := by rw [zm_un (by omega), zgi_o (by omega) (by omega) (by omega) (by omega) (by omega), to _ _ (by omega) (by omega)]; exact h4
  have JJ := zQz_J I ht Z2 (by rw [zmx_l (by decide)]; exact on4) (fun r j p => zmx_l p)
  have a36 : ∀ i : Int, (zm_u (zgi (ztw e (15 + 2 * j) (39 + 5 * x)) (39 + 5 * x) (40 + 5 * x)) (39 + 5 * x) 5 0) 36 i = e 36 i := fun i => by rw [zm_un (by omega), zgi_o (by omega) (by omega) (by omega) (by omega) (by omega), to _ _ (by omega) (by omega)]
  have bl : ∀ r i : Int, (r ≤ 60 ∨ 121 < r ∨ (r = 61 ∧ i = 49)) → (zmlk (zm_u (zmtk (zm_u (zm_u (zm_u (zm_u E 61 49 0) 63 j (e 63 j - s)) 64 j (e 64 j + s)) (114 + x) 0 (2 * s)) x 0 (101 + 3 * x)) (118 + x) 0 2) x 0 V) r i = zm_u E 61 49 0 r i := fun r i p => by
    have e1 : zmtk (zm_u (zm_u (zm_u (zm_u E 61 49 0) 63 j (e 63 j - s)) 64 j (e 64 j + s)) (114 + x) 0 (2 * s)) x 0 (101 + 3 * x) r i = zm_u E 61 49 0 r i := by
      unfold zmtk
      rw [zm_un (by omega), zm_un (by omega), zmnx_o (by omega) (by omega), zm_un (by omega), zm_un (by omega), zm_un (by omega)]
    rw [ml.1 r i (by omega), ← e1]
    unfold zmlk zmls
    split
    · rw [zm_un (by omega)]
    · split
      · rw [zm_un (by omega), zm_un (by omega), zm_un (by omega)]
      · rfl
  have X := zRnd_call I J R ht hE Ae Z2 on4 (by rw [a36, a36, a36]; exact nn.1) (fun y q p => by
    by_cases z : y = (39 + 5 * x)
    · rw [z, zm_ue rfl rfl] at p
      exact absurd p (by decide)
    · rw [zm_un (by omega), zgi_o (by omega) (by omega) z (by omega) (by omega), to _ _ (by omega) (by omega)] at p ⊢
      exact nn.2.2 y q p) (fun r i p => by rw [bl r i (by omega), zm_un (by omega)]) (by rw [bl 61 49 (by omega)]; exact zm_ue rfl rfl)
  refine (CC (by omega) JJ hD).2 (zK1i (by omega) (by omega) (by omega) (by omega) (fun n2 u2 _ => ?_))
  rw [hE]
  have XX := fun {Q2 : ((Option zv_V) ⊕ Nat) → Nat → zk_S → zm_D → Nat → Prop} hm hs2 => @zX258_0 S D n2 u2 g E Q2 80000000 (by decide) (zRe_Mr I R h4 EO) x hx (by rw [EO _ _ (by decide) (by decide)]; omega) (by rw [zmtn_h (fun r j q1 q2 _ => EO r j q1 q2)]; exact tn) (by rw [EO _ _ (by decide) (by decide)]; omega) (by rw [EO _ _ (by decide) (by decide)]; omega) hm (by rw [EO _ _ (by omega) (by omega), EO _ _ (by decide) (by decide), EO _ _ (by decide) (by decide), EO _ _ (by decide) (by decide)]; omega) hs2 (by rw [EO _ _ (by omega) (by omega)]; omega) (by omega)
  unfold zmtw0 at XX
  rw [EO 96 x (by decide) (by decide), hj, EO (114 + x) 0 (by omega) (by omega), g114, EO 63 j (by decide) (by decide), EO 64 j (by decide) (by decide), VV] at XX
  refine (XX ?_ ?_).2 ?_
  · unfold zMg zB2 at mg ⊢
    rw [EO _ _ (by decide) (by decide), EO _ _ (by decide) (by decide), EO _ _ (by decide) (by decide), EO _ _ (by decide) (by decide), EO _ _ (by decide) (by decide)]
    exact mg
  · have mk := cm.1 hk
    unfold zMj at mk ⊢
    rw [EO _ _ (by decide) (by decide), EO _ _ (by decide) (by decide), EO _ _ (by decide) (by decide), EO _ _ (by decide) (by decide), EO _ _ (by decide) (by decide)]
    exact mk
  exact zK2i (by omega) (by omega) (by omega) (by omega) X.1.1 X.1.2.1 X.1.2.2 ⟨0, _, rfl, rfl, X.2.1, fun _ => X.2.2.1, by decide⟩
