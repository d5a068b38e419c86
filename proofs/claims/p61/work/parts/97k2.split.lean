/-! ===== STEPS: split, the call ===== -/
set_option maxRecDepth 65536
/-- the parted hand keeps the relation -/
theorem zSpl_q {e E Pp Bp : zm_D} {x j s v : Int} (hx : 0 ≤ x ∧ x < 3) (b8 : 0 ≤ j ∧ j < 8) (Q0 : zQz 0 e (zmx e (zm_u E 61 49 0))) (h4 : e 34 4 = 1) (h98 : e 98 x = 1) (h5 : e (39 + 5 * x) 5 = 1) (sb : 1 ≤ s ∧ s ≤ 1000) (hs : e (39 + 5 * x) 4 = s) (hj : e 96 x = j) (v0 : 1 ≤ v ∧ v ≤ 10) (hv : e (40 + 5 * x) 0 = v) (g114 : e (114 + x) 0 = s) (two : 2 ≤ e (39 + 5 * x) 1) (ng : j < e 1 9) (EO : ∀ r i : Int, 60 < r → r ≤ 159 → E r i = e r i) (Po : ∀ r i : Int, ((r ≠ 15 + 2 * j ∨ (i ≠ 2 ∧ i ≠ 5)) ∧ (r ≠ 38 + 5 * x ∨ i ≠ 3) ∧ (r ≠ (39 + 5 * x) ∨ i < 1 ∨ 3 < i) ∧ (r ≠ (41 + 5 * x) ∨ i < 1 ∨ 5 < i) ∧ (r ≠ (42 + 5 * x) ∨ i ≠ 0)) → Pp r i = e r i) (p38 : Pp (38 + 5 * x) 3 = 1) (p1 : Pp (39 + 5 * x) 1 = 1 ∧ Pp (39 + 5 * x) 2 = v ∧ Pp (39 + 5 * x) 3 = zor 0 v) (p2 : Pp (41 + 5 * x) 1 = 1 ∧ Pp (41 + 5 * x) 2 = v ∧ Pp (41 + 5 * x) 3 = zor 0 v ∧ Pp (41 + 5 * x) 4 = s ∧ Pp (41 + 5 * x) 5 = 1) (pb : Pp (42 + 5 * x) 0 = v) (pq2 : Pp (15 + 2 * j) 2 = e (15 + 2 * j) 2 - s) (pq5 : Pp (15 + 2 * j) 5 = e (15 + 2 * j) 5 + s) (Bh : ∀ r i : Int, 60 < r → r ≤ 159 → ((r ≠ 61 ∨ i ≠ 49) ∧ (r ≠ 63 ∨ i ≠ j) ∧ (r ≠ 64 ∨ i ≠ j) ∧ (r ≠ 98 ∨ i ≠ x) ∧ (r ≠ (102 + 3 * x) ∨ i ≠ 0) ∧ (r ≠ 110 + x ∨ i < 0 ∨ 1 < i) ∧ (r ≠ 114 + x ∨ i ≠ 1) ∧ (r ≠ 118 + x ∨ i < 0 ∨ 1 < i)) → Bp r i = e r i) (Bl : ∀ r i : Int, (r ≤ 60 ∨ 121 < r ∨ (r = 61 ∧ i = 49)) → Bp r i = zm_u E 61 49 0 r i) (b63 : Bp 63 j = e 63 j - s) (b64 : Bp 64 j = e 64 j + s) (b98 : Bp 98 x = 2) (b102 : Bp (102 + 3 * x) 0 = v) (b110 : Bp (110 + x) 0 = 1 ∧ Bp (110 + x) 1 = 1) (b114 : Bp (114 + x) 1 = s) (b118 : Bp (118 + x) 0 = 1 ∧ Bp (118 + x) 1 = 1) (Mo0 : zMon e e) (ga : ∀ i : Int, 0 ≤ i → i < 8 → e 64 i = e (15 + 2 * i) 5) : zQz 0 e (zmx Pp Bp) := by
  refine zPart_c (N := zmx e (zm_u E 61 49 0)) (j := j) (s := s) (v := v) hx b8 Q0 (by rw [zmx_l (by decide)]; exact h4) (by rw [zmx_h (by decide), zm_un (by omega), EO _ _ (by decide) (by decide)]; omega) (by rw [zmx_l (by omega)]; exact h5) (by omega) (by rw [zmx_l (by omega)]; exact hs) (by rw [zmx_h (by decide), zm_un (by omega), EO _ _ (by decide) (by decide)]; exact hj) v0 (by rw [zmx_l (by omega)]; exact hv) (by rw [zmx_h (by omega), zm_un (by omega), EO _ _ (by omega) (by omega)]; exact g114) (by rw [zmx_l (by omega)]; exact two) (fun r i q1 q2 => ?_) ?_ (fun i q1 q2 => ?_) (fun i q1 q2 => ?_) (by rw [zmx_l (by omega)]; exact p38) (by rw [zmx_l (by omega), zmx_l (by omega), zmx_l (by omega)]; exact p1) (by rw [zmx_l (by omega), zmx_l (by omega), zmx_l (by omega), zmx_l (by omega), zmx_l (by omega)]; exact p2) (by rw [zmx_l (by omega)]; exact pb) (by rw [zmx_h (by omega)]; exact b98) (by rw [zmx_h (by omega)]; exact b102) (by rw [zmx_h (by omega), zmx_h (by omega)]; exact b110) (by rw [zmx_h (by omega)]; exact b114) (by rw [zmx_h (by omega), zmx_h (by omega)]; exact b118)
  · by_cases q : r ≤ 60
    · rw [zmx_l q, zmx_l q, Po r i (by omega)]
    · by_cases z : r = 61 ∧ i = 49
      · rw [zmx_h (by omega), zmx_h (by omega), Bl r i (by omega)]
      · rw [zmx_h (by omega), zmx_h (by omega), zm_un (by omega), Bh r i (by omega) q1.2 (by omega), EO r i (by omega) q1.2]
  · refine ⟨by rw [zmx_h (by decide), zmx_l (by decide), Bh 61 32 (by decide) (by decide) (by omega), Po 4 0 (by omega)]; exact Mo0.1, fun i q1 q2 => ?_, fun i q1 q2 => by rw [zmx_h (show (60 : Int) < 88 by decide), zmx_h (show (60 : Int) < 90 by decide), zmx_l (show 31 + i ≤ 60 by omega), zmx_l (show 31 + i ≤ 60 by omega), zmx_l (show 31 + i ≤ 60 by omega), Bh 88 i (by decide) (by decide) (by omega), Bh 90 i (by decide) (by decide) (by omega), Po _ _ (by omega), Po _ _ (by omega), Po _ _ (by omega)]; exact Mo0.2.2 i q1 q2⟩
    have m := Mo0.2.1 i q1 q2
    rw [zmx_h (by decide), zmx_l (by omega)]
    by_cases z : i = j
    · rw [z, b63, pq2]
      rw [z] at m
      omega
    · rw [Bh 63 i (by decide) (by decide) (by omega), Po _ _ (by omega)]
      exact m
  · have a := ga i q1 q2
    rw [zmx_h (by decide), zmx_l (by omega)]
    by_cases z : i = j
    · rw [z, b64, pq5]
      rw [z] at a
      exact ⟨by omega, by omega, fun z2 => by omega⟩
    · rw [Bh 64 i (by decide) (by decide) (by omega), Po _ _ (by omega)]
      exact ⟨a, by omega, fun _ => rfl⟩
  · rw [zmx_l (by omega)]
    by_cases z : i = j
    · rw [z, pq2]
      omega
    · rw [Po _ _ (by omega)]
      omega
set_option maxHeartbeats 16000000 in
theorem zP19_0 {S : zSs} {D n u : Nat} {g : Int → zk_K} {e : zm_D} {t : Int} {x : Int} (I : zIn t e) (J : zIp t e) (R : zRe e) (ht : t < 600) (hD : 40 ≤ D) (h_x : -2147483648 ≤ x ∧ x < 2147483648) (hx : 0 ≤ x ∧ x < 3) (h4 : e 34 4 = 1) (ht2 : zst e = x) (h5 : e (39 + 5 * x) 5 = 1) : zE S D 347 [zv_a 1, zv_i x, zv_a 160] n (zSg g) (zDg e) u (zK1 S D t n u 259 [zv_a 61, zv_i x] zPi) := by
  have nn := J.2.2.2.2.2 h4
  have TN := (zRq_tn R.2.2.2.2.2.2.2.1 h4).2 nn.2.1
  rw [ht2] at TN
  have rs1 := R.2.2.2.2.2.1.1
  have ci := I.2.2.2.2.2.2.1.1 x hx.1 hx.2
  have rq := R.2.2.2.2.2.2.2.1 x hx.1 hx.2
  obtain ⟨who, c98, -, -, -, on, k1, k2⟩ := rq
  have on := on h4
  have sh := I.2.2.2.2.2.1.1.1
  have it := I.1
  have ra := R.1
  unfold zRa at ra
  obtain ⟨j, hj⟩ : ∃ j, e 96 x = j := ⟨_, rfl⟩
  have w4 := J.2.2.2.2.1 x hx.1 hx.2
  obtain ⟨s, hs⟩ : ∃ s, e (39 + 5 * x) 4 = s := ⟨_, rfl⟩
  have tn := TN.1 h5
  have c0 : 0 < e 98 x := by
    by_cases z : e 98 x = 0
    · have := (on.2.2.2.2.1 z).2; omega
    · omega
  have HI : zIh (e 34 4) e (39 + 5 * x) (40 + 5 * x) := ci.1
  have y7 := HI.2.2.2.2.2.2.1 h5
  have oo := on.2.2.2.2.2.1 (by omega)
  have cnt := k1 (by omega)
  have sp := cnt.2.2.2
  have y1 := HI.1
  have b8 : 0 ≤ j ∧ j < 8 := by omega
  have hg : e (38 + 5 * x) 2 = 15 + 2 * j := by omega
  have ng : j < e 1 9 := by omega
  have ga := R.2.1 j b8.1 b8.2
  have l67 := ((R.2.2.1 j b8.1 b8.2).1 ng).1
  have gb := I.2.2.1 j b8
  have i10 := I.2.1.2
  have mg : zMg e j := by unfold zMg zB2; omega
  have cm : zCj e j s ↔ zMj e j s := by unfold zCj zMj; omega
  have g114 : e (114 + x) 0 = s := by omega
  have two := nn.2.2 (39 + 5 * x) (by omega) h5
  have cd0 := cnt.2.2.1 0 (by decide) (by omega)
  have cd1 := cnt.2.2.1 1 (by decide) (by omega)
  have v0 := HI.2.2.2.2.2.2.2.2 0 (by decide) (by omega)
  have RF := fun {Q2 : ((Option zv_V) ⊕ Nat) → Nat → zk_S → zm_D → Nat → Prop} {n2 u2 : Nat} => @zX259f0 S D n2 u2 g e Q2 80000000 (by decide) (zRe_Mr I R h4 (fun r j _ _ => rfl)) x hx (by omega) tn (by omega) (by rw [hj]; exact mg)
  rw [hj, g114] at RF
  have RG := fun {Q2 : ((Option zv_V) ⊕ Nat) → Nat → zk_S → zm_D → Nat → Prop} {n2 u2 : Nat} hf => @RF Q2 n2 u2 hf (by omega)
  by_cases hf : e (38 + 5 * x) 3 = 0 ∧ zpr e (39 + 5 * x) (40 + 5 * x) = 1
  rotate_left
  · refine (zC137f0 I hx h4 ht2 h5 hf hD).2 (zK1i (by omega) (by omega) (by omega) (by omega) (fun n2 u2 _ => (RG (.inl (fun z => hf ⟨by omega, by unfold zpr; rw [if_pos ⟨by omega, by omega⟩]⟩))).2 (zK2i (by omega) (by omega) (by omega) (by omega) (zIn_e I ht (fun r j _ _ => by simp (disch := omega) only [zm_un])) (zIp_e J (fun r j _ _ => by simp (disch := omega) only [zm_un])) (zRe_e R (zIn_w I) (fun r j _ _ _ => by simp (disch := omega) only [zm_un])) ⟨3, 0, rfl, rfl, zm_us, fun q => absurd q (by decide), by decide⟩)))
  have pr : e (39 + 5 * x) 1 = 2 ∧ e (40 + 5 * x) 0 = e (40 + 5 * x) 1 := by
    have q := hf.2
    unfold zpr at q
    split at q
    · assumption
    · exact absurd q (by decide)
  by_cases hl : e 5 5 - e 5 4 < 2
  · refine (zC137z0 I hx h4 ht2 h5 hf hl hD).2 (zK1i (by omega) (by omega) (by omega) (by omega) (fun n2 u2 _ => (RG (.inl (fun z => by omega))).2 (zK2i (by omega) (by omega) (by omega) (by omega) (zIn_e I ht (fun r j _ _ => by simp (disch := omega) only [zm_un])) (zIp_e J (fun r j _ _ => by simp (disch := omega) only [zm_un])) (zRe_e R (zIn_w I) (fun r j _ _ _ => by simp (disch := omega) only [zm_un])) ⟨3, 0, rfl, rfl, zm_us, fun q => absurd q (by decide), by decide⟩)))
  by_cases hk : zCj e j s
  rotate_left
  · refine (zC137k0 I b8 hg hx h4 ht2 h5 hf (by omega) (by rw [hs]; exact hk) hD).2 (zK1i (by omega) (by omega) (by omega) (by omega) (fun n2 u2 _ => (RG (.inr (fun z => hk (cm.2 z)))).2 (zK2i (by omega) (by omega) (by omega) (by omega) (zIn_e I ht (fun r j _ _ => by simp (disch := omega) only [zm_un])) (zIp_e J (fun r j _ _ => by simp (disch := omega) only [zm_un])) (zRe_e R (zIn_w I) (fun r j _ _ _ => by simp (disch := omega) only [zm_un])) ⟨3, 0, rfl, rfl, zm_us, fun q => absurd q (by decide), by decide⟩)))
  clear RF RG
  have CC := fun {B2 : Int} (hB2 : B2 ≤ 100000000) => @zC137_0 S D n u g e (zK1 S D t n u 259 [zv_a 61, zv_i x] zPi) t x I B2 hB2 j b8 hg hx h4 ht2 h5 hf (by omega) (by rw [hs]; exact hk)
  rw [hs] at CC
  have x6 := ci.2.2.2.2.2 hf.1
  have k8 := ci.2.1.2.2.2.2.2.2.2.1
  rw [x6.1] at k8
  have k2z : e (41 + 5 * x) 2 = 0 := k8.1
  have k3z : e (41 + 5 * x) 3 = 0 := k8.2
  obtain ⟨v, hv⟩ : ∃ v, e (40 + 5 * x) 0 = v := ⟨_, rfl⟩
  rw [hv] at v0 cd0 pr
  -- the class parts
  have pto : ∀ r i : Int, (r ≠ 15 + 2 * j ∨ (i ≠ 2 ∧ i ≠ 5)) → (zm_u (zm_u e (15 + 2 * j) 2 (e (15 + 2 * j) 2 - s)) (15 + 2 * j) 5 (e (15 + 2 * j) 5 + s)) r i = e r i := fun r i p => by rw [zm_un (by omega), zm_un (by omega)]
  obtain ⟨Pp, hPp⟩ : ∃ Pp, (zpt (zm_u (zm_u e (15 + 2 * j) 2 (e (15 + 2 * j) 2 - s)) (15 + 2 * j) 5 (e (15 + 2 * j) 5 + s)) (38 + 5 * x) (39 + 5 * x) (40 + 5 * x) (41 + 5 * x) (42 + 5 * x)) = Pp := ⟨_, rfl⟩
  have PF : Pp = (zm_u (zm_u (zm_u (zm_u (zm_u (zm_u (zm_u (zm_u (zm_u (zm_u (zm_u (zm_u (zm_u (zm_u (zm_u (zm_u e (15 + 2 * j) 2 (e (15 + 2 * j) 2 - s)) (15 + 2 * j) 5 (e (15 + 2 * j) 5 + s)) (38 + 5 * x) 3 1) (39 + 5 * x) 1 0) (39 + 5 * x) 2 0) (39 + 5 * x) 3 0) (40 + 5 * x) 0 v) (39 + 5 * x) 1 1) (39 + 5 * x) 2 (0 + v)) (39 + 5 * x) 3 (zor 0 v)) (42 + 5 * x) 0 v) (41 + 5 * x) 1 (0 + 1)) (41 + 5 * x) 2 (0 + v)) (41 + 5 * x) 3 (zor 0 v)) (41 + 5 * x) 4 s) (41 + 5 * x) 5 1) := by
    rw [← hPp]
    unfold zpt
    rw [pto (40 + 5 * x) 0 (by omega), pto (41 + 5 * x) 1 (by omega), pto (41 + 5 * x) 2 (by omega), pto (41 + 5 * x) 3 (by omega), pto (39 + 5 * x) 4 (by omega), hv, x6.1, k2z, k3z, hs]
  have Po : ∀ r i : Int, ((r ≠ 15 + 2 * j ∨ (i ≠ 2 ∧ i ≠ 5)) ∧ (r ≠ 38 + 5 * x ∨ i ≠ 3) ∧ (r ≠ (39 + 5 * x) ∨ i < 1 ∨ 3 < i) ∧ (r ≠ (41 + 5 * x) ∨ i < 1 ∨ 5 < i) ∧ (r ≠ (42 + 5 * x) ∨ i ≠ 0)) → Pp r i = e r i := fun r i q => by
    rw [PF, zm_un (by omega), zm_un (by omega), zm_un (by omega), zm_un (by omega), zm_un (by omega), zm_un (by omega), zm_un (by omega), zm_un (by omega), zm_un (by omega)]
    by_cases z : r = (40 + 5 * x) ∧ i = 0
    · rw [zm_ue z.1 z.2, z.1, z.2, hv]
    · rw [zm_un (by omega), zm_un (by omega), zm_un (by omega), zm_un (by omega), zm_un (by omega), pto r i q.1]
  have p38 : Pp (38 + 5 * x) 3 = 1 := by rw [PF]; simp (disch := omega) only [zm_un, zm_ue]
  have p1 : Pp (39 + 5 * x) 1 = 1 ∧ Pp (39 + 5 * x) 2 = v ∧ Pp (39 + 5 * x) 3 = zor 0 v := by
    rw [PF]
    simp (disch := omega) only [zm_un, zm_ue]
    refine ⟨?_, ?_, ?_⟩ <;> first | trivial | omega
  have p2 : Pp (41 + 5 * x) 1 = 1 ∧ Pp (41 + 5 * x) 2 = v ∧ Pp (41 + 5 * x) 3 = zor 0 v ∧ Pp (41 + 5 * x) 4 = s ∧ Pp (41 + 5 * x) 5 = 1 := by
    rw [PF]
    simp (disch := omega) only [zm_un, zm_ue]
    refine ⟨?_, ?_, ?_, ?_, ?_⟩ <;> first | trivial | omega
  have pb : Pp (42 + 5 * x) 0 = v := by rw [PF]; simp (disch := omega) only [zm_un, zm_ue]
  have pq2 : Pp (15 + 2 * j) 2 = e (15 + 2 * j) 2 - s := by rw [PF]; simp (disch := omega) only [zm_un, zm_ue]
  have pq5 : Pp (15 + 2 * j) 5 = e (15 + 2 * j) 5 + s := by rw [PF]; simp (disch := omega) only [zm_un, zm_ue]
  rw [hPp] at CC
  clear PF hPp pto
  obtain ⟨V, hV⟩ : ∃ V, zgiv Pp (39 + 5 * x) = V := ⟨_, rfl⟩
  rw [hV] at CC
  obtain ⟨A0, hA0⟩ : ∃ A0, zgi Pp (39 + 5 * x) (40 + 5 * x) = A0 := ⟨_, rfl⟩
  obtain ⟨A, hA⟩ : ∃ A, zgi A0 (41 + 5 * x) (42 + 5 * x) = A := ⟨_, rfl⟩
  rw [hA0, hA] at CC
  obtain ⟨E, hE⟩ : ∃ E, zm_u (zgoc A) 160 0 (zw V) = E := ⟨_, rfl⟩
  have A0o : ∀ r i : Int, (r ≠ 5 ∨ i ≠ 4) → r ≠ 8 → r ≠ (39 + 5 * x) → r ≠ (40 + 5 * x) → (r ≠ 31 ∨ i ≠ 1) → A0 r i = Pp r i := fun r i q1 q2 q3 q4 q5 => by rw [← hA0]; exact zgi_o q1 q2 q3 q4 q5
  have Ao : ∀ r i : Int, (r ≠ 5 ∨ i ≠ 4) → r ≠ 8 → r ≠ (41 + 5 * x) → r ≠ (42 + 5 * x) → (r ≠ 31 ∨ i ≠ 1) → A r i = A0 r i := fun r i q1 q2 q3 q4 q5 => by rw [← hA]; exact zgi_o q1 q2 q3 q4 q5
  have Ae : ∀ r i : Int, 60 < r → A r i = e r i := fun r i p => by rw [Ao r i (by omega) (by omega) (by omega) (by omega) (by omega), A0o r i (by omega) (by omega) (by omega) (by omega) (by omega), Po r i (by omega)]
  have GG : ∀ i : Int, 0 ≤ i → i < 3 → zGr (A (38 + 5 * i) 2) := fun i q1 q2 => by
    rw [Ao _ _ (by omega) (by omega) (by omega) (by omega) (by omega), A0o _ _ (by omega) (by omega) (by omega) (by omega) (by omega), Po _ _ (by omega)]
    exact (I.2.2.2.2.2.2.1.1 i q1 q2).2.2.2.1
  have EO : ∀ r i : Int, 60 < r → r ≤ 159 → E r i = e r i := fun r i q1 q2 => by rw [← hE, zm_un (by omega), zgoc_h GG q1, Ae r i q1]
  have Q0 : zQz 0 e (zmx e (zm_u E 61 49 0)) := zQz_0 I J R (fun r j q1 q2 q3 => by
    by_cases q : r ≤ 60
    · exact zmx_l q
    · rw [zmx_h (by omega), zm_un (by omega), EO r j (by omega) q2])
  have Mo0 := zRe_Mon R
  -- the reference parts
  have M4 : zmp4 E x = zm_u (zm_u (zm_u (zm_u (zm_u (zm_u (zm_u (zm_u E 61 49 0) 63 j (e 63 j - s)) 64 j (e 64 j + s)) (114 + x) 1 s) 98 x 2) (102 + 3 * x) 0 v) (110 + x) 0 1) (118 + x) 0 1 := by
    unfold zmp4
    rw [EO 96 x (by decide) (by decide), hj, EO 63 j (by decide) (by decide), EO 64 j (by decide) (by decide), EO (114 + x) 0 (by omega) (by omega), g114, EO (101 + 3 * x) 1 (by omega) (by omega), cd1, ← pr.2]
  have Bh : ∀ r i : Int, 60 < r → r ≤ 159 → ((r ≠ 61 ∨ i ≠ 49) ∧ (r ≠ 63 ∨ i ≠ j) ∧ (r ≠ 64 ∨ i ≠ j) ∧ (r ≠ 98 ∨ i ≠ x) ∧ (r ≠ (102 + 3 * x) ∨ i ≠ 0) ∧ (r ≠ 110 + x ∨ i < 0 ∨ 1 < i) ∧ (r ≠ 114 + x ∨ i ≠ 1) ∧ (r ≠ 118 + x ∨ i < 0 ∨ 1 < i)) → (zm_u (zm_u (zmp4 E x) (110 + x) 1 1) (118 + x) 1 1) r i = e r i := fun r i q1 q2 q => by
    rw [M4, zm_un (by omega), zm_un (by omega), zm_un (by omega), zm_un (by omega), zm_un (by omega), zm_un (by omega), zm_un (by omega), zm_un (by omega), zm_un (by omega), zm_un (by omega), EO r i q1 q2]
  have Bl : ∀ r i : Int, (r ≤ 60 ∨ 121 < r ∨ (r = 61 ∧ i = 49)) → (zm_u (zm_u (zmp4 E x) (110 + x) 1 1) (118 + x) 1 1) r i = zm_u E 61 49 0 r i := fun r i q => by
    rw [M4, zm_un (by omega), zm_un (by omega), zm_un (by omega), zm_un (by omega), zm_un (by omega), zm_un (by omega), zm_un (by omega), zm_un (by omega), zm_un (by omega)]
  have b63 : (zm_u (zm_u (zmp4 E x) (110 + x) 1 1) (118 + x) 1 1) 63 j = e 63 j - s ∧ (zm_u (zm_u (zmp4 E x) (110 + x) 1 1) (118 + x) 1 1) 64 j = e 64 j + s ∧ (zm_u (zm_u (zmp4 E x) (110 + x) 1 1) (118 + x) 1 1) 98 x = 2 ∧ (zm_u (zm_u (zmp4 E x) (110 + x) 1 1) (118 + x) 1 1) (102 + 3 * x) 0 = v ∧ ((zm_u (zm_u (zmp4 E x) (110 + x) 1 1) (118 + x) 1 1) (110 + x) 0 = 1 ∧ (zm_u (zm_u (zmp4 E x) (110 + x) 1 1) (118 + x) 1 1) (110 + x) 1 = 1) ∧ (zm_u (zm_u (zmp4 E x) (110 + x) 1 1) (118 + x) 1 1) (114 + x) 1 = s ∧ ((zm_u (zm_u (zmp4 E x) (110 + x) 1 1) (118 + x) 1 1) (118 + x) 0 = 1 ∧ (zm_u (zm_u (zmp4 E x) (110 + x) 1 1) (118 + x) 1 1) (118 + x) 1 = 1) := by
    rw [M4]
    refine ⟨?_, ?_, ?_, ?_, ⟨?_, ?_⟩, ?_, ⟨?_, ?_⟩⟩
    all_goals simp (disch := omega) only [zm_un, zm_ue]
  obtain ⟨Bp, hBp⟩ : ∃ Bp, (zm_u (zm_u (zmp4 E x) (110 + x) 1 1) (118 + x) 1 1) = Bp := ⟨_, rfl⟩
  rw [hBp] at Bh Bl b63
  obtain ⟨b63, b64, b98, b102, b110, b114, b118⟩ := b63
  have Q1 : zQz 0 e (zmx Pp Bp) := zSpl_q hx b8 Q0 h4 (by omega) h5 (by omega) hs hj v0 hv g114 two ng EO Po p38 p1 p2 pb pq2 pq5 Bh Bl b63 b64 b98 b102 b110 b114 b118 Mo0 (fun i q1 q2 => (R.2.1 i q1 q2).1.2.2.1)
  -- both hands get a card
  have zh := @zhv_r (zor 0 v) v
  have Z := zGiv (e := e) (A := Pp) (B := Bp) (x := x) (k := 0) hx (by decide) Q1 (by rw [Po _ _ (by omega)]; exact h4) (by rw [Po 5 4 (by omega), Po 5 5 (by omega)]; omega) (by omega) (by simp only [Int.mul_zero, Int.add_zero]; rw [Po (39 + 5 * x) 5 (by omega), b118.1, h5]; exact .inl ⟨rfl, rfl⟩) (by simp only [Int.mul_zero, Int.add_zero]; rw [Po (39 + 5 * x) 4 (by omega)]; omega) (by simp only [Int.mul_zero, Int.add_zero]; rw [p1.2.1, p1.2.2]; omega) (by simp only [Int.mul_zero, Int.add_zero]; rw [Po (39 + 5 * x) 4 (by omega), Po 31 1 (by omega)]; omega)
  simp only [Int.mul_zero, Int.add_zero] at Z
  obtain ⟨Z1, Z2, Z3⟩ := Z
  rw [hV] at Z1 Z3
  rw [Z1, hA0] at Z2 Z3
  obtain ⟨B1, hB1⟩ : ∃ B1, zmlk (zmtk Bp x 0 (101 + 3 * x)) x 0 V = B1 := ⟨_, rfl⟩
  rw [hB1] at Z2 Z3
  have st31 := zF1_u Z3.2.2.2.1.2.2.2
  rw [zmx_l (by decide), zmx_l (by decide), zmx_l (by omega), Po 31 1 (by omega), Po (39 + 5 * x) 4 (by omega), hs] at st31
  have a54 : A0 5 4 = e 5 4 + 1 := by rw [← hA0, zgi_4 (by omega), Po 5 4 (by omega)]
  have B1o : ∀ r i : Int, (r ≠ 61 ∨ i ≠ 35) → r ≠ 92 → r ≠ (101 + 3 * x) → (r ≠ 110 + x ∨ i ≠ 0) → (r ≠ 118 + x ∨ i ≠ 0) → (r ≠ 88 ∨ i ≠ 0) → (r ≠ 114 + x ∨ i ≠ 0) → B1 r i = Bp r i := fun r i q1 q2 q3 q4 q5 q6 q7 => by
    rw [← hB1]
    have e1 : zmtk Bp x 0 (101 + 3 * x) r i = Bp r i := by
      unfold zmtk
      rw [zm_un q4, zm_un (by omega), zmnx_o q1 q2]
    unfold zmlk zmls
    split
    · rw [zm_un (by omega), e1]
    · split
      · rw [zm_un (by omega), zm_un (by omega), zm_un (by omega), e1]
      · exact e1
  have Y := zGiv (e := e) (A := A0) (B := B1) (x := x) (k := 1) hx (by decide) Z2 (by rw [A0o _ _ (by omega) (by omega) (by omega) (by omega) (by omega), Po _ _ (by omega)]; exact h4) (by rw [a54, A0o 5 5 (by omega) (by omega) (by omega) (by omega) (by omega), Po 5 5 (by omega)]; omega) (by rw [B1o 98 x (by omega) (by omega) (by omega) (by omega) (by omega) (by omega) (by omega)]; omega) (by rw [show 39 + 5 * x + 2 * 1 = (41 + 5 * x) by omega, A0o (41 + 5 * x) 5 (by omega) (by omega) (by omega) (by omega) (by omega), p2.2.2.2.2, B1o (118 + x) 1 (by omega) (by omega) (by omega) (by omega) (by omega) (by omega) (by omega), b118.2]; exact .inl ⟨rfl, rfl⟩) (by rw [show 39 + 5 * x + 2 * 1 = (41 + 5 * x) by omega, A0o (41 + 5 * x) 4 (by omega) (by omega) (by omega) (by omega) (by omega), p2.2.2.2.1]; omega) (by rw [show 39 + 5 * x + 2 * 1 = (41 + 5 * x) by omega, A0o (41 + 5 * x) 3 (by omega) (by omega) (by omega) (by omega) (by omega), A0o (41 + 5 * x) 2 (by omega) (by omega) (by omega) (by omega) (by omega), p2.2.1, p2.2.2.1]; omega) (by rw [show 39 + 5 * x + 2 * 1 = (41 + 5 * x) by omega, A0o (41 + 5 * x) 4 (by omega) (by omega) (by omega) (by omega) (by omega), p2.2.2.2.1, st31]; split <;> omega)
  rw [show 39 + 5 * x + 2 * 1 = (41 + 5 * x) by omega, show 40 + 5 * x + 2 * 1 = (42 + 5 * x) by omega, show 101 + 3 * x + 1 = (102 + 3 * x) by omega, hA] at Y
  obtain ⟨Y1, Y2, Y3⟩ := Y
  obtain ⟨V1, hV1⟩ : ∃ V1, (zmv (zmtk B1 x 1 (102 + 3 * x)) (102 + 3 * x) (zmtk B1 x 1 (102 + 3 * x) (110 + x) 1)) = V1 := ⟨_, rfl⟩
  rw [hV1] at Y2 Y3
  -- the reference's own order
  have hV0 : zmpv0 E x = V := by
    have e1 : zmtk Bp x 0 (101 + 3 * x) = zm_u (zm_u (zmp6 E x) (110 + x) 1 1) (118 + x) 1 1 := by
      rw [← hBp, zmtk_w hx (by omega) (.inr rfl), zmtk_w hx (by omega) (.inl rfl)]
      rfl
    rw [e1] at Z1
    unfold zmpv0
    rw [← Z1, zm_un (a := 110 + x) (k := 0) (by omega), zm_un (a := 110 + x) (k := 0) (by omega)]
    exact (zmv_e (fun i => by rw [zm_un (by omega), zm_un (by omega)])).symm
  have h8 : zmp8 E x = B1 := by
    unfold zmp8 zmp7 zmp6
    rw [hV0, ← hB1, ← hBp, zmtk_w hx (by omega) (.inr rfl), zmtk_w hx (by omega) (.inl rfl), zmlk_w hx (.inr rfl), zmlk_w hx (.inl rfl)]
  have hpA : zmpA E x = zmlk (zmtk B1 x 1 (102 + 3 * x)) x 1 V1 := by
    unfold zmpA zmpv1 zmp9
    rw [h8, hV1]
  have BA : ∀ r i : Int, (r ≠ 61 ∨ i ≠ 35) → r ≠ 92 → r ≠ (102 + 3 * x) → (r ≠ 110 + x ∨ i ≠ 1) → (r ≠ 118 + x ∨ i ≠ 1) → (r ≠ 88 ∨ i ≠ 0) → (r ≠ 114 + x ∨ i ≠ 1) → zmlk (zmtk B1 x 1 (102 + 3 * x)) x 1 V1 r i = B1 r i := fun r i q1 q2 q3 q4 q5 q6 q7 => by
    have e1 : zmtk B1 x 1 (102 + 3 * x) r i = B1 r i := by
      unfold zmtk
      rw [zm_un q4, zm_un (by omega), zmnx_o q1 q2]
    unfold zmlk zmls
    split
    · rw [zm_un (by omega), e1]
    · split
      · rw [zm_un (by omega), zm_un (by omega), zm_un (by omega), e1]
      · exact e1
  have ans : zmv (zmpA E x) (101 + 3 * x) (zmpA E x (110 + x) 0) = V := by
    rw [hpA, BA (110 + x) 0 (by omega) (by omega) (by omega) (by omega) (by omega) (by omega) (by omega), zmv_e (fun i => BA (101 + 3 * x) i (by omega) (by omega) (by omega) (by omega) (by omega) (by omega) (by omega)), ← Z1]
    have e2 : ∀ i : Int, B1 (101 + 3 * x) i = zmtk Bp x 0 (101 + 3 * x) (101 + 3 * x) i := fun i => by
      rw [← hB1]
      unfold zmlk zmls
      split
      · rw [zm_un (by omega)]
      · split
        · rw [zm_un (by omega), zm_un (by omega), zm_un (by omega)]
        · rfl
    have e3 : B1 (110 + x) 0 = zmtk Bp x 0 (101 + 3 * x) (110 + x) 0 := by
      rw [← hB1]
      unfold zmlk zmls
      split
      · rw [zm_un (by omega)]
      · split
        · rw [zm_un (by omega), zm_un (by omega), zm_un (by omega)]
        · rfl
    rw [e3, zmv_e e2]
  have on4 : A 34 4 = 1 := by rw [Ao _ _ (by omega) (by omega) (by omega) (by omega) (by omega), A0o _ _ (by omega) (by omega) (by omega) (by omega) (by omega), Po _ _ (by omega)]; exact h4
  have a36 : ∀ i : Int, A 36 i = e 36 i := fun i => by rw [Ao _ _ (by omega) (by omega) (by omega) (by omega) (by omega), A0o _ _ (by omega) (by omega) (by omega) (by omega) (by omega), Po _ _ (by omega)]
  have JJ := zQz_J I ht Y2 (by rw [zmx_l (by decide)]; exact on4) (fun r j p => zmx_l p)
  have h1s : A0 (39 + 5 * x) 1 = 2 := by
    have q := Z3.2.2.1.1
    rw [zmx_l (by omega), zmx_l (by omega), p1.1] at q
    omega
  have z2 : z2c A := zGv2 Y3 hx (by decide) (by omega) (by omega) (by rw [zmx_l (by omega), A0o (41 + 5 * x) 1 (by omega) (by omega) (by omega) (by omega) (by omega), p2.1]; decide) (fun y q q2 p => by
    rw [zmx_l (by omega)] at p ⊢
    by_cases z : y = (39 + 5 * x)
    · rw [z, h1s]; decide
    · rw [A0o y _ (by omega) (by omega) z (by omega) (by omega), Po y _ (by omega)] at p ⊢
      exact nn.2.2 y q p)
  have X := zRnd_call I J R ht hE Ae Y2 on4 (by rw [a36, a36, a36]; exact nn.1) z2 (fun r i p => by rw [BA r i (by omega) (by omega) (by omega) (by omega) (by omega) (by omega) (by omega), B1o r i (by omega) (by omega) (by omega) (by omega) (by omega) (by omega) (by omega), Bl r i (by omega), zm_un (by omega)]) (by rw [BA 61 49 (by omega) (by omega) (by omega) (by omega) (by omega) (by omega) (by omega), B1o 61 49 (by omega) (by omega) (by omega) (by omega) (by omega) (by omega) (by omega), Bl 61 49 (by omega)]; exact zm_ue rfl rfl)
  refine (CC (by omega) JJ hD).2 (zK1i (by omega) (by omega) (by omega) (by omega) (fun n2 u2 _ => ?_))
  rw [hE]
  have XX := fun {Q2 : ((Option zv_V) ⊕ Nat) → Nat → zk_S → zm_D → Nat → Prop} hm hs2 => @zX259 S D n2 u2 g E Q2 80000000 (by decide) (zRe_Mr I R h4 EO) x hx (by rw [EO _ _ (by decide) (by decide)]; omega) (by rw [zmtn_h (fun r j q1 q2 _ => EO r j q1 q2)]; exact tn) (by rw [EO _ _ (by decide) (by decide)]; omega) hm (by rw [EO _ _ (by decide) (by decide), EO _ _ (by omega) (by omega), EO _ _ (by omega) (by omega), EO _ _ (by omega) (by omega), EO _ _ (by decide) (by decide)]; omega) hs2 (by omega)
  rw [EO 96 x (by decide) (by decide), hj, EO (114 + x) 0 (by omega) (by omega), g114, ans, hpA] at XX
  refine (XX ?_ ?_).2 ?_
  · unfold zMg zB2 at mg ⊢
    rw [EO _ _ (by decide) (by decide), EO _ _ (by decide) (by decide), EO _ _ (by decide) (by decide), EO _ _ (by decide) (by decide), EO _ _ (by decide) (by decide)]
    exact mg
  · have mk := cm.1 hk
    unfold zMj at mk ⊢
    rw [EO _ _ (by decide) (by decide), EO _ _ (by decide) (by decide), EO _ _ (by decide) (by decide), EO _ _ (by decide) (by decide), EO _ _ (by decide) (by decide)]
    exact mk
  exact zK2i (by omega) (by omega) (by omega) (by omega) X.1.1 X.1.2.1 X.1.2.2 ⟨0, _, rfl, rfl, X.2.1, fun _ => X.2.2.1, by decide⟩
theorem zP19 {S : zSs} {D n u : Nat} {g : Int → zk_K} {e : zm_D} {t : Int} {x : Int} (I : zIn t e) (J : zIp t e) (R : zRe e) (ht : t < 600) (hD : 40 ≤ D) (h_x : -2147483648 ≤ x ∧ x < 2147483648) : zE S D 347 [zv_a 1, zv_i x, zv_a 160] n (zSg g) (zDg e) u (zK1 S D t n u 259 [zv_a 61, zv_i x] zPi) := by
  have c4 := I.2.2.2.2.2.2.1.2.2.1.1
  have rs1 := R.2.2.2.2.2.1.1
  by_cases hx : x < 0 ∨ 3 ≤ x
  · refine (zC137a I h_x hx hD).2 (zK1i (by omega) (by omega) (by omega) (by omega) (fun n2 u2 _ => (zX259a h_x hx (by omega)).2 (zK2i (by omega) (by omega) (by omega) (by omega) (zIn_e I ht (fun r j _ _ => by simp (disch := omega) only [zm_un])) (zIp_e J (fun r j _ _ => by simp (disch := omega) only [zm_un])) (zRe_e R (zIn_w I) (fun r j _ _ _ => by simp (disch := omega) only [zm_un])) ⟨1, 0, rfl, rfl, zm_us, fun q => absurd q (by decide), by decide⟩)))
  have hx : 0 ≤ x ∧ x < 3 := by omega
  rcases c4 with h4 | h4
  · refine (zC137b I hx h4 hD).2 (zK1i (by omega) (by omega) (by omega) (by omega) (fun n2 u2 _ => (zX259b hx (by omega) (by omega)).2 (zK2i (by omega) (by omega) (by omega) (by omega) (zIn_e I ht (fun r j _ _ => by simp (disch := omega) only [zm_un])) (zIp_e J (fun r j _ _ => by simp (disch := omega) only [zm_un])) (zRe_e R (zIn_w I) (fun r j _ _ _ => by simp (disch := omega) only [zm_un])) ⟨2, 0, rfl, rfl, zm_us, fun q => absurd q (by decide), by decide⟩)))
  have nn := J.2.2.2.2.2 h4
  have TN := (zRq_tn R.2.2.2.2.2.2.2.1 h4).2 nn.2.1
  by_cases ht2 : zst e = x
  rotate_left
  · refine (zC137c I hx h4 ht2 hD).2 (zK1i (by omega) (by omega) (by omega) (by omega) (fun n2 u2 _ => (zX259c hx (by omega) (zRe_M3 R) (by by_cases p : e (39 + 5 * zst e) 5 = 1; (· have := TN.1 p; have := @zst_r e; omega); (· have := TN.2 p; have := @zst_r e; omega)) (by omega)).2 (zK2i (by omega) (by omega) (by omega) (by omega) (zIn_e I ht (fun r j _ _ => by simp (disch := omega) only [zm_un])) (zIp_e J (fun r j _ _ => by simp (disch := omega) only [zm_un])) (zRe_e R (zIn_w I) (fun r j _ _ _ => by simp (disch := omega) only [zm_un])) ⟨3, 0, rfl, rfl, zm_us, fun q => absurd q (by decide), by decide⟩)))
  rw [ht2] at TN
  have ci := I.2.2.2.2.2.2.1.1 x hx.1 hx.2
  have rq := R.2.2.2.2.2.2.2.1 x hx.1 hx.2
  obtain ⟨who, c98, -, -, -, on, k1, k2⟩ := rq
  have on := on h4
  have sh := I.2.2.2.2.2.1.1.1
  have it := I.1
  have ra := R.1
  unfold zRa at ra
  obtain ⟨j, hj⟩ : ∃ j, e 96 x = j := ⟨_, rfl⟩
  have w4 := J.2.2.2.2.1 x hx.1 hx.2
  obtain ⟨s, hs⟩ : ∃ s, e (39 + 5 * x) 4 = s := ⟨_, rfl⟩
  by_cases h5 : e (39 + 5 * x) 5 = 1
  · exact zP19_0 I J R ht hD h_x hx h4 ht2 h5
  · have n5 : e (39 + 5 * x) 5 = 0 := by have := ci.1.2.2.2.2.1; omega
    have tn := (TN.2 h5).2
    have h5 := (TN.2 h5).1
    have c0 : 1 < e 98 x := by
      by_cases z : e 98 x ≤ 1
      · have := (on.2.2.2.1 z).2; omega
      · omega
    have cnt := k1 (by omega)
    have b8 : 0 ≤ j ∧ j < 8 := by omega
    have ga := R.2.1 j b8.1 b8.2
    have l67 := ((R.2.2.1 j b8.1 b8.2).1 (by omega)).1
    have gb := I.2.2.1 j b8
    have i10 := I.2.1.2
    have mg : zMg e j := by unfold zMg zB2; omega
    have RF := fun {Q2 : ((Option zv_V) ⊕ Nat) → Nat → zk_S → zm_D → Nat → Prop} {n2 u2 : Nat} => @zX259f1 S D n2 u2 g e Q2 80000000 (by decide) (zRe_Mr I R h4 (fun r j _ _ => rfl)) x hx (by omega) tn (by omega) (by rw [hj]; exact mg)
    refine (zC137f1 I hx h4 ht2 n5 h5 (fun z => by omega) hD).2 (zK1i (by omega) (by omega) (by omega) (by omega) (fun n2 u2 _ => (RF (.inl (fun z => by omega)) (by omega)).2 (zK2i (by omega) (by omega) (by omega) (by omega) (zIn_e I ht (fun r j _ _ => by simp (disch := omega) only [zm_un])) (zIp_e J (fun r j _ _ => by simp (disch := omega) only [zm_un])) (zRe_e R (zIn_w I) (fun r j _ _ _ => by simp (disch := omega) only [zm_un])) ⟨3, 0, rfl, rfl, zm_us, fun q => absurd q (by decide), by decide⟩)))
