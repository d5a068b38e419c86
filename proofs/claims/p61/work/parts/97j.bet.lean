/-! ===== STEPS: a stake at the cards ===== -/
set_option maxRecDepth 65536
theorem zmlc_x {e d : zm_D} {r : Int} (h : ∀ k : Int, d 92 k = e 92 k) : ∀ k : Nat, zmlc d r k = zmlc e r k := by
  intro k
  induction k with
  | zero => rfl
  | succ k ih => unfold zmlc; rw [ih, h]
theorem zmct_x {e d : zm_D} (h92 : ∀ k : Int, d 92 k = e 92 k) (h95 : ∀ k : Int, d 95 k = e 95 k) (h61 : ∀ j : Int, (j = 34 ∨ j = 35 ∨ j = 37) → d 61 j = e 61 j) (h121 : d 121 1 = e 121 1) : ∀ k : Nat, zmct d k = zmct e k := by
  intro k
  induction k with
  | zero => rfl
  | succ k ih =>
    unfold zmct zmlf zmlh
    rw [ih, h95, h61 34 (by omega), h61 35 (by omega), h61 37 (by omega), h121, zmlc_x h92]
theorem zmhi_x {e d : zm_D} (h92 : ∀ k : Int, d 92 k = e 92 k) (h95 : ∀ k : Int, d 95 k = e 95 k) (h61 : ∀ j : Int, (j = 34 ∨ j = 35 ∨ j = 37) → d 61 j = e 61 j) (h121 : d 121 1 = e 121 1) : zmhi d = zmhi e := by
  unfold zmhi zmun
  rw [zmct_x h92 h95 h61 h121, h61 35 (by omega), h61 37 (by omega)]
theorem zRe_hi {t : Int} {e : zm_D} (I : zIn t e) (R : zRe e) : zmhi e = zchi e := by
  unfold zmhi zchi
  rw [zRe_un I R, zRe_ct I R 10 (by decide)]
/-- the memory behind a stake at the cards, and a direct answer's cell -/
def zBt (e : zm_D) (x y c f1 f2 k : Int) : zm_D := (zm_u (zm_u (zm_u (zm_u (zm_u (zm_u (zm_u (zm_u (zm_u (zm_u (zm_u (zm_u (zm_u (zm_u e (15 + 2 * y) f1 (e (15 + 2 * y) f1 + 1)) (15 + 2 * y) f2 (e (15 + 2 * y) f2 + c)) (15 + 2 * y) 2 (e (15 + 2 * y) 2 - c)) (15 + 2 * y) 5 (e (15 + 2 * y) 5 + c)) (38 + 5 * x) 2 (15 + 2 * y)) (39 + 5 * x) 4 c) 160 0 (zw (e (15 + 2 * y) 2 - c))) 61 49 0) 63 y (e 63 y - c)) 64 y (e 64 y + c)) 96 x y) 97 x c) (71 + y) k (e (71 + y) k + c)) (80 + y) k (e (80 + y) k + 1))
theorem zBt_o {e : zm_D} {x y c f1 f2 k r j : Int} (h : (r ≠ 15 + 2 * y ∨ (j ≠ f1 ∧ j ≠ f2 ∧ j ≠ 2 ∧ j ≠ 5)) ∧ (r ≠ 38 + 5 * x ∨ j ≠ 2) ∧ (r ≠ 39 + 5 * x ∨ j ≠ 4) ∧ (r ≠ 160 ∨ j ≠ 0) ∧ (r ≠ 61 ∨ j ≠ 49) ∧ (r ≠ 63 ∨ j ≠ y) ∧ (r ≠ 64 ∨ j ≠ y) ∧ (r ≠ 96 ∨ j ≠ x) ∧ (r ≠ 97 ∨ j ≠ x) ∧ (r ≠ 71 + y ∨ j ≠ k) ∧ (r ≠ 80 + y ∨ j ≠ k)) : zBt e x y c f1 f2 k r j = e r j := by
  obtain ⟨h1, h2, h3, h4, h5, h6, h7, h8, h9, ha, hb⟩ := h
  unfold zBt
  rw [zm_un hb, zm_un ha, zm_un h9, zm_un h8, zm_un h7, zm_un h6, zm_un h5, zm_un h4, zm_un h3, zm_un h2, zm_un (h1.imp id (fun q => q.2.2.2)), zm_un (h1.imp id (fun q => q.2.2.1)), zm_un (h1.imp id (fun q => q.2.1)), zm_un (h1.imp id (fun q => q.1))]
theorem zBt_v1 {e : zm_D} {x y c f1 f2 k : Int} (h : (0 ≤ x ∧ x < 3) ∧ (0 ≤ y ∧ y < 8) ∧ (0 ≤ k ∧ k < 2) ∧ (9 ≤ f1 ∧ f1 < 12) ∧ f2 = f1 + 1) : zBt e x y c f1 f2 k (15 + 2 * y) f1 = e (15 + 2 * y) f1 + 1 := by
  unfold zBt
  simp (disch := omega) only [zm_un, zm_ue]
theorem zBt_v2 {e : zm_D} {x y c f1 f2 k : Int} (h : (0 ≤ x ∧ x < 3) ∧ (0 ≤ y ∧ y < 8) ∧ (0 ≤ k ∧ k < 2) ∧ (9 ≤ f1 ∧ f1 < 12) ∧ f2 = f1 + 1) : zBt e x y c f1 f2 k (15 + 2 * y) f2 = e (15 + 2 * y) f2 + c := by
  unfold zBt
  simp (disch := omega) only [zm_un, zm_ue]
theorem zBt_v3 {e : zm_D} {x y c f1 f2 k : Int} (h : (0 ≤ x ∧ x < 3) ∧ (0 ≤ y ∧ y < 8) ∧ (0 ≤ k ∧ k < 2) ∧ (9 ≤ f1 ∧ f1 < 12) ∧ f2 = f1 + 1) : zBt e x y c f1 f2 k (15 + 2 * y) 2 = e (15 + 2 * y) 2 - c := by
  unfold zBt
  simp (disch := omega) only [zm_un, zm_ue]
theorem zBt_v4 {e : zm_D} {x y c f1 f2 k : Int} (h : (0 ≤ x ∧ x < 3) ∧ (0 ≤ y ∧ y < 8) ∧ (0 ≤ k ∧ k < 2) ∧ (9 ≤ f1 ∧ f1 < 12) ∧ f2 = f1 + 1) : zBt e x y c f1 f2 k (15 + 2 * y) 5 = e (15 + 2 * y) 5 + c := by
  unfold zBt
  simp (disch := omega) only [zm_un, zm_ue]
theorem zBt_v5 {e : zm_D} {x y c f1 f2 k : Int} (h : (0 ≤ x ∧ x < 3) ∧ (0 ≤ y ∧ y < 8) ∧ (0 ≤ k ∧ k < 2) ∧ (9 ≤ f1 ∧ f1 < 12) ∧ f2 = f1 + 1) : zBt e x y c f1 f2 k (38 + 5 * x) 2 = 15 + 2 * y := by
  unfold zBt
  simp (disch := omega) only [zm_un, zm_ue]
theorem zBt_v6 {e : zm_D} {x y c f1 f2 k : Int} (h : (0 ≤ x ∧ x < 3) ∧ (0 ≤ y ∧ y < 8) ∧ (0 ≤ k ∧ k < 2) ∧ (9 ≤ f1 ∧ f1 < 12) ∧ f2 = f1 + 1) : zBt e x y c f1 f2 k (39 + 5 * x) 4 = c := by
  unfold zBt
  simp (disch := omega) only [zm_un, zm_ue]
theorem zBt_v7 {e : zm_D} {x y c f1 f2 k : Int} (h : (0 ≤ x ∧ x < 3) ∧ (0 ≤ y ∧ y < 8) ∧ (0 ≤ k ∧ k < 2) ∧ (9 ≤ f1 ∧ f1 < 12) ∧ f2 = f1 + 1) : zBt e x y c f1 f2 k (160) 0 = zw (e (15 + 2 * y) 2 - c) := by
  unfold zBt
  simp (disch := omega) only [zm_un, zm_ue]
theorem zBt_v8 {e : zm_D} {x y c f1 f2 k : Int} (h : (0 ≤ x ∧ x < 3) ∧ (0 ≤ y ∧ y < 8) ∧ (0 ≤ k ∧ k < 2) ∧ (9 ≤ f1 ∧ f1 < 12) ∧ f2 = f1 + 1) : zBt e x y c f1 f2 k (61) 49 = 0 := by
  unfold zBt
  simp (disch := omega) only [zm_un, zm_ue]
theorem zBt_v9 {e : zm_D} {x y c f1 f2 k : Int} (h : (0 ≤ x ∧ x < 3) ∧ (0 ≤ y ∧ y < 8) ∧ (0 ≤ k ∧ k < 2) ∧ (9 ≤ f1 ∧ f1 < 12) ∧ f2 = f1 + 1) : zBt e x y c f1 f2 k (63) y = e 63 y - c := by
  unfold zBt
  simp (disch := omega) only [zm_un, zm_ue]
theorem zBt_va {e : zm_D} {x y c f1 f2 k : Int} (h : (0 ≤ x ∧ x < 3) ∧ (0 ≤ y ∧ y < 8) ∧ (0 ≤ k ∧ k < 2) ∧ (9 ≤ f1 ∧ f1 < 12) ∧ f2 = f1 + 1) : zBt e x y c f1 f2 k (64) y = e 64 y + c := by
  unfold zBt
  simp (disch := omega) only [zm_un, zm_ue]
theorem zBt_vb {e : zm_D} {x y c f1 f2 k : Int} (h : (0 ≤ x ∧ x < 3) ∧ (0 ≤ y ∧ y < 8) ∧ (0 ≤ k ∧ k < 2) ∧ (9 ≤ f1 ∧ f1 < 12) ∧ f2 = f1 + 1) : zBt e x y c f1 f2 k (96) x = y := by
  unfold zBt
  simp (disch := omega) only [zm_un, zm_ue]
theorem zBt_vc {e : zm_D} {x y c f1 f2 k : Int} (h : (0 ≤ x ∧ x < 3) ∧ (0 ≤ y ∧ y < 8) ∧ (0 ≤ k ∧ k < 2) ∧ (9 ≤ f1 ∧ f1 < 12) ∧ f2 = f1 + 1) : zBt e x y c f1 f2 k (97) x = c := by
  unfold zBt
  simp (disch := omega) only [zm_un, zm_ue]
theorem zBt_vd {e : zm_D} {x y c f1 f2 k : Int} (h : (0 ≤ x ∧ x < 3) ∧ (0 ≤ y ∧ y < 8) ∧ (0 ≤ k ∧ k < 2) ∧ (9 ≤ f1 ∧ f1 < 12) ∧ f2 = f1 + 1) : zBt e x y c f1 f2 k (71 + y) k = e (71 + y) k + c := by
  unfold zBt
  simp (disch := omega) only [zm_un, zm_ue]
theorem zBt_vg {e : zm_D} {x y c f1 f2 k : Int} (h : (0 ≤ x ∧ x < 3) ∧ (0 ≤ y ∧ y < 8) ∧ (0 ≤ k ∧ k < 2) ∧ (9 ≤ f1 ∧ f1 < 12) ∧ f2 = f1 + 1) : zBt e x y c f1 f2 k (80 + y) k = e (80 + y) k + 1 := by
  unfold zBt
  simp (disch := omega) only [zm_un, zm_ue]
set_option maxHeartbeats 8000000 in
theorem zP14 {S : zSs} {D n u : Nat} {g : Int → zk_K} {e : zm_D} {t : Int} {x y c : Int} (I : zIn t e) (J : zIp t e) (R : zRe e) (ht : t < 600) (hD : 40 ≤ D) (h_x : -2147483648 ≤ x ∧ x < 2147483648) (h_y : -2147483648 ≤ y ∧ y < 2147483648) (h_c : -2147483648 ≤ c ∧ c < 2147483648) : zE S D 342 [zv_a 1, zv_i x, zv_i y, zv_i c, zv_a 160] n (zSg g) (zDg e) u (zK1 S D t n u 243 [zv_a 61, zv_i x, zv_i y, zv_i c] zPt) := by
  have i9 := I.2.1.1
  have r31 := R.1.1.1
  by_cases hx : x < 0 ∨ 3 ≤ x
  · exact (zC132n (y := y) (c := c) I h_x hx hD).2 (zK1i (by omega) (by omega) (by omega) (by omega) (fun n2 u2 _ => (zX243n h_x h_y (fun z => by omega) (by omega) (by omega)).2 (zK2i (by omega) (by omega) (by omega) (by omega) (zIn_e I ht (fun r j _ _ => by simp (disch := omega) only [zm_un])) (zIp_e J (fun r j _ _ => by simp (disch := omega) only [zm_un])) (zRe_e R (zIn_w I) (fun r j _ _ _ => by simp (disch := omega) only [zm_un])) ⟨⟨_, rfl⟩, _, rfl⟩)))
  have hx : 0 ≤ x ∧ x < 3 := by omega
  by_cases hy : y < 0 ∨ e 1 9 ≤ y
  · exact (zC132g (c := c) I hx h_y hy hD).2 (zK1i (by omega) (by omega) (by omega) (by omega) (fun n2 u2 _ => (zX243n h_x h_y (fun z => by omega) (by omega) (by omega)).2 (zK2i (by omega) (by omega) (by omega) (by omega) (zIn_e I ht (fun r j _ _ => by simp (disch := omega) only [zm_un])) (zIp_e J (fun r j _ _ => by simp (disch := omega) only [zm_un])) (zRe_e R (zIn_w I) (fun r j _ _ _ => by simp (disch := omega) only [zm_un])) ⟨⟨_, rfl⟩, _, rfl⟩)))
  have hy : 0 ≤ y ∧ y < e 1 9 := by omega
  by_cases hc : c < 2 ∨ 1000 < c
  · exact (zC132x I hx hy h_c hc hD).2 (zK1i (by omega) (by omega) (by omega) (by omega) (fun n2 u2 _ => (zX243x hx (by omega) (by omega) h_c hc (by omega)).2 (zK2i (by omega) (by omega) (by omega) (by omega) (zIn_e I ht (fun r j _ _ => by simp (disch := omega) only [zm_un])) (zIp_e J (fun r j _ _ => by simp (disch := omega) only [zm_un])) (zRe_e R (zIn_w I) (fun r j _ _ _ => by simp (disch := omega) only [zm_un])) ⟨⟨_, rfl⟩, _, rfl⟩)))
  have hc : 2 ≤ c ∧ c ≤ 1000 := by omega
  have ga := R.2.1 y hy.1 (by omega)
  have l67 := ((R.2.2.1 y hy.1 (by omega)).1 hy.2).1
  have gb := I.2.2.1 y (by omega)
  have it := I.1
  have i10 := I.2.1.2
  have ra := R.1
  unfold zRa at ra
  have mg : zMg e y := by unfold zMg zB2; omega
  have cm : zCj e y c ↔ zMj e y c := by unfold zCj zMj; omega
  have rs1 := R.2.2.2.2.2.1.1
  have c4 := I.2.2.2.2.2.2.1.2.2.1.1
  obtain ⟨who, -, -, -, off, -, -, -⟩ := R.2.2.2.2.2.2.2.1 x hx.1 hx.2
  have RS : ∀ (n2 u2 : Nat) (d : zm_D), (∀ r j : Int, 1 ≤ r → r ≤ 159 → (r ≠ 61 ∨ j ≠ 49) → d r j = e r j) → zK2 t n2 u2 (zPt (zv_i 3)) (.inl (some (zv_i 0))) n2 (zSg g) (zDg d) u2 := fun n2 u2 d h => zK2i (by omega) (by omega) (by omega) (by omega) (zIn_e I ht (fun r j q1 q2 => h r j q1 (by omega) (by omega))) (zIp_e J (fun r j q1 q2 => h r j q1 (by omega) (by omega))) (zRe_e R (zIn_w I) (fun r j q1 q2 q3 => h r j q1 q2 q3)) ⟨⟨_, rfl⟩, _, rfl⟩
  have RS4 : ∀ (n2 u2 : Nat) (d : zm_D), (∀ r j : Int, 1 ≤ r → r ≤ 159 → (r ≠ 61 ∨ j ≠ 49) → d r j = e r j) → zK2 t n2 u2 (zPt (zv_i 4)) (.inl (some (zv_i 0))) n2 (zSg g) (zDg d) u2 := fun n2 u2 d h => zK2i (by omega) (by omega) (by omega) (by omega) (zIn_e I ht (fun r j q1 q2 => h r j q1 (by omega) (by omega))) (zIp_e J (fun r j q1 q2 => h r j q1 (by omega) (by omega))) (zRe_e R (zIn_w I) (fun r j q1 q2 q3 => h r j q1 q2 q3)) ⟨⟨_, rfl⟩, _, rfl⟩
  have fr : ∀ k : Int, ∀ r j : Int, 1 ≤ r → r ≤ 159 → (r ≠ 61 ∨ j ≠ 49) → zm_u e 61 49 k r j = e r j := fun k r j _ _ q3 => zm_un (by omega)
  -- the reference refuses, or not
  have REF : ∀ (n2 u2 : Nat) (P : zv_V → zm_D → Prop), (∀ d : zm_D, (∀ r j : Int, 1 ≤ r → r ≤ 159 → (r ≠ 61 ∨ j ≠ 49) → d r j = e r j) → zK2 t n2 u2 P (.inl (some (zv_i 0))) n2 (zSg g) (zDg d) u2) → (0 ≤ e 96 x ∨ ¬ zMj e y c ∨ e 34 4 = 1) → zE S D 243 [zv_a 61, zv_i x, zv_i y, zv_i c] n2 (zSg g) (zDg e) u2 (zK2 t n2 u2 P) := fun n2 u2 P h q => by
    by_cases z : 0 ≤ e 96 x ∨ ¬ zMj e y c
    · exact (zX243f hx (by omega) (by omega) hc mg (by omega) z (by omega)).2 (h _ (fr 3))
    · have z1 : ¬ 0 ≤ e 96 x := fun p => z (.inl p)
      have z2 : zMj e y c := Classical.byContradiction fun p => z (.inr p)
      have h4 : e 34 4 = 1 := by
        rcases q with q | q | q
        · exact absurd q z1
        · exact absurd z2 q
        · exact q
      exact (zX243r hx (by omega) (by omega) hc mg (by omega) (by omega) z2 (by omega) (by omega)).2 (h _ (fr 4))
  have zhb : zhsk e (39 + 5 * x) (41 + 5 * x) = 0 ∨ zhsk e (39 + 5 * x) (41 + 5 * x) = 1 := by unfold zhsk; split <;> simp
  have st : e 34 4 = 0 → (zhsk e (39 + 5 * x) (41 + 5 * x) = 1 ↔ 0 ≤ e 96 x) := fun p => by
    have o := off p
    have hi := (I.2.2.2.2.2.2.1.1 x hx.1 hx.2).1.2.2.2.1
    unfold zhsk
    constructor
    · intro q
      split at q
      · omega
      · exact absurd q (by decide)
    · intro q
      rw [if_pos (by omega)]
  rcases zhb with hs | hs
  rotate_left
  · refine (zC132s I hx hy hc hs hD).2 (zK1i (by omega) (by omega) (by omega) (by omega) (fun n2 u2 _ => REF n2 u2 _ (fun d h => RS n2 u2 d h) ?_))
    rcases c4 with h4 | h4
    · exact .inl ((st h4).1 hs)
    · exact .inr (.inr h4)
  by_cases hk : zCj e y c
  rotate_left
  · exact (zC132k I hx hy hc hs hk hD).2 (zK1i (by omega) (by omega) (by omega) (by omega) (fun n2 u2 _ => REF n2 u2 _ (fun d h => RS n2 u2 d h) (.inr (.inl (fun z => hk (cm.2 z))))))
  rcases c4 with h4 | h4
  rotate_left
  · exact (zC132r I hx hy hc hs hk h4 hD).2 (zK1i (by omega) (by omega) (by omega) (by omega) (fun n2 u2 _ => REF n2 u2 _ (fun d h => RS4 n2 u2 d h) (.inr (.inr h4))))
  have n96 : e 96 x = -1 := by
    have := (st h4)
    by_cases z : 0 ≤ e 96 x
    · have := this.2 z; omega
    · omega
  have mk := cm.1 hk
  unfold zCj at hk
  refine (zC132 I hx hy hc hs (by unfold zCj; exact hk) h4 hD).2 (zK1i (by omega) (by omega) (by omega) (by omega) (fun n2 u2 _ => ?_))
  clear REF RS RS4 fr st hs cm
  have hcb : zchi e = 0 ∨ zchi e = 1 := by unfold zchi; split <;> simp
  rcases hcb with hi | hi
  · skip
    have hE : zm_u (zbtm e x y c) 160 0 (zw (e (15 + 2 * y) 2 - c)) = (zm_u (zm_u (zm_u (zm_u (zm_u (zm_u (zm_u e (15 + 2 * y) 11 (e (15 + 2 * y) 11 + 1)) (15 + 2 * y) 12 (e (15 + 2 * y) 12 + c)) (15 + 2 * y) 2 (e (15 + 2 * y) 2 - c)) (15 + 2 * y) 5 (e (15 + 2 * y) 5 + c)) (38 + 5 * x) 2 (15 + 2 * y)) (39 + 5 * x) 4 c) 160 0 (zw (e (15 + 2 * y) 2 - c))) := by
      unfold zbtm znb
      rw [if_neg (show ¬ zchi e = 1 by omega)]
      try simp (disch := omega) only [zm_un]
    rw [hE]
    have hh : zmhi (zm_u (zm_u (zm_u (zm_u (zm_u (zm_u (zm_u e (15 + 2 * y) 11 (e (15 + 2 * y) 11 + 1)) (15 + 2 * y) 12 (e (15 + 2 * y) 12 + c)) (15 + 2 * y) 2 (e (15 + 2 * y) 2 - c)) (15 + 2 * y) 5 (e (15 + 2 * y) 5 + c)) (38 + 5 * x) 2 (15 + 2 * y)) (39 + 5 * x) 4 c) 160 0 (zw (e (15 + 2 * y) 2 - c))) = 0 := by
      rw [zmhi_x (e := e) (fun k => by simp (disch := omega) only [zm_un]) (fun k => by simp (disch := omega) only [zm_un]) (fun j _ => by simp (disch := omega) only [zm_un]) (by simp (disch := omega) only [zm_un]), zRe_hi I R]
      omega
    have MO : zMo (zm_u (zm_u (zm_u (zm_u (zm_u (zm_u (zm_u e (15 + 2 * y) 11 (e (15 + 2 * y) 11 + 1)) (15 + 2 * y) 12 (e (15 + 2 * y) 12 + c)) (15 + 2 * y) 2 (e (15 + 2 * y) 2 - c)) (15 + 2 * y) 5 (e (15 + 2 * y) 5 + c)) (38 + 5 * x) 2 (15 + 2 * y)) (39 + 5 * x) 4 c) 160 0 (zw (e (15 + 2 * y) 2 - c))) := by
      obtain ⟨k1, k2, k3, k4⟩ := zRe_Mo I R
      refine ⟨by simp (disch := omega) only [zm_un]; exact k1, fun i p1 p2 => ?_, by simp (disch := omega) only [zm_un]; exact k3, fun p => ?_⟩
      · simp (disch := omega) only [zm_un] at p2 ⊢
        exact k2 i p1 p2
      · simp (disch := omega) only [zm_un] at p ⊢
        exact k4 p
    have mg2 : zMg (zm_u (zm_u (zm_u (zm_u (zm_u (zm_u (zm_u e (15 + 2 * y) 11 (e (15 + 2 * y) 11 + 1)) (15 + 2 * y) 12 (e (15 + 2 * y) 12 + c)) (15 + 2 * y) 2 (e (15 + 2 * y) 2 - c)) (15 + 2 * y) 5 (e (15 + 2 * y) 5 + c)) (38 + 5 * x) 2 (15 + 2 * y)) (39 + 5 * x) 4 c) 160 0 (zw (e (15 + 2 * y) 2 - c))) y := by
      unfold zMg zB2 at mg ⊢
      simp (disch := omega) only [zm_un]
      exact mg
    have mk2 : zMj (zm_u (zm_u (zm_u (zm_u (zm_u (zm_u (zm_u e (15 + 2 * y) 11 (e (15 + 2 * y) 11 + 1)) (15 + 2 * y) 12 (e (15 + 2 * y) 12 + c)) (15 + 2 * y) 2 (e (15 + 2 * y) 2 - c)) (15 + 2 * y) 5 (e (15 + 2 * y) 5 + c)) (38 + 5 * x) 2 (15 + 2 * y)) (39 + 5 * x) 4 c) 160 0 (zw (e (15 + 2 * y) 2 - c))) y c := by
      unfold zMj at mk ⊢
      simp (disch := omega) only [zm_un]
      exact mk
    have XX := fun {Q2 : ((Option zv_V) ⊕ Nat) → Nat → zk_S → zm_D → Nat → Prop} => @zX243 S D n2 u2 g (zm_u (zm_u (zm_u (zm_u (zm_u (zm_u (zm_u e (15 + 2 * y) 11 (e (15 + 2 * y) 11 + 1)) (15 + 2 * y) 12 (e (15 + 2 * y) 12 + c)) (15 + 2 * y) 2 (e (15 + 2 * y) 2 - c)) (15 + 2 * y) 5 (e (15 + 2 * y) 5 + c)) (38 + 5 * x) 2 (15 + 2 * y)) (39 + 5 * x) 4 c) 160 0 (zw (e (15 + 2 * y) 2 - c))) Q2 x y c hx (by first | omega | (unfold zB2; omega) | (simp (disch := omega) only [zm_un, zm_ue]; omega) | (unfold zB2; simp (disch := omega) only [zm_un, zm_ue]; omega)) (by first | omega | (unfold zB2; omega) | (simp (disch := omega) only [zm_un, zm_ue]; omega) | (unfold zB2; simp (disch := omega) only [zm_un, zm_ue]; omega)) hc mg2 (by first | omega | (unfold zB2; omega) | (simp (disch := omega) only [zm_un, zm_ue]; omega) | (unfold zB2; simp (disch := omega) only [zm_un, zm_ue]; omega)) (by first | omega | (unfold zB2; omega) | (simp (disch := omega) only [zm_un, zm_ue]; omega) | (unfold zB2; simp (disch := omega) only [zm_un, zm_ue]; omega)) mk2 (by first | omega | (unfold zB2; omega) | (simp (disch := omega) only [zm_un, zm_ue]; omega) | (unfold zB2; simp (disch := omega) only [zm_un, zm_ue]; omega)) MO (by omega)
    rw [hh] at XX
    simp (disch := omega) only [zm_un] at XX
    refine XX.2 ?_
    clear XX hE hh MO mg2 mk2 mg mk
    rw [show (zm_u (zm_u (zm_u (zm_u (zm_u (zm_u (zm_u (zm_u (zm_u (zm_u (zm_u (zm_u (zm_u (zm_u e (15 + 2 * y) 11 (e (15 + 2 * y) 11 + 1)) (15 + 2 * y) 12 (e (15 + 2 * y) 12 + c)) (15 + 2 * y) 2 (e (15 + 2 * y) 2 - c)) (15 + 2 * y) 5 (e (15 + 2 * y) 5 + c)) (38 + 5 * x) 2 (15 + 2 * y)) (39 + 5 * x) 4 c) 160 0 (zw (e (15 + 2 * y) 2 - c))) 61 49 0) 63 y (e 63 y - c)) 64 y (e 64 y + c)) 96 x y) 97 x c) (71 + y) 0 (e (71 + y) 0 + c)) (80 + y) 0 (e (80 + y) 0 + 1)) = zBt e x y c 11 12 0 from rfl]
    have hw := zIn_w I
    have pj := J
    obtain ⟨it, ia, ig, iv, itr, is, ic, iw, im, il⟩ := I
    obtain ⟨ra, rg, rh, rt, ru, rs, rd, rq, rv, rm, rl⟩ := R
    have off := (rq x hx.1 hx.2).2.2.2.2.1 h4
    refine zK2i (by omega) (by omega) (by omega) (by omega) ⟨by omega, zIa_e ia (fun j => by simp (disch := omega) only [zBt_o]), ?_, zIv_e iv (by simp (disch := omega) only [zBt_o]), zIt_e itr (fun i _ _ => by simp (disch := omega) only [zBt_o]), zIs_e is (fun r j _ => by simp (disch := omega) only [zBt_o]), ?_, zWh_e iw (fun r j _ _ => by simp (disch := omega) only [zBt_o]), zIm_e im (fun r j _ => by simp (disch := omega) only [zBt_o]), zIl_e il (fun j _ => by simp (disch := omega) only [zBt_o]) (fun j => by simp (disch := omega) only [zBt_o])⟩ ⟨?_, ?_⟩ ⟨zRa_e ra (fun j _ => by simp (disch := omega) only [zBt_o]) (fun j _ => by simp (disch := omega) only [zBt_o]) (by simp (disch := omega) only [zBt_o]) (by simp (disch := omega) only [zBt_o]) (fun j _ => by simp (disch := omega) only [zBt_o]) (by simp (disch := omega) only [zBt_o]), ?_, zRh_e rh (fun i j _ _ _ => by simp (disch := omega) only [zBt_o]) (fun j => by simp (disch := omega) only [zBt_o]) (fun j => by simp (disch := omega) only [zBt_o]) (by simp (disch := omega) only [zBt_o]), zRt_e rt (fun r j _ => by simp (disch := omega) only [zBt_o]), zRu_e ru (fun j _ _ => by simp (disch := omega) only [zBt_o]) (fun j => by simp (disch := omega) only [zBt_o]), zRs_e rs (fun j _ => by simp (disch := omega) only [zBt_o]) (by simp (disch := omega) only [zBt_o]) (by simp (disch := omega) only [zBt_o]) (fun r j _ => by simp (disch := omega) only [zBt_o]), zRd_e rd (by simp (disch := omega) only [zBt_o]) (fun r j _ => by simp (disch := omega) only [zBt_o]), ?_, zRv_e rv (by simp (disch := omega) only [zBt_o]) (fun r j _ => by simp (disch := omega) only [zBt_o]) hw.1, zRm_e rm (fun j _ _ => by simp (disch := omega) only [zBt_o]) (fun r j _ => by simp (disch := omega) only [zBt_o]) (fun j _ _ => by simp (disch := omega) only [zBt_o]), zRl_e rl (fun j _ => by simp (disch := omega) only [zBt_o]) (fun j _ => by simp (disch := omega) only [zBt_o]) (fun r j _ => by simp (disch := omega) only [zBt_o]) hw.2⟩ ⟨⟨_, rfl⟩, _, rfl⟩
    · intro i hi2
      have a2 := ig i hi2
      by_cases z : i = y
      · subst z
        simp (disch := omega) only [zBt_o, zBt_v1, zBt_v2, zBt_v3, zBt_v4, zBt_v5, zBt_v6, zBt_v7, zBt_v8, zBt_v9, zBt_va, zBt_vb, zBt_vc, zBt_vd, zBt_vg, true_and, and_true]
        omega
      · simp (disch := omega) only [zBt_o, zBt_v1, zBt_v2, zBt_v3, zBt_v4, zBt_v5, zBt_v6, zBt_v7, zBt_v8, zBt_v9, zBt_va, zBt_vb, zBt_vc, zBt_vd, zBt_vg, true_and, and_true]
        omega
    · obtain ⟨s, b, c1, f⟩ := ic
      refine ⟨fun i q1 q2 => ?_, ?_, by simp (disch := omega) only [zBt_o]; exact c1, fun p => by simp (disch := omega) only [zBt_o] at p; omega⟩
      · obtain ⟨x1, x2, x3, x4, x5, x6⟩ := s i q1 q2
        have h2 : zIh ((zBt e x y c 11 12 0) 34 4) (zBt e x y c 11 12 0) (41 + 5 * i) (42 + 5 * i) := zIh_e x2 (fun j _ _ => by simp (disch := omega) only [zBt_o]) (fun j => by simp (disch := omega) only [zBt_o]) (by simp (disch := omega) only [zBt_o])
        by_cases z : i = x
        · subst z
          have h1 : zIh ((zBt e i y c 11 12 0) 34 4) (zBt e i y c 11 12 0) (39 + 5 * i) (40 + 5 * i) := by
            obtain ⟨y1, y2, y3, y4, y5, y6, y7, ⟨y8, y9⟩, y10⟩ := x1
            unfold zIh
            simp (disch := omega) only [zBt_o, zBt_v1, zBt_v2, zBt_v3, zBt_v4, zBt_v5, zBt_v6, zBt_v7, zBt_v8, zBt_v9, zBt_va, zBt_vb, zBt_vc, zBt_vd, zBt_vg]
            rw [zms_e (e := e) (fun j => by simp (disch := omega) only [zBt_o]), zma_e (e := e) (fun j => by simp (disch := omega) only [zBt_o])]
            exact ⟨y1, y2, y3, by omega, y5, y6, fun p => by have := (y7 p).1; omega, ⟨y8, y9⟩, y10⟩
          refine ⟨h1, h2, by simp (disch := omega) only [zBt_o]; exact x3, by simp (disch := omega) only [zBt_o, zBt_v1, zBt_v2, zBt_v3, zBt_v4, zBt_v5, zBt_v6, zBt_v7, zBt_v8, zBt_v9, zBt_va, zBt_vb, zBt_vc, zBt_vd, zBt_vg]; exact .inr ⟨y, by omega, rfl⟩, fun p => by simp (disch := omega) only [zBt_o, zBt_v1, zBt_v2, zBt_v3, zBt_v4, zBt_v5, zBt_v6, zBt_v7, zBt_v8, zBt_v9, zBt_va, zBt_vb, zBt_vc, zBt_vd, zBt_vg] at p; omega, fun p => ?_⟩
          simp (disch := omega) only [zBt_o] at p ⊢
          exact x6 p
        · have h1 : zIh ((zBt e x y c 11 12 0) 34 4) (zBt e x y c 11 12 0) (39 + 5 * i) (40 + 5 * i) := zIh_e x1 (fun j _ _ => by simp (disch := omega) only [zBt_o]) (fun j => by simp (disch := omega) only [zBt_o]) (by simp (disch := omega) only [zBt_o])
          refine ⟨h1, h2, by simp (disch := omega) only [zBt_o]; exact x3, by simp (disch := omega) only [zBt_o]; exact x4, fun p => ?_, fun p => ?_⟩
          · simp (disch := omega) only [zBt_o] at p ⊢
            exact x5 p
          · simp (disch := omega) only [zBt_o] at p ⊢
            exact x6 p
      · obtain ⟨b1, b2, b3, ⟨b4, b5⟩, b6⟩ := b
        refine ⟨by simp (disch := omega) only [zBt_o]; exact b1, by simp (disch := omega) only [zBt_o]; exact b2, by simp (disch := omega) only [zBt_o]; exact b3, ⟨?_, ?_⟩, fun k p1 p2 => ?_⟩
        · rw [zms_e (e := e) (fun j => by simp (disch := omega) only [zBt_o])]
          simp (disch := omega) only [zBt_o]
          exact b4
        · rw [zma_e (e := e) (fun j => by simp (disch := omega) only [zBt_o])]
          simp (disch := omega) only [zBt_o]
          exact b5
        · simp (disch := omega) only [zBt_o] at p2 ⊢
          exact b6 k p1 p2
    · have pj1 := pj.1.1
      refine ⟨by simp (disch := omega) only [zBt_o, zBt_v1, zBt_v2, zBt_v3, zBt_v4, zBt_v5, zBt_v6, zBt_v7, zBt_v8, zBt_v9, zBt_va, zBt_vb, zBt_vc, zBt_vd, zBt_vg, true_and, and_true]; omega, fun i h1 h2 => ?_⟩
      have a2 := pj.1.2 i h1 h2
      by_cases z : i = y
      · subst z
        simp (disch := omega) only [zBt_o, zBt_v1, zBt_v2, zBt_v3, zBt_v4, zBt_v5, zBt_v6, zBt_v7, zBt_v8, zBt_v9, zBt_va, zBt_vb, zBt_vc, zBt_vd, zBt_vg, true_and, and_true]
        omega
      · simp (disch := omega) only [zBt_o, zBt_v1, zBt_v2, zBt_v3, zBt_v4, zBt_v5, zBt_v6, zBt_v7, zBt_v8, zBt_v9, zBt_va, zBt_vb, zBt_vc, zBt_vd, zBt_vg, true_and, and_true]
        omega
    · obtain ⟨w1, w2, w3, w4, w5⟩ := pj.2
      refine ⟨?_, fun i h0 h1 h2 => ?_, fun k h1 h2 => ?_, fun s h1 h2 => ?_, fun p => by simp (disch := omega) only [zBt_o] at p; omega⟩
      · rw [zpp_e (e := e) (fun i h1 h2 => by unfold zsp4; simp (disch := omega) only [zBt_o, zBt_v1, zBt_v2, zBt_v3, zBt_v4, zBt_v5, zBt_v6, zBt_v7, zBt_v8, zBt_v9, zBt_va, zBt_vb, zBt_vc, zBt_vd, zBt_vg, true_and, and_true])]
        simp (disch := omega) only [zBt_o, zBt_v1, zBt_v2, zBt_v3, zBt_v4, zBt_v5, zBt_v6, zBt_v7, zBt_v8, zBt_v9, zBt_va, zBt_vb, zBt_vc, zBt_vd, zBt_vg, true_and, and_true]
        omega
      · simp (disch := omega) only [zBt_o] at h0
        have f := w2 i h0 h1 h2
        simp (disch := omega) only [zBt_o, zBt_v1, zBt_v2, zBt_v3, zBt_v4, zBt_v5, zBt_v6, zBt_v7, zBt_v8, zBt_v9, zBt_va, zBt_vb, zBt_vc, zBt_vd, zBt_vg, true_and, and_true]
        exact f
      · simp (disch := omega) only [zBt_o] at h2
        have f := w3 k h1 h2
        simp (disch := omega) only [zBt_o, zBt_v1, zBt_v2, zBt_v3, zBt_v4, zBt_v5, zBt_v6, zBt_v7, zBt_v8, zBt_v9, zBt_va, zBt_vb, zBt_vc, zBt_vd, zBt_vg, true_and, and_true]
        exact f
      · by_cases z : s = x
        · subst z
          simp (disch := omega) only [zBt_o, zBt_v1, zBt_v2, zBt_v3, zBt_v4, zBt_v5, zBt_v6, zBt_v7, zBt_v8, zBt_v9, zBt_va, zBt_vb, zBt_vc, zBt_vd, zBt_vg, true_and, and_true]
          omega
        · have f := w4 s h1 h2
          simp (disch := omega) only [zBt_o, zBt_v1, zBt_v2, zBt_v3, zBt_v4, zBt_v5, zBt_v6, zBt_v7, zBt_v8, zBt_v9, zBt_va, zBt_vb, zBt_vc, zBt_vd, zBt_vg, true_and, and_true]
          exact f
    · intro i h1 h2
      have a2 := rg i h1 h2
      by_cases z : i = y
      · subst z
        simp (disch := omega) only [zBt_o, zBt_v1, zBt_v2, zBt_v3, zBt_v4, zBt_v5, zBt_v6, zBt_v7, zBt_v8, zBt_v9, zBt_va, zBt_vb, zBt_vc, zBt_vd, zBt_vg, true_and, and_true]
        obtain ⟨a3, a4, a5, a6⟩ := a2
        exact ⟨by omega, by omega, a5, a6⟩
      · simp (disch := omega) only [zBt_o, zBt_v1, zBt_v2, zBt_v3, zBt_v4, zBt_v5, zBt_v6, zBt_v7, zBt_v8, zBt_v9, zBt_va, zBt_vb, zBt_vc, zBt_vd, zBt_vg, true_and, and_true]
        exact a2
    · intro s h1 h2
      by_cases z : s = x
      · subst z
        obtain ⟨z1, z2, z3, z4, z5, z6, z7, z8⟩ := rq s h1 h2
        unfold zRq
        simp (disch := omega) only [zBt_o, zBt_v1, zBt_v2, zBt_v3, zBt_v4, zBt_v5, zBt_v6, zBt_v7, zBt_v8, zBt_v9, zBt_va, zBt_vb, zBt_vc, zBt_vd, zBt_vg]
        exact ⟨.inr ⟨by omega, trivial⟩, z2, z3, z4, fun _ => ⟨trivial, off.2.1, off.2.2.1, off.2.2.2.1, off.2.2.2.2.1, off.2.2.2.2.2.1, ⟨fun p => by omega, fun p => by omega⟩, by omega⟩, fun p => by omega, z7, z8⟩
      · exact zRq_e (rq s h1 h2) (by simp (disch := omega) only [zBt_o]) (by simp (disch := omega) only [zBt_o]) (by simp (disch := omega) only [zBt_o]) (by simp (disch := omega) only [zBt_o]) (fun r j _ => by simp (disch := omega) only [zBt_o]) (fun r j _ => by simp (disch := omega) only [zBt_o])
  · skip
    have hE : zm_u (zbtm e x y c) 160 0 (zw (e (15 + 2 * y) 2 - c)) = (zm_u (zm_u (zm_u (zm_u (zm_u (zm_u (zm_u e (15 + 2 * y) 9 (e (15 + 2 * y) 9 + 1)) (15 + 2 * y) 10 (e (15 + 2 * y) 10 + c)) (15 + 2 * y) 2 (e (15 + 2 * y) 2 - c)) (15 + 2 * y) 5 (e (15 + 2 * y) 5 + c)) (38 + 5 * x) 2 (15 + 2 * y)) (39 + 5 * x) 4 c) 160 0 (zw (e (15 + 2 * y) 2 - c))) := by
      unfold zbtm znb
      rw [if_pos hi]
      try simp (disch := omega) only [zm_un]
    rw [hE]
    have hh : zmhi (zm_u (zm_u (zm_u (zm_u (zm_u (zm_u (zm_u e (15 + 2 * y) 9 (e (15 + 2 * y) 9 + 1)) (15 + 2 * y) 10 (e (15 + 2 * y) 10 + c)) (15 + 2 * y) 2 (e (15 + 2 * y) 2 - c)) (15 + 2 * y) 5 (e (15 + 2 * y) 5 + c)) (38 + 5 * x) 2 (15 + 2 * y)) (39 + 5 * x) 4 c) 160 0 (zw (e (15 + 2 * y) 2 - c))) = 1 := by
      rw [zmhi_x (e := e) (fun k => by simp (disch := omega) only [zm_un]) (fun k => by simp (disch := omega) only [zm_un]) (fun j _ => by simp (disch := omega) only [zm_un]) (by simp (disch := omega) only [zm_un]), zRe_hi I R]
      omega
    have MO : zMo (zm_u (zm_u (zm_u (zm_u (zm_u (zm_u (zm_u e (15 + 2 * y) 9 (e (15 + 2 * y) 9 + 1)) (15 + 2 * y) 10 (e (15 + 2 * y) 10 + c)) (15 + 2 * y) 2 (e (15 + 2 * y) 2 - c)) (15 + 2 * y) 5 (e (15 + 2 * y) 5 + c)) (38 + 5 * x) 2 (15 + 2 * y)) (39 + 5 * x) 4 c) 160 0 (zw (e (15 + 2 * y) 2 - c))) := by
      obtain ⟨k1, k2, k3, k4⟩ := zRe_Mo I R
      refine ⟨by simp (disch := omega) only [zm_un]; exact k1, fun i p1 p2 => ?_, by simp (disch := omega) only [zm_un]; exact k3, fun p => ?_⟩
      · simp (disch := omega) only [zm_un] at p2 ⊢
        exact k2 i p1 p2
      · simp (disch := omega) only [zm_un] at p ⊢
        exact k4 p
    have mg2 : zMg (zm_u (zm_u (zm_u (zm_u (zm_u (zm_u (zm_u e (15 + 2 * y) 9 (e (15 + 2 * y) 9 + 1)) (15 + 2 * y) 10 (e (15 + 2 * y) 10 + c)) (15 + 2 * y) 2 (e (15 + 2 * y) 2 - c)) (15 + 2 * y) 5 (e (15 + 2 * y) 5 + c)) (38 + 5 * x) 2 (15 + 2 * y)) (39 + 5 * x) 4 c) 160 0 (zw (e (15 + 2 * y) 2 - c))) y := by
      unfold zMg zB2 at mg ⊢
      simp (disch := omega) only [zm_un]
      exact mg
    have mk2 : zMj (zm_u (zm_u (zm_u (zm_u (zm_u (zm_u (zm_u e (15 + 2 * y) 9 (e (15 + 2 * y) 9 + 1)) (15 + 2 * y) 10 (e (15 + 2 * y) 10 + c)) (15 + 2 * y) 2 (e (15 + 2 * y) 2 - c)) (15 + 2 * y) 5 (e (15 + 2 * y) 5 + c)) (38 + 5 * x) 2 (15 + 2 * y)) (39 + 5 * x) 4 c) 160 0 (zw (e (15 + 2 * y) 2 - c))) y c := by
      unfold zMj at mk ⊢
      simp (disch := omega) only [zm_un]
      exact mk
    have XX := fun {Q2 : ((Option zv_V) ⊕ Nat) → Nat → zk_S → zm_D → Nat → Prop} => @zX243 S D n2 u2 g (zm_u (zm_u (zm_u (zm_u (zm_u (zm_u (zm_u e (15 + 2 * y) 9 (e (15 + 2 * y) 9 + 1)) (15 + 2 * y) 10 (e (15 + 2 * y) 10 + c)) (15 + 2 * y) 2 (e (15 + 2 * y) 2 - c)) (15 + 2 * y) 5 (e (15 + 2 * y) 5 + c)) (38 + 5 * x) 2 (15 + 2 * y)) (39 + 5 * x) 4 c) 160 0 (zw (e (15 + 2 * y) 2 - c))) Q2 x y c hx (by first | omega | (unfold zB2; omega) | (simp (disch := omega) only [zm_un, zm_ue]; omega) | (unfold zB2; simp (disch := omega) only [zm_un, zm_ue]; omega)) (by first | omega | (unfold zB2; omega) | (simp (disch := omega) only [zm_un, zm_ue]; omega) | (unfold zB2; simp (disch := omega) only [zm_un, zm_ue]; omega)) hc mg2 (by first | omega | (unfold zB2; omega) | (simp (disch := omega) only [zm_un, zm_ue]; omega) | (unfold zB2; simp (disch := omega) only [zm_un, zm_ue]; omega)) (by first | omega | (unfold zB2; omega) | (simp (disch := omega) only [zm_un, zm_ue]; omega) | (unfold zB2; simp (disch := omega) only [zm_un, zm_ue]; omega)) mk2 (by first | omega | (unfold zB2; omega) | (simp (disch := omega) only [zm_un, zm_ue]; omega) | (unfold zB2; simp (disch := omega) only [zm_un, zm_ue]; omega)) MO (by omega)
    rw [hh] at XX
    simp (disch := omega) only [zm_un] at XX
    refine XX.2 ?_
    clear XX hE hh MO mg2 mk2 mg mk
    rw [show (zm_u (zm_u (zm_u (zm_u (zm_u (zm_u (zm_u (zm_u (zm_u (zm_u (zm_u (zm_u (zm_u (zm_u e (15 + 2 * y) 9 (e (15 + 2 * y) 9 + 1)) (15 + 2 * y) 10 (e (15 + 2 * y) 10 + c)) (15 + 2 * y) 2 (e (15 + 2 * y) 2 - c)) (15 + 2 * y) 5 (e (15 + 2 * y) 5 + c)) (38 + 5 * x) 2 (15 + 2 * y)) (39 + 5 * x) 4 c) 160 0 (zw (e (15 + 2 * y) 2 - c))) 61 49 0) 63 y (e 63 y - c)) 64 y (e 64 y + c)) 96 x y) 97 x c) (71 + y) 1 (e (71 + y) 1 + c)) (80 + y) 1 (e (80 + y) 1 + 1)) = zBt e x y c 9 10 1 from rfl]
    have hw := zIn_w I
    have pj := J
    obtain ⟨it, ia, ig, iv, itr, is, ic, iw, im, il⟩ := I
    obtain ⟨ra, rg, rh, rt, ru, rs, rd, rq, rv, rm, rl⟩ := R
    have off := (rq x hx.1 hx.2).2.2.2.2.1 h4
    refine zK2i (by omega) (by omega) (by omega) (by omega) ⟨by omega, zIa_e ia (fun j => by simp (disch := omega) only [zBt_o]), ?_, zIv_e iv (by simp (disch := omega) only [zBt_o]), zIt_e itr (fun i _ _ => by simp (disch := omega) only [zBt_o]), zIs_e is (fun r j _ => by simp (disch := omega) only [zBt_o]), ?_, zWh_e iw (fun r j _ _ => by simp (disch := omega) only [zBt_o]), zIm_e im (fun r j _ => by simp (disch := omega) only [zBt_o]), zIl_e il (fun j _ => by simp (disch := omega) only [zBt_o]) (fun j => by simp (disch := omega) only [zBt_o])⟩ ⟨?_, ?_⟩ ⟨zRa_e ra (fun j _ => by simp (disch := omega) only [zBt_o]) (fun j _ => by simp (disch := omega) only [zBt_o]) (by simp (disch := omega) only [zBt_o]) (by simp (disch := omega) only [zBt_o]) (fun j _ => by simp (disch := omega) only [zBt_o]) (by simp (disch := omega) only [zBt_o]), ?_, zRh_e rh (fun i j _ _ _ => by simp (disch := omega) only [zBt_o]) (fun j => by simp (disch := omega) only [zBt_o]) (fun j => by simp (disch := omega) only [zBt_o]) (by simp (disch := omega) only [zBt_o]), zRt_e rt (fun r j _ => by simp (disch := omega) only [zBt_o]), zRu_e ru (fun j _ _ => by simp (disch := omega) only [zBt_o]) (fun j => by simp (disch := omega) only [zBt_o]), zRs_e rs (fun j _ => by simp (disch := omega) only [zBt_o]) (by simp (disch := omega) only [zBt_o]) (by simp (disch := omega) only [zBt_o]) (fun r j _ => by simp (disch := omega) only [zBt_o]), zRd_e rd (by simp (disch := omega) only [zBt_o]) (fun r j _ => by simp (disch := omega) only [zBt_o]), ?_, zRv_e rv (by simp (disch := omega) only [zBt_o]) (fun r j _ => by simp (disch := omega) only [zBt_o]) hw.1, zRm_e rm (fun j _ _ => by simp (disch := omega) only [zBt_o]) (fun r j _ => by simp (disch := omega) only [zBt_o]) (fun j _ _ => by simp (disch := omega) only [zBt_o]), zRl_e rl (fun j _ => by simp (disch := omega) only [zBt_o]) (fun j _ => by simp (disch := omega) only [zBt_o]) (fun r j _ => by simp (disch := omega) only [zBt_o]) hw.2⟩ ⟨⟨_, rfl⟩, _, rfl⟩
    · intro i hi2
      have a2 := ig i hi2
      by_cases z : i = y
      · subst z
        simp (disch := omega) only [zBt_o, zBt_v1, zBt_v2, zBt_v3, zBt_v4, zBt_v5, zBt_v6, zBt_v7, zBt_v8, zBt_v9, zBt_va, zBt_vb, zBt_vc, zBt_vd, zBt_vg, true_and, and_true]
        omega
      · simp (disch := omega) only [zBt_o, zBt_v1, zBt_v2, zBt_v3, zBt_v4, zBt_v5, zBt_v6, zBt_v7, zBt_v8, zBt_v9, zBt_va, zBt_vb, zBt_vc, zBt_vd, zBt_vg, true_and, and_true]
        omega
    · obtain ⟨s, b, c1, f⟩ := ic
      refine ⟨fun i q1 q2 => ?_, ?_, by simp (disch := omega) only [zBt_o]; exact c1, fun p => by simp (disch := omega) only [zBt_o] at p; omega⟩
      · obtain ⟨x1, x2, x3, x4, x5, x6⟩ := s i q1 q2
        have h2 : zIh ((zBt e x y c 9 10 1) 34 4) (zBt e x y c 9 10 1) (41 + 5 * i) (42 + 5 * i) := zIh_e x2 (fun j _ _ => by simp (disch := omega) only [zBt_o]) (fun j => by simp (disch := omega) only [zBt_o]) (by simp (disch := omega) only [zBt_o])
        by_cases z : i = x
        · subst z
          have h1 : zIh ((zBt e i y c 9 10 1) 34 4) (zBt e i y c 9 10 1) (39 + 5 * i) (40 + 5 * i) := by
            obtain ⟨y1, y2, y3, y4, y5, y6, y7, ⟨y8, y9⟩, y10⟩ := x1
            unfold zIh
            simp (disch := omega) only [zBt_o, zBt_v1, zBt_v2, zBt_v3, zBt_v4, zBt_v5, zBt_v6, zBt_v7, zBt_v8, zBt_v9, zBt_va, zBt_vb, zBt_vc, zBt_vd, zBt_vg]
            rw [zms_e (e := e) (fun j => by simp (disch := omega) only [zBt_o]), zma_e (e := e) (fun j => by simp (disch := omega) only [zBt_o])]
            exact ⟨y1, y2, y3, by omega, y5, y6, fun p => by have := (y7 p).1; omega, ⟨y8, y9⟩, y10⟩
          refine ⟨h1, h2, by simp (disch := omega) only [zBt_o]; exact x3, by simp (disch := omega) only [zBt_o, zBt_v1, zBt_v2, zBt_v3, zBt_v4, zBt_v5, zBt_v6, zBt_v7, zBt_v8, zBt_v9, zBt_va, zBt_vb, zBt_vc, zBt_vd, zBt_vg]; exact .inr ⟨y, by omega, rfl⟩, fun p => by simp (disch := omega) only [zBt_o, zBt_v1, zBt_v2, zBt_v3, zBt_v4, zBt_v5, zBt_v6, zBt_v7, zBt_v8, zBt_v9, zBt_va, zBt_vb, zBt_vc, zBt_vd, zBt_vg] at p; omega, fun p => ?_⟩
          simp (disch := omega) only [zBt_o] at p ⊢
          exact x6 p
        · have h1 : zIh ((zBt e x y c 9 10 1) 34 4) (zBt e x y c 9 10 1) (39 + 5 * i) (40 + 5 * i) := zIh_e x1 (fun j _ _ => by simp (disch := omega) only [zBt_o]) (fun j => by simp (disch := omega) only [zBt_o]) (by simp (disch := omega) only [zBt_o])
          refine ⟨h1, h2, by simp (disch := omega) only [zBt_o]; exact x3, by simp (disch := omega) only [zBt_o]; exact x4, fun p => ?_, fun p => ?_⟩
          · simp (disch := omega) only [zBt_o] at p ⊢
            exact x5 p
          · simp (disch := omega) only [zBt_o] at p ⊢
            exact x6 p
      · obtain ⟨b1, b2, b3, ⟨b4, b5⟩, b6⟩ := b
        refine ⟨by simp (disch := omega) only [zBt_o]; exact b1, by simp (disch := omega) only [zBt_o]; exact b2, by simp (disch := omega) only [zBt_o]; exact b3, ⟨?_, ?_⟩, fun k p1 p2 => ?_⟩
        · rw [zms_e (e := e) (fun j => by simp (disch := omega) only [zBt_o])]
          simp (disch := omega) only [zBt_o]
          exact b4
        · rw [zma_e (e := e) (fun j => by simp (disch := omega) only [zBt_o])]
          simp (disch := omega) only [zBt_o]
          exact b5
        · simp (disch := omega) only [zBt_o] at p2 ⊢
          exact b6 k p1 p2
    · have pj1 := pj.1.1
      refine ⟨by simp (disch := omega) only [zBt_o, zBt_v1, zBt_v2, zBt_v3, zBt_v4, zBt_v5, zBt_v6, zBt_v7, zBt_v8, zBt_v9, zBt_va, zBt_vb, zBt_vc, zBt_vd, zBt_vg, true_and, and_true]; omega, fun i h1 h2 => ?_⟩
      have a2 := pj.1.2 i h1 h2
      by_cases z : i = y
      · subst z
        simp (disch := omega) only [zBt_o, zBt_v1, zBt_v2, zBt_v3, zBt_v4, zBt_v5, zBt_v6, zBt_v7, zBt_v8, zBt_v9, zBt_va, zBt_vb, zBt_vc, zBt_vd, zBt_vg, true_and, and_true]
        omega
      · simp (disch := omega) only [zBt_o, zBt_v1, zBt_v2, zBt_v3, zBt_v4, zBt_v5, zBt_v6, zBt_v7, zBt_v8, zBt_v9, zBt_va, zBt_vb, zBt_vc, zBt_vd, zBt_vg, true_and, and_true]
        omega
    · obtain ⟨w1, w2, w3, w4, w5⟩ := pj.2
      refine ⟨?_, fun i h0 h1 h2 => ?_, fun k h1 h2 => ?_, fun s h1 h2 => ?_, fun p => by simp (disch := omega) only [zBt_o] at p; omega⟩
      · rw [zpp_e (e := e) (fun i h1 h2 => by unfold zsp4; simp (disch := omega) only [zBt_o, zBt_v1, zBt_v2, zBt_v3, zBt_v4, zBt_v5, zBt_v6, zBt_v7, zBt_v8, zBt_v9, zBt_va, zBt_vb, zBt_vc, zBt_vd, zBt_vg, true_and, and_true])]
        simp (disch := omega) only [zBt_o, zBt_v1, zBt_v2, zBt_v3, zBt_v4, zBt_v5, zBt_v6, zBt_v7, zBt_v8, zBt_v9, zBt_va, zBt_vb, zBt_vc, zBt_vd, zBt_vg, true_and, and_true]
        omega
      · simp (disch := omega) only [zBt_o] at h0
        have f := w2 i h0 h1 h2
        simp (disch := omega) only [zBt_o, zBt_v1, zBt_v2, zBt_v3, zBt_v4, zBt_v5, zBt_v6, zBt_v7, zBt_v8, zBt_v9, zBt_va, zBt_vb, zBt_vc, zBt_vd, zBt_vg, true_and, and_true]
        exact f
      · simp (disch := omega) only [zBt_o] at h2
        have f := w3 k h1 h2
        simp (disch := omega) only [zBt_o, zBt_v1, zBt_v2, zBt_v3, zBt_v4, zBt_v5, zBt_v6, zBt_v7, zBt_v8, zBt_v9, zBt_va, zBt_vb, zBt_vc, zBt_vd, zBt_vg, true_and, and_true]
        exact f
      · by_cases z : s = x
        · subst z
          simp (disch := omega) only [zBt_o, zBt_v1, zBt_v2, zBt_v3, zBt_v4, zBt_v5, zBt_v6, zBt_v7, zBt_v8, zBt_v9, zBt_va, zBt_vb, zBt_vc, zBt_vd, zBt_vg, true_and, and_true]
          omega
        · have f := w4 s h1 h2
          simp (disch := omega) only [zBt_o, zBt_v1, zBt_v2, zBt_v3, zBt_v4, zBt_v5, zBt_v6, zBt_v7, zBt_v8, zBt_v9, zBt_va, zBt_vb, zBt_vc, zBt_vd, zBt_vg, true_and, and_true]
          exact f
    · intro i h1 h2
      have a2 := rg i h1 h2
      by_cases z : i = y
      · subst z
        simp (disch := omega) only [zBt_o, zBt_v1, zBt_v2, zBt_v3, zBt_v4, zBt_v5, zBt_v6, zBt_v7, zBt_v8, zBt_v9, zBt_va, zBt_vb, zBt_vc, zBt_vd, zBt_vg, true_and, and_true]
        obtain ⟨a3, a4, a5, a6⟩ := a2
        exact ⟨by omega, by omega, a5, a6⟩
      · simp (disch := omega) only [zBt_o, zBt_v1, zBt_v2, zBt_v3, zBt_v4, zBt_v5, zBt_v6, zBt_v7, zBt_v8, zBt_v9, zBt_va, zBt_vb, zBt_vc, zBt_vd, zBt_vg, true_and, and_true]
        exact a2
    · intro s h1 h2
      by_cases z : s = x
      · subst z
        obtain ⟨z1, z2, z3, z4, z5, z6, z7, z8⟩ := rq s h1 h2
        unfold zRq
        simp (disch := omega) only [zBt_o, zBt_v1, zBt_v2, zBt_v3, zBt_v4, zBt_v5, zBt_v6, zBt_v7, zBt_v8, zBt_v9, zBt_va, zBt_vb, zBt_vc, zBt_vd, zBt_vg]
        exact ⟨.inr ⟨by omega, trivial⟩, z2, z3, z4, fun _ => ⟨trivial, off.2.1, off.2.2.1, off.2.2.2.1, off.2.2.2.2.1, off.2.2.2.2.2.1, ⟨fun p => by omega, fun p => by omega⟩, by omega⟩, fun p => by omega, z7, z8⟩
      · exact zRq_e (rq s h1 h2) (by simp (disch := omega) only [zBt_o]) (by simp (disch := omega) only [zBt_o]) (by simp (disch := omega) only [zBt_o]) (by simp (disch := omega) only [zBt_o]) (fun r j _ => by simp (disch := omega) only [zBt_o]) (fun r j _ => by simp (disch := omega) only [zBt_o])
