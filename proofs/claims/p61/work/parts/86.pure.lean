/-! ===== STEPS: the returns of the machine, ruin ===== -/
set_option maxRecDepth 65536
theorem zRe_rw {e : zm_D} (R : zRm e) {r y : Int} (hr : 0 ≤ r ∧ r < 3) : ∀ k : Nat, k ≤ 8 → zmrw e (134 + r) y k = zsw8 e y r k := by
  intro k
  induction k with
  | zero => intro _; rfl
  | succ k ih =>
    intro q
    unfold zmrw zsw8
    rw [ih (by omega), R.1 r hr.1 hr.2 (k : Int) (by omega) (by omega)]
theorem zRe_rt {e : zm_D} (R : zRe e) : zmrt e = zpa e := by
  obtain ⟨-, -, -, -, -, -, -, -, -, rm, -⟩ := R
  have a0 : ∀ y, zmrw e 134 y 8 = zsw8 e y 0 8 := fun y => zRe_rw rm (r := 0) (by decide) 8 (by decide)
  have a1 : ∀ y, zmrw e 135 y 8 = zsw8 e y 1 8 := fun y => zRe_rw rm (r := 1) (by decide) 8 (by decide)
  have a2 : ∀ y, zmrw e 136 y 8 = zsw8 e y 2 8 := fun y => zRe_rw rm (r := 2) (by decide) 8 (by decide)
  have b := rm.2.1
  unfold zmrt zpa zmrs zpa1
  simp only [a0, a1, a2]
  rw [b 0 (by decide) (by decide), b 1 (by decide) (by decide), b 2 (by decide) (by decide), b 3 (by decide) (by decide), b 4 (by decide) (by decide)]
theorem zRe_Mq {t : Int} {e : zm_D} (I : zIn t e) (R : zRe e) : zMq e := by
  obtain ⟨-, -, -, -, -, -, -, -, im, -⟩ := I
  obtain ⟨-, -, -, -, -, -, -, -, -, rm, -⟩ := R
  obtain ⟨s1, s2, s3, s4⟩ := im.1
  obtain ⟨m1, m2, m3, m4⟩ := rm
  refine ⟨fun r q1 q2 k q3 q4 => ?_, fun p q1 q2 => ?_, m4.1, m4.2⟩
  · rw [m1 r q1 q2 k q3 q4]
    exact s1 _ (by omega) (by omega)
  · rw [m2 p q1 (by omega)]
    exact s2 p q1 q2
theorem zP43 {S : zSs} {D n u : Nat} {g : Int → zk_K} {e : zm_D} {t : Int} (I : zIn t e) (J : zIp t e) (R : zRe e) (ht : t < 600) (hD : 40 ≤ D) : zE S D 161 [zv_a 1] n (zSg g) (zDg e) u (zK1 S D t n u 296 [zv_a 61] zPd) := by
  refine (zC161 I hD).2 (zK1i (by omega) (by omega) (by omega) (by omega) (fun n2 u2 _ => (zX296 (zRe_Mq I R) (by omega)).2 (zK2i (by omega) (by omega) (by omega) (by omega) (zIn_e I ht (fun r j _ _ => by simp (disch := omega) only [zm_un])) (zIp_e J (fun r j _ _ => by simp (disch := omega) only [zm_un])) (zRe_e R (zIn_w I) (fun r j _ _ _ => by simp (disch := omega) only [zm_un])) ⟨by rw [zRe_rt R], by simp (disch := omega) only [zm_ue]⟩)))
theorem zP44 {S : zSs} {D n u : Nat} {g : Int → zk_K} {e : zm_D} {t : Int} (I : zIn t e) (J : zIp t e) (R : zRe e) (ht : t < 600) (hD : 40 ≤ D) : zE S D 162 [zv_a 1] n (zSg g) (zDg e) u (zK1 S D t n u 297 [zv_a 61] zPd) := by
  refine (zC162 I hD).2 (zK1i (by omega) (by omega) (by omega) (by omega) (fun n2 u2 _ => (zX297 (zRe_Mq I R) (by omega)).2 (zK2i (by omega) (by omega) (by omega) (by omega) (zIn_e I ht (fun r j _ _ => by simp (disch := omega) only [zm_un])) (zIp_e J (fun r j _ _ => by simp (disch := omega) only [zm_un])) (zRe_e R (zIn_w I) (fun r j _ _ _ => by simp (disch := omega) only [zm_un])) ⟨by rw [zRe_rt R], by simp (disch := omega) only [zm_ue]⟩)))
theorem zP58 {S : zSs} {D n u : Nat} {g : Int → zk_K} {e : zm_D} {t : Int} {x y : Int} (I : zIn t e) (J : zIp t e) (R : zRe e) (ht : t < 600) (hD : 40 ≤ D) (h_x : -2147483648 ≤ x ∧ x < 2147483648) (h_y : -2147483648 ≤ y ∧ y < 2147483648) : zE S D 378 [zv_a 1, zv_i x, zv_i y, zv_a 160] n (zSg g) (zDg e) u (zK1 S D t n u 315 [zv_a 61, zv_i x, zv_i y] zPj) := by
  by_cases h : (1 ≤ y ∧ y ≤ 14) ∧ (0 ≤ x ∧ x ≤ y)
  · refine (zC176 I h.2 h.1 hD).2 (zK1i (by omega) (by omega) (by omega) (by omega) (fun n2 u2 _ => (zX315 h.1 h.2 (by omega)).2 (zK2i (by omega) (by omega) (by omega) (by omega) (zIn_e I ht (fun r j _ _ => by simp (disch := omega) only [zm_un])) (zIp_e J (fun r j _ _ => by simp (disch := omega) only [zm_un])) (zRe_e R (zIn_w I) (fun r j _ _ _ => by simp (disch := omega) only [zm_un])) ⟨0, _, rfl, rfl, by simp (disch := omega) only [zm_ue], fun _ => by simp (disch := omega) only [zm_un, zm_ue], by decide⟩)))
  · refine (zC176x I h_x h_y h hD).2 (zK1i (by omega) (by omega) (by omega) (by omega) (fun n2 u2 _ => (zX315x h_x h_y h (by omega)).2 (zK2i (by omega) (by omega) (by omega) (by omega) (zIn_e I ht (fun r j _ _ => by simp (disch := omega) only [zm_un])) (zIp_e J (fun r j _ _ => by simp (disch := omega) only [zm_un])) (zRe_e R (zIn_w I) (fun r j _ _ _ => by simp (disch := omega) only [zm_un])) ⟨1, 0, rfl, rfl, zm_us, fun q => absurd q (by decide), by decide⟩)))
theorem zP59 {S : zSs} {D n u : Nat} {g : Int → zk_K} {e : zm_D} {t : Int} {x y : Int} (I : zIn t e) (J : zIp t e) (R : zRe e) (ht : t < 600) (hD : 40 ≤ D) (h_x : -2147483648 ≤ x ∧ x < 2147483648) (h_y : -2147483648 ≤ y ∧ y < 2147483648) : zE S D 379 [zv_a 1, zv_i x, zv_i y, zv_a 160] n (zSg g) (zDg e) u (zK1 S D t n u 316 [zv_a 61, zv_i x, zv_i y] zPj) := by
  by_cases h : (1 ≤ y ∧ y ≤ 14) ∧ (0 ≤ x ∧ x ≤ y)
  · refine (zC177 I h.2 h.1 hD).2 (zK1i (by omega) (by omega) (by omega) (by omega) (fun n2 u2 _ => (zX316 h.1 h.2 (by omega)).2 (zK2i (by omega) (by omega) (by omega) (by omega) (zIn_e I ht (fun r j _ _ => by simp (disch := omega) only [zm_un])) (zIp_e J (fun r j _ _ => by simp (disch := omega) only [zm_un])) (zRe_e R (zIn_w I) (fun r j _ _ _ => by simp (disch := omega) only [zm_un])) ⟨0, _, rfl, rfl, by simp (disch := omega) only [zm_ue], fun _ => by simp (disch := omega) only [zm_un, zm_ue], by decide⟩)))
  · refine (zC177x I h_x h_y h hD).2 (zK1i (by omega) (by omega) (by omega) (by omega) (fun n2 u2 _ => (zX316x h_x h_y h (by omega)).2 (zK2i (by omega) (by omega) (by omega) (by omega) (zIn_e I ht (fun r j _ _ => by simp (disch := omega) only [zm_un])) (zIp_e J (fun r j _ _ => by simp (disch := omega) only [zm_un])) (zRe_e R (zIn_w I) (fun r j _ _ _ => by simp (disch := omega) only [zm_un])) ⟨1, 0, rfl, rfl, zm_us, fun q => absurd q (by decide), by decide⟩)))
