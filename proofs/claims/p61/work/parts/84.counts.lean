/-! ===== STEPS: what is left of the shoe, the counts ===== -/
set_option maxRecDepth 65536
theorem zRe_Mo {t : Int} {e : zm_D} (I : zIn t e) (R : zRe e) : zMo e := by
  obtain ⟨-, -, -, -, -, is, ic, -, -, -⟩ := I
  obtain ⟨-, -, -, -, -, rs, rd, -, -, -, -⟩ := R
  obtain ⟨⟨a1, a2⟩, b, -, -, -⟩ := is
  obtain ⟨⟨s1, s2, s3⟩, s4, -, s5, s6⟩ := rs
  have c1 := ic.2.2.1.1
  have c2 := ic.2.2.2
  refine ⟨by omega, fun k h1 h2 => ?_, by omega, fun h => ?_⟩
  · rw [s4 k h1 (by omega)]
    exact a2 _ (by omega) (by omega)
  · have h4 : e 34 4 = 1 := by omega
    have d := rd.2 1 (by omega) (by have := c2 h4; omega)
    have f := s6 h4
    omega
theorem zml_c {e : zm_D} {r N : Int} (h : ∀ k : Int, 0 ≤ k → k < N → e 92 k = e 6 (e 5 4 + k)) : ∀ k : Nat, (k : Int) ≤ N → zmlc e r k = zch e r k := by
  intro k
  induction k with
  | zero => intro _; rfl
  | succ k ih =>
    intro q
    unfold zmlc zch
    rw [ih (by omega), h k (by omega) (by omega)]
/-- what is left of a rank -/
theorem zRe_lf {t : Int} {e : zm_D} (I : zIn t e) (R : zRe e) {r : Int} (hr : 1 ≤ r ∧ r ≤ 10) : zmlf e r = zuo e r := by
  obtain ⟨-, -, -, -, -, is, ic, -, -, -⟩ := I
  obtain ⟨-, -, -, -, -, rs, rd, -, -, -, -⟩ := R
  obtain ⟨⟨a1, a2⟩, b, -, f, -⟩ := is
  obtain ⟨⟨s1, s2, s3⟩, s4, -, s5, s6⟩ := rs
  have c1 := ic.2.2.1.1
  have c2 := ic.2.2.2
  have f1 := (f r hr.1 hr.2).1
  have c := zml_c (r := r) s4 (e 5 5 - e 5 4).toNat (by omega)
  have g : zmlh e r = zhd1 e r := by
    unfold zmlh zhd1
    rcases c1 with c1 | c1
    · have := s5 c1
      rw [if_neg (by omega), if_neg (by omega)]
    · have d := rd.2 1 (by omega) (by have := c2 c1; omega)
      have f := s6 c1
      rw [d, f]
      by_cases q : e 5 7 = r
      · rw [if_pos ⟨by omega, q⟩, if_pos q]
      · rw [if_neg (fun p => q p.2), if_neg q]
  unfold zmlf zuo
  rw [s2, c, g]
  unfold zwf at f1
  omega
theorem zch_s {e : zm_D} {N : Int} (h : ∀ i : Int, e 5 4 ≤ i → i < e 5 4 + N → 1 ≤ e 6 i ∧ e 6 i ≤ 10) : ∀ k : Nat, (k : Int) ≤ N → zch e 1 k + zch e 2 k + zch e 3 k + zch e 4 k + zch e 5 k + zch e 6 k + zch e 7 k + zch e 8 k + zch e 9 k + zch e 10 k = k := by
  intro k
  induction k with
  | zero => intro _; rfl
  | succ k ih =>
    intro q
    have a := ih (by omega)
    have b := h (e 5 4 + k) (by omega) (by omega)
    have g1 : zch e 1 (k + 1) = zch e 1 k + (if e 6 (e 5 4 + (k : Int)) = 1 then 1 else 0) := rfl
    have g2 : zch e 2 (k + 1) = zch e 2 k + (if e 6 (e 5 4 + (k : Int)) = 2 then 1 else 0) := rfl
    have g3 : zch e 3 (k + 1) = zch e 3 k + (if e 6 (e 5 4 + (k : Int)) = 3 then 1 else 0) := rfl
    have g4 : zch e 4 (k + 1) = zch e 4 k + (if e 6 (e 5 4 + (k : Int)) = 4 then 1 else 0) := rfl
    have g5 : zch e 5 (k + 1) = zch e 5 k + (if e 6 (e 5 4 + (k : Int)) = 5 then 1 else 0) := rfl
    have g6 : zch e 6 (k + 1) = zch e 6 k + (if e 6 (e 5 4 + (k : Int)) = 6 then 1 else 0) := rfl
    have g7 : zch e 7 (k + 1) = zch e 7 k + (if e 6 (e 5 4 + (k : Int)) = 7 then 1 else 0) := rfl
    have g8 : zch e 8 (k + 1) = zch e 8 k + (if e 6 (e 5 4 + (k : Int)) = 8 then 1 else 0) := rfl
    have g9 : zch e 9 (k + 1) = zch e 9 k + (if e 6 (e 5 4 + (k : Int)) = 9 then 1 else 0) := rfl
    have g10 : zch e 10 (k + 1) = zch e 10 k + (if e 6 (e 5 4 + (k : Int)) = 10 then 1 else 0) := rfl
    generalize e 6 (e 5 4 + (k : Int)) = c at *
    rcases (by omega : c = 1 ∨ c = 2 ∨ c = 3 ∨ c = 4 ∨ c = 5 ∨ c = 6 ∨ c = 7 ∨ c = 8 ∨ c = 9 ∨ c = 10) with q | q | q | q | q | q | q | q | q | q
    all_goals subst q
    all_goals simp only [Int.reduceEq, if_true, if_false, ite_true, ite_false] at g1 g2 g3 g4 g5 g6 g7 g8 g9 g10
    all_goals omega
/-- all that is not seen -/
theorem zRe_un {t : Int} {e : zm_D} (I : zIn t e) (R : zRe e) : zmun e = zuS e 10 := by
  have is := I.2.2.2.2.2.1
  have ic := I.2.2.2.2.2.2.1
  have rs := R.2.2.2.2.2.1
  obtain ⟨⟨a1, a2⟩, b, -, f, -⟩ := is
  obtain ⟨⟨s1, s2, s3⟩, s4, -, s5, s6⟩ := rs
  have c1 := ic.2.2.1.1
  have c2 := ic.2.2.2
  have s := zch_s (N := e 5 5 - e 5 4) (fun i q1 q2 => a2 i q1 (by omega)) (e 5 5 - e 5 4).toNat (by omega)
  have u : zuS e 10 = zuo e 1 + (zuo e 2 + (zuo e 3 + (zuo e 4 + (zuo e 5 + (zuo e 6 + (zuo e 7 + (zuo e 8 + (zuo e 9 + (zuo e 10 + 0))))))))) := rfl
  have f1 := (f 1 (by decide) (by decide)).1
  have f2 := (f 2 (by decide) (by decide)).1
  have f3 := (f 3 (by decide) (by decide)).1
  have f4 := (f 4 (by decide) (by decide)).1
  have f5 := (f 5 (by decide) (by decide)).1
  have f6 := (f 6 (by decide) (by decide)).1
  have f7 := (f 7 (by decide) (by decide)).1
  have f8 := (f 8 (by decide) (by decide)).1
  have f9 := (f 9 (by decide) (by decide)).1
  have f10 := (f 10 (by decide) (by decide)).1
  unfold zwf zhd1 at f1 f2 f3 f4 f5 f6 f7 f8 f9 f10
  unfold zmun
  rw [u]
  unfold zuo
  rcases c1 with c1 | c1
  · have h0 := s5 c1
    rw [if_neg (by omega)]
    rw [h0] at f1 f2 f3 f4 f5 f6 f7 f8 f9 f10
    simp only [Int.reduceEq, if_true, if_false, ite_true, ite_false] at f1 f2 f3 f4 f5 f6 f7 f8 f9 f10
    omega
  · rw [if_pos (by omega)]
    have h1 := (c2 c1).1
    generalize e 5 7 = c at *
    rcases (by omega : c = 1 ∨ c = 2 ∨ c = 3 ∨ c = 4 ∨ c = 5 ∨ c = 6 ∨ c = 7 ∨ c = 8 ∨ c = 9 ∨ c = 10) with q | q | q | q | q | q | q | q | q | q
    all_goals subst q
    all_goals simp only [Int.reduceEq, if_true, if_false, ite_true, ite_false] at f1 f2 f3 f4 f5 f6 f7 f8 f9 f10
    all_goals omega
/-- the count -/
theorem zRe_ct {t : Int} {e : zm_D} (I : zIn t e) (R : zRe e) : ∀ k : Nat, k ≤ 10 → zmct e k = zcs e k := by
  intro k
  induction k with
  | zero => intro _; rfl
  | succ k ih =>
    intro q
    have a := zRe_lf I R (r := (k : Int) + 1) (by omega)
    have b := R.2.2.2.2.2.1.2.2.1 ((k : Int) + 1) (by omega) (by omega)
    have c := R.2.2.2.2.2.1.1.1
    unfold zmct zcs
    rw [ih (by omega), a, b, c, Int.mul_comm (e 8 _)]
    unfold zuo
    rw [show e 5 6 * zea ((k : Int) + 1) - (e 5 6 * zea ((k : Int) + 1) - e 8 ((k : Int) + 1)) = e 8 ((k : Int) + 1) by omega]
theorem zRe_bu {t : Int} {e : zm_D} (I : zIn t e) (R : zRe e) {x : Int} (hx : 4 ≤ x ∧ x ≤ 21) : zmbu e x 10 = zcb e x := by
  have f1 := zRe_lf I R (r := 1) (by decide)
  have f2 := zRe_lf I R (r := 2) (by decide)
  have f3 := zRe_lf I R (r := 3) (by decide)
  have f4 := zRe_lf I R (r := 4) (by decide)
  have f5 := zRe_lf I R (r := 5) (by decide)
  have f6 := zRe_lf I R (r := 6) (by decide)
  have f7 := zRe_lf I R (r := 7) (by decide)
  have f8 := zRe_lf I R (r := 8) (by decide)
  have f9 := zRe_lf I R (r := 9) (by decide)
  have f10 := zRe_lf I R (r := 10) (by decide)
  have m : zmbu e x 10 = 0 + (if 21 < x + 1 then zmlf e 1 else 0) + (if 21 < x + 2 then zmlf e 2 else 0) + (if 21 < x + 3 then zmlf e 3 else 0) + (if 21 < x + 4 then zmlf e 4 else 0) + (if 21 < x + 5 then zmlf e 5 else 0) + (if 21 < x + 6 then zmlf e 6 else 0) + (if 21 < x + 7 then zmlf e 7 else 0) + (if 21 < x + 8 then zmlf e 8 else 0) + (if 21 < x + 9 then zmlf e 9 else 0) + (if 21 < x + 10 then zmlf e 10 else 0) := rfl
  rw [m, f1, f2, f3, f4, f5, f6, f7, f8, f9, f10]
  clear m
  rcases (by omega : x = 4 ∨ x = 5 ∨ x = 6 ∨ x = 7 ∨ x = 8 ∨ x = 9 ∨ x = 10 ∨ x = 11 ∨ x = 12 ∨ x = 13 ∨ x = 14 ∨ x = 15 ∨ x = 16 ∨ x = 17 ∨ x = 18 ∨ x = 19 ∨ x = 20 ∨ x = 21) with q | q | q | q | q | q | q | q | q | q | q | q | q | q | q | q | q | q
  all_goals subst q
  · have u : zcb e 4 = 0 := rfl
    rw [u]
    simp only [Int.reduceAdd, Int.reduceLT, if_true, if_false, ite_true, ite_false]
  · have u : zcb e 5 = 0 := rfl
    rw [u]
    simp only [Int.reduceAdd, Int.reduceLT, if_true, if_false, ite_true, ite_false]
  · have u : zcb e 6 = 0 := rfl
    rw [u]
    simp only [Int.reduceAdd, Int.reduceLT, if_true, if_false, ite_true, ite_false]
  · have u : zcb e 7 = 0 := rfl
    rw [u]
    simp only [Int.reduceAdd, Int.reduceLT, if_true, if_false, ite_true, ite_false]
  · have u : zcb e 8 = 0 := rfl
    rw [u]
    simp only [Int.reduceAdd, Int.reduceLT, if_true, if_false, ite_true, ite_false]
  · have u : zcb e 9 = 0 := rfl
    rw [u]
    simp only [Int.reduceAdd, Int.reduceLT, if_true, if_false, ite_true, ite_false]
  · have u : zcb e 10 = 0 := rfl
    rw [u]
    simp only [Int.reduceAdd, Int.reduceLT, if_true, if_false, ite_true, ite_false]
  · have u : zcb e 11 = 0 := rfl
    rw [u]
    simp only [Int.reduceAdd, Int.reduceLT, if_true, if_false, ite_true, ite_false]
  · have u : zcb e 12 = zuo e 10 + 0 := rfl
    rw [u]
    simp only [Int.reduceAdd, Int.reduceLT, if_true, if_false, ite_true, ite_false]
    omega
  · have u : zcb e 13 = zuo e 9 + (zuo e 10 + 0) := rfl
    rw [u]
    simp only [Int.reduceAdd, Int.reduceLT, if_true, if_false, ite_true, ite_false]
    omega
  · have u : zcb e 14 = zuo e 8 + (zuo e 9 + (zuo e 10 + 0)) := rfl
    rw [u]
    simp only [Int.reduceAdd, Int.reduceLT, if_true, if_false, ite_true, ite_false]
    omega
  · have u : zcb e 15 = zuo e 7 + (zuo e 8 + (zuo e 9 + (zuo e 10 + 0))) := rfl
    rw [u]
    simp only [Int.reduceAdd, Int.reduceLT, if_true, if_false, ite_true, ite_false]
    omega
  · have u : zcb e 16 = zuo e 6 + (zuo e 7 + (zuo e 8 + (zuo e 9 + (zuo e 10 + 0)))) := rfl
    rw [u]
    simp only [Int.reduceAdd, Int.reduceLT, if_true, if_false, ite_true, ite_false]
    omega
  · have u : zcb e 17 = zuo e 5 + (zuo e 6 + (zuo e 7 + (zuo e 8 + (zuo e 9 + (zuo e 10 + 0))))) := rfl
    rw [u]
    simp only [Int.reduceAdd, Int.reduceLT, if_true, if_false, ite_true, ite_false]
    omega
  · have u : zcb e 18 = zuo e 4 + (zuo e 5 + (zuo e 6 + (zuo e 7 + (zuo e 8 + (zuo e 9 + (zuo e 10 + 0)))))) := rfl
    rw [u]
    simp only [Int.reduceAdd, Int.reduceLT, if_true, if_false, ite_true, ite_false]
    omega
  · have u : zcb e 19 = zuo e 3 + (zuo e 4 + (zuo e 5 + (zuo e 6 + (zuo e 7 + (zuo e 8 + (zuo e 9 + (zuo e 10 + 0))))))) := rfl
    rw [u]
    simp only [Int.reduceAdd, Int.reduceLT, if_true, if_false, ite_true, ite_false]
    omega
  · have u : zcb e 20 = zuo e 2 + (zuo e 3 + (zuo e 4 + (zuo e 5 + (zuo e 6 + (zuo e 7 + (zuo e 8 + (zuo e 9 + (zuo e 10 + 0)))))))) := rfl
    rw [u]
    simp only [Int.reduceAdd, Int.reduceLT, if_true, if_false, ite_true, ite_false]
    omega
  · have u : zcb e 21 = zuo e 1 + (zuo e 2 + (zuo e 3 + (zuo e 4 + (zuo e 5 + (zuo e 6 + (zuo e 7 + (zuo e 8 + (zuo e 9 + (zuo e 10 + 0))))))))) := rfl
    rw [u]
    simp only [Int.reduceAdd, Int.reduceLT, if_true, if_false, ite_true, ite_false]
    omega
/-- what is compared behind a wrapper whose reference answers a long -/
def zPj (v1 v : zv_V) (d : zm_D) : Prop := ∃ k w, v1 = zv_i k ∧ v = zv_l w ∧ d 61 49 = k ∧ (k = 0 → d 160 0 = w) ∧ (0 ≤ k ∧ k ≤ 9)
theorem zuS_e {e d : zm_D} (h : ∀ r j : Int, (r = 5 ∨ r = 8) → d r j = e r j) : ∀ k : Nat, zuS d k = zuS e k := by
  intro k
  induction k with
  | zero => rfl
  | succ k ih => unfold zuS zuo; rw [ih, h 5 _ (by omega), h 8 _ (by omega)]
theorem zcs_e {e d : zm_D} (h : ∀ r j : Int, (r = 8 ∨ r = 9) → d r j = e r j) : ∀ k : Nat, zcs d k = zcs e k := by
  intro k
  induction k with
  | zero => rfl
  | succ k ih => unfold zcs; rw [ih, h 8 _ (by omega), h 9 _ (by omega)]
theorem zcb_e {e d : zm_D} {x : Int} (h : ∀ r j : Int, (r = 5 ∨ r = 8) → d r j = e r j) : zcb d x = zcb e x := by
  unfold zcb
  rw [zuS_e h]
theorem zP24 {S : zSs} {D n u : Nat} {g : Int → zk_K} {e : zm_D} {t : Int} {x : Int} (I : zIn t e) (J : zIp t e) (R : zRe e) (ht : t < 600) (hD : 40 ≤ D) (h_x : -2147483648 ≤ x ∧ x < 2147483648) : zE S D 352 [zv_a 1, zv_i x, zv_a 160] n (zSg g) (zDg e) u (zK1 S D t n u 266 [zv_a 61, zv_i x] zPi) := by
  by_cases hx : x < 1 ∨ 10 < x
  · refine (zC142x I h_x hx hD).2 (zK1i (by omega) (by omega) (by omega) (by omega) (fun n2 u2 _ => (zX266x h_x hx (by omega)).2 (zK2i (by omega) (by omega) (by omega) (by omega) (zIn_e I ht (fun r j _ _ => by simp (disch := omega) only [zm_un])) (zIp_e J (fun r j _ _ => by simp (disch := omega) only [zm_un])) (zRe_e R (zIn_w I) (fun r j _ _ _ => by simp (disch := omega) only [zm_un])) ⟨1, 0, rfl, rfl, zm_us, fun q => absurd q (by decide), by decide⟩)))
  have hx : 1 ≤ x ∧ x ≤ 10 := by omega
  have IE : zIn (t + 1) (zm_u e 160 0 (zw (zuo e x))) := zIn_e I ht (fun r j _ _ => by simp (disch := omega) only [zm_un])
  have RE : zRe (zm_u e 160 0 (zw (zuo e x))) := zRe_e R (zIn_w I) (fun r j _ _ _ => by simp (disch := omega) only [zm_un])
  refine (zC142 I hx hD).2 (zK1i (by omega) (by omega) (by omega) (by omega) (fun n2 u2 _ => (zX266 (zRe_Mo IE RE) hx (by omega)).2 (zK2i (by omega) (by omega) (by omega) (by omega) (zIn_e I ht (fun r j _ _ => by simp (disch := omega) only [zm_un])) (zIp_e J (fun r j _ _ => by simp (disch := omega) only [zm_un])) (zRe_e R (zIn_w I) (fun r j _ _ _ => by simp (disch := omega) only [zm_un])) ⟨0, _, rfl, rfl, by simp (disch := omega) only [zm_ue], fun _ => by simp (disch := omega) only [zm_un, zm_ue]; rw [zRe_lf IE RE hx]; unfold zuo; simp (disch := omega) only [zm_un], by decide⟩)))
theorem zP29 {S : zSs} {D n u : Nat} {g : Int → zk_K} {e : zm_D} {t : Int} (I : zIn t e) (J : zIp t e) (R : zRe e) (ht : t < 600) (hD : 40 ≤ D) : zE S D 147 [zv_a 1] n (zSg g) (zDg e) u (zK1 S D t n u 276 [zv_a 61] zPd) := by
  refine (zC147 I hD).2 (zK1i (by omega) (by omega) (by omega) (by omega) (fun n2 u2 _ => (zX276 (zRe_Mo I R) (by omega)).2 (zK2i (by omega) (by omega) (by omega) (by omega) (zIn_e I ht (fun r j _ _ => by simp (disch := omega) only [zm_un])) (zIp_e J (fun r j _ _ => by simp (disch := omega) only [zm_un])) (zRe_e R (zIn_w I) (fun r j _ _ _ => by simp (disch := omega) only [zm_un])) ⟨by exact congrArg zv_i (zRe_ct I R 10 (by decide)).symm, by simp (disch := omega) only [zm_ue]⟩)))
theorem zP30 {S : zSs} {D n u : Nat} {g : Int → zk_K} {e : zm_D} {t : Int} (I : zIn t e) (J : zIp t e) (R : zRe e) (ht : t < 600) (hD : 40 ≤ D) : zE S D 357 [zv_a 1, zv_a 160] n (zSg g) (zDg e) u (zK1 S D t n u 277 [zv_a 61] zPi) := by
  by_cases hz : zuS e 10 = 0
  · refine (zC148z I hz hD).2 (zK1i (by omega) (by omega) (by omega) (by omega) (fun n2 u2 _ => (zX277z (zRe_Mo I R) (by rw [zRe_un I R]; exact hz) (by omega)).2 (zK2i (by omega) (by omega) (by omega) (by omega) (zIn_e I ht (fun r j _ _ => by simp (disch := omega) only [zm_un])) (zIp_e J (fun r j _ _ => by simp (disch := omega) only [zm_un])) (zRe_e R (zIn_w I) (fun r j _ _ _ => by simp (disch := omega) only [zm_un])) ⟨1, 0, rfl, rfl, zm_us, fun q => absurd q (by decide), by decide⟩)))
  have IE : zIn (t + 1) (zm_u e 160 0 (zw ((zw (zcs e 10 * 52)).tdiv (zuS e 10)))) := zIn_e I ht (fun r j _ _ => by simp (disch := omega) only [zm_un])
  have RE : zRe (zm_u e 160 0 (zw ((zw (zcs e 10 * 52)).tdiv (zuS e 10)))) := zRe_e R (zIn_w I) (fun r j _ _ _ => by simp (disch := omega) only [zm_un])
  have q1 : zmun (zm_u e 160 0 (zw ((zw (zcs e 10 * 52)).tdiv (zuS e 10)))) = zuS e 10 := (zRe_un IE RE).trans (zuS_e (fun r j _ => by simp (disch := omega) only [zm_un]) 10)
  have q2 : zmct (zm_u e 160 0 (zw ((zw (zcs e 10 * 52)).tdiv (zuS e 10)))) 10 = zcs e 10 := (zRe_ct IE RE 10 (by decide)).trans (zcs_e (fun r j _ => by simp (disch := omega) only [zm_un]) 10)
  refine (zC148 I hz hD).2 (zK1i (by omega) (by omega) (by omega) (by omega) (fun n2 u2 _ => (zX277 (zRe_Mo IE RE) (by rw [q1]; exact hz) (by omega)).2 (zK2i (by omega) (by omega) (by omega) (by omega) (zIn_e I ht (fun r j _ _ => by simp (disch := omega) only [zm_un])) (zIp_e J (fun r j _ _ => by simp (disch := omega) only [zm_un])) (zRe_e R (zIn_w I) (fun r j _ _ _ => by simp (disch := omega) only [zm_un])) ⟨0, _, rfl, rfl, by simp (disch := omega) only [zm_ue], fun _ => by simp (disch := omega) only [zm_un, zm_ue]; rw [q1, q2], by decide⟩)))
theorem zP25 {S : zSs} {D n u : Nat} {g : Int → zk_K} {e : zm_D} {t : Int} {x : Int} (I : zIn t e) (J : zIp t e) (R : zRe e) (ht : t < 600) (hD : 40 ≤ D) (h_x : -2147483648 ≤ x ∧ x < 2147483648) : zE S D 353 [zv_a 1, zv_i x, zv_a 160] n (zSg g) (zDg e) u (zK1 S D t n u 270 [zv_a 61, zv_i x] zPj) := by
  by_cases hx : x < 4 ∨ 21 < x
  · refine (zC143x I h_x hx hD).2 (zK1i (by omega) (by omega) (by omega) (by omega) (fun n2 u2 _ => (zX270x h_x hx (by omega)).2 (zK2i (by omega) (by omega) (by omega) (by omega) (zIn_e I ht (fun r j _ _ => by simp (disch := omega) only [zm_un])) (zIp_e J (fun r j _ _ => by simp (disch := omega) only [zm_un])) (zRe_e R (zIn_w I) (fun r j _ _ _ => by simp (disch := omega) only [zm_un])) ⟨1, 0, rfl, rfl, zm_us, fun q => absurd q (by decide), by decide⟩)))
  have hx : 4 ≤ x ∧ x ≤ 21 := by omega
  by_cases hz : zuS e 10 = 0
  · refine (zC143z I hx hz hD).2 (zK1i (by omega) (by omega) (by omega) (by omega) (fun n2 u2 _ => (zX270z (zRe_Mo I R) hx (by rw [zRe_un I R]; exact hz) (by omega)).2 (zK2i (by omega) (by omega) (by omega) (by omega) (zIn_e I ht (fun r j _ _ => by simp (disch := omega) only [zm_un])) (zIp_e J (fun r j _ _ => by simp (disch := omega) only [zm_un])) (zRe_e R (zIn_w I) (fun r j _ _ _ => by simp (disch := omega) only [zm_un])) ⟨2, 0, rfl, rfl, zm_us, fun q => absurd q (by decide), by decide⟩)))
  have IE : zIn (t + 1) (zm_u e 160 0 ((zcb e x).tdiv (zgc (zcb e x) (zuS e 10)))) := zIn_e I ht (fun r j _ _ => by simp (disch := omega) only [zm_un])
  have RE : zRe (zm_u e 160 0 ((zcb e x).tdiv (zgc (zcb e x) (zuS e 10)))) := zRe_e R (zIn_w I) (fun r j _ _ _ => by simp (disch := omega) only [zm_un])
  have q1 : zmun (zm_u e 160 0 ((zcb e x).tdiv (zgc (zcb e x) (zuS e 10)))) = zuS e 10 := (zRe_un IE RE).trans (zuS_e (fun r j _ => by simp (disch := omega) only [zm_un]) 10)
  have q2 : zmbu (zm_u e 160 0 ((zcb e x).tdiv (zgc (zcb e x) (zuS e 10)))) x 10 = zcb e x := (zRe_bu IE RE hx).trans (zcb_e (fun r j _ => by simp (disch := omega) only [zm_un]))
  refine (zC143 I hx hz hD).2 (zK1i (by omega) (by omega) (by omega) (by omega) (fun n2 u2 _ => (zX270 (zRe_Mo IE RE) hx (by rw [q1]; exact hz) (by omega)).2 (zK2i (by omega) (by omega) (by omega) (by omega) (zIn_e I ht (fun r j _ _ => by simp (disch := omega) only [zm_un])) (zIp_e J (fun r j _ _ => by simp (disch := omega) only [zm_un])) (zRe_e R (zIn_w I) (fun r j _ _ _ => by simp (disch := omega) only [zm_un])) ⟨0, _, rfl, rfl, by simp (disch := omega) only [zm_ue], fun _ => by simp (disch := omega) only [zm_un, zm_ue]; rw [q1, q2], by decide⟩)))
theorem zP26 {S : zSs} {D n u : Nat} {g : Int → zk_K} {e : zm_D} {t : Int} {x : Int} (I : zIn t e) (J : zIp t e) (R : zRe e) (ht : t < 600) (hD : 40 ≤ D) (h_x : -2147483648 ≤ x ∧ x < 2147483648) : zE S D 354 [zv_a 1, zv_i x, zv_a 160] n (zSg g) (zDg e) u (zK1 S D t n u 271 [zv_a 61, zv_i x] zPj) := by
  by_cases hx : x < 4 ∨ 21 < x
  · refine (zC144x I h_x hx hD).2 (zK1i (by omega) (by omega) (by omega) (by omega) (fun n2 u2 _ => (zX271x h_x hx (by omega)).2 (zK2i (by omega) (by omega) (by omega) (by omega) (zIn_e I ht (fun r j _ _ => by simp (disch := omega) only [zm_un])) (zIp_e J (fun r j _ _ => by simp (disch := omega) only [zm_un])) (zRe_e R (zIn_w I) (fun r j _ _ _ => by simp (disch := omega) only [zm_un])) ⟨1, 0, rfl, rfl, zm_us, fun q => absurd q (by decide), by decide⟩)))
  have hx : 4 ≤ x ∧ x ≤ 21 := by omega
  by_cases hz : zuS e 10 = 0
  · refine (zC144z I hx hz hD).2 (zK1i (by omega) (by omega) (by omega) (by omega) (fun n2 u2 _ => (zX271z (zRe_Mo I R) hx (by rw [zRe_un I R]; exact hz) (by omega)).2 (zK2i (by omega) (by omega) (by omega) (by omega) (zIn_e I ht (fun r j _ _ => by simp (disch := omega) only [zm_un])) (zIp_e J (fun r j _ _ => by simp (disch := omega) only [zm_un])) (zRe_e R (zIn_w I) (fun r j _ _ _ => by simp (disch := omega) only [zm_un])) ⟨2, 0, rfl, rfl, zm_us, fun q => absurd q (by decide), by decide⟩)))
  have IE : zIn (t + 1) (zm_u e 160 0 ((zuS e 10).tdiv (zgc (zcb e x) (zuS e 10)))) := zIn_e I ht (fun r j _ _ => by simp (disch := omega) only [zm_un])
  have RE : zRe (zm_u e 160 0 ((zuS e 10).tdiv (zgc (zcb e x) (zuS e 10)))) := zRe_e R (zIn_w I) (fun r j _ _ _ => by simp (disch := omega) only [zm_un])
  have q1 : zmun (zm_u e 160 0 ((zuS e 10).tdiv (zgc (zcb e x) (zuS e 10)))) = zuS e 10 := (zRe_un IE RE).trans (zuS_e (fun r j _ => by simp (disch := omega) only [zm_un]) 10)
  have q2 : zmbu (zm_u e 160 0 ((zuS e 10).tdiv (zgc (zcb e x) (zuS e 10)))) x 10 = zcb e x := (zRe_bu IE RE hx).trans (zcb_e (fun r j _ => by simp (disch := omega) only [zm_un]))
  refine (zC144 I hx hz hD).2 (zK1i (by omega) (by omega) (by omega) (by omega) (fun n2 u2 _ => (zX271 (zRe_Mo IE RE) hx (by rw [q1]; exact hz) (by omega)).2 (zK2i (by omega) (by omega) (by omega) (by omega) (zIn_e I ht (fun r j _ _ => by simp (disch := omega) only [zm_un])) (zIp_e J (fun r j _ _ => by simp (disch := omega) only [zm_un])) (zRe_e R (zIn_w I) (fun r j _ _ _ => by simp (disch := omega) only [zm_un])) ⟨0, _, rfl, rfl, by simp (disch := omega) only [zm_ue], fun _ => by simp (disch := omega) only [zm_un, zm_ue]; rw [q1, q2], by decide⟩)))
