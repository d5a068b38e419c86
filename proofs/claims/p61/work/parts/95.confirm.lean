/-! ===== STEPS: a draw confirmed ===== -/
set_option maxRecDepth 65536
/-- what guest i gets of the first k tickets: s for each with y right numbers -/
def zct (e : zm_D) (i y s : Int) : Nat → Int
  | 0 => 0
  | k + 1 => zct e i y s k + (if e 13 (k : Int) = 15 + 2 * i ∧ zw (zrn e (k : Int)) = y then s else 0)
theorem zct_0 {e : zm_D} {i y : Int} : ∀ k : Nat, zct e i y 0 k = 0 := by
  intro k
  induction k with
  | zero => rfl
  | succ k ih => unfold zct; rw [ih]; split <;> rfl
theorem zct_b {e : zm_D} {i y s : Int} (hs : 0 ≤ s) : ∀ k : Nat, 0 ≤ zct e i y s k := by
  intro k
  induction k with
  | zero => exact Int.le_refl _
  | succ k ih => unfold zct; split <;> omega
theorem zct_e {e d : zm_D} {i y s : Int} (h : ∀ r j : Int, (r = 12 ∨ r = 13 ∨ r = 14) → d r j = e r j) : ∀ k : Nat, zct d i y s k = zct e i y s k := by
  intro k
  induction k with
  | zero => rfl
  | succ k ih => unfold zct; rw [ih, h 13 _ (by omega), zrn_e (e := e) (d := d) (h 13 _ (by omega)) (h 14 _ (by omega)) (h 12 _ (by omega))]
theorem zct_n {e : zm_D} {i y s c : Int} (hi : c ≤ i) : ∀ k : Nat, (∀ t : Int, 0 ≤ t → t < (k : Int) → e 13 t < 15 + 2 * c) → zct e i y s k = 0 := by
  intro k
  induction k with
  | zero => intro _; rfl
  | succ k ih =>
    intro h
    have a := h (k : Int) (by omega) (by omega)
    unfold zct
    rw [ih (fun t h1 h2 => h t h1 (by omega)), if_neg (by omega)]
    rfl
theorem zgl_q {e : zm_D} {y s dy a j : Int} (h : a % 2 = 1) (H : zLo e) : ∀ k : Nat, (k : Int) ≤ e 12 2 → zgl e y s dy k a j = e a j := by
  intro k
  induction k with
  | zero => intro _; rfl
  | succ k ih =>
    intro hk
    unfold zgl
    split
    · rename_i q
      rcases H.2 k (by omega) (by omega) with g0 | ⟨i, hi, gi⟩
      · exact absurd g0 q.1
      · exact (zm_un (Or.inl (by omega))).trans (ih (by omega))
    · exact ih (by omega)
theorem zgt_q {e : zm_D} {y c dy a j : Int} (h : a % 2 = 1) (H : zLo e) : zgt e y c dy a j = e a j := by
  unfold zgt
  split
  · rfl
  · exact zgl_q h H _ (by have := H.1; omega)
theorem zgo2_q {e : zm_D} {dy a j : Int} (h : a % 2 = 1) (H : zLo e) : zgo2 e dy a j = e a j := (zgt_q h (zgo1_l H)).trans (zgt_q h H)
theorem zgl_c {e : zm_D} {y s dy i m : Int} (H : zLo e) (hi : 0 ≤ i ∧ i < 8) : ∀ k : Nat, (k : Int) ≤ e 12 2 → zgl e y s dy k (16 + 2 * i) m = e (16 + 2 * i) m + (if m = dy % 4 then zct e i y s k else 0) := by
  intro k
  induction k with
  | zero =>
    intro _
    show e (16 + 2 * i) m = e (16 + 2 * i) m + (if m = dy % 4 then (0 : Int) else 0)
    split <;> omega
  | succ k ih =>
    intro hk
    have ih := ih (by omega)
    unfold zgl zct
    by_cases c : e 13 (k : Int) ≠ 0 ∧ zw (zrn e (k : Int)) = y
    · rw [if_pos c]
      rcases H.2 (k : Int) (by omega) (by omega) with g0 | ⟨j, hj, gj⟩
      · exact absurd g0 c.1
      · by_cases p : j = i
        · subst p
          rw [if_pos (show e 13 (k : Int) = 15 + 2 * j ∧ zw (zrn e (k : Int)) = y from ⟨gj, c.2⟩)]
          by_cases q : m = dy % 4
          · rw [zm_ue (by omega) q, if_pos q, gj, show 15 + 2 * j + 1 = 16 + 2 * j by omega, ← q, ih, if_pos q]
            omega
          · rw [zm_un (.inr q), if_neg q, ih, if_neg q]
        · rw [if_neg (show ¬ (e 13 (k : Int) = 15 + 2 * i ∧ zw (zrn e (k : Int)) = y) from fun z => p (by omega)), zm_un (by omega), ih, Int.add_zero]
    · rw [if_neg c, ih]
      rw [if_neg (show ¬ (e 13 (k : Int) = 15 + 2 * i ∧ zw (zrn e (k : Int)) = y) from fun z => c ⟨by omega, z.2⟩), Int.add_zero]
theorem zgl_p {e : zm_D} {y s dy : Int} (H : zLo e) (hy : y = 2 ∨ y = 3) : ∀ k : Nat, (k : Int) ≤ e 12 2 → zpp (zgl e y s dy k) = zpp e + s * zrc e y k := by
  intro k
  induction k with
  | zero => intro _; show zpp e = zpp e + s * 0; omega
  | succ k ih =>
    intro hk
    have ih := ih (by omega)
    have L0 := fun i m hi => @zgl_c e y s dy i m H hi k (by omega)
    have L1 := fun i m hi => @zgl_c e y s dy i m H hi (k + 1) hk
    rw [show zrc e y (k + 1) = zrc e y k + (if zw (zrn e (k : Int)) = y then 1 else 0) from rfl]
    by_cases c : zw (zrn e (k : Int)) = y
    · rw [if_pos c, Int.mul_add, Int.mul_one]
      rcases H.2 (k : Int) (by omega) (by omega) with g0 | ⟨j, hj, gj⟩
      · exfalso
        unfold zrn at c
        rw [if_pos g0] at c
        unfold zw at c
        omega
      · have st : ∀ i : Int, zct e i y s (k + 1) = zct e i y s k + (if i = j then s else 0) := fun i => by
          show zct e i y s k + _ = _
          by_cases p : i = j
          · rw [if_pos ⟨by omega, c⟩, if_pos p]
          · rw [if_neg (fun z => p (by omega)), if_neg p]
        rw [zpp_at (e := zgl e y s dy k) (x := j) hj (fun i h1 h2 q => by
          unfold zsp4
          rw [L1 i 0 ⟨h1, h2⟩, L1 i 1 ⟨h1, h2⟩, L1 i 2 ⟨h1, h2⟩, L1 i 3 ⟨h1, h2⟩, L0 i 0 ⟨h1, h2⟩, L0 i 1 ⟨h1, h2⟩, L0 i 2 ⟨h1, h2⟩, L0 i 3 ⟨h1, h2⟩, st i, if_neg q, Int.add_zero]), ih]
        have m1 := Int.emod_nonneg dy (show (4 : Int) ≠ 0 by decide)
        have m2 := Int.emod_lt_of_pos dy (show (0 : Int) < 4 by decide)
        unfold zsp4
        rw [L1 j 0 hj, L1 j 1 hj, L1 j 2 hj, L1 j 3 hj, L0 j 0 hj, L0 j 1 hj, L0 j 2 hj, L0 j 3 hj, st j, if_pos rfl]
        generalize dy % 4 = z at m1 m2 ⊢
        generalize zct e j y s k = v
        generalize s * zrc e y k = v2
        rcases (by omega : z = 0 ∨ z = 1 ∨ z = 2 ∨ z = 3) with q | q | q | q
        all_goals subst q
        all_goals simp only [Int.reduceEq, if_true, if_false]
        all_goals omega
    · rw [if_neg c, Int.add_zero, ← ih]
      unfold zgl
      rw [if_neg (fun z => c z.2)]
      cases k <;> rfl
/-- a share: s to each of c -/
theorem zsh_b {x c : Int} (hx : 0 ≤ x ∧ x ≤ 100000) (hc : 0 ≤ c) : (0 ≤ (if c = 0 then 0 else (zw x).tdiv c) ∧ (if c = 0 then 0 else (zw x).tdiv c) ≤ x) ∧ (0 ≤ (if c = 0 then 0 else (zw x).tdiv c) * c ∧ (if c = 0 then 0 else (zw x).tdiv c) * c ≤ x) := by
  rw [zw_id (by omega) (by omega)]
  by_cases h : c = 0
  · rw [if_pos h, Int.zero_mul]
    omega
  · rw [if_neg h, Int.tdiv_eq_ediv_of_nonneg hx.1]
    have h1 := Int.ediv_nonneg hx.1 hc
    exact ⟨⟨h1, Int.ediv_le_self _ hx.1⟩, ⟨Int.mul_nonneg h1 hc, Int.ediv_mul_le _ h⟩⟩
def zsS (e : zm_D) (y c : Int) : Int := if zrc e y (e 12 2).toNat = 0 then 0 else (zw c).tdiv (zrc e y (e 12 2).toNat)
theorem zgt_c {e : zm_D} {y c dy i m : Int} (H : zLo e) (hi : 0 ≤ i ∧ i < 8) : zgt e y c dy (16 + 2 * i) m = e (16 + 2 * i) m + (if m = dy % 4 then zct e i y (zsS e y c) (e 12 2).toNat else 0) := by
  have h12 := H.1
  unfold zgt zsS
  by_cases h : zrc e y (e 12 2).toNat = 0
  · rw [if_pos h, if_pos h, zct_0]
    split <;> omega
  · rw [if_neg h, if_neg h]
    exact zgl_c H hi _ (by omega)
theorem zgt_p {e : zm_D} {y c dy : Int} (H : zLo e) (hy : y = 2 ∨ y = 3) : zpp (zgt e y c dy) = zpp e + zgv e y c ∧ zgv e y c = zsS e y c * zrc e y (e 12 2).toNat := by
  have h12 := H.1
  unfold zgt zgv zsS
  by_cases h : zrc e y (e 12 2).toNat = 0
  · rw [if_pos h, if_pos h, if_pos h, Int.zero_mul]
    omega
  · rw [if_neg h, if_neg h, if_neg h]
    exact ⟨zgl_p H hy _ (by omega), rfl⟩
/-- the reference's prizes -/
theorem zmcf_c {e b : zm_D} {p3 p2 i m : Int} (RL : zRl e) (hb : ∀ k j : Int, 0 ≤ k → k < e 12 2 → b (139 + k) j = e (139 + k) j) (h47 : b 61 47 = e 12 3) (h3 : 0 ≤ p3 ∧ p3 ≤ 1000000) (h2 : 0 ≤ p2 ∧ p2 ≤ 1000000) (hi : 0 ≤ i ∧ i < 8) : ∀ k : Nat, (k : Int) ≤ e 12 2 → zmcf b p3 p2 k (152 + i) m = b (152 + i) m + (if m = b 61 33 % 4 then zct e i 3 p3 k + zct e i 2 p2 k else 0) ∧ zmcs b p3 p2 k = p3 * zrc e 3 k + p2 * zrc e 2 k := by
  intro k
  induction k with
  | zero =>
    intro _
    refine ⟨?_, by show (0 : Int) = p3 * 0 + p2 * 0; omega⟩
    show b (152 + i) m = b (152 + i) m + (if m = b 61 33 % 4 then (0 : Int) + 0 else 0)
    split <;> omega
  | succ k ih =>
    intro hk
    have ih := ih (by omega)
    obtain ⟨ih1, ih2⟩ := ih
    obtain ⟨c1, c2⟩ := RL.2 (k : Int) (by omega) (by omega)
    have b0 := hb (k : Int) 0 (by omega) (by omega)
    have b1 := hb (k : Int) 1 (by omega) (by omega)
    have z1 : zmrn b (k : Int) = zbc (zb_and (e 14 (k : Int)) (e 12 3)) := by unfold zmrn; rw [b1, c2, h47]
    rw [show zrc e 3 (k + 1) = zrc e 3 k + (if zw (zrn e (k : Int)) = 3 then 1 else 0) from rfl, show zrc e 2 (k + 1) = zrc e 2 k + (if zw (zrn e (k : Int)) = 2 then 1 else 0) from rfl, show zct e i 3 p3 (k + 1) = zct e i 3 p3 k + (if e 13 (k : Int) = 15 + 2 * i ∧ zw (zrn e (k : Int)) = 3 then p3 else 0) from rfl, show zct e i 2 p2 (k + 1) = zct e i 2 p2 k + (if e 13 (k : Int) = 15 + 2 * i ∧ zw (zrn e (k : Int)) = 2 then p2 else 0) from rfl]
    unfold zmcf zmcs
    generalize zmcf b p3 p2 k = B at ih1 ⊢
    generalize zmcs b p3 p2 k = v at ih2 ⊢
    subst ih2
    generalize zct e i 3 p3 k = v3 at ih1 ⊢
    generalize zct e i 2 p2 k = v2 at ih1 ⊢
    generalize zrc e 3 k = w3
    generalize zrc e 2 k = w2
    rcases c1 with c1 | c1
    · have zr : zw (zrn e (k : Int)) = 0 := by unfold zrn; rw [if_pos c1.1]; rfl
      have zp : zmpz b p3 p2 (k : Int) = 0 := by unfold zmpz; rw [if_pos (by omega)]
      rw [zr, zp, if_neg (show ¬ (0 < zw 0) by decide), if_neg (show ¬ (0 < zw 0) by decide), if_neg (show ¬ ((0 : Int) = 3) by decide), if_neg (show ¬ ((0 : Int) = 2) by decide), if_neg (show ¬ (e 13 (k : Int) = 15 + 2 * i ∧ (0 : Int) = 3) by omega), if_neg (show ¬ (e 13 (k : Int) = 15 + 2 * i ∧ (0 : Int) = 2) by omega)]
      simp only [Int.add_zero]
      exact ⟨ih1, trivial⟩
    · have zr : zrn e (k : Int) = zbc (zb_and (e 14 (k : Int)) (e 12 3)) := by unfold zrn; rw [if_neg (by omega)]
      have zp : zmpz b p3 p2 (k : Int) = if zw (zrn e (k : Int)) = 3 then p3 else if zw (zrn e (k : Int)) = 2 then p2 else 0 := by unfold zmpz; rw [if_neg (by omega), z1, zr]
      rw [zp, b0]
      generalize zw (zrn e (k : Int)) = r
      obtain ⟨j, hj⟩ : ∃ j, e (139 + (k : Int)) 0 = j := ⟨_, rfl⟩
      rw [hj] at c1 ⊢
      have cell : ∀ x : Int, zm_u B (152 + j) (b 61 33 % 4) (B (152 + j) (b 61 33 % 4) + x) (152 + i) m = B (152 + i) m + (if m = b 61 33 % 4 ∧ i = j then x else 0) := fun x => by
        by_cases q : m = b 61 33 % 4 ∧ i = j
        · rw [if_pos q, zm_ue (by omega) q.1, ← q.1, q.2]
        · rw [if_neg q, zm_un (by omega), Int.add_zero]
      have ij : (e 13 (k : Int) = 15 + 2 * i) ↔ i = j := by omega
      by_cases r3 : r = 3
      · subst r3
        simp only [Int.reduceEq, if_true, if_false, and_true, and_false, Int.add_zero, ij]
        rw [zw_id (by omega) (by omega)]
        by_cases p0 : 0 < p3
        · simp only [if_pos p0]
          rw [cell, ih1, Int.mul_add]
          refine ⟨?_, by omega⟩
          by_cases q1 : m = b 61 33 % 4
          · by_cases q2 : i = j
            · simp only [if_pos q1, if_pos q2, if_pos (show m = b 61 33 % 4 ∧ i = j from ⟨q1, q2⟩)]
              omega
            · simp only [if_pos q1, if_neg q2, if_neg (show ¬ (m = b 61 33 % 4 ∧ i = j) from fun z => q2 z.2)]
              omega
          · simp only [if_neg q1, if_neg (show ¬ (m = b 61 33 % 4 ∧ i = j) from fun z => q1 z.1), Int.add_zero]
        · have p00 : p3 = 0 := by omega
          simp only [if_neg p0]
          rw [ih1, Int.mul_add]
          subst p00
          refine ⟨?_, by omega⟩
          simp only [ite_self, Int.add_zero]
      · simp only [if_neg r3, r3, and_false, if_false, Int.add_zero]
        by_cases r2 : r = 2
        · subst r2
          simp only [if_true, and_true, ij]
          rw [zw_id (by omega) (by omega)]
          by_cases p0 : 0 < p2
          · simp only [if_pos p0]
            rw [cell, ih1, Int.mul_add]
            refine ⟨?_, by omega⟩
            by_cases q1 : m = b 61 33 % 4
            · by_cases q2 : i = j
              · simp only [if_pos q1, if_pos q2, if_pos (show m = b 61 33 % 4 ∧ i = j from ⟨q1, q2⟩)]
                omega
              · simp only [if_pos q1, if_neg q2, if_neg (show ¬ (m = b 61 33 % 4 ∧ i = j) from fun z => q2 z.2)]
                omega
            · simp only [if_neg q1, if_neg (show ¬ (m = b 61 33 % 4 ∧ i = j) from fun z => q1 z.1), Int.add_zero]
          · have p00 : p2 = 0 := by omega
            simp only [if_neg p0]
            rw [ih1, Int.mul_add]
            subst p00
            refine ⟨?_, by omega⟩
            simp only [ite_self, Int.add_zero]
        · simp only [if_neg r2, r2, and_false, if_false, Int.add_zero, if_neg (show ¬ (0 < zw 0) by decide)]
          exact ⟨ih1, trivial⟩
/-- the class's prizes, all -/
theorem zgo_c {e : zm_D} {dy : Int} (H : zLo e) (hp : 0 ≤ e 12 4 ∧ e 12 4 ≤ 2000) : (0 ≤ zsS e 3 ((zw (e 12 4 * 6)).tdiv 10) ∧ zsS e 3 ((zw (e 12 4 * 6)).tdiv 10) ≤ 10000) ∧ (0 ≤ zsS e 2 ((zw (e 12 4 * 2)).tdiv 10) ∧ zsS e 2 ((zw (e 12 4 * 2)).tdiv 10) ≤ 10000) ∧ zgop e dy = zsS e 3 ((zw (e 12 4 * 6)).tdiv 10) * zrc e 3 (e 12 2).toNat + zsS e 2 ((zw (e 12 4 * 2)).tdiv 10) * zrc e 2 (e 12 2).toNat ∧ (0 ≤ zgop e dy ∧ zgop e dy ≤ e 12 4) ∧ zpp (zgo2 e dy) = zpp e + zgop e dy ∧ ∀ i m : Int, 0 ≤ i → i < 8 → zgo2 e dy (16 + 2 * i) m = e (16 + 2 * i) m + (if m = dy % 4 then zct e i 3 (zsS e 3 ((zw (e 12 4 * 6)).tdiv 10)) (e 12 2).toNat + zct e i 2 (zsS e 2 ((zw (e 12 4 * 2)).tdiv 10)) (e 12 2).toNat else 0) := by
  have H1 := zgo1_l (dy := dy) H
  have O : ∀ r j : Int, (r = 12 ∨ r = 13 ∨ r = 14) → zgo1 e dy r j = e r j := fun r j h => zgo1_o (by omega) H
  have x3 : (zw (e 12 4 * 6)).tdiv 10 = e 12 4 * 6 / 10 := by rw [zw_id (by omega) (by omega), Int.tdiv_eq_ediv_of_nonneg (by omega)]
  have x2 : (zw (e 12 4 * 2)).tdiv 10 = e 12 4 * 2 / 10 := by rw [zw_id (by omega) (by omega), Int.tdiv_eq_ediv_of_nonneg (by omega)]
  have RC : ∀ y, zrc (zgo1 e dy) y (zgo1 e dy 12 2).toNat = zrc e y (e 12 2).toNat := fun y => by
    rw [O 12 2 (by omega)]
    exact zrc_m (fun r j h => O r j (by omega)) _
  have S2 : zsS (zgo1 e dy) 2 ((zw (e 12 4 * 2)).tdiv 10) = zsS e 2 ((zw (e 12 4 * 2)).tdiv 10) := by unfold zsS; rw [RC]
  have b3 := @zsh_b ((zw (e 12 4 * 6)).tdiv 10) (zrc e 3 (e 12 2).toNat) (by rw [x3]; omega) (zrc_b _).1
  have b2 := @zsh_b ((zw (e 12 4 * 2)).tdiv 10) (zrc e 2 (e 12 2).toNat) (by rw [x2]; omega) (zrc_b _).1
  have v3 : zsS e 3 ((zw (e 12 4 * 6)).tdiv 10) = (if zrc e 3 (e 12 2).toNat = 0 then 0 else (zw ((zw (e 12 4 * 6)).tdiv 10)).tdiv (zrc e 3 (e 12 2).toNat)) := rfl
  have v2 : zsS e 2 ((zw (e 12 4 * 2)).tdiv 10) = (if zrc e 2 (e 12 2).toNat = 0 then 0 else (zw ((zw (e 12 4 * 2)).tdiv 10)).tdiv (zrc e 2 (e 12 2).toNat)) := rfl
  rw [← v3] at b3
  rw [← v2] at b2
  have g1 := zgt_p (c := (zw (e 12 4 * 6)).tdiv 10) (dy := dy) H (.inr rfl)
  have g2 := zgt_p (c := (zw (e 12 4 * 2)).tdiv 10) (dy := dy) H1 (.inl rfl)
  rw [RC, S2] at g2
  have op : zgop e dy = zsS e 3 ((zw (e 12 4 * 6)).tdiv 10) * zrc e 3 (e 12 2).toNat + zsS e 2 ((zw (e 12 4 * 2)).tdiv 10) * zrc e 2 (e 12 2).toNat := by
    unfold zgop
    rw [g1.2, g2.2]
  refine ⟨by omega, by omega, op, by omega, ?_, fun i m h1 h2 => ?_⟩
  · rw [op]
    show zpp (zgt (zgo1 e dy) 2 ((zw (e 12 4 * 2)).tdiv 10) dy) = _
    rw [g2.1, g2.2]
    show zpp (zgt e 3 ((zw (e 12 4 * 6)).tdiv 10) dy) + _ = _
    rw [g1.1, g1.2]
    omega
  · show zgt (zgo1 e dy) 2 ((zw (e 12 4 * 2)).tdiv 10) dy (16 + 2 * i) m = _
    rw [zgt_c H1 ⟨h1, h2⟩, S2, O 12 2 (by omega), zct_e (e := e) (fun r j h => O r j h)]
    show zgt e 3 ((zw (e 12 4 * 6)).tdiv 10) dy (16 + 2 * i) m + _ = _
    rw [zgt_c H ⟨h1, h2⟩]
    split <;> omega
theorem zP47 {S : zSs} {D n u : Nat} {g : Int → zk_K} {e : zm_D} {t : Int} (I : zIn t e) (J : zIp t e) (R : zRe e) (ht : t < 600) (hD : 40 ≤ D) : zE S D 370 [zv_a 1, zv_a 160] n (zSg g) (zDg e) u (zK1 S D t n u 302 [zv_a 61] zPi) := by
  have l1 := R.2.2.2.2.2.2.2.2.2.2.1
  have RL := R.2.2.2.2.2.2.2.2.2.2
  have il := I.2.2.2.2.2.2.2.2.2
  have LO := il.1
  have lo1 := LO.1
  have l3 := il.2
  by_cases h3 : e 12 3 = 0
  · refine (zC165x I h3 hD).2 (zK1i (by omega) (by omega) (by omega) (by omega) (fun n2 u2 _ => (zX302x (by omega) (by omega)).2 (zK2i (by omega) (by omega) (by omega) (by omega) (zIn_e I ht (fun r j _ _ => by simp (disch := omega) only [zm_un])) (zIp_e J (fun r j _ _ => by simp (disch := omega) only [zm_un])) (zRe_e R (zIn_w I) (fun r j _ _ _ => by simp (disch := omega) only [zm_un])) ⟨1, 0, rfl, rfl, zm_us, fun q => absurd q (by decide), by decide⟩)))
  have hw := zIn_w I
  have Ml := zRe_Ml I R
  have ra := R.1
  unfold zRa at ra
  have i10 := I.2.1.2
  have it := I.1
  have jp := J.1.1
  have jz := J.2.1
  have q46 : e 61 46 = e 12 2 := l1.1
  have q47 : e 61 47 = e 12 3 := by omega
  obtain ⟨g1, g2, g3, g4, g5, g6⟩ := zgo_c (dy := e 1 10) LO (by omega)
  refine (zC165 I h3 hD).2 (zK1i (by omega) (by omega) (by omega) (by omega) (fun n2 u2 _ => ?_))
  have EO : ∀ r j : Int, (r < 16 ∨ 30 < r) → r ≠ 160 → (r ≠ 12 ∨ (j ≠ 2 ∧ j ≠ 3 ∧ j ≠ 4)) → (zm_u (zm_u (zm_u (zm_u (zgo2 e (e 1 10)) 12 4 (e 12 4 - zgop e (e 1 10))) 12 2 0) 12 3 0) 160 0 (zw (zgop e (e 1 10)))) r j = e r j := fun r j q1 q2 q3 => by
    rw [zm_un (by omega), zm_un (by omega), zm_un (by omega), zm_un (by omega), zgo2_o (by omega) LO]
  have EZ : ∀ r j : Int, 16 ≤ r → r ≤ 30 → (zm_u (zm_u (zm_u (zm_u (zgo2 e (e 1 10)) 12 4 (e 12 4 - zgop e (e 1 10))) 12 2 0) 12 3 0) 160 0 (zw (zgop e (e 1 10)))) r j = zgo2 e (e 1 10) r j := fun r j q1 q2 => by
    rw [zm_un (by omega), zm_un (by omega), zm_un (by omega), zm_un (by omega)]
  have E4 : (zm_u (zm_u (zm_u (zm_u (zgo2 e (e 1 10)) 12 4 (e 12 4 - zgop e (e 1 10))) 12 2 0) 12 3 0) 160 0 (zw (zgop e (e 1 10)))) 12 4 = e 12 4 - zgop e (e 1 10) := by simp (disch := omega) only [zm_un, zm_ue]
  have E2 : (zm_u (zm_u (zm_u (zm_u (zgo2 e (e 1 10)) 12 4 (e 12 4 - zgop e (e 1 10))) 12 2 0) 12 3 0) 160 0 (zw (zgop e (e 1 10)))) 12 2 = 0 := by simp (disch := omega) only [zm_un, zm_ue]
  have E3 : (zm_u (zm_u (zm_u (zm_u (zgo2 e (e 1 10)) 12 4 (e 12 4 - zgop e (e 1 10))) 12 2 0) 12 3 0) 160 0 (zw (zgop e (e 1 10)))) 12 3 = 0 := by simp (disch := omega) only [zm_un, zm_ue]
  have E160 : (zm_u (zm_u (zm_u (zm_u (zgo2 e (e 1 10)) 12 4 (e 12 4 - zgop e (e 1 10))) 12 2 0) 12 3 0) 160 0 (zw (zgop e (e 1 10)))) 160 0 = zw (zgop e (e 1 10)) := zm_ue rfl rfl
  generalize (zm_u (zm_u (zm_u (zm_u (zgo2 e (e 1 10)) 12 4 (e 12 4 - zgop e (e 1 10))) 12 2 0) 12 3 0) 160 0 (zw (zgop e (e 1 10)))) = E at EO EZ E4 E2 E3 E160 ⊢
  have ME : zMl E := by
    refine ⟨by rw [EO _ _ (by decide) (by decide) (by decide)]; exact Ml.1, fun k q1 q2 => ?_⟩
    rw [EO _ _ (by decide) (by decide) (by decide)] at q2
    have m := Ml.1
    rw [EO _ _ (by omega) (by omega) (by omega)]
    exact Ml.2 k q1 q2
  refine (zX302 (by rw [EO _ _ (by decide) (by decide) (by decide)]; omega) ME (by rw [EO _ _ (by decide) (by decide) (by decide)]; omega) (by omega)).2 ?_
  have RG : ∀ y : Int, y ≠ 0 → zmr E y = zrc e y (e 12 2).toNat := fun y hy => by
    unfold zmr
    rw [EO 61 46 (by decide) (by decide) (by decide), q46]
    have f : ∀ k : Nat, (k : Int) ≤ e 12 2 → zmrg E y k = zmrg e y k := by
      intro k
      induction k with
      | zero => intro _; rfl
      | succ k ih =>
        intro q
        unfold zmrg zmrn
        rw [ih (by omega), EO (139 + (k : Int)) 0 (by omega) (by omega) (by omega), EO (139 + (k : Int)) 1 (by omega) (by omega) (by omega), EO 61 47 (by decide) (by decide) (by decide)]
    rw [f _ (by omega), zRe_rg RL h3 hy _ (by omega)]
  have p3 : zmp3 E = zsS e 3 ((zw (e 12 4 * 6)).tdiv 10) := by
    unfold zmp3 zsS
    rw [RG 3 (by decide), EO 61 48 (by decide) (by decide) (by decide), ra.2.2]
  have p2 : zmp2 E = zsS e 2 ((zw (e 12 4 * 2)).tdiv 10) := by
    unfold zmp2 zsS
    rw [RG 2 (by decide), EO 61 48 (by decide) (by decide) (by decide), ra.2.2]
  rw [p3, p2, EO 61 46 (by decide) (by decide) (by decide), EO 61 48 (by decide) (by decide) (by decide), q46]
  clear p3 p2 RG
  obtain ⟨n5, hn5⟩ : ∃ n5 : Nat, (e 12 2).toNat = n5 := ⟨_, rfl⟩
  have e5 : e 12 2 = (n5 : Int) := by omega
  rw [hn5] at g3 g6 ⊢
  obtain ⟨s3, hs3⟩ : ∃ s3, zsS e 3 ((zw (e 12 4 * 6)).tdiv 10) = s3 := ⟨_, rfl⟩
  obtain ⟨s2, hs2⟩ : ∃ s2, zsS e 2 ((zw (e 12 4 * 2)).tdiv 10) = s2 := ⟨_, rfl⟩
  rw [hs3] at g1 g3 g6 ⊢
  rw [hs2] at g2 g3 g6 ⊢
  have MC := fun i m hi => @zmcf_c e (zm_u E 61 49 0) s3 s2 i m RL (fun k j q1 q2 => by rw [zm_un (by omega), EO _ _ (by omega) (by omega) (by omega)]) (by rw [zm_un (by decide), EO _ _ (by decide) (by decide) (by decide)]; exact q47) (by omega) (by omega) hi n5 (by omega)
  have MO : ∀ a j : Int, (a < 152 ∨ 159 < a) → zmcf (zm_u E 61 49 0) s3 s2 n5 a j = zm_u E 61 49 0 a j := fun a j h => zmcf_o (by
    refine ⟨by rw [zm_un (by decide)]; exact ME.1, fun k q1 q2 => ?_⟩
    rw [zm_un (by decide)] at q2
    rw [zm_un (by omega)]
    exact ME.2 k q1 q2) h n5 (by rw [zm_un (by decide), EO _ _ (by decide) (by decide) (by decide)]; omega)
  have M0 := (MC 0 0 (by decide)).2
  rw [← g3] at M0
  rw [M0]
  have T0 : ∀ i : Int, 0 ≤ zct e i 3 s3 n5 + zct e i 2 s2 n5 := fun i => by
    have a1 := @zct_b e i 3 s3 g1.1 n5
    have a2 := @zct_b e i 2 s2 g2.1 n5
    omega
  have MZ : ∀ i m : Int, 0 ≤ i → i < 8 → zmcf (zm_u E 61 49 0) s3 s2 n5 (152 + i) m = e (152 + i) m + (if m = e 1 10 % 4 then zct e i 3 s3 n5 + zct e i 2 s2 n5 else 0) := fun i m q1 q2 => by
    rw [(MC i m ⟨q1, q2⟩).1, zm_un (by omega), EO _ _ (by omega) (by omega) (by omega), zm_un (by decide), EO 61 33 (by decide) (by decide) (by decide), ra.1.2.2]
  generalize zmcf (zm_u E 61 49 0) s3 s2 n5 = B at MO MZ ⊢
  clear MC M0 ME
  obtain ⟨op, hop⟩ : ∃ op, zgop e (e 1 10) = op := ⟨_, rfl⟩
  rw [hop] at g3 g4 g5 E4 E160 ⊢
  have hf : ∀ r j : Int, ((r < 16 ∨ 30 < r ∨ r % 2 = 1) ∧ (r < 152 ∨ 159 < r) ∧ r ≠ 160) → ((r ≠ 12 ∨ (j ≠ 2 ∧ j ≠ 3 ∧ j ≠ 4)) ∧ (r ≠ 61 ∨ (j ≠ 46 ∧ j ≠ 47 ∧ j ≠ 48 ∧ j ≠ 49))) → zm_u (zm_u (zm_u B 61 48 (e 61 48 - op)) 61 46 0) 61 47 (-1) r j = e r j := fun r j h1 h2 => by
    rw [zm_un (by omega), zm_un (by omega), zm_un (by omega), MO r j (by omega), zm_un (by omega)]
    by_cases q : r < 16 ∨ 30 < r
    · exact EO r j q (by omega) (by omega)
    · rw [EZ r j (by omega) (by omega)]
      exact zgo2_q (by omega) LO
  have hZ : ∀ i m : Int, 0 ≤ i → i < 8 → zm_u (zm_u (zm_u B 61 48 (e 61 48 - op)) 61 46 0) 61 47 (-1) (16 + 2 * i) m = zgo2 e (e 1 10) (16 + 2 * i) m := fun i m q1 q2 => by
    rw [zm_un (by omega), zm_un (by omega), zm_un (by omega), MO _ _ (by omega), zm_un (by omega), EZ _ _ (by omega) (by omega)]
  have hM : ∀ i m : Int, 0 ≤ i → i < 8 → zm_u (zm_u (zm_u B 61 48 (e 61 48 - op)) 61 46 0) 61 47 (-1) (152 + i) m = B (152 + i) m := fun i m q1 q2 => by
    rw [zm_un (by omega), zm_un (by omega), zm_un (by omega)]
  have h124 : zm_u (zm_u (zm_u B 61 48 (e 61 48 - op)) 61 46 0) 61 47 (-1) 12 4 = e 12 4 - op := by
    rw [zm_un (by decide), zm_un (by decide), zm_un (by decide), MO _ _ (by decide), zm_un (by decide), E4]
  have h122 : zm_u (zm_u (zm_u B 61 48 (e 61 48 - op)) 61 46 0) 61 47 (-1) 12 2 = 0 := by
    rw [zm_un (by decide), zm_un (by decide), zm_un (by decide), MO _ _ (by decide), zm_un (by decide), E2]
  have h123 : zm_u (zm_u (zm_u B 61 48 (e 61 48 - op)) 61 46 0) 61 47 (-1) 12 3 = 0 := by
    rw [zm_un (by decide), zm_un (by decide), zm_un (by decide), MO _ _ (by decide), zm_un (by decide), E3]
  have h160 : zm_u (zm_u (zm_u B 61 48 (e 61 48 - op)) 61 46 0) 61 47 (-1) 160 0 = zw op := by
    rw [zm_un (by decide), zm_un (by decide), zm_un (by decide), MO _ _ (by decide), zm_un (by decide), E160]
  have h49 : zm_u (zm_u (zm_u B 61 48 (e 61 48 - op)) 61 46 0) 61 47 (-1) 61 49 = 0 := by
    rw [zm_un (by decide), zm_un (by decide), zm_un (by decide), MO _ _ (by decide)]
    exact zm_ue rfl rfl
  have h48 : zm_u (zm_u (zm_u B 61 48 (e 61 48 - op)) 61 46 0) 61 47 (-1) 61 48 = e 61 48 - op := by rw [zm_un (by decide), zm_un (by decide)]; exact zm_ue rfl rfl
  have h46 : zm_u (zm_u (zm_u B 61 48 (e 61 48 - op)) 61 46 0) 61 47 (-1) 61 46 = 0 := by rw [zm_un (by decide)]; exact zm_ue rfl rfl
  have h47 : zm_u (zm_u (zm_u B 61 48 (e 61 48 - op)) 61 46 0) 61 47 (-1) 61 47 = -1 := zm_ue rfl rfl
  generalize zm_u (zm_u (zm_u B 61 48 (e 61 48 - op)) 61 46 0) 61 47 (-1) = d at hf hZ hM h124 h122 h123 h160 h49 h48 h46 h47 ⊢
  have hP : zpp d = zpp e + op := by
    rw [← g5]
    exact zpp_e (fun i q1 q2 => by
      unfold zsp4
      rw [hZ i _ q1 q2, hZ i _ q1 q2, hZ i _ q1 q2, hZ i _ q1 q2])
  have hC : ∀ i m : Int, 0 ≤ i → i < 8 → d (16 + 2 * i) m = e (16 + 2 * i) m + (if m = e 1 10 % 4 then zct e i 3 s3 n5 + zct e i 2 s2 n5 else 0) := fun i m q1 q2 => (hZ i m q1 q2).trans (g6 i m q1 q2)
  have hB : ∀ i m : Int, 0 ≤ i → i < 8 → d (152 + i) m = e (152 + i) m + (if m = e 1 10 % 4 then zct e i 3 s3 n5 + zct e i 2 s2 n5 else 0) := fun i m q1 q2 => (hM i m q1 q2).trans (MZ i m q1 q2)
  have hN : ∀ i m : Int, 0 ≤ i → i < 8 → 0 ≤ m → m < 4 → 0 ≤ d (16 + 2 * i) m := fun i m q1 q2 q3 q4 => by
    have a := (J.1.2 i q1 q2).1
    have b := T0 i
    rw [hC i m q1 q2]
    rcases (by omega : m = 0 ∨ m = 1 ∨ m = 2 ∨ m = 3) with z | z | z | z
    all_goals subst z
    all_goals split <;> omega
  have hS : ∀ i : Int, 0 ≤ i → i < 8 → zsp4 d i ≤ zpp d := fun i q1 q2 => by
    have f : ∀ k : Int, 0 ≤ k → k < 8 → 0 ≤ zsp4 d k := fun k p1 p2 => by
      have f0 := hN k 0 p1 p2 (by decide) (by decide)
      have f1 := hN k 1 p1 p2 (by decide) (by decide)
      have f2 := hN k 2 p1 p2 (by decide) (by decide)
      have f3 := hN k 3 p1 p2 (by decide) (by decide)
      unfold zsp4
      omega
    have f0 := f 0 (by decide) (by decide)
    have f1 := f 1 (by decide) (by decide)
    have f2 := f 2 (by decide) (by decide)
    have f3 := f 3 (by decide) (by decide)
    have f4 := f 4 (by decide) (by decide)
    have f5 := f 5 (by decide) (by decide)
    have f6 := f 6 (by decide) (by decide)
    have f7 := f 7 (by decide) (by decide)
    unfold zpp
    rcases (by omega : i = 0 ∨ i = 1 ∨ i = 2 ∨ i = 3 ∨ i = 4 ∨ i = 5 ∨ i = 6 ∨ i = 7) with z | z | z | z | z | z | z | z
    all_goals subst z
    all_goals omega
  clear EO EZ MO MZ hZ hM g6 g5
  have pj := J
  obtain ⟨it, ia, ig, iv, itr, is, ic, iw, im, il⟩ := I
  obtain ⟨ra, rg, rh, rt, ru, rs, rd, rq, rv, rm, rl⟩ := R
  refine zK2i (by omega) (by omega) (by omega) (by omega) ⟨by omega, zIa_e ia (fun j => by rw [hf _ _ (by omega) (by omega)]), zIg_e ig (fun i j _ _ => by rw [hf _ _ (by omega) (by omega)]), zIv_e iv (by rw [hf _ _ (by omega) (by omega)]), zIt_e itr (fun i _ _ => by rw [hf _ _ (by omega) (by omega)]), zIs_e is (fun r j _ => by rw [hf _ _ (by omega) (by omega)]), zIc_e ic (fun r j _ => by rw [hf _ _ (by omega) (by omega)]) (fun j _ _ => by rw [hf _ _ (by omega) (by omega)]) (by rw [hf _ _ (by omega) (by omega)]), zWh_e iw (fun r j _ _ => by rw [hf _ _ (by omega) (by omega)]), zIm_e im (fun r j _ => by rw [hf _ _ (by omega) (by omega)]), ?_⟩ ⟨?_, ?_⟩ ⟨?_, ?_, zRh_e rh (fun i j _ _ _ => by rw [hf _ _ (by omega) (by omega)]) (fun j => by rw [hf _ _ (by omega) (by omega)]) (fun j => by rw [hf _ _ (by omega) (by omega)]) (by rw [hf _ _ (by omega) (by omega)]), zRt_e rt (fun r j _ => by rw [hf _ _ (by omega) (by omega)]), zRu_e ru (fun j _ _ => by rw [hf _ _ (by omega) (by omega)]) (fun j => by rw [hf _ _ (by omega) (by omega)]), zRs_e rs (fun j _ => by rw [hf _ _ (by omega) (by omega)]) (by rw [hf _ _ (by omega) (by omega)]) (by rw [hf _ _ (by omega) (by omega)]) (fun r j _ => by rw [hf _ _ (by omega) (by omega)]), zRd_e rd (by rw [hf _ _ (by omega) (by omega)]) (fun r j _ => by rw [hf _ _ (by omega) (by omega)]), fun s q1 q2 => zRq_e (rq s q1 q2) (by rw [hf _ _ (by omega) (by omega)]) (by rw [hf _ _ (by omega) (by omega)]) (by rw [hf _ _ (by omega) (by omega)]) (by rw [hf _ _ (by omega) (by omega)]) (fun r j _ => by rw [hf _ _ (by omega) (by omega)]) (fun r j _ => by rw [hf _ _ (by omega) (by omega)]), zRv_e rv (by rw [hf _ _ (by omega) (by omega)]) (fun r j _ => by rw [hf _ _ (by omega) (by omega)]) hw.1, zRm_e rm (fun j _ _ => by rw [hf _ _ (by omega) (by omega)]) (fun r j _ => by rw [hf _ _ (by omega) (by omega)]) (fun j _ _ => by rw [hf _ _ (by omega) (by omega)]), ?_⟩ ⟨0, _, rfl, rfl, h49, fun _ => h160, by decide⟩
  · refine ⟨⟨by omega, fun i q1 q2 => by omega⟩, by omega⟩
  · refine ⟨by omega, fun i q1 q2 => ⟨⟨hN i 0 q1 q2 (by decide) (by decide), hN i 1 q1 q2 (by decide) (by decide), hN i 2 q1 q2 (by decide) (by decide), hN i 3 q1 q2 (by decide) (by decide)⟩, ?_⟩⟩
    have a := ig i ⟨q1, q2⟩
    have b := hS i q1 q2
    unfold zsp4 at b
    rw [hf _ 2 (by omega) (by omega)]
    omega
  · obtain ⟨w1, w2, w3, w4, w5⟩ := pj.2
    refine ⟨by omega, fun i q0 q1 q2 => ?_, fun k q1 q2 => by omega, fun s q1 q2 => by rw [hf (38 + 5 * s) 2 (by omega) (by omega), hf 1 9 (by decide) (by decide)]; exact w4 s q1 q2, fun p => ?_⟩
    · rw [hf 1 9 (by decide) (by decide)] at q0
      have f := w2 i q0 q1 q2
      have t3 := zct_n (e := e) (y := 3) (s := s3) q0 n5 (fun k q3 q4 => w3 k q3 (by omega))
      have t2 := zct_n (e := e) (y := 2) (s := s2) q0 n5 (fun k q3 q4 => w3 k q3 (by omega))
      rw [hf _ 5 (by omega) (by omega), hf _ 7 (by omega) (by omega), hC i 0 q1 q2, hC i 1 q1 q2, hC i 2 q1 q2, hC i 3 q1 q2, t3, t2]
      simp only [Int.add_zero, ite_self]
      exact f
    · rw [hf 34 4 (by decide) (by decide)] at p
      exact zNn_e (w5 p) (fun j _ _ => hf 36 j (by omega) (by omega)) (fun r j _ _ => hf r j (by omega) (by omega))
  · unfold zRa
    rw [h48, h124, hf 61 31 (by decide) (by decide), hf 1 9 (by decide) (by decide), hf 61 32 (by decide) (by decide), hf 4 0 (by decide) (by decide), hf 61 33 (by decide) (by decide), hf 1 10 (by decide) (by decide), hf 61 38 (by decide) (by decide), hf 34 9 (by decide) (by decide), hf 61 40 (by decide) (by decide), hf 58 4 (by decide) (by decide), hf 61 41 (by decide) (by decide), hf 58 3 (by decide) (by decide)]
    omega
  · intro i q1 q2
    obtain ⟨⟨a1, a2, a3⟩, a4, a5, a6⟩ := rg i q1 q2
    refine ⟨?_, ?_, fun k q3 q4 => ?_, ?_⟩
    · rw [hf 63 i (by omega) (by omega), hf _ 2 (by omega) (by omega), hf 62 i (by omega) (by omega), hf _ 1 (by omega) (by omega), hf 64 i (by omega) (by omega), hf _ 5 (by omega) (by omega), hf 65 i (by omega) (by omega), hf _ 7 (by omega) (by omega), hf 66 i (by omega) (by omega), hf _ 8 (by omega) (by omega), hf 69 i (by omega) (by omega), hf _ 6 (by omega) (by omega)]
      exact ⟨a1, a2, a3⟩
    · rw [hf (71 + i) 0 (by omega) (by omega), hf (71 + i) 1 (by omega) (by omega), hf (80 + i) 0 (by omega) (by omega), hf (80 + i) 1 (by omega) (by omega), hf _ 12 (by omega) (by omega), hf _ 10 (by omega) (by omega), hf _ 11 (by omega) (by omega), hf _ 9 (by omega) (by omega)]
      exact a4
    · rw [hC i k q1 q2, hB i k q1 q2, a5 k q3 q4]
    · rw [hf _ _ (by omega) (by omega)]
      exact a6
  · refine ⟨⟨by omega, .inl ⟨h123, h47⟩⟩, fun i q1 q2 => by omega⟩
