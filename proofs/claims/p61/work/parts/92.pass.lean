/-! ===== STEPS: days ===== -/
set_option maxRecDepth 65536
/-- the class's cells of a, the others of b -/
def zmx (a b : zm_D) : zm_D := fun r j => if r ≤ 60 then a r j else b r j
theorem zmx_l {a b : zm_D} {r j : Int} (h : r ≤ 60) : zmx a b r j = a r j := if_pos h
theorem zmx_h {a b : zm_D} {r j : Int} (h : 60 < r) : zmx a b r j = b r j := if_neg (by omega)
theorem zmx_i (e : zm_D) : zmx e e = e := by
  funext r j
  unfold zmx
  split <;> rfl
theorem zmx_ul {a b : zm_D} {r j v : Int} (h : r ≤ 60) : zm_u (zmx a b) r j v = zmx (zm_u a r j v) b := by
  funext x y
  unfold zmx zm_u
  by_cases c : x = r ∧ y = j
  · rw [if_pos c, if_pos c, if_pos (by omega)]
  · rw [if_neg c, if_neg c]
theorem zmx_uh {a b : zm_D} {r j v : Int} (h : 60 < r) : zm_u (zmx a b) r j v = zmx a (zm_u b r j v) := by
  funext x y
  unfold zmx zm_u
  by_cases c : x = r ∧ y = j
  · rw [if_pos c, if_neg (by omega), if_pos c]
  · rw [if_neg c, if_neg c]
theorem zmx_m {a b c : zm_D} : zmx a (zmx b c) = zmx a c := by
  funext r j
  unfold zmx
  split <;> rfl
theorem zmx_n {a b c : zm_D} : zmx (zmx a b) c = zmx a c := by
  funext r j
  unfold zmx
  split <;> rfl
/-- what leaves the others' cells alone -/
theorem zmx_c {a e : zm_D} (h : ∀ r j : Int, 60 < r → a r j = e r j) : a = zmx a e := by
  funext r j
  unfold zmx
  split
  · rfl
  · exact h r j (by omega)
theorem zmx_d {a e : zm_D} (h : ∀ r j : Int, r ≤ 60 → a r j = e r j) : a = zmx e a := by
  funext r j
  unfold zmx
  split
  · exact h r j (by omega)
  · rfl
theorem zmx_pg1 {a b : zm_D} {k : Int} (hk : 0 ≤ k ∧ k < 8) : zpg1 (zmx a b) k = zmx (zpg1 a k) b := by
  unfold zpg1
  simp (disch := omega) only [zmx_l, zmx_ul]
theorem zmx_pgs {a b : zm_D} : ∀ k : Nat, k ≤ 8 → zpgs (zmx a b) k = zmx (zpgs a k) b := by
  intro k
  induction k with
  | zero => intro _; rfl
  | succ k ih =>
    intro h
    show zpg1 (zpgs (zmx a b) k) (k : Int) = _
    rw [ih (by omega), zmx_pg1 (by omega)]
    rfl
theorem zmx_pgd {a b : zm_D} : zpgd (zmx a b) = zmx (zpgd a) b := by
  unfold zpgd
  rw [zmx_l (by decide), zmx_ul (by decide), zmx_pgs 8 (by decide)]
theorem zmx_mg1 {a b : zm_D} {k : Int} (hk : 0 ≤ k ∧ k < 8) : zmg1 (zmx a b) k = zmx a (zmg1 b k) := by
  unfold zmg1
  simp (disch := omega) only [zmx_h, zmx_uh]
theorem zmx_mgs {a b : zm_D} : ∀ k : Nat, k ≤ 8 → zmgs (zmx a b) k = zmx a (zmgs b k) := by
  intro k
  induction k with
  | zero => intro _; rfl
  | succ k ih =>
    intro h
    show zmg1 (zmgs (zmx a b) k) (k : Int) = _
    rw [ih (by omega), zmx_mg1 (by omega)]
    rfl
theorem zmx_mgd {a b : zm_D} (h : b 61 31 ≤ 8) : zmgd (zmx a b) = zmx a (zmgd b) := by
  unfold zmgd
  rw [zmx_h (by decide), zmx_uh (by decide), zmx_h (by decide), zmx_mgs _ (by omega)]
theorem zmx_mpn {a b : zm_D} (H : zMp b) : ∀ k : Nat, zmpn (zmx a b) k = zmx a (zmpn b k) := by
  intro k
  induction k with
  | zero => rfl
  | succ k ih =>
    show zmgd (zmpn (zmx a b) k) = _
    have f := zmpn_f H k
    rw [ih, zmx_mgd (by rw [f.2.2]; exact H.1.2)]
    rfl
theorem zmx_pgn {a b : zm_D} : ∀ k : Nat, zpgn (zmx a b) k = zmx (zpgn a k) b := by
  intro k
  induction k with
  | zero => rfl
  | succ k ih =>
    show zpgd (zpgn (zmx a b) k) = _
    rw [ih, zmx_pgd]
    rfl
/-- days of both -/
def zdy (e : zm_D) : Nat → zm_D
  | 0 => e
  | k + 1 => zmgd (zpgd (zdy e k))
theorem zdy_x {e : zm_D} (H : zMp e) : ∀ k : Nat, zdy e k = zmx (zpgn e k) (zmpn e k) := by
  intro k
  induction k with
  | zero => exact (zmx_i e).symm
  | succ k ih =>
    have f := zmpn_f H k
    show zmgd (zpgd (zdy e k)) = _
    rw [ih, zmx_pgd, zmx_mgd (by rw [f.2.2]; exact H.1.2)]
    rfl
/-- one day, cell by cell: the class -/
theorem zpg1_g {d : zm_D} {k i j : Int} : zpg1 d k (15 + 2 * i) j = if i = k ∧ j = 3 then d (15 + 2 * k) 4 else if i = k ∧ (j = 5 ∨ j = 7) then 0 else d (15 + 2 * i) j := by
  by_cases q : i = k
  · subst q
    by_cases q3 : j = 3
    · subst q3
      rw [if_pos ⟨rfl, rfl⟩]
      unfold zpg1
      simp (disch := omega) only [zm_un, zm_ue]
    · rw [if_neg (fun z => q3 z.2)]
      by_cases q5 : j = 5 ∨ j = 7
      · rw [if_pos ⟨rfl, q5⟩]
        unfold zpg1
        rcases q5 with q5 | q5
        all_goals subst q5
        all_goals simp (disch := omega) only [zm_un, zm_ue]
      · rw [if_neg (fun z => q5 z.2)]
        unfold zpg1
        simp (disch := omega) only [zm_un]
  · rw [if_neg (fun z => q z.1), if_neg (fun z => q z.1)]
    unfold zpg1
    simp (disch := omega) only [zm_un]

theorem zpgs_g {d : zm_D} {i j : Int} : ∀ k : Nat, zpgs d k (15 + 2 * i) j = if (0 ≤ i ∧ i < (k : Int)) ∧ j = 3 then d (15 + 2 * i) 4 else if (0 ≤ i ∧ i < (k : Int)) ∧ (j = 5 ∨ j = 7) then 0 else d (15 + 2 * i) j := by
  intro k
  induction k generalizing j with
  | zero =>
    rw [if_neg (by omega), if_neg (by omega)]
    rfl
  | succ k ih =>
    show zpg1 (zpgs d k) (k : Int) (15 + 2 * i) j = _
    rw [zpg1_g]
    by_cases q : i = (k : Int)
    · by_cases q3 : j = 3
      · rw [if_pos ⟨q, q3⟩, if_pos ⟨by omega, q3⟩, ← q, ih, if_neg (by omega), if_neg (by omega)]
      · rw [if_neg (fun z => q3 z.2)]
        by_cases q5 : j = 5 ∨ j = 7
        · rw [if_pos ⟨q, q5⟩, if_neg (fun z => q3 z.2), if_pos ⟨by omega, q5⟩]
        · rw [if_neg (fun z => q5 z.2), ih, if_neg (fun z => q3 z.2), if_neg (fun z => q5 z.2), if_neg (fun z => q3 z.2), if_neg (fun z => q5 z.2)]
    · rw [if_neg (fun z => q z.1), if_neg (fun z => q z.1), ih]
      by_cases p : 0 ≤ i ∧ i < (k : Int)
      · by_cases q3 : j = 3
        · rw [if_pos ⟨p, q3⟩, if_pos ⟨by omega, q3⟩]
        · rw [if_neg (fun z => q3 z.2)]
          by_cases q5 : j = 5 ∨ j = 7
          · rw [if_pos ⟨p, q5⟩, if_neg (fun z => q3 z.2), if_pos ⟨by omega, q5⟩]
          · rw [if_neg (fun z => q5 z.2), if_neg (fun z => q3 z.2), if_neg (fun z => q5 z.2)]
      · have p2 : ¬ (0 ≤ i ∧ i < ((k + 1 : Nat) : Int)) := by omega
        rw [if_neg (fun z => p z.1), if_neg (fun z => p z.1), if_neg (fun z => p2 z.1), if_neg (fun z => p2 z.1)]
theorem zpg1_z {d : zm_D} {k i j : Int} : zpg1 d k (16 + 2 * i) j = if i = k ∧ j = d 1 10 % 4 then 0 else (if 16 + 2 * i = 12 ∧ j = 4 then d 12 4 + d (16 + 2 * k) (d 1 10 % 4) else d (16 + 2 * i) j) := by
  unfold zpg1
  by_cases q : 16 + 2 * i = 12 ∧ j = 4
  · rw [if_pos q, if_neg (by omega), zm_ue (by omega) (by omega)]
  · rw [if_neg q, zm_un (by omega)]
    by_cases p : i = k ∧ j = d 1 10 % 4
    · rw [if_pos p, zm_ue (by omega) (by omega)]
    · rw [if_neg p]
      simp (disch := omega) only [zm_un]
theorem zpgs_z {d : zm_D} {i j : Int} (hi : 0 ≤ i) : ∀ k : Nat, k ≤ 8 → zpgs d k (16 + 2 * i) j = if i < (k : Int) ∧ j = d 1 10 % 4 then 0 else d (16 + 2 * i) j := by
  intro k
  induction k with
  | zero =>
    intro _
    rw [if_neg (by omega)]
    rfl
  | succ k ih =>
    intro hk
    show zpg1 (zpgs d k) (k : Int) (16 + 2 * i) j = _
    rw [zpg1_z, if_neg (show ¬ (16 + 2 * i = 12 ∧ j = 4) by omega), ih (by omega), zpgs_o (a := 1) (by omega) (by omega) k (by omega)]
    by_cases q : j = d 1 10 % 4
    · by_cases p : i = (k : Int)
      · rw [if_pos ⟨p, q⟩, if_pos ⟨by omega, q⟩]
      · rw [if_neg (fun z => p z.1)]
        by_cases p2 : i < (k : Int)
        · rw [if_pos ⟨p2, q⟩, if_pos ⟨by omega, q⟩]
        · rw [if_neg (fun z => p2 z.1), if_neg (by omega)]
    · rw [if_neg (fun z => q z.2), if_neg (fun z => q z.2), if_neg (fun z => q z.2)]
theorem zpgs_p {d : zm_D} : ∀ k : Nat, k < 8 → zpgs d (k + 1) 12 4 = zpgs d k 12 4 + d (16 + 2 * (k : Int)) (d 1 10 % 4) := by
  intro k hk
  show zpg1 (zpgs d k) (k : Int) 12 4 = _
  unfold zpg1
  rw [zm_ue rfl rfl, zpgs_o (a := 1) (by omega) (by omega) k (by omega), zpgs_z (by omega) k (by omega), if_neg (by omega)]
theorem zpgs_b {d : zm_D} : ∀ k : Nat, k ≤ 8 → zpgs d k 12 4 + zpp (zpgs d k) = d 12 4 + zpp d := by
  intro k
  induction k with
  | zero => intro _; rfl
  | succ k ih =>
    intro hk
    rw [← ih (by omega), zpp_at (e := zpgs d k) (d := zpgs d (k + 1)) (x := (k : Int)) (by omega) (fun i h1 h2 q => ?_), zpgs_p k (by omega)]
    · have m := Int.emod_nonneg (d 1 10) (show (4 : Int) ≠ 0 by decide)
      have m2 := Int.emod_lt_of_pos (d 1 10) (show (0 : Int) < 4 by decide)
      unfold zsp4
      rw [zpgs_z (by omega) (k + 1) hk, zpgs_z (by omega) (k + 1) hk, zpgs_z (by omega) (k + 1) hk, zpgs_z (by omega) (k + 1) hk, zpgs_z (by omega) k (by omega), zpgs_z (by omega) k (by omega), zpgs_z (by omega) k (by omega), zpgs_z (by omega) k (by omega)]
      generalize d 1 10 % 4 = y at m m2 ⊢
      rw [if_neg (show ¬ ((k : Int) < (k : Int) ∧ 0 = y) by omega), if_neg (show ¬ ((k : Int) < (k : Int) ∧ 1 = y) by omega), if_neg (show ¬ ((k : Int) < (k : Int) ∧ 2 = y) by omega), if_neg (show ¬ ((k : Int) < (k : Int) ∧ 3 = y) by omega)]
      rcases (by omega : y = 0 ∨ y = 1 ∨ y = 2 ∨ y = 3) with z | z | z | z
      all_goals subst z
      all_goals simp only [show (k : Int) < ((k + 1 : Nat) : Int) by omega, true_and, if_true, Int.reduceEq, if_false]
      all_goals omega
    · unfold zsp4
      have g : ∀ j, zpgs d (k + 1) (16 + 2 * i) j = zpgs d k (16 + 2 * i) j := fun j => by
        rw [zpgs_z h1 (k + 1) hk, zpgs_z h1 k (by omega)]
        by_cases q2 : j = d 1 10 % 4
        · by_cases p : i < (k : Int)
          · rw [if_pos ⟨by omega, q2⟩, if_pos ⟨p, q2⟩]
          · rw [if_neg (by omega), if_neg (by omega)]
        · rw [if_neg (fun z => q2 z.2), if_neg (fun z => q2 z.2)]
      rw [g, g, g, g]
/-- the reference -/
theorem zmgs_g {d : zm_D} {r i : Int} (hr : r = 64 ∨ r = 65) : ∀ k : Nat, k ≤ 8 → zmgs d k r i = if 0 ≤ i ∧ i < (k : Int) then 0 else d r i := by
  intro k
  induction k with
  | zero =>
    intro _
    rw [if_neg (by omega)]
    rfl
  | succ k ih =>
    intro hk
    show zmg1 (zmgs d k) (k : Int) r i = _
    unfold zmg1
    by_cases q : i = (k : Int)
    · rw [if_pos (show 0 ≤ i ∧ i < ((k + 1 : Nat) : Int) by omega)]
      rcases hr with z | z
      all_goals subst z
      all_goals simp (disch := omega) only [zm_un, zm_ue]
    · have e1 : (if 0 ≤ i ∧ i < ((k + 1 : Nat) : Int) then (0 : Int) else d r i) = if 0 ≤ i ∧ i < (k : Int) then 0 else d r i := by
        by_cases p : 0 ≤ i ∧ i < (k : Int)
        · rw [if_pos (by omega), if_pos p]
        · rw [if_neg (by omega), if_neg p]
      rw [e1, ← ih (by omega)]
      simp (disch := omega) only [zm_un]
theorem zmgs_w8 {d : zm_D} {i : Int} : ∀ k : Nat, k ≤ 8 → zmgs d k 68 i = if 0 ≤ i ∧ i < (k : Int) then -1 else d 68 i := by
  intro k
  induction k with
  | zero =>
    intro _
    rw [if_neg (by omega)]
    rfl
  | succ k ih =>
    intro hk
    show zmg1 (zmgs d k) (k : Int) 68 i = _
    unfold zmg1
    by_cases q : i = (k : Int)
    · rw [if_pos (show 0 ≤ i ∧ i < ((k + 1 : Nat) : Int) by omega)]
      simp (disch := omega) only [zm_un, zm_ue]
    · have e1 : (if 0 ≤ i ∧ i < ((k + 1 : Nat) : Int) then (-1 : Int) else d 68 i) = if 0 ≤ i ∧ i < (k : Int) then -1 else d 68 i := by
        by_cases p : 0 ≤ i ∧ i < (k : Int)
        · rw [if_pos (by omega), if_pos p]
        · rw [if_neg (by omega), if_neg p]
      rw [e1, ← ih (by omega)]
      simp (disch := omega) only [zm_un]
theorem zmgs_l {d : zm_D} {i : Int} : ∀ k : Nat, k ≤ 8 → zmgs d k 67 i = if 0 ≤ i ∧ i < (k : Int) then (if d 68 i < 0 then d 67 i else d 68 i) else d 67 i := by
  intro k
  induction k with
  | zero =>
    intro _
    rw [if_neg (by omega)]
    rfl
  | succ k ih =>
    intro hk
    show zmg1 (zmgs d k) (k : Int) 67 i = _
    unfold zmg1
    by_cases q : i = (k : Int)
    · rw [if_pos (show 0 ≤ i ∧ i < ((k + 1 : Nat) : Int) by omega)]
      have w := zmgs_w8 (d := d) (i := i) k (by omega)
      rw [if_neg (by omega)] at w
      have l := ih (by omega)
      rw [if_neg (by omega)] at l
      rw [← q]
      simp (disch := omega) only [zm_un, zm_ue]
      rw [w, l]
    · have e1 : (if 0 ≤ i ∧ i < ((k + 1 : Nat) : Int) then (if d 68 i < 0 then d 67 i else d 68 i) else d 67 i) = if 0 ≤ i ∧ i < (k : Int) then (if d 68 i < 0 then d 67 i else d 68 i) else d 67 i := by
        by_cases p : 0 ≤ i ∧ i < (k : Int)
        · rw [if_pos (by omega), if_pos p]
        · rw [if_neg (by omega), if_neg p]
      rw [e1, ← ih (by omega)]
      simp (disch := omega) only [zm_un]
theorem zmgs_z {d : zm_D} {i j : Int} (hi : 0 ≤ i ∧ i < 8) : ∀ k : Nat, k ≤ 8 → zmgs d k (152 + i) j = if i < (k : Int) ∧ j = d 61 33 % 4 then 0 else d (152 + i) j := by
  intro k
  induction k with
  | zero =>
    intro _
    rw [if_neg (by omega)]
    rfl
  | succ k ih =>
    intro hk
    show zmg1 (zmgs d k) (k : Int) (152 + i) j = _
    unfold zmg1
    rw [zmgs_o (a := 61) (j := 33) (by decide) (by decide) (by decide) (by decide) (by decide) (by decide) k (by omega)]
    by_cases q : i = (k : Int) ∧ j = d 61 33 % 4
    · rw [if_pos (show i < ((k + 1 : Nat) : Int) ∧ j = d 61 33 % 4 by omega), zm_ue (by omega) (by omega)]
    · have e1 : (if i < ((k + 1 : Nat) : Int) ∧ j = d 61 33 % 4 then 0 else d (152 + i) j) = if i < (k : Int) ∧ j = d 61 33 % 4 then 0 else d (152 + i) j := by
        by_cases p : i < (k : Int) ∧ j = d 61 33 % 4
        · rw [if_pos (by omega), if_pos p]
        · rw [if_neg (by omega), if_neg p]
      rw [e1, ← ih (by omega)]
      simp (disch := omega) only [zm_un]
theorem zmgs_s {d : zm_D} : ∀ k : Nat, k < 8 → zmgs d (k + 1) 61 48 = zmgs d k 61 48 + d (152 + (k : Int)) (d 61 33 % 4) := by
  intro k hk
  show zmg1 (zmgs d k) (k : Int) 61 48 = _
  unfold zmg1
  rw [zm_un (by omega), zm_ue rfl rfl, zmgs_o (a := 61) (j := 33) (by decide) (by decide) (by decide) (by decide) (by decide) (by decide) k (by omega), zmgs_z (by omega) k (by omega), if_neg (by omega)]
/-- what a day keeps -/
def zDy (t : Int) (d : zm_D) : Prop := zIg t d ∧ zIp0 t d ∧ zIz t d ∧ zRg d ∧ zRh d ∧ (0 ≤ d 1 9 ∧ d 1 9 ≤ 8) ∧ 0 ≤ d 1 10 ∧ (d 61 31 = d 1 9 ∧ d 61 33 = d 1 10 ∧ d 61 48 = d 12 4)
theorem zmpd_p {d : zm_D} (h1 : d 61 48 = d 12 4) (h2 : d 61 33 = d 1 10) (hz : ∀ i : Int, 0 ≤ i → i < 8 → ∀ k : Int, 0 ≤ k → k < 4 → d (152 + i) k = d (16 + 2 * i) k) : ∀ k : Nat, k ≤ 8 → zmgs d k 61 48 = zpgs d k 12 4 := by
  intro k
  induction k with
  | zero => intro _; exact h1
  | succ k ih =>
    intro hk
    have m := Int.emod_nonneg (d 1 10) (show (4 : Int) ≠ 0 by decide)
    have m2 := Int.emod_lt_of_pos (d 1 10) (show (0 : Int) < 4 by decide)
    rw [zmgs_s k (by omega), zpgs_p k (by omega), ih (by omega), h2, hz _ (by omega) (by omega) _ m m2]
theorem zpgs_q {d : zm_D} {c : Nat} (hz : ∀ i : Int, (c : Int) ≤ i → i < 8 → d (16 + 2 * i) (d 1 10 % 4) = 0) : ∀ k : Nat, c + k ≤ 8 → zpgs d (c + k) 12 4 = zpgs d c 12 4 := by
  intro k
  induction k with
  | zero => intro _; rfl
  | succ k ih =>
    intro hk
    rw [show c + (k + 1) = (c + k) + 1 by omega, zpgs_p (c + k) (by omega), ih (by omega), hz _ (by omega) (by omega)]
    omega
theorem zDy_1 {t : Int} {d : zm_D} (H : zDy t d) : zDy t (zmgd (zpgd d)) ∧ zmgd (zpgd d) 1 10 = d 1 10 + 1 := by
  obtain ⟨ig, ip, iz, rg, rh, h9, h10, r31, r33, r48⟩ := H
  obtain ⟨d1, hd1⟩ : ∃ d1, zm_u (zm_u d 1 10 (d 1 10 + 1)) 61 33 (d 61 33 + 1) = d1 := ⟨_, rfl⟩
  obtain ⟨c, hc⟩ : ∃ c : Nat, d 1 9 = (c : Int) := ⟨(d 1 9).toNat, by omega⟩
  have c8 : c ≤ 8 := by omega
  have hx : zmgd (zpgd d) = zmx (zpgs d1 8) (zmgs d1 c) := by
    have q1 : zpgd d = zmx (zpgd d) d := zmx_c (fun r j h => by unfold zpgd; rw [zpgs_o (by omega) (by omega) 8 (by decide), zm_un (by omega)])
    have q2 : zpgs d1 8 = zmx (zpgd d) d1 := by
      have q3 : d1 = zmx (zm_u d 1 10 (d 1 10 + 1)) d1 := zmx_d (fun r j h => by rw [← hd1, zm_un (by omega)])
      have q6 := zmx_pgs (a := zm_u d 1 10 (d 1 10 + 1)) (b := d1) 8 (by decide)
      rw [← q3] at q6
      exact q6
    have q4 : zmgs d1 c = zmx d1 (zmgd d) := by
      have q5 : d1 = zmx d1 (zm_u d 61 33 (d 61 33 + 1)) := zmx_c (fun r j h => by
        rw [← hd1]
        by_cases p : r = 61 ∧ j = 33
        · rw [zm_ue p.1 p.2, zm_ue p.1 p.2]
        · rw [zm_un (by omega), zm_un (by omega), zm_un (by omega)])
      have q7 := zmx_mgs (a := d1) (b := zm_u d 61 33 (d 61 33 + 1)) c c8
      rw [← q5] at q7
      have q8 : zmgd d = zmgs (zm_u d 61 33 (d 61 33 + 1)) c := by
        unfold zmgd
        rw [show (d 61 31).toNat = c by omega]
      rw [q8]
      exact q7
    rw [q1, zmx_mgd (by omega), q2, q4, zmx_n, zmx_m]
  have a10 : d1 1 10 = d 1 10 + 1 := by rw [← hd1]; simp (disch := omega) only [zm_un, zm_ue]
  have a33 : d1 61 33 = d1 1 10 := by rw [← hd1]; simp (disch := omega) only [zm_un, zm_ue]; omega
  have ar : ∀ r j : Int, (r ≠ 1 ∨ j ≠ 10) → (r ≠ 61 ∨ j ≠ 33) → d1 r j = d r j := fun r j p1 p2 => by rw [← hd1, zm_un (by omega), zm_un (by omega)]
  clear hd1
  rw [hx]
  have m := Int.emod_nonneg (d1 1 10) (show (4 : Int) ≠ 0 by decide)
  have m2 := Int.emod_lt_of_pos (d1 1 10) (show (0 : Int) < 4 by decide)
  have LG : ∀ i j : Int, 0 ≤ i → i < 8 → zmx (zpgs d1 8) (zmgs d1 c) (15 + 2 * i) j = if j = 3 then d (15 + 2 * i) 4 else if j = 5 ∨ j = 7 then 0 else d (15 + 2 * i) j := fun i j p1 p2 => by
    rw [zmx_l (by omega), zpgs_g, ar (15 + 2 * i) 4 (by omega) (by omega), ar (15 + 2 * i) j (by omega) (by omega)]
    by_cases q3 : j = 3
    · rw [if_pos ⟨by omega, q3⟩, if_pos q3]
    · rw [if_neg (fun z => q3 z.2), if_neg q3]
      by_cases q5 : j = 5 ∨ j = 7
      · rw [if_pos ⟨by omega, q5⟩, if_pos q5]
      · rw [if_neg (fun z => q5 z.2), if_neg q5]
  have LZ : ∀ i j : Int, 0 ≤ i → i < 8 → zmx (zpgs d1 8) (zmgs d1 c) (16 + 2 * i) j = if j = d1 1 10 % 4 then 0 else d (16 + 2 * i) j := fun i j p1 p2 => by
    rw [zmx_l (by omega), zpgs_z p1 8 (by decide), ar (16 + 2 * i) j (by omega) (by omega)]
    by_cases q3 : j = d1 1 10 % 4
    · rw [if_pos ⟨by omega, q3⟩, if_pos q3]
    · rw [if_neg (fun z => q3 z.2), if_neg q3]
  have L9 : zmx (zpgs d1 8) (zmgs d1 c) 1 9 = d 1 9 := by
    rw [zmx_l (by decide), zpgs_o (by decide) (by decide) 8 (by decide), ar _ _ (by decide) (by decide)]
  have L10 : zmx (zpgs d1 8) (zmgs d1 c) 1 10 = d 1 10 + 1 := by
    rw [zmx_l (by decide), zpgs_o (by decide) (by decide) 8 (by decide), a10]
  have LP : zmx (zpgs d1 8) (zmgs d1 c) 12 4 = zpgs d1 8 12 4 := zmx_l (by decide)
  have LT : ∀ r j : Int, (r = 12 ∧ j ≠ 4 ∨ r = 13 ∨ r = 14 ∨ (34 ≤ r ∧ r ≤ 60)) → zmx (zpgs d1 8) (zmgs d1 c) r j = d r j := fun r j p => by
    rw [zmx_l (by omega), zpgs_o (by omega) (by omega) 8 (by decide), ar _ _ (by omega) (by omega)]
  have MO : ∀ a j : Int, 60 < a → (a ≠ 64 ∧ a ≠ 65 ∧ a ≠ 67 ∧ a ≠ 68) → (a ≠ 61 ∨ (j ≠ 48 ∧ j ≠ 33)) → (a < 152 ∨ 159 < a) → zmx (zpgs d1 8) (zmgs d1 c) a j = d a j := fun a j p0 p1 p2 p3 => by
    rw [zmx_h p0, zmgs_o p1.1 p1.2.1 p1.2.2.1 p1.2.2.2 (by omega) p3 c c8, ar _ _ (by omega) (by omega)]
  have M33 : zmx (zpgs d1 8) (zmgs d1 c) 61 33 = d 1 10 + 1 := by
    rw [zmx_h (by decide), zmgs_o (by decide) (by decide) (by decide) (by decide) (by decide) (by decide) c c8, a33, a10]
  have M48 : zmx (zpgs d1 8) (zmgs d1 c) 61 48 = zpgs d1 8 12 4 := by
    rw [zmx_h (by decide), zmpd_p (by rw [ar 61 48 (by decide) (by decide), ar 12 4 (by decide) (by decide)]; exact r48) a33 (fun i p1 p2 k p3 p4 => by
      rw [ar (152 + i) k (by omega) (by omega), ar (16 + 2 * i) k (by omega) (by omega)]
      exact (rg i p1 p2).2.2.1 k p3 p4) c c8, show (8 : Nat) = c + (8 - c) by omega]
    refine (zpgs_q (fun i p1 p2 => ?_) (8 - c) (by omega)).symm
    rw [ar (16 + 2 * i) (d1 1 10 % 4) (by omega) (by omega)]
    have f := iz.2.1 i (by omega) (by omega) p2
    rcases (by omega : d1 1 10 % 4 = 0 ∨ d1 1 10 % 4 = 1 ∨ d1 1 10 % 4 = 2 ∨ d1 1 10 % 4 = 3) with z | z | z | z
    all_goals rw [z]
    · exact f.2.2.1
    · exact f.2.2.2.1
    · exact f.2.2.2.2.1
    · exact f.2.2.2.2.2
  have MG : ∀ r i : Int, 0 ≤ i → i < 8 → (r = 64 ∨ r = 65) → zmx (zpgs d1 8) (zmgs d1 c) r i = if i < d 1 9 then 0 else d r i := fun r i p1 p2 p3 => by
    rw [zmx_h (by omega), zmgs_g p3 c c8, ar r i (by omega) (by omega), hc]
    by_cases q : i < (c : Int)
    · rw [if_pos ⟨p1, q⟩, if_pos q]
    · rw [if_neg (fun z => q z.2), if_neg q]
  have MZ : ∀ i j : Int, 0 ≤ i → i < 8 → zmx (zpgs d1 8) (zmgs d1 c) (152 + i) j = if i < d 1 9 ∧ j = d1 1 10 % 4 then 0 else d (152 + i) j := fun i j p1 p2 => by
    rw [zmx_h (by omega), zmgs_z ⟨p1, p2⟩ c c8, ar (152 + i) j (by omega) (by omega), a33, hc]
  have ML : ∀ i : Int, 0 ≤ i → i < d 1 9 → zmx (zpgs d1 8) (zmgs d1 c) 67 i = if d 68 i < 0 then d 67 i else d 68 i := fun i p1 p2 => by
    rw [zmx_h (by decide), zmgs_l c c8, if_pos (by omega), ar 68 i (by omega) (by omega), ar 67 i (by omega) (by omega)]
  have MW : ∀ i : Int, 0 ≤ i → i < 8 → zmx (zpgs d1 8) (zmgs d1 c) 68 i = if i < d 1 9 then -1 else d 68 i := fun i p1 p2 => by
    rw [zmx_h (by decide), zmgs_w8 c c8, ar 68 i (by omega) (by omega), hc]
    by_cases q : i < (c : Int)
    · rw [if_pos ⟨p1, q⟩, if_pos q]
    · rw [if_neg (fun z => q z.2), if_neg q]
  have SB := zpgs_b (d := d1) 8 (by decide)
  have SE : zpp (zmx (zpgs d1 8) (zmgs d1 c)) = zpp (zpgs d1 8) := zpp_e (fun i p1 p2 => by
    unfold zsp4
    rw [zmx_l (by omega), zmx_l (by omega), zmx_l (by omega), zmx_l (by omega)])
  have SD : zpp d1 = zpp d := zpp_e (fun i p1 p2 => by
    unfold zsp4
    rw [ar _ _ (by omega) (by omega), ar _ _ (by omega) (by omega), ar _ _ (by omega) (by omega), ar _ _ (by omega) (by omega)])
  have e12 : d1 12 4 = d 12 4 := ar _ _ (by decide) (by decide)
  have zs0 : 0 ≤ zpp (zmx (zpgs d1 8) (zmgs d1 c)) ∧ ∀ i : Int, 0 ≤ i → i < 8 → zsp4 (zmx (zpgs d1 8) (zmgs d1 c)) i ≤ zsp4 d i := by
    have g : ∀ i : Int, 0 ≤ i → i < 8 → 0 ≤ zsp4 (zmx (zpgs d1 8) (zmgs d1 c)) i ∧ zsp4 (zmx (zpgs d1 8) (zmgs d1 c)) i ≤ zsp4 d i := fun i p1 p2 => by
      have f := (ip.2 i p1 p2).1
      unfold zsp4
      rw [LZ i 0 p1 p2, LZ i 1 p1 p2, LZ i 2 p1 p2, LZ i 3 p1 p2]
      generalize d1 1 10 % 4 = y at m m2 ⊢
      clear LG LZ L9 L10 LP LT MO M33 M48 MG MZ ML MW SB SE SD hx
      rcases (by omega : y = 0 ∨ y = 1 ∨ y = 2 ∨ y = 3) with z | z | z | z
      all_goals subst z
      all_goals simp only [if_true, Int.reduceEq, if_false]
      all_goals omega
    refine ⟨?_, fun i p1 p2 => (g i p1 p2).2⟩
    have g0 := g 0 (by decide) (by decide)
    have g1 := g 1 (by decide) (by decide)
    have g2 := g 2 (by decide) (by decide)
    have g3 := g 3 (by decide) (by decide)
    have g4 := g 4 (by decide) (by decide)
    have g5 := g 5 (by decide) (by decide)
    have g6 := g 6 (by decide) (by decide)
    have g7 := g 7 (by decide) (by decide)
    unfold zpp
    omega
  have PN : 0 ≤ zpgs d1 8 12 4 := by
    have g : ∀ k : Nat, k ≤ 8 → 0 ≤ zpgs d1 k 12 4 := by
      intro k
      induction k with
      | zero =>
        intro _
        show 0 ≤ d1 12 4
        rw [e12]
        exact ip.1.1
      | succ k ih =>
        intro hk
        rw [zpgs_p k (by omega), ar (16 + 2 * (k : Int)) _ (by omega) (by omega)]
        have f := (ip.2 (k : Int) (by omega) (by omega)).1
        have i1 := ih (by omega)
        rcases (by omega : d1 1 10 % 4 = 0 ∨ d1 1 10 % 4 = 1 ∨ d1 1 10 % 4 = 2 ∨ d1 1 10 % 4 = 3) with z | z | z | z
        all_goals rw [z]
        all_goals omega
    exact g 8 (by decide)
  generalize zmx (zpgs d1 8) (zmgs d1 c) = D at LG LZ L9 L10 LP LT MO M33 M48 MG MZ ML MW SE zs0 ⊢
  clear hx
  refine ⟨⟨?_, ?_, ?_, ?_, ?_, by omega, by omega, ?_⟩, L10⟩
  · intro i hi
    have a := ig i hi
    have l := fun j => LG i j hi.1 hi.2
    rw [l, l, l, l, l, l, l, l, l, l, l]
    simp only [Int.reduceEq, if_false, if_true, or_self, or_false, false_or, true_or, or_true]
    omega
  · obtain ⟨p1, p2⟩ := ip
    refine ⟨⟨by omega, ?_⟩, fun i q1 q2 => ?_⟩
    · have z1 := iz.1
      omega
    · have a := p2 i q1 q2
      have b := zs0.2 i q1 q2
      have l := fun j => LZ i j q1 q2
      have g2 := LG i 2 q1 q2
      rw [if_neg (by decide), if_neg (by decide)] at g2
      refine ⟨?_, ?_⟩
      · rw [l, l, l, l]
        refine ⟨?_, ?_, ?_, ?_⟩ <;> split <;> omega
      · unfold zsp4 at b
        rw [g2]
        omega
  · obtain ⟨z1, z2, z3, z4, z5⟩ := iz
    refine ⟨by omega, fun i q0 q1 q2 => ?_, fun k q1 q2 => ?_, fun s q1 q2 => ?_, fun p => ?_⟩
    · have f := z2 i (by omega) q1 q2
      have l := fun j => LZ i j q1 q2
      have g := fun j => LG i j q1 q2
      refine ⟨by rw [g, if_neg (by decide), if_pos (by decide)], by rw [g, if_neg (by decide), if_pos (by decide)], ?_, ?_, ?_, ?_⟩
      all_goals rw [l]
      all_goals split
      all_goals omega
    · rw [LT 12 2 (by omega)] at q2
      rw [LT 13 k (by omega), L9]
      exact z3 k q1 q2
    · rw [LT (38 + 5 * s) 2 (by omega), L9]
      exact z4 s q1 q2
    · rw [LT 34 4 (by omega)] at p
      exact zNn_e (z5 p) (fun j _ _ => LT 36 j (by omega)) (fun r j _ _ => LT r j (by omega))
  · intro i q1 q2
    obtain ⟨a1, a2, a3, a4⟩ := rg i q1 q2
    have g := fun j => LG i j q1 q2
    have z5 := iz.2.1 i
    refine ⟨?_, ?_, fun k q3 q4 => ?_, ?_⟩
    · refine ⟨by rw [MO 62 i (by omega) (by omega) (by omega) (by omega), g, if_neg (by decide), if_neg (by decide)]; exact a1.1, by rw [MO 63 i (by omega) (by omega) (by omega) (by omega), g, if_neg (by decide), if_neg (by decide)]; exact a1.2.1, ?_, ?_, by rw [MO 66 i (by omega) (by omega) (by omega) (by omega), g, if_neg (by decide), if_neg (by decide)]; exact a1.2.2.2.2.1, by rw [MO 69 i (by omega) (by omega) (by omega) (by omega), g, if_neg (by decide), if_neg (by decide)]; exact a1.2.2.2.2.2⟩
      · rw [MG 64 i q1 q2 (by omega), g, if_neg (show ¬ ((5 : Int) = 3) by decide), if_pos (show (5 : Int) = 5 ∨ (5 : Int) = 7 by decide)]
        split
        · rfl
        · have z6 := z5 (by omega) q1 q2
          omega
      · rw [MG 65 i q1 q2 (by omega), g, if_neg (show ¬ ((7 : Int) = 3) by decide), if_pos (show (7 : Int) = 5 ∨ (7 : Int) = 7 by decide)]
        split
        · rfl
        · have z6 := z5 (by omega) q1 q2
          omega
    · rw [MO (71 + i) 0 (by omega) (by omega) (by omega) (by omega), MO (71 + i) 1 (by omega) (by omega) (by omega) (by omega), MO (80 + i) 0 (by omega) (by omega) (by omega) (by omega), MO (80 + i) 1 (by omega) (by omega) (by omega) (by omega), g, g, g, g]
      simp only [Int.reduceEq, if_false, or_self]
      exact a2
    · rw [MZ i k q1 q2, LZ i k q1 q2]
      by_cases p : k = d1 1 10 % 4
      · by_cases p2 : i < d 1 9
        · rw [if_pos ⟨p2, p⟩, if_pos p]
        · rw [if_neg (fun z => p2 z.1), if_pos p, a3 k q3 q4]
          have f := z5 (by omega) q1 q2
          rcases (by omega : k = 0 ∨ k = 1 ∨ k = 2 ∨ k = 3) with z | z | z | z
          all_goals rw [z]
          all_goals omega
      · rw [if_neg (fun z => p z.2), if_neg p]
        exact a3 k q3 q4
    · rw [MW i q1 q2]
      split
      · decide
      · exact a4
  · intro i q1 q2
    have a := rh i q1 q2
    have g := fun j => LG i j q1 q2
    have g3 := g 3
    have g4 := g 4
    rw [if_pos rfl] at g3
    rw [if_neg (by decide), if_neg (by decide)] at g4
    rw [L9, g3, g4]
    refine ⟨fun p => ?_, fun p => ?_⟩
    · have b := a.1 p
      rw [ML i q1 p, MW i q1 q2, if_pos p]
      split
      · exact ⟨by omega, .inl ⟨rfl, rfl⟩⟩
      · exact ⟨by omega, .inl ⟨rfl, rfl⟩⟩
    · have b := a.2 p
      omega
  · rw [M48, LP, M33, L10, L9, MO 61 31 (by decide) (by decide) (by decide) (by decide)]
    exact ⟨r31, rfl, rfl⟩
/-- cells that a day leaves alone -/
theorem zdy_o {d : zm_D} (h31 : 0 ≤ d 61 31 ∧ d 61 31 ≤ 8) {r j : Int} (h1 : (r ≠ 1 ∨ j ≠ 10) ∧ (r ≠ 12 ∨ j ≠ 4) ∧ (r < 15 ∨ 30 < r) ∧ r ≠ 64 ∧ r ≠ 65 ∧ r ≠ 67 ∧ r ≠ 68 ∧ (r ≠ 61 ∨ (j ≠ 33 ∧ j ≠ 48)) ∧ (r < 152 ∨ 159 < r)) : zmgd (zpgd d) r j = d r j := by
  have e : ∀ a k : Int, (a ≠ 1 ∨ k ≠ 10) → (a ≠ 12 ∨ k ≠ 4) → (a < 15 ∨ 30 < a) → zpgd d a k = d a k := fun a k p1 p2 p3 => by
    unfold zpgd
    rw [zpgs_o p3 p2 8 (by decide), zm_un (by omega)]
  unfold zmgd
  rw [e 61 31 (by omega) (by omega) (by omega), zmgs_o (by omega) (by omega) (by omega) (by omega) (by omega) (by omega) _ (by omega), zm_un (by omega), e r j (by omega) (by omega) (by omega)]
theorem zdy_f {t : Int} {d : zm_D} (H : zDy t d) : ∀ k : Nat, zDy t (zdy d k) ∧ zdy d k 1 10 = d 1 10 + (k : Int) ∧ ∀ r j : Int, ((r ≠ 1 ∨ j ≠ 10) ∧ (r ≠ 12 ∨ j ≠ 4) ∧ (r < 15 ∨ 30 < r) ∧ r ≠ 64 ∧ r ≠ 65 ∧ r ≠ 67 ∧ r ≠ 68 ∧ (r ≠ 61 ∨ (j ≠ 33 ∧ j ≠ 48)) ∧ (r < 152 ∨ 159 < r)) → zdy d k r j = d r j := by
  intro k
  induction k with
  | zero => exact ⟨H, (Int.add_zero _).symm, fun _ _ _ => rfl⟩
  | succ k ih =>
    obtain ⟨a, b, c⟩ := ih
    have f := zDy_1 a
    have g9 := a.2.2.2.2.2.1
    have g31 := a.2.2.2.2.2.2.2.1
    refine ⟨f.1, ?_, fun r j h => ?_⟩
    · show zmgd (zpgd (zdy d k)) 1 10 = _
      rw [f.2, b]
      omega
    · show zmgd (zpgd (zdy d k)) r j = _
      rw [zdy_o (by omega) h, c r j h]
theorem zP5 {S : zSs} {D n u : Nat} {g : Int → zk_K} {e : zm_D} {t : Int} {x : Int} (I : zIn t e) (J : zIp t e) (R : zRe e) (ht : t < 600) (hD : 40 ≤ D) (h_x : -2147483648 ≤ x ∧ x < 2147483648) : zE S D 334 [zv_a 1, zv_i x, zv_a 160] n (zSg g) (zDg e) u (zK1 S D t n u 224 [zv_a 61, zv_i x] zPi) := by
  obtain ⟨sp1, sp2, sp3⟩ := zRe_sp I R
  have r4 := R.2.2.2.2.2.1.1.2.2
  have c4 := I.2.2.2.2.2.2.1.2.2.1.1
  by_cases hx : x < 1 ∨ 30 < x
  · refine (zC123x I h_x hx hD).2 (zK1i (by omega) (by omega) (by omega) (by omega) (fun n2 u2 _ => (zX224x h_x hx (by omega)).2 (zK2i (by omega) (by omega) (by omega) (by omega) (zIn_e I ht (fun r j _ _ => by simp (disch := omega) only [zm_un])) (zIp_e J (fun r j _ _ => by simp (disch := omega) only [zm_un])) (zRe_e R (zIn_w I) (fun r j _ _ _ => by simp (disch := omega) only [zm_un])) ⟨1, 0, rfl, rfl, zm_us, fun q => absurd q (by decide), by decide⟩)))
  have hx : 1 ≤ x ∧ x ≤ 30 := by omega
  by_cases hf : e 34 4 = 1 ∨ zspn e = 1
  · refine (zC123r I hx hf hD).2 (zK1i (by omega) (by omega) (by omega) (by omega) (fun n2 u2 _ => (zX224r hx (by omega) (by omega) (by omega) (by rw [sp3]; omega) (by omega)).2 (zK2i (by omega) (by omega) (by omega) (by omega) (zIn_e I ht (fun r j _ _ => by simp (disch := omega) only [zm_un])) (zIp_e J (fun r j _ _ => by simp (disch := omega) only [zm_un])) (zRe_e R (zIn_w I) (fun r j _ _ _ => by simp (disch := omega) only [zm_un])) ⟨2, 0, rfl, rfl, zm_us, fun q => absurd q (by decide), by decide⟩)))
  have i9 := I.2.1.1
  have i10 := I.2.1.2
  have it := I.1
  have ra := R.1
  unfold zRa at ra
  have hv : zspn e = 0 := by
    rcases zspn_b e with z | z
    · exact z
    · exact absurd (.inr z) hf
  have M : zMp e := ⟨by omega, fun k q1 q2 => by have f := (R.2.1 k q1 q2).2.2.2; omega⟩
  have ME : zMp (zm_u (zm_u e 160 0 (zw (e 1 10 + x))) 61 49 0) := ⟨by simp (disch := omega) only [zm_un]; exact M.1, fun k q1 q2 => by simp (disch := omega) only [zm_un]; exact M.2 k q1 q2⟩
  obtain ⟨A, hA⟩ : ∃ A, zpgn e x.toNat = A := ⟨_, rfl⟩
  have AC : A = zmx A e := by
    have g := zmx_pgn (a := e) (b := e) x.toNat
    rw [zmx_i, hA] at g
    exact g
  have AE : zm_u (zm_u A 160 0 (zw (e 1 10 + x))) 61 49 0 = zmx A (zm_u (zm_u e 160 0 (zw (e 1 10 + x))) 61 49 0) := by
    rw [AC, zmx_uh (by decide), zmx_uh (by decide), zmx_n]
  have FE : zmpn (zmx A (zm_u (zm_u e 160 0 (zw (e 1 10 + x))) 61 49 0)) x.toNat = zdy (zm_u (zm_u e 160 0 (zw (e 1 10 + x))) 61 49 0) x.toNat := by
    rw [zmx_mpn ME, zdy_x ME]
    have g := zmx_pgn (a := e) (b := (zm_u (zm_u e 160 0 (zw (e 1 10 + x))) 61 49 0)) x.toNat
    rw [show zmx e (zm_u (zm_u e 160 0 (zw (e 1 10 + x))) 61 49 0) = (zm_u (zm_u e 160 0 (zw (e 1 10 + x))) 61 49 0) from (zmx_d (fun r j h => by simp (disch := omega) only [zm_un])).symm, hA] at g
    rw [g, zmx_n]
  have m4 : ∀ a k : Int, 60 < a → a ≠ 160 → zm_u A 160 0 (zw (e 1 10 + x)) a k = e a k := fun a k h1 h2 => by
    rw [zm_un (by omega), AC, zmx_h h1]
  refine (zC123 I hx (by omega) hv hD).2 (zK1i (by omega) (by omega) (by omega) (by omega) (fun n2 u2 _ => ?_))
  rw [hA]
  refine (zX224 hx (by rw [m4 _ _ (by decide) (by decide)]; omega) (by rw [m4 _ _ (by decide) (by decide)]; omega) (by rw [m4 _ _ (by decide) (by decide)]; omega) (by rw [zmsp_e (e := e) (m4 _ _ (by decide) (by decide)) (m4 _ _ (by decide) (by decide)), sp3]; exact hv) ⟨by rw [m4 _ _ (by decide) (by decide)]; exact M.1, fun k q1 q2 => by rw [m4 _ _ (by decide) (by decide)]; exact M.2 k q1 q2⟩ (by rw [m4 _ _ (by decide) (by decide)]; omega) (by omega)).2 ?_
  rw [AE, FE, m4 61 33 (by decide) (by decide)]
  clear AE FE m4 AC hA ME M
  have hw := zIn_w I
  have DE : zDy (t + 1) (zm_u (zm_u e 160 0 (zw (e 1 10 + x))) 61 49 0) := by
    refine ⟨zIg_e I.2.2.1 (fun i j _ _ => by simp (disch := omega) only [zm_un]), zIp0_e J.1 (fun r j _ _ => by simp (disch := omega) only [zm_un]), zIz_e J.2 (fun r j _ => by simp (disch := omega) only [zm_un]), zRg_e R.2.1 (fun r j _ => by simp (disch := omega) only [zm_un]), zRh_e R.2.2.1 (fun i j _ _ _ => by simp (disch := omega) only [zm_un]) (fun j => by simp (disch := omega) only [zm_un]) (fun j => by simp (disch := omega) only [zm_un]) (by simp (disch := omega) only [zm_un]), ?_, ?_, ?_⟩
    · simp (disch := omega) only [zm_un]
      exact i9
    · simp (disch := omega) only [zm_un]
      omega
    · simp (disch := omega) only [zm_un]
      omega
  obtain ⟨DD, d10, hd⟩ := zdy_f DE x.toNat
  generalize zdy (zm_u (zm_u e 160 0 (zw (e 1 10 + x))) 61 49 0) x.toNat = d at DD d10 hd ⊢
  clear DE
  have e10 : (zm_u (zm_u e 160 0 (zw (e 1 10 + x))) 61 49 0) 1 10 = e 1 10 := by simp (disch := omega) only [zm_un]
  rw [e10] at d10
  have x0 : ((x.toNat : Nat) : Int) = x := by omega
  rw [x0] at d10
  have pj := J
  obtain ⟨it, ia, ig, iv, itr, is, ic, iw, im, il⟩ := I
  obtain ⟨ra, rg, rh, rt, ru, rs, rd, rq, rv, rm, rl⟩ := R
  obtain ⟨D1, D2, D3, D4, D5, D6, D7, D8⟩ := DD
  have hz : ∀ r j : Int, ((r ≠ 1 ∨ j ≠ 10) ∧ (r ≠ 12 ∨ j ≠ 4) ∧ (r < 15 ∨ 30 < r) ∧ r ≠ 64 ∧ r ≠ 65 ∧ r ≠ 67 ∧ r ≠ 68 ∧ (r ≠ 61 ∨ (j ≠ 33 ∧ j ≠ 48)) ∧ (r < 152 ∨ 159 < r)) → r ≠ 160 → (r ≠ 61 ∨ j ≠ 49) → d r j = e r j := fun r j h1 h2 h3 => by
    rw [hd r j h1]
    simp (disch := omega) only [zm_un]
  have k19 := hz 1 9 (by decide) (by decide) (by decide)
  refine zK2i (by omega) (by omega) (by omega) (by omega) ⟨by omega, ?_, ?_, zIv_e iv (by rw [hd _ _ (by omega)]; simp (disch := omega) only [zm_un]), zIt_e itr (fun i _ _ => by rw [hd _ _ (by omega)]; simp (disch := omega) only [zm_un]), zIs_e is (fun r j _ => by rw [hd _ _ (by omega)]; simp (disch := omega) only [zm_un]), zIc_e ic (fun r j _ => by rw [hd _ _ (by omega)]; simp (disch := omega) only [zm_un]) (fun j _ _ => by rw [hd _ _ (by omega)]; simp (disch := omega) only [zm_un]) (by rw [hd _ _ (by omega)]; simp (disch := omega) only [zm_un]), zWh_e iw (fun r j _ _ => by rw [hd _ _ (by omega)]; simp (disch := omega) only [zm_un]), zIm_e im (fun r j _ => by rw [hd _ _ (by omega)]; simp (disch := omega) only [zm_un]), zIl_e il (fun j _ => by rw [hd _ _ (by omega)]; simp (disch := omega) only [zm_un]) (fun j => by rw [hd _ _ (by omega)]; simp (disch := omega) only [zm_un])⟩ ⟨?_, ?_⟩ ⟨?_, ?_, ?_, zRt_e rt (fun r j _ => by rw [hd _ _ (by omega)]; simp (disch := omega) only [zm_un]), zRu_e ru (fun j _ _ => by rw [hd _ _ (by omega)]; simp (disch := omega) only [zm_un]) (fun j => by rw [hd _ _ (by omega)]; simp (disch := omega) only [zm_un]), zRs_e rs (fun j _ => by rw [hd _ _ (by omega)]; simp (disch := omega) only [zm_un]) (by rw [hd _ _ (by omega)]; simp (disch := omega) only [zm_un]) (by rw [hd _ _ (by omega)]; simp (disch := omega) only [zm_un]) (fun r j _ => by rw [hd _ _ (by omega)]; simp (disch := omega) only [zm_un]), zRd_e rd (by rw [hd _ _ (by omega)]; simp (disch := omega) only [zm_un]) (fun r j _ => by rw [hd _ _ (by omega)]; simp (disch := omega) only [zm_un]), fun s q1 q2 => zRq_e (rq s q1 q2) (by rw [hd _ _ (by omega)]; simp (disch := omega) only [zm_un]) (by rw [hd _ _ (by omega)]; simp (disch := omega) only [zm_un]) (by rw [hd _ _ (by omega)]; simp (disch := omega) only [zm_un]) (by rw [hd _ _ (by omega)]; simp (disch := omega) only [zm_un]) (fun r j _ => by rw [hd _ _ (by omega)]; simp (disch := omega) only [zm_un]) (fun r j _ => by rw [hd _ _ (by omega)]; simp (disch := omega) only [zm_un]), zRv_e rv (by rw [hd _ _ (by omega)]; simp (disch := omega) only [zm_un]) (fun r j _ => by rw [hd _ _ (by omega)]; simp (disch := omega) only [zm_un]) hw.1, zRm_e rm (fun j _ _ => by rw [hd _ _ (by omega)]; simp (disch := omega) only [zm_un]) (fun r j _ => by rw [hd _ _ (by omega)]; simp (disch := omega) only [zm_un]) (fun j _ _ => by rw [hd _ _ (by omega)]; simp (disch := omega) only [zm_un]), zRl_e rl (fun j _ => by rw [hd _ _ (by omega)]; simp (disch := omega) only [zm_un]) (fun j _ => by rw [hd _ _ (by omega)]; simp (disch := omega) only [zm_un]) (fun r j _ => by rw [hd _ _ (by omega)]; simp (disch := omega) only [zm_un]) hw.2⟩ ⟨0, _, rfl, rfl, by rw [hd _ _ (by decide)]; exact zm_ue rfl rfl, fun _ => by rw [hd _ _ (by decide)]; simp (disch := omega) only [zm_un, zm_ue]; exact congrArg zw (by omega), by decide⟩
  · unfold zIa
    omega
  · exact D1
  · exact D2
  · exact D3
  · unfold zRa
    rw [hz 61 32 (by decide) (by decide) (by decide), hz 4 0 (by decide) (by decide) (by decide), hz 61 38 (by decide) (by decide) (by decide), hz 34 9 (by decide) (by decide) (by decide), hz 61 40 (by decide) (by decide) (by decide), hz 58 4 (by decide) (by decide) (by decide), hz 61 41 (by decide) (by decide) (by decide), hz 58 3 (by decide) (by decide) (by decide)]
    omega
  · exact D4
  · exact D5
