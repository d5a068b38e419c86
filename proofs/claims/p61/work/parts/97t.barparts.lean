/-! ===== STEPS: what bar takes away ===== -/
set_option maxRecDepth 65536
/-- a wager, on both sides -/
def zBwE (P W : zm_D) (k : Int) : Prop := (zGr (P 54 k) ∧ (0 ≤ P 55 k ∧ P 55 k < 65536) ∧ ((P 55 k = 110 ∨ P 55 k = 100) → -1000 ≤ P 56 k ∧ P 56 k ≤ 1000000) ∧ (0 ≤ P 57 k ∧ P 57 k ≤ 500)) ∧ ((0 ≤ W (123 + k) 0 ∧ W (123 + k) 0 < 8) ∧ P 54 k = 15 + 2 * W (123 + k) 0) ∧ W (123 + k) 1 = P 55 k ∧ W (123 + k) 2 = P 56 k ∧ W (123 + k) 3 = P 57 k ∧ ((P 55 k = 110 ∨ P 55 k = 100) → 0 ≤ P 56 k ∧ P 56 k ≤ 36)
theorem zBwE_e {P W P2 W2 : zm_D} {k k2 : Int} (H : zBwE P W k) (h4 : P2 54 k2 = P 54 k) (h5 : P2 55 k2 = P 55 k) (h6 : P2 56 k2 = P 56 k) (h7 : P2 57 k2 = P 57 k) (w0 : W2 (123 + k2) 0 = W (123 + k) 0) (w1 : W2 (123 + k2) 1 = W (123 + k) 1) (w2 : W2 (123 + k2) 2 = W (123 + k) 2) (w3 : W2 (123 + k2) 3 = W (123 + k) 3) : zBwE P2 W2 k2 := by
  unfold zBwE at *
  rw [h4, h5, h6, h7, w0, w1, w2, w3]
  exact H
/-- the wagers of a barred guest taken away -/
theorem zBw {e E : zm_D} {x : Int} (hv : ∀ k : Int, 0 ≤ k → k < e 53 5 → zBwE e E k) : ∀ m : Nat, (m : Int) ≤ e 53 5 → zwk e (15 + 2 * x) m 53 5 = zmbk E x m ∧ (∀ k : Int, 0 ≤ k → k < zmbk E x m → zBwE (zwk e (15 + 2 * x) m) (zmbw E x m) k) ∧ (∀ b : Int, zmbz E x b m = b + zws e (15 + 2 * x) m) ∧ (0 ≤ zws e (15 + 2 * x) m ∧ zws e (15 + 2 * x) m ≤ 500 * (m : Int)) := by
  intro m
  induction m with
  | zero =>
    intro _
    refine ⟨zm_ue rfl rfl, fun k q1 q2 => ?_, fun b => (Int.add_zero b).symm, by show (0 : Int) ≤ 0 ∧ (0 : Int) ≤ 500 * ((0 : Nat) : Int); decide⟩
    have z : zmbk E x 0 = 0 := rfl
    omega
  | succ m ih =>
    intro hm
    obtain ⟨i1, i2, i3, i4⟩ := ih (by omega)
    have hb := @zmbk_b E x m
    have en := hv (m : Int) (by omega) (by omega)
    obtain ⟨⟨-, -, -, n7⟩, ⟨n8, n9⟩, n10, n11, n12, n13⟩ := en
    have en := hv (m : Int) (by omega) (by omega)
    unfold zwk zmbk zmbw zmbz zws
    by_cases p : E (123 + (m : Int)) 0 = x
    · have p2 : e 54 (m : Int) = 15 + 2 * x := by omega
      rw [if_pos p2, if_pos p2, if_pos p, if_pos p]
      exact ⟨i1, i2, fun b => by rw [if_pos p, i3, n12]; omega, by omega⟩
    · have p2 : ¬ e 54 (m : Int) = 15 + 2 * x := by omega
      rw [if_neg p2, if_neg p2, if_neg p, if_neg p]
      refine ⟨by rw [zwa_5, i1], fun k q1 q2 => ?_, fun b => by rw [if_neg p, i3]; omega, by omega⟩
      have old : ∀ j : Int, zmbw E x m (123 + (m : Int)) j = E (123 + (m : Int)) j := fun j => zmbw_o m (.inr (by omega))
      by_cases q : k = zmbk E x m
      · subst q
        have new : ∀ j : Int, 0 ≤ j → j < 4 → zm_cp (zmbw E x m) (123 + (m : Int)) 0 (123 + zmbk E x m) 0 4 (123 + zmbk E x m) j = E (123 + (m : Int)) j := fun j r1 r2 => by
          rw [zcp_i (by omega), show 0 + (j - 0) = j by omega, old]
        refine zBwE_e en ?_ ?_ ?_ ?_ (new 0 (by decide) (by decide)) (new 1 (by decide) (by decide)) (new 2 (by decide) (by decide)) (new 3 (by decide) (by decide))
        · unfold zwa
          rw [i1]
          simp (disch := omega) only [zm_un, zm_ue]
        · unfold zwa
          rw [i1]
          simp (disch := omega) only [zm_un, zm_ue]
        · unfold zwa
          rw [i1]
          simp (disch := omega) only [zm_un, zm_ue]
        · unfold zwa
          rw [i1]
          simp (disch := omega) only [zm_un, zm_ue]
      · have o : ∀ r : Int, r ≠ 53 → zwa (zwk e (15 + 2 * x) m) (e 54 (m : Int)) (e 55 (m : Int)) (e 56 (m : Int)) (e 57 (m : Int)) r k = zwk e (15 + 2 * x) m r k := fun r h => zwa_o (.inl h) (.inl (by rw [i1]; exact q))
        have ow : ∀ j : Int, zm_cp (zmbw E x m) (123 + (m : Int)) 0 (123 + zmbk E x m) 0 4 (123 + k) j = zmbw E x m (123 + k) j := fun j => zcp_o (.inl (by omega))
        exact zBwE_e (i2 k q1 (by omega)) (o 54 (by decide)) (o 55 (by decide)) (o 56 (by decide)) (o 57 (by decide)) (ow 0) (ow 1) (ow 2) (ow 3)
/-- tickets -/
theorem zlb_v {e : zm_D} {a : Int} : ∀ (m : Nat) (k : Int), 0 ≤ k → k < (m : Int) → zlb e a m 13 k = if e 13 k = a then 0 else e 13 k := by
  intro m
  induction m with
  | zero => intro k h1 h2; omega
  | succ m ih =>
    intro k h1 h2
    unfold zlb
    by_cases q : k = (m : Int)
    · subst q
      split
      · exact zm_ue rfl rfl
      · exact zlb_o m (.inr (Int.le_refl _))
    · split
      · rw [zm_un (.inr q)]
        exact ih k h1 (by omega)
      · exact ih k h1 (by omega)
theorem zmbt_v {e : zm_D} {g : Int} : ∀ (m : Nat) (k : Int), 0 ≤ k → k < (m : Int) → zmbt e g m (139 + k) 0 = if e (139 + k) 0 = g then -1 else e (139 + k) 0 := by
  intro m
  induction m with
  | zero => intro k h1 h2; omega
  | succ m ih =>
    intro k h1 h2
    unfold zmbt
    by_cases q : k = (m : Int)
    · subst q
      exact zm_ue rfl rfl
    · rw [zm_un (by omega)]
      exact ih k h1 (by omega)
/-- prizes -/
theorem zmbp_v {e : zm_D} {x : Int} (hx : 0 ≤ x ∧ x < 8) : (∀ k : Int, 0 ≤ k → k < 4 → zmbp e x (152 + x) k = 0) ∧ zmbp e x 61 48 = e 61 48 + e (152 + x) 0 + e (152 + x) 1 + e (152 + x) 2 + e (152 + x) 3 ∧ (∀ r j : Int, (r ≠ 61 ∨ j ≠ 48) → (r ≠ 152 + x ∨ j < 0 ∨ 3 < j) → zmbp e x r j = e r j) := by
  unfold zmbp zmbq
  refine ⟨fun k h1 h2 => ?_, ?_, fun r j h1 h2 => ?_⟩
  · rcases (by omega : k = 0 ∨ k = 1 ∨ k = 2 ∨ k = 3) with q | q | q | q
    all_goals subst q
    all_goals simp (disch := omega) only [zm_un, zm_ue]
  · simp (disch := omega) only [zm_un, zm_ue]
  · simp (disch := omega) only [zm_un]
/-- a hand taken away -/
def zbf (e : zm_D) (b h j : Int) : Int := if j = 4 ∨ j = 5 then 0 else if (b = 1 ∧ 0 < e h 4) ∧ (1 ≤ j ∧ j ≤ 3) then 0 else e h j
theorem ztb_v {e : zm_D} {h b j : Int} : ztb e h b h j = zbf e b h j := by
  unfold ztb zbf
  by_cases c : b = 1 ∧ 0 < e h 4
  · rw [if_pos c]
    by_cases p : j = 4 ∨ j = 5
    · rw [if_pos p]
      rcases p with p | p
      · subst p; simp (disch := omega) only [zm_un, zm_ue]
      · subst p; simp (disch := omega) only [zm_un, zm_ue]
    · rw [if_neg p]
      by_cases q : 1 ≤ j ∧ j ≤ 3
      · rw [if_pos ⟨c, q⟩]
        rcases (by omega : j = 1 ∨ j = 2 ∨ j = 3) with z | z | z
        all_goals subst z
        all_goals simp (disch := omega) only [zm_un, zm_ue]
      · rw [if_neg (fun z => q z.2)]
        simp (disch := omega) only [zm_un]
  · rw [if_neg c]
    by_cases p : j = 4 ∨ j = 5
    · rw [if_pos p]
      rcases p with p | p
      · subst p; simp (disch := omega) only [zm_un, zm_ue]
      · subst p; simp (disch := omega) only [zm_un, zm_ue]
    · rw [if_neg p, if_neg (fun z => c z.1)]
      simp (disch := omega) only [zm_un]
theorem zta_n {e : zm_D} {a b q h k : Int} (c : e q 2 ≠ a) : zta e a b q h k = e := if_neg c
theorem zta_y {e : zm_D} {a b q h k : Int} (c : e q 2 = a) (hh : h = q + 1) (hk : k = q + 3) : zta e a b q h k q 2 = 0 ∧ (∀ j : Int, zta e a b q h k h j = zbf e b h j) ∧ (∀ j : Int, zta e a b q h k k j = zbf e b k j) := by
  have u : zta e a b q h k = ztb (ztb (zm_u e q 2 0) h b) k b := if_pos c
  rw [u]
  have f : ∀ z j : Int, z ≠ q → zm_u e q 2 0 z j = e z j := fun z j p => zm_un (.inl p)
  have g : ∀ z j : Int, z ≠ q → zbf (zm_u e q 2 0) b z j = zbf e b z j := fun z j p => by unfold zbf; rw [f z 4 p, f z j p]
  refine ⟨?_, fun j => ?_, fun j => ?_⟩
  · rw [ztb_o (.inl (by omega)), ztb_o (.inl (by omega))]
    exact zm_ue rfl rfl
  · rw [ztb_o (.inl (by omega)), ztb_v, g _ _ (by omega)]
  · rw [ztb_v]
    have o : ∀ j : Int, ztb (zm_u e q 2 0) h b k j = e k j := fun j => by rw [ztb_o (.inl (by omega)), f _ _ (by omega)]
    unfold zbf
    rw [o, o]
/-- a seat behind what is taken away -/
theorem ztA3_v {e : zm_D} {a s : Int} (hs : 0 ≤ s ∧ s < 3) : (e (38 + 5 * s) 2 ≠ a → ∀ r j : Int, 38 + 5 * s ≤ r → r ≤ 42 + 5 * s → ztA3 e a r j = e r j) ∧ (e (38 + 5 * s) 2 = a → ztA3 e a (38 + 5 * s) 2 = 0 ∧ (∀ j : Int, ztA3 e a (39 + 5 * s) j = zbf e (e 34 4) (39 + 5 * s) j) ∧ (∀ j : Int, ztA3 e a (41 + 5 * s) j = zbf e (e 34 4) (41 + 5 * s) j)) ∧ (∀ r j : Int, (r = 38 + 5 * s ∧ j ≠ 2) ∨ r = 40 + 5 * s ∨ r = 42 + 5 * s → ztA3 e a r j = e r j) := by
  unfold ztA3
  generalize hb : e 34 4 = b
  have F0 : ∀ (d : zm_D) (r j : Int), (r < 38 ∨ 42 < r) → zta d a b 38 39 41 r j = d r j := fun d r j p => zta_o (.inl (by omega)) (.inl (by omega)) (.inl (by omega))
  have F1 : ∀ (d : zm_D) (r j : Int), (r < 43 ∨ 47 < r) → zta d a b 43 44 46 r j = d r j := fun d r j p => zta_o (.inl (by omega)) (.inl (by omega)) (.inl (by omega))
  have F2 : ∀ (d : zm_D) (r j : Int), (r < 48 ∨ 52 < r) → zta d a b 48 49 51 r j = d r j := fun d r j p => zta_o (.inl (by omega)) (.inl (by omega)) (.inl (by omega))
  have B : ∀ (d : zm_D) (h j : Int), (∀ j, d h j = e h j) → zbf d b h j = zbf e b h j := fun d h j p => by unfold zbf; rw [p 4, p j]
  rcases (by omega : s = 0 ∨ s = 1 ∨ s = 2) with z | z | z
  · subst z
    simp only [Int.mul_zero, Int.add_zero]
    refine ⟨fun c r j q1 q2 => ?_, fun c => ?_, fun r j q => ?_⟩
    · rw [F2 _ _ _ (by omega), F1 _ _ _ (by omega), zta_n c]
    · have y := zta_y (b := b) c (by decide : (39 : Int) = 38 + 1) (by decide : (41 : Int) = 38 + 3)
      exact ⟨by rw [F2 _ _ _ (by omega), F1 _ _ _ (by omega)]; exact y.1, fun j => by rw [F2 _ _ _ (by omega), F1 _ _ _ (by omega)]; exact y.2.1 j, fun j => by rw [F2 _ _ _ (by omega), F1 _ _ _ (by omega)]; exact y.2.2 j⟩
    · rw [F2 _ _ _ (by omega), F1 _ _ _ (by omega)]
      exact zta_o (by omega) (by omega) (by omega)
  · subst z
    simp only [Int.mul_one, Int.reduceAdd, Int.reduceMul]
    have G : ∀ r j : Int, 43 ≤ r → zta e a b 38 39 41 r j = e r j := fun r j p => F0 _ _ _ (by omega)
    refine ⟨fun c r j q1 q2 => ?_, fun c => ?_, fun r j q => ?_⟩
    · rw [F2 _ _ _ (by omega), zta_n (by rw [G _ _ (by decide)]; exact c), G _ _ q1]
    · have y := zta_y (e := zta e a b 38 39 41) (a := a) (b := b) (by rw [G _ _ (by decide)]; exact c) (by decide : (44 : Int) = 43 + 1) (by decide : (46 : Int) = 43 + 3)
      exact ⟨by rw [F2 _ _ _ (by omega)]; exact y.1, fun j => by rw [F2 _ _ _ (by omega), y.2.1 j]; exact B _ _ _ (fun j => G _ _ (by decide)), fun j => by rw [F2 _ _ _ (by omega), y.2.2 j]; exact B _ _ _ (fun j => G _ _ (by decide))⟩
    · rw [F2 _ _ _ (by omega), zta_o (by omega) (by omega) (by omega), G _ _ (by omega)]
  · subst z
    simp only [Int.reduceAdd, Int.reduceMul]
    have G : ∀ r j : Int, 48 ≤ r → zta (zta e a b 38 39 41) a b 43 44 46 r j = e r j := fun r j p => by rw [F1 _ _ _ (by omega), F0 _ _ _ (by omega)]
    refine ⟨fun c r j q1 q2 => ?_, fun c => ?_, fun r j q => ?_⟩
    · rw [zta_n (by rw [G _ _ (by decide)]; exact c), G _ _ q1]
    · have y := zta_y (e := zta (zta e a b 38 39 41) a b 43 44 46) (a := a) (b := b) (by rw [G _ _ (by decide)]; exact c) (by decide : (49 : Int) = 48 + 1) (by decide : (51 : Int) = 48 + 3)
      exact ⟨y.1, fun j => by rw [y.2.1 j]; exact B _ _ _ (fun j => G _ _ (by decide)), fun j => by rw [y.2.2 j]; exact B _ _ _ (fun j => G _ _ (by decide))⟩
    · rw [zta_o (by omega) (by omega) (by omega), G _ _ (by omega)]
/-- the reference's seat behind what is taken away -/
theorem zmb5_v {d : zm_D} {s g : Int} (hs : 0 ≤ s ∧ s < 3) : (d 96 s ≠ g → zmb5 d s g = d) ∧ (d 96 s = g → zmb5 d s g 96 s = -1 ∧ zmb5 d s g 97 s = 0 ∧ zmb5 d s g 98 s = (if d 61 37 = 1 then 0 else d 98 s)) ∧ (∀ r j : Int, (r = 114 + s ∨ r = 118 + s) → (zmb5 d s g r j = d r j ∨ zmb5 d s g r j = 0)) := by
  refine ⟨fun c => if_neg c, fun c => ?_, fun r j h => ?_⟩
  · unfold zmb5
    rw [if_pos c]
    refine ⟨zm_ue rfl rfl, ?_, ?_⟩
    · simp (disch := omega) only [zm_un, zm_ue]
    · simp (disch := omega) only [zm_un, zm_ue]
  · unfold zmb5
    split
    · rw [zm_un (by omega), zm_un (by omega), zm_un (by omega)]
      split
      · split
        · exact .inl rfl
        · split
          · by_cases a1 : r = 118 + s ∧ j = 0
            · rw [zm_ue a1.1 a1.2]; exact .inr rfl
            · rw [zm_un (by omega)]
              by_cases a2 : r = 114 + s ∧ j = 0
              · rw [zm_ue a2.1 a2.2]; exact .inr rfl
              · rw [zm_un (by omega)]; exact .inl rfl
          · by_cases a1 : r = 118 + s ∧ j = 1
            · rw [zm_ue a1.1 a1.2]; exact .inr rfl
            · rw [zm_un (by omega)]
              by_cases a2 : r = 114 + s ∧ j = 1
              · rw [zm_ue a2.1 a2.2]; exact .inr rfl
              · rw [zm_un (by omega)]
                by_cases a3 : r = 118 + s ∧ j = 0
                · rw [zm_ue a3.1 a3.2]; exact .inr rfl
                · rw [zm_un (by omega)]
                  by_cases a4 : r = 114 + s ∧ j = 0
                  · rw [zm_ue a4.1 a4.2]; exact .inr rfl
                  · rw [zm_un (by omega)]; exact .inl rfl
      · exact .inl rfl
    · exact .inl rfl
theorem zmb6_a {bk : Int} {d : zm_D} {s g : Int} : zmb6 bk d s g = bk + zmb6 0 d s g := by
  unfold zmb6
  repeat' split
  all_goals omega
theorem zmb6_e {d c : zm_D} {s g : Int} (h6 : c 96 s = d 96 s) (h7 : c 97 s = d 97 s) (h8 : c 98 s = d 98 s) (h61 : c 61 37 = d 61 37) (h114 : ∀ j, c (114 + s) j = d (114 + s) j) : zmb6 0 c s g = zmb6 0 d s g := by
  unfold zmb6
  rw [h6, h7, h8, h61, h114, h114]
/-- three seats -/
theorem zmbS_v {d : zm_D} {s g : Int} (hs : 0 ≤ s ∧ s < 3) : (d 96 s ≠ g → ∀ r j : Int, ((r = 96 ∨ r = 97 ∨ r = 98) ∧ j = s) ∨ r = 114 + s ∨ r = 118 + s → zmbS d g r j = d r j) ∧ (d 96 s = g → zmbS d g 96 s = -1 ∧ zmbS d g 97 s = 0 ∧ zmbS d g 98 s = (if d 61 37 = 1 then 0 else d 98 s)) ∧ (∀ r j : Int, (r = 114 + s ∨ r = 118 + s) → (zmbS d g r j = d r j ∨ zmbS d g r j = 0)) := by
  have F : ∀ (c : zm_D) (t r j : Int), 0 ≤ t → t < 3 → t ≠ s → ((r = 61 ∧ j = 37) ∨ ((r = 96 ∨ r = 97 ∨ r = 98) ∧ j = s) ∨ r = 114 + s ∨ r = 118 + s) → zmb5 c t g r j = c r j := fun c t r j q1 q2 q3 q4 => zmb5_o (by omega) (by omega) (by omega) (by omega) (by omega)
  have K : ∃ c : zm_D, (∀ r j : Int, ((r = 61 ∧ j = 37) ∨ ((r = 96 ∨ r = 97 ∨ r = 98) ∧ j = s) ∨ r = 114 + s ∨ r = 118 + s) → c r j = d r j) ∧ (∀ r j : Int, (((r = 96 ∨ r = 97 ∨ r = 98) ∧ j = s) ∨ r = 114 + s ∨ r = 118 + s) → zmbS d g r j = zmb5 c s g r j) := by
    unfold zmbS
    rcases (by omega : s = 0 ∨ s = 1 ∨ s = 2) with z | z | z
    · refine ⟨d, fun r j _ => rfl, fun r j q => ?_⟩
      rw [F _ 2 r j (by decide) (by decide) (by omega) (by omega), F _ 1 r j (by decide) (by decide) (by omega) (by omega), z]
    · refine ⟨zmb5 d 0 g, fun r j q => F _ 0 r j (by decide) (by decide) (by omega) q, fun r j q => ?_⟩
      rw [F _ 2 r j (by decide) (by decide) (by omega) (by omega), z]
    · refine ⟨zmb5 (zmb5 d 0 g) 1 g, fun r j q => ?_, fun r j q => ?_⟩
      · rw [F _ 1 r j (by decide) (by decide) (by omega) q, F _ 0 r j (by decide) (by decide) (by omega) q]
      · rw [z]
  obtain ⟨c, k1, k2⟩ := K
  obtain ⟨v1, v2, v3⟩ := zmb5_v (d := c) (g := g) hs
  rw [k1 96 s (by omega)] at v1 v2
  rw [k1 61 37 (by omega), k1 98 s (by omega)] at v2
  refine ⟨fun p r j q => ?_, fun p => ?_, fun r j q => ?_⟩
  · rw [k2 r j q, v1 p, k1 r j (.inr q)]
  · rw [k2 96 s (by omega), k2 97 s (by omega), k2 98 s (by omega)]
    exact v2 p
  · rw [k2 r j (by omega)]
    have := v3 r j q
    rw [k1 r j (by omega)] at this
    omega
theorem zmbB_v {d : zm_D} {g : Int} : zmbB d g = zmb6 0 d 0 g + zmb6 0 d 1 g + zmb6 0 d 2 g := by
  unfold zmbB
  rw [zmb6_a, zmb6_a (bk := zmb6 0 d 0 g)]
  rw [zmb6_e (c := zmb5 d 0 g) (d := d) (s := 1) (zmb5_o (by omega) (by omega) (by omega) (by omega) (by omega)) (zmb5_o (by omega) (by omega) (by omega) (by omega) (by omega)) (zmb5_o (by omega) (by omega) (by omega) (by omega) (by omega)) (zmb5_o (by omega) (by omega) (by omega) (by omega) (by omega)) (fun j => zmb5_o (by omega) (by omega) (by omega) (by omega) (by omega))]
  have F : ∀ r j : Int, ((r = 61 ∧ j = 37) ∨ ((r = 96 ∨ r = 97 ∨ r = 98) ∧ j = 2) ∨ r = 114 + 2) → zmb5 (zmb5 d 0 g) 1 g r j = d r j := fun r j q => by
    rw [zmb5_o (by omega) (by omega) (by omega) (by omega) (by omega), zmb5_o (by omega) (by omega) (by omega) (by omega) (by omega)]
  rw [zmb6_e (c := zmb5 (zmb5 d 0 g) 1 g) (d := d) (s := 2) (F _ _ (by omega)) (F _ _ (by omega)) (F _ _ (by omega)) (F _ _ (by omega)) (fun j => F _ _ (by omega))]
