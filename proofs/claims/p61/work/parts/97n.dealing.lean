/-! ===== STEPS: the chain of a deal ===== -/
set_option maxRecDepth 65536
/-- both sides while the cards are dealt: c cards a seat, k the dealer, m taken in all -/
def zDc (c k m : Int) (A B a b : zm_D) : Prop := zDk a b ∧ (∀ s : Int, 0 ≤ s → s < 3 → zDv c a b s) ∧ (a 36 1 = k ∧ a 36 2 ≤ 10 * k) ∧ (a 5 5 = A 5 5 ∧ a 5 6 = A 5 6 ∧ a 5 4 ≤ A 5 4 + m) ∧ (∀ r j : Int, r ≠ 5 → r ≠ 8 → (r < 36 ∨ 50 < r ∨ (r = 39 ∧ 4 ≤ j) ∨ (r = 44 ∧ 4 ≤ j) ∨ (r = 49 ∧ 4 ≤ j) ∨ (r = 36 ∧ 4 ≤ j) ∨ r = 38 ∨ (41 ≤ r ∧ r ≤ 43) ∨ (46 ≤ r ∧ r ≤ 48)) → a r j = A r j) ∧ (∀ r j : Int, (r ≠ 61 ∨ (j ≠ 35 ∧ j ≠ 36)) → r ≠ 92 → r ≠ 121 → (r < 101 ∨ 109 < r) → (r < 110 ∨ 112 < r ∨ j ≠ 0) → b r j = B r j)
/-- a seat's card, in the chain -/
theorem zDc_s {c c2 k m : Int} {A B a b : zm_D} {s : Int} (hs : 0 ≤ s ∧ s < 3) (hc : 0 ≤ c ∧ c < 3) (K : zDk a b) (V : zDv c a b s) (hl : a 5 4 < a 5 5) (H2 : (a 36 1 = k ∧ a 36 2 ≤ 10 * k) ∧ (a 5 5 = A 5 5 ∧ a 5 6 = A 5 6 ∧ a 5 4 ≤ A 5 4 + m) ∧ (∀ r j : Int, r ≠ 5 → r ≠ 8 → (r < 36 ∨ 50 < r ∨ (r = 39 ∧ 4 ≤ j) ∨ (r = 44 ∧ 4 ≤ j) ∨ (r = 49 ∧ 4 ≤ j) ∨ (r = 36 ∧ 4 ≤ j) ∨ r = 38 ∨ (41 ≤ r ∧ r ≤ 43) ∨ (46 ≤ r ∧ r ≤ 48)) → a r j = A r j) ∧ (∀ r j : Int, (r ≠ 61 ∨ (j ≠ 35 ∧ j ≠ 36)) → r ≠ 92 → r ≠ 121 → (r < 101 ∨ 109 < r) → (r < 110 ∨ 112 < r ∨ j ≠ 0) → b r j = B r j)) : (zDk (zds1 a (39 + 5 * s) (41 + 5 * s) (40 + 5 * s)) (zmd2 b s) ∧ zDv (c + 1) (zds1 a (39 + 5 * s) (41 + 5 * s) (40 + 5 * s)) (zmd2 b s) s) ∧ (∀ t : Int, 0 ≤ t → t < 3 → t ≠ s → zDv c2 a b t → zDv c2 (zds1 a (39 + 5 * s) (41 + 5 * s) (40 + 5 * s)) (zmd2 b s) t) ∧ zds1 a (39 + 5 * s) (41 + 5 * s) (40 + 5 * s) 5 7 = a 5 7 ∧ ((zds1 a (39 + 5 * s) (41 + 5 * s) (40 + 5 * s) 36 1 = k ∧ zds1 a (39 + 5 * s) (41 + 5 * s) (40 + 5 * s) 36 2 ≤ 10 * k) ∧ (zds1 a (39 + 5 * s) (41 + 5 * s) (40 + 5 * s) 5 5 = A 5 5 ∧ zds1 a (39 + 5 * s) (41 + 5 * s) (40 + 5 * s) 5 6 = A 5 6 ∧ zds1 a (39 + 5 * s) (41 + 5 * s) (40 + 5 * s) 5 4 ≤ A 5 4 + (m + 1)) ∧ (∀ r j : Int, r ≠ 5 → r ≠ 8 → (r < 36 ∨ 50 < r ∨ (r = 39 ∧ 4 ≤ j) ∨ (r = 44 ∧ 4 ≤ j) ∨ (r = 49 ∧ 4 ≤ j) ∨ (r = 36 ∧ 4 ≤ j) ∨ r = 38 ∨ (41 ≤ r ∧ r ≤ 43) ∨ (46 ≤ r ∧ r ≤ 48)) → zds1 a (39 + 5 * s) (41 + 5 * s) (40 + 5 * s) r j = A r j) ∧ (∀ r j : Int, (r ≠ 61 ∨ (j ≠ 35 ∧ j ≠ 36)) → r ≠ 92 → r ≠ 121 → (r < 101 ∨ 109 < r) → (r < 110 ∨ 112 < r ∨ j ≠ 0) → zmd2 b s r j = B r j)) := by
  obtain ⟨P1, P2, P3, P4, P5, P6⟩ := zDv_s hs hc K V hl
  obtain ⟨h1, h2, h3, h4⟩ := H2
  refine ⟨⟨P1, P2⟩, fun t q1 q2 q3 T => zDv_e T (fun j _ _ => P3 _ _ (by omega) (by omega) (by omega) (by omega)) (P3 _ _ (by omega) (by omega) (by omega) (by omega)) (fun j => P3 _ _ (by omega) (by omega) (by omega) (by omega)) (P5 _ _ (by omega) (by omega) (by omega) (by omega)) (P5 _ _ (by omega) (by omega) (by omega) (by omega)) (fun j => P5 _ _ (by omega) (by omega) (by omega) (by omega)), P6.2.1, ⟨by rw [P3 36 1 (by omega) (by omega) (by omega) (by omega)]; exact h1.1, by rw [P3 36 2 (by omega) (by omega) (by omega) (by omega)]; exact h1.2⟩, ⟨by rw [P6.1]; exact h2.1, by rw [P6.2.2.1]; exact h2.2.1, by have := P6.2.2.2.2; omega⟩, fun r j q1 q2 q3 => ?_, fun r j q1 q2 q3 q4 q5 => ?_⟩
  · by_cases z : r = 39 + 5 * s
    · subst z
      rw [P4 j (by omega)]
      exact h3 _ j q1 q2 q3
    · rw [P3 r j q1 q2 z (by omega)]
      exact h3 r j q1 q2 q3
  · rw [P5 r j (by omega) q2 (by omega) (by omega)]
    exact h4 r j q1 q2 q3 q4 q5
/-- three seats' cards -/
theorem zDc_3 {c k m : Int} {A B a b : zm_D} (hc : 0 ≤ c ∧ c < 3) (hl : A 5 4 + m + 3 ≤ A 5 5) (H : zDc c k m A B a b) : zDc (c + 1) k (m + 3) A B (zdsa a) (zmd2 (zmd2 (zmd2 b 0) 1) 2) ∧ zdsa a 5 7 = a 5 7 := by
  obtain ⟨K, V, H2⟩ := H
  obtain ⟨X1, Y1, u1, Z1⟩ := zDc_s (c2 := c) (s := 0) (by decide) hc K (V 0 (by decide) (by decide)) (by have := H2.2.1; omega) H2
  have Y1b := zDc_s (c2 := c + 1) (s := 0) (by decide) hc K (V 0 (by decide) (by decide)) (by have := H2.2.1; omega) H2
  obtain ⟨X2, Y2, u2, Z2⟩ := zDc_s (c2 := c) (s := 1) (by decide) hc X1.1 (Y1 1 (by decide) (by decide) (by decide) (V 1 (by decide) (by decide))) (by have := Z1.2.1; omega) Z1
  have Y2b := (zDc_s (c2 := c + 1) (s := 1) (by decide) hc X1.1 (Y1 1 (by decide) (by decide) (by decide) (V 1 (by decide) (by decide))) (by have := Z1.2.1; omega) Z1).2.1
  obtain ⟨X3, Y3, u3, Z3⟩ := zDc_s (c2 := c + 1) (s := 2) (by decide) hc X2.1 (Y2 2 (by decide) (by decide) (by decide) (Y1 2 (by decide) (by decide) (by decide) (V 2 (by decide) (by decide)))) (by have := Z2.2.1; omega) Z2
  rw [show m + 1 + 1 + 1 = m + 3 by omega] at Z3
  refine ⟨⟨X3.1, fun s q1 q2 => ?_, Z3⟩, u3.trans (u2.trans u1)⟩
  rcases (by omega : s = 0 ∨ s = 1 ∨ s = 2) with rfl | rfl | rfl
  · exact Y3 0 (by decide) (by decide) (by decide) (Y2b 0 (by decide) (by decide) (by decide) X1.2)
  · exact Y3 1 (by decide) (by decide) (by decide) X2.2
  · exact X3.2
/-- the dealer's card -/
theorem zDc_d {c k m : Int} {A B a b T : zm_D} (hk : 0 ≤ k ∧ k ≤ 1) (hl : A 5 4 + m + 1 ≤ A 5 5) (H : zDc c k m A B a b) (t4 : T 5 4 = a 5 4 + 1) (t5 : T 5 5 = a 5 5) (t6 : T 5 6 = a 5 6) (to : ∀ r j : Int, r ≠ 5 → r ≠ 8 → T r j = a r j) (I2 : zIs T) : zDc c (k + 1) (m + 1) A B (zad T 36 37 (a 6 (a 5 4))) (zmda b) ∧ zad T 36 37 (a 6 (a 5 4)) 5 7 = T 5 7 ∧ zad T 36 37 (a 6 (a 5 4)) 37 k = a 6 (a 5 4) := by
  obtain ⟨K, V, h1, h2, h3, h4⟩ := H
  have xb := K.2.2.2.2.1.2 (a 5 4) (by have := K.2.2.2.2.1.1; omega) (by omega)
  have K2 := zDk_t K (by omega) (by omega) t4 t5 to I2
  have O : ∀ r j : Int, r ≠ 36 → r ≠ 37 → zad T 36 37 (a 6 (a 5 4)) r j = T r j := fun r j q1 q2 => zad_o q1 q2
  refine ⟨⟨K2, fun s q1 q2 => zDv_e (V s q1 q2) (fun j _ _ => by rw [O _ _ (by omega) (by omega), to _ _ (by omega) (by omega)]) (by rw [O _ _ (by omega) (by omega), to _ _ (by omega) (by omega)]) (fun j => by rw [O _ _ (by omega) (by omega), to _ _ (by omega) (by omega)]) (zmda_o (by omega) (by omega) (by omega)) (zmda_o (by omega) (by omega) (by omega)) (fun j => zmda_o (by omega) (by omega) (by omega)), ⟨by rw [zad_1, to _ _ (by omega) (by omega)]; omega, by rw [zad_2, to _ _ (by omega) (by omega)]; omega⟩, ⟨by rw [O _ _ (by decide) (by decide), t5]; exact h2.1, by rw [O _ _ (by decide) (by decide), t6]; exact h2.2.1, by rw [O _ _ (by decide) (by decide), t4]; omega⟩, fun r j q1 q2 q3 => ?_, fun r j q1 q2 q3 q4 q5 => by rw [zmda_o (by omega) q2 q3]; exact h4 r j q1 q2 q3 q4 q5⟩, O _ _ (by decide) (by decide), by rw [zad_c (by decide), to 36 1 (by decide) (by decide), if_pos h1.1.symm]⟩
  by_cases z : r = 36
  · subst z
    rw [zad_k (by decide) (by omega), to _ _ q1 q2]
    exact h3 _ j q1 q2 q3
  · rw [O r j z (by omega), to _ _ q1 q2]
    exact h3 r j q1 q2 q3
