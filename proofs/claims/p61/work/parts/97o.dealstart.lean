/-! ===== STEPS: where a deal begins ===== -/
set_option maxRecDepth 65536
theorem zdl1_o {e : zm_D} {r j : Int} (h : r < 36 ∨ 51 < r ∨ j = 0 ∨ 3 < j) (h2 : r ≠ 34 ∨ j ≠ 4) : zdl1 e r j = e r j := (zm_un h2).trans (zfc_o h)
theorem zDc_0 {t : Int} {e E : zm_D} (I : zIn t e) (R : zRe e) (h4 : e 34 4 = 0) (EO : ∀ r j : Int, 60 < r → r ≤ 159 → E r j = e r j) : zDc 0 0 0 (zdl1 e) (zmdA E) (zdl1 e) (zmdA E) := by
  obtain ⟨o, f36, f37, fs⟩ := @zmdA_f E
  have Is := I.2.2.2.2.2.1
  obtain ⟨⟨-, s35, -⟩, s92, -, -, -⟩ := R.2.2.2.2.2.1
  have ru := R.2.2.2.2.1
  unfold zRu at ru
  have v := @zfc_v e
  have z36 : zdl1 e 36 1 = 0 ∧ zdl1 e 36 2 = 0 ∧ zdl1 e 36 3 = 0 := ⟨(zm_un (by omega)).trans v.2.1.1, (zm_un (by omega)).trans v.2.1.2.1, (zm_un (by omega)).trans v.2.1.2.2⟩
  have l5 : ∀ r j : Int, (r = 5 ∨ r = 6 ∨ r = 8 ∨ r = 9) → zdl1 e r j = e r j := fun r j q => zdl1_o (by omega) (by omega)
  have b35 : zmdA E 61 35 = e 61 35 := by rw [o _ _ (by omega) (by omega) (by omega) (by omega) (by omega)]; exact EO _ _ (by decide) (by decide)
  refine ⟨⟨⟨by rw [b35, l5 5 5 (by decide), l5 5 4 (by decide)]; exact s35, fun k q1 q2 => ?_⟩, ⟨by rw [f36, z36.1], fun k q1 q2 => by rw [z36.1] at q2; omega⟩, ⟨by rw [z36.1, z36.2.1]; decide, by rw [z36.2.1]; decide, by rw [z36.2.2]; decide, by rw [z36.1, z36.2.1, z36.2.2]; exact ⟨rfl, rfl⟩, fun k q1 q2 => by rw [z36.1] at q2; omega⟩, by rw [o _ _ (by omega) (by omega) (by omega) (by omega) (by omega), EO _ _ (by decide) (by decide), zdl1_o (by omega) (by omega)]; omega, zIs_e Is l5⟩, fun s q1 q2 => ?_, ⟨z36.1, by rw [z36.2.1]; decide⟩, ⟨rfl, rfl, by omega⟩, fun r j _ _ _ => rfl, fun r j _ _ _ _ _ => rfl⟩
  · rw [l5 5 5 (by decide), l5 5 4 (by decide)] at q2
    rw [o _ _ (by omega) (by omega) (by omega) (by omega) (by omega), EO _ _ (by decide) (by decide), l5 5 4 (by decide), l5 6 _ (by decide)]
    exact s92 k q1 q2
  · obtain ⟨f1, f2, f3, f4⟩ := fs s q1 q2
    have vs := v.1 s q1 q2
    have off := (R.2.2.2.2.2.2.2.1 s q1 q2).2.2.2.2.1 h4
    have c1 : zdl1 e (39 + 5 * s) 1 = 0 := (zm_un (by omega)).trans vs.1.1
    have c2 : zdl1 e (39 + 5 * s) 2 = 0 := (zm_un (by omega)).trans vs.1.2.1
    have c3 : zdl1 e (39 + 5 * s) 3 = 0 := (zm_un (by omega)).trans vs.1.2.2
    have c4 : zdl1 e (39 + 5 * s) 4 = e (39 + 5 * s) 4 := zdl1_o (by omega) (by omega)
    have d4 : zdl1 e (41 + 5 * s) 4 = e (41 + 5 * s) 4 := zdl1_o (by omega) (by omega)
    have e97 : E 97 s = e (39 + 5 * s) 4 := by rw [EO _ _ (by decide) (by decide)]; exact off.1
    unfold zDv
    rw [f1, f2, c1, c2, c3, c4, d4, e97, off.2.1, Int.add_zero]
    refine ⟨?_, ?_, ⟨fun _ => rfl, fun _ => rfl⟩, rfl, by decide, by decide, ⟨rfl, rfl⟩, fun k p1 p2 => by omega⟩
    · split
      · exact .inr rfl
      · exact .inl rfl
    · by_cases p : 0 < e (39 + 5 * s) 4
      · rw [if_pos p]
        exact ⟨fun _ => p, fun _ => rfl⟩
      · rw [if_neg p]
        exact ⟨fun z => absurd z (by decide), fun z => absurd z p⟩
