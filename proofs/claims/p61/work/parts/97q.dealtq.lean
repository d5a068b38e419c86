/-! ===== STEPS: what holds when all cards are dealt ===== -/
set_option maxRecDepth 65536
theorem zmdA_7 {E : zm_D} {s : Int} (hs : 0 ≤ s ∧ s < 3) : zmdA E 97 s = 0 := by
  unfold zmdA zmd1
  rcases (by omega : s = 0 ∨ s = 1 ∨ s = 2) with z | z | z
  all_goals subst z
  all_goals simp (disch := omega) only [zm_un, zm_ue]
/-- the hands behind the deal, on the class's side -/
theorem zdl8_f {e : zm_D} : (∀ r j : Int, ((r ≠ 39 ∧ r ≠ 44 ∧ r ≠ 49) ∨ j ≠ 5) → zdl8 e r j = zdl5 e r j) ∧ (∀ s : Int, 0 ≤ s → s < 3 → zdl8 e (39 + 5 * s) 5 = zpl (zdl5 e) (38 + 5 * s) (39 + 5 * s) (41 + 5 * s)) := by
  have P : ∀ (a : zm_D) (q h k q2 h2 k2 : Int), h ≠ q2 → h ≠ h2 → h ≠ k2 → h ≠ 36 → zpl (zfl a q h k) q2 h2 k2 = zpl a q2 h2 k2 := fun a q h k q2 h2 k2 p1 p2 p3 p4 => by
    unfold zpl
    rw [zfl_o (.inl (Ne.symm p2)), zfl_o (.inl (Ne.symm p3)), zfl_o (.inl (Ne.symm p1)), zfl_o (.inl (Ne.symm p2)), zfl_o (.inl (Ne.symm p2)), zfl_o (.inl (Ne.symm p2)), zfl_o (.inl (Ne.symm p4)), zfl_o (.inl (Ne.symm p4)), zfl_o (.inl (Ne.symm p4))]
  refine ⟨fun r j h => ?_, fun s q1 q2 => ?_⟩
  · unfold zdl8
    rw [zfl_o (by omega), zfl_o (by omega), zfl_o (by omega)]
  · unfold zdl8
    rcases (by omega : s = 0 ∨ s = 1 ∨ s = 2) with z | z | z
    · subst z
      rw [zfl_o (by omega), zfl_o (by omega)]
      exact zm_ue rfl rfl
    · subst z
      rw [zfl_o (by omega), ← P (zdl5 e) 38 39 41 _ _ _ (by omega) (by omega) (by omega) (by omega)]
      exact zm_ue rfl rfl
    · subst z
      rw [← P (zdl5 e) 38 39 41 _ _ _ (by omega) (by omega) (by omega) (by omega), ← P (zfl (zdl5 e) 38 39 41) 43 44 46 _ _ _ (by omega) (by omega) (by omega) (by omega)]
      exact zm_ue rfl rfl
/-- the states behind the deal, on the reference's side -/
theorem zmdS_f {E : zm_D} : (∀ r j : Int, (r < 118 ∨ 120 < r ∨ j ≠ 0) → zmdS E r j = zmdT (zmdT (zmdA E)) r j) ∧ (∀ s : Int, 0 ≤ s → s < 3 → zmdS E (118 + s) 0 = if zmv (zmdT (zmdT (zmdA E))) (101 + 3 * s) (zmdT (zmdT (zmdA E)) (110 + s) 0) = 21 then 2 else 1) := by
  show (∀ r j : Int, (r < 118 ∨ 120 < r ∨ j ≠ 0) → zmd3 (zmd3 (zmd3 (zmdT (zmdT (zmdA E))) 0) 1) 2 r j = zmdT (zmdT (zmdA E)) r j) ∧ (∀ s : Int, 0 ≤ s → s < 3 → zmd3 (zmd3 (zmd3 (zmdT (zmdT (zmdA E))) 0) 1) 2 (118 + s) 0 = if zmv (zmdT (zmdT (zmdA E))) (101 + 3 * s) (zmdT (zmdT (zmdA E)) (110 + s) 0) = 21 then 2 else 1)
  generalize zmdT (zmdT (zmdA E)) = b
  have o : ∀ (d : zm_D) (t r j : Int), (r ≠ 118 + t ∨ j ≠ 0) → zmd3 d t r j = d r j := fun d t r j q => zm_un q
  refine ⟨fun r j h => ?_, fun s q1 q2 => ?_⟩
  · rw [o _ 2 _ _ (by omega), o _ 1 _ _ (by omega), o _ 0 _ _ (by omega)]
  · rcases (by omega : s = 0 ∨ s = 1 ∨ s = 2) with z | z | z
    · subst z
      rw [o _ 2 _ _ (by omega), o _ 1 _ _ (by omega)]
      exact zm_ue rfl rfl
    · subst z
      rw [o _ 2 _ _ (by omega)]
      refine (zm_ue rfl rfl).trans ?_
      rw [zmv_e (e := b) (fun k => o _ 0 _ _ (by omega)), o _ 0 _ _ (by omega)]
    · subst z
      refine (zm_ue rfl rfl).trans ?_
      rw [zmv_e (e := b) (fun k => by rw [o _ 1 _ _ (by omega), o _ 0 _ _ (by omega)]), o _ 1 _ _ (by omega), o _ 0 _ _ (by omega)]
/-- the value of a seat's hand, on both sides -/
theorem zDv_v {c : Int} {a b : zm_D} {s : Int} (V : zDv c a b s) : zmv b (101 + 3 * s) (b (110 + s) 0) = zhv (a (39 + 5 * s) 3) (a (39 + 5 * s) 2) := by
  obtain ⟨v1, v2, v3, v4, v5, v6, ⟨v7, v8⟩, v9⟩ := V
  have z := @zms_x a b (101 + 3 * s) (40 + 5 * s) (a (39 + 5 * s) 1).toNat (fun k p1 p2 => (v9 k p1 (by omega)).2)
  unfold zmv
  rw [v4, z.1, z.2, ← v7, ← v8]
/-- memory N of both sides with all cards dealt: what a call of a round keeps -/
theorem zDel_Q {t : Int} {e E a b N : zm_D} (I : zIn t e) (J : zIp t e) (R : zRe e) (h4 : e 34 4 = 0) (EO : ∀ r j : Int, 60 < r → r ≤ 159 → E r j = e r j) (C : zDc 2 2 8 (zdl1 e) (zmdA E) a b) (h57 : a 5 7 = a 37 1 ∧ (1 ≤ a 5 7 ∧ a 5 7 ≤ 10)) (N1 : ∀ r j : Int, 1 ≤ r → r ≤ 60 → ((r ≠ 39 ∧ r ≠ 44 ∧ r ≠ 49) ∨ j ≠ 5) → N r j = a r j) (N2 : ∀ r j : Int, 60 < r → r ≤ 159 → (r < 118 ∨ 120 < r ∨ j ≠ 0) → N r j = b r j) (N5 : ∀ s : Int, 0 ≤ s → s < 3 → N (39 + 5 * s) 5 = 0 ∨ (N (39 + 5 * s) 5 = 1 ∧ 0 < e (39 + 5 * s) 4 ∧ zhv (a (39 + 5 * s) 3) (a (39 + 5 * s) 2) ≠ 21)) (N8 : ∀ s : Int, 0 ≤ s → s < 3 → (0 ≤ N (118 + s) 0 ∧ N (118 + s) 0 ≤ 3) ∧ (b 98 s = 1 → N (118 + s) 0 = if N (39 + 5 * s) 5 = 1 then 1 else 2)) : zQz 0 e N ∧ z2c N := by
  have M := zRe_Mon R
  obtain ⟨K, V, ⟨k1, k2⟩, ⟨x5, x6, x4⟩, fa, fb⟩ := C
  obtain ⟨o, f36, f37, fs⟩ := @zmdA_f E
  have v := @zfc_v e
  obtain ⟨it, -, ig, iv, itr, is, ic, -⟩ := I
  have w4 := J.2.2.2.2.1
  obtain ⟨ra, rg, rh, rt, ru, rs, rd, rq, -⟩ := R
  have t0 := itr 0 (by decide) (by decide)
  simp only [Int.add_zero] at t0
  unfold zRa at ra
  have L : ∀ r j : Int, (1 ≤ r ∧ r ≤ 60) → ((r < 36 ∨ 51 < r) ∧ r ≠ 5 ∧ r ≠ 8 ∧ (r ≠ 34 ∨ j ≠ 4)) → N r j = e r j := fun r j p q => by rw [N1 r j p.1 p.2 (.inl (by omega)), fa r j q.2.1 q.2.2.1 (by omega), zdl1_o (by omega) q.2.2.2]
  have HH : ∀ r j : Int, (60 < r ∧ r ≤ 159) → ((r ≠ 61 ∨ (j ≠ 35 ∧ j ≠ 36 ∧ j ≠ 37 ∧ j ≠ 49)) ∧ r ≠ 92 ∧ r ≠ 97 ∧ r ≠ 98 ∧ (r < 101 ∨ 121 < r)) → N r j = e r j := fun r j p q => by rw [N2 r j p.1 p.2 (by omega), fb r j (by omega) (by omega) (by omega) (by omega) (by omega), o r j (by omega) (by omega) (by omega) (by omega) (by omega), EO r j p.1 p.2]
  have on : N 34 4 = 1 := by rw [N1 _ _ (by decide) (by decide) (by decide), fa _ _ (by decide) (by decide) (by decide)]; exact zm_ue rfl rfl
  have m36 : ∀ j, N 36 j = a 36 j := fun j => N1 36 j (by decide) (by decide) (.inl (by decide))
  have m37 : ∀ j, N 37 j = a 37 j := fun j => N1 37 j (by decide) (by decide) (.inl (by decide))
  have SE : ∀ s : Int, 0 ≤ s → s < 3 → (∀ j : Int, j ≠ 3 → N (38 + 5 * s) j = e (38 + 5 * s) j) ∧ N (38 + 5 * s) 3 = 0 ∧ (∀ j : Int, j ≠ 5 → N (39 + 5 * s) j = a (39 + 5 * s) j) ∧ (∀ j : Int, 4 ≤ j → a (39 + 5 * s) j = e (39 + 5 * s) j) ∧ (∀ j : Int, N (40 + 5 * s) j = a (40 + 5 * s) j) ∧ (N (41 + 5 * s) 1 = 0 ∧ N (41 + 5 * s) 2 = 0 ∧ N (41 + 5 * s) 3 = 0) ∧ (∀ j : Int, 4 ≤ j → N (41 + 5 * s) j = e (41 + 5 * s) j) ∧ a (41 + 5 * s) 4 = e (41 + 5 * s) 4 := fun s q1 q2 => by
    have vs := v.1 s q1 q2
    have o41 : ∀ j : Int, N (41 + 5 * s) j = zdl1 e (41 + 5 * s) j := fun j => by rw [N1 _ _ (by omega) (by omega) (by omega), fa _ _ (by omega) (by omega) (by omega)]
    refine ⟨fun j p => ?_, ?_, fun j p => N1 _ _ (by omega) (by omega) (.inr p), fun j p => by rw [fa _ _ (by omega) (by omega) (by omega), zdl1_o (by omega) (by omega)], fun j => N1 _ _ (by omega) (by omega) (by omega), ⟨?_, ?_, ?_⟩, fun j p => by rw [o41, zdl1_o (by omega) (by omega)], by rw [fa _ _ (by omega) (by omega) (by omega), zdl1_o (by omega) (by omega)]⟩
    · rw [N1 _ _ (by omega) (by omega) (by omega), fa _ _ (by omega) (by omega) (by omega)]
      exact (zm_un (by omega)).trans (v.2.2 _ _ (by omega))
    · rw [N1 _ _ (by omega) (by omega) (by omega), fa _ _ (by omega) (by omega) (by omega)]
      exact (zm_un (by omega)).trans vs.2.2
    · rw [o41]; exact (zm_un (by omega)).trans vs.2.1.1
    · rw [o41]; exact (zm_un (by omega)).trans vs.2.1.2.1
    · rw [o41]; exact (zm_un (by omega)).trans vs.2.1.2.2
  -- a seat's stake and cards
  have SV : ∀ s : Int, 0 ≤ s → s < 3 → ((e (39 + 5 * s) 4 = e 97 s ∧ 0 ≤ e 97 s ∧ e 97 s ≤ 1000) ∧ (e (41 + 5 * s) 4 = 0 ∧ e (39 + 5 * s) 5 = 0 ∧ e (41 + 5 * s) 5 = 0 ∧ e (39 + 5 * s) 6 = 0 ∧ e (41 + 5 * s) 6 = 0) ∧ (e 97 s = 0 ↔ e 96 s = -1)) ∧ ((b 98 s = 0 ∧ e 97 s = 0 ∧ a (39 + 5 * s) 1 = 0) ∨ (b 98 s = 1 ∧ 0 < e 97 s ∧ a (39 + 5 * s) 1 = 2)) := fun s q1 q2 => by
    have off := (rq s q1 q2).2.2.2.2.1 h4
    have i4 := (ic.1 s q1 q2).1.2.2.2.1
    obtain ⟨g1, g2, g3, g4, g5, -, -, g8⟩ := SE s q1 q2
    obtain ⟨v1, v2, v3, -⟩ := V s q1 q2
    rw [g4 4 (by decide), g8] at v2
    refine ⟨⟨⟨off.1.symm, by omega, off.2.2.2.2.2.2.2⟩, ⟨off.2.1, off.2.2.1, off.2.2.2.1, off.2.2.2.2.1, off.2.2.2.2.2.1⟩, off.2.2.2.2.2.2.1⟩, ?_⟩
    rcases v1 with p | p
    · refine .inl ⟨p, ?_, v3.1 p⟩
      have : ¬ 0 < e (39 + 5 * s) 4 + e (41 + 5 * s) 4 := fun z => by have := v2.2 z; omega
      omega
    · exact .inr ⟨p, by have := v2.1 p; omega, v3.2 p⟩
  refine ⟨⟨fun r j q1 q2 q3 => ?_, zMon_e M (L _ _ (by decide) (by decide)) (fun i _ _ => L _ _ (by omega) (by omega)) (fun i j _ _ _ => L _ _ (by omega) (by omega)) (HH _ _ (by decide) (by decide)) (fun i _ _ => HH _ _ (by omega) (by omega)) (fun i j _ _ _ => HH _ _ (by omega) (by omega)), fun i q1 q2 => ?_, ⟨by rw [L 4 0 (by decide) (by decide)]; omega, by rw [L 31 1 (by decide) (by decide)]; omega, fun i q1 q2 => by rw [L (15 + 2 * i) 2 (by omega) (by omega)]; omega⟩, by rw [HH 61 38 (by decide) (by decide), L 34 9 (by decide) (by decide)]; exact ra.2.1.1, zIs_e K.2.2.2.2 (fun r j q => N1 r j (by omega) (by omega) (.inl (by omega))), ?_, ?_, ?_, fun s q1 q2 => ⟨?_, ?_⟩⟩, fun y q p => ?_⟩
  · unfold zTo at q3
    by_cases p : r ≤ 60
    · exact L r j ⟨q1, p⟩ (by omega)
    · exact HH r j ⟨by omega, q2⟩ (by omega)
  · have y := (rg i q1 q2).1.2.2.1
    rw [HH 64 i (by decide) (by omega), L (15 + 2 * i) 5 (by omega) (by omega)]
    exact ⟨y, by omega, fun _ => rfl⟩
  · obtain ⟨-, -, ⟨b1, b2, b3, b4, b5⟩, -, -⟩ := K
    refine ⟨fun s q1 q2 => ?_, ⟨by rw [m36, m36]; exact b1, by rw [m36]; exact b2, by rw [m36]; exact b3, by rw [m36, m36, m36, zms_e m37, zma_e m37]; exact b4, fun k p1 p2 => by rw [m36] at p2; rw [m37]; exact b5 k p1 p2⟩, ?_, fun _ => by rw [N1 5 7 (by decide) (by decide) (by decide), m36]; omega⟩
    · obtain ⟨g1, g2, g3, g4, g5, ⟨g61, g62, g63⟩, g7, -⟩ := SE s q1 q2
      obtain ⟨⟨⟨u1, u2, u3⟩, ⟨u4, u5, u6, u7, u8⟩, u9⟩, u10⟩ := SV s q1 q2
      obtain ⟨-, -, -, -, v5, v6, ⟨v7, v8⟩, v9⟩ := V s q1 q2
      have n5 := N5 s q1 q2
      obtain ⟨-, -, -, i4, i5, -⟩ := ic.1 s q1 q2
      refine ⟨?_, ?_, by omega, by rw [g1 2 (by decide)]; exact i4, ?_, fun _ => ⟨g61, by rw [g7 4 (by decide)]; exact u4, by rw [g7 5 (by decide)]; exact u6⟩⟩
      · unfold zIh
        rw [g3 1 (by decide), g3 2 (by decide), g3 3 (by decide), g3 4 (by decide), g3 6 (by decide), g4 4 (by decide), g4 6 (by decide), zms_e g5, zma_e g5, u1, u7]
        refine ⟨by omega, by omega, v6, by omega, by omega, by decide, fun p => ⟨on, by omega, by omega, by omega, ?_⟩, ⟨v7, v8⟩, fun k p1 p2 => by rw [g5]; exact (v9 k p1 p2).1⟩
        have n6 : zhv (a (39 + 5 * s) 3) (a (39 + 5 * s) 2) ≠ 21 := by
          rcases n5 with z | z
          · omega
          · exact z.2.2
        have n7 : a (39 + 5 * s) 2 ≤ 20 := by omega
        clear n5 u10
        unfold zhv at n6 ⊢
        split
        · rename_i z
          rw [if_pos z] at n6
          omega
        · omega
      · unfold zIh
        rw [g61, g62, g63, g7 4 (by decide), g7 5 (by decide), g7 6 (by decide), u4, u6, u8]
        exact ⟨by decide, by decide, by decide, by decide, by decide, by decide, fun z => absurd z (by decide), ⟨rfl, rfl⟩, fun k p1 p2 => by omega⟩
      · rw [g1 2 (by decide), g3 4 (by decide), g4 4 (by decide), g7 4 (by decide)]
        exact i5
    · rw [on, L 34 5 (by decide) (by decide), L 34 6 (by decide) (by decide), L 34 7 (by decide) (by decide), L 34 8 (by decide) (by decide)]
      exact ⟨.inr rfl, ic.2.2.1.2⟩
  · obtain ⟨⟨b1, b2⟩, -⟩ := K
    obtain ⟨⟨s1, s2, s3⟩, s4, s5, -⟩ := rs
    have e57 : N 5 7 = a 5 7 := N1 5 7 (by decide) (by decide) (by decide)
    refine ⟨⟨?_, ?_, ?_⟩, fun i q1 q2 => ?_, fun r q1 q2 => ?_, fun z => by omega, fun _ => by rw [m37, e57]; exact h57.1.symm⟩
    · rw [HH 61 34 (by decide) (by decide), N1 5 6 (by decide) (by decide) (by decide), x6, zdl1_o (by omega) (by omega)]
      exact s1
    · rw [N2 61 35 (by decide) (by decide) (by decide), N1 5 5 (by decide) (by decide) (by decide), N1 5 4 (by decide) (by decide) (by decide)]
      exact b1
    · rw [N2 61 37 (by decide) (by decide) (by decide), fb _ _ (by omega) (by omega) (by omega) (by omega) (by omega), f37, on]
    · rw [N1 5 5 (by decide) (by decide) (by decide), N1 5 4 (by decide) (by decide) (by decide)] at q2
      rw [N2 92 i (by decide) (by decide) (by omega), N1 5 4 (by decide) (by decide) (by decide), N1 6 _ (by decide) (by decide) (by omega)]
      exact b2 i q1 q2
    · rw [HH 95 r (by decide) (by omega), L 9 r (by decide) (by omega)]
      exact s5 r q1 q2
  · obtain ⟨-, ⟨b1, b2⟩, -⟩ := K
    refine ⟨by rw [N2 61 36 (by decide) (by decide) (by decide), m36]; exact b1, fun k q1 q2 => ?_⟩
    rw [m36] at q2
    rw [N2 121 k (by decide) (by decide) (by omega), m37]
    exact b2 k q1 q2
  · obtain ⟨g1, g2, g3, g4, g5, ⟨g61, g62, g63⟩, g7, -⟩ := SE s q1 q2
    obtain ⟨⟨⟨u1, u2, u3⟩, ⟨u4, u5, u6, u7, u8⟩, u9⟩, u10⟩ := SV s q1 q2
    obtain ⟨-, -, -, v4, v5, -, -, v9⟩ := V s q1 q2
    obtain ⟨z1, z2, z3, z4, -, -, -, -⟩ := rq s q1 q2
    obtain ⟨y1, y2, y3, y4⟩ := fs s q1 q2
    have n5 := N5 s q1 q2
    have n8 := N8 s q1 q2
    have c97 : N 97 s = 0 := by rw [N2 97 s (by decide) (by decide) (by omega), fb _ _ (by omega) (by omega) (by omega) (by omega) (by omega)]; exact zmdA_7 ⟨q1, q2⟩
    have c98 : N 98 s = b 98 s := N2 98 s (by decide) (by decide) (by omega)
    have c110 : N (110 + s) 0 = a (39 + 5 * s) 1 := by rw [N2 _ _ (by omega) (by omega) (by omega)]; exact v4
    have c114 : N (114 + s) 0 = e 97 s := by rw [N2 _ _ (by omega) (by omega) (by omega), fb _ _ (by omega) (by omega) (by omega) (by omega) (by omega), y3]; exact EO _ _ (by decide) (by decide)
    have c1141 : N (114 + s) 1 = 0 := by rw [N2 _ _ (by omega) (by omega) (by omega), fb _ _ (by omega) (by omega) (by omega) (by omega) (by omega), y4]
    have c1181 : N (118 + s) 1 = e (118 + s) 1 := by rw [N2 _ _ (by omega) (by omega) (by omega), fb _ _ (by omega) (by omega) (by omega) (by omega) (by omega), o _ _ (by omega) (by omega) (by omega) (by omega) (by omega), EO _ _ (by omega) (by omega)]
    unfold zRq
    rw [g1 2 (by decide), HH 96 s (by decide) (by omega), c98, c97, c110, c114, c1141, c1181, on, g3 4 (by decide), g4 4 (by decide), g3 1 (by decide), g2, u1]
    refine ⟨z1, by omega, ⟨n8.1, z3.2⟩, ⟨by omega, by decide⟩, fun z => absurd z (by decide), fun _ => ⟨rfl, fun p => by omega, fun p => by omega, fun _ => ⟨by rw [g7 4 (by decide)]; exact u4, by rw [g7 5 (by decide)]; exact u6⟩, fun p => ⟨by omega, ?_⟩, fun p => ⟨rfl, ?_⟩, fun p => by omega⟩, fun p => ⟨rfl, by omega, fun k p1 p2 => ?_, by omega⟩, fun p => by omega⟩
    · rcases n5 with z | z
      · exact z
      · omega
    · rcases n5 with z | z
      · refine .inr (.inl ⟨z, ?_, by omega⟩)
        rw [n8.2 (by omega), if_neg (by omega)]
      · refine .inl ⟨z.1, ?_, by omega⟩
        rw [n8.2 (by omega), if_pos z.1]
    · rw [N2 _ _ (by omega) (by omega) (by omega), g5]
      exact (v9 k p1 p2).2
  · rw [(SE s q1 q2).1 2 (by decide)]
    exact w4 s q1 q2
  · obtain ⟨s, hs, hy⟩ : ∃ s : Int, (0 ≤ s ∧ s < 3) ∧ (y = 39 + 5 * s ∨ y = 41 + 5 * s) := ⟨(y - 38) / 5, by omega⟩
    obtain ⟨g1, g2, g3, g4, g5, -, g7, -⟩ := SE s hs.1 hs.2
    obtain ⟨⟨⟨u1, -, -⟩, ⟨-, -, u6, -, -⟩, -⟩, u10⟩ := SV s hs.1 hs.2
    rcases hy with z | z
    · subst z
      rw [g3 1 (by decide)]
      rcases N5 s hs.1 hs.2 with z | z
      · omega
      · omega
    · subst z
      rw [g7 5 (by decide)] at p
      omega
