/-! ===== ROUND: the round finished ===== -/
set_option maxRecDepth 65536
def zGr (x : Int) : Prop := x = 0 ∨ ∃ i : Int, (0 ≤ i ∧ i < 8) ∧ x = 15 + 2 * i
theorem zGr_r {x : Int} (h : zGr x) : 0 ≤ x ∧ x ≤ 29 := by
  rcases h with h | ⟨i, h1, h2⟩ <;> omega
theorem zgm_p {e : zm_D} {q h z a k : Int} (h1 : a ≠ 34 ∨ k ≠ 9) : zgm e q h z a k = e a k := by
  unfold zgm
  repeat' split
  all_goals first | rfl | exact zm_un h1
theorem zstl_o {e : zm_D} {q h z a j : Int} (h34 : a ≠ 34 ∨ j ≠ 9) (h31 : a ≠ 31) (h4 : a ≠ 4) (hz : a ≠ z ∨ j < 4 ∨ 6 < j) (hg : a ≠ e q 2 ∨ j ≠ 2) : zstl e q h z a j = e a j := by
  unfold zstl
  repeat' split
  · rfl
  · exact (zm_un (Or.inl h31)).trans ((zse_o hz).trans (zgm_p h34))
  · exact (zm_un hg).trans ((zpo_o h4 h31).trans ((zse_o hz).trans (zgm_p h34)))
theorem zse_4 {e : zm_D} {h : Int} : zse e h h 4 = 0 := (zm_un (Or.inr (by decide))).trans ((zm_un (Or.inr (by decide))).trans (zm_ue rfl rfl))
theorem zse_5 {e : zm_D} {h : Int} : zse e h h 5 = 0 := (zm_un (Or.inr (by decide))).trans (zm_ue rfl rfl)
theorem zse_6 {e : zm_D} {h : Int} : zse e h h 6 = 1 := zm_ue rfl rfl
theorem zstl_z {e : zm_D} {q h z : Int} (h31 : z ≠ 31) (h4 : z ≠ 4) (hg : z ≠ e q 2) : (zstl e q h z z 4 = e z 4 ∨ zstl e q h z z 4 = 0) ∧ (zstl e q h z z 5 = e z 5 ∨ zstl e q h z z 5 = 0) ∧ (zstl e q h z z 6 = e z 6 ∨ zstl e q h z z 6 = 1) := by
  unfold zstl
  repeat' split
  · exact ⟨Or.inl rfl, Or.inl rfl, Or.inl rfl⟩
  · exact ⟨Or.inr ((zm_un (Or.inl h31)).trans zse_4), Or.inr ((zm_un (Or.inl h31)).trans zse_5), Or.inr ((zm_un (Or.inl h31)).trans zse_6)⟩
  · exact ⟨Or.inr ((zm_un (Or.inl hg)).trans ((zpo_o h4 h31).trans zse_4)), Or.inr ((zm_un (Or.inl hg)).trans ((zpo_o h4 h31).trans zse_5)), Or.inr ((zm_un (Or.inl hg)).trans ((zpo_o h4 h31).trans zse_6))⟩
theorem zpo_t {e : zm_D} {t x : Int} : zpo e t x t 1 = e t 1 + zlk x (e t 1) - x := zm_ue rfl rfl
theorem zstl_31 {e : zm_D} {q h z : Int} (h31 : z ≠ 31) (hg : e q 2 ≠ 31) (h0 : 0 ≤ e 31 1) (z4 : 0 ≤ e z 4 ∧ e z 4 ≤ 100000) : 0 ≤ zstl e q h z 31 1 ∧ zstl e q h z 31 1 ≤ e 31 1 + 100000 := by
  have e31 : zse (zgm e q h z) z 31 1 = e 31 1 := (zse_o (Or.inl (Ne.symm h31))).trans (zgm_o (by decide))
  unfold zstl
  repeat' split
  · omega
  · rw [zm_ue rfl rfl]; omega
  · rw [zm_un (Or.inl (Ne.symm hg)), zpo_t, e31]
    rcases Classical.em (e 31 1 < zgn e q h z) with c | c
    · rw [zlk_t c]; omega
    · rw [zlk_f (by omega)]; omega
theorem zE14u {S : zSs} {D n u : Nat} {g : Int → zk_K} {e : zm_D} {Q : ((Option zv_V) ⊕ Nat) → Nat → zk_S → zm_D → Nat → Prop} {q h c k b z y : Int} (H : zSe q h c k b) (HZ : zHd z y) (hq : z ≠ 34 ∧ z ≠ 31 ∧ z ≠ 4 ∧ (∀ i : Int, z ≠ 15 + 2 * i ∨ i < 0 ∨ 7 < i)) (hp : zGr (e q 2)) (hm : 0 ≤ e h 2 ∧ e h 2 ≤ 1000) (hz : 0 ≤ e h 3 ∧ e h 3 ≤ 1) (hs : 0 ≤ e h 1 ∧ e h 1 ≤ 22) (h3 : 0 ≤ e q 3 ∧ e q 3 ≤ 1) (dm : 0 ≤ e 36 2 ∧ e 36 2 ≤ 1000) (dz : 0 ≤ e 36 3 ∧ e 36 3 ≤ 1) (ds : 0 ≤ e 36 1 ∧ e 36 1 ≤ 22) (zm : 0 ≤ e z 2 ∧ e z 2 ≤ 1000) (zz : 0 ≤ e z 3 ∧ e z 3 ≤ 1) (z4 : 0 ≤ e z 4 ∧ e z 4 ≤ 100000) (h8 : 0 ≤ e 34 8 ∧ e 34 8 ≤ 1) (ht : zB2 (e 31 1)) (hD : 3 < D) : zE S D 14 [zv_a 34, zv_a q, zv_a z] n (zSg g) (zDg e) u Q ↔ Q (.inl none) n (zSg g) (zDg (zstl e q h z)) u := by
  rcases hp with hp | ⟨i, hi, hp⟩
  · rw [show zstl e q h z = e from if_pos (Or.inl hp)]
    exact zE14_0 H HZ hp
  · by_cases z0 : e z 4 = 0
    · rw [show zstl e q h z = e from if_pos (Or.inr z0)]
      exact zE14_s H HZ hi hp z0
    · exact zE14 H HZ hq hi hp z0 hm hz hs h3 dm dz ds zm zz z4 h8 ht hD
/-- a seat settled behind the round -/
def zfs (e : zm_D) (q h k : Int) : zm_D := zm_u (zm_u (zm_u (zstl (zstl e q h h) q h k) h 6 0) k 6 0) q 2 0
/-- what the settling needs of the memory; the tray of the cards is at most B -/
def zFI (B : Int) (e : zm_D) : Prop := zHO e ∧ ((0 ≤ e 36 1 ∧ e 36 1 ≤ 22) ∧ (0 ≤ e 36 2 ∧ e 36 2 ≤ 1000) ∧ (0 ≤ e 36 3 ∧ e 36 3 ≤ 1)) ∧ (0 ≤ e 34 8 ∧ e 34 8 ≤ 1) ∧ (0 ≤ e 31 1 ∧ e 31 1 ≤ B) ∧ ((0 ≤ e 38 3 ∧ e 38 3 ≤ 1) ∧ (0 ≤ e 43 3 ∧ e 43 3 ≤ 1) ∧ (0 ≤ e 48 3 ∧ e 48 3 ≤ 1)) ∧ (zGr (e 38 2) ∧ zGr (e 43 2) ∧ zGr (e 48 2))
theorem zFI_38 {e : zm_D} {B : Int} (HF : zFI B e) : zFI (B + 200000) (zfs e 38 39 41) := by
  obtain ⟨⟨⟨a1, a2, a3, a4, a5, a6⟩, ⟨b1, b2, b3, b4, b5, b6⟩, ⟨c1, c2, c3, c4, c5, c6⟩, ⟨d1, d2, d3, d4, d5, d6⟩, ⟨i1, i2, i3, i4, i5, i6⟩, ⟨j1, j2, j3, j4, j5, j6⟩⟩, ⟨dd1, dd2, dd3⟩, h8, ht, ⟨s0, s1, s2⟩, ⟨g0, g1, g2⟩⟩ := HF
  have gr := zGr_r g0
  have E1 : ∀ a j : Int, (a ≠ 34 ∨ j ≠ 9) → a ≠ 31 → a ≠ 4 → (a ≠ 39 ∨ j < 4 ∨ 6 < j) → 30 ≤ a → zstl e 38 39 39 a j = e a j := fun a j q1 q2 q3 q4 q5 => zstl_o q1 q2 q3 q4 (Or.inl (by omega))
  have p2 : zstl e 38 39 39 38 2 = e 38 2 := E1 38 2 (by decide) (by decide) (by decide) (by decide) (by decide)
  have E2 : ∀ a j : Int, (a ≠ 34 ∨ j ≠ 9) → a ≠ 31 → a ≠ 4 → (a ≠ 39 ∨ j < 4 ∨ 6 < j) → (a ≠ 41 ∨ j < 4 ∨ 6 < j) → 30 ≤ a → zstl (zstl e 38 39 39) 38 39 41 a j = e a j := fun a j q1 q2 q3 q4 q6 q5 => (zstl_o q1 q2 q3 q6 (Or.inl (by rw [p2]; omega))).trans (E1 a j q1 q2 q3 q4 q5)
  have E3 : ∀ a j : Int, (a ≠ 34 ∨ j ≠ 9) → a ≠ 31 → a ≠ 4 → (a ≠ 39 ∨ j < 4 ∨ 6 < j) → (a ≠ 41 ∨ j < 4 ∨ 6 < j) → (a ≠ 38 ∨ j ≠ 2) → 30 ≤ a → zfs e 38 39 41 a j = e a j := fun a j q1 q2 q3 q4 q6 q7 q5 => (zm_un q7).trans ((zm_un (by omega)).trans ((zm_un (by omega)).trans (E2 a j q1 q2 q3 q4 q6 q5)))
  have Z1 := @zstl_z e 38 39 39 (by decide) (by decide) (by omega)
  have Z2 := @zstl_z (zstl e 38 39 39) 38 39 41 (by decide) (by decide) (by rw [p2]; omega)
  have H4 : zfs e 38 39 41 39 4 = zstl e 38 39 39 39 4 := (zm_un (by decide)).trans ((zm_un (by decide)).trans ((zm_un (by decide)).trans (zstl_o (by decide) (by decide) (by decide) (by decide) (Or.inl (by rw [p2]; omega)))))
  have H5 : zfs e 38 39 41 39 5 = zstl e 38 39 39 39 5 := (zm_un (by decide)).trans ((zm_un (by decide)).trans ((zm_un (by decide)).trans (zstl_o (by decide) (by decide) (by decide) (by decide) (Or.inl (by rw [p2]; omega)))))
  have H6 : zfs e 38 39 41 39 6 = 0 := (zm_un (by decide)).trans ((zm_un (by decide)).trans (zm_ue rfl rfl))
  have K4 : zfs e 38 39 41 41 4 = zstl (zstl e 38 39 39) 38 39 41 41 4 := (zm_un (by decide)).trans ((zm_un (by decide)).trans (zm_un (by decide)))
  have K5 : zfs e 38 39 41 41 5 = zstl (zstl e 38 39 39) 38 39 41 41 5 := (zm_un (by decide)).trans ((zm_un (by decide)).trans (zm_un (by decide)))
  have K6 : zfs e 38 39 41 41 6 = 0 := (zm_un (by decide)).trans (zm_ue rfl rfl)
  have K40 := E1 41 4 (by decide) (by decide) (by decide) (by decide) (by decide)
  have K50 := E1 41 5 (by decide) (by decide) (by decide) (by decide) (by decide)
  have T1 := @zstl_31 e 38 39 39 (by decide) (by omega) ht.1 a4
  have T2 := @zstl_31 (zstl e 38 39 39) 38 39 41 (by decide) (by rw [p2]; omega) T1.1 (by rw [K40]; exact b4)
  have T3 : zfs e 38 39 41 31 1 = zstl (zstl e 38 39 39) 38 39 41 31 1 := (zm_un (by decide)).trans ((zm_un (by decide)).trans (zm_un (by decide)))
  have G0 : zfs e 38 39 41 38 2 = 0 := zm_ue rfl rfl
  have F : ∀ a j : Int, (a ≠ 34 ∨ j ≠ 9) ∧ a ≠ 31 ∧ a ≠ 4 ∧ (a ≠ 39 ∨ j < 4 ∨ 6 < j) ∧ (a ≠ 41 ∨ j < 4 ∨ 6 < j) ∧ (a ≠ 38 ∨ j ≠ 2) ∧ 30 ≤ a → zfs e 38 39 41 a j = e a j := fun a j q1 => E3 a j q1.1 q1.2.1 q1.2.2.1 q1.2.2.2.1 q1.2.2.2.2.1 q1.2.2.2.2.2.1 q1.2.2.2.2.2.2
  unfold zFI zHO zHo

  rw [F 39 1 (by decide), F 39 2 (by decide), F 39 3 (by decide), F 41 1 (by decide), F 41 2 (by decide), F 41 3 (by decide), F 44 1 (by decide), F 44 2 (by decide), F 44 3 (by decide), F 44 4 (by decide), F 44 5 (by decide), F 44 6 (by decide), F 46 1 (by decide), F 46 2 (by decide), F 46 3 (by decide), F 46 4 (by decide), F 46 5 (by decide), F 46 6 (by decide), F 49 1 (by decide), F 49 2 (by decide), F 49 3 (by decide), F 49 4 (by decide), F 49 5 (by decide), F 49 6 (by decide), F 51 1 (by decide), F 51 2 (by decide), F 51 3 (by decide), F 51 4 (by decide), F 51 5 (by decide), F 51 6 (by decide), F 36 1 (by decide), F 36 2 (by decide), F 36 3 (by decide), F 34 8 (by decide), F 38 3 (by decide), F 43 3 (by decide), F 48 3 (by decide), F 43 2 (by decide), F 48 2 (by decide), H4, H5, H6, K4, K5, K6, T3, G0]
  rw [K40, K50] at Z2
  have zg : zGr 0 := Or.inl rfl
  refine ⟨⟨?_, ?_, ?_, ?_, ?_, ?_⟩, ⟨dd1, dd2, dd3⟩, h8, by omega, ⟨s0, s1, s2⟩, ⟨by assumption, by assumption, by assumption⟩⟩
  all_goals refine ⟨by omega, by omega, by omega, by omega, by omega, by omega⟩
theorem zFI_43 {e : zm_D} {B : Int} (HF : zFI B e) : zFI (B + 200000) (zfs e 43 44 46) := by
  obtain ⟨⟨⟨a1, a2, a3, a4, a5, a6⟩, ⟨b1, b2, b3, b4, b5, b6⟩, ⟨c1, c2, c3, c4, c5, c6⟩, ⟨d1, d2, d3, d4, d5, d6⟩, ⟨i1, i2, i3, i4, i5, i6⟩, ⟨j1, j2, j3, j4, j5, j6⟩⟩, ⟨dd1, dd2, dd3⟩, h8, ht, ⟨s0, s1, s2⟩, ⟨g0, g1, g2⟩⟩ := HF
  have gr := zGr_r g1
  have E1 : ∀ a j : Int, (a ≠ 34 ∨ j ≠ 9) → a ≠ 31 → a ≠ 4 → (a ≠ 44 ∨ j < 4 ∨ 6 < j) → 30 ≤ a → zstl e 43 44 44 a j = e a j := fun a j q1 q2 q3 q4 q5 => zstl_o q1 q2 q3 q4 (Or.inl (by omega))
  have p2 : zstl e 43 44 44 43 2 = e 43 2 := E1 43 2 (by decide) (by decide) (by decide) (by decide) (by decide)
  have E2 : ∀ a j : Int, (a ≠ 34 ∨ j ≠ 9) → a ≠ 31 → a ≠ 4 → (a ≠ 44 ∨ j < 4 ∨ 6 < j) → (a ≠ 46 ∨ j < 4 ∨ 6 < j) → 30 ≤ a → zstl (zstl e 43 44 44) 43 44 46 a j = e a j := fun a j q1 q2 q3 q4 q6 q5 => (zstl_o q1 q2 q3 q6 (Or.inl (by rw [p2]; omega))).trans (E1 a j q1 q2 q3 q4 q5)
  have E3 : ∀ a j : Int, (a ≠ 34 ∨ j ≠ 9) → a ≠ 31 → a ≠ 4 → (a ≠ 44 ∨ j < 4 ∨ 6 < j) → (a ≠ 46 ∨ j < 4 ∨ 6 < j) → (a ≠ 43 ∨ j ≠ 2) → 30 ≤ a → zfs e 43 44 46 a j = e a j := fun a j q1 q2 q3 q4 q6 q7 q5 => (zm_un q7).trans ((zm_un (by omega)).trans ((zm_un (by omega)).trans (E2 a j q1 q2 q3 q4 q6 q5)))
  have Z1 := @zstl_z e 43 44 44 (by decide) (by decide) (by omega)
  have Z2 := @zstl_z (zstl e 43 44 44) 43 44 46 (by decide) (by decide) (by rw [p2]; omega)
  have H4 : zfs e 43 44 46 44 4 = zstl e 43 44 44 44 4 := (zm_un (by decide)).trans ((zm_un (by decide)).trans ((zm_un (by decide)).trans (zstl_o (by decide) (by decide) (by decide) (by decide) (Or.inl (by rw [p2]; omega)))))
  have H5 : zfs e 43 44 46 44 5 = zstl e 43 44 44 44 5 := (zm_un (by decide)).trans ((zm_un (by decide)).trans ((zm_un (by decide)).trans (zstl_o (by decide) (by decide) (by decide) (by decide) (Or.inl (by rw [p2]; omega)))))
  have H6 : zfs e 43 44 46 44 6 = 0 := (zm_un (by decide)).trans ((zm_un (by decide)).trans (zm_ue rfl rfl))
  have K4 : zfs e 43 44 46 46 4 = zstl (zstl e 43 44 44) 43 44 46 46 4 := (zm_un (by decide)).trans ((zm_un (by decide)).trans (zm_un (by decide)))
  have K5 : zfs e 43 44 46 46 5 = zstl (zstl e 43 44 44) 43 44 46 46 5 := (zm_un (by decide)).trans ((zm_un (by decide)).trans (zm_un (by decide)))
  have K6 : zfs e 43 44 46 46 6 = 0 := (zm_un (by decide)).trans (zm_ue rfl rfl)
  have K40 := E1 46 4 (by decide) (by decide) (by decide) (by decide) (by decide)
  have K50 := E1 46 5 (by decide) (by decide) (by decide) (by decide) (by decide)
  have T1 := @zstl_31 e 43 44 44 (by decide) (by omega) ht.1 c4
  have T2 := @zstl_31 (zstl e 43 44 44) 43 44 46 (by decide) (by rw [p2]; omega) T1.1 (by rw [K40]; exact d4)
  have T3 : zfs e 43 44 46 31 1 = zstl (zstl e 43 44 44) 43 44 46 31 1 := (zm_un (by decide)).trans ((zm_un (by decide)).trans (zm_un (by decide)))
  have G0 : zfs e 43 44 46 43 2 = 0 := zm_ue rfl rfl
  have F : ∀ a j : Int, (a ≠ 34 ∨ j ≠ 9) ∧ a ≠ 31 ∧ a ≠ 4 ∧ (a ≠ 44 ∨ j < 4 ∨ 6 < j) ∧ (a ≠ 46 ∨ j < 4 ∨ 6 < j) ∧ (a ≠ 43 ∨ j ≠ 2) ∧ 30 ≤ a → zfs e 43 44 46 a j = e a j := fun a j q1 => E3 a j q1.1 q1.2.1 q1.2.2.1 q1.2.2.2.1 q1.2.2.2.2.1 q1.2.2.2.2.2.1 q1.2.2.2.2.2.2
  unfold zFI zHO zHo

  rw [F 39 1 (by decide), F 39 2 (by decide), F 39 3 (by decide), F 39 4 (by decide), F 39 5 (by decide), F 39 6 (by decide), F 41 1 (by decide), F 41 2 (by decide), F 41 3 (by decide), F 41 4 (by decide), F 41 5 (by decide), F 41 6 (by decide), F 44 1 (by decide), F 44 2 (by decide), F 44 3 (by decide), F 46 1 (by decide), F 46 2 (by decide), F 46 3 (by decide), F 49 1 (by decide), F 49 2 (by decide), F 49 3 (by decide), F 49 4 (by decide), F 49 5 (by decide), F 49 6 (by decide), F 51 1 (by decide), F 51 2 (by decide), F 51 3 (by decide), F 51 4 (by decide), F 51 5 (by decide), F 51 6 (by decide), F 36 1 (by decide), F 36 2 (by decide), F 36 3 (by decide), F 34 8 (by decide), F 38 3 (by decide), F 43 3 (by decide), F 48 3 (by decide), F 38 2 (by decide), F 48 2 (by decide), H4, H5, H6, K4, K5, K6, T3, G0]
  rw [K40, K50] at Z2
  have zg : zGr 0 := Or.inl rfl
  refine ⟨⟨?_, ?_, ?_, ?_, ?_, ?_⟩, ⟨dd1, dd2, dd3⟩, h8, by omega, ⟨s0, s1, s2⟩, ⟨by assumption, by assumption, by assumption⟩⟩
  all_goals refine ⟨by omega, by omega, by omega, by omega, by omega, by omega⟩
theorem zFI_48 {e : zm_D} {B : Int} (HF : zFI B e) : zFI (B + 200000) (zfs e 48 49 51) := by
  obtain ⟨⟨⟨a1, a2, a3, a4, a5, a6⟩, ⟨b1, b2, b3, b4, b5, b6⟩, ⟨c1, c2, c3, c4, c5, c6⟩, ⟨d1, d2, d3, d4, d5, d6⟩, ⟨i1, i2, i3, i4, i5, i6⟩, ⟨j1, j2, j3, j4, j5, j6⟩⟩, ⟨dd1, dd2, dd3⟩, h8, ht, ⟨s0, s1, s2⟩, ⟨g0, g1, g2⟩⟩ := HF
  have gr := zGr_r g2
  have E1 : ∀ a j : Int, (a ≠ 34 ∨ j ≠ 9) → a ≠ 31 → a ≠ 4 → (a ≠ 49 ∨ j < 4 ∨ 6 < j) → 30 ≤ a → zstl e 48 49 49 a j = e a j := fun a j q1 q2 q3 q4 q5 => zstl_o q1 q2 q3 q4 (Or.inl (by omega))
  have p2 : zstl e 48 49 49 48 2 = e 48 2 := E1 48 2 (by decide) (by decide) (by decide) (by decide) (by decide)
  have E2 : ∀ a j : Int, (a ≠ 34 ∨ j ≠ 9) → a ≠ 31 → a ≠ 4 → (a ≠ 49 ∨ j < 4 ∨ 6 < j) → (a ≠ 51 ∨ j < 4 ∨ 6 < j) → 30 ≤ a → zstl (zstl e 48 49 49) 48 49 51 a j = e a j := fun a j q1 q2 q3 q4 q6 q5 => (zstl_o q1 q2 q3 q6 (Or.inl (by rw [p2]; omega))).trans (E1 a j q1 q2 q3 q4 q5)
  have E3 : ∀ a j : Int, (a ≠ 34 ∨ j ≠ 9) → a ≠ 31 → a ≠ 4 → (a ≠ 49 ∨ j < 4 ∨ 6 < j) → (a ≠ 51 ∨ j < 4 ∨ 6 < j) → (a ≠ 48 ∨ j ≠ 2) → 30 ≤ a → zfs e 48 49 51 a j = e a j := fun a j q1 q2 q3 q4 q6 q7 q5 => (zm_un q7).trans ((zm_un (by omega)).trans ((zm_un (by omega)).trans (E2 a j q1 q2 q3 q4 q6 q5)))
  have Z1 := @zstl_z e 48 49 49 (by decide) (by decide) (by omega)
  have Z2 := @zstl_z (zstl e 48 49 49) 48 49 51 (by decide) (by decide) (by rw [p2]; omega)
  have H4 : zfs e 48 49 51 49 4 = zstl e 48 49 49 49 4 := (zm_un (by decide)).trans ((zm_un (by decide)).trans ((zm_un (by decide)).trans (zstl_o (by decide) (by decide) (by decide) (by decide) (Or.inl (by rw [p2]; omega)))))
  have H5 : zfs e 48 49 51 49 5 = zstl e 48 49 49 49 5 := (zm_un (by decide)).trans ((zm_un (by decide)).trans ((zm_un (by decide)).trans (zstl_o (by decide) (by decide) (by decide) (by decide) (Or.inl (by rw [p2]; omega)))))
  have H6 : zfs e 48 49 51 49 6 = 0 := (zm_un (by decide)).trans ((zm_un (by decide)).trans (zm_ue rfl rfl))
  have K4 : zfs e 48 49 51 51 4 = zstl (zstl e 48 49 49) 48 49 51 51 4 := (zm_un (by decide)).trans ((zm_un (by decide)).trans (zm_un (by decide)))
  have K5 : zfs e 48 49 51 51 5 = zstl (zstl e 48 49 49) 48 49 51 51 5 := (zm_un (by decide)).trans ((zm_un (by decide)).trans (zm_un (by decide)))
  have K6 : zfs e 48 49 51 51 6 = 0 := (zm_un (by decide)).trans (zm_ue rfl rfl)
  have K40 := E1 51 4 (by decide) (by decide) (by decide) (by decide) (by decide)
  have K50 := E1 51 5 (by decide) (by decide) (by decide) (by decide) (by decide)
  have T1 := @zstl_31 e 48 49 49 (by decide) (by omega) ht.1 i4
  have T2 := @zstl_31 (zstl e 48 49 49) 48 49 51 (by decide) (by rw [p2]; omega) T1.1 (by rw [K40]; exact j4)
  have T3 : zfs e 48 49 51 31 1 = zstl (zstl e 48 49 49) 48 49 51 31 1 := (zm_un (by decide)).trans ((zm_un (by decide)).trans (zm_un (by decide)))
  have G0 : zfs e 48 49 51 48 2 = 0 := zm_ue rfl rfl
  have F : ∀ a j : Int, (a ≠ 34 ∨ j ≠ 9) ∧ a ≠ 31 ∧ a ≠ 4 ∧ (a ≠ 49 ∨ j < 4 ∨ 6 < j) ∧ (a ≠ 51 ∨ j < 4 ∨ 6 < j) ∧ (a ≠ 48 ∨ j ≠ 2) ∧ 30 ≤ a → zfs e 48 49 51 a j = e a j := fun a j q1 => E3 a j q1.1 q1.2.1 q1.2.2.1 q1.2.2.2.1 q1.2.2.2.2.1 q1.2.2.2.2.2.1 q1.2.2.2.2.2.2
  unfold zFI zHO zHo

  rw [F 39 1 (by decide), F 39 2 (by decide), F 39 3 (by decide), F 39 4 (by decide), F 39 5 (by decide), F 39 6 (by decide), F 41 1 (by decide), F 41 2 (by decide), F 41 3 (by decide), F 41 4 (by decide), F 41 5 (by decide), F 41 6 (by decide), F 44 1 (by decide), F 44 2 (by decide), F 44 3 (by decide), F 44 4 (by decide), F 44 5 (by decide), F 44 6 (by decide), F 46 1 (by decide), F 46 2 (by decide), F 46 3 (by decide), F 46 4 (by decide), F 46 5 (by decide), F 46 6 (by decide), F 49 1 (by decide), F 49 2 (by decide), F 49 3 (by decide), F 51 1 (by decide), F 51 2 (by decide), F 51 3 (by decide), F 36 1 (by decide), F 36 2 (by decide), F 36 3 (by decide), F 34 8 (by decide), F 38 3 (by decide), F 43 3 (by decide), F 48 3 (by decide), F 38 2 (by decide), F 43 2 (by decide), H4, H5, H6, K4, K5, K6, T3, G0]
  rw [K40, K50] at Z2
  have zg : zGr 0 := Or.inl rfl
  refine ⟨⟨?_, ?_, ?_, ?_, ?_, ?_⟩, ⟨dd1, dd2, dd3⟩, h8, by omega, ⟨s0, s1, s2⟩, ⟨by assumption, by assumption, by assumption⟩⟩
  all_goals refine ⟨by omega, by omega, by omega, by omega, by omega, by omega⟩
theorem zES_38 {S : zSs} {D n u : Nat} {g : Int → zk_K} {e : zm_D} {B : Int} (hB : B ≤ 1000000000) (HF : zFI B e) (hD : 3 < D) : (∀ P : ((Option zv_V) ⊕ Nat) → Nat → zk_S → zm_D → Nat → Prop, zE S D 14 [zv_a 34, zv_a 38, zv_a 39] n (zSg g) (zDg e) u P ↔ P (.inl none) n (zSg g) (zDg (zstl e 38 39 39)) u) ∧ (∀ P : ((Option zv_V) ⊕ Nat) → Nat → zk_S → zm_D → Nat → Prop, zE S D 14 [zv_a 34, zv_a 38, zv_a 41] n (zSg g) (zDg (zstl e 38 39 39)) u P ↔ P (.inl none) n (zSg g) (zDg (zstl (zstl e 38 39 39) 38 39 41)) u) := by
  obtain ⟨⟨⟨a1, a2, a3, a4, a5, a6⟩, ⟨b1, b2, b3, b4, b5, b6⟩, ⟨c1, c2, c3, c4, c5, c6⟩, ⟨d1, d2, d3, d4, d5, d6⟩, ⟨i1, i2, i3, i4, i5, i6⟩, ⟨j1, j2, j3, j4, j5, j6⟩⟩, ⟨dd1, dd2, dd3⟩, h8, ht, ⟨s0, s1, s2⟩, ⟨g0, g1, g2⟩⟩ := HF
  have gr := zGr_r g0
  have E1 : ∀ a j : Int, (a ≠ 34 ∨ j ≠ 9) ∧ a ≠ 31 ∧ a ≠ 4 ∧ (a ≠ 39 ∨ j < 4 ∨ 6 < j) ∧ 30 ≤ a → zstl e 38 39 39 a j = e a j := fun a j q1 => zstl_o q1.1 q1.2.1 q1.2.2.1 q1.2.2.2.1 (Or.inl (by omega))
  have T1 := @zstl_31 e 38 39 39 (by decide) (by omega) ht.1 a4
  have y1 : ∀ i : Int, (39 : Int) ≠ 15 + 2 * i ∨ i < 0 ∨ 7 < i := fun i => by omega
  have y2 : ∀ i : Int, (41 : Int) ≠ 15 + 2 * i ∨ i < 0 ∨ 7 < i := fun i => by omega
  refine ⟨fun P => zE14u zSe_38 zHd_39 ⟨by decide, by decide, by decide, y1⟩ g0 a2 a3 a1 s0 dd2 dd3 dd1 a2 a3 a4 h8 (by unfold zB2; omega) hD, fun P => ?_⟩
  refine zE14u zSe_38 zHd_41 ⟨by decide, by decide, by decide, y2⟩ ?_ ?_ ?_ ?_ ?_ ?_ ?_ ?_ ?_ ?_ ?_ ?_ (by unfold zB2; omega) hD
  all_goals first
    | (rw [E1 38 2 (by decide)]; exact g0)
    | (rw [E1 39 2 (by decide)]; exact a2)
    | (rw [E1 39 3 (by decide)]; exact a3)
    | (rw [E1 39 1 (by decide)]; exact a1)
    | (rw [E1 38 3 (by decide)]; exact s0)
    | (rw [E1 36 2 (by decide)]; exact dd2)
    | (rw [E1 36 3 (by decide)]; exact dd3)
    | (rw [E1 36 1 (by decide)]; exact dd1)
    | (rw [E1 41 2 (by decide)]; exact b2)
    | (rw [E1 41 3 (by decide)]; exact b3)
    | (rw [E1 41 4 (by decide)]; exact b4)
    | (rw [E1 34 8 (by decide)]; exact h8)
theorem zES_43 {S : zSs} {D n u : Nat} {g : Int → zk_K} {e : zm_D} {B : Int} (hB : B ≤ 1000000000) (HF : zFI B e) (hD : 3 < D) : (∀ P : ((Option zv_V) ⊕ Nat) → Nat → zk_S → zm_D → Nat → Prop, zE S D 14 [zv_a 34, zv_a 43, zv_a 44] n (zSg g) (zDg e) u P ↔ P (.inl none) n (zSg g) (zDg (zstl e 43 44 44)) u) ∧ (∀ P : ((Option zv_V) ⊕ Nat) → Nat → zk_S → zm_D → Nat → Prop, zE S D 14 [zv_a 34, zv_a 43, zv_a 46] n (zSg g) (zDg (zstl e 43 44 44)) u P ↔ P (.inl none) n (zSg g) (zDg (zstl (zstl e 43 44 44) 43 44 46)) u) := by
  obtain ⟨⟨⟨a1, a2, a3, a4, a5, a6⟩, ⟨b1, b2, b3, b4, b5, b6⟩, ⟨c1, c2, c3, c4, c5, c6⟩, ⟨d1, d2, d3, d4, d5, d6⟩, ⟨i1, i2, i3, i4, i5, i6⟩, ⟨j1, j2, j3, j4, j5, j6⟩⟩, ⟨dd1, dd2, dd3⟩, h8, ht, ⟨s0, s1, s2⟩, ⟨g0, g1, g2⟩⟩ := HF
  have gr := zGr_r g1
  have E1 : ∀ a j : Int, (a ≠ 34 ∨ j ≠ 9) ∧ a ≠ 31 ∧ a ≠ 4 ∧ (a ≠ 44 ∨ j < 4 ∨ 6 < j) ∧ 30 ≤ a → zstl e 43 44 44 a j = e a j := fun a j q1 => zstl_o q1.1 q1.2.1 q1.2.2.1 q1.2.2.2.1 (Or.inl (by omega))
  have T1 := @zstl_31 e 43 44 44 (by decide) (by omega) ht.1 c4
  have y1 : ∀ i : Int, (44 : Int) ≠ 15 + 2 * i ∨ i < 0 ∨ 7 < i := fun i => by omega
  have y2 : ∀ i : Int, (46 : Int) ≠ 15 + 2 * i ∨ i < 0 ∨ 7 < i := fun i => by omega
  refine ⟨fun P => zE14u zSe_43 zHd_44 ⟨by decide, by decide, by decide, y1⟩ g1 c2 c3 c1 s1 dd2 dd3 dd1 c2 c3 c4 h8 (by unfold zB2; omega) hD, fun P => ?_⟩
  refine zE14u zSe_43 zHd_46 ⟨by decide, by decide, by decide, y2⟩ ?_ ?_ ?_ ?_ ?_ ?_ ?_ ?_ ?_ ?_ ?_ ?_ (by unfold zB2; omega) hD
  all_goals first
    | (rw [E1 43 2 (by decide)]; exact g1)
    | (rw [E1 44 2 (by decide)]; exact c2)
    | (rw [E1 44 3 (by decide)]; exact c3)
    | (rw [E1 44 1 (by decide)]; exact c1)
    | (rw [E1 43 3 (by decide)]; exact s1)
    | (rw [E1 36 2 (by decide)]; exact dd2)
    | (rw [E1 36 3 (by decide)]; exact dd3)
    | (rw [E1 36 1 (by decide)]; exact dd1)
    | (rw [E1 46 2 (by decide)]; exact d2)
    | (rw [E1 46 3 (by decide)]; exact d3)
    | (rw [E1 46 4 (by decide)]; exact d4)
    | (rw [E1 34 8 (by decide)]; exact h8)
theorem zES_48 {S : zSs} {D n u : Nat} {g : Int → zk_K} {e : zm_D} {B : Int} (hB : B ≤ 1000000000) (HF : zFI B e) (hD : 3 < D) : (∀ P : ((Option zv_V) ⊕ Nat) → Nat → zk_S → zm_D → Nat → Prop, zE S D 14 [zv_a 34, zv_a 48, zv_a 49] n (zSg g) (zDg e) u P ↔ P (.inl none) n (zSg g) (zDg (zstl e 48 49 49)) u) ∧ (∀ P : ((Option zv_V) ⊕ Nat) → Nat → zk_S → zm_D → Nat → Prop, zE S D 14 [zv_a 34, zv_a 48, zv_a 51] n (zSg g) (zDg (zstl e 48 49 49)) u P ↔ P (.inl none) n (zSg g) (zDg (zstl (zstl e 48 49 49) 48 49 51)) u) := by
  obtain ⟨⟨⟨a1, a2, a3, a4, a5, a6⟩, ⟨b1, b2, b3, b4, b5, b6⟩, ⟨c1, c2, c3, c4, c5, c6⟩, ⟨d1, d2, d3, d4, d5, d6⟩, ⟨i1, i2, i3, i4, i5, i6⟩, ⟨j1, j2, j3, j4, j5, j6⟩⟩, ⟨dd1, dd2, dd3⟩, h8, ht, ⟨s0, s1, s2⟩, ⟨g0, g1, g2⟩⟩ := HF
  have gr := zGr_r g2
  have E1 : ∀ a j : Int, (a ≠ 34 ∨ j ≠ 9) ∧ a ≠ 31 ∧ a ≠ 4 ∧ (a ≠ 49 ∨ j < 4 ∨ 6 < j) ∧ 30 ≤ a → zstl e 48 49 49 a j = e a j := fun a j q1 => zstl_o q1.1 q1.2.1 q1.2.2.1 q1.2.2.2.1 (Or.inl (by omega))
  have T1 := @zstl_31 e 48 49 49 (by decide) (by omega) ht.1 i4
  have y1 : ∀ i : Int, (49 : Int) ≠ 15 + 2 * i ∨ i < 0 ∨ 7 < i := fun i => by omega
  have y2 : ∀ i : Int, (51 : Int) ≠ 15 + 2 * i ∨ i < 0 ∨ 7 < i := fun i => by omega
  refine ⟨fun P => zE14u zSe_48 zHd_49 ⟨by decide, by decide, by decide, y1⟩ g2 i2 i3 i1 s2 dd2 dd3 dd1 i2 i3 i4 h8 (by unfold zB2; omega) hD, fun P => ?_⟩
  refine zE14u zSe_48 zHd_51 ⟨by decide, by decide, by decide, y2⟩ ?_ ?_ ?_ ?_ ?_ ?_ ?_ ?_ ?_ ?_ ?_ ?_ (by unfold zB2; omega) hD
  all_goals first
    | (rw [E1 48 2 (by decide)]; exact g2)
    | (rw [E1 49 2 (by decide)]; exact i2)
    | (rw [E1 49 3 (by decide)]; exact i3)
    | (rw [E1 49 1 (by decide)]; exact i1)
    | (rw [E1 48 3 (by decide)]; exact s2)
    | (rw [E1 36 2 (by decide)]; exact dd2)
    | (rw [E1 36 3 (by decide)]; exact dd3)
    | (rw [E1 36 1 (by decide)]; exact dd1)
    | (rw [E1 51 2 (by decide)]; exact j2)
    | (rw [E1 51 3 (by decide)]; exact j3)
    | (rw [E1 51 4 (by decide)]; exact j4)
    | (rw [E1 34 8 (by decide)]; exact h8)
