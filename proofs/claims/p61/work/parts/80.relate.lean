/-! ===== RELATE: the relation of the class's memory and the reference's; frames ===== -/
set_option maxRecDepth 65536
theorem zIa_e {t : Int} {e d : zm_D} (H : zIa t e) (h : ∀ j : Int, d 1 j = e 1 j) : zIa (t + 1) d := by
  obtain ⟨a, b⟩ := H
  unfold zIa
  rw [h, h]
  omega
theorem zIg_e {t : Int} {e d : zm_D} (H : zIg t e) (h : ∀ i j : Int, 0 ≤ i → i < 8 → d (15 + 2 * i) j = e (15 + 2 * i) j) : zIg (t + 1) d := by
  intro i hi
  have a := H i hi
  have q := fun j => h i j hi.1 hi.2
  rw [q, q, q, q, q, q, q, q, q, q, q]
  omega
theorem zIv_e {t : Int} {e d : zm_D} (H : zIv t e) (h : d 4 0 = e 4 0) : zIv (t + 1) d := by
  unfold zIv at *
  rw [h]
  omega
theorem zIt_e {t : Int} {e d : zm_D} (H : zIt t e) (h : ∀ i : Int, 0 ≤ i → i < 3 → d (31 + i) 1 = e (31 + i) 1) : zIt (t + 1) d := by
  intro i h1 h2
  have a := H i h1 h2
  rw [h i h1 h2]
  omega
theorem zch_e {e d : zm_D} {r : Int} (h5 : d 5 4 = e 5 4) (h6 : ∀ j, d 6 j = e 6 j) : ∀ k : Nat, zch d r k = zch e r k := by
  intro k
  induction k with
  | zero => rfl
  | succ k ih => unfold zch; rw [ih, h5, h6]
theorem zwf_e {e d : zm_D} {r : Int} (h5 : ∀ j, d 5 j = e 5 j) (h6 : ∀ j, d 6 j = e 6 j) : zwf d r = zwf e r := by
  unfold zwf zhd1
  rw [zch_e (h5 4) h6, h5, h5, h5]
theorem zIs_e {e d : zm_D} (H : zIs e) (h : ∀ r j : Int, (r = 5 ∨ r = 6 ∨ r = 8 ∨ r = 9) → d r j = e r j) : zIs d := by
  obtain ⟨⟨a1, a2⟩, b, c, f, g⟩ := H
  have h5 := fun j => h 5 j (by omega)
  have h6 := fun j => h 6 j (by omega)
  have h8 := fun j => h 8 j (by omega)
  have h9 := fun j => h 9 j (by omega)
  refine ⟨⟨by rw [h5, h5]; exact a1, fun i q1 q2 => ?_⟩, by rw [h5]; exact b, by rw [h5]; exact c, fun r q1 q2 => by rw [zwf_e h5 h6, h8, h5]; exact f r q1 q2, fun r q1 q2 => by rw [h9]; exact g r q1 q2⟩
  rw [h5] at q1 q2
  rw [h6]
  exact a2 i q1 q2
theorem zIh_e {on p : Int} {e d : zm_D} {h c : Int} (H : zIh on e h c) (h1 : ∀ j : Int, 0 ≤ j → j ≤ 6 → d h j = e h j) (hc : ∀ j, d c j = e c j) (ho : p = on) : zIh p d h c := by
  subst ho
  obtain ⟨a1, a2, a3, a4, a5, a6, a7, ⟨a8, a9⟩, a10⟩ := H
  have g := fun j q1 q2 => h1 j q1 q2
  rw [← g 1 (by decide) (by decide)] at a1 a7 a8 a9 a10
  rw [← g 2 (by decide) (by decide)] at a1 a2 a7 a8
  rw [← g 3 (by decide) (by decide)] at a3 a7 a9
  rw [← g 4 (by decide) (by decide)] at a4 a7
  rw [← g 5 (by decide) (by decide)] at a5 a7
  rw [← g 6 (by decide) (by decide)] at a6
  refine ⟨a1, a2, a3, a4, a5, a6, a7, ⟨?_, ?_⟩, fun k q1 q2 => by rw [hc]; exact a10 k q1 q2⟩
  · rw [zms_e hc]; exact a8
  · rw [zma_e hc]; exact a9
theorem zIc_e {e d : zm_D} (H : zIc e) (h : ∀ r j : Int, (36 ≤ r ∧ r ≤ 52) → d r j = e r j) (h34 : ∀ j : Int, 4 ≤ j → j ≤ 8 → d 34 j = e 34 j) (h57 : d 5 7 = e 5 7) : zIc d := by
  obtain ⟨s, ⟨b1, b2, b3, ⟨b4, b5⟩, b6⟩, c, f⟩ := H
  have o4 := h34 4 (by decide) (by decide)
  refine ⟨fun i q1 q2 => ?_, ⟨?_, ?_, ?_, ⟨?_, ?_⟩, ?_⟩, ?_, ?_⟩
  · obtain ⟨x1, x2, x3, x4, x5, x6⟩ := s i q1 q2
    refine ⟨zIh_e x1 (fun j _ _ => h _ _ (by omega)) (fun j => h _ _ (by omega)) o4, zIh_e x2 (fun j _ _ => h _ _ (by omega)) (fun j => h _ _ (by omega)) o4, ?_, ?_, ?_, ?_⟩
    · rw [h _ _ (by omega)]; exact x3
    · rw [h _ _ (by omega)]; exact x4
    · rw [h _ _ (by omega), h _ _ (by omega), h _ _ (by omega)]; exact x5
    · rw [h _ _ (by omega), h _ _ (by omega), h _ _ (by omega), h _ _ (by omega)]; exact x6
  · rw [h _ _ (by omega), h _ _ (by omega)]; exact b1
  · rw [h _ _ (by omega)]; exact b2
  · rw [h _ _ (by omega)]; exact b3
  · rw [h _ _ (by omega), h _ _ (by omega), zms_e (fun k => h _ _ (by omega))]; exact b4
  · rw [h _ _ (by omega), h _ _ (by omega), zma_e (fun k => h _ _ (by omega))]; exact b5
  · intro k q1 q2
    rw [h _ _ (by omega)] at q2
    rw [h _ _ (by omega)]
    exact b6 k q1 q2
  · rw [o4, h34 5 (by decide) (by decide), h34 6 (by decide) (by decide), h34 7 (by decide) (by decide), h34 8 (by decide) (by decide)]; exact c
  · rw [o4, h57, h _ _ (by omega)]; exact f
theorem zIm_e {t : Int} {e d : zm_D} (H : zIm t e) (h : ∀ r j : Int, (58 ≤ r ∧ r ≤ 60) → d r j = e r j) : zIm (t + 1) d := by
  obtain ⟨⟨a1, a2, a3, a4⟩, b, c, f, g⟩ := H
  have q := fun j => h 58 j (by omega)
  refine ⟨⟨fun p h1 h2 => by rw [h _ _ (by omega)]; exact a1 p h1 h2, fun p h1 h2 => by rw [h _ _ (by omega)]; exact a2 p h1 h2, by rw [q]; exact a3, by rw [q]; exact a4⟩, by rw [q]; exact b, by rw [q]; exact c, by rw [q]; omega, by rw [q]; exact g⟩
theorem zIl_e {t : Int} {e d : zm_D} (H : zIl t e) (h : ∀ j : Int, (j = 2 ∨ j = 3) → d 12 j = e 12 j) (h13 : ∀ j : Int, d 13 j = e 13 j) : zIl (t + 1) d := ⟨zLo_e H.1 (h 2 (by omega)) h13, by rw [h 3 (by omega)]; exact H.2⟩
/-- the invariant stays where the class's cells stay (and a call more is counted) -/
theorem zIn_e {t : Int} {e d : zm_D} (H : zIn t e) (ht : t < 600) (h : ∀ r j : Int, 1 ≤ r → r ≤ 60 → d r j = e r j) : zIn (t + 1) d := by
  obtain ⟨it, ia, ig, iv, itr, is, ic, iw, im, il⟩ := H
  exact ⟨by omega, zIa_e ia (fun j => h _ _ (by omega) (by omega)), zIg_e ig (fun i j _ _ => h _ _ (by omega) (by omega)), zIv_e iv (h _ _ (by omega) (by omega)), zIt_e itr (fun i _ _ => h _ _ (by omega) (by omega)), zIs_e is (fun r j _ => h _ _ (by omega) (by omega)), zIc_e ic (fun r j _ => h _ _ (by omega) (by omega)) (fun j _ _ => h _ _ (by omega) (by omega)) (h _ _ (by omega) (by omega)), zWh_e iw (fun r j _ _ => h _ _ (by omega) (by omega)), zIm_e im (fun r j _ => h _ _ (by omega) (by omega)), zIl_e il (fun j _ => h _ _ (by omega) (by omega)) (fun j => h _ _ (by omega) (by omega))⟩
/-- figures: guests, vault, day, bound, pot, pool, broken -/
def zRa (d : zm_D) : Prop := (d 61 31 = d 1 9 ∧ d 61 32 = d 4 0 ∧ d 61 33 = d 1 10) ∧ (d 61 38 = d 34 9 ∧ d 61 40 = d 58 4 ∧ d 61 41 = d 58 3) ∧ d 61 48 = d 12 4
/-- guests -/
def zRg (d : zm_D) : Prop := ∀ i : Int, 0 ≤ i → i < 8 → (d 62 i = d (15 + 2 * i) 1 ∧ d 63 i = d (15 + 2 * i) 2 ∧ d 64 i = d (15 + 2 * i) 5 ∧ d 65 i = d (15 + 2 * i) 7 ∧ d 66 i = d (15 + 2 * i) 8 ∧ d 69 i = d (15 + 2 * i) 6) ∧ (d (71 + i) 0 = d (15 + 2 * i) 12 ∧ d (71 + i) 1 = d (15 + 2 * i) 10 ∧ d (80 + i) 0 = d (15 + 2 * i) 11 ∧ d (80 + i) 1 = d (15 + 2 * i) 9) ∧ (∀ k : Int, 0 ≤ k → k < 4 → d (152 + i) k = d (16 + 2 * i) k) ∧ (-1 ≤ d 68 i ∧ d 68 i ≤ 5000)
/-- limits: of those that are guests, and of those that are none yet -/
def zRh (d : zm_D) : Prop := ∀ i : Int, 0 ≤ i → i < 8 → (i < d 1 9 → d 67 i = d (15 + 2 * i) 3 ∧ ((d 68 i = -1 ∧ d (15 + 2 * i) 4 = d (15 + 2 * i) 3) ∨ (0 ≤ d 68 i ∧ d (15 + 2 * i) 4 = d 68 i))) ∧ (d 1 9 ≤ i → d (15 + 2 * i) 3 = 5000 ∧ d (15 + 2 * i) 4 = 5000)
/-- trays -/
def zRt (d : zm_D) : Prop := ∀ i : Int, 0 ≤ i → i < 3 → d 88 i = d (31 + i) 1 ∧ d 89 i = d (31 + i) 2 ∧ d 90 i = d (31 + i) 3 - d (31 + i) 4
/-- rules -/
def zRu (d : zm_D) : Prop := d 91 0 = d 34 5 ∧ d 91 1 = d 34 6 ∧ d 91 2 = d 34 7 ∧ d 91 3 = d 34 8
/-- the shoe -/
def zRs (d : zm_D) : Prop := (d 61 34 = d 5 6 ∧ d 61 35 = d 5 5 - d 5 4 ∧ d 61 37 = d 34 4) ∧ (∀ k : Int, 0 ≤ k → k < d 5 5 - d 5 4 → d 92 k = d 6 (d 5 4 + k)) ∧ (∀ r : Int, 1 ≤ r → r ≤ 10 → d 95 r = d 9 r) ∧ (d 34 4 = 0 → d 5 7 = 0) ∧ (d 34 4 = 1 → d 37 1 = d 5 7)
/-- the dealer -/
def zRd (d : zm_D) : Prop := d 61 36 = d 36 1 ∧ (∀ k : Int, 0 ≤ k → k < d 36 1 → d 121 k = d 37 k)
/-- seat s: who sits there; what is laid; its hands in a round and behind it -/
def zRq (d : zm_D) (s : Int) : Prop := ((d (38 + 5 * s) 2 = 0 ∧ d 96 s = -1) ∨ ((0 ≤ d 96 s ∧ d 96 s < 8) ∧ d (38 + 5 * s) 2 = 15 + 2 * d 96 s))
  ∧ (0 ≤ d 98 s ∧ d 98 s ≤ 2) ∧ ((0 ≤ d (118 + s) 0 ∧ d (118 + s) 0 ≤ 3) ∧ (0 ≤ d (118 + s) 1 ∧ d (118 + s) 1 ≤ 3)) ∧ ((0 ≤ d (114 + s) 0 ∧ d (114 + s) 0 ≤ 2000) ∧ (0 ≤ d (114 + s) 1 ∧ d (114 + s) 1 ≤ 2000))
  ∧ (d 34 4 = 0 → d 97 s = d (39 + 5 * s) 4 ∧ d (41 + 5 * s) 4 = 0 ∧ d (39 + 5 * s) 5 = 0 ∧ d (41 + 5 * s) 5 = 0 ∧ d (39 + 5 * s) 6 = 0 ∧ d (41 + 5 * s) 6 = 0 ∧ (d 97 s = 0 ↔ d 96 s = -1) ∧ d 97 s ≤ 1000)
  ∧ (d 34 4 = 1 → d 97 s = 0 ∧ (d 98 s = 0 → d 96 s = -1) ∧ (0 < d 98 s → 0 ≤ d 96 s) ∧ (d 98 s ≤ 1 → d (41 + 5 * s) 4 = 0 ∧ d (41 + 5 * s) 5 = 0) ∧ (d 98 s = 0 → d (39 + 5 * s) 4 = 0 ∧ d (39 + 5 * s) 5 = 0)
    ∧ (1 ≤ d 98 s → d (39 + 5 * s) 4 = d (114 + s) 0 ∧ ((d (39 + 5 * s) 5 = 1 ∧ d (118 + s) 0 = 1 ∧ 0 < d (114 + s) 0) ∨ (d (39 + 5 * s) 5 = 0 ∧ d (118 + s) 0 = 2 ∧ 0 < d (114 + s) 0) ∨ (d (39 + 5 * s) 5 = 0 ∧ d (118 + s) 0 = 3 ∧ d (114 + s) 0 = 0)))
    ∧ (d 98 s = 2 → d (41 + 5 * s) 4 = d (114 + s) 1 ∧ ((d (41 + 5 * s) 5 = 1 ∧ d (118 + s) 1 = 1 ∧ 0 < d (114 + s) 1) ∨ (d (41 + 5 * s) 5 = 0 ∧ d (118 + s) 1 = 2 ∧ 0 < d (114 + s) 1) ∨ (d (41 + 5 * s) 5 = 0 ∧ d (118 + s) 1 = 3 ∧ d (114 + s) 1 = 0))))
  ∧ (1 ≤ d 98 s → d (110 + s) 0 = d (39 + 5 * s) 1 ∧ 1 ≤ d (110 + s) 0 ∧ (∀ k : Int, 0 ≤ k → k < d (110 + s) 0 → d (101 + 3 * s) k = d (40 + 5 * s) k) ∧ (d 98 s = 1 ↔ d (38 + 5 * s) 3 = 0))
  ∧ (d 98 s = 2 → d (110 + s) 1 = d (41 + 5 * s) 1 ∧ 1 ≤ d (110 + s) 1 ∧ (∀ k : Int, 0 ≤ k → k < d (110 + s) 1 → d (102 + 3 * s) k = d (42 + 5 * s) k))
/-- the wheel -/
def zRv (d : zm_D) : Prop := d 61 39 = d 53 5 ∧ (∀ k : Int, 0 ≤ k → k < d 53 5 → ((0 ≤ d (123 + k) 0 ∧ d (123 + k) 0 < 8) ∧ d 54 k = 15 + 2 * d (123 + k) 0) ∧ d (123 + k) 1 = d 55 k ∧ d (123 + k) 2 = d 56 k ∧ d (123 + k) 3 = d 57 k ∧ ((d 55 k = 110 ∨ d 55 k = 100) → 0 ≤ d 56 k ∧ d 56 k ≤ 36))
/-- the machine -/
def zRm (d : zm_D) : Prop := (∀ r : Int, 0 ≤ r → r < 3 → ∀ k : Int, 0 ≤ k → k < 8 → d (134 + r) k = d 59 (r * 8 + k)) ∧ (∀ k : Int, 0 ≤ k → k < 5 → d 137 k = d 60 k) ∧ ((d 58 5 = 0 ∧ d 61 42 = -1 ∧ d 61 44 = 0) ∨ ((0 ≤ d 61 42 ∧ d 61 42 < 8) ∧ d 58 5 = 15 + 2 * d 61 42 ∧ d 61 44 = d 58 7 ∧ d 61 43 = d 58 6 ∧ d 61 45 = d 58 8)) ∧ ((0 ≤ d 61 43 ∧ d 61 43 ≤ 100) ∧ (d 61 45 = 0 ∨ d 61 45 = 1))
/-- lotteries -/
def zRl (d : zm_D) : Prop := (d 61 46 = d 12 2 ∧ ((d 12 3 = 0 ∧ d 61 47 = -1) ∨ (d 12 3 ≠ 0 ∧ d 61 47 = d 12 3))) ∧ (∀ k : Int, 0 ≤ k → k < d 12 2 → ((d 13 k = 0 ∧ d (139 + k) 0 = -1) ∨ ((0 ≤ d (139 + k) 0 ∧ d (139 + k) 0 < 8) ∧ d 13 k = 15 + 2 * d (139 + k) 0)) ∧ d (139 + k) 1 = d 14 k)
def zRe (d : zm_D) : Prop := zRa d ∧ zRg d ∧ zRh d ∧ zRt d ∧ zRu d ∧ zRs d ∧ zRd d ∧ (∀ s : Int, 0 ≤ s → s < 3 → zRq d s) ∧ zRv d ∧ zRm d ∧ zRl d
theorem zRa_e {e d : zm_D} (H : zRa e) (h61 : ∀ j : Int, (j = 31 ∨ j = 32 ∨ j = 33 ∨ j = 38 ∨ j = 40 ∨ j = 41 ∨ j = 48) → d 61 j = e 61 j) (h1 : ∀ j : Int, (j = 9 ∨ j = 10) → d 1 j = e 1 j) (h4 : d 4 0 = e 4 0) (h34 : d 34 9 = e 34 9) (h58 : ∀ j : Int, (j = 3 ∨ j = 4) → d 58 j = e 58 j) (h12 : d 12 4 = e 12 4) : zRa d := by
  unfold zRa at *
  rw [h61 31 (by omega), h61 32 (by omega), h61 33 (by omega), h61 38 (by omega), h61 40 (by omega), h61 41 (by omega), h61 48 (by omega), h1 9 (by omega), h1 10 (by omega), h4, h34, h58 3 (by omega), h58 4 (by omega), h12]
  exact H
theorem zRg_e {e d : zm_D} (H : zRg e) (h : ∀ r j : Int, ((15 ≤ r ∧ r ≤ 30) ∨ (62 ≤ r ∧ r ≤ 66) ∨ r = 68 ∨ r = 69 ∨ (71 ≤ r ∧ r ≤ 87) ∨ (152 ≤ r ∧ r ≤ 159)) → d r j = e r j) : zRg d := by
  intro i h1 h2
  have a := H i h1 h2
  obtain ⟨a1, a2, a3, a4⟩ := a
  refine ⟨?_, ?_, fun k q1 q2 => ?_, ?_⟩
  · rw [h _ _ (by omega), h _ _ (by omega), h _ _ (by omega), h _ _ (by omega), h _ _ (by omega), h _ _ (by omega), h _ _ (by omega), h _ _ (by omega), h _ _ (by omega), h _ _ (by omega), h _ _ (by omega), h _ _ (by omega)]; exact a1
  · rw [h _ _ (by omega), h _ _ (by omega), h _ _ (by omega), h _ _ (by omega), h _ _ (by omega), h _ _ (by omega), h _ _ (by omega), h _ _ (by omega)]; exact a2
  · rw [h _ _ (by omega), h _ _ (by omega)]; exact a3 k q1 q2
  · rw [h _ _ (by omega)]; exact a4
theorem zRh_e {e d : zm_D} (H : zRh e) (h : ∀ i j : Int, 0 ≤ i → i < 8 → (j = 3 ∨ j = 4) → d (15 + 2 * i) j = e (15 + 2 * i) j) (h67 : ∀ j, d 67 j = e 67 j) (h68 : ∀ j, d 68 j = e 68 j) (h19 : d 1 9 = e 1 9) : zRh d := by
  intro i h1 h2
  have a := H i h1 h2
  rw [h19, h67, h68, h i 3 h1 h2 (by omega), h i 4 h1 h2 (by omega)]
  exact a
theorem zRt_e {e d : zm_D} (H : zRt e) (h : ∀ r j : Int, ((31 ≤ r ∧ r ≤ 33) ∨ (88 ≤ r ∧ r ≤ 90)) → d r j = e r j) : zRt d := by
  intro i h1 h2
  rw [h _ _ (by omega), h _ _ (by omega), h _ _ (by omega), h _ _ (by omega), h _ _ (by omega), h _ _ (by omega), h _ _ (by omega)]
  exact H i h1 h2
theorem zRu_e {e d : zm_D} (H : zRu e) (h34 : ∀ j : Int, 5 ≤ j → j ≤ 8 → d 34 j = e 34 j) (h : ∀ j, d 91 j = e 91 j) : zRu d := by
  unfold zRu at *
  rw [h, h, h, h, h34 5 (by decide) (by decide), h34 6 (by decide) (by decide), h34 7 (by decide) (by decide), h34 8 (by decide) (by decide)]
  exact H
theorem zRs_e {e d : zm_D} (H : zRs e) (h61 : ∀ j : Int, (j = 34 ∨ j = 35 ∨ j = 37) → d 61 j = e 61 j) (h34 : d 34 4 = e 34 4) (h37 : d 37 1 = e 37 1) (h : ∀ r j : Int, (r = 5 ∨ r = 6 ∨ r = 9 ∨ r = 92 ∨ r = 95) → d r j = e r j) : zRs d := by
  obtain ⟨a, b, c, f, g⟩ := H
  have h5 := fun j => h 5 j (by omega)
  refine ⟨by rw [h61 34 (by omega), h61 35 (by omega), h61 37 (by omega), h34, h5, h5, h5]; exact a, fun k q1 q2 => ?_, fun r q1 q2 => ?_, ?_, ?_⟩
  · rw [h5, h5] at q2
    rw [h 92 _ (by omega), h5, h 6 _ (by omega)]
    exact b k q1 q2
  · rw [h 95 _ (by omega), h 9 _ (by omega)]; exact c r q1 q2
  · rw [h34, h5]; exact f
  · rw [h34, h5, h37]; exact g
theorem zRd_e {e d : zm_D} (H : zRd e) (h61 : d 61 36 = e 61 36) (h : ∀ r j : Int, (r = 36 ∨ r = 37 ∨ r = 121) → d r j = e r j) : zRd d := by
  obtain ⟨a, b⟩ := H
  refine ⟨by rw [h61, h _ _ (by omega)]; exact a, fun k q1 q2 => ?_⟩
  rw [h 36 _ (by omega)] at q2
  rw [h 121 _ (by omega), h 37 _ (by omega)]
  exact b k q1 q2
theorem zRq_e {e d : zm_D} {s : Int} (H : zRq e s) (h34 : d 34 4 = e 34 4) (h96 : d 96 s = e 96 s) (h97 : d 97 s = e 97 s) (h98 : d 98 s = e 98 s) (hc : ∀ r j : Int, (38 + 5 * s ≤ r ∧ r ≤ 42 + 5 * s) → d r j = e r j) (hm : ∀ r j : Int, (r = 110 + s ∨ r = 114 + s ∨ r = 118 + s ∨ r = 101 + 3 * s ∨ r = 102 + 3 * s) → d r j = e r j) : zRq d s := by
  have c0 := fun j => hc (38 + 5 * s) j (by omega)
  have c1 := fun j => hc (39 + 5 * s) j (by omega)
  have c2 := fun j => hc (40 + 5 * s) j (by omega)
  have c3 := fun j => hc (41 + 5 * s) j (by omega)
  have c4 := fun j => hc (42 + 5 * s) j (by omega)
  have m0 := fun j => hm (110 + s) j (by omega)
  have m1 := fun j => hm (114 + s) j (by omega)
  have m2 := fun j => hm (118 + s) j (by omega)
  have m3 := fun j => hm (101 + 3 * s) j (by omega)
  have m4 := fun j => hm (102 + 3 * s) j (by omega)
  unfold zRq at *
  simp only [h34, h96, h97, h98, c0, c1, c2, c3, c4, m0, m1, m2, m3, m4]
  exact H
theorem zRv_e {e d : zm_D} (H : zRv e) (h61 : d 61 39 = e 61 39) (h : ∀ r j : Int, ((53 ≤ r ∧ r ≤ 57) ∨ (123 ≤ r ∧ r ≤ 132)) → d r j = e r j) (hw : e 53 5 ≤ 10) : zRv d := by
  obtain ⟨a, b⟩ := H
  refine ⟨by rw [h61, h _ _ (by omega)]; exact a, fun k q1 q2 => ?_⟩
  rw [h 53 _ (by omega)] at q2
  have c := b k q1 q2
  rw [h (123 + k) 0 (by omega), h (123 + k) 1 (by omega), h (123 + k) 2 (by omega), h (123 + k) 3 (by omega), h 54 k (by omega), h 55 k (by omega), h 56 k (by omega), h 57 k (by omega)]
  exact c
theorem zRm_e {e d : zm_D} (H : zRm e) (h61 : ∀ j : Int, 42 ≤ j → j ≤ 45 → d 61 j = e 61 j) (h : ∀ r j : Int, ((59 ≤ r ∧ r ≤ 60) ∨ (134 ≤ r ∧ r ≤ 137)) → d r j = e r j) (h58 : ∀ j : Int, 5 ≤ j → j ≤ 8 → d 58 j = e 58 j) : zRm d := by
  obtain ⟨a, b, c, f⟩ := H
  have g2 := h61 42 (by decide) (by decide)
  have g3 := h61 43 (by decide) (by decide)
  have g4 := h61 44 (by decide) (by decide)
  have g5 := h61 45 (by decide) (by decide)
  refine ⟨fun r q1 q2 k q3 q4 => by rw [h _ _ (by omega), h _ _ (by omega)]; exact a r q1 q2 k q3 q4, fun k q1 q2 => by rw [h _ _ (by omega), h _ _ (by omega)]; exact b k q1 q2, ?_, by rw [g3, g5]; exact f⟩
  rw [g2, g3, g4, g5, h58 5 (by decide) (by decide), h58 6 (by decide) (by decide), h58 7 (by decide) (by decide), h58 8 (by decide) (by decide)]
  exact c
theorem zRl_e {e d : zm_D} (H : zRl e) (h61 : ∀ j : Int, (j = 46 ∨ j = 47) → d 61 j = e 61 j) (h12 : ∀ j : Int, (j = 2 ∨ j = 3) → d 12 j = e 12 j) (h : ∀ r j : Int, ((13 ≤ r ∧ r ≤ 14) ∨ (139 ≤ r ∧ r ≤ 150)) → d r j = e r j) (hw : e 12 2 ≤ 12) : zRl d := by
  obtain ⟨a, b⟩ := H
  refine ⟨by rw [h61 46 (by omega), h61 47 (by omega), h12 2 (by omega), h12 3 (by omega)]; exact a, fun k q1 q2 => ?_⟩
  rw [h12 2 (by omega)] at q2
  rw [h 13 k (by omega), h 14 k (by omega), h (139 + k) 0 (by omega), h (139 + k) 1 (by omega)]
  exact b k q1 q2
/-- the relation stays where nothing changes but what was thrown, the answer and garbage -/
theorem zRe_e {e d : zm_D} (H : zRe e) (hw : e 53 5 ≤ 10 ∧ e 12 2 ≤ 12) (h : ∀ r j : Int, 1 ≤ r → r ≤ 159 → (r ≠ 61 ∨ j ≠ 49) → d r j = e r j) : zRe d := by
  obtain ⟨a, b, c, f, g, i, k, l, m, o, p⟩ := H
  refine ⟨zRa_e a (fun j q => h _ _ (by omega) (by omega) (by omega)) (fun j q => h _ _ (by omega) (by omega) (by omega)) (h _ _ (by omega) (by omega) (by omega)) (h _ _ (by omega) (by omega) (by omega)) (fun j q => h _ _ (by omega) (by omega) (by omega)) (h _ _ (by omega) (by omega) (by omega)), zRg_e b (fun r j q => h _ _ (by omega) (by omega) (by omega)), zRh_e c (fun i j q1 q2 q3 => h _ _ (by omega) (by omega) (by omega)) (fun j => h _ _ (by omega) (by omega) (by omega)) (fun j => h _ _ (by omega) (by omega) (by omega)) (h _ _ (by omega) (by omega) (by omega)), zRt_e f (fun r j q => h _ _ (by omega) (by omega) (by omega)), zRu_e g (fun j q1 q2 => h _ _ (by omega) (by omega) (by omega)) (fun j => h _ _ (by omega) (by omega) (by omega)), zRs_e i (fun j q => h _ _ (by omega) (by omega) (by omega)) (h _ _ (by omega) (by omega) (by omega)) (h _ _ (by omega) (by omega) (by omega)) (fun r j q => h _ _ (by omega) (by omega) (by omega)), zRd_e k (h _ _ (by omega) (by omega) (by omega)) (fun r j q => h _ _ (by omega) (by omega) (by omega)), fun s q1 q2 => zRq_e (l s q1 q2) (h _ _ (by omega) (by omega) (by omega)) (h _ _ (by omega) (by omega) (by omega)) (h _ _ (by omega) (by omega) (by omega)) (h _ _ (by omega) (by omega) (by omega)) (fun r j q => h _ _ (by omega) (by omega) (by omega)) (fun r j q => h _ _ (by omega) (by omega) (by omega)), zRv_e m (h _ _ (by omega) (by omega) (by omega)) (fun r j q => h _ _ (by omega) (by omega) (by omega)) hw.1, zRm_e o (fun j q1 q2 => h _ _ (by omega) (by omega) (by omega)) (fun r j q => h _ _ (by omega) (by omega) (by omega)) (fun j q1 q2 => h _ _ (by omega) (by omega) (by omega)), zRl_e p (fun j q => h _ _ (by omega) (by omega) (by omega)) (fun j q => h _ _ (by omega) (by omega) (by omega)) (fun r j q => h _ _ (by omega) (by omega) (by omega)) hw.2⟩
