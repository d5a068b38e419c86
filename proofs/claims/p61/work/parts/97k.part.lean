/-! ===== STEPS: split ===== -/
set_option maxRecDepth 65536
theorem zm_uc {D : zm_D} {a i v r j y : Int} (h : a ≠ r ∨ i ≠ j) : zm_u (zm_u D a i v) r j y = zm_u (zm_u D r j y) a i v := by
  funext p q
  by_cases c : p = a ∧ q = i
  · rw [zm_un (by omega), zm_ue c.1 c.2, zm_ue c.1 c.2]
  · rw [zm_un (r := a) (j := i) (by omega)]
    by_cases c2 : p = r ∧ q = j
    · rw [zm_ue c2.1 c2.2, zm_ue c2.1 c2.2]
    · rw [zm_un (by omega), zm_un (by omega), zm_un (by omega)]
theorem zcp_uc {D : zm_D} {a i v n : Int} (h : a ≠ 92) : zm_cp (zm_u D a i v) 92 1 92 0 n = zm_u (zm_cp D 92 1 92 0 n) a i v := by
  funext p q
  by_cases c : p = a ∧ q = i
  · rw [zcp_o (.inl (by omega)), zm_ue c.1 c.2, zm_ue c.1 c.2]
  · rw [zm_un (r := a) (j := i) (by omega)]
    unfold zm_cp
    split
    · rw [zm_un (by omega)]
    · rw [zm_un (by omega)]
theorem zmtk_w {D : zm_D} {x r a v : Int} (hx : 0 ≤ x ∧ x < 3) (hr : 101 ≤ r ∧ r ≤ 108) (ha : a = 110 + x ∨ a = 118 + x) : zmtk (zm_u D a 1 v) x 0 r = zm_u (zmtk D x 0 r) a 1 v := by
  unfold zmtk zmnx
  rw [zm_un (a := 61) (k := 35) (by omega), zm_un (a := 110 + x) (k := 0) (by omega), zm_un (a := 92) (k := 0) (by omega), zm_uc (r := 61) (j := 35) (by omega), zcp_uc (by omega), zm_uc (r := r) (by omega), zm_uc (r := 110 + x) (j := 0) (by omega)]
theorem zmlk_w {D : zm_D} {x a v V : Int} (hx : 0 ≤ x ∧ x < 3) (ha : a = 110 + x ∨ a = 118 + x) : zmlk (zm_u D a 1 v) x 0 V = zm_u (zmlk D x 0 V) a 1 v := by
  unfold zmlk zmls
  split
  · rw [zm_uc (r := 118 + x) (j := 0) (by omega)]
  · split
    · rw [zm_un (a := 88) (k := 0) (by omega), zm_un (a := 114 + x) (k := 0) (by omega), zm_uc (r := 88) (j := 0) (by omega), zm_uc (r := 114 + x) (j := 0) (by omega), zm_uc (r := 118 + x) (j := 0) (by omega)]
    · rfl
/-- a seat's hand is parted -/
theorem zPart_c {e N M : zm_D} {x j s v : Int} (hx : 0 ≤ x ∧ x < 3) (b8 : 0 ≤ j ∧ j < 8) (Q : zQz 0 e N) (h4 : N 34 4 = 1) (h98 : N 98 x = 1) (h5 : N (39 + 5 * x) 5 = 1) (hs : 1 ≤ s ∧ s ≤ 1000) (hs4 : N (39 + 5 * x) 4 = s) (h96 : N 96 x = j) (hv : 1 ≤ v ∧ v ≤ 10) (c0 : N (40 + 5 * x) 0 = v) (h114 : N (114 + x) 0 = s) (sz : 2 ≤ N (39 + 5 * x) 1) (S : ∀ r i : Int, (1 ≤ r ∧ r ≤ 159) → ((r < 15 ∨ 29 < r ∨ r % 2 = 0 ∨ (i ≠ 2 ∧ i ≠ 5)) ∧ (r ≠ 38 + 5 * x ∨ i ≠ 3) ∧ (r ≠ 39 + 5 * x ∨ i < 1 ∨ 3 < i) ∧ (r ≠ 41 + 5 * x ∨ i < 1 ∨ 5 < i) ∧ (r ≠ 42 + 5 * x ∨ i ≠ 0) ∧ r ≠ 63 ∧ r ≠ 64 ∧ (r ≠ 98 ∨ i ≠ x) ∧ (r ≠ 102 + 3 * x ∨ i ≠ 0) ∧ (r ≠ 110 + x ∨ i < 0 ∨ 1 < i) ∧ (r ≠ 114 + x ∨ i ≠ 1) ∧ (r ≠ 118 + x ∨ i < 0 ∨ 1 < i)) → M r i = N r i) (Mo : zMon M M) (St : ∀ i : Int, 0 ≤ i → i < 8 → M 64 i = M (15 + 2 * i) 5 ∧ (e (15 + 2 * i) 5 ≤ M (15 + 2 * i) 5 ∧ M (15 + 2 * i) 5 ≤ e (15 + 2 * i) 5 + 2000) ∧ (e 1 9 ≤ i → M (15 + 2 * i) 5 = e (15 + 2 * i) 5)) (V3 : ∀ i : Int, 0 ≤ i → i < 8 → e (15 + 2 * i) 2 - 2000 ≤ M (15 + 2 * i) 2 ∧ M (15 + 2 * i) 2 ≤ e (15 + 2 * i) 2 + 20000) (m38 : M (38 + 5 * x) 3 = 1) (mh : M (39 + 5 * x) 1 = 1 ∧ M (39 + 5 * x) 2 = v ∧ M (39 + 5 * x) 3 = zor 0 v) (mk : M (41 + 5 * x) 1 = 1 ∧ M (41 + 5 * x) 2 = v ∧ M (41 + 5 * x) 3 = zor 0 v ∧ M (41 + 5 * x) 4 = s ∧ M (41 + 5 * x) 5 = 1) (mb : M (42 + 5 * x) 0 = v) (g98 : M 98 x = 2) (g102 : M (102 + 3 * x) 0 = v) (g110 : M (110 + x) 0 = 1 ∧ M (110 + x) 1 = 1) (g114 : M (114 + x) 1 = s) (g118 : M (118 + x) 0 = 1 ∧ M (118 + x) 1 = 1) : zQz 0 e M := by
  obtain ⟨kk, -, -, ⟨V1, V2, -⟩, b38, qs, qc, rs2, rd2, rq2⟩ := Q
  have SL : ∀ a i : Int, ((1 ≤ a ∧ a ≤ 14) ∨ (30 ≤ a ∧ a ≤ 37)) → M a i = N a i := fun a i q => S a i (by omega) (by omega)
  have SB : ∀ a i : Int, ((52 < a ∧ a ≤ 62) ∨ (65 ≤ a ∧ a ≤ 97) ∨ (120 < a ∧ a ≤ 159)) → M a i = N a i := fun a i q => S a i (by omega) (by omega)
  have SX : ∀ t a i : Int, 0 ≤ t → t < 3 → t ≠ x → (38 + 5 * t ≤ a ∧ a ≤ 42 + 5 * t) → M a i = N a i := fun t a i q1 q2 q3 q4 => S a i (by omega) (by omega)
  have SY : ∀ t a i : Int, 0 ≤ t → t < 3 → t ≠ x → (a = 110 + t ∨ a = 114 + t ∨ a = 118 + t ∨ a = 101 + 3 * t ∨ a = 102 + 3 * t) → M a i = N a i := fun t a i q1 q2 q3 q4 => S a i (by omega) (by omega)
  have d34 : M 34 4 = N 34 4 := SL _ _ (by decide)
  have o40 : ∀ i, M (40 + 5 * x) i = N (40 + 5 * x) i := fun i => S _ i (by omega) (by omega)
  have o382 : M (38 + 5 * x) 2 = N (38 + 5 * x) 2 := S _ _ (by omega) (by omega)
  have o394 : ∀ i, (i = 4 ∨ i = 5 ∨ i = 6) → M (39 + 5 * x) i = N (39 + 5 * x) i := fun i q => S _ i (by omega) (by omega)
  have o416 : M (41 + 5 * x) 6 = N (41 + 5 * x) 6 := S _ _ (by omega) (by omega)
  have o101 : ∀ i, M (101 + 3 * x) i = N (101 + 3 * x) i := fun i => S _ i (by omega) (by omega)
  have o114 : M (114 + x) 0 = N (114 + x) 0 := S _ _ (by omega) (by omega)
  have hz := @zhv_r (zor 0 v) v
  have one : ∀ r : Int, M r 0 = v → v = zms M r 1 ∧ zor 0 v = zma M r 1 := fun r q => by
    refine ⟨?_, ?_⟩
    · show v = 0 + M r ((0 : Nat) : Int)
      rw [show ((0 : Nat) : Int) = 0 by rfl, q]
      omega
    · show zor 0 v = if (0 : Int) = 1 ∨ M r ((0 : Nat) : Int) = 1 then 1 else 0
      rw [show ((0 : Nat) : Int) = 0 by rfl, q]
      unfold zor
      split <;> split <;> omega
  have ci := qc.1 x hx.1 hx.2
  have f6 := ci.1.2.2.2.2.2.1
  have f62 := ci.2.1.2.2.2.2.2.1
  have H1 : zIh (M 34 4) M (39 + 5 * x) (40 + 5 * x) := by
    have z := one (40 + 5 * x) (by rw [o40]; exact c0)
    unfold zIh
    rw [mh.1, mh.2.1, mh.2.2, o394 4 (by omega), o394 5 (by omega), o394 6 (by omega), hs4, h5, d34, h4, show (1 : Int).toNat = 1 by rfl]
    exact ⟨by omega, by omega, zor_b, by omega, by decide, f6, fun _ => ⟨rfl, by omega, by omega, by decide, by omega⟩, z, fun i q1 q2 => by rw [show i = 0 by omega, o40, c0]; exact hv⟩
  have H2 : zIh (M 34 4) M (41 + 5 * x) (42 + 5 * x) := by
    have z := one (42 + 5 * x) mb
    unfold zIh
    rw [mk.1, mk.2.1, mk.2.2.1, mk.2.2.2.1, mk.2.2.2.2, o416, d34, h4, show (1 : Int).toNat = 1 by rfl]
    exact ⟨by omega, by omega, zor_b, by omega, by decide, f62, fun _ => ⟨rfl, by omega, by omega, by decide, by omega⟩, z, fun i q1 q2 => by rw [show i = 0 by omega, mb]; exact hv⟩
  refine ⟨fun a i q1 q2 q3 => ?_, Mo, St, ⟨by rw [SL 4 0 (by decide)]; exact V1, by rw [SL 31 1 (by decide)]; exact V2, fun i q1 q2 => by have := V3 i q1 q2; omega⟩, by rw [SB 61 38 (by decide), SL 34 9 (by decide)]; exact b38, zIs_e qs (fun r i _ => SL _ _ (by omega)), ?_, zRs_e rs2 (fun i _ => SB _ _ (by omega)) d34 (SL _ _ (by decide)) (fun r i q => by
      by_cases z : r ≤ 37
      · exact SL _ _ (by omega)
      · exact SB _ _ (by omega)), zRd_e rd2 (SB _ _ (by decide)) (fun r i q => by
      by_cases z : r ≤ 37
      · exact SL _ _ (by omega)
      · exact SB _ _ (by omega)), fun t q1 q2 => ⟨?_, ?_⟩⟩
  · rw [← kk a i q1 q2 q3]
    unfold zTo at q3
    exact S a i ⟨q1, q2⟩ (by omega)
  · obtain ⟨c, ⟨b1, b2, b3, ⟨b4, b5⟩, b6⟩, c1, f⟩ := qc
    have d36 : ∀ i, M 36 i = N 36 i := fun i => SL 36 i (by omega)
    have d37 : ∀ i, M 37 i = N 37 i := fun i => SL 37 i (by omega)
    refine ⟨fun i q1 q2 => ?_, ⟨by rw [d36, d36]; exact b1, by rw [d36]; exact b2, by rw [d36]; exact b3, ⟨by rw [d36, d36, zms_e d37]; exact b4, by rw [d36, d36, zma_e d37]; exact b5⟩, fun i p1 p2 => by rw [d36] at p2; rw [d37]; exact b6 i p1 p2⟩, by rw [d34, SL 34 5 (by decide), SL 34 6 (by decide), SL 34 7 (by decide), SL 34 8 (by decide)]; exact c1, fun p => by rw [SL 5 7 (by decide), d36]; exact f (by omega)⟩
    by_cases z : i = x
    · subst z
      refine ⟨H1, H2, by rw [m38]; decide, by rw [o382]; exact ci.2.2.2.1, fun p => ?_, fun p => by omega⟩
      rw [o382] at p
      have := ci.2.2.2.2.1 p
      omega
    · obtain ⟨x1, x2, x3, x4, x5, x6⟩ := c i q1 q2
      have g := fun a i2 q => SX i a i2 q1 q2 z q
      exact ⟨zIh_e x1 (fun i2 _ _ => g _ i2 (by omega)) (fun i2 => g _ i2 (by omega)) d34.symm.symm, zIh_e x2 (fun i2 _ _ => g _ i2 (by omega)) (fun i2 => g _ i2 (by omega)) d34, by rw [g _ 3 (by omega)]; exact x3, by rw [g _ 2 (by omega)]; exact x4, by rw [g (38 + 5 * i) 2 (by omega), g (39 + 5 * i) 4 (by omega), g (41 + 5 * i) 4 (by omega)]; exact x5, by rw [g (38 + 5 * i) 3 (by omega), g (41 + 5 * i) 1 (by omega), g (41 + 5 * i) 4 (by omega), g (41 + 5 * i) 5 (by omega)]; exact x6⟩
  · by_cases z : t = x
    · subst z
      have o96 : M 96 t = N 96 t := SB _ _ (by omega)
      have o97 : M 97 t = N 97 t := SB _ _ (by omega)
      have r0 : N (101 + 3 * t) 0 = N (40 + 5 * t) 0 := by
        have a := (rq2 t q1 q2).1.2.2.2.2.2.2.1 (by omega)
        exact a.2.2.1 0 (by decide) (by omega)
      have n0 : ¬ N 34 4 = 0 := by omega
      have alt : (1 : Int) = 1 ∧ (1 : Int) = 1 ∧ 0 < s := ⟨rfl, rfl, by omega⟩
      have sb : 0 ≤ s ∧ s ≤ 2000 := by omega
      have j0 : 0 ≤ N 96 t := by omega
      obtain ⟨z1, z2, z3, z4, z5, z6, z7, z8⟩ := (rq2 t q1 q2).1
      have o1 := (z6 h4).1
      unfold zRq
      rw [o382, m38, o96, o97, g98, d34, o394 4 (by omega), o394 5 (by omega), o394 6 (by omega), hs4, h5, mk.2.2.2.1, mk.2.2.2.2, o416, g118.1, g118.2, o114, h114, g114, g110.1, g110.2, mh.1, mk.1]
      exact ⟨z1, by decide, by decide, ⟨sb, sb⟩, fun p => absurd p n0, fun _ => ⟨o1, fun p => absurd p (by decide), fun _ => j0, fun p => absurd p (by decide), fun p => absurd p (by decide), fun _ => ⟨rfl, .inl alt⟩, fun _ => ⟨rfl, .inl alt⟩⟩, fun _ => ⟨rfl, by decide, fun i r1 r2 => by rw [show i = 0 by omega, o101, o40]; exact r0, ⟨fun p => absurd p (by decide), fun p => absurd p (by decide)⟩⟩, fun _ => ⟨rfl, by decide, fun i r1 r2 => by rw [show i = 0 by omega, g102, mb]⟩⟩
    · exact zRq_e (rq2 t q1 q2).1 d34 (SB _ _ (by omega)) (SB _ _ (by omega)) (S _ _ (by omega) (by omega)) (fun a i p => SX t a i q1 q2 z p) (fun a i p => SY t a i q1 q2 z p)
  · by_cases z : t = x
    · subst z
      rw [o382]
      exact (rq2 t q1 q2).2
    · rw [SX t _ _ q1 q2 z (by omega)]
      exact (rq2 t q1 q2).2
