/-! ===== STEPS: seats settled, the dealer draws ===== -/
set_option maxRecDepth 65536
/-- seat s ahead of its settling -/
def zSp (nat : Int) (a b : zm_D) (s : Int) : Prop := (0 ≤ b 98 s ∧ b 98 s ≤ 2) ∧ (b 98 s = 0 → a (39 + 5 * s) 4 = 0) ∧ (b 98 s ≤ 1 → a (41 + 5 * s) 4 = 0) ∧ (1 ≤ b 98 s → ((0 ≤ b 96 s ∧ b 96 s < 8) ∧ a (38 + 5 * s) 2 = 15 + 2 * b 96 s) ∧ zSh1 nat a b s 0 ∧ (b 98 s = 1 ↔ a (38 + 5 * s) 3 = 0)) ∧ (b 98 s = 2 → nat = 0 ∧ zSh1 nat a b s 1)
theorem zSp_n {nat : Int} {a b : zm_D} {s : Int} (P : zSp nat a b s) (h : 1 ≤ b 98 s) : zmn b s = zsn (a (38 + 5 * s) 3) (a (39 + 5 * s) 1) (a (39 + 5 * s) 3) (a (39 + 5 * s) 2) := by
  obtain ⟨p1, p2, p3, p4, p5⟩ := P
  obtain ⟨g, ⟨s1, s2, s3, s4, s5⟩, sp⟩ := p4 h
  simp only [Int.mul_zero, Int.add_zero] at s3 s4
  unfold zmn zsn znt
  rw [s4, s3]
  by_cases c : b 98 s = 1
  · rw [if_neg (show ¬ a (38 + 5 * s) 3 ≠ 0 from fun z => z (sp.1 c))]
    by_cases d : a (39 + 5 * s) 1 = 2 ∧ zhv (a (39 + 5 * s) 3) (a (39 + 5 * s) 2) = 21
    · rw [if_pos ⟨c, d.1, d.2⟩, if_pos d]
    · rw [if_neg (fun z => d z.2), if_neg d]
  · rw [if_pos (show a (38 + 5 * s) 3 ≠ 0 from fun z => c (sp.2 z)), if_neg (fun z => c z.1)]
theorem zfs_o {e : zm_D} {q h k r j : Int} (G : zGr (e q 2)) (hq : q ≠ 4 ∧ q ≠ 31 ∧ q ≠ 34 ∧ q ≠ h ∧ q ≠ k ∧ 30 < q) (h1 : r ≠ 34 ∨ j ≠ 9) (h2 : r ≠ 31) (h3 : r ≠ 4) (h4 : r ≠ h ∨ j < 4 ∨ 6 < j) (h5 : r ≠ k ∨ j < 4 ∨ 6 < j) (h6 : 1 ≤ r) (h7 : r < 15 ∨ 30 < r ∨ j ≠ 2 ∨ r % 2 = 0) (h8 : r ≠ q ∨ j ≠ 2) : zfs e q h k r j = e r j := by
  have g0 : r ≠ e q 2 ∨ j ≠ 2 := by
    rcases G with z | ⟨i, hi, z⟩
    · omega
    · omega
  have gq : e q 2 ≠ q := by
    rcases G with z | ⟨i, hi, z⟩
    · omega
    · omega
  have e1 : zstl e q h h q 2 = e q 2 := zstl_o (by omega) (by omega) (by omega) (by omega) (by omega)
  unfold zfs
  rw [zm_un (by omega), zm_un (by omega), zm_un (by omega), zstl_o h1 h2 h3 h5 (by rw [e1]; exact g0), zstl_o h1 h2 h3 h4 g0]
theorem zSh1_e {nat : Int} {a b c d : zm_D} {s k : Int} (H : zSh1 nat a b s k) (hk : k = 0 ∨ k = 1) (h1 : ∀ j : Int, 1 ≤ j → j ≤ 4 → c (39 + 5 * s + 2 * k) j = a (39 + 5 * s + 2 * k) j) (h2 : d (114 + s) k = b (114 + s) k) (h3 : d (118 + s) k = b (118 + s) k) (h4 : d (110 + s) k = b (110 + s) k) (h5 : ∀ j : Int, d (101 + 3 * s + k) j = b (101 + 3 * s + k) j) : zSh1 nat c d s k := by
  unfold zSh1 at *
  rw [h1 1 (by decide) (by decide), h1 2 (by decide) (by decide), h1 3 (by decide) (by decide), h1 4 (by decide) (by decide), h2, h3, h4, zmv_e h5]
  exact H
theorem zSt_q {a b : zm_D} {s nat v : Int} (hs : 0 ≤ s ∧ s < 3) (M : zMon a b) (H38 : b 61 38 = a 34 9) (hru : b 91 3 = a 34 8) (T : 0 ≤ a 31 1) (hv : v = zhv (a 36 3) (a 36 2)) (hnat : nat = znt (a 36 1) (a 36 3) (a 36 2)) (P : zSp nat a b s) : zMon (zfs a (38 + 5 * s) (39 + 5 * s) (41 + 5 * s)) (zmss b s v nat) ∧ zmss b s v nat 61 38 = zfs a (38 + 5 * s) (39 + 5 * s) (41 + 5 * s) 34 9 ∧ zBd 6000 4000 10000 a (zfs a (38 + 5 * s) (39 + 5 * s) (41 + 5 * s)) ∧ (zfs a (38 + 5 * s) (39 + 5 * s) (41 + 5 * s) (39 + 5 * s) 4 = 0 ∧ zfs a (38 + 5 * s) (39 + 5 * s) (41 + 5 * s) (41 + 5 * s) 4 = 0 ∧ zfs a (38 + 5 * s) (39 + 5 * s) (41 + 5 * s) (39 + 5 * s) 6 = 0 ∧ zfs a (38 + 5 * s) (39 + 5 * s) (41 + 5 * s) (41 + 5 * s) 6 = 0 ∧ zfs a (38 + 5 * s) (39 + 5 * s) (41 + 5 * s) (38 + 5 * s) 2 = 0) ∧ zmss b s v nat 96 s = -1 := by
  have P0 := P
  obtain ⟨p1, p2, p3, p4, p5⟩ := P
  have F : ∀ A B : zm_D, zMon A B → B 61 38 = A 34 9 → zBd 6000 4000 10000 a A → A (39 + 5 * s) 4 = 0 → A (41 + 5 * s) 4 = 0 → zMon (zm_u (zm_u (zm_u A (39 + 5 * s) 6 0) (41 + 5 * s) 6 0) (38 + 5 * s) 2 0) (zm_u B 96 s (-1)) ∧ zm_u B 96 s (-1) 61 38 = zm_u (zm_u (zm_u A (39 + 5 * s) 6 0) (41 + 5 * s) 6 0) (38 + 5 * s) 2 0 34 9 ∧ zBd 6000 4000 10000 a (zm_u (zm_u (zm_u A (39 + 5 * s) 6 0) (41 + 5 * s) 6 0) (38 + 5 * s) 2 0) ∧ (zm_u (zm_u (zm_u A (39 + 5 * s) 6 0) (41 + 5 * s) 6 0) (38 + 5 * s) 2 0 (39 + 5 * s) 4 = 0 ∧ zm_u (zm_u (zm_u A (39 + 5 * s) 6 0) (41 + 5 * s) 6 0) (38 + 5 * s) 2 0 (41 + 5 * s) 4 = 0 ∧ zm_u (zm_u (zm_u A (39 + 5 * s) 6 0) (41 + 5 * s) 6 0) (38 + 5 * s) 2 0 (39 + 5 * s) 6 = 0 ∧ zm_u (zm_u (zm_u A (39 + 5 * s) 6 0) (41 + 5 * s) 6 0) (38 + 5 * s) 2 0 (41 + 5 * s) 6 = 0 ∧ zm_u (zm_u (zm_u A (39 + 5 * s) 6 0) (41 + 5 * s) 6 0) (38 + 5 * s) 2 0 (38 + 5 * s) 2 = 0) ∧ zm_u B 96 s (-1) 96 s = -1 := fun A B m1 m2 m3 m4 m5 => by
    refine ⟨zMon_e m1 (by simp (disch := omega) only [zm_un]) (fun i _ _ => by simp (disch := omega) only [zm_un]) (fun i j _ _ _ => by simp (disch := omega) only [zm_un]) (zm_un (by omega)) (fun i _ _ => zm_un (by omega)) (fun i j _ _ _ => zm_un (by omega)), ?_, ?_, ⟨?_, ?_, ?_, ?_, ?_⟩, zm_ue rfl rfl⟩
    · simp (disch := omega) only [zm_un]
      exact m2
    · obtain ⟨k1, k2, k3⟩ := m3
      refine ⟨by simp (disch := omega) only [zm_un]; exact k1, by simp (disch := omega) only [zm_un]; exact k2, fun i q1 q2 => by simp (disch := omega) only [zm_un]; exact k3 i q1 q2⟩
    · simp (disch := omega) only [zm_un]
      exact m4
    · simp (disch := omega) only [zm_un]
      exact m5
    · simp (disch := omega) only [zm_un, zm_ue]
    · simp (disch := omega) only [zm_un, zm_ue]
    · exact zm_ue rfl rfl
  unfold zfs zmss
  rcases (by omega : b 98 s = 0 ∨ b 98 s = 1 ∨ b 98 s = 2) with c | c | c
  · have e1 : zstl a (38 + 5 * s) (39 + 5 * s) (39 + 5 * s) = a := by
      unfold zstl
      rw [if_pos (.inr (p2 c))]
    have e2 : zstl a (38 + 5 * s) (39 + 5 * s) (41 + 5 * s) = a := by
      unfold zstl
      rw [if_pos (.inr (p3 (by omega)))]
    rw [e1, e2, if_pos c]
    exact F a b M H38 ⟨by omega, by omega, fun i _ _ => by omega⟩ (p2 c) (p3 (by omega))
  · obtain ⟨⟨g, gq⟩, h1, sp⟩ := p4 (by omega)
    have n := zSp_n P0 (by omega)
    have A := zSt1 (v := v) hs (.inl rfl) M H38 hru g gq h1 hv n (fun _ _ => ⟨rfl, sp.1 c⟩) hnat T
    simp only [Int.mul_zero, Int.add_zero] at A
    obtain ⟨a1, a2, a3, a4, -⟩ := A
    have k4 : zstl a (38 + 5 * s) (39 + 5 * s) (39 + 5 * s) (41 + 5 * s) 4 = 0 := by
      rw [zstl_o (by omega) (by omega) (by omega) (by omega) (by omega)]
      exact p3 (by omega)
    have e2 : zstl (zstl a (38 + 5 * s) (39 + 5 * s) (39 + 5 * s)) (38 + 5 * s) (39 + 5 * s) (41 + 5 * s) = zstl a (38 + 5 * s) (39 + 5 * s) (39 + 5 * s) := by
      rw [zstl, if_pos (.inr k4)]
    rw [e2, if_neg (by omega), if_pos c]
    refine F _ _ a1 a2 ?_ a4 k4
    obtain ⟨k1, k2, k3⟩ := a3
    exact ⟨by omega, by omega, fun i q1 q2 => by have := k3 i q1 q2; omega⟩
  · obtain ⟨⟨g, gq⟩, h1, sp⟩ := p4 (by omega)
    obtain ⟨n0, h2⟩ := p5 c
    have n := zSp_n P0 (by omega)
    have A := zSt1 (v := v) hs (.inl rfl) M H38 hru g gq h1 hv n (fun _ z => by omega) hnat T
    simp only [Int.mul_zero, Int.add_zero] at A
    obtain ⟨a1, a2, a3, a4, -⟩ := A
    have OA : ∀ r j : Int, 30 < r → r ≠ 31 → (r ≠ 34 ∨ j ≠ 9) → r ≠ 39 + 5 * s → zstl a (38 + 5 * s) (39 + 5 * s) (39 + 5 * s) r j = a r j := fun r j q1 q2 q3 q4 => zstl_o (by omega) (by omega) (by omega) (by omega) (by omega)
    have OB : ∀ r j : Int, (r ≠ 61 ∨ (j ≠ 32 ∧ j ≠ 38)) → r ≠ 90 → r ≠ 88 → r ≠ 63 → (r ≠ 114 + s ∨ j ≠ 0) → (r ≠ 118 + s ∨ j ≠ 0) → zmsh b s 0 (101 + 3 * s) v nat r j = b r j := fun r j q1 q2 q3 q4 q5 q6 => zmsh_o q1 q2 q3 q4 q5 q6
    have h3 : ∀ j : Int, 1 ≤ j → j ≤ 3 → zstl a (38 + 5 * s) (39 + 5 * s) (39 + 5 * s) (39 + 5 * s) j = a (39 + 5 * s) j := fun j q1 q2 => zstl_o (by omega) (by omega) (by omega) (by omega) (by omega)
    have nn : zmn (zmsh b s 0 (101 + 3 * s) v nat) s = zmn b s := by
      unfold zmn
      rw [OB 98 s (by omega) (by omega) (by omega) (by omega) (by omega) (by omega), OB (110 + s) 0 (by omega) (by omega) (by omega) (by omega) (by omega) (by omega), zmv_e (fun j => OB (101 + 3 * s) j (by omega) (by omega) (by omega) (by omega) (by omega) (by omega))]
    have A2 := zSt1 (a := zstl a (38 + 5 * s) (39 + 5 * s) (39 + 5 * s)) (b := zmsh b s 0 (101 + 3 * s) v nat) (k := 1) (v := v) (nat := nat) hs (.inr rfl) a1 a2 (by rw [OB 91 3 (by omega) (by omega) (by omega) (by omega) (by omega) (by omega), OA 34 8 (by omega) (by omega) (by omega) (by omega)]; exact hru) (by rw [OB 96 s (by omega) (by omega) (by omega) (by omega) (by omega) (by omega)]; exact g) (by rw [OB 96 s (by omega) (by omega) (by omega) (by omega) (by omega) (by omega), OA (38 + 5 * s) 2 (by omega) (by omega) (by omega) (by omega)]; exact gq) (zSh1_e h2 (.inr rfl) (fun j _ _ => OA _ j (by omega) (by omega) (by omega) (by omega)) (OB _ _ (by omega) (by omega) (by omega) (by omega) (by omega) (by omega)) (OB _ _ (by omega) (by omega) (by omega) (by omega) (by omega) (by omega)) (OB _ _ (by omega) (by omega) (by omega) (by omega) (by omega) (by omega)) (fun j => OB _ j (by omega) (by omega) (by omega) (by omega) (by omega) (by omega))) (by rw [OA 36 3 (by omega) (by omega) (by omega) (by omega), OA 36 2 (by omega) (by omega) (by omega) (by omega)]; exact hv) (by rw [nn, OA (38 + 5 * s) 3 (by omega) (by omega) (by omega) (by omega), h3 1 (by decide) (by decide), h3 2 (by decide) (by decide), h3 3 (by decide) (by decide)]; exact n) (fun _ z => by omega) (by rw [OA 36 1 (by omega) (by omega) (by omega) (by omega), OA 36 3 (by omega) (by omega) (by omega) (by omega), OA 36 2 (by omega) (by omega) (by omega) (by omega)]; exact hnat) a3.2.1.1
    rw [show 39 + 5 * s + 2 * 1 = 41 + 5 * s by omega, show 101 + 3 * s + 1 = 102 + 3 * s by omega] at A2
    have zq : zstl (zstl a (38 + 5 * s) (39 + 5 * s) (39 + 5 * s)) (38 + 5 * s) (39 + 5 * s) (41 + 5 * s) (39 + 5 * s) 4 = 0 := by
      rw [zstl_o (by omega) (by omega) (by omega) (by omega) (by rw [OA (38 + 5 * s) 2 (by omega) (by omega) (by omega) (by omega)]; omega)]
      exact a4
    obtain ⟨c1, c2, c3, c4, -⟩ := A2
    rw [if_neg (by omega), if_neg (by omega)]
    have t := zBd_t a3 c3
    simp only [Int.reduceAdd] at t
    exact F _ _ c1 c2 t zq c4
theorem zms_x {e d : zm_D} {r q : Int} : ∀ n : Nat, (∀ k : Int, 0 ≤ k → k < (n : Int) → d r k = e q k) → zms d r n = zms e q n ∧ zma d r n = zma e q n := by
  intro n
  induction n with
  | zero => intro _; exact ⟨rfl, rfl⟩
  | succ n ih =>
    intro h
    have i := ih (fun k h1 h2 => h k h1 (by omega))
    unfold zms zma
    rw [i.1, i.2, h (n : Int) (by omega) (by omega)]
    exact ⟨rfl, rfl⟩
/-- the front card is taken and seen: the shoe -/
theorem zIs_tk {e : zm_D} (H : zIs e) (h : e 5 4 < e 5 5) : zIs (ztk e) := by
  obtain ⟨⟨a1, a2⟩, b, c, f, g⟩ := H
  obtain ⟨x, hx⟩ : ∃ x, e 6 (e 5 4) = x := ⟨_, rfl⟩
  have xb := a2 (e 5 4) (by omega) h
  rw [hx] at xb
  have k5 : ∀ j : Int, j ≠ 4 → ztk e 5 j = e 5 j := fun j q => ztk_k q
  have k6 : ∀ j : Int, ztk e 6 j = e 6 j := fun j => ztk_o (by decide) (by decide)
  have k4 := @ztk_4 e
  refine ⟨⟨by rw [k4, k5 5 (by decide)]; omega, fun i q1 q2 => ?_⟩, by rw [k5 7 (by decide)]; exact b, by rw [k5 6 (by decide)]; exact c, fun r q1 q2 => ?_, fun r q1 q2 => by rw [ztk_o (by decide) (by decide)]; exact g r q1 q2⟩
  · rw [k4] at q1
    rw [k5 5 (by decide)] at q2
    rw [k6]
    exact a2 i (by omega) q2
  · have w := f r q1 q2
    obtain ⟨n, hn⟩ : ∃ n : Nat, e 5 5 - e 5 4 = ((n + 1 : Nat) : Int) := ⟨(e 5 5 - e 5 4 - 1).toNat, by omega⟩
    have e8 : ztk e 8 r = e 8 r + (if x = r then 1 else 0) := by
      unfold ztk
      rw [hx]
      by_cases q : x = r
      · subst q
        rw [zm_ue rfl rfl, if_pos rfl]
      · rw [zm_un (by omega), zm_un (by omega), if_neg q, Int.add_zero]
    have ec : zch e r (n + 1) = (if x = r then 1 else 0) + zch (ztk e) r n := by
      have s1 := @zsu_s (zrkf e r) 1 n
      rw [zch_z, zch_z, Nat.add_comm n 1]
      have s2 : zsu (zrkf (ztk e) r) n = zsu (fun i => zrkf e r (i + ((1 : Nat) : Int))) n := zsu_e n (fun i p1 p2 => by
        show (if ztk e 6 (ztk e 5 4 + i) = r then (1 : Int) else 0) = (if e 6 (e 5 4 + (i + ((1 : Nat) : Int))) = r then 1 else 0)
        rw [k6, k4, show e 5 4 + 1 + i = e 5 4 + (i + ((1 : Nat) : Int)) by omega])
      rw [s2, s1]
      have s3 : zsu (zrkf e r) 1 = if x = r then 1 else 0 := by
        show (0 : Int) + (if e 6 (e 5 4 + ((0 : Nat) : Int)) = r then 1 else 0) = _
        rw [show e 5 4 + ((0 : Nat) : Int) = e 5 4 by omega, hx]
        omega
      rw [s3]
      omega
    have ew : zwf (ztk e) r + ztk e 8 r = zwf e r + e 8 r := by
      unfold zwf zhd1
      rw [k5 7 (by decide), k5 5 (by decide), k4, e8, hn, show (e 5 5 - (e 5 4 + 1)).toNat = n by omega, show (((n + 1 : Nat) : Int)).toNat = n + 1 by omega, ec]
      omega
    rw [ew, k5 6 (by decide), e8]
    refine ⟨w.1, ?_⟩
    split <;> omega
/-- the hidden card is shown -/
theorem zIs_hw {e : zm_D} (H : zIs e) (h : 1 ≤ e 5 7) : zIs (zhw e) := by
  obtain ⟨⟨a1, a2⟩, b, c, f, g⟩ := H
  have k5 : ∀ j : Int, j ≠ 7 → zhw e 5 j = e 5 j := fun j q => zhw_o (.inr q) (by decide)
  have k6 : ∀ j : Int, zhw e 6 j = e 6 j := fun j => zhw_o (.inl (by decide)) (by decide)
  have k7 : zhw e 5 7 = 0 := zm_ue rfl rfl
  refine ⟨⟨by rw [k5 4 (by decide), k5 5 (by decide)]; exact a1, fun i q1 q2 => ?_⟩, by rw [k7]; decide, by rw [k5 6 (by decide)]; exact c, fun r q1 q2 => ?_, fun r q1 q2 => by rw [zhw_o (.inl (by decide)) (by decide)]; exact g r q1 q2⟩
  · rw [k5 4 (by decide)] at q1
    rw [k5 5 (by decide)] at q2
    rw [k6]
    exact a2 i q1 q2
  · have w := f r q1 q2
    have e8 : zhw e 8 r = e 8 r + (if e 5 7 = r then 1 else 0) := by
      unfold zhw
      by_cases q : e 5 7 = r
      · rw [zm_un (by omega), zm_ue rfl q.symm, if_pos q, q]
      · rw [zm_un (by omega), zm_un (by omega), if_neg q, Int.add_zero]
    have ew : zwf (zhw e) r + zhw e 8 r = zwf e r + e 8 r := by
      unfold zwf zhd1
      rw [k7, k5 5 (by decide), k5 4 (by decide), e8, zch_z, zch_z, if_neg (show ¬ (0 : Int) = r by omega)]
      rw [show zsu (zrkf (zhw e) r) (e 5 5 - e 5 4).toNat = zsu (zrkf e r) (e 5 5 - e 5 4).toNat from zsu_e _ (fun i p1 p2 => by unfold zrkf; rw [k6, k5 4 (by decide)])]
      omega
    rw [ew, k5 6 (by decide), e8]
    refine ⟨w.1, ?_⟩
    split <;> omega
/-- the shoe and the dealer on both sides, the dealer drawing -/
def zDk (a b : zm_D) : Prop := (b 61 35 = a 5 5 - a 5 4 ∧ ∀ k : Int, 0 ≤ k → k < a 5 5 - a 5 4 → b 92 k = a 6 (a 5 4 + k)) ∧ (b 61 36 = a 36 1 ∧ ∀ k : Int, 0 ≤ k → k < a 36 1 → b 121 k = a 37 k) ∧ ((0 ≤ a 36 1 ∧ a 36 1 ≤ a 36 2 ∧ a 36 1 ≤ 18) ∧ a 36 2 ≤ 40 ∧ (0 ≤ a 36 3 ∧ a 36 3 ≤ 1) ∧ (a 36 2 = zms a 37 (a 36 1).toNat ∧ a 36 3 = zma a 37 (a 36 1).toNat) ∧ (∀ k : Int, 0 ≤ k → k < a 36 1 → 1 ≤ a 37 k ∧ a 37 k ≤ 10)) ∧ b 91 2 = a 34 7 ∧ zIs a
theorem zDk_v {a b : zm_D} (H : zDk a b) : zmv b 121 (b 61 36) = zhv (a 36 3) (a 36 2) ∧ zmf b 121 (b 61 36) = zsf (a 36 3) (a 36 2) := by
  obtain ⟨-, ⟨h1, h2⟩, ⟨c1, -, -, ⟨c2, c3⟩, -⟩, -, -⟩ := H
  have x := @zms_x a b 121 37 (a 36 1).toNat (fun k q1 q2 => h2 k q1 (by omega))
  unfold zmv zmf
  rw [h1, x.1, x.2, ← c2, ← c3]
  exact ⟨rfl, rfl⟩
theorem zDk_c {a b : zm_D} (H : zDk a b) : (0 < b 61 35 ∧ zmdc b = 0) ↔ (zdc a = 1 ∧ a 5 4 < a 5 5) := by
  have v := zDk_v H
  have r := H.2.2.2.1
  have s := H.1.1
  unfold zmdc zdc zmen zda
  rw [v.1, v.2, r, s]
  generalize zhv (a 36 3) (a 36 2) = x
  generalize zsf (a 36 3) (a 36 2) = y
  split <;> split <;> omega
theorem zDk_s {a b : zm_D} (H : zDk a b) (hc : zdc a = 1) (hl : a 5 4 < a 5 5) : zDk (zad (ztk a) 36 37 (a 6 (a 5 4))) (zmda b) := by
  obtain ⟨⟨s1, s2⟩, ⟨d1, d2⟩, ⟨c1, c2, c3, ⟨c4, c5⟩, c6⟩, r, I⟩ := H
  have x17 := zdc_1 hc
  have xb := I.1.2 (a 5 4) (by omega) hl
  have b0 := s2 0 (by decide) (by omega)
  rw [Int.add_zero] at b0
  obtain ⟨x, hx⟩ : ∃ x, a 6 (a 5 4) = x := ⟨_, rfl⟩
  rw [hx] at xb b0 ⊢
  obtain ⟨n, hn⟩ : ∃ n : Nat, a 36 1 = (n : Int) := ⟨(a 36 1).toNat, by omega⟩
  have O : ∀ r j : Int, r ≠ 36 → r ≠ 37 → zad (ztk a) 36 37 x r j = ztk a r j := fun r j q1 q2 => zad_o q1 q2
  have e1 : zad (ztk a) 36 37 x 36 1 = (n : Int) + 1 := by rw [zad_1, ztk_o (by decide) (by decide), hn]
  have e2 : zad (ztk a) 36 37 x 36 2 = a 36 2 + x := by rw [zad_2, ztk_o (by decide) (by decide)]
  have e3 : zad (ztk a) 36 37 x 36 3 = zor (a 36 3) x := by rw [zad_3, ztk_o (by decide) (by decide)]
  have e7 : ∀ j, zad (ztk a) 36 37 x 37 j = if j = (n : Int) then x else a 37 j := fun j => by
    rw [zad_c (by decide), ztk_o (by decide) (by decide), ztk_o (by decide) (by decide), hn]
  have z := @zms_x a (zad (ztk a) 36 37 x) 37 37 n (fun k q1 q2 => by rw [e7, if_neg (by omega)])
  rw [hn] at c1 c4 c5 c6 d1 d2
  rw [Int.toNat_natCast] at c4 c5
  have I2 := zIs_tk I hl
  refine ⟨⟨?_, fun k q1 q2 => ?_⟩, ⟨?_, fun k q1 q2 => ?_⟩, ⟨?_, ?_, ?_, ⟨?_, ?_⟩, fun k q1 q2 => ?_⟩, ?_, ?_⟩
  · rw [zmda_1.1, O _ _ (by decide) (by decide), O _ _ (by decide) (by decide), ztk_k (by decide), ztk_4, s1]
    omega
  · rw [O _ _ (by decide) (by decide), O _ _ (by decide) (by decide), ztk_k (by decide), ztk_4] at q2
    rw [zmda_s (by omega), s2 (k + 1) (by omega) (by omega), O 6 _ (by decide) (by decide), O 5 4 (by decide) (by decide), ztk_4, ztk_o (by decide) (by decide), show a 5 4 + (k + 1) = a 5 4 + 1 + k by omega]
  · rw [zmda_1.2, e1, d1]
  · rw [e1] at q2
    rw [zmda_d, e7, d1, b0]
    by_cases p : k = (n : Int)
    · rw [if_pos p, if_pos p]
    · rw [if_neg p, if_neg p]
      exact d2 k q1 (by omega)
  · rw [e1, e2]
    omega
  · rw [e2]
    omega
  · rw [e3]
    exact zor_b
  · rw [e1, e2, show ((n : Int) + 1).toNat = n + 1 by omega]
    show _ = zms (zad (ztk a) 36 37 x) 37 n + zad (ztk a) 36 37 x 37 (n : Int)
    rw [z.1, e7, if_pos rfl, c4]
  · rw [e1, e3, show ((n : Int) + 1).toNat = n + 1 by omega]
    show _ = (if zma (zad (ztk a) 36 37 x) 37 n = 1 ∨ zad (ztk a) 36 37 x 37 (n : Int) = 1 then (1 : Int) else 0)
    rw [z.2, e7, if_pos rfl, ← c5]
    unfold zor
    split <;> split <;> omega
  · rw [e1] at q2
    rw [e7]
    split
    · exact xb
    · exact c6 k q1 (by omega)
  · rw [zmda_o (by decide) (by decide) (by decide), O _ _ (by decide) (by decide), ztk_o (by decide) (by decide)]
    exact r
  · exact zIs_e I2 (fun r j q => O r j (by omega) (by omega))
theorem zDk_r : ∀ (f : Nat) {a b : zm_D}, zDk a b → zDk (zdra f a) (zmdr f b) ∧ a 36 1 ≤ zdra f a 36 1 ∧ (zdra f a 36 1 = a 36 1 → zdra f a 36 2 = a 36 2 ∧ zdra f a 36 3 = a 36 3) := by
  intro f
  induction f with
  | zero => intro a b H; exact ⟨H, Int.le_refl _, fun _ => ⟨rfl, rfl⟩⟩
  | succ f ih =>
    intro a b H
    have c := zDk_c H
    by_cases p : zdc a = 1 ∧ a 5 4 < a 5 5
    · have i := ih (zDk_s H p.1 p.2)
      rw [zdra_t p, show zmdr (f + 1) b = zmdr f (zmda b) from if_pos (c.2 p)]
      have e1 : zad (ztk a) 36 37 (a 6 (a 5 4)) 36 1 = a 36 1 + 1 := by rw [zad_1, ztk_o (by decide) (by decide)]
      rw [e1] at i
      exact ⟨i.1, by omega, fun z => by omega⟩
    · rw [zdra_f p, show zmdr (f + 1) b = b from if_neg (fun z => p (c.1 z))]
      exact ⟨H, Int.le_refl _, fun _ => ⟨rfl, rfl⟩⟩
/-- whether the dealer is needed -/
theorem zSp_i {a b : zm_D} {s x : Int} (P : zSp 0 a b s) (hx : x = 0 ∨ x = 1) : zmis b s x = 1 ↔ (x = 1 ∨ znq a (38 + 5 * s) (39 + 5 * s) (41 + 5 * s) = 1) := by
  have P0 := P
  obtain ⟨p1, p2, p3, p4, p5⟩ := P
  unfold zmis znq zmo
  rcases (by omega : b 98 s = 0 ∨ b 98 s = 1 ∨ b 98 s = 2) with c | c | c
  · have q1 := p2 c
    have q2 := p3 (by omega)
    rw [if_pos c, if_neg (show ¬ (0 < a (39 + 5 * s) 4 + a (41 + 5 * s) 4 ∧ _) from fun z => by have := z.1; omega)]
    omega
  · obtain ⟨g, ⟨⟨s1, s2, s3⟩, t, -⟩, sp⟩ := p4 (by omega)
    simp only [Int.mul_zero, Int.add_zero] at s1
    have n := zSp_n P0 (by omega)
    have q2 := p3 (by omega)
    rw [if_neg (by omega), if_pos c]
    unfold zmiv
    rw [n]
    generalize zsn (a (38 + 5 * s) 3) (a (39 + 5 * s) 1) (a (39 + 5 * s) 3) (a (39 + 5 * s) 2) = y
    repeat' split
    all_goals omega
  · obtain ⟨g, ⟨⟨s1, s2, s3⟩, t, -⟩, sp⟩ := p4 (by omega)
    obtain ⟨-, ⟨⟨u1, u2, u3⟩, w, -⟩⟩ := p5 c
    simp only [Int.mul_zero, Int.add_zero] at s1
    rw [show 39 + 5 * s + 2 * 1 = 41 + 5 * s by omega] at u1
    have n := zSp_n P0 (by omega)
    have y0 : zsn (a (38 + 5 * s) 3) (a (39 + 5 * s) 1) (a (39 + 5 * s) 3) (a (39 + 5 * s) 2) = 0 := by
      unfold zsn
      rw [if_pos (fun z => by have := sp.2 z; omega)]
    rw [if_neg (by omega), if_neg (by omega)]
    unfold zmiv
    rw [n, y0]
    repeat' split
    all_goals omega
