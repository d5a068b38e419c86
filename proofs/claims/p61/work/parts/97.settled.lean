/-! ===== STEPS: hands settled on both sides ===== -/
set_option maxRecDepth 65536
/-- a hand wins x: money -/
theorem zMon_win {a b a1 b1 : zm_D} {s k z g c x : Int} (M : zMon a b) (ha : ∀ r j : Int, r ≠ 34 → a1 r j = a r j) (hb : ∀ r j : Int, (r ≠ 61 ∨ j ≠ 38) → b1 r j = b r j) (hs : 0 ≤ s ∧ s < 3) (hz : 39 ≤ z ∧ z ≤ 51) (hg : 0 ≤ g ∧ g < 8) (eg : b 96 s = g) (hst : b (114 + s) k = c) : zMon (zm_u (zpo (zse a1 z) 31 x) (15 + 2 * g) 2 (a (15 + 2 * g) 2 + (c + x))) (zmwn b1 s k x) := by
  have e1 : b1 96 s = g := (hb _ _ (by omega)).trans eg
  have e2 : b1 (114 + s) k = c := (hb _ _ (by omega)).trans hst
  have e3 : b1 63 g = b 63 g := hb _ _ (by omega)
  unfold zmwn
  rw [e1, e2, e3]
  have m1 : zMon (zm_u (zse a1 z) (15 + 2 * g) 2 (a (15 + 2 * g) 2 + c)) (zm_u (zm_u (zm_u b1 63 g (b 63 g + c)) (114 + s) k 0) (118 + s) k 3) := by
    refine zMon_e (zMon_chp (q := g) (c := c) M hg) ?_ (fun i p1 p2 => ?_) (fun i j p1 p2 p3 => ?_) ?_ (fun i p1 p2 => ?_) (fun i j p1 p2 p3 => ?_)
    · rw [zm_un (by omega), zse_o (by omega), ha _ _ (by decide), zm_un (by omega)]
    · by_cases p : i = g
      · subst p
        rw [zm_ue rfl rfl, zm_ue rfl rfl]
      · rw [zm_un (by omega), zse_o (by omega), ha _ _ (by omega), zm_un (by omega)]
    · rw [zm_un (by omega), zse_o (by omega), ha _ _ (by omega), zm_un (by omega)]
    · simp (disch := omega) only [zm_un]
      exact hb _ _ (by decide)
    · by_cases p : i = g
      · subst p
        simp (disch := omega) only [zm_un, zm_ue]
      · simp (disch := omega) only [zm_un]
        exact hb _ _ (by omega)
    · simp (disch := omega) only [zm_un]
      exact hb _ _ (by omega)
  refine zMon_e (zMon_pay (t := 0) (q := g) (x := x) m1 (by decide) hg) ?_ (fun i p1 p2 => ?_) (fun i j p1 p2 p3 => ?_) rfl (fun _ _ _ => rfl) (fun _ _ _ _ _ => rfl)
  · unfold zpo
    simp (disch := omega) only [zm_un, zm_ue, Int.add_zero]
  · unfold zpo
    by_cases p : i = g
    · subst p
      simp (disch := omega) only [zm_un, zm_ue, Int.add_zero]
      omega
    · simp (disch := omega) only [zm_un]
  · unfold zpo
    by_cases p : i = 0
    · subst p
      rcases p3 with p3 | p3 | p3
      all_goals subst p3
      all_goals simp (disch := omega) only [zm_un, zm_ue, Int.add_zero]
    · simp (disch := omega) only [zm_un]
/-- bounds of what a payment does to the class's cells -/
theorem zpo_w {a a1 : zm_D} {z g c x : Int} (ha : ∀ r j : Int, r ≠ 34 → a1 r j = a r j) (hz : 39 ≤ z ∧ z ≤ 51) (hg : 0 ≤ g ∧ g < 8) (hx : 0 ≤ x ∧ x ≤ 3000) (hc : 0 ≤ c ∧ c ≤ 2000) (T : 0 ≤ a 31 1) : (a 4 0 - 3000 ≤ zm_u (zpo (zse a1 z) 31 x) (15 + 2 * g) 2 (a (15 + 2 * g) 2 + (c + x)) 4 0 ∧ zm_u (zpo (zse a1 z) 31 x) (15 + 2 * g) 2 (a (15 + 2 * g) 2 + (c + x)) 4 0 ≤ a 4 0) ∧ (0 ≤ zm_u (zpo (zse a1 z) 31 x) (15 + 2 * g) 2 (a (15 + 2 * g) 2 + (c + x)) 31 1 ∧ zm_u (zpo (zse a1 z) 31 x) (15 + 2 * g) 2 (a (15 + 2 * g) 2 + (c + x)) 31 1 ≤ a 31 1 + 2000) ∧ (∀ i : Int, 0 ≤ i → i < 8 → a (15 + 2 * i) 2 ≤ zm_u (zpo (zse a1 z) 31 x) (15 + 2 * g) 2 (a (15 + 2 * g) 2 + (c + x)) (15 + 2 * i) 2 ∧ zm_u (zpo (zse a1 z) 31 x) (15 + 2 * g) 2 (a (15 + 2 * g) 2 + (c + x)) (15 + 2 * i) 2 ≤ a (15 + 2 * i) 2 + 5000) := by
  have e1 : zse a1 z 31 1 = a 31 1 := by rw [zse_o (by omega), ha _ _ (by decide)]
  have e2 : zse a1 z 4 0 = a 4 0 := by rw [zse_o (by omega), ha _ _ (by decide)]
  have e3 : ∀ i j : Int, 0 ≤ i → i < 8 → zse a1 z (15 + 2 * i) j = a (15 + 2 * i) j := fun i j p1 p2 => by rw [zse_o (by omega), ha _ _ (by omega)]
  unfold zpo
  refine ⟨?_, ?_, fun i p1 p2 => ?_⟩
  · simp (disch := omega) only [zm_un, zm_ue]
    rw [e1, e2]
    unfold zlk
    split <;> omega
  · simp (disch := omega) only [zm_un, zm_ue]
    rw [e1]
    unfold zlk
    split <;> omega
  · by_cases p : i = g
    · subst p
      simp (disch := omega) only [zm_un, zm_ue]
      omega
    · simp (disch := omega) only [zm_un]
      rw [e3 i 2 p1 p2]
      omega
/-- a hand k of seat s ahead of its settling; nat: the dealer has a natural -/
def zSh1 (nat : Int) (a b : zm_D) (s k : Int) : Prop := (a (39 + 5 * s + 2 * k) 4 = b (114 + s) k ∧ 0 ≤ b (114 + s) k ∧ b (114 + s) k ≤ 2000) ∧ ((0 < b (114 + s) k ∧ (b (118 + s) k = 2 ∨ (nat = 1 ∧ b (118 + s) k = 1))) ∨ (b (114 + s) k = 0 ∧ b (118 + s) k = 3)) ∧ b (110 + s) k = a (39 + 5 * s + 2 * k) 1 ∧ zmv b (101 + 3 * s + k) (b (110 + s) k) = zhv (a (39 + 5 * s + 2 * k) 3) (a (39 + 5 * s + 2 * k) 2) ∧ (nat = 1 → a (39 + 5 * s + 2 * k) 1 = 2 ∧ zhv (a (39 + 5 * s + 2 * k) 3) (a (39 + 5 * s + 2 * k) 2) ≤ 21)
/-- money and bounds -/
def zBd (x y c : Int) (e a : zm_D) : Prop := (e 4 0 - x ≤ a 4 0 ∧ a 4 0 ≤ e 4 0) ∧ (0 ≤ a 31 1 ∧ a 31 1 ≤ e 31 1 + y) ∧ (∀ i : Int, 0 ≤ i → i < 8 → e (15 + 2 * i) 2 ≤ a (15 + 2 * i) 2 ∧ a (15 + 2 * i) 2 ≤ e (15 + 2 * i) 2 + c)
theorem zBd_t {x y c x2 y2 c2 : Int} {e a d : zm_D} (H : zBd x y c e a) (K : zBd x2 y2 c2 a d) : zBd (x + x2) (y + y2) (c + c2) e d := by
  obtain ⟨h1, h2, h3⟩ := H
  obtain ⟨k1, k2, k3⟩ := K
  refine ⟨by omega, by omega, fun i p1 p2 => ?_⟩
  have f1 := h3 i p1 p2
  have f2 := k3 i p1 p2
  omega
theorem zBd_0 {e a : zm_D} (h1 : a 4 0 = e 4 0) (h2 : a 31 1 = e 31 1) (h3 : ∀ i : Int, 0 ≤ i → i < 8 → a (15 + 2 * i) 2 = e (15 + 2 * i) 2) (T : 0 ≤ e 31 1) : zBd 0 0 0 e a := ⟨by omega, by omega, fun i p1 p2 => by have := h3 i p1 p2; omega⟩
theorem zand4 {A B C D E : Prop} (h : A ∧ B ∧ C ∧ D) (e : E) : A ∧ B ∧ C ∧ D ∧ E := ⟨h.1, h.2.1, h.2.2.1, h.2.2.2, e⟩
theorem zSt1 {a b : zm_D} {s k nat v : Int} (hs : 0 ≤ s ∧ s < 3) (hk : k = 0 ∨ k = 1) (M : zMon a b) (H38 : b 61 38 = a 34 9) (hru : b 91 3 = a 34 8) (g : 0 ≤ b 96 s ∧ b 96 s < 8) (gq : a (38 + 5 * s) 2 = 15 + 2 * b 96 s) (H : zSh1 nat a b s k) (hv : v = zhv (a 36 3) (a 36 2)) (hn : zmn b s = zsn (a (38 + 5 * s) 3) (a (39 + 5 * s) 1) (a (39 + 5 * s) 3) (a (39 + 5 * s) 2)) (hN : zmn b s = 0 → nat = 1 → k = 0 ∧ a (38 + 5 * s) 3 = 0) (hnat : nat = znt (a 36 1) (a 36 3) (a 36 2)) (T : 0 ≤ a 31 1) : zMon (zstl a (38 + 5 * s) (39 + 5 * s) (39 + 5 * s + 2 * k)) (zmsh b s k (101 + 3 * s + k) v nat) ∧ zmsh b s k (101 + 3 * s + k) v nat 61 38 = zstl a (38 + 5 * s) (39 + 5 * s) (39 + 5 * s + 2 * k) 34 9 ∧ zBd 3000 2000 5000 a (zstl a (38 + 5 * s) (39 + 5 * s) (39 + 5 * s + 2 * k)) ∧ zstl a (38 + 5 * s) (39 + 5 * s) (39 + 5 * s + 2 * k) (39 + 5 * s + 2 * k) 4 = 0 ∧ (zmsh b s k (101 + 3 * s + k) v nat (114 + s) k = 0 ∧ zmsh b s k (101 + 3 * s + k) v nat (118 + s) k = 3) := by
  obtain ⟨⟨st, sb1, sb2⟩, hst, hc, ho, hN2⟩ := H
  obtain ⟨z, hz⟩ : ∃ z, 39 + 5 * s + 2 * k = z := ⟨_, rfl⟩
  rw [hz] at st hc ho hN2 ⊢
  have hz2 : 39 ≤ z ∧ z ≤ 51 := by omega
  obtain ⟨c, hcc⟩ : ∃ c, b (114 + s) k = c := ⟨_, rfl⟩
  rw [hcc] at st sb1 sb2 hst
  obtain ⟨j, hj⟩ : ∃ j, b 96 s = j := ⟨_, rfl⟩
  rw [hj] at g gq
  rcases hst with ⟨c0, hst⟩ | ⟨c0, hst⟩
  · have e1 : zmsh b s k (101 + 3 * s + k) v nat = zmst b s k (zhv (a z 3) (a z 2)) v nat := by
      unfold zmsh
      rw [if_pos (by omega), ho]
    have e2 : zstl a (38 + 5 * s) (39 + 5 * s) z = if zgn a (38 + 5 * s) (39 + 5 * s) z < 0 then zm_u (zse (zgm a (38 + 5 * s) (39 + 5 * s) z) z) 31 1 (a 31 1 + c) else zm_u (zpo (zse (zgm a (38 + 5 * s) (39 + 5 * s) z) z) 31 (zgn a (38 + 5 * s) (39 + 5 * s) z)) (15 + 2 * j) 2 (a (15 + 2 * j) 2 + (c + zgn a (38 + 5 * s) (39 + 5 * s) z)) := by
      unfold zstl
      rw [if_neg (by omega), st, gq]
    have s1 := zmst_s (e := b) (k := k) (o := zhv (a z 3) (a z 2)) (v := v) (nat := nat) hs
    rw [e1, e2]
    have ha : ∀ r i : Int, r ≠ 34 → zgm a (38 + 5 * s) (39 + 5 * s) z r i = a r i := fun r i p => zgm_o p
    have W : ∀ (b1 : zm_D) (x : Int), (∀ r i : Int, (r ≠ 61 ∨ i ≠ 38) → b1 r i = b r i) → (0 ≤ x ∧ x ≤ 3000) → b1 61 38 = zgm a (38 + 5 * s) (39 + 5 * s) z 34 9 → zgn a (38 + 5 * s) (39 + 5 * s) z = x → zmst b s k (zhv (a z 3) (a z 2)) v nat = zmwn b1 s k x → zMon (if zgn a (38 + 5 * s) (39 + 5 * s) z < 0 then zm_u (zse (zgm a (38 + 5 * s) (39 + 5 * s) z) z) 31 1 (a 31 1 + c) else zm_u (zpo (zse (zgm a (38 + 5 * s) (39 + 5 * s) z) z) 31 (zgn a (38 + 5 * s) (39 + 5 * s) z)) (15 + 2 * j) 2 (a (15 + 2 * j) 2 + (c + zgn a (38 + 5 * s) (39 + 5 * s) z))) (zmst b s k (zhv (a z 3) (a z 2)) v nat) ∧ zmst b s k (zhv (a z 3) (a z 2)) v nat 61 38 = (if zgn a (38 + 5 * s) (39 + 5 * s) z < 0 then zm_u (zse (zgm a (38 + 5 * s) (39 + 5 * s) z) z) 31 1 (a 31 1 + c) else zm_u (zpo (zse (zgm a (38 + 5 * s) (39 + 5 * s) z) z) 31 (zgn a (38 + 5 * s) (39 + 5 * s) z)) (15 + 2 * j) 2 (a (15 + 2 * j) 2 + (c + zgn a (38 + 5 * s) (39 + 5 * s) z))) 34 9 ∧ zBd 3000 2000 5000 a (if zgn a (38 + 5 * s) (39 + 5 * s) z < 0 then zm_u (zse (zgm a (38 + 5 * s) (39 + 5 * s) z) z) 31 1 (a 31 1 + c) else zm_u (zpo (zse (zgm a (38 + 5 * s) (39 + 5 * s) z) z) 31 (zgn a (38 + 5 * s) (39 + 5 * s) z)) (15 + 2 * j) 2 (a (15 + 2 * j) 2 + (c + zgn a (38 + 5 * s) (39 + 5 * s) z))) ∧ (if zgn a (38 + 5 * s) (39 + 5 * s) z < 0 then zm_u (zse (zgm a (38 + 5 * s) (39 + 5 * s) z) z) 31 1 (a 31 1 + c) else zm_u (zpo (zse (zgm a (38 + 5 * s) (39 + 5 * s) z) z) 31 (zgn a (38 + 5 * s) (39 + 5 * s) z)) (15 + 2 * j) 2 (a (15 + 2 * j) 2 + (c + zgn a (38 + 5 * s) (39 + 5 * s) z))) z 4 = 0 := by
      intro b1 x hb hx h38 hg2 hw2
      rw [hw2, hg2, if_neg (by omega)]
      refine ⟨zMon_win M ha hb hs hz2 g hj hcc, ?_, zpo_w ha hz2 g hx (by omega) T, ?_⟩
      · unfold zmwn zmpa zpo
        simp (disch := omega) only [zm_un]
        rw [zse_o (by omega)]
        exact h38
      · unfold zpo
        simp (disch := omega) only [zm_un]
        exact zse_4
    have LS : zgn a (38 + 5 * s) (39 + 5 * s) z = -1 → zgm a (38 + 5 * s) (39 + 5 * s) z = a → zmst b s k (zhv (a z 3) (a z 2)) v nat = zmls b s k → zMon (if zgn a (38 + 5 * s) (39 + 5 * s) z < 0 then zm_u (zse (zgm a (38 + 5 * s) (39 + 5 * s) z) z) 31 1 (a 31 1 + c) else zm_u (zpo (zse (zgm a (38 + 5 * s) (39 + 5 * s) z) z) 31 (zgn a (38 + 5 * s) (39 + 5 * s) z)) (15 + 2 * j) 2 (a (15 + 2 * j) 2 + (c + zgn a (38 + 5 * s) (39 + 5 * s) z))) (zmst b s k (zhv (a z 3) (a z 2)) v nat) ∧ zmst b s k (zhv (a z 3) (a z 2)) v nat 61 38 = (if zgn a (38 + 5 * s) (39 + 5 * s) z < 0 then zm_u (zse (zgm a (38 + 5 * s) (39 + 5 * s) z) z) 31 1 (a 31 1 + c) else zm_u (zpo (zse (zgm a (38 + 5 * s) (39 + 5 * s) z) z) 31 (zgn a (38 + 5 * s) (39 + 5 * s) z)) (15 + 2 * j) 2 (a (15 + 2 * j) 2 + (c + zgn a (38 + 5 * s) (39 + 5 * s) z))) 34 9 ∧ zBd 3000 2000 5000 a (if zgn a (38 + 5 * s) (39 + 5 * s) z < 0 then zm_u (zse (zgm a (38 + 5 * s) (39 + 5 * s) z) z) 31 1 (a 31 1 + c) else zm_u (zpo (zse (zgm a (38 + 5 * s) (39 + 5 * s) z) z) 31 (zgn a (38 + 5 * s) (39 + 5 * s) z)) (15 + 2 * j) 2 (a (15 + 2 * j) 2 + (c + zgn a (38 + 5 * s) (39 + 5 * s) z))) ∧ (if zgn a (38 + 5 * s) (39 + 5 * s) z < 0 then zm_u (zse (zgm a (38 + 5 * s) (39 + 5 * s) z) z) 31 1 (a 31 1 + c) else zm_u (zpo (zse (zgm a (38 + 5 * s) (39 + 5 * s) z) z) 31 (zgn a (38 + 5 * s) (39 + 5 * s) z)) (15 + 2 * j) 2 (a (15 + 2 * j) 2 + (c + zgn a (38 + 5 * s) (39 + 5 * s) z))) z 4 = 0 := by
      intro hg2 hm2 hw2
      rw [hw2, hg2, hm2, if_pos (by decide)]
      unfold zmls
      rw [hcc]
      refine ⟨?_, ?_, ⟨?_, ?_, fun i p1 p2 => ?_⟩, ?_⟩
      · refine zMon_e (zMon_get (t := 0) (s := c) M (by decide)) (by simp (disch := omega) only [zm_un]; exact zse_o (by omega)) (fun i p1 p2 => by simp (disch := omega) only [zm_un]; exact zse_o (by omega)) (fun i i2 p1 p2 p3 => ?_) (by simp (disch := omega) only [zm_un]) (fun i p1 p2 => by simp (disch := omega) only [zm_un]) (fun i i2 p1 p2 p3 => by simp (disch := omega) only [zm_un])
        by_cases p : i = 0 ∧ i2 = 1
        · rw [p.1, p.2]
          simp (disch := omega) only [zm_un, zm_ue, Int.add_zero]
        · simp (disch := omega) only [zm_un]
          exact zse_o (by omega)
      · simp (disch := omega) only [zm_un]
        rw [zse_o (by omega)]
        exact H38
      · rw [zm_un (by omega), zse_o (by omega)]
        omega
      · rw [zm_ue rfl rfl]
        omega
      · rw [zm_un (by omega), zse_o (by omega)]
        omega
      · rw [zm_un (by omega)]
        exact zse_4
    clear e1 e2
    by_cases c1 : zmn b s = 1
    · have q1 : zsn (a (38 + 5 * s) 3) (a (39 + 5 * s) 1) (a (39 + 5 * s) 3) (a (39 + 5 * s) 2) = 1 := by rw [← hn]; exact c1
      rcases znt_c (k := a 36 1) (a := a 36 3) (s := a 36 2) with d1 | d1
      · have n0 : ¬ nat = 1 := by omega
        by_cases r3 : a 34 8 = 1
        · have hx : c * 6 / 5 ≤ 3000 := by omega
          refine zand4 (W (zm_u b 61 38 (b 61 38 + b (114 + s) k * 6 % 5 * 2)) (c * 6 / 5) (fun r i p => zm_un (by omega)) (by omega) ?_ ?_ ?_) s1
          · unfold zgm
            rw [if_pos ⟨q1, d1⟩, if_pos r3, zm_ue rfl rfl, zm_ue rfl rfl, hcc, st, H38]
          · unfold zgn
            rw [if_pos q1, if_neg (by omega), if_pos r3, st]
          · unfold zmst
            rw [if_pos c1, if_neg n0, if_pos (by omega), hcc]
        · refine zand4 (W (zm_u b 61 38 (b 61 38 + b (114 + s) k % 2 * 5)) (c * 3 / 2) (fun r i p => zm_un (by omega)) (by omega) ?_ ?_ ?_) s1
          · unfold zgm
            rw [if_pos ⟨q1, d1⟩, if_neg r3, zm_ue rfl rfl, zm_ue rfl rfl, hcc, st, H38]
            omega
          · unfold zgn
            rw [if_pos q1, if_neg (by omega), if_neg r3, st]
          · unfold zmst
            rw [if_pos c1, if_neg n0, if_neg (by omega), hcc]
      · have n1 : nat = 1 := by omega
        refine zand4 (W (zm_u b 61 38 (b 61 38 + 0)) 0 (fun r i p => zm_un (by omega)) (by omega) ?_ ?_ ?_) s1
        · unfold zgm
          rw [if_neg (by omega), zm_ue rfl rfl, H38, Int.add_zero]
        · unfold zgn
          rw [if_pos q1, if_pos d1]
        · unfold zmst
          rw [if_pos c1, if_pos n1]
    · have c2 : zmn b s = 0 := by
        rcases @zmn_c b s with x | x
        · exact x
        · exact absurd x c1
      have q1 : ¬ zsn (a (38 + 5 * s) 3) (a (39 + 5 * s) 1) (a (39 + 5 * s) 3) (a (39 + 5 * s) 2) = 1 := by rw [← hn]; exact c1
      have hm0 : zgm a (38 + 5 * s) (39 + 5 * s) z = a := by
        unfold zgm
        rw [if_neg (fun p => q1 p.1)]
      by_cases n1 : nat = 1
      · have dv : zhv (a 36 3) (a 36 2) = 21 := by
          rw [hnat] at n1
          unfold znt at n1
          split at n1
          · rename_i p
            exact p.2
          · exact absurd n1 (by decide)
        have own : zhv (a z 3) (a z 2) < 21 := by
          have k1 := hN c2 n1
          have k2 := hN2 n1
          have zz : z = 39 + 5 * s := by omega
          rw [zz] at k2 ⊢
          have ne : zhv (a (39 + 5 * s) 3) (a (39 + 5 * s) 2) ≠ 21 := fun p => q1 (by
            unfold zsn znt
            rw [if_neg (by omega), if_pos ⟨k2.1, p⟩])
          omega
        refine zand4 (LS ?_ hm0 ?_) s1
        · unfold zgn
          rw [if_neg q1, if_neg (by omega), if_neg (by omega)]
        · unfold zmst
          rw [if_neg c1, if_neg (by omega), if_neg (by omega)]
      · have n0 : nat = 0 := by
          rcases znt_c (k := a 36 1) (a := a 36 3) (s := a 36 2) with x | x
          · omega
          · omega
        by_cases p1 : 21 < zhv (a 36 3) (a 36 2) ∨ zhv (a 36 3) (a 36 2) < zhv (a z 3) (a z 2)
        · refine zand4 (W b c (fun r i p => rfl) (by omega) (by rw [hm0]; exact H38) ?_ ?_) s1
          · unfold zgn
            rw [if_neg q1, if_pos p1, st]
          · unfold zmst
            rw [if_neg c1, if_pos (by omega), hcc]
        · by_cases p2 : zhv (a z 3) (a z 2) = zhv (a 36 3) (a 36 2)
          · refine zand4 (W b 0 (fun r i p => rfl) (by omega) (by rw [hm0]; exact H38) ?_ ?_) s1
            · unfold zgn
              rw [if_neg q1, if_neg p1, if_pos p2]
            · unfold zmst
              rw [if_neg c1, if_neg (by omega), if_pos (by omega)]
          · refine zand4 (LS ?_ hm0 ?_) s1
            · unfold zgn
              rw [if_neg q1, if_neg p1, if_neg p2]
            · unfold zmst
              rw [if_neg c1, if_neg (by omega), if_neg (by omega)]
  · have e1 : zmsh b s k (101 + 3 * s + k) v nat = b := by
      unfold zmsh
      rw [if_neg (by omega)]
    have e2 : zstl a (38 + 5 * s) (39 + 5 * s) z = a := by
      unfold zstl
      rw [if_pos (by omega)]
    rw [e1, e2]
    exact ⟨M, H38, ⟨by omega, by omega, fun i _ _ => by omega⟩, by omega, by omega, hst⟩
