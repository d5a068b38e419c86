/-! ===== STEPS: the cells behind bar ===== -/
set_option maxRecDepth 65536
theorem zcE_v {e : zm_D} {x y : Int} (hx : 0 ≤ x ∧ x < 8) : zcE e x y (15 + 2 * x) 2 = e (15 + 2 * x) 2 + zcBk e x y ∧ zcE e x y (15 + 2 * x) 6 = y ∧ (∀ r j : Int, 53 ≤ r → r ≤ 57 → zcE e x y r j = zwk (zcA e x y) (15 + 2 * x) (e 53 5).toNat r j) ∧ zcE e x y 58 5 = (if e 58 5 = 15 + 2 * x then 0 else e 58 5) ∧ zcE e x y 12 4 = e 12 4 + (0 + e (16 + 2 * x) 0 + e (16 + 2 * x) 1 + e (16 + 2 * x) 2 + e (16 + 2 * x) 3) ∧ (∀ k : Int, 0 ≤ k → k < ((e 12 2).toNat : Int) → zcE e x y 13 k = if e 13 k = 15 + 2 * x then 0 else e 13 k) ∧ (∀ j : Int, 0 ≤ j → j < 4 → zcE e x y (16 + 2 * x) j = 0) ∧ (∀ r j : Int, 38 ≤ r → r ≤ 52 → zcE e x y r j = ztA3 (zm_u e (15 + 2 * x) 6 y) (15 + 2 * x) r j) := by
  have fD : ∀ r j : Int, r ≠ 16 + 2 * x → (r ≠ 12 ∨ j ≠ 4) → r ≠ 13 → zcE e x y r j = zcD e x y r j := fun r j p1 p2 p3 => by
    unfold zcE
    rw [zm_ro (by omega), zm_un p2, zlb_o _ (.inl p3)]
  have fC : ∀ r j : Int, (r ≠ 15 + 2 * x ∨ j ≠ 2) → zcD e x y r j = zcC e x y r j := fun r j p => zm_un p
  have fB : ∀ r j : Int, (r ≠ 58 ∨ j ≠ 5) → zcC e x y r j = zcB e x y r j := fun r j p => by
    unfold zcC
    split
    · exact zm_un p
    · rfl
  have fA : ∀ r j : Int, (r < 53 ∨ 57 < r) → zcB e x y r j = zcA e x y r j := fun r j p => zwk_r (by omega) _ (.inl (by omega))
  refine ⟨?_, ?_, fun r j h1 h2 => ?_, ?_, ?_, fun k h1 h2 => ?_, fun j h1 h2 => ?_, fun r j h1 h2 => ?_⟩
  · rw [fD _ _ (by omega) (by omega) (by omega)]
    exact zm_ue rfl rfl
  · rw [fD _ _ (by omega) (by omega) (by omega), fC _ _ (by omega), fB _ _ (by omega), fA _ _ (by omega)]
    exact (ztA3_o (by omega)).trans (zm_ue rfl rfl)
  · rw [fD _ _ (by omega) (by omega) (by omega), fC _ _ (by omega), fB _ _ (by omega)]
    rfl
  · rw [fD _ _ (by omega) (by omega) (by omega), fC _ _ (by omega)]
    unfold zcC
    by_cases p : e 58 5 = 15 + 2 * x
    · rw [if_pos p, if_pos p]
      exact zm_ue rfl rfl
    · rw [if_neg p, if_neg p]
      exact zcB_o (by omega) (by omega)
  · unfold zcE
    rw [zm_ro (by omega)]
    exact zm_ue rfl rfl
  · unfold zcE
    rw [zm_ro (by omega), zm_un (by omega), zlb_v _ k h1 h2, fC _ _ (by omega), fB _ _ (by omega), fA _ _ (by omega), zcA_o (by omega) (by omega)]
  · unfold zcE
    exact zm_ri rfl h1 h2
  · rw [fD _ _ (by omega) (by omega) (by omega), fC _ _ (by omega), fB _ _ (by omega), fA _ _ (by omega)]
    rfl
theorem zmbC_v {E : zm_D} {x y : Int} (hx : 0 ≤ x ∧ x < 8) (h39 : 0 ≤ E 61 39 ∧ E 61 39 ≤ 10) (h46 : 0 ≤ E 61 46 ∧ E 61 46 ≤ 12) : zmbC E x y 63 x = E 63 x + zmbV E x y ∧ zmbC E x y 69 x = y ∧ zmbC E x y 61 39 = zmbk (zmbI E x y) x (E 61 39).toNat ∧ (∀ r j : Int, 123 ≤ r → r ≤ 132 → zmbC E x y r j = zmbw (zmbI E x y) x (E 61 39).toNat r j) ∧ (zmbC E x y 61 42 = (if E 61 42 = x then -1 else E 61 42) ∧ zmbC E x y 61 44 = (if E 61 42 = x then 0 else E 61 44)) ∧ zmbC E x y 61 48 = E 61 48 + E (152 + x) 0 + E (152 + x) 1 + E (152 + x) 2 + E (152 + x) 3 ∧ (∀ k : Int, 0 ≤ k → k < 4 → zmbC E x y (152 + x) k = 0) ∧ (∀ k : Int, 0 ≤ k → k < ((E 61 46).toNat : Int) → zmbC E x y (139 + k) 0 = if E (139 + k) 0 = x then -1 else E (139 + k) 0) ∧ (∀ r j : Int, ((96 ≤ r ∧ r ≤ 98) ∨ (114 ≤ r ∧ r ≤ 120)) → zmbC E x y r j = zmbS (zm_u (zm_u E 61 49 0) 69 x y) x r j) ∧ zmbC E x y 61 49 = 0 ∧ (∀ r j : Int, ((r ≠ 61 ∨ (j ≠ 49 ∧ j ≠ 39 ∧ j ≠ 42 ∧ j ≠ 44 ∧ j ≠ 48)) ∧ (r ≠ 63 ∨ j ≠ x) ∧ (r ≠ 69 ∨ j ≠ x)) → ((r < 96 ∨ 98 < r) ∧ (r < 114 ∨ 120 < r) ∧ (r < 123 ∨ 132 < r) ∧ (r < 139 ∨ 150 < r ∨ j ≠ 0) ∧ (r ≠ 152 + x ∨ j < 0 ∨ 3 < j)) → zmbC E x y r j = E r j) ∧ (∀ k j : Int, 0 ≤ k → k < 10 → zmbI E x y (123 + k) j = E (123 + k) j) := by
  have fI : ∀ r j : Int, (r < 96 ∨ 98 < r) → (r < 114 ∨ 120 < r) → zmbI E x y r j = zm_u (zm_u E 61 49 0) 69 x y r j := fun r j p1 p2 => by
    unfold zmbI zmbS
    rw [zmb5_o (by omega) (by omega) (by omega) (by omega) (by omega), zmb5_o (by omega) (by omega) (by omega) (by omega) (by omega), zmb5_o (by omega) (by omega) (by omega) (by omega) (by omega)]
  have fJ : ∀ r j : Int, (r ≠ 61 ∨ j ≠ 39) → (r < 123 ∨ 132 < r) → zmbJ E x y r j = zmbI E x y r j := fun r j p1 p2 => by
    unfold zmbJ
    rw [zm_un p1, zmbw_o _ (by omega)]
  have fK : ∀ r j : Int, (r ≠ 61 ∨ (j ≠ 42 ∧ j ≠ 44)) → zmbK E x y r j = zmbJ E x y r j := fun r j p => by
    unfold zmbK
    split
    · rw [zm_un (by omega), zm_un (by omega)]
    · rfl
  have fL : ∀ r j : Int, (r ≠ 61 ∨ j ≠ 48) → (r ≠ 152 + x ∨ j < 0 ∨ 3 < j) → (r < 139 ∨ 150 < r ∨ j ≠ 0) → zmbL E x y r j = zmbK E x y r j := fun r j p1 p2 p3 => by
    unfold zmbL
    rw [(zmbp_v hx).2.2 r j p1 p2, zmbt_o _ (by omega)]
  have fC : ∀ r j : Int, (r ≠ 63 ∨ j ≠ x) → zmbC E x y r j = zmbL E x y r j := fun r j p => zm_un p
  have f0 : ∀ r j : Int, (r ≠ 61 ∨ j ≠ 49) → (r ≠ 69 ∨ j ≠ x) → zm_u (zm_u E 61 49 0) 69 x y r j = E r j := fun r j p1 p2 => by rw [zm_un p2, zm_un p1]
  have fT : ∀ r j : Int, (r < 139 ∨ 150 < r ∨ j ≠ 0) → zmbt (zmbK E x y) x (E 61 46).toNat r j = zmbK E x y r j := fun r j p => zmbt_o _ (by omega)
  refine ⟨?_, ?_, ?_, fun r j h1 h2 => ?_, ⟨?_, ?_⟩, ?_, fun k h1 h2 => ?_, fun k h1 h2 => ?_, fun r j h => ?_, ?_, fun r j h1 h2 => ?_, fun k j h1 h2 => ?_⟩
  · have z : zmbL E x y 63 x = E 63 x := by rw [fL _ _ (by omega) (by omega) (by omega), fK _ _ (by omega), fJ _ _ (by omega) (by omega), fI _ _ (by omega) (by omega), f0 _ _ (by omega) (by omega)]
    unfold zmbC
    rw [zm_ue rfl rfl, z]
  · rw [fC _ _ (by omega), fL _ _ (by omega) (by omega) (by omega), fK _ _ (by omega), fJ _ _ (by omega) (by omega), fI _ _ (by omega) (by omega)]
    exact zm_ue rfl rfl
  · rw [fC _ _ (by omega), fL _ _ (by omega) (by omega) (by omega), fK _ _ (by omega)]
    exact zm_ue rfl rfl
  · rw [fC _ _ (by omega), fL _ _ (by omega) (by omega) (by omega), fK _ _ (by omega)]
    exact zm_un (by omega)
  · rw [fC _ _ (by omega), fL _ _ (by omega) (by omega) (by omega)]
    unfold zmbK
    by_cases p : E 61 42 = x
    · rw [if_pos p, if_pos p, zm_un (by omega)]
      exact zm_ue rfl rfl
    · rw [if_neg p, if_neg p, fJ _ _ (by omega) (by omega), fI _ _ (by omega) (by omega), f0 _ _ (by omega) (by omega)]
  · rw [fC _ _ (by omega), fL _ _ (by omega) (by omega) (by omega)]
    unfold zmbK
    by_cases p : E 61 42 = x
    · rw [if_pos p, if_pos p]
      exact zm_ue rfl rfl
    · rw [if_neg p, if_neg p, fJ _ _ (by omega) (by omega), fI _ _ (by omega) (by omega), f0 _ _ (by omega) (by omega)]
  · rw [fC _ _ (by omega)]
    unfold zmbL
    have z : ∀ r j : Int, (r = 61 ∧ j = 48) ∨ r = 152 + x → zmbt (zmbK E x y) x (E 61 46).toNat r j = E r j := fun r j p => by
      rw [fT _ _ (by omega), fK _ _ (by omega), fJ _ _ (by omega) (by omega), fI _ _ (by omega) (by omega), f0 _ _ (by omega) (by omega)]
    rw [(zmbp_v hx).2.1, z _ _ (.inl ⟨rfl, rfl⟩), z _ _ (.inr rfl), z _ _ (.inr rfl), z _ _ (.inr rfl), z _ _ (.inr rfl)]
  · rw [fC _ _ (by omega)]
    unfold zmbL
    exact (zmbp_v hx).1 k h1 h2
  · rw [fC _ _ (by omega)]
    unfold zmbL
    rw [(zmbp_v hx).2.2 _ _ (by omega) (by omega), zmbt_v _ k h1 h2, fK _ _ (by omega), fJ _ _ (by omega) (by omega), fI _ _ (by omega) (by omega), f0 _ _ (by omega) (by omega)]
  · rw [fC _ _ (by omega), fL _ _ (by omega) (by omega) (by omega), fK _ _ (by omega), fJ _ _ (by omega) (by omega)]
    rfl
  · rw [fC _ _ (by omega), fL _ _ (by omega) (by omega) (by omega), fK _ _ (by omega), fJ _ _ (by omega) (by omega), fI _ _ (by omega) (by omega), zm_un (by omega)]
    exact zm_ue rfl rfl
  · rw [fC _ _ (by omega), fL _ _ (by omega) (by omega) (by omega), fK _ _ (by omega), fJ _ _ (by omega) (by omega), fI _ _ (by omega) (by omega), f0 _ _ (by omega) (by omega)]
  · rw [fI _ _ (by omega) (by omega), f0 _ _ (by omega) (by omega)]
/-- all of bar but the seats and the money -/
def zBf (e A B : zm_D) (x : Int) : zm_D := fun r j => if (38 ≤ r ∧ r ≤ 52) ∨ (r = 15 + 2 * x ∧ j = 2) ∨ (96 ≤ r ∧ r ≤ 98) ∨ (114 ≤ r ∧ r ≤ 120) ∨ r = 63 then e r j else zmx A B r j
theorem zBf_k {e A B : zm_D} {x r j : Int} (h : (38 ≤ r ∧ r ≤ 52) ∨ (r = 15 + 2 * x ∧ j = 2) ∨ (96 ≤ r ∧ r ≤ 98) ∨ (114 ≤ r ∧ r ≤ 120) ∨ r = 63) : zBf e A B x r j = e r j := if_pos h
theorem zBf_n {e A B : zm_D} {x r j : Int} (h : (r < 38 ∨ 52 < r) ∧ (r ≠ 15 + 2 * x ∨ j ≠ 2) ∧ (r < 96 ∨ 98 < r) ∧ (r < 114 ∨ 120 < r) ∧ r ≠ 63) : zBf e A B x r j = zmx A B r j := if_neg (by omega)
/-- the step without the seats and the money: invariant and relation stay, no call is counted -/
theorem zBar_1 {t : Int} {e A B F : zm_D} {x y : Int} (I : zIn t e) (J : zIp t e) (R : zRe e) (hx : 0 ≤ x ∧ x < e 1 9) (hy : 0 ≤ y ∧ y ≤ 999)
    (FL : ∀ r j : Int, (1 ≤ r ∧ r ≤ 60) → ((r < 53 ∨ 57 < r) ∧ (r ≠ 15 + 2 * x ∨ j ≠ 6) ∧ (r ≠ 58 ∨ j ≠ 5) ∧ (r ≠ 12 ∨ j ≠ 4) ∧ r ≠ 13 ∧ r ≠ 16 + 2 * x) → F r j = e r j)
    (FH : ∀ r j : Int, (60 < r ∧ r ≤ 159) → ((r ≠ 61 ∨ (j ≠ 49 ∧ j ≠ 39 ∧ j ≠ 42 ∧ j ≠ 44 ∧ j ≠ 48)) ∧ (r ≠ 69 ∨ j ≠ x) ∧ (r < 123 ∨ 132 < r) ∧ (r < 139 ∨ 150 < r ∨ j ≠ 0) ∧ (r ≠ 152 + x ∨ j < 0 ∨ 3 < j)) → F r j = e r j)
    (f6 : F (15 + 2 * x) 6 = y) (f69 : F 69 x = y) (fw : F 61 39 = F 53 5 ∧ (0 ≤ F 53 5 ∧ F 53 5 ≤ 10) ∧ (∀ k : Int, 0 ≤ k → k < F 53 5 → zBwE F F k))
    (f58 : F 58 5 = if e 58 5 = 15 + 2 * x then 0 else e 58 5) (f42 : F 61 42 = (if e 61 42 = x then -1 else e 61 42) ∧ F 61 44 = (if e 61 42 = x then 0 else e 61 44))
    (f12 : F 12 4 = e 12 4 + (0 + e (16 + 2 * x) 0 + e (16 + 2 * x) 1 + e (16 + 2 * x) 2 + e (16 + 2 * x) 3)) (f48 : F 61 48 = e 61 48 + e (152 + x) 0 + e (152 + x) 1 + e (152 + x) 2 + e (152 + x) 3)
    (f13 : ∀ k : Int, 0 ≤ k → k < e 12 2 → F 13 k = if e 13 k = 15 + 2 * x then 0 else e 13 k) (f139 : ∀ k : Int, 0 ≤ k → k < e 12 2 → F (139 + k) 0 = if e (139 + k) 0 = x then -1 else e (139 + k) 0)
    (f16 : ∀ j : Int, 0 ≤ j → j < 4 → F (16 + 2 * x) j = 0) (f152 : ∀ j : Int, 0 ≤ j → j < 4 → F (152 + x) j = 0) : zIn t F ∧ zIp t F ∧ zRe F := by
  obtain ⟨it, ia, ig, iv, itr, is, ic, iw, im, il⟩ := I
  obtain ⟨ra, rg, rh, rt, ru, rs, rd, rq, rv, rm, rl⟩ := R
  obtain ⟨jp, jz⟩ := J
  have x8 : 0 ≤ x ∧ x < 8 := ⟨hx.1, by have := ia.1; omega⟩
  have F19 : F 1 9 = e 1 9 := FL _ _ (by decide) (by omega)
  have px : ∀ i : Int, 0 ≤ i → i < 8 → (0 ≤ F (16 + 2 * i) 0 ∧ 0 ≤ F (16 + 2 * i) 1 ∧ 0 ≤ F (16 + 2 * i) 2 ∧ 0 ≤ F (16 + 2 * i) 3) ∧ (F (16 + 2 * i) 0 + F (16 + 2 * i) 1 + F (16 + 2 * i) 2 + F (16 + 2 * i) 3 ≤ e (16 + 2 * i) 0 + e (16 + 2 * i) 1 + e (16 + 2 * i) 2 + e (16 + 2 * i) 3) := fun i q1 q2 => by
    have p := (jp.2 i q1 q2).1
    by_cases z : i = x
    · subst z
      rw [f16 0 (by decide) (by decide), f16 1 (by decide) (by decide), f16 2 (by decide) (by decide), f16 3 (by decide) (by decide)]
      omega
    · rw [FL (16 + 2 * i) 0 (by omega) (by omega), FL (16 + 2 * i) 1 (by omega) (by omega), FL (16 + 2 * i) 2 (by omega) (by omega), FL (16 + 2 * i) 3 (by omega) (by omega)]
      omega
  have sum : F 12 4 + zpp F = e 12 4 + zpp e := by
    rw [zpp_at (e := e) x8 (fun i q1 q2 q3 => by unfold zsp4; rw [FL (16 + 2 * i) 0 (by omega) (by omega), FL (16 + 2 * i) 1 (by omega) (by omega), FL (16 + 2 * i) 2 (by omega) (by omega), FL (16 + 2 * i) 3 (by omega) (by omega)]), f12]
    unfold zsp4
    rw [f16 0 (by decide) (by decide), f16 1 (by decide) (by decide), f16 2 (by decide) (by decide), f16 3 (by decide) (by decide)]
    omega
  have ppn : 0 ≤ zpp F := by
    have g0 := (px 0 (by decide) (by decide)).1
    have g1 := (px 1 (by decide) (by decide)).1
    have g2 := (px 2 (by decide) (by decide)).1
    have g3 := (px 3 (by decide) (by decide)).1
    have g4 := (px 4 (by decide) (by decide)).1
    have g5 := (px 5 (by decide) (by decide)).1
    have g6 := (px 6 (by decide) (by decide)).1
    have g7 := (px 7 (by decide) (by decide)).1
    unfold zpp zsp4
    omega
  have sx := (jp.2 x x8.1 x8.2).1
  have who : ∀ r : Int, e 13 r < 15 + 2 * e 1 9 → (if e 13 r = 15 + 2 * x then 0 else e 13 r) < 15 + 2 * e 1 9 := fun r p => by split <;> omega
  refine ⟨⟨it, ?_, ?_, ?_, ?_, zIs_e is (fun r j _ => FL r j (by omega) (by omega)), zIc_e ic (fun r j _ => FL r j (by omega) (by omega)) (fun j _ _ => FL _ _ (by decide) (by omega)) (FL _ _ (by decide) (by omega)), ?_, ?_, ?_⟩, ⟨?_, ?_⟩, ⟨?_, ?_, zRh_e rh (fun i j _ _ _ => FL _ _ (by omega) (by omega)) (fun j => FH _ _ (by decide) (by omega)) (fun j => FH _ _ (by decide) (by omega)) F19, zRt_e rt (fun r j q => by
      by_cases z : r ≤ 60
      · exact FL r j (by omega) (by omega)
      · exact FH r j (by omega) (by omega)), zRu_e ru (fun j _ _ => FL _ _ (by decide) (by omega)) (fun j => FH _ _ (by decide) (by omega)), zRs_e rs (fun j _ => FH _ _ (by decide) (by omega)) (FL _ _ (by decide) (by omega)) (FL _ _ (by decide) (by omega)) (fun r j q => by
      by_cases z : r ≤ 60
      · exact FL r j (by omega) (by omega)
      · exact FH r j (by omega) (by omega)), zRd_e rd (FH _ _ (by decide) (by omega)) (fun r j q => by
      by_cases z : r ≤ 60
      · exact FL r j (by omega) (by omega)
      · exact FH r j (by omega) (by omega)), fun s q1 q2 => zRq_e (rq s q1 q2) (FL _ _ (by decide) (by omega)) (FH _ _ (by decide) (by omega)) (FH _ _ (by decide) (by omega)) (FH _ _ (by decide) (by omega)) (fun r j _ => FL _ _ (by omega) (by omega)) (fun r j _ => FH _ _ (by omega) (by omega)), ⟨fw.1, fun k q1 q2 => (fw.2.2 k q1 q2).2⟩, ?_, ?_⟩⟩
  · unfold zIa at *
    rw [F19, FL 1 10 (by decide) (by omega)]
    exact ia
  · intro i hi
    have a := ig i hi
    rw [FL (15 + 2 * i) 1 (by omega) (by omega), FL (15 + 2 * i) 2 (by omega) (by omega), FL (15 + 2 * i) 3 (by omega) (by omega), FL (15 + 2 * i) 4 (by omega) (by omega), FL (15 + 2 * i) 5 (by omega) (by omega), FL (15 + 2 * i) 7 (by omega) (by omega), FL (15 + 2 * i) 9 (by omega) (by omega), FL (15 + 2 * i) 10 (by omega) (by omega), FL (15 + 2 * i) 11 (by omega) (by omega), FL (15 + 2 * i) 12 (by omega) (by omega)]
    refine ⟨a.1, a.2.1, a.2.2.1, a.2.2.2.1, a.2.2.2.2.1, ?_, a.2.2.2.2.2.2⟩
    by_cases z : i = x
    · rw [z, f6]; exact hy
    · rw [FL (15 + 2 * i) 6 (by omega) (by omega)]; exact a.2.2.2.2.2.1
  · unfold zIv at *
    rw [FL 4 0 (by decide) (by omega)]
    exact iv
  · intro i h1 h2
    rw [FL (31 + i) 1 (by omega) (by omega)]
    exact itr i h1 h2
  · exact ⟨fw.2.1, fun k q1 q2 => (fw.2.2 k q1 q2).1⟩
  · obtain ⟨⟨s1, s2, s3, s4⟩, m2, m3, m4, m5⟩ := im
    refine ⟨⟨fun p q1 q2 => by rw [FL 59 p (by decide) (by omega)]; exact s1 p q1 q2, fun p q1 q2 => by rw [FL 60 p (by decide) (by omega)]; exact s2 p q1 q2, by rw [FL 58 6 (by decide) (by omega)]; exact s3, by rw [FL 58 8 (by decide) (by omega)]; exact s4⟩, by rw [FL 58 7 (by decide) (by omega)]; exact m2, ?_, by rw [FL 58 3 (by decide) (by omega)]; exact m4, by rw [FL 58 4 (by decide) (by omega)]; exact m5⟩
    rw [f58]
    split
    · exact .inl rfl
    · exact m3
  · obtain ⟨⟨l1, l2⟩, l3⟩ := il
    refine ⟨⟨by rw [FL 12 2 (by decide) (by omega)]; exact l1, fun k q1 q2 => ?_⟩, by rw [FL 12 3 (by decide) (by omega)]; exact l3⟩
    rw [FL 12 2 (by decide) (by omega)] at q2
    rw [f13 k q1 q2]
    split
    · exact .inl rfl
    · exact l2 k q1 q2
  · refine ⟨?_, fun i q1 q2 => ⟨(px i q1 q2).1, ?_⟩⟩
    · have := jz.1
      have := jp.1
      refine ⟨?_, by omega⟩
      rw [f12]
      omega
    · have p := (px i q1 q2).2
      have b := (jp.2 i q1 q2).2
      rw [FL (15 + 2 * i) 2 (by omega) (by omega)]
      omega
  · obtain ⟨w1, w2, w3, w4, w5⟩ := jz
    refine ⟨by omega, fun i q0 q1 q2 => ?_, fun k q1 q2 => ?_, fun s q1 q2 => ?_, fun p => ?_⟩
    · rw [F19] at q0
      rw [FL (15 + 2 * i) 5 (by omega) (by omega), FL (15 + 2 * i) 7 (by omega) (by omega), FL (16 + 2 * i) 0 (by omega) (by omega), FL (16 + 2 * i) 1 (by omega) (by omega), FL (16 + 2 * i) 2 (by omega) (by omega), FL (16 + 2 * i) 3 (by omega) (by omega)]
      exact w2 i q0 q1 q2
    · rw [FL 12 2 (by decide) (by omega)] at q2
      rw [F19, f13 k q1 q2]
      exact who k (w3 k q1 q2)
    · rw [F19, FL (38 + 5 * s) 2 (by omega) (by omega)]
      exact w4 s q1 q2
    · rw [FL 34 4 (by decide) (by omega)] at p
      exact zNn_e (w5 p) (fun j _ _ => FL _ _ (by decide) (by omega)) (fun r j _ _ => FL _ _ (by omega) (by omega))
  · unfold zRa at ra ⊢
    have r4 := (rg x x8.1 x8.2).2.2.1
    have k0 := r4 0 (by decide) (by decide)
    have k1 := r4 1 (by decide) (by decide)
    have k2 := r4 2 (by decide) (by decide)
    have k3 := r4 3 (by decide) (by decide)
    rw [FH 61 31 (by decide) (by omega), F19, FH 61 32 (by decide) (by omega), FL 4 0 (by decide) (by omega), FH 61 33 (by decide) (by omega), FL 1 10 (by decide) (by omega), FH 61 38 (by decide) (by omega), FL 34 9 (by decide) (by omega), FH 61 40 (by decide) (by omega), FL 58 4 (by decide) (by omega), FH 61 41 (by decide) (by omega), FL 58 3 (by decide) (by omega), f48, f12]
    exact ⟨ra.1, ra.2.1, by omega⟩
  · intro i q1 q2
    obtain ⟨⟨a1, a2, a3, a4, a5, a6⟩, a7, a8, a9⟩ := rg i q1 q2
    rw [FH 62 i (by decide) (by omega), FH 63 i (by decide) (by omega), FH 64 i (by decide) (by omega), FH 65 i (by decide) (by omega), FH 66 i (by decide) (by omega), FL (15 + 2 * i) 1 (by omega) (by omega), FL (15 + 2 * i) 2 (by omega) (by omega), FL (15 + 2 * i) 5 (by omega) (by omega), FL (15 + 2 * i) 7 (by omega) (by omega), FL (15 + 2 * i) 8 (by omega) (by omega), FH (71 + i) 0 (by omega) (by omega), FH (71 + i) 1 (by omega) (by omega), FH (80 + i) 0 (by omega) (by omega), FH (80 + i) 1 (by omega) (by omega), FL (15 + 2 * i) 12 (by omega) (by omega), FL (15 + 2 * i) 10 (by omega) (by omega), FL (15 + 2 * i) 11 (by omega) (by omega), FL (15 + 2 * i) 9 (by omega) (by omega), FH 68 i (by decide) (by omega)]
    refine ⟨⟨a1, a2, a3, a4, a5, ?_⟩, a7, fun k r1 r2 => ?_, a9⟩
    · by_cases z : i = x
      · rw [z, f6, f69]
      · rw [FH 69 i (by decide) (by omega), FL (15 + 2 * i) 6 (by omega) (by omega)]; exact a6
    · by_cases z : i = x
      · rw [z, f16 k r1 r2, f152 k r1 r2]
      · rw [FH (152 + i) k (by omega) (by omega), FL (16 + 2 * i) k (by omega) (by omega)]; exact a8 k r1 r2
  · obtain ⟨m1, m2, m3, m4⟩ := rm
    refine ⟨fun r q1 q2 k r1 r2 => by rw [FH (134 + r) k (by omega) (by omega), FL 59 _ (by decide) (by omega)]; exact m1 r q1 q2 k r1 r2, fun k r1 r2 => by rw [FH 137 k (by decide) (by omega), FL 60 k (by decide) (by omega)]; exact m2 k r1 r2, ?_, by rw [FH 61 43 (by decide) (by omega), FH 61 45 (by decide) (by omega)]; exact m4⟩
    rw [f58, f42.1, f42.2, FL 58 7 (by decide) (by omega), FL 58 6 (by decide) (by omega), FL 58 8 (by decide) (by omega), FH 61 43 (by decide) (by omega), FH 61 45 (by decide) (by omega)]
    by_cases z : e 61 42 = x
    · rw [if_pos z, if_pos z, if_pos (by omega)]
      exact .inl ⟨rfl, rfl, rfl⟩
    · rw [if_neg z, if_neg z, if_neg (by omega)]
      exact m3
  · obtain ⟨⟨l1, l2⟩, l3⟩ := rl
    have n12 := il.1.1
    refine ⟨⟨by rw [FH 61 46 (by decide) (by omega), FL 12 2 (by decide) (by omega)]; exact l1, by rw [FL 12 3 (by decide) (by omega), FH 61 47 (by decide) (by omega)]; exact l2⟩, fun k q1 q2 => ?_⟩
    rw [FL 12 2 (by decide) (by omega)] at q2
    rw [f13 k q1 q2, f139 k q1 q2, FH (139 + k) 1 (by omega) (by omega), FL 14 k (by decide) (by omega)]
    refine ⟨?_, (l3 k q1 q2).2⟩
    have a := (l3 k q1 q2).1
    by_cases z : e (139 + k) 0 = x
    · rw [if_pos z, if_pos (by omega)]
      exact .inl ⟨rfl, rfl⟩
    · rw [if_neg z, if_neg (by omega)]
      exact a
