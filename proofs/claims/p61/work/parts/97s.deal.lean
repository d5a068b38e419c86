/-! ===== STEPS: deal ===== -/
set_option maxRecDepth 65536
theorem zst_x {e : zm_D} (h : 0 ≤ zst e) : (e 39 5 = 1 ∨ e 41 5 = 1) ∨ (e 44 5 = 1 ∨ e 46 5 = 1) ∨ (e 49 5 = 1 ∨ e 51 5 = 1) := by
  unfold zst at h
  repeat' split at h
  all_goals omega
theorem zst_n {e : zm_D} (h : ∀ s : Int, 0 ≤ s → s < 3 → e (39 + 5 * s) 5 = 0 ∧ e (41 + 5 * s) 5 = 0) : zst e = -1 := by
  have a := h 0 (by decide) (by decide)
  have b := h 1 (by decide) (by decide)
  have c := h 2 (by decide) (by decide)
  simp only [Int.mul_zero, Int.add_zero, Int.mul_one, Int.reduceAdd, Int.reduceMul] at a b c
  unfold zst
  rw [if_neg (by omega), if_neg (by omega), if_neg (by omega)]
/-- whether there are stakes, on both sides -/
theorem zhs_m {t : Int} {e : zm_D} (I : zIn t e) (J : zIp t e) (R : zRe e) : (zhs e = 1 ∧ zmhs e = 1) ∨ (zhs e = 0 ∧ zmhs e = 0 ∧ e 34 4 = 0) := by
  have ic := I.2.2.2.2.2.2.1
  have rq := R.2.2.2.2.2.2.2.1
  have nn := J.2.2.2.2.2
  have p0 := rq 0 (by decide) (by decide)
  have p1 := rq 1 (by decide) (by decide)
  have p2 := rq 2 (by decide) (by decide)
  have c0 := ic.1 0 (by decide) (by decide)
  have c1 := ic.1 1 (by decide) (by decide)
  have c2 := ic.1 2 (by decide) (by decide)
  simp only [Int.mul_zero, Int.add_zero, Int.mul_one, Int.reduceAdd, Int.reduceMul] at p0 p1 p2 c0 c1 c2
  rcases ic.2.2.1.1 with h4 | h4
  · have off : ∀ s : Int, 0 ≤ s → s < 3 → (zhsk e (39 + 5 * s) (41 + 5 * s) = 1 ↔ 0 ≤ e 96 s) := fun s q1 q2 => by
      obtain ⟨who, -, -, -, o, -, -, -⟩ := rq s q1 q2
      have o := o h4
      have hi := (ic.1 s q1 q2).1.2.2.2.1
      unfold zhsk
      constructor
      · intro q
        split at q
        · omega
        · exact absurd q (by decide)
      · intro q
        rw [if_pos (by omega)]
    have a := off 0 (by decide) (by decide)
    have b := off 1 (by decide) (by decide)
    have c := off 2 (by decide) (by decide)
    simp only [Int.mul_zero, Int.add_zero, Int.mul_one, Int.reduceAdd, Int.reduceMul] at a b c
    unfold zhs zmhs
    by_cases z : 0 ≤ e 96 0 ∨ 0 ≤ e 96 1 ∨ 0 ≤ e 96 2
    · have z2 : zhsk e 39 41 = 1 ∨ zhsk e 44 46 = 1 ∨ zhsk e 49 51 = 1 := by
        rcases z with z | z | z
        · exact .inl (a.2 z)
        · exact .inr (.inl (b.2 z))
        · exact .inr (.inr (c.2 z))
      rw [if_pos z, if_pos z2]
      exact .inl ⟨rfl, rfl⟩
    · have z2 : ¬ (zhsk e 39 41 = 1 ∨ zhsk e 44 46 = 1 ∨ zhsk e 49 51 = 1) := fun q => by
        rcases q with q | q | q
        · exact z (.inl (a.1 q))
        · exact z (.inr (.inl (b.1 q)))
        · exact z (.inr (.inr (c.1 q)))
      rw [if_neg z, if_neg z2]
      exact .inr ⟨rfl, rfl, h4⟩
  · have x := zst_x (nn h4).2.1
    have f : ∀ h k : Int, 0 < e h 4 + e k 4 → zhsk e h k = 1 := fun h k z => by unfold zhsk; rw [if_pos (.inl z)]
    obtain ⟨a, b, c⟩ : ((e 39 5 = 1 ∨ e 41 5 = 1) → zhsk e 39 41 = 1 ∧ 0 ≤ e 96 0) ∧ ((e 44 5 = 1 ∨ e 46 5 = 1) → zhsk e 44 46 = 1 ∧ 0 ≤ e 96 1) ∧ ((e 49 5 = 1 ∨ e 51 5 = 1) → zhsk e 49 51 = 1 ∧ 0 ≤ e 96 2) := by
      have Y : ∀ s : Int, 0 ≤ s → s < 3 → (e (39 + 5 * s) 5 = 1 ∨ e (41 + 5 * s) 5 = 1) → 0 < e (39 + 5 * s) 4 + e (41 + 5 * s) 4 ∧ 0 ≤ e 96 s := fun s q1 q2 z => by
        obtain ⟨y1, y2, -⟩ := ic.1 s q1 q2
        have y14 := y1.2.2.2.1
        have y24 := y2.2.2.2.1
        have y15 := y1.2.2.2.2.2.2.1
        have y25 := y2.2.2.2.2.2.2.1
        have st : 0 < e (39 + 5 * s) 4 + e (41 + 5 * s) 4 := by
          rcases z with z | z
          · have := (y15 z).2.1; omega
          · have := (y25 z).2.1; omega
        refine ⟨st, ?_⟩
        obtain ⟨-, w2, -, -, -, o, -, -⟩ := rq s q1 q2
        obtain ⟨-, -, o3, o4, o5, -, -⟩ := o h4
        by_cases q : e 98 s = 0
        · have := o4 (by omega)
          have := o5 q
          omega
        · exact o3 (by omega)
      have a := Y 0 (by decide) (by decide)
      have b := Y 1 (by decide) (by decide)
      have c := Y 2 (by decide) (by decide)
      simp only [Int.mul_zero, Int.add_zero, Int.mul_one, Int.reduceAdd, Int.reduceMul] at a b c
      exact ⟨fun z => ⟨f _ _ (a z).1, (a z).2⟩, fun z => ⟨f _ _ (b z).1, (b z).2⟩, fun z => ⟨f _ _ (c z).1, (c z).2⟩⟩
    refine .inl ?_
    unfold zhs zmhs
    rcases x with x | x | x
    · rw [if_pos (.inl (a x).1), if_pos (.inl (a x).2)]; exact ⟨rfl, rfl⟩
    · rw [if_pos (.inr (.inl (b x).1)), if_pos (.inr (.inl (b x).2))]; exact ⟨rfl, rfl⟩
    · rw [if_pos (.inr (.inr (c x).1)), if_pos (.inr (.inr (c x).2))]; exact ⟨rfl, rfl⟩
/-- the reference's seats ahead of a deal -/
theorem zRe_Mb {t : Int} {e E : zm_D} (I : zIn t e) (R : zRe e) (h : ∀ r j : Int, 60 < r → r ≤ 159 → E r j = e r j) : zMb E := by
  intro s q1 q2
  obtain ⟨who, -, -, -, o, p, -, -⟩ := R.2.2.2.2.2.2.2.1 s q1 q2
  rw [h 97 s (by decide) (by decide), h 96 s (by decide) (by decide)]
  have i4 := (I.2.2.2.2.2.2.1.1 s q1 q2).1.2.2.2.1
  rcases I.2.2.2.2.2.2.1.2.2.1.1 with h4 | h4
  · have o := o h4
    omega
  · have p := (p h4).1
    omega
/-- what the deal asks of the reference -/
theorem zRe_Mdl {t : Int} {e E : zm_D} (I : zIn t e) (R : zRe e) (h : ∀ r j : Int, 60 < r → r ≤ 159 → E r j = e r j) : zMdl 80000000 E := by
  obtain ⟨it, -, -, -, itr, is, ic, -⟩ := I
  obtain ⟨-, -, -, rt, ru, rs, -, rq, -⟩ := R
  obtain ⟨⟨s1, s2, s3⟩, s4, -⟩ := rs
  have r8 := ic.2.2.1
  have t0 := itr 0 (by decide) (by decide)
  have u0 := (rt 0 (by decide) (by decide)).1
  simp only [Int.add_zero] at t0 u0
  unfold zRu at ru
  have sh := is.1.1
  refine ⟨by rw [h _ _ (by decide) (by decide)]; omega, fun k q1 q2 => ?_, fun s q1 q2 => ?_, ⟨by rw [h _ _ (by decide) (by decide)]; omega, by rw [h _ _ (by decide) (by decide)]; omega⟩, by rw [h _ _ (by decide) (by decide)]; omega⟩
  · rw [h _ _ (by decide) (by decide)] at q2
    rw [h _ _ (by decide) (by decide), s4 k q1 (by omega)]
    exact is.1.2 _ (by omega) (by omega)
  · obtain ⟨-, -, z3, -⟩ := rq s q1 q2
    rw [h (118 + s) 0 (by omega) (by omega), h (118 + s) 1 (by omega) (by omega)]
    exact z3
/-- the dealer's first card stays -/
theorem zmdr_c : ∀ (f : Nat) {b : zm_D}, 1 ≤ b 61 36 → zmdr f b 121 0 = b 121 0 := by
  intro f
  induction f with
  | zero => intro b _; rfl
  | succ f ih =>
    intro b h
    unfold zmdr
    split
    · rw [ih (by rw [zmda_1.2]; omega), zmda_d, if_neg (by omega)]
    · rfl
theorem zmsA_c {b : zm_D} {nat : Int} : zmsA b nat 121 0 = b 121 0 := by
  unfold zmsA
  rw [zm_un (by omega), zmss_o (by omega) (by omega) (by omega) (by omega) (by omega) (by omega) (by omega), zmss_o (by omega) (by omega) (by omega) (by omega) (by omega) (by omega) (by omega), zmss_o (by omega) (by omega) (by omega) (by omega) (by omega) (by omega) (by omega)]
theorem zmsA_l {b : zm_D} {nat r j : Int} (h : r ≠ 96 ∧ (r ≠ 61 ∨ (j ≠ 32 ∧ j ≠ 37 ∧ j ≠ 38)) ∧ r ≠ 90 ∧ r ≠ 88 ∧ r ≠ 63 ∧ (r < 114 ∨ 120 < r)) : zmsA b nat r j = b r j := by
  unfold zmsA
  rw [zm_un (by omega), zmss_o (by omega) (by omega) (by omega) (by omega) (by omega) (by omega) (by omega), zmss_o (by omega) (by omega) (by omega) (by omega) (by omega) (by omega) (by omega), zmss_o (by omega) (by omega) (by omega) (by omega) (by omega) (by omega) (by omega)]
theorem zmgo_c {b : zm_D} (h : 1 ≤ b 61 36) : zmgo b 121 0 = b 121 0 := by
  unfold zmgo
  split
  · unfold zmfn
    rw [zmsA_c]
    split
    · exact zmdr_c 18 h
    · rfl
  · rfl
/-- a hand of two cards is not above 21 -/
theorem zhv_2 {a s : Int} (h : s ≤ 20) : zhv a s ≤ 21 := by
  unfold zhv
  split
  · omega
  · omega
/-- who plays behind the deal -/
theorem zpl_d {a b : zm_D} {s : Int} (V : zDv 2 a b s) (h3 : a (38 + 5 * s) 3 = 0) (hk : a (41 + 5 * s) 4 = 0) (h4 : 0 ≤ a (39 + 5 * s) 4) : (b 98 s = 0 → zpl a (38 + 5 * s) (39 + 5 * s) (41 + 5 * s) = 0) ∧ (b 98 s = 1 → 0 < a (39 + 5 * s) 4 ∧ a (39 + 5 * s) 1 = 2 ∧ zhv (a (39 + 5 * s) 3) (a (39 + 5 * s) 2) ≤ 21 ∧ zpl a (38 + 5 * s) (39 + 5 * s) (41 + 5 * s) = if zhv (a (39 + 5 * s) 3) (a (39 + 5 * s) 2) ≠ 21 ∧ znt (a 36 1) (a 36 3) (a 36 2) = 0 then 1 else 0) := by
  obtain ⟨v1, v2, v3, -, v5, -⟩ := V
  unfold zpl
  rw [hk, Int.add_zero, h3]
  refine ⟨fun p => ?_, fun p => ?_⟩
  · rw [if_neg]
    intro z
    have := v2.2 (by omega)
    omega
  · have q := v3.2 p
    have st : 0 < a (39 + 5 * s) 4 := by have := v2.1 p; omega
    refine ⟨st, q, zhv_2 (by omega), ?_⟩
    rw [zsn_0 rfl, q]
    have sn : znt 2 (a (39 + 5 * s) 3) (a (39 + 5 * s) 2) = 0 ↔ zhv (a (39 + 5 * s) 3) (a (39 + 5 * s) 2) ≠ 21 := by
      unfold znt
      by_cases z : zhv (a (39 + 5 * s) 3) (a (39 + 5 * s) 2) = 21
      · rw [if_pos ⟨rfl, z⟩]
        exact ⟨fun y => absurd y (by decide), fun y => absurd z y⟩
      · rw [if_neg (fun y => z y.2)]
        exact ⟨fun _ => z, fun _ => rfl⟩
    by_cases z : zhv (a (39 + 5 * s) 3) (a (39 + 5 * s) 2) ≠ 21 ∧ znt (a 36 1) (a 36 3) (a 36 2) = 0
    · rw [if_pos z, if_pos ⟨st, sn.2 z.1, z.2⟩]
    · rw [if_neg z, if_neg (fun y => z ⟨sn.1 y.2.1, y.2.2⟩)]
theorem zP15 {S : zSs} {D n u : Nat} {g : Int → zk_K} {e : zm_D} {t : Int} (I : zIn t e) (J : zIp t e) (R : zRe e) (ht : t < 600) (hD : 40 ≤ D) : zE S D 343 [zv_a 1, zv_a 160] n (zSg g) (zDg e) u (zK1 S D t n u 245 [zv_a 61] zPi) := by
  have c4 := I.2.2.2.2.2.2.1.2.2.1.1
  have r35 := R.2.2.2.2.2.1.1.2.1
  have r37 := R.2.2.2.2.2.1.1.2.2
  have sh := I.2.2.2.2.2.1.1.1
  have it := I.1
  have hb0 : zMb e := zRe_Mb I R (fun r j _ _ => rfl)
  rcases zhs_m I J R with ⟨hs, hm⟩ | ⟨hs, hm, h4⟩
  rotate_left
  · refine (zC133x I (.inl hs) hD).2 (zK1i (by omega) (by omega) (by omega) (by omega) (fun n2 u2 _ => (zX245x hb0 (by omega) (.inl hm) (by omega)).2 (zK2i (by omega) (by omega) (by omega) (by omega) (zIn_e I ht (fun r j _ _ => by simp (disch := omega) only [zm_un])) (zIp_e J (fun r j _ _ => by simp (disch := omega) only [zm_un])) (zRe_e R (zIn_w I) (fun r j _ _ _ => by simp (disch := omega) only [zm_un])) ⟨1, 0, rfl, rfl, zm_us, fun q => absurd q (by decide), by decide⟩)))
  by_cases h30 : 30 ≤ e 5 5 - e 5 4
  rotate_left
  · refine (zC133x I (.inr (by omega)) hD).2 (zK1i (by omega) (by omega) (by omega) (by omega) (fun n2 u2 _ => (zX245x hb0 (by omega) (.inr (by omega)) (by omega)).2 (zK2i (by omega) (by omega) (by omega) (by omega) (zIn_e I ht (fun r j _ _ => by simp (disch := omega) only [zm_un])) (zIp_e J (fun r j _ _ => by simp (disch := omega) only [zm_un])) (zRe_e R (zIn_w I) (fun r j _ _ _ => by simp (disch := omega) only [zm_un])) ⟨1, 0, rfl, rfl, zm_us, fun q => absurd q (by decide), by decide⟩)))
  rcases c4 with h4 | h4
  rotate_left
  · refine (zC133r I hs h30 h4 hD).2 (zK1i (by omega) (by omega) (by omega) (by omega) (fun n2 u2 _ => (zX245r hb0 (by omega) hm (by omega) (by omega) (by omega)).2 (zK2i (by omega) (by omega) (by omega) (by omega) (zIn_e I ht (fun r j _ _ => by simp (disch := omega) only [zm_un])) (zIp_e J (fun r j _ _ => by simp (disch := omega) only [zm_un])) (zRe_e R (zIn_w I) (fun r j _ _ _ => by simp (disch := omega) only [zm_un])) ⟨2, 0, rfl, rfl, zm_us, fun q => absurd q (by decide), by decide⟩)))
  obtain ⟨z8, z5⟩ := @zdl8_f e
  have C0 := (zDc_5 (E := e) I R h4 h30 (fun r j _ _ => rfl)).1.2.2.2.2.1
  have v := @zfc_v e
  have lo : ∀ r j : Int, (50 < r ∨ ((r = 38 ∨ r = 43 ∨ r = 48) ∧ j ≠ 3)) → (r ≠ 51 ∨ 3 < j) → zdl5 e r j = e r j := fun r j p q => by
    rw [C0 r j (by omega) (by omega) (by omega)]
    exact (zm_un (by omega)).trans (v.2.2 _ _ (by omega))
  have Ae : ∀ r j : Int, 60 < r → zdl8 e r j = e r j := fun r j p => by rw [z8 r j (.inl (by omega)), lo r j (.inl (by omega)) (.inl (by omega))]
  have GG : ∀ s : Int, 0 ≤ s → s < 3 → zGr (zdl8 e (38 + 5 * s) 2) := fun s q1 q2 => by
    rw [z8 _ _ (.inl (by omega)), lo _ _ (.inr (by omega)) (.inl (by omega))]
    exact (I.2.2.2.2.2.2.1.1 s q1 q2).2.2.2.1
  obtain ⟨E, hE⟩ : ∃ E, zm_u (zgoc (zdl8 e)) 160 0 (zw (zdl8 e 37 0)) = E := ⟨_, rfl⟩
  have EO : ∀ r j : Int, 60 < r → r ≤ 159 → E r j = e r j := fun r j q1 q2 => by rw [← hE, zm_un (by omega), zgoc_h GG q1, Ae r j q1]
  obtain ⟨C, h57, h7b⟩ := zDc_5 I R h4 h30 EO
  obtain ⟨zS, zS8⟩ := @zmdS_f E
  have q5 := @zdl5_q e
  obtain ⟨o, f36, f37, fs⟩ := @zmdA_f E
  have bl : ∀ r j : Int, (r ≤ 60 ∨ r = 160) → zmdT (zmdT (zmdA E)) r j = E r j := fun r j p => by
    rw [C.2.2.2.2.2 r j (by omega) (by omega) (by omega) (by omega) (by omega), o r j (by omega) (by omega) (by omega) (by omega) (by omega)]
  have b49 : zmdT (zmdT (zmdA E)) 61 49 = 0 := by
    rw [C.2.2.2.2.2 61 49 (by omega) (by omega) (by omega) (by omega) (by omega)]
    unfold zmdA zmd1 zmdB
    simp (disch := omega) only [zm_un, zm_ue]
  have hmE : zmhs E = 1 := by
    unfold zmhs at hm ⊢
    rw [EO 96 0 (by decide) (by decide), EO 96 1 (by decide) (by decide), EO 96 2 (by decide) (by decide)]
    exact hm
  have aq : ∀ s : Int, 0 ≤ s → s < 3 → zdl5 e (38 + 5 * s) 3 = 0 ∧ zdl5 e (39 + 5 * s) 4 = e (39 + 5 * s) 4 ∧ zdl5 e (41 + 5 * s) 4 = 0 ∧ zdl5 e (41 + 5 * s) 5 = 0 ∧ 0 ≤ e (39 + 5 * s) 4 := fun s q1 q2 => by
    have off := (R.2.2.2.2.2.2.2.1 s q1 q2).2.2.2.2.1 h4
    have i4 := (I.2.2.2.2.2.2.1.1 s q1 q2).1.2.2.2.1
    refine ⟨?_, ?_, ?_, ?_, i4.1⟩
    · rw [C0 _ _ (by omega) (by omega) (by omega)]
      exact (zm_un (by omega)).trans (v.1 s q1 q2).2.2
    · rw [C0 _ _ (by omega) (by omega) (by omega), zdl1_o (by omega) (by omega)]
    · rw [C0 _ _ (by omega) (by omega) (by omega), zdl1_o (by omega) (by omega)]
      exact off.2.1
    · rw [C0 _ _ (by omega) (by omega) (by omega), zdl1_o (by omega) (by omega)]
      exact off.2.2.2.1
  have on8 : zdl8 e 34 4 = 1 := by
    rw [z8 _ _ (by decide), C0 _ _ (by decide) (by decide) (by decide)]
    exact zm_ue rfl rfl
  generalize zmdT (zmdT (zmdA E)) = b at C zS zS8 bl b49
  have DV := zDk_v C.1
  have D36 := C.1.2.1
  have V := C.2.1
  have pl := fun (s : Int) (q1 : 0 ≤ s) (q2 : s < 3) => zpl_d (V s q1 q2) (aq s q1 q2).1 (aq s q1 q2).2.2.1 (by rw [(aq s q1 q2).2.1]; exact (aq s q1 q2).2.2.2.2)
  have vm : zmv (zmdS E) 121 (zmdS E 61 36) = zhv (zdl5 e 36 3) (zdl5 e 36 2) := by
    rw [zmv_e (e := b) (fun k => zS 121 k (by omega)), zS 61 36 (by omega)]
    exact DV.1
  have a36 : zdl5 e 36 1 = 2 := q5.2
  have c0 : zmdS E 121 0 = zdl8 e 37 0 := by
    rw [zS 121 0 (by omega), z8 37 0 (by decide)]
    exact D36.2 0 (by decide) (by omega)
  have c36 : 1 ≤ zmdS E 61 36 := by rw [zS 61 36 (by omega), D36.1]; omega
  by_cases nat : zhv (zdl5 e 36 3) (zdl5 e 36 2) = 21
  · have nt : znt (zdl5 e 36 1) (zdl5 e 36 3) (zdl5 e 36 2) = 1 := by unfold znt; rw [if_pos ⟨a36, nat⟩]
    have fF : zmdF E = zmsA (zmdS E) 1 := by unfold zmdF; rw [vm, if_pos nat]
    have ans : zmdF E 121 0 = zdl8 e 37 0 := by rw [fF, zmsA_c]; exact c0
    obtain ⟨N, hN⟩ : ∃ N, zmx (zdl8 e) (zm_u (zm_u (zm_u (zmdS E) 118 0 2) 119 0 2) 120 0 2) = N := ⟨_, rfl⟩
    have NL : ∀ r j : Int, r ≤ 60 → N r j = zdl8 e r j := fun r j p => by rw [← hN]; exact zmx_l p
    have NH : ∀ r j : Int, 60 < r → (r < 118 ∨ 120 < r ∨ j ≠ 0) → N r j = zmdS E r j := fun r j p q => by rw [← hN, zmx_h p, zm_un (by omega), zm_un (by omega), zm_un (by omega)]
    have N8 : ∀ s : Int, 0 ≤ s → s < 3 → N (118 + s) 0 = 2 := fun s q1 q2 => by
      rw [← hN, zmx_h (by omega)]
      rcases (by omega : s = 0 ∨ s = 1 ∨ s = 2) with z | z | z
      · subst z; rw [zm_un (by omega), zm_un (by omega), zm_ue (by omega) rfl]
      · subst z; rw [zm_un (by omega), zm_ue (by omega) rfl]
      · subst z; rw [zm_ue (by omega) rfl]
    have p0 : ∀ s : Int, 0 ≤ s → s < 3 → zdl8 e (39 + 5 * s) 5 = 0 := fun s q1 q2 => by
      rw [z5 s q1 q2]
      rcases (V s q1 q2).1 with z | z
      · exact (pl s q1 q2).1 z
      · rw [((pl s q1 q2).2 z).2.2.2, if_neg (by omega)]
    have Q := (zDel_Q (N := N) I J R h4 EO C ⟨h57, h7b⟩ (fun r j _ q2 q3 => by rw [NL r j q2]; exact z8 r j q3) (fun r j q1 _ q3 => by rw [NH r j q1 q3]; exact zS r j q3) (fun s q1 q2 => .inl (by rw [NL _ _ (by omega)]; exact p0 s q1 q2)) (fun s q1 q2 => by rw [N8 s q1 q2, NL _ _ (by omega), p0 s q1 q2]; exact ⟨by decide, fun _ => rfl⟩)).1
    have on4 : N 34 4 = 1 := by rw [NL _ _ (by decide)]; exact on8
    have JJ := zQz_J I ht Q on4 NL
    have zn : zst N = -1 := zst_n (fun s q1 q2 => ⟨by rw [NL _ _ (by omega)]; exact p0 s q1 q2, by rw [NL _ _ (by omega), z8 _ _ (by omega)]; exact (aq s q1 q2).2.2.2.1⟩)
    have z8n : zst (zdl8 e) = -1 := zst_n (fun s q1 q2 => ⟨p0 s q1 q2, by rw [z8 _ _ (by omega)]; exact (aq s q1 q2).2.2.2.1⟩)
    refine (zC133 I (by omega) hs h30 h4 JJ hD).2 (zK1i (by omega) (by omega) (by omega) (by omega) (fun n2 u2 _ => ?_))
    rw [hE]
    refine (zX245w (B := 80000000) (by decide) (zRe_Mdl I R EO) (zRe_Mb I R EO) hmE (by rw [EO _ _ (by decide) (by decide)]; omega) (by rw [EO _ _ (by decide) (by decide)]; omega) (by omega)).2 ?_
    have X := zRnd_nat (e := e) (A := zdl8 e) (B := zmdS E) (M := N) (d := zmsA (zmdS E) 1) NL (fun r j q1 _ q3 => NH r j q1 q3) (fun s q1 q2 => by
      refine ⟨?_, ?_, fun p => ?_⟩
      · rw [zS8 s q1 q2]
        split
        · exact .inr rfl
        · exact .inl rfl
      · rw [NH 98 s (by decide) (by omega), zS 98 s (by omega)]
        have := (V s q1 q2).1
        omega
      · rw [NH 98 s (by decide) (by omega), zS 98 s (by omega)] at p
        have y := (pl s q1 q2).2 p
        rw [NL (39 + 5 * s) 1 (by omega), NL (39 + 5 * s) 2 (by omega), NL (39 + 5 * s) 3 (by omega), z8 (39 + 5 * s) 1 (by omega), z8 (39 + 5 * s) 3 (by omega), z8 (39 + 5 * s) 2 (by omega)]
        exact ⟨y.2.1, N8 s q1 q2, y.2.2.1⟩) R.2.2.2.2.1 I.2.1.1.1 Q on4 (by rw [NL _ _ (by decide), NL _ _ (by decide), NL _ _ (by decide), z8 _ _ (by decide), z8 _ _ (by decide), z8 _ _ (by decide)]; exact nt) (by omega) (fun r j p => by
      rw [zmsA_l (by omega), zS r j (by omega), bl r j (.inl p), ← hE, zm_un (by omega)]
      unfold zgoc
      rw [if_neg (by omega)]) (fun r j _ _ => rfl)
    have F := zQz_fin I J R ht X.1 (fun p => by omega)
    rw [ans, fF]
    exact zK2i (by omega) (by omega) (by omega) (by omega) F.1 F.2.1 F.2.2 ⟨0, _, rfl, rfl, by rw [zmsA_l (by decide), zS 61 49 (by omega)]; exact b49, fun _ => by rw [zmsA_l (by decide), zS 160 0 (by omega), bl 160 0 (.inr rfl), ← hE]; exact zm_ue rfl rfl, by decide⟩
  · have nt : znt (zdl5 e 36 1) (zdl5 e 36 3) (zdl5 e 36 2) = 0 := by unfold znt; rw [if_neg (fun z => nat z.2)]
    have fF : zmdF E = zmgo (zmdS E) := by unfold zmdF; rw [vm, if_neg nat]
    have ans : zmdF E 121 0 = zdl8 e 37 0 := by rw [fF, zmgo_c c36]; exact c0
    have p1 : ∀ s : Int, 0 ≤ s → s < 3 → b 98 s = 1 → zdl8 e (39 + 5 * s) 5 = if zhv (zdl5 e (39 + 5 * s) 3) (zdl5 e (39 + 5 * s) 2) = 21 then 0 else 1 := fun s q1 q2 z => by
      rw [z5 s q1 q2, ((pl s q1 q2).2 z).2.2.2, nt]
      by_cases y : zhv (zdl5 e (39 + 5 * s) 3) (zdl5 e (39 + 5 * s) 2) = 21
      · rw [if_pos y, if_neg (fun p => p.1 y)]
      · rw [if_neg y, if_pos ⟨y, rfl⟩]
    have Q := zDel_Q (N := zmx (zdl8 e) (zmdS E)) I J R h4 EO C ⟨h57, h7b⟩ (fun r j _ q2 q3 => by rw [zmx_l q2]; exact z8 r j q3) (fun r j q1 _ q3 => by rw [zmx_h q1]; exact zS r j q3) (fun s q1 q2 => by
      rw [zmx_l (by omega)]
      rcases (V s q1 q2).1 with z | z
      · exact .inl (by rw [z5 s q1 q2]; exact (pl s q1 q2).1 z)
      · rw [p1 s q1 q2 z]
        by_cases y : zhv (zdl5 e (39 + 5 * s) 3) (zdl5 e (39 + 5 * s) 2) = 21
        · rw [if_pos y]; exact .inl rfl
        · rw [if_neg y]
          refine .inr ⟨rfl, ?_, y⟩
          have := ((pl s q1 q2).2 z).1
          rw [(aq s q1 q2).2.1] at this
          exact this) (fun s q1 q2 => by
      rw [zmx_l (r := 39 + 5 * s) (by omega), zmx_h (r := 118 + s) (by omega), zS8 s q1 q2, zDv_v (V s q1 q2)]
      refine ⟨by split <;> decide, fun z => ?_⟩
      rw [p1 s q1 q2 z]
      by_cases y : zhv (zdl5 e (39 + 5 * s) 3) (zdl5 e (39 + 5 * s) 2) = 21
      · rw [if_pos y, if_pos y, if_neg (by decide)]
      · rw [if_neg y, if_neg y, if_pos rfl])
    have JJ := zQz_J I ht Q.1 (by rw [zmx_l (by decide)]; exact on8) (fun r j p => zmx_l p)
    refine (zC133 I (by omega) hs h30 h4 JJ hD).2 (zK1i (by omega) (by omega) (by omega) (by omega) (fun n2 u2 _ => ?_))
    rw [hE]
    refine (zX245w (B := 80000000) (by decide) (zRe_Mdl I R EO) (zRe_Mb I R EO) hmE (by rw [EO _ _ (by decide) (by decide)]; omega) (by rw [EO _ _ (by decide) (by decide)]; omega) (by omega)).2 ?_
    have X := zRnd_call I J R ht hE Ae Q.1 on8 (by rw [z8 _ _ (by decide), z8 _ _ (by decide), z8 _ _ (by decide)]; exact nt) (z2c_e Q.2 (fun r j p _ => (zmx_l (by omega)).symm)) (fun r j p => by rw [zS r j (by omega)]; exact bl r j p) (by rw [zS 61 49 (by omega)]; exact b49)
    rw [ans, fF]
    exact zK2i (by omega) (by omega) (by omega) (by omega) X.1.1 X.1.2.1 X.1.2.2 ⟨0, _, rfl, rfl, X.2.1, fun _ => X.2.2.1, by decide⟩
