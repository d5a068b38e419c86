/-! ===== STEPS: the shoe ===== -/
set_option maxRecDepth 65536
/-- a sum over the first k places -/
def zsu (f : Int → Int) : Nat → Int
  | 0 => 0
  | k + 1 => zsu f k + f (k : Int)
theorem zsu_e {f h : Int → Int} : ∀ k : Nat, (∀ i : Int, 0 ≤ i → i < (k : Int) → f i = h i) → zsu f k = zsu h k := by
  intro k
  induction k with
  | zero => intro _; rfl
  | succ k ih =>
    intro q
    unfold zsu
    rw [ih (fun i h1 h2 => q i h1 (by omega)), q (k : Int) (by omega) (by omega)]
theorem zsu_s {f : Int → Int} {x : Nat} : ∀ k : Nat, zsu (fun i => f (i + (x : Int))) k = zsu f (x + k) - zsu f x := by
  intro k
  induction k with
  | zero => show (0 : Int) = zsu f x - zsu f x; omega
  | succ k ih =>
    show zsu (fun i => f (i + (x : Int))) k + f ((k : Int) + (x : Int)) = zsu f (x + k) + f ((x + k : Nat) : Int) - zsu f x
    rw [ih, show ((x + k : Nat) : Int) = (k : Int) + (x : Int) by omega]
    omega
/-- a cut keeps every sum -/
theorem zsu_c {f : Int → Int} {n x : Nat} (hx : x ≤ n) : ∀ k : Nat, k ≤ n → zsu (fun i => f (zcp (n : Int) (x : Int) i)) k = if k ≤ n - x then zsu f (x + k) - zsu f x else zsu f n - zsu f x + zsu f (k - (n - x)) := by
  intro k
  induction k with
  | zero =>
    intro _
    rw [if_pos (Nat.zero_le _)]
    show (0 : Int) = zsu f x - zsu f x
    omega
  | succ k ih =>
    intro hk
    show zsu (fun i => f (zcp (n : Int) (x : Int) i)) k + f (zcp (n : Int) (x : Int) (k : Int)) = _
    rw [ih (by omega)]
    by_cases p : k + 1 ≤ n - x
    · rw [if_pos (by omega), if_pos p, zcp_t (by omega), show x + (k + 1) = (x + k) + 1 by omega]
      show zsu f (x + k) - zsu f x + f ((k : Int) + (x : Int)) = zsu f (x + k) + f ((x + k : Nat) : Int) - zsu f x
      rw [show ((x + k : Nat) : Int) = (k : Int) + (x : Int) by omega]
      omega
    · rw [if_neg p, zcp_f (by omega), show k + 1 - (n - x) = (k - (n - x)) + 1 by omega]
      show _ = zsu f n - zsu f x + (zsu f (k - (n - x)) + f ((k - (n - x) : Nat) : Int))
      rw [show ((k - (n - x) : Nat) : Int) = (k : Int) + (x : Int) - (n : Int) by omega]
      by_cases q : k ≤ n - x
      · rw [if_pos q, show x + k = n by omega, show k - (n - x) = 0 by omega]
        show zsu f n - zsu f x + _ = zsu f n - zsu f x + (0 + _)
        omega
      · rw [if_neg q]
        omega
/-- a riffle keeps every sum -/
theorem zsu_r {f : Int → Int} {h b : Nat} (hb : b = 0 ∨ b = 1) : ∀ k : Nat, zsu (fun i => f (zmp (h : Int) (b : Int) i)) k = zsu f ((k + b) / 2) + (zsu f (h + (k + 1 - b) / 2) - zsu f h) := by
  intro k
  induction k with
  | zero =>
    rw [show (0 + b) / 2 = 0 by omega, show (0 + 1 - b) / 2 = 0 by omega]
    show (0 : Int) = 0 + (zsu f h - zsu f h)
    omega
  | succ k ih =>
    show zsu (fun i => f (zmp (h : Int) (b : Int) i)) k + f (zmp (h : Int) (b : Int) (k : Int)) = _
    rw [ih]
    unfold zmp
    by_cases p : ((k : Int) % 2 = 0 ∧ (b : Int) = 1) ∨ ((k : Int) % 2 = 1 ∧ (b : Int) = 0)
    · rw [if_pos p, show (k + 1 + b) / 2 = (k + b) / 2 + 1 by omega, show (k + 1 + 1 - b) / 2 = (k + 1 - b) / 2 by omega]
      show _ = zsu f ((k + b) / 2) + f (((k + b) / 2 : Nat) : Int) + _
      rw [show (((k + b) / 2 : Nat) : Int) = (k : Int) / 2 by omega]
      omega
    · rw [if_neg p, show (k + 1 + b) / 2 = (k + b) / 2 by omega, show h + (k + 1 + 1 - b) / 2 = (h + (k + 1 - b) / 2) + 1 by omega]
      show _ = zsu f ((k + b) / 2) + (zsu f (h + (k + 1 - b) / 2) + f ((h + (k + 1 - b) / 2 : Nat) : Int) - zsu f h)
      rw [show ((h + (k + 1 - b) / 2 : Nat) : Int) = (h : Int) + (k : Int) / 2 by omega]
      omega
def zrkf (d : zm_D) (r p : Int) : Int := if d 6 (d 5 4 + p) = r then 1 else 0
theorem zch_z {d : zm_D} {r : Int} : ∀ k : Nat, zch d r k = zsu (zrkf d r) k := by
  intro k
  induction k with
  | zero => rfl
  | succ k ih => unfold zch zsu; rw [ih]; rfl
/-- the shoe with its cards in another order -/
theorem zIs_p {e d : zm_D} {g : Int → Int} {n : Nat} (H : zIs e) (hn : e 5 5 - e 5 4 = (n : Int)) (h4 : d 5 4 = 0) (h5 : d 5 5 = (n : Int)) (h57 : d 5 7 = e 5 7) (h56 : d 5 6 = e 5 6) (h6 : ∀ k : Int, 0 ≤ k → k < (n : Int) → d 6 k = e 6 (e 5 4 + g k)) (hg : ∀ k : Int, 0 ≤ k → k < (n : Int) → 0 ≤ g k ∧ g k < (n : Int)) (hs : ∀ f : Int → Int, zsu (fun i => f (g i)) n = zsu f n) (h8 : ∀ j, d 8 j = e 8 j) (h9 : ∀ j, d 9 j = e 9 j) : zIs d := by
  obtain ⟨⟨a1, a2⟩, b, c, f, q⟩ := H
  refine ⟨⟨by omega, fun i q1 q2 => ?_⟩, by rw [h57]; exact b, by rw [h56]; exact c, fun r q1 q2 => ?_, fun r q1 q2 => by rw [h9]; exact q r q1 q2⟩
  · rw [h6 i (by omega) (by omega)]
    have g1 := hg i (by omega) (by omega)
    exact a2 _ (by omega) (by omega)
  · have w := f r q1 q2
    have e1 : zwf d r = zwf e r := by
      unfold zwf zhd1
      rw [h57, h4, h5, hn, show ((n : Int) - 0).toNat = n by omega, show ((n : Int)).toNat = n by omega, zch_z, zch_z, ← hs (zrkf e r)]
      refine congrArg _ (zsu_e n (fun i p1 p2 => ?_))
      unfold zrkf
      rw [h4, show (0 : Int) + i = i by omega, h6 i p1 p2]
    rw [e1, h8, h56]
    exact w
def zlf (T r p : Int) : Int := if zrk T p = r then 1 else 0
theorem zlf_1 {r : Int} (h : 1 ≤ r ∧ r ≤ 10) : zsu (zlf 1 r) 52 = 1 * zea r := by
  rcases (by omega : r = 1 ∨ r = 2 ∨ r = 3 ∨ r = 4 ∨ r = 5 ∨ r = 6 ∨ r = 7 ∨ r = 8 ∨ r = 9 ∨ r = 10) with z | z | z | z | z | z | z | z | z | z
  all_goals subst z
  all_goals decide +kernel
theorem zlf_2 {r : Int} (h : 1 ≤ r ∧ r ≤ 10) : zsu (zlf 2 r) 104 = 2 * zea r := by
  rcases (by omega : r = 1 ∨ r = 2 ∨ r = 3 ∨ r = 4 ∨ r = 5 ∨ r = 6 ∨ r = 7 ∨ r = 8 ∨ r = 9 ∨ r = 10) with z | z | z | z | z | z | z | z | z | z
  all_goals subst z
  all_goals decide +kernel
theorem zrk_b {T p : Int} (hT : 1 ≤ T ∧ T ≤ 2) (hp : 0 ≤ p) : 1 ≤ zrk T p ∧ zrk T p ≤ 10 := by
  unfold zrk
  rcases (by omega : T = 1 ∨ T = 2) with z | z
  all_goals subst z
  all_goals split <;> omega
theorem zly_v {e : zm_D} {x : Int} : (∀ r j : Int, r ≠ 6 → r ≠ 8 → (r ≠ 5 ∨ (j ≠ 4 ∧ j ≠ 5 ∧ j ≠ 6 ∧ j ≠ 7)) → zly e x (52 * x) r j = e r j) ∧ zly e x (52 * x) 5 4 = 0 ∧ zly e x (52 * x) 5 5 = 52 * x ∧ zly e x (52 * x) 5 6 = x ∧ zly e x (52 * x) 5 7 = 0 ∧ (∀ j : Int, 0 ≤ j → j < 52 * x → zly e x (52 * x) 6 j = zrk x j) ∧ (∀ j : Int, 0 ≤ j → j ≤ 10 → zly e x (52 * x) 8 j = 0) := by
  unfold zly zlyB
  refine ⟨fun r j h1 h2 h3 => ?_, ?_, ?_, ?_, ?_, fun j h1 h2 => ?_, fun j h1 h2 => ?_⟩
  all_goals simp (disch := omega) only [zm_un, zm_ue, zm_ri, zm_ro]
theorem zfc_v {e : zm_D} : (∀ i : Int, 0 ≤ i → i < 3 → (zfc e (39 + 5 * i) 1 = 0 ∧ zfc e (39 + 5 * i) 2 = 0 ∧ zfc e (39 + 5 * i) 3 = 0) ∧ (zfc e (41 + 5 * i) 1 = 0 ∧ zfc e (41 + 5 * i) 2 = 0 ∧ zfc e (41 + 5 * i) 3 = 0) ∧ zfc e (38 + 5 * i) 3 = 0) ∧ (zfc e 36 1 = 0 ∧ zfc e 36 2 = 0 ∧ zfc e 36 3 = 0) ∧ (∀ r j : Int, (r < 36 ∨ 51 < r ∨ j = 0 ∨ 3 < j ∨ r = 37 ∨ r = 40 ∨ r = 42 ∨ r = 45 ∨ r = 47 ∨ r = 50 ∨ (r = 38 ∧ j ≠ 3) ∨ (r = 43 ∧ j ≠ 3) ∨ (r = 48 ∧ j ≠ 3)) → zfc e r j = e r j) := by
  unfold zfc
  refine ⟨fun i h1 h2 => ?_, ⟨?_, ?_, ?_⟩, fun r j h => ?_⟩
  · rcases (by omega : i = 0 ∨ i = 1 ∨ i = 2) with z | z | z
    all_goals subst z
    all_goals refine ⟨⟨?_, ?_, ?_⟩, ⟨?_, ?_, ?_⟩, ?_⟩
    all_goals simp (disch := omega) only [zm_un, zm_ue]
  · simp (disch := omega) only [zm_un, zm_ue]
  · simp (disch := omega) only [zm_un, zm_ue]
  · simp (disch := omega) only [zm_un, zm_ue]
  · simp (disch := omega) only [zm_un]
theorem zP11 {S : zSs} {D n u : Nat} {g : Int → zk_K} {e : zm_D} {t : Int} {x : Int} (I : zIn t e) (J : zIp t e) (R : zRe e) (ht : t < 600) (hD : 40 ≤ D) (h_x : -2147483648 ≤ x ∧ x < 2147483648) : zE S D 339 [zv_a 1, zv_i x, zv_a 160] n (zSg g) (zDg e) u (zK1 S D t n u 234 [zv_a 61, zv_i x] zPi) := by
  have r4 := R.2.2.2.2.2.1.1.2.2
  have c4 := I.2.2.2.2.2.2.1.2.2.1.1
  by_cases hx : x < 1 ∨ 2 < x
  · refine (zC129x I h_x hx hD).2 (zK1i (by omega) (by omega) (by omega) (by omega) (fun n2 u2 _ => (zX234x h_x hx (by omega)).2 (zK2i (by omega) (by omega) (by omega) (by omega) (zIn_e I ht (fun r j _ _ => by simp (disch := omega) only [zm_un])) (zIp_e J (fun r j _ _ => by simp (disch := omega) only [zm_un])) (zRe_e R (zIn_w I) (fun r j _ _ _ => by simp (disch := omega) only [zm_un])) ⟨1, 0, rfl, rfl, zm_us, fun q => absurd q (by decide), by decide⟩)))
  have hx : 1 ≤ x ∧ x ≤ 2 := by omega
  rcases c4 with h4 | h4
  rotate_left
  · refine (zC129r I hx h4 hD).2 (zK1i (by omega) (by omega) (by omega) (by omega) (fun n2 u2 _ => (zX234r hx (by omega) (by omega)).2 (zK2i (by omega) (by omega) (by omega) (by omega) (zIn_e I ht (fun r j _ _ => by simp (disch := omega) only [zm_un])) (zIp_e J (fun r j _ _ => by simp (disch := omega) only [zm_un])) (zRe_e R (zIn_w I) (fun r j _ _ _ => by simp (disch := omega) only [zm_un])) ⟨2, 0, rfl, rfl, zm_us, fun q => absurd q (by decide), by decide⟩)))
  have hw := zIn_w I
  have it := I.1
  refine (zC129 I hx h4 hD).2 (zK1i (by omega) (by omega) (by omega) (by omega) (fun n2 u2 _ => ?_))
  obtain ⟨L1, L2, L3, L4, L5, L6, L7⟩ := @zly_v e x
  obtain ⟨F1, F2, F3⟩ := @zfc_v (zly e x (52 * x))
  generalize zly e x (52 * x) = A at L1 L2 L3 L4 L5 L6 L7 F1 F2 F3 ⊢
  generalize zfc A = B at F1 F2 F3 ⊢
  have E37 : zm_u B 160 0 (zw (52 * x - 0)) 61 37 = 0 := by
    rw [zm_un (by decide), F3 61 37 (by decide), L1 61 37 (by decide) (by decide) (by decide)]
    omega
  refine (zX234 hx E37 (by omega)).2 ?_
  obtain ⟨en, hen⟩ : ∃ en, 52 * x = en := ⟨_, rfl⟩
  rw [hen] at L3 L6 ⊢
  have hf : ∀ r j : Int, (r ≠ 6 ∧ r ≠ 8 ∧ (r ≠ 5 ∨ (j ≠ 4 ∧ j ≠ 5 ∧ j ≠ 6 ∧ j ≠ 7)) ∧ (r < 36 ∨ 51 < r ∨ j = 0 ∨ 3 < j ∨ r = 37 ∨ r = 40 ∨ r = 42 ∨ r = 45 ∨ r = 47 ∨ r = 50 ∨ (r = 38 ∧ j ≠ 3) ∨ (r = 43 ∧ j ≠ 3) ∨ (r = 48 ∧ j ≠ 3))) → ((r ≠ 160) ∧ (r ≠ 61 ∨ (j ≠ 34 ∧ j ≠ 35 ∧ j ≠ 36 ∧ j ≠ 49)) ∧ r ≠ 92 ∧ r ≠ 98) → zm_u (zm_u (zm_u (zm_u (zmly (zm_u B 160 0 (zw (en - 0))) x en) 98 0 0) 98 1 0) 98 2 0) 61 36 0 r j = e r j := fun r j h1 h2 => by
    unfold zmly
    simp (disch := omega) only [zm_un, zm_ro]
    rw [F3 r j (by omega), L1 r j (by omega) (by omega) (by omega)]
  have hB : ∀ r j : Int, r ≤ 60 → zm_u (zm_u (zm_u (zm_u (zmly (zm_u B 160 0 (zw (en - 0))) x en) 98 0 0) 98 1 0) 98 2 0) 61 36 0 r j = B r j := fun r j h => by
    unfold zmly
    simp (disch := omega) only [zm_un, zm_ro]
  have h92 : ∀ j : Int, 0 ≤ j → j < en → zm_u (zm_u (zm_u (zm_u (zmly (zm_u B 160 0 (zw (en - 0))) x en) 98 0 0) 98 1 0) 98 2 0) 61 36 0 92 j = zrk x j := fun j p1 p2 => by
    unfold zmly
    simp (disch := omega) only [zm_un, zm_ri]
  have h98 : ∀ s : Int, 0 ≤ s → s < 3 → zm_u (zm_u (zm_u (zm_u (zmly (zm_u B 160 0 (zw (en - 0))) x en) 98 0 0) 98 1 0) 98 2 0) 61 36 0 98 s = 0 := fun s p1 p2 => by
    rcases (by omega : s = 0 ∨ s = 1 ∨ s = 2) with z | z | z
    all_goals subst z
    all_goals simp (disch := omega) only [zm_un, zm_ue]
  have h34 : zm_u (zm_u (zm_u (zm_u (zmly (zm_u B 160 0 (zw (en - 0))) x en) 98 0 0) 98 1 0) 98 2 0) 61 36 0 61 34 = x := by
    unfold zmly
    simp (disch := omega) only [zm_un, zm_ue, zm_ro]
  have h35 : zm_u (zm_u (zm_u (zm_u (zmly (zm_u B 160 0 (zw (en - 0))) x en) 98 0 0) 98 1 0) 98 2 0) 61 36 0 61 35 = en := by
    unfold zmly
    simp (disch := omega) only [zm_un, zm_ue]
  have h36 : zm_u (zm_u (zm_u (zm_u (zmly (zm_u B 160 0 (zw (en - 0))) x en) 98 0 0) 98 1 0) 98 2 0) 61 36 0 61 36 = 0 := zm_ue rfl rfl
  have h49 : zm_u (zm_u (zm_u (zm_u (zmly (zm_u B 160 0 (zw (en - 0))) x en) 98 0 0) 98 1 0) 98 2 0) 61 36 0 61 49 = 0 := by
    unfold zmly
    simp (disch := omega) only [zm_un, zm_ue, zm_ro]
  have h160 : zm_u (zm_u (zm_u (zm_u (zmly (zm_u B 160 0 (zw (en - 0))) x en) 98 0 0) 98 1 0) 98 2 0) 61 36 0 160 0 = zw (en - 0) := by
    unfold zmly
    simp (disch := omega) only [zm_un, zm_ue, zm_ro]
  generalize zm_u (zm_u (zm_u (zm_u (zmly (zm_u B 160 0 (zw (en - 0))) x en) 98 0 0) 98 1 0) 98 2 0) 61 36 0 = d at hf hB h92 h98 h34 h35 h36 h49 h160 ⊢
  have B5 : B 5 4 = 0 ∧ B 5 5 = en ∧ B 5 6 = x ∧ B 5 7 = 0 := by
    rw [F3 _ _ (by decide), F3 _ _ (by decide), F3 _ _ (by decide), F3 _ _ (by decide)]
    exact ⟨L2, L3, L4, L5⟩
  have B6 : ∀ j : Int, 0 ≤ j → j < en → B 6 j = zrk x j := fun j p1 p2 => by
    rw [F3 _ _ (by omega)]
    exact L6 j p1 p2
  have B8 : ∀ j : Int, 0 ≤ j → j ≤ 10 → B 8 j = 0 := fun j p1 p2 => by
    rw [F3 _ _ (by omega)]
    exact L7 j p1 p2
  have d34 := hf 34 4 (by decide) (by decide)
  rw [h4] at d34
  have pj := J
  obtain ⟨it, ia, ig, iv, itr, is, ic, iw, im, il⟩ := I
  obtain ⟨ra, rg, rh, rt, ru, rs, rd, rq, rv, rm, rl⟩ := R
  refine zK2i (by omega) (by omega) (by omega) (by omega) ⟨by omega, zIa_e ia (fun j => by rw [hf _ _ (by omega) (by omega)]), zIg_e ig (fun i j _ _ => by rw [hf _ _ (by omega) (by omega)]), zIv_e iv (by rw [hf _ _ (by omega) (by omega)]), zIt_e itr (fun i _ _ => by rw [hf _ _ (by omega) (by omega)]), ?_, ?_, zWh_e iw (fun r j _ _ => by rw [hf _ _ (by omega) (by omega)]), zIm_e im (fun r j _ => by rw [hf _ _ (by omega) (by omega)]), zIl_e il (fun j _ => by rw [hf _ _ (by omega) (by omega)]) (fun j => by rw [hf _ _ (by omega) (by omega)])⟩ ⟨zIp0_e pj.1 (fun r j _ _ => by rw [hf _ _ (by omega) (by omega)]), ?_⟩ ⟨zRa_e ra (fun j _ => by rw [hf _ _ (by omega) (by omega)]) (fun j _ => by rw [hf _ _ (by omega) (by omega)]) (by rw [hf _ _ (by omega) (by omega)]) (by rw [hf _ _ (by omega) (by omega)]) (fun j _ => by rw [hf _ _ (by omega) (by omega)]) (by rw [hf _ _ (by omega) (by omega)]), zRg_e rg (fun r j _ => by rw [hf _ _ (by omega) (by omega)]), zRh_e rh (fun i j _ _ _ => by rw [hf _ _ (by omega) (by omega)]) (fun j => by rw [hf _ _ (by omega) (by omega)]) (fun j => by rw [hf _ _ (by omega) (by omega)]) (by rw [hf _ _ (by omega) (by omega)]), zRt_e rt (fun r j _ => by rw [hf _ _ (by omega) (by omega)]), zRu_e ru (fun j _ _ => by rw [hf _ _ (by omega) (by omega)]) (fun j => by rw [hf _ _ (by omega) (by omega)]), ?_, ?_, ?_, zRv_e rv (by rw [hf _ _ (by omega) (by omega)]) (fun r j _ => by rw [hf _ _ (by omega) (by omega)]) hw.1, zRm_e rm (fun j _ _ => by rw [hf _ _ (by omega) (by omega)]) (fun r j _ => by rw [hf _ _ (by omega) (by omega)]) (fun j _ _ => by rw [hf _ _ (by omega) (by omega)]), zRl_e rl (fun j _ => by rw [hf _ _ (by omega) (by omega)]) (fun j _ => by rw [hf _ _ (by omega) (by omega)]) (fun r j _ => by rw [hf _ _ (by omega) (by omega)]) hw.2⟩ ⟨0, _, rfl, rfl, h49, fun _ => by rw [h160, Int.sub_zero], by decide⟩
  · obtain ⟨a, b, c, f, q⟩ := is
    refine ⟨⟨by rw [hB _ _ (by decide), hB _ _ (by decide)]; omega, fun i q1 q2 => ?_⟩, by rw [hB _ _ (by decide)]; omega, by rw [hB _ _ (by decide)]; omega, fun r q1 q2 => ?_, fun r q1 q2 => by rw [hf _ _ (by omega) (by omega)]; exact q r q1 q2⟩
    · rw [hB _ _ (by decide)] at q1 q2
      rw [hB _ _ (by decide), B6 i (by omega) (by omega)]
      exact zrk_b hx (by omega)
    · rw [hB 5 6 (by decide), hB 8 r (by decide), B8 r (by omega) (by omega), B5.2.2.1]
      unfold zwf zhd1
      rw [hB 5 7 (by decide), hB 5 5 (by decide), hB 5 4 (by decide), B5.1, B5.2.1, B5.2.2.2, if_neg (by omega), zch_z]
      have hz : ∀ n : Nat, (n : Int) = en → zsu (zrkf d r) n = zsu (zlf x r) n := fun n hn => zsu_e n (fun i p1 p2 => by
        unfold zrkf zlf
        rw [hB 5 4 (by decide), B5.1, show (0 : Int) + i = i by omega, hB 6 i (by decide), B6 i p1 (by omega)])
      rcases (by omega : x = 1 ∨ x = 2) with z | z
      · subst z
        rw [show (en - 0).toNat = 52 by omega, hz 52 (by omega), zlf_1 ⟨q1, q2⟩]
        unfold zea
        split <;> decide
      · subst z
        rw [show (en - 0).toNat = 104 by omega, hz 104 (by omega), zlf_2 ⟨q1, q2⟩]
        unfold zea
        split <;> decide
  · obtain ⟨s, ⟨b1, b2, b3, b4, b5⟩, c, f⟩ := ic
    refine ⟨fun i q1 q2 => ?_, ⟨by rw [hB 36 1 (by decide), hB 36 2 (by decide)]; omega, by rw [hB 36 2 (by decide)]; omega, by rw [hB 36 3 (by decide)]; omega, by rw [hB 36 1 (by decide), hB 36 2 (by decide), hB 36 3 (by decide), F2.1, F2.2.1, F2.2.2]; exact ⟨rfl, rfl⟩, fun k p1 p2 => by rw [hB 36 1 (by decide)] at p2; omega⟩, ?_, fun p => by omega⟩
    · obtain ⟨x1, x2, x3, x4, x5, x6⟩ := s i q1 q2
      obtain ⟨f1, f2, f3⟩ := F1 i q1 q2
      have hand : ∀ h c : Int, 39 ≤ h → h ≤ 51 → zIh (e 34 4) e h c → (B h 1 = 0 ∧ B h 2 = 0 ∧ B h 3 = 0) → zIh (d 34 4) d h c := fun h c p1 p2 hi hz => by
        obtain ⟨y1, y2, y3, y4, y5, y6, y7, y8, y9⟩ := hi
        unfold zIh
        rw [hB h 1 (by omega), hB h 2 (by omega), hB h 3 (by omega), hf h 4 (by omega) (by omega), hf h 5 (by omega) (by omega), hf h 6 (by omega) (by omega), hz.1, hz.2.1, hz.2.2]
        refine ⟨by decide, by decide, by decide, y4, y5, y6, fun p => by have := (y7 p).1; omega, ⟨rfl, rfl⟩, fun k p3 p4 => by omega⟩
      refine ⟨hand _ _ (by omega) (by omega) x1 f1, hand _ _ (by omega) (by omega) x2 f2, ?_, ?_, ?_, ?_⟩
      · rw [hB _ _ (by omega), f3]; decide
      · rw [hf _ 2 (by omega) (by omega)]; exact x4
      · rw [hf _ 2 (by omega) (by omega), hf _ 4 (by omega) (by omega), hf _ 4 (by omega) (by omega)]; exact x5
      · intro _
        rw [hB _ 1 (by omega), f2.1, hf _ 4 (by omega) (by omega), hf _ 5 (by omega) (by omega)]
        have rr := (rq i q1 q2).2.2.2.2.1 h4
        exact ⟨rfl, rr.2.1, rr.2.2.2.1⟩
    · rw [hf 34 4 (by decide) (by decide), hf 34 5 (by decide) (by decide), hf 34 6 (by decide) (by decide), hf 34 7 (by decide) (by decide), hf 34 8 (by decide) (by decide)]
      exact c
  · obtain ⟨w1, w2, w3, w4, w5⟩ := pj.2
    refine ⟨?_, fun i q0 q1 q2 => ?_, fun k q1 q2 => ?_, fun s q1 q2 => ?_, fun p => by omega⟩
    · rw [zpp_e (e := e) (fun i q1 q2 => by unfold zsp4; rw [hf _ 0 (by omega) (by omega), hf _ 1 (by omega) (by omega), hf _ 2 (by omega) (by omega), hf _ 3 (by omega) (by omega)]), hf 12 4 (by decide) (by decide)]
      omega
    · rw [hf 1 9 (by decide) (by decide)] at q0
      rw [hf _ 5 (by omega) (by omega), hf _ 7 (by omega) (by omega), hf (16 + 2 * i) 0 (by omega) (by omega), hf (16 + 2 * i) 1 (by omega) (by omega), hf (16 + 2 * i) 2 (by omega) (by omega), hf (16 + 2 * i) 3 (by omega) (by omega)]
      exact w2 i q0 q1 q2
    · rw [hf 12 2 (by decide) (by decide)] at q2
      rw [hf 13 k (by omega) (by omega), hf 1 9 (by decide) (by decide)]
      exact w3 k q1 q2
    · rw [hf (38 + 5 * s) 2 (by omega) (by omega), hf 1 9 (by decide) (by decide)]
      exact w4 s q1 q2
  · obtain ⟨⟨a1, a2, a3⟩, b, c, f, g⟩ := rs
    refine ⟨⟨by rw [h34, hB 5 6 (by decide)]; omega, by rw [h35, hB 5 5 (by decide), hB 5 4 (by decide)]; omega, by rw [hf 61 37 (by decide) (by decide), hf 34 4 (by decide) (by decide)]; exact a3⟩, fun k q1 q2 => ?_, fun r q1 q2 => ?_, fun _ => by rw [hB 5 7 (by decide)]; exact B5.2.2.2, fun p => by omega⟩
    · rw [hB 5 5 (by decide), hB 5 4 (by decide)] at q2
      rw [h92 k q1 (by omega), hB 5 4 (by decide), hB 6 _ (by decide), B5.1, show (0 : Int) + k = k by omega, B6 k q1 (by omega)]
    · rw [hf 95 r (by omega) (by omega), hf 9 r (by omega) (by omega)]
      exact c r q1 q2
  · refine ⟨by rw [h36, hB 36 1 (by decide), F2.1], fun k q1 q2 => ?_⟩
    rw [hB 36 1 (by decide)] at q2
    omega
  · intro s q1 q2
    obtain ⟨z1, z2, z3, z4, z5, z6, z7, z8⟩ := rq s q1 q2
    unfold zRq
    rw [h98 s q1 q2, d34, hf (38 + 5 * s) 2 (by omega) (by omega), hf 96 s (by omega) (by omega), hf (118 + s) 0 (by omega) (by omega), hf (118 + s) 1 (by omega) (by omega), hf (114 + s) 0 (by omega) (by omega), hf (114 + s) 1 (by omega) (by omega), hf 97 s (by omega) (by omega), hf (39 + 5 * s) 4 (by omega) (by omega), hf (41 + 5 * s) 4 (by omega) (by omega), hf (39 + 5 * s) 5 (by omega) (by omega), hf (41 + 5 * s) 5 (by omega) (by omega), hf (39 + 5 * s) 6 (by omega) (by omega), hf (41 + 5 * s) 6 (by omega) (by omega)]
    exact ⟨z1, by decide, z3, z4, fun _ => z5 h4, fun p => by omega, fun p => by omega, fun p => by omega⟩
theorem zP12 {S : zSs} {D n u : Nat} {g : Int → zk_K} {e : zm_D} {t : Int} {x : Int} (I : zIn t e) (J : zIp t e) (R : zRe e) (ht : t < 600) (hD : 40 ≤ D) (h_x : -2147483648 ≤ x ∧ x < 2147483648) : zE S D 340 [zv_a 1, zv_i x, zv_a 160] n (zSg g) (zDg e) u (zK1 S D t n u 235 [zv_a 61, zv_i x] zPi) := by
  have r4 := R.2.2.2.2.2.1.1.2.2
  have r35 := R.2.2.2.2.2.1.1.2.1
  have r92 := R.2.2.2.2.2.1.2.1
  have c4 := I.2.2.2.2.2.2.1.2.2.1.1
  have sh := I.2.2.2.2.2.1.1.1
  by_cases hx : x < 1 ∨ e 5 5 - e 5 4 ≤ x
  · refine (zC130x I h_x hx hD).2 (zK1i (by omega) (by omega) (by omega) (by omega) (fun n2 u2 _ => (zX235x h_x (by omega) (by omega) (by omega)).2 (zK2i (by omega) (by omega) (by omega) (by omega) (zIn_e I ht (fun r j _ _ => by simp (disch := omega) only [zm_un])) (zIp_e J (fun r j _ _ => by simp (disch := omega) only [zm_un])) (zRe_e R (zIn_w I) (fun r j _ _ _ => by simp (disch := omega) only [zm_un])) ⟨1, 0, rfl, rfl, zm_us, fun q => absurd q (by decide), by decide⟩)))
  have hx : 1 ≤ x ∧ x < e 5 5 - e 5 4 := by omega
  rcases c4 with h4 | h4
  rotate_left
  · refine (zC130r I hx h4 hD).2 (zK1i (by omega) (by omega) (by omega) (by omega) (fun n2 u2 _ => (zX235r (by omega) (by omega) (by omega) (by omega)).2 (zK2i (by omega) (by omega) (by omega) (by omega) (zIn_e I ht (fun r j _ _ => by simp (disch := omega) only [zm_un])) (zIp_e J (fun r j _ _ => by simp (disch := omega) only [zm_un])) (zRe_e R (zIn_w I) (fun r j _ _ _ => by simp (disch := omega) only [zm_un])) ⟨2, 0, rfl, rfl, zm_us, fun q => absurd q (by decide), by decide⟩)))
  have hw := zIn_w I
  have it := I.1
  obtain ⟨n0, hn⟩ : ∃ n0 : Nat, e 5 5 - e 5 4 = (n0 : Int) := ⟨(e 5 5 - e 5 4).toNat, by omega⟩
  rw [hn] at r35 r92
  refine (zC130 I hx h4 hD).2 (zK1i (by omega) (by omega) (by omega) (by omega) (fun n2 u2 _ => ?_))
  rw [hn]
  obtain ⟨A, hA⟩ : ∃ A, zcu e x = A := ⟨_, rfl⟩
  have A6 : ∀ k : Int, 0 ≤ k → k < (n0 : Int) → A 6 k = e 6 (e 5 4 + zcp (n0 : Int) x k) := fun k p1 p2 => by
    rw [← hA]
    unfold zcu
    rw [hn]
    simp (disch := omega) only [zm_un, zm_ri]
  have A4 : A 5 4 = 0 := by
    rw [← hA]
    unfold zcu
    simp (disch := omega) only [zm_un, zm_ue]
  have A5 : A 5 5 = (n0 : Int) := by
    rw [← hA]
    unfold zcu
    rw [hn]
    exact zm_ue rfl rfl
  have AO : ∀ r j : Int, r ≠ 6 → r ≠ 7 → (r ≠ 5 ∨ (j ≠ 4 ∧ j ≠ 5)) → A r j = e r j := fun r j p1 p2 p3 => by
    rw [← hA]
    unfold zcu
    simp (disch := omega) only [zm_un, zm_ro]
  rw [hA]
  clear hA
  obtain ⟨V, hV⟩ : ∃ V, zw (e 6 (e 5 4 + zcp (n0 : Int) x 0)) = V := ⟨_, rfl⟩
  rw [hV]
  obtain ⟨E, hE⟩ : ∃ E, zm_u A 160 0 V = E := ⟨_, rfl⟩
  rw [hE]
  have EO : ∀ r j : Int, r ≠ 160 → E r j = A r j := fun r j p => by rw [← hE, zm_un (by omega)]
  have E160 : E 160 0 = V := by rw [← hE]; exact zm_ue rfl rfl
  have E35 : E 61 35 = (n0 : Int) := by rw [EO _ _ (by decide), AO _ _ (by decide) (by decide) (by decide)]; exact r35
  have E37 : E 61 37 = 0 := by rw [EO _ _ (by decide), AO _ _ (by decide) (by decide) (by decide)]; omega
  have E92 : ∀ k : Int, 0 ≤ k → k < (n0 : Int) → E 92 k = e 6 (e 5 4 + k) := fun k p1 p2 => by
    rw [EO _ _ (by decide), AO _ _ (by decide) (by decide) (by omega)]
    exact r92 k p1 p2
  refine (zX235 (by omega) (by omega) E37 (by omega)).2 ?_
  rw [E35]
  clear hE
  have hO : ∀ r j : Int, r ≠ 92 → r ≠ 93 → (r ≠ 61 ∨ j ≠ 49) → (zmct2 E x) r j = E r j := fun r j p1 p2 p3 => by
    unfold zmct2
    rw [zm_ro (by omega), zmcb_o (by omega) p2]
  have h49 : (zmct2 E x) 61 49 = 0 := by
    unfold zmct2 zmcb
    rw [zm_ro (by omega), zcp_o (by omega)]
    exact zm_ue rfl rfl
  have h92 : ∀ k : Int, 0 ≤ k → k < (n0 : Int) → (zmct2 E x) 92 k = e 6 (e 5 4 + zcp (n0 : Int) x k) := fun k p1 p2 => by
    unfold zmct2
    rw [E35, zm_ri rfl p1 p2]
    rw [show (k + x) % (n0 : Int) = zcp (n0 : Int) x k from ?_, E92]
    · unfold zcp
      split <;> omega
    · unfold zcp
      split <;> omega
    · unfold zcp
      by_cases q : k + x < (n0 : Int)
      · rw [if_pos q, Int.emod_eq_of_lt (by omega) q]
      · rw [if_neg q, ← Int.sub_emod_right, Int.emod_eq_of_lt (by omega) (by omega)]
  have h160 : (zmct2 E x) 160 0 = V := by rw [hO _ _ (by decide) (by decide) (by decide), E160]
  have hans : V = zw (E 92 (x % (n0 : Int))) := by
    rw [Int.emod_eq_of_lt (by omega) (by omega), E92 x (by omega) (by omega), ← hV, show zcp (n0 : Int) x 0 = x by unfold zcp; rw [if_pos (by omega)]; omega]
  generalize (zmct2 E x) = d at hO h49 h92 h160 ⊢
  have hA : ∀ r j : Int, r ≤ 60 → d r j = A r j := fun r j h => by rw [hO r j (by omega) (by omega) (by omega), EO r j (by omega)]
  have hf : ∀ r j : Int, (r ≠ 6 ∧ r ≠ 7 ∧ (r ≠ 5 ∨ (j ≠ 4 ∧ j ≠ 5))) → (r ≠ 160 ∧ r ≠ 92 ∧ r ≠ 93 ∧ (r ≠ 61 ∨ j ≠ 49)) → d r j = e r j := fun r j p1 p2 => by
    rw [hO r j (by omega) (by omega) (by omega), EO r j (by omega), AO r j (by omega) (by omega) (by omega)]
  clear hO EO E160 E35 E37 E92
  have pj := J
  obtain ⟨it, ia, ig, iv, itr, is, ic, iw, im, il⟩ := I
  obtain ⟨ra, rg, rh, rt, ru, rs, rd, rq, rv, rm, rl⟩ := R
  refine zK2i (by omega) (by omega) (by omega) (by omega) ⟨by omega, zIa_e ia (fun j => by rw [hf _ _ (by omega) (by omega)]), zIg_e ig (fun i j _ _ => by rw [hf _ _ (by omega) (by omega)]), zIv_e iv (by rw [hf _ _ (by omega) (by omega)]), zIt_e itr (fun i _ _ => by rw [hf _ _ (by omega) (by omega)]), ?_, zIc_e ic (fun r j _ => by rw [hf _ _ (by omega) (by omega)]) (fun j _ _ => by rw [hf _ _ (by omega) (by omega)]) (by rw [hf _ _ (by omega) (by omega)]), zWh_e iw (fun r j _ _ => by rw [hf _ _ (by omega) (by omega)]), zIm_e im (fun r j _ => by rw [hf _ _ (by omega) (by omega)]), zIl_e il (fun j _ => by rw [hf _ _ (by omega) (by omega)]) (fun j => by rw [hf _ _ (by omega) (by omega)])⟩ ⟨zIp0_e pj.1 (fun r j _ _ => by rw [hf _ _ (by omega) (by omega)]), zIz_e pj.2 (fun r j _ => by rw [hf _ _ (by omega) (by omega)])⟩ ⟨zRa_e ra (fun j _ => by rw [hf _ _ (by omega) (by omega)]) (fun j _ => by rw [hf _ _ (by omega) (by omega)]) (by rw [hf _ _ (by omega) (by omega)]) (by rw [hf _ _ (by omega) (by omega)]) (fun j _ => by rw [hf _ _ (by omega) (by omega)]) (by rw [hf _ _ (by omega) (by omega)]), zRg_e rg (fun r j _ => by rw [hf _ _ (by omega) (by omega)]), zRh_e rh (fun i j _ _ _ => by rw [hf _ _ (by omega) (by omega)]) (fun j => by rw [hf _ _ (by omega) (by omega)]) (fun j => by rw [hf _ _ (by omega) (by omega)]) (by rw [hf _ _ (by omega) (by omega)]), zRt_e rt (fun r j _ => by rw [hf _ _ (by omega) (by omega)]), zRu_e ru (fun j _ _ => by rw [hf _ _ (by omega) (by omega)]) (fun j => by rw [hf _ _ (by omega) (by omega)]), ?_, zRd_e rd (by rw [hf _ _ (by omega) (by omega)]) (fun r j _ => by rw [hf _ _ (by omega) (by omega)]), fun s q1 q2 => zRq_e (rq s q1 q2) (by rw [hf _ _ (by omega) (by omega)]) (by rw [hf _ _ (by omega) (by omega)]) (by rw [hf _ _ (by omega) (by omega)]) (by rw [hf _ _ (by omega) (by omega)]) (fun r j _ => by rw [hf _ _ (by omega) (by omega)]) (fun r j _ => by rw [hf _ _ (by omega) (by omega)]), zRv_e rv (by rw [hf _ _ (by omega) (by omega)]) (fun r j _ => by rw [hf _ _ (by omega) (by omega)]) hw.1, zRm_e rm (fun j _ _ => by rw [hf _ _ (by omega) (by omega)]) (fun r j _ => by rw [hf _ _ (by omega) (by omega)]) (fun j _ _ => by rw [hf _ _ (by omega) (by omega)]), zRl_e rl (fun j _ => by rw [hf _ _ (by omega) (by omega)]) (fun j _ => by rw [hf _ _ (by omega) (by omega)]) (fun r j _ => by rw [hf _ _ (by omega) (by omega)]) hw.2⟩ ⟨0, _, rfl, rfl, h49, fun _ => by rw [h160]; exact hans, by decide⟩
  · refine zIs_p (g := fun k => zcp (n0 : Int) x k) is hn (by rw [hA _ _ (by decide)]; exact A4) (by rw [hA _ _ (by decide)]; exact A5) (hf _ _ (by decide) (by decide)) (hf _ _ (by decide) (by decide)) (fun k q1 q2 => by rw [hA _ _ (by decide)]; exact A6 k q1 q2) (fun k q1 q2 => ?_) (fun f => ?_) (fun j => hf _ _ (by omega) (by omega)) (fun j => hf _ _ (by omega) (by omega))
    · show 0 ≤ zcp (n0 : Int) x k ∧ zcp (n0 : Int) x k < (n0 : Int)
      unfold zcp
      split <;> omega
    · obtain ⟨x0, hx0⟩ : ∃ x0 : Nat, x = (x0 : Int) := ⟨x.toNat, by omega⟩
      subst hx0
      have g := @zsu_c f n0 x0 (by omega) n0 (by omega)
      rw [g, if_neg (by omega), show n0 - (n0 - x0) = x0 by omega]
      omega
  · obtain ⟨⟨a1, a2, a3⟩, b, c, f, g⟩ := rs
    refine ⟨⟨by rw [hf 61 34 (by decide) (by decide), hf 5 6 (by decide) (by decide)]; exact a1, by rw [hf 61 35 (by decide) (by decide), hA 5 5 (by decide), hA 5 4 (by decide)]; omega, by rw [hf 61 37 (by decide) (by decide), hf 34 4 (by decide) (by decide)]; exact a3⟩, fun k q1 q2 => ?_, fun r q1 q2 => ?_, fun p => ?_, fun p => ?_⟩
    · rw [hA 5 5 (by decide), hA 5 4 (by decide)] at q2
      rw [h92 k q1 (by omega), hA 5 4 (by decide), hA 6 _ (by decide), A4, show (0 : Int) + k = k by omega, A6 k q1 (by omega)]
    · rw [hf 95 r (by omega) (by omega), hf 9 r (by omega) (by omega)]
      exact c r q1 q2
    · rw [hf 34 4 (by decide) (by decide)] at p
      rw [hf 5 7 (by decide) (by decide)]
      exact f p
    · rw [hf 34 4 (by decide) (by decide)] at p
      omega
theorem zP13 {S : zSs} {D n u : Nat} {g : Int → zk_K} {e : zm_D} {t : Int} {x : Int} (I : zIn t e) (J : zIp t e) (R : zRe e) (ht : t < 600) (hD : 40 ≤ D) (hb : x = 0 ∨ x = 1) : zE S D 341 [zv_a 1, zv_i x, zv_a 160] n (zSg g) (zDg e) u (zK1 S D t n u 236 [zv_a 61, zv_i x] zPi) := by
  have r4 := R.2.2.2.2.2.1.1.2.2
  have r35 := R.2.2.2.2.2.1.1.2.1
  have r92 := R.2.2.2.2.2.1.2.1
  have c4 := I.2.2.2.2.2.2.1.2.2.1.1
  have sh := I.2.2.2.2.2.1.1.1
  by_cases hx : e 5 5 = e 5 4
  · refine (zC131x (x := x) I hx hD).2 (zK1i (by omega) (by omega) (by omega) (by omega) (fun n2 u2 _ => (zX236x (by omega) (by omega)).2 (zK2i (by omega) (by omega) (by omega) (by omega) (zIn_e I ht (fun r j _ _ => by simp (disch := omega) only [zm_un])) (zIp_e J (fun r j _ _ => by simp (disch := omega) only [zm_un])) (zRe_e R (zIn_w I) (fun r j _ _ _ => by simp (disch := omega) only [zm_un])) ⟨1, 0, rfl, rfl, zm_us, fun q => absurd q (by decide), by decide⟩)))
  have hx : e 5 4 < e 5 5 := by omega
  rcases c4 with h4 | h4
  rotate_left
  · refine (zC131r (x := x) I hx h4 hD).2 (zK1i (by omega) (by omega) (by omega) (by omega) (fun n2 u2 _ => (zX236r (by omega) (by omega) (by omega) (by omega)).2 (zK2i (by omega) (by omega) (by omega) (by omega) (zIn_e I ht (fun r j _ _ => by simp (disch := omega) only [zm_un])) (zIp_e J (fun r j _ _ => by simp (disch := omega) only [zm_un])) (zRe_e R (zIn_w I) (fun r j _ _ _ => by simp (disch := omega) only [zm_un])) ⟨2, 0, rfl, rfl, zm_us, fun q => absurd q (by decide), by decide⟩)))
  have hw := zIn_w I
  have it := I.1
  obtain ⟨n0, hn⟩ : ∃ n0 : Nat, e 5 5 - e 5 4 = (n0 : Int) := ⟨(e 5 5 - e 5 4).toNat, by omega⟩
  rw [hn] at r35 r92
  refine (zC131 I hx h4 hb hD).2 (zK1i (by omega) (by omega) (by omega) (by omega) (fun n2 u2 _ => ?_))
  rw [hn]
  obtain ⟨A, hA⟩ : ∃ A, zri e x = A := ⟨_, rfl⟩
  have A6 : ∀ k : Int, 0 ≤ k → k < (n0 : Int) → A 6 k = e 6 (e 5 4 + zmp (zmh (n0 : Int) x) x k) := fun k p1 p2 => by
    rw [← hA]
    unfold zri
    rw [hn]
    simp (disch := omega) only [zm_un, zm_ri]
  have A4 : A 5 4 = 0 := by
    rw [← hA]
    unfold zri
    simp (disch := omega) only [zm_un, zm_ue]
  have A5 : A 5 5 = (n0 : Int) := by
    rw [← hA]
    unfold zri
    rw [hn]
    exact zm_ue rfl rfl
  have AO : ∀ r j : Int, r ≠ 6 → r ≠ 7 → (r ≠ 5 ∨ (j ≠ 4 ∧ j ≠ 5)) → A r j = e r j := fun r j p1 p2 p3 => by
    rw [← hA]
    unfold zri
    simp (disch := omega) only [zm_un, zm_ro]
  rw [hA]
  clear hA
  obtain ⟨V, hV⟩ : ∃ V, zw (e 6 (e 5 4 + zmp (zmh (n0 : Int) x) x 0)) = V := ⟨_, rfl⟩
  rw [hV]
  obtain ⟨E, hE⟩ : ∃ E, zm_u A 160 0 V = E := ⟨_, rfl⟩
  rw [hE]
  have EO : ∀ r j : Int, r ≠ 160 → E r j = A r j := fun r j p => by rw [← hE, zm_un (by omega)]
  have E160 : E 160 0 = V := by rw [← hE]; exact zm_ue rfl rfl
  have E35 : E 61 35 = (n0 : Int) := by rw [EO _ _ (by decide), AO _ _ (by decide) (by decide) (by decide)]; exact r35
  have E37 : E 61 37 = 0 := by rw [EO _ _ (by decide), AO _ _ (by decide) (by decide) (by decide)]; omega
  have E92 : ∀ k : Int, 0 ≤ k → k < (n0 : Int) → E 92 k = e 6 (e 5 4 + k) := fun k p1 p2 => by
    rw [EO _ _ (by decide), AO _ _ (by decide) (by decide) (by omega)]
    exact r92 k p1 p2
  refine (zX236 (by omega) (by omega) E37 hb (by omega)).2 ?_
  rw [E35]
  clear hE
  have hO : ∀ r j : Int, r ≠ 92 → r ≠ 93 → (r ≠ 61 ∨ j ≠ 49) → (zmrf E x) r j = E r j := fun r j p1 p2 p3 => by
    unfold zmrf
    rw [zm_ro (by omega), zmcb_o (by omega) p2]
  have h49 : (zmrf E x) 61 49 = 0 := by
    unfold zmrf zmcb
    rw [zm_ro (by omega), zcp_o (by omega)]
    exact zm_ue rfl rfl
  have h92 : ∀ k : Int, 0 ≤ k → k < (n0 : Int) → (zmrf E x) 92 k = e 6 (e 5 4 + zmp (zmh (n0 : Int) x) x k) := fun k p1 p2 => by
    unfold zmrf
    rw [E35, zm_ri rfl p1 p2]
    rw [E92]
    · unfold zmp zmh
      repeat' split
      all_goals omega
    · unfold zmp zmh
      repeat' split
      all_goals omega
  have h160 : (zmrf E x) 160 0 = V := by rw [hO _ _ (by decide) (by decide) (by decide), E160]
  have hans : V = zw (E 92 (zmp (zmh (n0 : Int) x) x 0)) := by
    rw [E92, ← hV]
    · unfold zmp zmh
      repeat' split
      all_goals omega
    · unfold zmp zmh
      repeat' split
      all_goals omega
  generalize (zmrf E x) = d at hO h49 h92 h160 ⊢
  have hA : ∀ r j : Int, r ≤ 60 → d r j = A r j := fun r j h => by rw [hO r j (by omega) (by omega) (by omega), EO r j (by omega)]
  have hf : ∀ r j : Int, (r ≠ 6 ∧ r ≠ 7 ∧ (r ≠ 5 ∨ (j ≠ 4 ∧ j ≠ 5))) → (r ≠ 160 ∧ r ≠ 92 ∧ r ≠ 93 ∧ (r ≠ 61 ∨ j ≠ 49)) → d r j = e r j := fun r j p1 p2 => by
    rw [hO r j (by omega) (by omega) (by omega), EO r j (by omega), AO r j (by omega) (by omega) (by omega)]
  clear hO EO E160 E35 E37 E92
  have pj := J
  obtain ⟨it, ia, ig, iv, itr, is, ic, iw, im, il⟩ := I
  obtain ⟨ra, rg, rh, rt, ru, rs, rd, rq, rv, rm, rl⟩ := R
  refine zK2i (by omega) (by omega) (by omega) (by omega) ⟨by omega, zIa_e ia (fun j => by rw [hf _ _ (by omega) (by omega)]), zIg_e ig (fun i j _ _ => by rw [hf _ _ (by omega) (by omega)]), zIv_e iv (by rw [hf _ _ (by omega) (by omega)]), zIt_e itr (fun i _ _ => by rw [hf _ _ (by omega) (by omega)]), ?_, zIc_e ic (fun r j _ => by rw [hf _ _ (by omega) (by omega)]) (fun j _ _ => by rw [hf _ _ (by omega) (by omega)]) (by rw [hf _ _ (by omega) (by omega)]), zWh_e iw (fun r j _ _ => by rw [hf _ _ (by omega) (by omega)]), zIm_e im (fun r j _ => by rw [hf _ _ (by omega) (by omega)]), zIl_e il (fun j _ => by rw [hf _ _ (by omega) (by omega)]) (fun j => by rw [hf _ _ (by omega) (by omega)])⟩ ⟨zIp0_e pj.1 (fun r j _ _ => by rw [hf _ _ (by omega) (by omega)]), zIz_e pj.2 (fun r j _ => by rw [hf _ _ (by omega) (by omega)])⟩ ⟨zRa_e ra (fun j _ => by rw [hf _ _ (by omega) (by omega)]) (fun j _ => by rw [hf _ _ (by omega) (by omega)]) (by rw [hf _ _ (by omega) (by omega)]) (by rw [hf _ _ (by omega) (by omega)]) (fun j _ => by rw [hf _ _ (by omega) (by omega)]) (by rw [hf _ _ (by omega) (by omega)]), zRg_e rg (fun r j _ => by rw [hf _ _ (by omega) (by omega)]), zRh_e rh (fun i j _ _ _ => by rw [hf _ _ (by omega) (by omega)]) (fun j => by rw [hf _ _ (by omega) (by omega)]) (fun j => by rw [hf _ _ (by omega) (by omega)]) (by rw [hf _ _ (by omega) (by omega)]), zRt_e rt (fun r j _ => by rw [hf _ _ (by omega) (by omega)]), zRu_e ru (fun j _ _ => by rw [hf _ _ (by omega) (by omega)]) (fun j => by rw [hf _ _ (by omega) (by omega)]), ?_, zRd_e rd (by rw [hf _ _ (by omega) (by omega)]) (fun r j _ => by rw [hf _ _ (by omega) (by omega)]), fun s q1 q2 => zRq_e (rq s q1 q2) (by rw [hf _ _ (by omega) (by omega)]) (by rw [hf _ _ (by omega) (by omega)]) (by rw [hf _ _ (by omega) (by omega)]) (by rw [hf _ _ (by omega) (by omega)]) (fun r j _ => by rw [hf _ _ (by omega) (by omega)]) (fun r j _ => by rw [hf _ _ (by omega) (by omega)]), zRv_e rv (by rw [hf _ _ (by omega) (by omega)]) (fun r j _ => by rw [hf _ _ (by omega) (by omega)]) hw.1, zRm_e rm (fun j _ _ => by rw [hf _ _ (by omega) (by omega)]) (fun r j _ => by rw [hf _ _ (by omega) (by omega)]) (fun j _ _ => by rw [hf _ _ (by omega) (by omega)]), zRl_e rl (fun j _ => by rw [hf _ _ (by omega) (by omega)]) (fun j _ => by rw [hf _ _ (by omega) (by omega)]) (fun r j _ => by rw [hf _ _ (by omega) (by omega)]) hw.2⟩ ⟨0, _, rfl, rfl, h49, fun _ => by rw [h160]; exact hans, by decide⟩
  · refine zIs_p (g := fun k => zmp (zmh (n0 : Int) x) x k) is hn (by rw [hA _ _ (by decide)]; exact A4) (by rw [hA _ _ (by decide)]; exact A5) (hf _ _ (by decide) (by decide)) (hf _ _ (by decide) (by decide)) (fun k q1 q2 => by rw [hA _ _ (by decide)]; exact A6 k q1 q2) (fun k q1 q2 => ?_) (fun f => ?_) (fun j => hf _ _ (by omega) (by omega)) (fun j => hf _ _ (by omega) (by omega))
    · show 0 ≤ zmp (zmh (n0 : Int) x) x k ∧ zmp (zmh (n0 : Int) x) x k < (n0 : Int)
      unfold zmp zmh
      repeat' split
      all_goals omega
    · rcases hb with z | z
      · subst z
        have g := @zsu_r f (n0 / 2) 0 (.inl rfl) n0
        rw [show (((n0 / 2 : Nat) : Int)) = zmh (n0 : Int) 0 by unfold zmh; rw [if_neg (by decide)]; omega] at g
        refine Eq.trans g ?_
        rw [show (n0 + 0) / 2 = n0 / 2 by omega, show n0 / 2 + (n0 + 1 - 0) / 2 = n0 by omega]
        omega
      · subst z
        have g := @zsu_r f ((n0 + 1) / 2) 1 (.inr rfl) n0
        rw [show ((((n0 + 1) / 2 : Nat) : Int)) = zmh (n0 : Int) 1 by unfold zmh; rw [if_pos rfl]; omega] at g
        refine Eq.trans g ?_
        rw [show (n0 + 1) / 2 + (n0 + 1 - 1) / 2 = n0 by omega]
        omega
  · obtain ⟨⟨a1, a2, a3⟩, b, c, f, g⟩ := rs
    refine ⟨⟨by rw [hf 61 34 (by decide) (by decide), hf 5 6 (by decide) (by decide)]; exact a1, by rw [hf 61 35 (by decide) (by decide), hA 5 5 (by decide), hA 5 4 (by decide)]; omega, by rw [hf 61 37 (by decide) (by decide), hf 34 4 (by decide) (by decide)]; exact a3⟩, fun k q1 q2 => ?_, fun r q1 q2 => ?_, fun p => ?_, fun p => ?_⟩
    · rw [hA 5 5 (by decide), hA 5 4 (by decide)] at q2
      rw [h92 k q1 (by omega), hA 5 4 (by decide), hA 6 _ (by decide), A4, show (0 : Int) + k = k by omega, A6 k q1 (by omega)]
    · rw [hf 95 r (by omega) (by omega), hf 9 r (by omega) (by omega)]
      exact c r q1 q2
    · rw [hf 34 4 (by decide) (by decide)] at p
      rw [hf 5 7 (by decide) (by decide)]
      exact f p
    · rw [hf 34 4 (by decide) (by decide)] at p
      omega
