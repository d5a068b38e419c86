/-! ===== GUEST: rows filled, the shoe laid and riffled; trays, guests ===== -/
set_option maxRecDepth 65536
theorem ztdx {x k : Int} (h : 0 ≤ x) : x.tdiv k = x / k := Int.tdiv_eq_ediv_of_nonneg h
theorem ztmx {x k : Int} (h : 0 ≤ x) : x.tmod k = x % k := Int.tmod_eq_emod_of_nonneg h
theorem zmu_self {d : zm_D} {r k v : Int} (h : d r k = v) : zm_u d r k v = d := by
  funext a j
  unfold zm_u
  split
  · rename_i q; rw [q.1, q.2, h]
  · rfl
theorem zmu_uu {d : zm_D} {r k a b : Int} : zm_u (zm_u d r k a) r k b = zm_u d r k b := by
  funext q j
  unfold zm_u
  split <;> rfl
theorem zx4 {x : Int} (h : 0 ≤ x ∧ x < 2147483648) : 0 ≤ zb_xor x 4 ∧ zb_xor x 4 < 2147483648 := by
  unfold zb_xor
  have e : (Int32.ofInt x ^^^ Int32.ofInt 4).toInt = ((Int32.ofInt x).toBitVec ^^^ BitVec.ofNat 32 4).toInt := rfl
  have e2 : (Int32.ofInt x).toBitVec.toNat = x.toNat := by
    show (BitVec.ofInt 32 x).toNat = x.toNat
    rw [BitVec.toNat_ofInt]
    have : x % ((2 ^ 32 : Nat) : Int) = x := Int.emod_eq_of_lt h.1 (by omega)
    rw [this]
  have h2 : ((Int32.ofInt x).toBitVec ^^^ BitVec.ofNat 32 4).toNat < 2 ^ 31 := by
    rw [BitVec.toNat_xor, e2]
    exact Nat.xor_lt_two_pow (by omega) (by decide)
  rw [e, BitVec.toInt_eq_toNat_of_lt (by omega)]
  omega
theorem zE325 {S : zSs} {D n u : Nat} {sh : zk_S} {d : zm_D} {Q : ((Option zv_V) ⊕ Nat) → Nat → zk_S → zm_D → Nat → Prop} {x : Int} (h : 0 ≤ x ∧ x < 2147483648) : zE S D 325 [zv_i x, zv_i 4] n sh d u Q ↔ Q (.inl (some (zv_i (x % 4)))) n sh d u := by
  have h4 := zx4 h
  simp (maxSteps := 10000000) (disch := first | omega | (simp (disch := omega) only [zm_ue, zm_un, zm_ri, zm_ro] <;> omega) | fail) only [zr_irem, zr_ixor, zr_iload, zr_istore, zr_iret, Nat.reduceAdd, Int.reduceEq, ne_eq, not_false_eq_true, zt_17, zKi_s, zget_0, zget_s, zst1_0, zst1_1, zst1_s, zk1_i, zw_id, true_and, zj_325_1, ze_325s, ztmx]
theorem zL328 {S : zSs} {D n u : Nat} {g : Int → zk_K} {e : zm_D} {Q : ((Option zv_V) ⊕ Nat) → Nat → zk_S → zm_D → Nat → Prop} {r N x : Int} {M : Nat} (hN : (M : Int) = N) (hM : N ≤ 1000) (hr : 0 < r) (s1 : ∀ g, zSg g r = some (.inr (.int, M))) (u1 : ∀ (e : zm_D) (k x : Int), zm_u (zDg e) r k x = zDg (zm_u e r k x)) : ∀ (m : Nat) (k : Int), N - k = (m : Int) → 0 ≤ k → (zJ S D 328 1 [some (zv_a r), some (zv_i x), some (zv_i k), some (zv_i N)] [] n (zSg g) (zDg (zm_row e r k (fun _ => x))) u Q ↔ Q (.inl none) n (zSg g) (zDg (zm_row e r N (fun _ => x))) u) := by
  intro m
  induction m with
  | zero =>
    intro k hk h0
    have e1 : k = N := by omega
    subst e1
    rw [zj_328_1]
    simp (maxSteps := 10000000) (disch := first | omega | (simp (disch := omega) only [zm_ue, zm_un, zm_ri, zm_ro] <;> omega) | fail) only [zr_iload, zr_vret, zt_23, zKi_s, zget_0, zget_s, zj_328_2]
  | succ m ih =>
    intro k hk h0
    have b4 : 0 ≤ k ∧ k < (M : Int) := by omega
    have b5 : M ≤ 1000000 := by omega
    have e2 := @zm_rs e r k (fun _ => x) h0
    rw [zj_328_1]
    simp (maxSteps := 10000000) (disch := first | omega | (simp (disch := omega) only [zm_ue, zm_un, zm_ri, zm_ro] <;> omega) | fail) only [zr_aload, zr_iload, zr_iinc, zr_goto, zr_iastore, Nat.reduceAdd, zf_23, zKa_s, zKi_s, zO_s, zget_0, zget_s, zst1_0, zst1_1, zst1_s, zk1_i, zw_id, zaI_v, true_and, and_true, b4, b5, s1, u1, hr]
    rw [e2]
    exact ih (k + 1) (by omega) (by omega)
theorem zE328 {S : zSs} {D n u : Nat} {g : Int → zk_K} {e : zm_D} {Q : ((Option zv_V) ⊕ Nat) → Nat → zk_S → zm_D → Nat → Prop} {r N x : Int} {M : Nat} (hN : (M : Int) = N) (hM : N ≤ 1000) (hr : 0 < r) (s1 : ∀ g, zSg g r = some (.inr (.int, M))) (u1 : ∀ (e : zm_D) (k x : Int), zm_u (zDg e) r k x = zDg (zm_u e r k x)) : zE S D 328 [zv_a r, zv_i x] n (zSg g) (zDg e) u Q ↔ Q (.inl none) n (zSg g) (zDg (zm_row e r N (fun _ => x))) u := by
  simp (maxSteps := 10000000) (disch := first | omega | (simp (disch := omega) only [zm_ue, zm_un, zm_ri, zm_ro] <;> omega) | fail) only [zr_iconst, zr_aload, zr_istore, zr_fall, zr_alen, Nat.reduceAdd, zKa_s, zO_s, zget_0, zst1_0, zst1_1, zst1_s, zk1_i, zaX_v, true_and, ze_328s, s1, hr, hN]
  have h := @zL328 S D n u g e Q r N x M hN hM hr s1 u1 N.toNat 0 (by omega) (by omega)
  rw [zm_r0 (by omega)] at h
  exact h
theorem zE328s {S : zSs} {D n u : Nat} {g : Int → zk_K} {e : zm_D} {Q : ((Option zv_V) ⊕ Nat) → Nat → zk_S → zm_D → Nat → Prop} {x : Int} : zE S D 328 [zv_a 8, zv_i x] n (zSg g) (zDg e) u Q ↔ Q (.inl none) n (zSg g) (zDg (zm_row e 8 11 (fun _ => x))) u := zE328 (M := 11) rfl (by decide) (by decide) (fun _ => zSg_8) (fun _ _ _ => zgua_8)
def zrk (T p : Int) : Int := if p < 36 * T then p / (4 * T) + 1 else 10
def zlyB (e : zm_D) (T : Int) : zm_D := zm_row (zm_u (zm_u (zm_u e 5 6 T) 5 4 0) 5 7 0) 8 11 (fun _ => 0)
def zly (e : zm_D) (T en : Int) : zm_D := zm_u (zm_row (zlyB e T) 6 en (zrk T)) 5 5 en
theorem zly_0 {e : zm_D} {T : Int} : zm_row (zm_u (zm_u (zm_u (zm_u e 5 6 T) 5 4 0) 5 5 0) 5 7 0) 8 11 (fun _ => 0) = zly e T 0 := by
  unfold zly zlyB
  rw [zm_r0 (Int.le_refl 0)]
  funext a k; simp only [zm_row, zm_u]; repeat' split
  all_goals first | rfl | omega
theorem zly_s {e : zm_D} {T en rk : Int} (h : 0 ≤ en) (hr : zrk T en = rk) : zm_u (zm_u (zly e T en) 6 en rk) 5 5 (en + 1) = zly e T (en + 1) := by
  unfold zly
  rw [← hr, ← zm_rs h]
  generalize zm_row (zlyB e T) 6 en (zrk T) = d
  generalize zrk T en = v
  funext a k; simp only [zm_row, zm_u]; repeat' split
  all_goals first | rfl | omega
theorem zly_5 {e : zm_D} {T en : Int} : zly e T en 5 5 = en := zm_ue rfl rfl
theorem zL84i {S : zSs} {D n u : Nat} {g : Int → zk_K} {e : zm_D} {Q : ((Option zv_V) ⊕ Nat) → Nat → zk_S → zm_D → Nat → Prop} {T r : Int} (hT : T = 1 ∨ T = 2) (hr : 1 ≤ r ∧ r ≤ 10) (hD : 0 < D) : ∀ (m : Nat) (k : Int), T * zea r - k = (m : Int) → 0 ≤ k → (zJ S D 84 2 [some (zv_a 5), some (zv_i (T)), some (zv_i (r)), some (zv_i (k))] [] n (zSg g) (zDg (zly e T (T * 4 * (r - 1) + k))) u Q ↔ zJ S D 84 3 [some (zv_a 5), some (zv_i (T)), some (zv_i (r)), some (zv_i (T * zea r))] [] n (zSg g) (zDg (zly e T (T * 4 * (r - 1) + T * zea r))) u Q) := by
  intro m
  induction m with
  | zero =>
    intro k hk h0
    have e1 : k = T * zea r := by omega
    have hz : zea r = 16 ∨ zea r = 4 := by unfold zea; split <;> simp
    rw [zj_84_2, e1]
    rcases hT with rfl | rfl
    all_goals rcases hz with hz | hz
    all_goals rw [hz]
    all_goals
      simp (maxSteps := 10000000) (disch := first | omega | (simp (disch := omega) only [zm_ue, zm_un, zm_ri, zm_ro] <;> omega) | fail) only [zr_imul, zr_iload, zr_callS, Nat.reduceAdd, Nat.reduceLeDiff, Int.reduceMul, zt_23, zKi_s, zKp_s, zget_0, zget_s, zpop_0, zpop_s, zA_s, List.length_cons, List.length_nil, true_and, and_true, zE81, hz, hD]
  | succ m ih =>
    intro k hk h0
    have hz : (r = 10 ∧ zea r = 16) ∨ (r ≤ 9 ∧ zea r = 4) := by unfold zea; split <;> omega
    have hk2 : k < T * zea r := by omega
    have hen : 0 ≤ T * 4 * (r - 1) + k ∧ T * 4 * (r - 1) + k < 104 := by rcases hT with rfl | rfl <;> rcases hz with hz | hz <;> omega
    have hrk : zrk T (T * 4 * (r - 1) + k) = r := by
      unfold zrk
      rcases hT with rfl | rfl <;> rcases hz with hz | hz <;> split <;> omega
    have h5 := @zly_5 e T (T * 4 * (r - 1) + k)
    have e2 := @zly_s e T (T * 4 * (r - 1) + k) r hen.1 hrk
    have hb : -2147483648 ≤ T * zea r ∧ T * zea r < 2147483648 := by rcases hT with rfl | rfl <;> omega
    have e3 : T * 4 * (r - 1) + k + 1 = T * 4 * (r - 1) + (k + 1) := by omega
    have h6 : zm_u (zly e T (T * 4 * (r - 1) + k)) 6 (T * 4 * (r - 1) + k) r 5 5 = T * 4 * (r - 1) + k := (zm_un (Or.inl (by decide))).trans h5
    rw [zj_84_2]
    simp (maxSteps := 10000000) (disch := first | omega | (simp (disch := omega) only [zm_ue, zm_un, zm_ri, zm_ro] <;> omega) | fail) only [zr_iadd, zr_imul, zr_iconst, zr_aload, zr_iload, zr_iinc, zr_goto, zr_dup_a, zr_getI, zr_getA, zr_putI, zr_iastore, zr_alen, zr_callS, Nat.reduceAdd, Nat.reduceLeDiff, Int.reduceLT, zcast, zf_16, zf_23, zKa_s, zKi_s, zO_s, zKp_s, zget_0, zget_s, zst1_0, zst1_1, zst1_s, zk1_i, zpop_0, zpop_s, zA_s, zw_id, zm_un, zaB_v, zaI_v, zaX_v, List.length_cons, List.length_nil, true_and, and_true, zSg_5, zSg_6, zg_5_0, zg_5_5, zgu_5_5, zgua_6, zE81, h5, hen, hD]
    rw [e2, e3]
    exact ih (k + 1) (by omega) (by omega)
theorem zL84r {S : zSs} {D n u : Nat} {g : Int → zk_K} {e : zm_D} {Q : ((Option zv_V) ⊕ Nat) → Nat → zk_S → zm_D → Nat → Prop} {T r : Int} {X : Option zv_V} (hT : T = 1 ∨ T = 2) (hr : 1 ≤ r ∧ r ≤ 10) (hD : 0 < D) : zJ S D 84 1 [some (zv_a 5), some (zv_i (T)), some (zv_i (r)), X] [] n (zSg g) (zDg (zly e T (T * 4 * (r - 1)))) u Q ↔ zJ S D 84 1 [some (zv_a 5), some (zv_i (T)), some (zv_i (r + 1)), some (zv_i (T * zea r))] [] n (zSg g) (zDg (zly e T (T * 4 * (r - 1) + T * zea r))) u Q := by
  have hz : zea r = 16 ∨ zea r = 4 := by unfold zea; split <;> simp
  have hb : 0 ≤ T * zea r := by rcases hT with rfl | rfl <;> omega
  have h := @zL84i S D n u g e Q T r hT hr hD (T * zea r).toNat 0 (by omega) (Int.le_refl 0)
  rw [Int.add_zero] at h
  rw [zj_84_1]
  simp (maxSteps := 10000000) (disch := first | omega | (simp (disch := omega) only [zm_ue, zm_un, zm_ri, zm_ro] <;> omega) | fail) only [zr_iconst, zr_iload, zr_istore, zr_fall, Nat.reduceAdd, zf_24, zKi_s, zget_0, zget_s, zst1_0, zst1_1, zst1_s, zk1_i]
  rw [h, zj_84_3]
  simp (maxSteps := 10000000) (disch := first | omega | (simp (disch := omega) only [zm_ue, zm_un, zm_ri, zm_ro] <;> omega) | fail) only [zr_iinc, zr_goto, Nat.reduceAdd, zKi_s, zget_0, zget_s, zst1_0, zst1_1, zst1_s, zk1_i]
theorem zL84a {S : zSs} {D n u : Nat} {g : Int → zk_K} {e : zm_D} {Q : ((Option zv_V) ⊕ Nat) → Nat → zk_S → zm_D → Nat → Prop} {T : Int} (hT : T = 1 ∨ T = 2) (hD : 0 < D) : ∀ (m : Nat) (X : Option zv_V), m ≤ 9 → (zJ S D 84 1 [some (zv_a 5), some (zv_i (T)), some (zv_i (10 - (m : Int))), X] [] n (zSg g) (zDg (zly e T (T * 4 * (9 - (m : Int))))) u Q ↔ Q (.inl none) n (zSg g) (zDg (zly e T (52 * T))) u) := by
  intro m
  induction m with
  | zero =>
    intro X hm
    have h := @zL84r S D n u g e Q T 10 X hT ⟨by decide, by decide⟩ hD
    rw [show (9 : Int) - ((0 : Nat) : Int) = 10 - 1 by decide, show (10 : Int) - ((0 : Nat) : Int) = 10 by decide, h, show T * 4 * (10 - 1) + T * zea 10 = 52 * T by rw [zea_t rfl]; omega, zj_84_1]
    simp (maxSteps := 10000000) (disch := first | omega | (simp (disch := omega) only [zm_ue, zm_un, zm_ri, zm_ro] <;> omega) | fail) only [zr_iconst, zr_iload, zr_vret, Int.reduceAdd, zt_24, zKi_s, zget_0, zget_s, zj_84_4]
  | succ m ih =>
    intro X hm
    have h := @zL84r S D n u g e Q T (9 - (m : Int)) X hT ⟨by omega, by omega⟩ hD
    have e1 : (10 : Int) - ((m + 1 : Nat) : Int) = 9 - (m : Int) := by omega
    have e2 : (9 : Int) - ((m + 1 : Nat) : Int) = 9 - (m : Int) - 1 := by omega
    have e3 : T * 4 * (9 - (m : Int) - 1) + T * zea (9 - (m : Int)) = T * 4 * (9 - (m : Int)) := by rw [zea_f (by omega)]; rcases hT with rfl | rfl <;> omega
    have e4 : (9 : Int) - (m : Int) + 1 = 10 - (m : Int) := by omega
    rw [e1, e2, h, e3, e4]
    exact ih _ (by omega)
theorem zE84 {S : zSs} {D n u : Nat} {g : Int → zk_K} {e : zm_D} {Q : ((Option zv_V) ⊕ Nat) → Nat → zk_S → zm_D → Nat → Prop} {T : Int} (hT : T = 1 ∨ T = 2) (hD : 0 < D) : zE S D 84 [zv_a 5, zv_i T] n (zSg g) (zDg e) u Q ↔ Q (.inl none) n (zSg g) (zDg (zly e T (52 * T))) u := by
  simp (maxSteps := 10000000) (disch := first | omega | (simp (disch := omega) only [zm_ue, zm_un, zm_ri, zm_ro] <;> omega) | fail) only [zr_iconst, zr_aload, zr_iload, zr_istore, zr_fall, zr_getA, zr_putI, zr_callS, Nat.reduceAdd, Nat.reduceLeDiff, Int.reduceLT, zKa_s, zKi_s, zKp_s, zget_0, zget_s, zst1_0, zst1_1, zst1_s, zk1_i, zpop_0, zpop_s, zA_n, zm_un, zaB_v, List.length_nil, true_and, and_true, ze_84, zSg_5, zg_5_2, zgu_5_4, zgu_5_5, zgu_5_6, zgu_5_7, zE328s, hD]
  rw [zly_0]
  have h := @zL84a S D n u g e Q T hT hD 9 none (by decide)
  rw [show (10 : Int) - ((9 : Nat) : Int) = 1 by decide, show T * 4 * (9 - ((9 : Nat) : Int)) = 0 by omega] at h
  exact h
def zmp (h b k : Int) : Int := if (k % 2 = 0 ∧ b = 1) ∨ (k % 2 = 1 ∧ b = 0) then k / 2 else h + k / 2
theorem zmp_t {h b k : Int} (q : (k % 2 = 0 ∧ b = 1) ∨ (k % 2 = 1 ∧ b = 0)) : zmp h b k = k / 2 := if_pos q
theorem zmp_f {h b k : Int} (q : ¬ ((k % 2 = 0 ∧ b = 1) ∨ (k % 2 = 1 ∧ b = 0))) : zmp h b k = h + k / 2 := if_neg q
def zmh (sz b : Int) : Int := if b = 1 then (sz + 1) / 2 else sz / 2
theorem zL86 {S : zSs} {D n u : Nat} {g : Int → zk_K} {e : zm_D} {Q : ((Option zv_V) ⊕ Nat) → Nat → zk_S → zm_D → Nat → Prop} {b hf2 : Int} (hf : 0 ≤ e 5 4 ∧ e 5 4 ≤ e 5 5 ∧ e 5 5 ≤ 104) (hb : b = 0 ∨ b = 1) (hh : hf2 = zmh (e 5 5 - e 5 4) b) (hD : 2 < D) : ∀ (m : Nat) (k : Int) (X : Option zv_V), e 5 5 - e 5 4 - k = (m : Int) → 0 ≤ k → (zJ S D 86 3 [some (zv_a 5), some (zv_i (b)), some (zv_i (e 5 5 - e 5 4)), some (zv_i (hf2)), some (zv_i (k)), X] [] n (zSg g) (zDg (zm_row e 7 k (fun k => e 6 (e 5 4 + zmp (zmh (e 5 5 - e 5 4) b) b k)))) u Q ↔ Q (.inl none) n (zSg g) (zDg (zm_u (zm_u (zm_row (zm_row e 7 (e 5 5 - e 5 4) (fun k => e 6 (e 5 4 + zmp (zmh (e 5 5 - e 5 4) b) b k))) 6 (e 5 5 - e 5 4) (fun k => (zm_row e 7 (e 5 5 - e 5 4) (fun k => e 6 (e 5 4 + zmp (zmh (e 5 5 - e 5 4) b) b k))) 7 k)) 5 4 0) 5 5 (e 5 5 - e 5 4))) u) := by
  have hD1 : 0 < D := by omega
  intro m
  induction m with
  | zero =>
    intro k X hk h0
    have e1 : k = e 5 5 - e 5 4 := by omega
    subst e1
    rw [zj_86_3]
    simp (maxSteps := 10000000) (disch := first | omega | (simp (disch := omega) only [zm_ue, zm_un, zm_ri, zm_ro] <;> omega) | fail) only [zr_aload, zr_iload, zr_vret, zr_callV, Nat.reduceLeDiff, Int.reduceLT, zt_23, zKa_s, zKi_s, zKr_s, zget_0, zget_s, zpop_0, zpop_s, zA_n, zaB_v, List.length_nil, true_and, and_true, zj_86_10, zSg_5, zE87, hD1]
  | succ m ih =>
    intro k X hk h0
    have b4 : 0 ≤ k ∧ k < 104 := by omega
    have e2 := @zm_rs e 7 k (fun k => e 6 (e 5 4 + zmp (zmh (e 5 5 - e 5 4) b) b k)) h0
    have hv : hf2 = if b = 1 then (e 5 5 - e 5 4 + 1) / 2 else (e 5 5 - e 5 4) / 2 := hh
    rw [← hh] at e2 ih ⊢
    rw [zj_86_3]
    rcases hb with rfl | rfl
    · rw [if_neg (by decide)] at hv
      by_cases hq : k % 2 = 0
      · rw [zmp_f (by omega)] at e2
        simp (maxSteps := 10000000) (disch := first | omega | (simp (disch := omega) only [zm_ue, zm_un, zm_ri, zm_ro] <;> omega) | fail) only [zr_iadd, zr_idiv, zr_irem, zr_iconst, zr_aload, zr_iload, zr_istore, zr_iinc, zr_goto, zr_fall, zr_getA, zr_iastore, zr_alen, zr_callV, Nat.reduceAdd, Nat.reduceLeDiff, Int.reduceLT, Int.reduceEq, ne_eq, zcast, not_false_eq_true, zt_14, zf_15, zt_21, zf_23, zKa_s, zKi_s, zO_s, zKr_s, zget_0, zget_s, zst1_0, zst1_1, zst1_s, zk1_i, zpop_0, zpop_s, zA_s, zw_id, zaB_v, zaI_v, zaX_v, List.length_cons, List.length_nil, true_and, and_true, zj_86_5, zj_86_6, zj_86_7, zj_86_8, zj_86_9, zSg_5, zSg_7, zg_5_1, zgua_7, zm_ro, b4, zE83i, hD1, ztdx, ztmx]
        rw [e2]
        exact ih (k + 1) _ (by omega) (by omega)
      · rw [zmp_t (by omega)] at e2
        simp (maxSteps := 10000000) (disch := first | omega | (simp (disch := omega) only [zm_ue, zm_un, zm_ri, zm_ro] <;> omega) | fail) only [zr_idiv, zr_irem, zr_iconst, zr_aload, zr_iload, zr_istore, zr_iinc, zr_goto, zr_fall, zr_getA, zr_iastore, zr_alen, zr_callV, Nat.reduceAdd, Nat.reduceLeDiff, Int.reduceLT, Int.reduceEq, ne_eq, zcast, not_false_eq_true, zf_14, zt_15, zf_21, zf_23, zKa_s, zKi_s, zO_s, zKr_s, zget_0, zget_s, zst1_0, zst1_1, zst1_s, zk1_i, zpop_0, zpop_s, zA_s, zw_id, zaB_v, zaI_v, zaX_v, List.length_cons, List.length_nil, true_and, and_true, zj_86_4, zj_86_5, zj_86_7, zj_86_9, zSg_5, zSg_7, zg_5_1, zgua_7, zm_ro, b4, zE83i, hD1, ztdx, ztmx]
        rw [e2]
        exact ih (k + 1) _ (by omega) (by omega)
    · rw [if_pos rfl] at hv
      by_cases hq : k % 2 = 0
      · rw [zmp_t (by omega)] at e2
        simp (maxSteps := 10000000) (disch := first | omega | (simp (disch := omega) only [zm_ue, zm_un, zm_ri, zm_ro] <;> omega) | fail) only [zr_idiv, zr_irem, zr_iconst, zr_aload, zr_iload, zr_istore, zr_iinc, zr_goto, zr_getA, zr_iastore, zr_alen, zr_callV, Nat.reduceAdd, Nat.reduceLeDiff, Int.reduceLT, Int.reduceEq, ne_eq, zcast, not_false_eq_true, zf_14, zf_15, zf_21, zf_23, zKa_s, zKi_s, zO_s, zKr_s, zget_0, zget_s, zst1_0, zst1_1, zst1_s, zk1_i, zpop_0, zpop_s, zA_s, zw_id, zaB_v, zaI_v, zaX_v, List.length_cons, List.length_nil, true_and, and_true, zj_86_5, zj_86_7, zj_86_9, zSg_5, zSg_7, zg_5_1, zgua_7, zm_ro, b4, zE83i, hD1, ztdx, ztmx]
        rw [e2]
        exact ih (k + 1) _ (by omega) (by omega)
      · rw [zmp_f (by omega)] at e2
        simp (maxSteps := 10000000) (disch := first | omega | (simp (disch := omega) only [zm_ue, zm_un, zm_ri, zm_ro] <;> omega) | fail) only [zr_iadd, zr_idiv, zr_irem, zr_iconst, zr_aload, zr_iload, zr_istore, zr_iinc, zr_goto, zr_fall, zr_getA, zr_iastore, zr_alen, zr_callV, Nat.reduceAdd, Nat.reduceLeDiff, Int.reduceLT, Int.reduceEq, ne_eq, zcast, not_false_eq_true, zt_14, zt_15, zt_21, zf_23, zKa_s, zKi_s, zO_s, zKr_s, zget_0, zget_s, zst1_0, zst1_1, zst1_s, zk1_i, zpop_0, zpop_s, zA_s, zw_id, zaB_v, zaI_v, zaX_v, List.length_cons, List.length_nil, true_and, and_true, zj_86_4, zj_86_5, zj_86_6, zj_86_7, zj_86_8, zj_86_9, zSg_5, zSg_7, zg_5_1, zgua_7, zm_ro, b4, zE83i, hD1, ztdx, ztmx]
        rw [e2]
        exact ih (k + 1) _ (by omega) (by omega)
theorem zE86 {S : zSs} {D n u : Nat} {g : Int → zk_K} {e : zm_D} {Q : ((Option zv_V) ⊕ Nat) → Nat → zk_S → zm_D → Nat → Prop} {b : Int} (hf : 0 ≤ e 5 4 ∧ e 5 4 ≤ e 5 5 ∧ e 5 5 ≤ 104) (hb : b = 0 ∨ b = 1) (hD : 2 < D) : zE S D 86 [zv_a 5, zv_i b] n (zSg g) (zDg e) u Q ↔ Q (.inl none) n (zSg g) (zDg (zm_u (zm_u (zm_row (zm_row e 7 (e 5 5 - e 5 4) (fun k => e 6 (e 5 4 + zmp (zmh (e 5 5 - e 5 4) b) b k))) 6 (e 5 5 - e 5 4) (fun k => (zm_row e 7 (e 5 5 - e 5 4) (fun k => e 6 (e 5 4 + zmp (zmh (e 5 5 - e 5 4) b) b k))) 7 k)) 5 4 0) 5 5 (e 5 5 - e 5 4))) u := by
  have hD1 : 0 < D := by omega
  rcases hb with rfl | rfl
  · have hh : (e 5 5 - e 5 4) / 2 = zmh (e 5 5 - e 5 4) 0 := (if_neg (by decide)).symm
    simp (maxSteps := 10000000) (disch := first | omega | (simp (disch := omega) only [zm_ue, zm_un, zm_ri, zm_ro] <;> omega) | fail) only [zr_idiv, zr_iconst, zr_aload, zr_iload, zr_istore, zr_fall, zr_callV, Nat.reduceAdd, Nat.reduceLeDiff, Int.reduceLT, Int.reduceEq, ne_eq, not_false_eq_true, zt_14, zKa_s, zKi_s, zKr_s, zget_0, zget_s, zst1_0, zst1_1, zst1_s, zk1_i, zpop_0, zA_s, zw_id, zaB_v, List.length_nil, true_and, and_true, zj_86_1, zj_86_2, ze_86, zSg_5, zE82, hD1, ztdx]
    have h := @zL86 S D n u g e Q 0 _ hf (Or.inl rfl) hh hD (e 5 5 - e 5 4).toNat 0 none (by omega) (by omega)
    rw [zm_r0 (by omega)] at h
    exact h
  · have hh : (e 5 5 - e 5 4 + 1) / 2 = zmh (e 5 5 - e 5 4) 1 := (if_pos rfl).symm
    simp (maxSteps := 10000000) (disch := first | omega | (simp (disch := omega) only [zm_ue, zm_un, zm_ri, zm_ro] <;> omega) | fail) only [zr_iadd, zr_idiv, zr_iconst, zr_aload, zr_iload, zr_istore, zr_goto, zr_fall, zr_callV, Nat.reduceAdd, Nat.reduceLeDiff, Int.reduceLT, Int.reduceEq, ne_eq, not_false_eq_true, zf_14, zKa_s, zKi_s, zKr_s, zget_0, zget_s, zst1_0, zst1_1, zst1_s, zk1_i, zpop_0, zA_s, zw_id, zaB_v, List.length_nil, true_and, and_true, zj_86_2, ze_86, zSg_5, zE82, hD1, ztdx]
    have h := @zL86 S D n u g e Q 1 _ hf (Or.inr rfl) hh hD (e 5 5 - e 5 4).toNat 0 none (by omega) (by omega)
    rw [zm_r0 (by omega)] at h
    exact h
