/-! ===== LAW: the law on every script of at most 2560 ints ===== -/
set_option maxRecDepth 65536
theorem zgo_2 {o : Option zRr} {v : (Option zv_V) ⊕ Nat} (h : o.isSome = true) (k : (zgo o).1 = v) : o = some (v, ((zgo o).2.1, ((zgo o).2.2.1, ((zgo o).2.2.2.1, (zgo o).2.2.2.2)))) := by
  cases o with
  | none => cases h
  | some r => subst k; rfl
theorem zq1_r : zq1 = some (.inl none, (60, (zS1, (zD1, zU1)))) := by
  have h := zgo_2 zq1_s zq1_o
  rw [zq1_n] at h
  exact h
theorem zq2_r : zq2 = some (.inl none, (159, (zS2, (zD2, zU2)))) := by
  have h := zgo_2 zq2_s zq2_o
  rw [zq2_n] at h
  exact h
theorem zq1_e {S : zSs} {Q : ((Option zv_V) ⊕ Nat) → Nat → zk_S → zm_D → Nat → Prop} : zE S 1399 117 [zv_a 1] 1 (zk_u zS0a 1 (some (.inl 11))) (zm_z zD0a 1) 11 Q ↔ Q (.inl none) 60 zS1 zD1 zU1 := by
  have h := zq1_r
  unfold zq1 at h
  have g := zE_done (S := S) (Q := Q) (by rw [zn_117]; exact Nat.le_of_ble_eq_true rfl) h
  dsimp only at g
  exact g
theorem zq2_e {S : zSs} {Q : ((Option zv_V) ⊕ Nat) → Nat → zk_S → zm_D → Nat → Prop} : zE S 1399 210 [zv_a 61] 61 (zk_u zS1 61 (some (.inl 12))) (zm_z zD1 61) (zU1 + 50) Q ↔ Q (.inl none) 159 zS2 zD2 zU2 := by
  have h := zq2_r
  unfold zq2 at h
  have g := zE_done (S := S) (Q := Q) (by rw [zn_210]; exact Nat.le_of_ble_eq_true rfl) h
  dsimp only at g
  exact g
theorem zna_1 : znA 1 = .long := rfl
theorem zna_2 : znA 2 = .double := rfl
theorem zlaw_pre {S : zSs} {Q : ((Option zv_V) ⊕ Nat) → Nat → zk_S → zm_D → Nat → Prop} (h : zJ S 1400 382 1 [some (zv_a (-1)), some (zv_a 1), some (zv_a 61), some (zv_a 160), some (zv_a 161), some (zv_i 0), none, none, none] [] 161 zS0 zD0 1545 Q) : zE S 1400 382 [zv_a (-1)] 0 zS0a zD0a 0 Q := by
  have e1 : zk_u (zk_u zS2 160 (some (.inr (.long, 1)))) 161 (some (.inr (.double, 1))) = zS0 := rfl
  have e2 : zm_z (zm_z zD2 160) 161 = zD0 := rfl
  rw [ze_382s]
  simp (maxSteps := 1000000) (disch := omega) only [zr_iadd, zr_isub, zr_imul, zr_idiv, zr_irem, zr_iand, zr_ior, zr_ishl, zr_iushr, zr_ixor, zr_i2l, zr_l2i, zr_ladd, zr_lsub, zr_lmul, zr_ldiv, zr_lrem, zr_lcmp, zr_dadd, zr_dmul, zr_ddiv, zr_i2d, zr_fdiv, zr_fmul, zr_fsub, zr_fneg, zr_i2f, zr_f2i, zr_f2d, zr_i2c, zr_dcmp, zr_fcmp, zr_iconst, zr_lconst, zr_fldc, zr_dldc, zr_fconst, zr_dconst, zr_null, zr_f2bits, zr_objinit, zr_aload, zr_iload, zr_lload, zr_dload, zr_fload, zr_astore, zr_istore, zr_lstore, zr_dstore, zr_fstore, zr_iinc, zr_in26, zr_in27, zr_ia28, zr_ia29, zr_goto, zr_fall, zr_dup_i, zr_dup_a, zr_dup_f, zr_dup2_ii, zr_dup2_ia, zr_dup2_ai, zr_dup2_aa, zr_pop_i, zr_pop_a, zr_pop2_l, zr_pop2_d, zr_getI, zr_getA, zr_putI, zr_putZ, zr_putA, zr_iaload, zr_aaload, zr_laload, zr_daload, zr_caload, zr_zaload, zr_iastore, zr_lastore, zr_dastore, zr_castore, zr_zastore, zr_aastore, zr_alen, zr_sald, zr_slen, zr_vret, zr_iret, zr_zret, zr_aret, zr_lret, zr_dret, zr_fret, zr_throw, zr_throwW, zr_new, zr_newarr, zr_anew, zr_callS, zr_callV, zr_callI, zr_acopy, zr_tsw, Nat.reduceAdd, Nat.reduceSub, Nat.reduceMul, Nat.reduceLeDiff, Nat.reduceLT, Nat.reduceEqDiff, Int.reduceAdd, Int.reduceSub, Int.reduceMul, Int.reduceNeg, Int.reduceLT, Int.reduceLE, Int.reduceEq, Int.reduceNe, ne_eq, Int.reduceToNat, zcast, or_true, true_or, reduceIte, not_true_eq_false, not_false_eq_true, false_and, and_false, zt_14, zf_14, zt_15, zf_15, zt_16, zf_16, zt_17, zf_17, zt_18, zf_18, zt_19, zf_19, zt_20, zf_20, zt_21, zf_21, zt_22, zf_22, zt_23, zf_23, zt_24, zf_24, zt_25, zf_25, zKa_s, zKi_s, zKl_s, zKd_s, zKf_s, zO_s, zKp_s, zKr_s, zget_0, zget_s, zst1_0, zst1_1, zst1_s, zst2_0, zst2_1, zst2_s, zk1_n, zk1_i, zk1_a, zk1_f, zk1_l, zk1_d, zpop_0, zpop_s, zA_s, zA_n, zw_id, zaB_v, zaI_v, zaL_v, zaD_v, zaC_v, zaZ_v, zaR_ov, zaR_av, zaX_v, zclr, List.length_cons, List.length_nil, true_and, and_true, zQf_s, zlcm_lt, zlcm_eq, zlcm_gt, zbo_00, zbo_01, zbo_10, zbo_11, zba_00, zba_01, zba_10, zba_11, zA_x zh_382, zq1_e, zq2_e, zna_1, zna_2, zcn, Nat.zero_add, Int.zero_add, Int.toNat_one, Int.ofNat_eq_natCast, Int.natCast_zero, Int.natCast_one, e1, e2, zU2_v]
  exact h
theorem zba_127 (x : Int) : 0 ≤ zb_and x 127 ∧ zb_and x 127 < 128 := by
  unfold zb_and
  have e : (Int32.ofInt x &&& Int32.ofInt 127).toInt = ((Int32.ofInt x).toBitVec &&& BitVec.ofNat 32 127).toInt := rfl
  have h : ((Int32.ofInt x).toBitVec &&& BitVec.ofNat 32 127).toNat ≤ 127 := by
    rw [BitVec.toNat_and]
    exact Nat.le_trans Nat.and_le_right (by decide)
  rw [e, BitVec.toInt_eq_toNat_of_lt (by omega)]
  omega
theorem zlaw_op {S : zSs} {D n u : Nat} {g : Int → zk_K} {e : zm_D} {Q : ((Option zv_V) ⊕ Nat) → Nat → zk_S → zm_D → Nat → Prop} {t i : Int} {X6 X7 X8 : Option zv_V} (I : zIn t e) (J : zIp t e) (R : zRe e) (ht : t < 600) (hD : 100 < D) (hn : 161 ≤ n) (hs : ∀ i, -2147483648 ≤ S.2 i ∧ S.2 i < 2147483648) (hi : 0 ≤ i ∧ i + 5 ≤ (S.1 : Int)) (hL : S.1 ≤ 2560) (hX : ∀ (n2 u2 : Nat) (g2 : Int → zk_K) (e2 : zm_D) (Y6 Y7 Y8 : Option zv_V), n ≤ n2 → n2 ≤ n + 2 → u ≤ u2 → u2 ≤ u + 12 → zIn (t + 1) e2 → zIp (t + 1) e2 → zRe e2 → zJ S D 382 77 [some (zv_a (-1)), some (zv_a 1), some (zv_a 61), some (zv_a 160), some (zv_a 161), some (zv_i i), Y6, Y7, Y8] [] n2 (zSg g2) (zDg e2) u2 Q) : ∀ k : Nat, zJ S D 382 (((zsw 382)[k]?).getD 77) [some (zv_a (-1)), some (zv_a 1), some (zv_a 61), some (zv_a 160), some (zv_a 161), some (zv_i i), X6, X7, X8] [] n (zSg g) (zDg e) u Q
  | 0 => by rw [show ((zsw 382)[0]?).getD 77 = 2 from by decide +kernel]; exact zo_0 I J R ht hD hn hs hi hL hX
  | 1 => by rw [show ((zsw 382)[1]?).getD 77 = 3 from by decide +kernel]; exact zo_1 I J R ht hD hn hs hi hL hX
  | 2 => by rw [show ((zsw 382)[2]?).getD 77 = 4 from by decide +kernel]; exact zo_2 I J R ht hD hn hs hi hL hX
  | 3 => by rw [show ((zsw 382)[3]?).getD 77 = 5 from by decide +kernel]; exact zo_3 I J R ht hD hn hs hi hL hX
  | 4 => by rw [show ((zsw 382)[4]?).getD 77 = 6 from by decide +kernel]; exact zo_4 I J R ht hD hn hs hi hL hX
  | 5 => by rw [show ((zsw 382)[5]?).getD 77 = 7 from by decide +kernel]; exact zo_5 I J R ht hD hn hs hi hL hX
  | 6 => by rw [show ((zsw 382)[6]?).getD 77 = 8 from by decide +kernel]; exact zo_6 I J R ht hD hn hs hi hL hX
  | 7 => by rw [show ((zsw 382)[7]?).getD 77 = 9 from by decide +kernel]; exact zo_7 I J R ht hD hn hs hi hL hX
  | 8 => by rw [show ((zsw 382)[8]?).getD 77 = 10 from by decide +kernel]; exact zo_8 I J R ht hD hn hs hi hL hX
  | 9 => by rw [show ((zsw 382)[9]?).getD 77 = 11 from by decide +kernel]; exact zo_9 I J R ht hD hn hs hi hL hX
  | 10 => by rw [show ((zsw 382)[10]?).getD 77 = 12 from by decide +kernel]; exact zo_10 I J R ht hD hn hs hi hL hX
  | 11 => by rw [show ((zsw 382)[11]?).getD 77 = 17 from by decide +kernel]; exact zo_11 I J R ht hD hn hs hi hL hX
  | 12 => by rw [show ((zsw 382)[12]?).getD 77 = 18 from by decide +kernel]; exact zo_12 I J R ht hD hn hs hi hL hX
  | 13 => by rw [show ((zsw 382)[13]?).getD 77 = 19 from by decide +kernel]; exact zo_13 I J R ht hD hn hs hi hL hX
  | 14 => by rw [show ((zsw 382)[14]?).getD 77 = 24 from by decide +kernel]; exact zo_14 I J R ht hD hn hs hi hL hX
  | 15 => by rw [show ((zsw 382)[15]?).getD 77 = 25 from by decide +kernel]; exact zo_15 I J R ht hD hn hs hi hL hX
  | 16 => by rw [show ((zsw 382)[16]?).getD 77 = 26 from by decide +kernel]; exact zo_16 I J R ht hD hn hs hi hL hX
  | 17 => by rw [show ((zsw 382)[17]?).getD 77 = 27 from by decide +kernel]; exact zo_17 I J R ht hD hn hs hi hL hX
  | 18 => by rw [show ((zsw 382)[18]?).getD 77 = 28 from by decide +kernel]; exact zo_18 I J R ht hD hn hs hi hL hX
  | 19 => by rw [show ((zsw 382)[19]?).getD 77 = 29 from by decide +kernel]; exact zo_19 I J R ht hD hn hs hi hL hX
  | 20 => by rw [show ((zsw 382)[20]?).getD 77 = 30 from by decide +kernel]; exact zo_20 I J R ht hD hn hs hi hL hX
  | 21 => by rw [show ((zsw 382)[21]?).getD 77 = 31 from by decide +kernel]; exact zo_21 I J R ht hD hn hs hi hL hX
  | 22 => by rw [show ((zsw 382)[22]?).getD 77 = 32 from by decide +kernel]; exact zo_22 I J R ht hD hn hs hi hL hX
  | 23 => by rw [show ((zsw 382)[23]?).getD 77 = 33 from by decide +kernel]; exact zo_23 I J R ht hD hn hs hi hL hX
  | 24 => by rw [show ((zsw 382)[24]?).getD 77 = 34 from by decide +kernel]; exact zo_24 I J R ht hD hn hs hi hL hX
  | 25 => by rw [show ((zsw 382)[25]?).getD 77 = 35 from by decide +kernel]; exact zo_25 I J R ht hD hn hs hi hL hX
  | 26 => by rw [show ((zsw 382)[26]?).getD 77 = 36 from by decide +kernel]; exact zo_26 I J R ht hD hn hs hi hL hX
  | 27 => by rw [show ((zsw 382)[27]?).getD 77 = 37 from by decide +kernel]; exact zo_27 I J R ht hD hn hs hi hL hX
  | 28 => by rw [show ((zsw 382)[28]?).getD 77 = 38 from by decide +kernel]; exact zo_28 I J R ht hD hn hs hi hL hX
  | 29 => by rw [show ((zsw 382)[29]?).getD 77 = 39 from by decide +kernel]; exact zo_29 I J R ht hD hn hs hi hL hX
  | 30 => by rw [show ((zsw 382)[30]?).getD 77 = 40 from by decide +kernel]; exact zo_30 I J R ht hD hn hs hi hL hX
  | 31 => by rw [show ((zsw 382)[31]?).getD 77 = 41 from by decide +kernel]; exact zo_31 I J R ht hD hn hs hi hL hX
  | 32 => by rw [show ((zsw 382)[32]?).getD 77 = 42 from by decide +kernel]; exact zo_32 I J R ht hD hn hs hi hL hX
  | 33 => by rw [show ((zsw 382)[33]?).getD 77 = 43 from by decide +kernel]; exact zo_33 I J R ht hD hn hs hi hL hX
  | 34 => by rw [show ((zsw 382)[34]?).getD 77 = 44 from by decide +kernel]; exact zo_34 I J R ht hD hn hs hi hL hX
  | 35 => by rw [show ((zsw 382)[35]?).getD 77 = 45 from by decide +kernel]; exact zo_35 I J R ht hD hn hs hi hL hX
  | 36 => by rw [show ((zsw 382)[36]?).getD 77 = 46 from by decide +kernel]; exact zo_36 I J R ht hD hn hs hi hL hX
  | 37 => by rw [show ((zsw 382)[37]?).getD 77 = 47 from by decide +kernel]; exact zo_37 I J R ht hD hn hs hi hL hX
  | 38 => by rw [show ((zsw 382)[38]?).getD 77 = 48 from by decide +kernel]; exact zo_38 I J R ht hD hn hs hi hL hX
  | 39 => by rw [show ((zsw 382)[39]?).getD 77 = 49 from by decide +kernel]; exact zo_39 I J R ht hD hn hs hi hL hX
  | 40 => by rw [show ((zsw 382)[40]?).getD 77 = 50 from by decide +kernel]; exact zo_40 I J R ht hD hn hs hi hL hX
  | 41 => by rw [show ((zsw 382)[41]?).getD 77 = 51 from by decide +kernel]; exact zo_41 I J R ht hD hn hs hi hL hX
  | 42 => by rw [show ((zsw 382)[42]?).getD 77 = 52 from by decide +kernel]; exact zo_42 I J R ht hD hn hs hi hL hX
  | 43 => by rw [show ((zsw 382)[43]?).getD 77 = 53 from by decide +kernel]; exact zo_43 I J R ht hD hn hs hi hL hX
  | 44 => by rw [show ((zsw 382)[44]?).getD 77 = 54 from by decide +kernel]; exact zo_44 I J R ht hD hn hs hi hL hX
  | 45 => by rw [show ((zsw 382)[45]?).getD 77 = 55 from by decide +kernel]; exact zo_45 I J R ht hD hn hs hi hL hX
  | 46 => by rw [show ((zsw 382)[46]?).getD 77 = 56 from by decide +kernel]; exact zo_46 I J R ht hD hn hs hi hL hX
  | 47 => by rw [show ((zsw 382)[47]?).getD 77 = 57 from by decide +kernel]; exact zo_47 I J R ht hD hn hs hi hL hX
  | 48 => by rw [show ((zsw 382)[48]?).getD 77 = 58 from by decide +kernel]; exact zo_48 I J R ht hD hn hs hi hL hX
  | 49 => by rw [show ((zsw 382)[49]?).getD 77 = 59 from by decide +kernel]; exact zo_49 I J R ht hD hn hs hi hL hX
  | 50 => by rw [show ((zsw 382)[50]?).getD 77 = 60 from by decide +kernel]; exact zo_50 I J R ht hD hn hs hi hL hX
  | 51 => by rw [show ((zsw 382)[51]?).getD 77 = 61 from by decide +kernel]; exact zo_51 I J R ht hD hn hs hi hL hX
  | 52 => by rw [show ((zsw 382)[52]?).getD 77 = 62 from by decide +kernel]; exact zo_52 I J R ht hD hn hs hi hL hX
  | 53 => by rw [show ((zsw 382)[53]?).getD 77 = 63 from by decide +kernel]; exact zo_53 I J R ht hD hn hs hi hL hX
  | 54 => by rw [show ((zsw 382)[54]?).getD 77 = 64 from by decide +kernel]; exact zo_54 I J R ht hD hn hs hi hL hX
  | 55 => by rw [show ((zsw 382)[55]?).getD 77 = 65 from by decide +kernel]; exact zo_55 I J R ht hD hn hs hi hL hX
  | 56 => by rw [show ((zsw 382)[56]?).getD 77 = 66 from by decide +kernel]; exact zo_56 I J R ht hD hn hs hi hL hX
  | 57 => by rw [show ((zsw 382)[57]?).getD 77 = 67 from by decide +kernel]; exact zo_57 I J R ht hD hn hs hi hL hX
  | 58 => by rw [show ((zsw 382)[58]?).getD 77 = 68 from by decide +kernel]; exact zo_58 I J R ht hD hn hs hi hL hX
  | 59 => by rw [show ((zsw 382)[59]?).getD 77 = 69 from by decide +kernel]; exact zo_59 I J R ht hD hn hs hi hL hX
  | 60 => by rw [show ((zsw 382)[60]?).getD 77 = 72 from by decide +kernel]; exact zo_60 I J R ht hD hn hs hi hL hX
  | 61 => by rw [show ((zsw 382)[61]?).getD 77 = 73 from by decide +kernel]; exact zo_61 I J R ht hD hn hs hi hL hX
  | 62 => by rw [show ((zsw 382)[62]?).getD 77 = 74 from by decide +kernel]; exact zo_62 I J R ht hD hn hs hi hL hX
  | 63 => by rw [show ((zsw 382)[63]?).getD 77 = 75 from by decide +kernel]; exact zo_63 I J R ht hD hn hs hi hL hX
  | 64 => by rw [show ((zsw 382)[64]?).getD 77 = 76 from by decide +kernel]; exact zo_64 I J R ht hD hn hs hi hL hX
  | n + 65 => by
    rw [show ((zsw 382)[n + 65]?).getD 77 = 77 from by rw [List.getElem?_eq_none (by rw [show (zsw 382).length = 65 from by decide +kernel]; omega)]; rfl]
    exact hX _ _ _ _ _ _ _ (by omega) (by omega) (by omega) (by omega) (zIn_e I ht (fun r j _ _ => rfl)) (zIp_e J (fun r j _ _ => rfl)) (zRe_e R (zIn_w I) (fun r j _ _ _ => rfl))
theorem zlaw_loop {S : zSs} {Q : ((Option zv_V) ⊕ Nat) → Nat → zk_S → zm_D → Nat → Prop} {D : Nat} (hD : 100 < D) (hs : ∀ i, -2147483648 ≤ S.2 i ∧ S.2 i < 2147483648) (hL : S.1 ≤ 2560) (hQ : ∀ (n : Nat) (sh : zk_S) (d : zm_D) (u : Nat), n ≤ 2000 → u ≤ 20000 → Q (.inl (some (zv_i 1))) n sh d u) : ∀ (m : Nat) (t : Nat) (i : Int) (n u : Nat) (g : Int → zk_K) (e : zm_D) (X6 X7 X8 : Option zv_V), i = 5 * (t : Int) → (S.1 : Int) ≤ i + 5 * (m : Int) + 4 → i ≤ 2560 → zIn t e → zIp t e → zRe e → 161 ≤ n → n ≤ 161 + 2 * t → u ≤ 1545 + 12 * t → zJ S D 382 1 [some (zv_a (-1)), some (zv_a 1), some (zv_a 61), some (zv_a 160), some (zv_a 161), some (zv_i i), X6, X7, X8] [] n (zSg g) (zDg e) u Q := by
  have ext : ∀ (t : Nat) (i : Int) (n u : Nat) (g : Int → zk_K) (e : zm_D) (X6 X7 X8 : Option zv_V), i = 5 * (t : Int) → (S.1 : Int) < i + 5 → i ≤ 2560 → n ≤ 161 + 2 * t → u ≤ 1545 + 12 * t → zJ S D 382 1 [some (zv_a (-1)), some (zv_a 1), some (zv_a 61), some (zv_a 160), some (zv_a 161), some (zv_i i), X6, X7, X8] [] n (zSg g) (zDg e) u Q := by
    intro t i n u g e X6 X7 X8 h1 h2 h3 h4 h5
    have q := hQ n (zSg g) (zDg e) u (by omega) (by omega)
    rw [zj_382_1]
    simp (maxSteps := 10000000) (disch := first | omega | fail) only [zr_iadd, zr_isub, zr_iand, zr_lcmp, zr_i2c, zr_iconst, zr_aload, zr_iload, zr_lload, zr_astore, zr_istore, zr_lstore, zr_dstore, zr_fstore, zr_iinc, zr_goto, zr_fall, zr_dup_i, zr_dup_a, zr_dup_f, zr_pop_i, zr_pop_a, zr_pop2_l, zr_pop2_d, zr_laload, zr_sald, zr_slen, zr_zret, zr_new, zr_newarr, zr_callS, zr_callV, zr_callI, zr_tsw, Nat.reduceAdd, Nat.reduceSub, Nat.reduceMul, Nat.reduceLeDiff, Nat.reduceLT, Nat.reduceEqDiff, Int.reduceAdd, Int.reduceSub, Int.reduceMul, Int.reduceNeg, Int.reduceLT, Int.reduceLE, Int.reduceEq, Int.reduceNe, ne_eq, Int.reduceToNat, zcast, or_true, true_or, reduceIte, not_true_eq_false, not_false_eq_true, false_and, and_false, zt_14, zf_14, zt_15, zf_15, zt_20, zf_20, zt_24, zf_24, zKa_s, zKi_s, zKl_s, zKd_s, zKf_s, zO_s, zKp_s, zKr_s, zget_0, zget_s, zst1_0, zst1_1, zst1_s, zst2_0, zst2_1, zst2_s, zk1_n, zk1_i, zk1_a, zk1_f, zk1_l, zk1_d, zpop_0, zpop_s, zA_s, zA_n, zw_id, zm_ue, zm_un, zk_ue, zk_un, zm_ze, zm_zn, zaB_v, zaI_v, zaL_v, zaD_v, zaC_v, zaZ_v, zaR_ov, zaR_av, zaX_v, zclr, List.length_cons, List.length_nil, true_and, and_true, zQf_s, zlcm_lt, zlcm_eq, zlcm_gt, zbo_00, zbo_01, zbo_10, zbo_11, zba_00, zba_01, zba_10, zba_11, zj_382_0, zj_382_2, zj_382_3, zj_382_4, zj_382_5, zj_382_6, zj_382_7, zj_382_8, zj_382_9, zj_382_10, zj_382_11, zj_382_12, zj_382_13, zj_382_14, zj_382_15, zj_382_16, zj_382_17, zj_382_18, zj_382_19, zj_382_20, zj_382_21, zj_382_22, zj_382_23, zj_382_24, zj_382_25, zj_382_26, zj_382_27, zj_382_28, zj_382_29, zj_382_30, zj_382_31, zj_382_32, zj_382_33, zj_382_34, zj_382_35, zj_382_36, zj_382_37, zj_382_38, zj_382_39, zj_382_40, zj_382_41, zj_382_42, zj_382_43, zj_382_44, zj_382_45, zj_382_46, zj_382_47, zj_382_48, zj_382_49, zj_382_50, zj_382_51, zj_382_52, zj_382_53, zj_382_54, zj_382_55, zj_382_56, zj_382_57, zj_382_58, zj_382_59, zj_382_60, zj_382_61, zj_382_62, zj_382_63, zj_382_64, zj_382_65, zj_382_66, zj_382_67, zj_382_68, zj_382_69, zj_382_70, zj_382_71, zj_382_72, zj_382_73, zj_382_74, zj_382_75, zj_382_76, zj_382_77, zj_382_78, ze_382, ze_382s, zA_x zh_382, zSg_160, zga_160, zSg_1, zSg_61, zSg_161]
    exact q
  intro m
  induction m with
  | zero =>
    intro t i n u g e X6 X7 X8 h1 h2 h3 I J R hn h4 h5
    exact ext t i n u g e X6 X7 X8 h1 (by omega) h3 h4 h5
  | succ m ih =>
    intro t i n u g e X6 X7 X8 h1 h2 h3 I J R hn h4 h5
    by_cases p : (S.1 : Int) < i + 5
    · exact ext t i n u g e X6 X7 X8 h1 p h3 h4 h5
    · have hb := zba_127 (S.2 i.toNat)
      have b0 : 0 ≤ i ∧ i < (S.1 : Int) := by omega
      have nx : ∀ (n2 u2 : Nat) (g2 : Int → zk_K) (e2 : zm_D) (Y6 Y7 Y8 : Option zv_V), n ≤ n2 → n2 ≤ n + 2 → u ≤ u2 → u2 ≤ u + 12 → zIn ((t : Int) + 1) e2 → zIp ((t : Int) + 1) e2 → zRe e2 → zJ S D 382 77 [some (zv_a (-1)), some (zv_a 1), some (zv_a 61), some (zv_a 160), some (zv_a 161), some (zv_i i), Y6, Y7, Y8] [] n2 (zSg g2) (zDg e2) u2 Q := by
        intro n2 u2 g2 e2 Y6 Y7 Y8 k1 k2 k3 k4 I2 J2 R2
        have z := ih (t + 1) (i + 5) n2 u2 g2 e2 Y6 Y7 Y8 (by omega) (by omega) (by omega) (by rw [show ((t + 1 : Nat) : Int) = (t : Int) + 1 by omega]; exact I2) (by rw [show ((t + 1 : Nat) : Int) = (t : Int) + 1 by omega]; exact J2) R2 (by omega) (by omega) (by omega)
        rw [zj_382_77]
        simp (maxSteps := 10000000) (disch := first | omega | fail) only [zr_iadd, zr_isub, zr_iand, zr_lcmp, zr_i2c, zr_iconst, zr_aload, zr_iload, zr_lload, zr_astore, zr_istore, zr_lstore, zr_dstore, zr_fstore, zr_iinc, zr_goto, zr_fall, zr_dup_i, zr_dup_a, zr_dup_f, zr_pop_i, zr_pop_a, zr_pop2_l, zr_pop2_d, zr_laload, zr_sald, zr_slen, zr_zret, zr_new, zr_newarr, zr_callS, zr_callV, zr_callI, zr_tsw, Nat.reduceAdd, Nat.reduceSub, Nat.reduceMul, Nat.reduceLeDiff, Nat.reduceLT, Nat.reduceEqDiff, Int.reduceAdd, Int.reduceSub, Int.reduceMul, Int.reduceNeg, Int.reduceLT, Int.reduceLE, Int.reduceEq, Int.reduceNe, ne_eq, Int.reduceToNat, zcast, or_true, true_or, reduceIte, not_true_eq_false, not_false_eq_true, false_and, and_false, zt_14, zf_14, zt_15, zf_15, zt_20, zf_20, zt_24, zf_24, zKa_s, zKi_s, zKl_s, zKd_s, zKf_s, zO_s, zKp_s, zKr_s, zget_0, zget_s, zst1_0, zst1_1, zst1_s, zst2_0, zst2_1, zst2_s, zk1_n, zk1_i, zk1_a, zk1_f, zk1_l, zk1_d, zpop_0, zpop_s, zA_s, zA_n, zw_id, zm_ue, zm_un, zk_ue, zk_un, zm_ze, zm_zn, zaB_v, zaI_v, zaL_v, zaD_v, zaC_v, zaZ_v, zaR_ov, zaR_av, zaX_v, zclr, List.length_cons, List.length_nil, true_and, and_true, zQf_s, zlcm_lt, zlcm_eq, zlcm_gt, zbo_00, zbo_01, zbo_10, zbo_11, zba_00, zba_01, zba_10, zba_11, zj_382_0, zj_382_2, zj_382_3, zj_382_4, zj_382_5, zj_382_6, zj_382_7, zj_382_8, zj_382_9, zj_382_10, zj_382_11, zj_382_12, zj_382_13, zj_382_14, zj_382_15, zj_382_16, zj_382_17, zj_382_18, zj_382_19, zj_382_20, zj_382_21, zj_382_22, zj_382_23, zj_382_24, zj_382_25, zj_382_26, zj_382_27, zj_382_28, zj_382_29, zj_382_30, zj_382_31, zj_382_32, zj_382_33, zj_382_34, zj_382_35, zj_382_36, zj_382_37, zj_382_38, zj_382_39, zj_382_40, zj_382_41, zj_382_42, zj_382_43, zj_382_44, zj_382_45, zj_382_46, zj_382_47, zj_382_48, zj_382_49, zj_382_50, zj_382_51, zj_382_52, zj_382_53, zj_382_54, zj_382_55, zj_382_56, zj_382_57, zj_382_58, zj_382_59, zj_382_60, zj_382_61, zj_382_62, zj_382_63, zj_382_64, zj_382_65, zj_382_66, zj_382_67, zj_382_68, zj_382_69, zj_382_70, zj_382_71, zj_382_72, zj_382_73, zj_382_74, zj_382_75, zj_382_76, zj_382_77, zj_382_78, ze_382, ze_382s, zA_x zh_382, zSg_160, zga_160, zSg_1, zSg_61, zSg_161]
        exact z
      have key : zJ S D 382 (if 0 ≤ zb_and (S.2 i.toNat) 127 then ((zsw 382)[(zb_and (S.2 i.toNat) 127).toNat]?).getD 77 else 77) [some (zv_a (-1)), some (zv_a 1), some (zv_a 61), some (zv_a 160), some (zv_a 161), some (zv_i i), X6, X7, X8] [] n (zSg g) (zDg e) u Q := by
        rw [if_pos hb.1]
        exact zlaw_op I J R (by omega) hD hn hs (by omega) hL nx _
      clear ih ext nx
      rw [zj_382_1]
      simp (maxSteps := 10000000) (disch := first | omega | fail) only [zr_iadd, zr_isub, zr_iand, zr_lcmp, zr_i2c, zr_iconst, zr_aload, zr_iload, zr_lload, zr_astore, zr_istore, zr_lstore, zr_dstore, zr_fstore, zr_iinc, zr_goto, zr_fall, zr_dup_i, zr_dup_a, zr_dup_f, zr_pop_i, zr_pop_a, zr_pop2_l, zr_pop2_d, zr_laload, zr_sald, zr_slen, zr_zret, zr_new, zr_newarr, zr_callS, zr_callV, zr_callI, zr_tsw, Nat.reduceAdd, Nat.reduceSub, Nat.reduceMul, Nat.reduceLeDiff, Nat.reduceLT, Nat.reduceEqDiff, Int.reduceAdd, Int.reduceSub, Int.reduceMul, Int.reduceNeg, Int.reduceLT, Int.reduceLE, Int.reduceEq, Int.reduceNe, ne_eq, Int.reduceToNat, zcast, or_true, true_or, not_true_eq_false, not_false_eq_true, false_and, and_false, zt_14, zf_14, zt_15, zf_15, zt_20, zf_20, zt_24, zf_24, zKa_s, zKi_s, zKl_s, zKd_s, zKf_s, zO_s, zKp_s, zKr_s, zget_0, zget_s, zst1_0, zst1_1, zst1_s, zst2_0, zst2_1, zst2_s, zk1_n, zk1_i, zk1_a, zk1_f, zk1_l, zk1_d, zpop_0, zpop_s, zA_s, zA_n, zw_id, zm_ue, zm_un, zk_ue, zk_un, zm_ze, zm_zn, zaB_v, zaI_v, zaL_v, zaD_v, zaC_v, zaZ_v, zaR_ov, zaR_av, zaX_v, zclr, List.length_cons, List.length_nil, true_and, and_true, zQf_s, zlcm_lt, zlcm_eq, zlcm_gt, zbo_00, zbo_01, zbo_10, zbo_11, zba_00, zba_01, zba_10, zba_11, zj_382_0, zj_382_78, ze_382, ze_382s, zA_x zh_382, zSg_160, zga_160, zSg_1, zSg_61, zSg_161, b0]
      exact key
theorem zlaw_all0 (L : Nat) (xs : Nat → Int32) (hL : L ≤ 2560) : ∃ D sh, D ≤ 1400 ∧ (∀ r : Int, 1 ≤ r → sh r = none) ∧ zE (L, fun i => (xs i).toInt) D 382 [zv_a (-1)] 0 sh (fun _ _ => 0) 0 (fun o n _ _ u => o = .inl (some (zv_i 1)) ∧ (n ≤ 625340 ∧ u ≤ 7140213)) := by
  refine ⟨1400, zS0a, Nat.le_refl _, fun _ _ => rfl, ?_⟩
  refine zlaw_pre ?_
  have I := zF_In
  have J := zF_Ip
  have go := zlaw_loop (S := (L, fun i => (xs i).toInt)) (Q := fun o n _ _ u => o = .inl (some (zv_i 1)) ∧ (n ≤ 625340 ∧ u ≤ 7140213)) (D := 1400) (by decide) (fun i => ⟨Int32.le_toInt _, Int32.toInt_lt _⟩) hL (fun n sh d u h1 h2 => ⟨rfl, by omega, by omega⟩) 512 0 0 161 1545 zS0 zD0 none none none (by decide) (by show (L : Int) ≤ 0 + 5 * ((512 : Nat) : Int) + 4; omega) (by decide) I J zF_Re (by decide) (by decide) (by decide)
  rw [zSg_0, zDg_D0] at go
  exact go
