/-! ===== OVER: the end of a round ===== -/
set_option maxRecDepth 65536
def zhw (e : zm_D) : zm_D := zm_u (zm_u e 8 (e 5 7) (e 8 (e 5 7) + 1)) 5 7 0
theorem zhw_o {e : zm_D} {a k : Int} (h5 : a ≠ 5 ∨ k ≠ 7) (h8 : a ≠ 8) : zhw e a k = e a k := (zm_un h5).trans (zm_un (Or.inl h8))
theorem zdra_o : ∀ (f : Nat) {e : zm_D} {a k : Int}, a ≠ 5 → a ≠ 8 → a ≠ 36 → a ≠ 37 → zdra f e a k = e a k := by
  intro f
  induction f with
  | zero => intros; rfl
  | succ f ih =>
    intro e a k h1 h2 h3 h4
    by_cases h : zdc e = 1 ∧ e 5 4 < e 5 5
    · rw [zdra_t h, ih h1 h2 h3 h4, zad_o h3 h4, ztk_o h1 h2]
    · rw [zdra_f h]
theorem zdra_c : ∀ (f : Nat) {e : zm_D}, zDC e → zDC (zdra f e) := by
  intro f
  induction f with
  | zero => intro e h; exact h
  | succ f ih =>
    intro e h
    by_cases q : zdc e = 1 ∧ e 5 4 < e 5 5
    · rw [zdra_t q]
      exact ih (zDC_s h q.2 (zdc_1 q.1))
    · rw [zdra_f q]
      exact h
theorem zdd_o {e : zm_D} {a k : Int} (h1 : a ≠ 5) (h2 : a ≠ 8) (h3 : a ≠ 36) (h4 : a ≠ 37) : zdd e a k = e a k := by
  unfold zdd
  split
  · exact zdra_o 18 h1 h2 h3 h4
  · rfl
theorem zdd_c {e : zm_D} (h : zDC e) : zDC (zdd e) := by
  unfold zdd
  split
  · exact zdra_c 18 h
  · exact h
theorem zhw_c {e : zm_D} (h : zDC e) : zDC (zhw e) := by
  obtain ⟨h1, h2, h3, h4, h5, h6⟩ := h
  unfold zDC
  rw [zhw_o (Or.inr (by decide)) (by decide), zhw_o (Or.inr (by decide)) (by decide), zhw_o (Or.inl (by decide)) (by decide), zhw_o (Or.inl (by decide)) (by decide), zhw_o (Or.inl (by decide)) (by decide), zhw_o (Or.inl (by decide)) (by decide)]
  refine ⟨h1, fun i q1 q2 => ?_, h3, h4, h5, h6⟩
  rw [zhw_o (Or.inl (by decide)) (by decide)]
  exact h2 i q1 q2
theorem zFI_w {e : zm_D} {B : Int} (HF : zFI B e) (hc : zDC e) : zFI B (zdd (zhw e)) := by
  obtain ⟨⟨⟨a1, a2, a3, a4, a5, a6⟩, ⟨b1, b2, b3, b4, b5, b6⟩, ⟨c1, c2, c3, c4, c5, c6⟩, ⟨d1, d2, d3, d4, d5, d6⟩, ⟨i1, i2, i3, i4, i5, i6⟩, ⟨j1, j2, j3, j4, j5, j6⟩⟩, ⟨dd1, dd2, dd3⟩, h8, ht, ⟨s0, s1, s2⟩, ⟨g0, g1, g2⟩⟩ := HF
  obtain ⟨-, -, w3, w4, w5, -⟩ := zdd_c (zhw_c hc)
  have G : ∀ a j : Int, a ≠ 5 ∧ a ≠ 8 ∧ a ≠ 36 ∧ a ≠ 37 → zdd (zhw e) a j = e a j := fun a j q => (zdd_o q.1 q.2.1 q.2.2.1 q.2.2.2).trans (zhw_o (Or.inl q.1) q.2.1)
  unfold zFI zHO zHo
  rw [G 39 1 (by decide), G 39 2 (by decide), G 39 3 (by decide), G 39 4 (by decide), G 39 5 (by decide), G 39 6 (by decide), G 41 1 (by decide), G 41 2 (by decide), G 41 3 (by decide), G 41 4 (by decide), G 41 5 (by decide), G 41 6 (by decide), G 44 1 (by decide), G 44 2 (by decide), G 44 3 (by decide), G 44 4 (by decide), G 44 5 (by decide), G 44 6 (by decide), G 46 1 (by decide), G 46 2 (by decide), G 46 3 (by decide), G 46 4 (by decide), G 46 5 (by decide), G 46 6 (by decide), G 49 1 (by decide), G 49 2 (by decide), G 49 3 (by decide), G 49 4 (by decide), G 49 5 (by decide), G 49 6 (by decide), G 51 1 (by decide), G 51 2 (by decide), G 51 3 (by decide), G 51 4 (by decide), G 51 5 (by decide), G 51 6 (by decide), G 34 8 (by decide), G 31 1 (by decide), G 38 3 (by decide), G 43 3 (by decide), G 48 3 (by decide), G 38 2 (by decide), G 43 2 (by decide), G 48 2 (by decide)]
  exact ⟨⟨⟨a1, a2, a3, a4, a5, a6⟩, ⟨b1, b2, b3, b4, b5, b6⟩, ⟨c1, c2, c3, c4, c5, c6⟩, ⟨d1, d2, d3, d4, d5, d6⟩, ⟨i1, i2, i3, i4, i5, i6⟩, ⟨j1, j2, j3, j4, j5, j6⟩⟩, ⟨⟨w3.1, by omega⟩, ⟨w4.1, by omega⟩, w5⟩, h8, ht, ⟨s0, s1, s2⟩, ⟨g0, g1, g2⟩⟩
/-- the memory behind a round -/
def zfnd (e : zm_D) : zm_D := zm_u (zfs (zfs (zfs (zdd (zhw e)) 38 39 41) 43 44 46) 48 49 51) 34 4 0
theorem zE11_0 {S : zSs} {D n u : Nat} {g : Int → zk_K} {e : zm_D} {Q : ((Option zv_V) ⊕ Nat) → Nat → zk_S → zm_D → Nat → Prop} (h0 : e 34 4 = 0) : zE S D 11 [zv_a 34] n (zSg g) (zDg e) u Q ↔ Q (.inl none) n (zSg g) (zDg e) u := by
  simp (maxSteps := 10000000) (disch := first | omega | (simp (disch := omega) only [zm_ue, zm_un, zm_ri, zm_ro] <;> omega) | fail) only [zr_aload, zr_getI, zr_vret, Int.reduceLT, zt_14, zKa_s, zget_0, zaB_v, true_and, and_true, zj_11_1, ze_11, zSg_34, zg_34_4, zSg_34]
theorem zE11_t {S : zSs} {D n u : Nat} {g : Int → zk_K} {e : zm_D} {Q : ((Option zv_V) ⊕ Nat) → Nat → zk_S → zm_D → Nat → Prop} (h0 : e 34 4 = 1) (HO : zHO e) (hs : 0 ≤ zst e ∧ zst e ≤ 2) (hD : 1 < D) : zE S D 11 [zv_a 34] n (zSg g) (zDg e) u Q ↔ Q (.inl none) n (zSg g) (zDg e) u := by
  have hD1 : 0 < D := by omega
  have r1 := fun {S n u g Q} => @zE6 S (D - 1) n u g e Q HO (by omega)
  simp (maxSteps := 10000000) (disch := first | omega | (simp (disch := omega) only [zm_ue, zm_un, zm_ri, zm_ro] <;> omega) | fail) only [zr_aload, zr_fall, zr_getI, zr_vret, zr_callV, Nat.reduceLeDiff, Int.reduceLT, zf_14, zf_16, zKa_s, zKr_s, zget_0, zpop_0, zA_s, zaB_v, List.length_nil, true_and, and_true, zj_11_1, ze_11, zSg_34, zg_34_4, zSg_34, r1, hD1]
theorem zE11_f {S : zSs} {D n u : Nat} {g : Int → zk_K} {e : zm_D} {Q : ((Option zv_V) ⊕ Nat) → Nat → zk_S → zm_D → Nat → Prop} {B : Int} (hB : B ≤ 100000000) (h0 : e 34 4 = 1) (HF : zFI B e) (hc : zDC e) (hh : 1 ≤ e 5 7 ∧ e 5 7 ≤ 10) (hs : zst e = -1) (hD : 5 < D) : zE S D 11 [zv_a 34] n (zSg g) (zDg e) u Q ↔ Q (.inl none) n (zSg g) (zDg (zfnd e)) u := by
  have hD1 : 0 < D := by omega
  have HO := HF.1
  have r0 := fun {S n u g Q} => @zE6 S (D - 1) n u g e Q HO (by omega)
  rw [hs] at r0
  have r1 : ∀ {S : zSs} {n u : Nat} {g : Int → zk_K} {P : ((Option zv_V) ⊕ Nat) → Nat → zk_S → zm_D → Nat → Prop}, zE S (D - 1) 92 [zv_a 5] n (zSg g) (zDg e) u P ↔ P (.inl none) n (zSg g) (zDg (zhw e)) u := fun {S n u g P} => zE92 hh (by omega)
  have W0 : zHO (zhw e) := by
    have G : ∀ a j : Int, a ≠ 5 ∧ a ≠ 8 → zhw e a j = e a j := fun a j q => zhw_o (Or.inl q.1) q.2
    unfold zHO zHo at HO ⊢
    rw [G 39 1 (by decide), G 39 2 (by decide), G 39 3 (by decide), G 39 4 (by decide), G 39 5 (by decide), G 39 6 (by decide), G 41 1 (by decide), G 41 2 (by decide), G 41 3 (by decide), G 41 4 (by decide), G 41 5 (by decide), G 41 6 (by decide), G 44 1 (by decide), G 44 2 (by decide), G 44 3 (by decide), G 44 4 (by decide), G 44 5 (by decide), G 44 6 (by decide), G 46 1 (by decide), G 46 2 (by decide), G 46 3 (by decide), G 46 4 (by decide), G 46 5 (by decide), G 46 6 (by decide), G 49 1 (by decide), G 49 2 (by decide), G 49 3 (by decide), G 49 4 (by decide), G 49 5 (by decide), G 49 6 (by decide), G 51 1 (by decide), G 51 2 (by decide), G 51 3 (by decide), G 51 4 (by decide), G 51 5 (by decide), G 51 6 (by decide)]
    exact HO
  have S3 := HF.2.2.2.2.1
  have r2 := fun {S n u g Q} => @zE12 S (D - 1) n u g (zhw e) Q W0 (zhw_c hc) (by rw [zhw_o (Or.inl (by decide)) (by decide)]; exact S3.1) (by rw [zhw_o (Or.inl (by decide)) (by decide)]; exact S3.2.1) (by rw [zhw_o (Or.inl (by decide)) (by decide)]; exact S3.2.2) (by omega)
  have F2 := zFI_w HF hc
  have F3 := zFI_38 F2
  have F4 := zFI_43 F3
  have k0 := fun {S n u g} => @zES_38 S (D - 1) n u g (zdd (zhw e)) _ (by omega) F2 (by omega)
  have k1 := fun {S n u g} => @zES_43 S (D - 1) n u g (zfs (zdd (zhw e)) 38 39 41) _ (by omega) F3 (by omega)
  have k2 := fun {S n u g} => @zES_48 S (D - 1) n u g (zfs (zfs (zdd (zhw e)) 38 39 41) 43 44 46) _ (by omega) F4 (by omega)
  have a0 := fun {S n u g} => (@k0 S n u g).1
  have b0 := fun {S n u g} => (@k0 S n u g).2
  have a1 := fun {S n u g} => (@k1 S n u g).1
  have b1 := fun {S n u g} => (@k1 S n u g).2
  have a2 := fun {S n u g} => (@k2 S n u g).1
  have b2 := fun {S n u g} => (@k2 S n u g).2
  have c0 : ∀ {S : zSs} {n u : Nat} {g : Int → zk_K} {P : ((Option zv_V) ⊕ Nat) → Nat → zk_S → zm_D → Nat → Prop}, zE S (D - 1) 78 [zv_a 38] n (zSg g) (zDg (zstl (zstl (zdd (zhw e)) 38 39 39) 38 39 41)) u P ↔ P (.inl none) n (zSg g) (zDg (zfs (zdd (zhw e)) 38 39 41)) u := fun {S n u g P} => zE78 zSe_38
  have c1 : ∀ {S : zSs} {n u : Nat} {g : Int → zk_K} {P : ((Option zv_V) ⊕ Nat) → Nat → zk_S → zm_D → Nat → Prop}, zE S (D - 1) 78 [zv_a 43] n (zSg g) (zDg (zstl (zstl (zfs (zdd (zhw e)) 38 39 41) 43 44 44) 43 44 46)) u P ↔ P (.inl none) n (zSg g) (zDg (zfs (zfs (zdd (zhw e)) 38 39 41) 43 44 46)) u := fun {S n u g P} => zE78 zSe_43
  have c2 : ∀ {S : zSs} {n u : Nat} {g : Int → zk_K} {P : ((Option zv_V) ⊕ Nat) → Nat → zk_S → zm_D → Nat → Prop}, zE S (D - 1) 78 [zv_a 48] n (zSg g) (zDg (zstl (zstl (zfs (zfs (zdd (zhw e)) 38 39 41) 43 44 46) 48 49 49) 48 49 51)) u P ↔ P (.inl none) n (zSg g) (zDg (zfs (zfs (zfs (zdd (zhw e)) 38 39 41) 43 44 46) 48 49 51)) u := fun {S n u g P} => zE78 zSe_48
  simp (maxSteps := 10000000) (disch := first | omega | (simp (disch := omega) only [zm_ue, zm_un, zm_ri, zm_ro] <;> omega) | fail) only [zr_iconst, zr_aload, zr_iload, zr_astore, zr_istore, zr_iinc, zr_goto, zr_fall, zr_getI, zr_getA, zr_putZ, zr_aaload, zr_alen, zr_vret, zr_callV, Nat.reduceAdd, Nat.reduceLeDiff, Int.reduceAdd, Int.reduceMul, Int.reduceNeg, Int.reduceLT, Int.reduceLE, Int.reduceEq, zcast, true_or, zf_14, zt_16, zt_23, zf_23, zKa_s, zKi_s, zO_s, zKr_s, zget_0, zget_s, zst1_0, zst1_1, zst1_s, zk1_i, zk1_a, zpop_0, zpop_s, zA_s, zA_n, zw_id, zaB_v, zaR_ov, zaX_v, List.length_nil, true_and, and_true, zj_11_2, zj_11_3, zj_11_4, ze_11, zSg_34, zSg_35, zg_34_0, zg_34_2, zg_34_4, zgu_34_4, zR_35, zSg_5, zSg_34, zSg_35, zSg_38, zSg_43, zSg_48, zg_38_0, zg_38_1, zg_43_0, zg_43_1, zg_48_0, zg_48_1, r0, r1, r2, a0, b0, a1, b1, a2, b2, c0, c1, c2, hD1]
  exact Iff.rfl
