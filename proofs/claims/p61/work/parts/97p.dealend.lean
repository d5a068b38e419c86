/-! ===== STEPS: all cards dealt ===== -/
set_option maxRecDepth 65536
theorem zDc_5 {t : Int} {e E : zm_D} (I : zIn t e) (R : zRe e) (h4 : e 34 4 = 0) (h30 : 30 ≤ e 5 5 - e 5 4) (EO : ∀ r j : Int, 60 < r → r ≤ 159 → E r j = e r j) : zDc 2 2 8 (zdl1 e) (zmdA E) (zdl5 e) (zmdT (zmdT (zmdA E))) ∧ zdl5 e 5 7 = zdl5 e 37 1 ∧ (1 ≤ zdl5 e 5 7 ∧ zdl5 e 5 7 ≤ 10) := by
  have C0 := zDc_0 I R h4 EO
  have h57 : zdl1 e 5 7 = 0 := (zdl1_o (by omega) (by omega)).trans (R.2.2.2.2.2.1.2.2.2.1 h4)
  have hl : 30 ≤ zdl1 e 5 5 - zdl1 e 5 4 := by rw [zdl1_o (r := 5) (j := 5) (by omega) (by omega), zdl1_o (r := 5) (j := 4) (by omega) (by omega)]; exact h30
  obtain ⟨C1, u1⟩ := zDc_3 (by decide) (by omega) C0
  obtain ⟨C2, u2, -⟩ := zDc_d (T := ztk (zdsa (zdl1 e))) (by decide) (by omega) C1 ztk_4 (ztk_k (by decide)) (ztk_k (by decide)) (fun r j q1 q2 => ztk_o q1 q2) (zIs_tk C1.1.2.2.2.2 (by have := C1.2.2.2.1; omega))
  have C2 : zDc 1 1 4 (zdl1 e) (zmdA E) (zdl3 e) (zmdT (zmdA E)) := C2
  have u2 : zdl3 e 5 7 = 0 := by
    have a : zdl3 e 5 7 = ztk (zdsa (zdl1 e)) 5 7 := u2
    rw [a, ztk_k (by decide), u1, h57]
  obtain ⟨C3, u3⟩ := zDc_3 (by decide) (by omega) C2
  have k7 : zth (zdsa (zdl3 e)) 5 7 = zdsa (zdl3 e) 6 (zdsa (zdl3 e) 5 4) := zm_ue rfl rfl
  have x7 := C3.1.2.2.2.2.1.2 (zdsa (zdl3 e) 5 4) (by omega) (by have := C3.2.2.2.1; omega)
  obtain ⟨C4, u4, u5⟩ := zDc_d (T := zth (zdsa (zdl3 e))) (by decide) (by omega) C3 ((zm_un (by omega)).trans (zm_ue rfl rfl)) ((zm_un (by omega)).trans (zm_un (by omega))) ((zm_un (by omega)).trans (zm_un (by omega))) (fun r j q1 q2 => (zm_un (.inl q1)).trans (zm_un (.inl q1))) (zIs_th C3.1.2.2.2.2 (by have := C3.2.2.2.1; omega) (u3.trans u2))
  have u4 : zdl5 e 5 7 = zth (zdsa (zdl3 e)) 5 7 := u4
  have u5 : zdl5 e 37 1 = zdsa (zdl3 e) 6 (zdsa (zdl3 e) 5 4) := u5
  refine ⟨C4, by rw [u4, k7, u5], ?_⟩
  rw [u4, k7]
  exact x7
