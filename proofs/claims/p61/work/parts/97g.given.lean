/-! ===== STEPS: a card given by the calls ===== -/
set_option maxRecDepth 65536
theorem zGiv_s {A B : zm_D} {x k h c r v G : Int} (hx : 0 ≤ x ∧ x < 3) (hk : k = 0 ∨ k = 1) (hh : 39 + 5 * x + 2 * k = h) (hc : 40 + 5 * x + 2 * k = c) (hr : 101 + 3 * x + k = r) (hv : A 6 (A 5 4) = v) (hb : B 92 0 = v) (hG : zgiv A h = G) (y6 : 0 ≤ A h 6 ∧ A h 6 ≤ 1) : zGvS x k h c r v G (zmx A B) (zmx (zgi A h c) (zmlk (zmtk B x k r) x k G)) := by
  have hh2 : 39 ≤ h ∧ h ≤ 51 ∧ c = h + 1 := by omega
  have hr2 : 101 ≤ r ∧ r ≤ 108 := by omega
  have TO : ∀ a j : Int, a ≠ h → a ≠ c → (zad (ztk A) h c v) a j = ztk A a j := fun a j q1 q2 => zad_o q1 q2
  have DO : ∀ a j : Int, ((a ≠ 61 ∨ j ≠ 35) ∧ a ≠ 92 ∧ a ≠ r ∧ (a ≠ 110 + x ∨ j ≠ k)) → (zmtk B x k r) a j = B a j := fun a j q => by
    unfold zmtk
    rw [zm_un (by omega), zm_un (by omega), zmnx_o (by omega) (by omega)]
  have D35 : (zmtk B x k r) 61 35 = B 61 35 - 1 := by
    unfold zmtk
    rw [zm_un (by omega), zm_un (by omega), zmnx_c]
  have D92 : ∀ j : Int, 0 ≤ j → j < B 61 35 - 1 → (zmtk B x k r) 92 j = B 92 (j + 1) := fun j q1 q2 => by
    unfold zmtk
    rw [zm_un (by omega), zm_un (by omega), zmnx_s ⟨q1, q2⟩]
  have Dr : ∀ j : Int, (zmtk B x k r) r j = if j = B (110 + x) k then v else B r j := fun j => by
    unfold zmtk
    rw [zm_un (by omega)]
    by_cases q : j = B (110 + x) k
    · rw [zm_ue rfl q, if_pos q, hb]
    · rw [zm_un (by omega), zmnx_o (by omega) (by omega), if_neg q]
  have D110 : (zmtk B x k r) (110 + x) k = B (110 + x) k + 1 := by
    unfold zmtk
    exact zm_ue rfl rfl
  rcases (by omega : 21 < G ∨ G = 21 ∨ G < 21) with g | g | g
  · have hz : zgi A h c = zm_u (zse (zad (ztk A) h c v) h) 31 1 (A 31 1 + A h 4) := by
      unfold zgi
      rw [hG, hv]
      rw [if_pos g]
    have hm : zmlk (zmtk B x k r) x k G = zm_u (zm_u (zm_u (zmtk B x k r) 88 0 ((zmtk B x k r) 88 0 + (zmtk B x k r) (114 + x) k)) (114 + x) k 0) (118 + x) k 3 := by
      unfold zmlk zmls
      rw [if_neg (by omega), if_pos g]
    rw [hz, hm]
    refine ⟨fun a j q1 q2 q3 q4 q5 q6 q7 => ?_, fun a j q => ?_, ⟨?_, ?_, ?_, fun j => ?_⟩, ⟨?_, ?_, ?_, ?_⟩, fun a j q1 q2 q3 q4 q5 q6 q7 q8 q9 => ?_, ⟨?_, fun j q1 q2 => ?_, fun j => ?_, ?_⟩, ⟨?_, ?_, ?_⟩⟩
    · rw [zmx_l q2, zmx_l q2]
      rw [zm_un (by omega), zse_o (by omega), TO a j (by omega) (by omega)]
      by_cases z : a = 5
      · rw [z, ztk_k (by omega)]
      · exact ztk_o z q4
    · rw [zmx_l (by omega)]
      rw [zm_un (by omega), zse_o (by omega), TO a j (by omega) (by omega)]
      unfold ztk
      simp (disch := omega) only [zmx_l, zmx_ul]
    · rw [zmx_l (by omega), zmx_l (by omega)]
      rw [zm_un (by omega), zse_o (by omega)]
      rw [zad_1, ztk_o (by omega) (by omega)]
    · rw [zmx_l (by omega), zmx_l (by omega)]
      rw [zm_un (by omega), zse_o (by omega)]
      rw [zad_2, ztk_o (by omega) (by omega)]
    · rw [zmx_l (by omega), zmx_l (by omega)]
      rw [zm_un (by omega), zse_o (by omega)]
      rw [zad_3, ztk_o (by omega) (by omega)]
    · rw [zmx_l (by omega), zmx_l (by omega), zmx_l (by omega)]
      rw [zm_un (by omega), zse_o (by omega)]
      rw [zad_c (by omega), ztk_o (by omega) (by omega), ztk_o (by omega) (by omega)]
    · unfold zF1
      rw [zmx_l (by omega), zmx_l (by omega)]
      rw [zm_un (by omega), zse_4, if_pos g]
    · unfold zF2
      rw [zmx_l (by omega), zmx_l (by omega)]
      rw [zm_un (by omega), zse_5, if_neg (by omega)]
    · rw [zmx_l (by omega)]
      rw [zm_un (by omega), zse_6]; decide
    · unfold zF1
      rw [zmx_l (by omega), zmx_l (by omega), zmx_l (by omega)]
      rw [zm_ue rfl rfl, if_pos g]
    · rw [zmx_h q1, zmx_h q1]
      rw [zm_un (by omega), zm_un (by omega), zm_un (by omega)]
      exact DO a j ⟨q3, q4, q5, q6⟩
    · rw [zmx_h (by omega), zmx_h (by omega)]
      rw [zm_un (by omega), zm_un (by omega), zm_un (by omega)]
      exact D35
    · rw [zmx_h (by omega)] at q2
      rw [zmx_h (by omega), zmx_h (by omega)]
      rw [zm_un (by omega), zm_un (by omega), zm_un (by omega)]
      exact D92 j q1 q2
    · rw [zmx_h (by omega), zmx_h (by omega), zmx_h (by omega)]
      rw [zm_un (by omega), zm_un (by omega), zm_un (by omega)]
      exact Dr j
    · rw [zmx_h (by omega), zmx_h (by omega)]
      rw [zm_un (by omega), zm_un (by omega), zm_un (by omega)]
      exact D110
    · unfold zF3
      rw [zmx_h (by omega), zmx_h (by omega)]
      rw [zm_ue rfl rfl, if_pos g]
    · unfold zF1
      rw [zmx_h (by omega), zmx_h (by omega)]
      rw [zm_un (by omega), zm_ue rfl rfl, if_pos g]
    · unfold zF1
      rw [zmx_h (by omega), zmx_h (by omega), zmx_h (by omega)]
      rw [zm_un (by omega), zm_un (by omega), zm_ue rfl rfl, DO 88 0 (by omega), DO (114 + x) k (by omega), if_pos g]
  · have hz : zgi A h c = zm_u (zad (ztk A) h c v) h 5 0 := by
      unfold zgi
      rw [hG, hv]
      rw [if_neg (by omega), if_pos g]
    have hm : zmlk (zmtk B x k r) x k G = zm_u (zmtk B x k r) (118 + x) k 2 := by
      unfold zmlk zmls
      rw [if_pos g]
    rw [hz, hm]
    refine ⟨fun a j q1 q2 q3 q4 q5 q6 q7 => ?_, fun a j q => ?_, ⟨?_, ?_, ?_, fun j => ?_⟩, ⟨?_, ?_, ?_, ?_⟩, fun a j q1 q2 q3 q4 q5 q6 q7 q8 q9 => ?_, ⟨?_, fun j q1 q2 => ?_, fun j => ?_, ?_⟩, ⟨?_, ?_, ?_⟩⟩
    · rw [zmx_l q2, zmx_l q2]
      rw [zm_un (by omega), TO a j (by omega) (by omega)]
      by_cases z : a = 5
      · rw [z, ztk_k (by omega)]
      · exact ztk_o z q4
    · rw [zmx_l (by omega)]
      rw [zm_un (by omega), TO a j (by omega) (by omega)]
      unfold ztk
      simp (disch := omega) only [zmx_l, zmx_ul]
    · rw [zmx_l (by omega), zmx_l (by omega)]
      rw [zm_un (by omega)]
      rw [zad_1, ztk_o (by omega) (by omega)]
    · rw [zmx_l (by omega), zmx_l (by omega)]
      rw [zm_un (by omega)]
      rw [zad_2, ztk_o (by omega) (by omega)]
    · rw [zmx_l (by omega), zmx_l (by omega)]
      rw [zm_un (by omega)]
      rw [zad_3, ztk_o (by omega) (by omega)]
    · rw [zmx_l (by omega), zmx_l (by omega), zmx_l (by omega)]
      rw [zm_un (by omega)]
      rw [zad_c (by omega), ztk_o (by omega) (by omega), ztk_o (by omega) (by omega)]
    · unfold zF1
      rw [zmx_l (by omega), zmx_l (by omega)]
      rw [zm_un (by omega), zad_k (by omega) (by omega), ztk_o (by omega) (by omega), if_neg (by omega)]
    · unfold zF2
      rw [zmx_l (by omega), zmx_l (by omega)]
      rw [zm_ue rfl rfl, if_neg (by omega)]
    · rw [zmx_l (by omega)]
      rw [zm_un (by omega), zad_k (by omega) (by omega), ztk_o (by omega) (by omega)]; exact y6
    · unfold zF1
      rw [zmx_l (by omega), zmx_l (by omega), zmx_l (by omega)]
      rw [zm_un (by omega), TO 31 1 (by omega) (by omega), ztk_o (by omega) (by omega), if_neg (by omega)]
    · rw [zmx_h q1, zmx_h q1]
      rw [zm_un (by omega)]
      exact DO a j ⟨q3, q4, q5, q6⟩
    · rw [zmx_h (by omega), zmx_h (by omega)]
      rw [zm_un (by omega)]
      exact D35
    · rw [zmx_h (by omega)] at q2
      rw [zmx_h (by omega), zmx_h (by omega)]
      rw [zm_un (by omega)]
      exact D92 j q1 q2
    · rw [zmx_h (by omega), zmx_h (by omega), zmx_h (by omega)]
      rw [zm_un (by omega)]
      exact Dr j
    · rw [zmx_h (by omega), zmx_h (by omega)]
      rw [zm_un (by omega)]
      exact D110
    · unfold zF3
      rw [zmx_h (by omega), zmx_h (by omega)]
      rw [zm_ue rfl rfl, if_neg (by omega), if_pos g]
    · unfold zF1
      rw [zmx_h (by omega), zmx_h (by omega)]
      rw [zm_un (by omega), DO (114 + x) k (by omega), if_neg (by omega)]
    · unfold zF1
      rw [zmx_h (by omega), zmx_h (by omega), zmx_h (by omega)]
      rw [zm_un (by omega), DO 88 0 (by omega), if_neg (by omega)]
  · have hz : zgi A h c = (zad (ztk A) h c v) := by
      unfold zgi
      rw [hG, hv]
      rw [if_neg (by omega), if_neg (by omega)]
    have hm : zmlk (zmtk B x k r) x k G = (zmtk B x k r) := by
      unfold zmlk zmls
      rw [if_neg (by omega), if_neg (by omega)]
    rw [hz, hm]
    refine ⟨fun a j q1 q2 q3 q4 q5 q6 q7 => ?_, fun a j q => ?_, ⟨?_, ?_, ?_, fun j => ?_⟩, ⟨?_, ?_, ?_, ?_⟩, fun a j q1 q2 q3 q4 q5 q6 q7 q8 q9 => ?_, ⟨?_, fun j q1 q2 => ?_, fun j => ?_, ?_⟩, ⟨?_, ?_, ?_⟩⟩
    · rw [zmx_l q2, zmx_l q2]
      rw [TO a j (by omega) (by omega)]
      by_cases z : a = 5
      · rw [z, ztk_k (by omega)]
      · exact ztk_o z q4
    · rw [zmx_l (by omega)]
      rw [TO a j (by omega) (by omega)]
      unfold ztk
      simp (disch := omega) only [zmx_l, zmx_ul]
    · rw [zmx_l (by omega), zmx_l (by omega)]
      skip
      rw [zad_1, ztk_o (by omega) (by omega)]
    · rw [zmx_l (by omega), zmx_l (by omega)]
      skip
      rw [zad_2, ztk_o (by omega) (by omega)]
    · rw [zmx_l (by omega), zmx_l (by omega)]
      skip
      rw [zad_3, ztk_o (by omega) (by omega)]
    · rw [zmx_l (by omega), zmx_l (by omega), zmx_l (by omega)]
      skip
      rw [zad_c (by omega), ztk_o (by omega) (by omega), ztk_o (by omega) (by omega)]
    · unfold zF1
      rw [zmx_l (by omega), zmx_l (by omega)]
      rw [zad_k (by omega) (by omega), ztk_o (by omega) (by omega), if_neg (by omega)]
    · unfold zF2
      rw [zmx_l (by omega), zmx_l (by omega)]
      rw [zad_k (by omega) (by omega), ztk_o (by omega) (by omega), if_pos g]
    · rw [zmx_l (by omega)]
      rw [zad_k (by omega) (by omega), ztk_o (by omega) (by omega)]; exact y6
    · unfold zF1
      rw [zmx_l (by omega), zmx_l (by omega), zmx_l (by omega)]
      rw [TO 31 1 (by omega) (by omega), ztk_o (by omega) (by omega), if_neg (by omega)]
    · rw [zmx_h q1, zmx_h q1]
      skip
      exact DO a j ⟨q3, q4, q5, q6⟩
    · rw [zmx_h (by omega), zmx_h (by omega)]
      skip
      exact D35
    · rw [zmx_h (by omega)] at q2
      rw [zmx_h (by omega), zmx_h (by omega)]
      skip
      exact D92 j q1 q2
    · rw [zmx_h (by omega), zmx_h (by omega), zmx_h (by omega)]
      skip
      exact Dr j
    · rw [zmx_h (by omega), zmx_h (by omega)]
      skip
      exact D110
    · unfold zF3
      rw [zmx_h (by omega), zmx_h (by omega)]
      rw [DO (118 + x) k (by omega), if_neg (by omega), if_neg (by omega)]
    · unfold zF1
      rw [zmx_h (by omega), zmx_h (by omega)]
      rw [DO (114 + x) k (by omega), if_neg (by omega)]
    · unfold zF1
      rw [zmx_h (by omega), zmx_h (by omega), zmx_h (by omega)]
      rw [DO 88 0 (by omega), if_neg (by omega)]
/-- a hand's value is one on both sides -/
theorem zGiv_v {A B : zm_D} {x k h c r v : Int} (hr : 101 ≤ r ∧ r ≤ 108) (hx : 0 ≤ x ∧ x < 3) (hb : B 92 0 = v) (hv : A 6 (A 5 4) = v) (n0 : 0 ≤ A h 1) (hn : B (110 + x) k = A h 1) (hs : A h 2 = zms A c (A h 1).toNat ∧ A h 3 = zma A c (A h 1).toNat) (hcd : ∀ j : Int, 0 ≤ j → j < A h 1 → B r j = A c j) : zmv (zmtk B x k r) r (zmtk B x k r (110 + x) k) = zgiv A h := by
  obtain ⟨n, hN⟩ : ∃ n : Nat, A h 1 = (n : Int) := ⟨(A h 1).toNat, by omega⟩
  rw [hN, Int.toNat_natCast] at hs
  have D110 : zmtk B x k r (110 + x) k = (n : Int) + 1 := by
    unfold zmtk
    rw [zm_ue rfl rfl, hn, hN]
  have Dr : ∀ j : Int, zmtk B x k r r j = if j = (n : Int) then v else B r j := fun j => by
    unfold zmtk
    rw [zm_un (by omega), hn, hN]
    by_cases q : j = (n : Int)
    · rw [zm_ue rfl q, if_pos q, hb]
    · rw [zm_un (by omega), zmnx_o (by omega) (by omega), if_neg q]
  have z := @zms_x A (zmtk B x k r) r c n (fun j q1 q2 => by rw [Dr, if_neg (by omega)]; exact hcd j q1 (by omega))
  unfold zmv zgiv
  rw [D110, show ((n : Int) + 1).toNat = n + 1 by omega]
  show zhv (if zma (zmtk B x k r) r n = 1 ∨ zmtk B x k r r (n : Int) = 1 then (1 : Int) else 0) (zms (zmtk B x k r) r n + zmtk B x k r r (n : Int)) = _
  rw [z.1, z.2, Dr, if_pos rfl, ← hs.1, ← hs.2, hv]
  have b := @zma_b A c n
  rw [← hs.2] at b
  have e : (if A h 3 = 1 ∨ v = 1 then (1 : Int) else 0) = zor (A h 3) v := by
    unfold zor
    split <;> split <;> omega
  rw [e]
theorem zGiv {e A B : zm_D} {x k : Int} (hx : 0 ≤ x ∧ x < 3) (hk : k = 0 ∨ k = 1) (Q : zQz 0 e (zmx A B)) (h4 : A 34 4 = 1) (hl : A 5 4 < A 5 5) (h98 : k < B 98 x) (h5 : zSel (A (39 + 5 * x + 2 * k) 5) (B (118 + x) k)) (hp : 0 < A (39 + 5 * x + 2 * k) 4) (hv : zhv (A (39 + 5 * x + 2 * k) 3) (A (39 + 5 * x + 2 * k) 2) < 21) (ht : A 31 1 + A (39 + 5 * x + 2 * k) 4 ≤ e 31 1 + 5000) : (zmv (zmtk B x k (101 + 3 * x + k)) (101 + 3 * x + k) (zmtk B x k (101 + 3 * x + k) (110 + x) k)) = zgiv A (39 + 5 * x + 2 * k) ∧ zQz 0 e (zmx (zgi A (39 + 5 * x + 2 * k) (40 + 5 * x + 2 * k)) (zmlk (zmtk B x k (101 + 3 * x + k)) x k (zmv (zmtk B x k (101 + 3 * x + k)) (101 + 3 * x + k) (zmtk B x k (101 + 3 * x + k) (110 + x) k)))) ∧ zGvS x k (39 + 5 * x + 2 * k) (40 + 5 * x + 2 * k) (101 + 3 * x + k) (A 6 (A 5 4)) (zgiv A (39 + 5 * x + 2 * k)) (zmx A B) (zmx (zgi A (39 + 5 * x + 2 * k) (40 + 5 * x + 2 * k)) (zmlk (zmtk B x k (101 + 3 * x + k)) x k (zmv (zmtk B x k (101 + 3 * x + k)) (101 + 3 * x + k) (zmtk B x k (101 + 3 * x + k) (110 + x) k)))) := by
  have L : ∀ r j : Int, r ≤ 60 → zmx A B r j = A r j := fun r j p => zmx_l p
  have U : ∀ r j : Int, 60 < r → zmx A B r j = B r j := fun r j p => zmx_h p
  have rs := Q.2.2.2.2.2.2.2.1
  have rq := (Q.2.2.2.2.2.2.2.2.2 x hx.1 hx.2).1
  have ci := Q.2.2.2.2.2.2.1.1 x hx.1 hx.2
  obtain ⟨-, -, -, -, -, on, k1, k2⟩ := rq
  have c98 := (Q.2.2.2.2.2.2.2.2.2 x hx.1 hx.2).1.2.1
  have b92 := rs.2.1 0 (by decide)
  rw [L 5 5 (by decide), L 5 4 (by decide), U 92 0 (by decide), L 6 _ (by decide), Int.add_zero] at b92
  rw [L 34 4 (by decide)] at on
  rw [U 98 x (by decide)] at k1 k2 c98
  have F : ∀ h c r : Int, h ≤ 60 → c ≤ 60 → 60 < r → (39 + 5 * x + 2 * k) = h → (40 + 5 * x + 2 * k) = c → (101 + 3 * x + k) = r → zIh (zmx A B 34 4) (zmx A B) h c → (zmx A B (110 + x) k = zmx A B h 1 ∧ 1 ≤ zmx A B (110 + x) k ∧ (∀ j : Int, 0 ≤ j → j < zmx A B (110 + x) k → zmx A B r j = zmx A B c j)) → (zmv (zmtk B x k (101 + 3 * x + k)) (101 + 3 * x + k) (zmtk B x k (101 + 3 * x + k) (110 + x) k)) = zgiv A (39 + 5 * x + 2 * k) ∧ (0 ≤ A (39 + 5 * x + 2 * k) 6 ∧ A (39 + 5 * x + 2 * k) 6 ≤ 1) := fun h c r p1 p2 p3 e1 e2 e3 HI HC => by
    obtain ⟨y1, y2, y3, y4, y5, y6, y7, ⟨y8, y9⟩, y10⟩ := HI
    obtain ⟨z1, z2, z3⟩ := HC
    rw [L h _ p1] at y6 y8 y9 y1 z1
    rw [L h 1 p1, zms_e (fun j => L c j p2)] at y8
    rw [L h 1 p1, zma_e (fun j => L c j p2)] at y9
    rw [U (110 + x) k (by omega)] at z1 z2 z3
    rw [e1, e3]
    refine ⟨zGiv_v (c := c) (by omega) hx (b92 (by omega)) rfl (by omega) z1 ⟨y8, y9⟩ (fun j q1 q2 => ?_), y6⟩
    have := z3 j q1 (by omega)
    rw [U r j p3, L c j p2] at this
    exact this
  have E : (zmv (zmtk B x k (101 + 3 * x + k)) (101 + 3 * x + k) (zmtk B x k (101 + 3 * x + k) (110 + x) k)) = zgiv A (39 + 5 * x + 2 * k) ∧ (0 ≤ A (39 + 5 * x + 2 * k) 6 ∧ A (39 + 5 * x + 2 * k) 6 ≤ 1) := by
    rcases hk with q | q
    · subst q
      have a := k1 (by omega)
      exact F (39 + 5 * x) (40 + 5 * x) (101 + 3 * x) (by omega) (by omega) (by omega) (by omega) (by omega) (by omega) ci.1 ⟨a.1, a.2.1, a.2.2.1⟩
    · subst q
      have a := k2 (by omega)
      exact F (41 + 5 * x) (42 + 5 * x) (102 + 3 * x) (by omega) (by omega) (by omega) (by omega) (by omega) (by omega) ci.2.1 ⟨a.1, a.2.1, a.2.2⟩
  have S := zGiv_s (A := A) (B := B) (h := (39 + 5 * x + 2 * k)) (c := (40 + 5 * x + 2 * k)) (r := (101 + 3 * x + k)) (v := A 6 (A 5 4)) (G := zgiv A (39 + 5 * x + 2 * k)) hx hk rfl rfl rfl rfl (b92 (by omega)) rfl E.2
  rw [E.1]
  refine ⟨rfl, ?_, S⟩
  refine zGiv_c (N := zmx A B) (v := A 6 (A 5 4)) (G := zgiv A (39 + 5 * x + 2 * k)) hx hk Q (by rw [L _ _ (by decide)]; exact h4) (by rw [L _ _ (by decide), L _ _ (by decide)]; exact hl) (by rw [U _ _ (by decide)]; exact h98) (by rw [L _ _ (by omega), U _ _ (by omega)]; exact h5) (by rw [L _ _ (by omega)]; exact hp) (by rw [L _ _ (by omega), L _ _ (by omega)]; exact hv) (by rw [L _ _ (by omega), L _ _ (by omega)]; exact ht) (by rw [L 5 4 (by decide), L 6 _ (by decide)]) (by rw [L _ _ (by omega), L _ _ (by omega)]; rfl) S
