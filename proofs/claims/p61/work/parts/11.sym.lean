/-! ===== SYM: closed runs; rows of blocks, methods, handlers; branches ===== -/
def zrun0 : Nat → Nat → Nat → List zI → zKk
  | 0, _, _, _ => fun _ _ _ => none
  | _ + 1, _, _, [] => fun _ _ _ => none
  | N + 1, D, m, (o, a, b, c, k) :: is => if o = 112 ∨ o = 113 then fun _ _ _ => none else zstep o a b c k D (0, fun _ => 0) (zhl m) (zsw m) (zrun0 N D m is) (fun b => zrun0 N D m (zcd m b)) (fun m' As M => if zs_w As ≤ znl m' then zrun0 N (D - 1) m' (zcd m' 0) (zarg (znl m') As) [] M else none)
theorem zstep_S {o a b c : Nat} {k : Int} {D : Nat} (S S' : zSs) {hl : List (Nat × (Nat × Nat))} {sw : List Nat} {next : zKk} {jump : Nat → zKk} {call : Nat → List zv_V → zMm → Option zRr} (ho : ¬ (o = 112 ∨ o = 113)) : zstep o a b c k D S hl sw next jump call = zstep o a b c k D S' hl sw next jump call := by
  unfold zstep
  split
  all_goals first | rfl | exact absurd (Or.inl rfl) ho | exact absurd (Or.inr rfl) ho
theorem zrun0_ok {S : zSs} : ∀ (N D m : Nat) (is : List zI) (L : zN) (st : List zv_V) (M : zMm) (r : zRr), zrun0 N D m is L st M = some r → zrun S N D m is L st M = some r
  | 0, _, _, _, _, _, _, _, h => by cases h
  | N + 1, D, m, [], _, _, _, _, h => by cases h
  | N + 1, D, m, (o, a, b, c, k) :: is, L, st, M, r, h => by
    unfold zrun0 at h
    by_cases ho : o = 112 ∨ o = 113
    · rw [if_pos ho] at h; cases h
    · rw [if_neg ho, zstep_S (0, fun _ => 0) S ho] at h
      exact zstep_mono o a b c k D S (zhl m) (zsw m) _ _ _ _ _ _ (fun L st M r h => zrun0_ok N D m is L st M r h) (fun b L st M r h => zrun0_ok N D m (zcd m b) L st M r h) (fun m' As M r h => by
        by_cases hw : zs_w As ≤ znl m'
        · rw [if_pos hw] at h ⊢
          exact zrun0_ok N (D - 1) m' (zcd m' 0) (zarg (znl m') As) [] M r h
        · rw [if_neg hw] at h; cases h) L st M r h
section SYM
variable {S : zSs} {D m n u a b c : Nat} {k : Int} {is : List zI} {L : zN} {st : List zv_V} {sh : zk_S} {d : zm_D} {Q : ((Option zv_V) ⊕ Nat) → Nat → zk_S → zm_D → Nat → Prop}
theorem zB_done {N : Nat} {r : zRr} (h : zrun S N D m is L st (n, sh, d, u) = some r) : zB S D m is L st n sh d u Q ↔ Q r.1 r.2.1 r.2.2.1 r.2.2.2.1 r.2.2.2.2 := by
  constructor
  · rintro ⟨N', r', h1, h2⟩
    have e1 := zrun_more h N'
    have e2 := zrun_more h1 N
    rw [Nat.add_comm] at e2
    cases e1.symm.trans e2
    exact h2
  · exact fun q => ⟨N, r, h, q⟩
theorem zE_done {N : Nat} {As : List zv_V} {r : zRr} (hw : zs_w As ≤ znl m) (h : zrun0 N D m (zcd m 0) (zarg (znl m) As) [] (n, sh, d, u) = some r) : zE S D m As n sh d u Q ↔ Q r.1 r.2.1 r.2.2.1 r.2.2.2.1 r.2.2.2.2 :=
  ⟨fun q => (zB_done (zrun0_ok _ _ _ _ _ _ _ _ h)).mp q.2, fun q => ⟨hw, (zB_done (zrun0_ok _ _ _ _ _ _ _ _ h)).mpr q⟩⟩
def zgo (o : Option zRr) : zRr := match o with
  | some r => r
  | none => (.inr 999, (0, (fun _ => none, (fun _ _ => 0, 0))))
theorem zgo_s {o : Option zRr} (h : o.isSome = true) : o = some (zgo o) := by
  cases o with
  | none => cases h
  | some r => rfl
theorem zE_run {N : Nat} {As : List zv_V} (hw : zs_w As ≤ znl m) (h : (zrun0 N D m (zcd m 0) (zarg (znl m) As) [] (n, sh, d, u)).isSome = true) : zE S D m As n sh d u Q ↔ Q (zgo (zrun0 N D m (zcd m 0) (zarg (znl m) As) [] (n, sh, d, u))).1 (zgo (zrun0 N D m (zcd m 0) (zarg (znl m) As) [] (n, sh, d, u))).2.1 (zgo (zrun0 N D m (zcd m 0) (zarg (znl m) As) [] (n, sh, d, u))).2.2.1 (zgo (zrun0 N D m (zcd m 0) (zarg (znl m) As) [] (n, sh, d, u))).2.2.2.1 (zgo (zrun0 N D m (zcd m 0) (zarg (znl m) As) [] (n, sh, d, u))).2.2.2.2 := zE_done hw (zgo_s h)
theorem zw_id {x : Int} (h1 : -2147483648 ≤ x) (h2 : x < 2147483648) : zw x = x := by unfold zw; omega
theorem zm_ue {r j v a k : Int} (h1 : a = r) (h2 : k = j) : zm_u d r j v a k = v := if_pos ⟨h1, h2⟩
theorem zm_un {r j v a k : Int} (h : a ≠ r ∨ k ≠ j) : zm_u d r j v a k = d a k := if_neg fun q => h.elim (fun f => f q.1) (fun f => f q.2)
theorem zk_ue {r a : Int} {x : zk_K} (h : a = r) : zk_u sh r x a = x := if_pos h
theorem zk_un {r a : Int} {x : zk_K} (h : a ≠ r) : zk_u sh r x a = sh a := if_neg h
theorem zm_ze {r a k : Int} (h : a = r) : zm_z d r a k = 0 := if_pos h
theorem zm_zn {r a k : Int} (h : a ≠ r) : zm_z d r a k = d a k := if_neg h
theorem zaB_v {x : Nat} : zaB (some (.inl x)) = some x := rfl
theorem zaI_v {N : Nat} : zaI (some (.inr (.int, N))) = some N := rfl
theorem zaL_v {N : Nat} : zaL (some (.inr (.long, N))) = some N := rfl
theorem zaD_v {N : Nat} : zaD (some (.inr (.double, N))) = some N := rfl
theorem zaC_v {N : Nat} : zaC (some (.inr (.char, N))) = some N := rfl
theorem zaZ_v {N : Nat} : zaZ (some (.inr (.boolean, N))) = some N := rfl
theorem zaR_ov {C : String} {N : Nat} : zaR (some (.inr (.object C, N))) = some N := rfl
theorem zaR_av {t : FieldType} {N : Nat} : zaR (some (.inr (.array t, N))) = some N := rfl
theorem zaX_v {t : FieldType} {N : Nat} : zaX (some (.inr (t, N))) = some N := rfl
theorem zt_14 {x : Int} (h : ((x + 2147483648) % 4294967296 - 2147483648) = 0) : zB S D m ((14, a, b, c, k) :: is) L (zv_i x :: st) n sh d u Q ↔ zJ S D m a L st n sh d u Q := zr_if14.trans (by rw [if_pos (show zw x = 0 from h)])
theorem zf_14 {x : Int} (h : ¬ (((x + 2147483648) % 4294967296 - 2147483648) = 0)) : zB S D m ((14, a, b, c, k) :: is) L (zv_i x :: st) n sh d u Q ↔ zB S D m is L st n sh d u Q := zr_if14.trans (by rw [if_neg (show ¬ (zw x = 0) from h)])
theorem zsp_14 {x : Int} (h1 : ((x + 2147483648) % 4294967296 - 2147483648) = 0 → zJ S D m a L st n sh d u Q) (h2 : ¬ (((x + 2147483648) % 4294967296 - 2147483648) = 0) → zB S D m is L st n sh d u Q) : zB S D m ((14, a, b, c, k) :: is) L (zv_i x :: st) n sh d u Q := (Classical.em (((x + 2147483648) % 4294967296 - 2147483648) = 0)).elim (fun h => (zt_14 h).mpr (h1 h)) (fun h => (zf_14 h).mpr (h2 h))
theorem zt_15 {x : Int} (h : ¬ ((x + 2147483648) % 4294967296 - 2147483648) = 0) : zB S D m ((15, a, b, c, k) :: is) L (zv_i x :: st) n sh d u Q ↔ zJ S D m a L st n sh d u Q := zr_if15.trans (by rw [if_pos (show ¬ zw x = 0 from h)])
theorem zf_15 {x : Int} (h : ¬ (¬ ((x + 2147483648) % 4294967296 - 2147483648) = 0)) : zB S D m ((15, a, b, c, k) :: is) L (zv_i x :: st) n sh d u Q ↔ zB S D m is L st n sh d u Q := zr_if15.trans (by rw [if_neg (show ¬ (¬ zw x = 0) from h)])
theorem zsp_15 {x : Int} (h1 : ¬ ((x + 2147483648) % 4294967296 - 2147483648) = 0 → zJ S D m a L st n sh d u Q) (h2 : ¬ (¬ ((x + 2147483648) % 4294967296 - 2147483648) = 0) → zB S D m is L st n sh d u Q) : zB S D m ((15, a, b, c, k) :: is) L (zv_i x :: st) n sh d u Q := (Classical.em (¬ ((x + 2147483648) % 4294967296 - 2147483648) = 0)).elim (fun h => (zt_15 h).mpr (h1 h)) (fun h => (zf_15 h).mpr (h2 h))
theorem zt_16 {x : Int} (h : ((x + 2147483648) % 4294967296 - 2147483648) < 0) : zB S D m ((16, a, b, c, k) :: is) L (zv_i x :: st) n sh d u Q ↔ zJ S D m a L st n sh d u Q := zr_if16.trans (by rw [if_pos (show zw x < 0 from h)])
theorem zf_16 {x : Int} (h : ¬ (((x + 2147483648) % 4294967296 - 2147483648) < 0)) : zB S D m ((16, a, b, c, k) :: is) L (zv_i x :: st) n sh d u Q ↔ zB S D m is L st n sh d u Q := zr_if16.trans (by rw [if_neg (show ¬ (zw x < 0) from h)])
theorem zsp_16 {x : Int} (h1 : ((x + 2147483648) % 4294967296 - 2147483648) < 0 → zJ S D m a L st n sh d u Q) (h2 : ¬ (((x + 2147483648) % 4294967296 - 2147483648) < 0) → zB S D m is L st n sh d u Q) : zB S D m ((16, a, b, c, k) :: is) L (zv_i x :: st) n sh d u Q := (Classical.em (((x + 2147483648) % 4294967296 - 2147483648) < 0)).elim (fun h => (zt_16 h).mpr (h1 h)) (fun h => (zf_16 h).mpr (h2 h))
theorem zt_17 {x : Int} (h : 0 ≤ ((x + 2147483648) % 4294967296 - 2147483648)) : zB S D m ((17, a, b, c, k) :: is) L (zv_i x :: st) n sh d u Q ↔ zJ S D m a L st n sh d u Q := zr_if17.trans (by rw [if_pos (show 0 ≤ zw x from h)])
theorem zf_17 {x : Int} (h : ¬ (0 ≤ ((x + 2147483648) % 4294967296 - 2147483648))) : zB S D m ((17, a, b, c, k) :: is) L (zv_i x :: st) n sh d u Q ↔ zB S D m is L st n sh d u Q := zr_if17.trans (by rw [if_neg (show ¬ (0 ≤ zw x) from h)])
theorem zsp_17 {x : Int} (h1 : 0 ≤ ((x + 2147483648) % 4294967296 - 2147483648) → zJ S D m a L st n sh d u Q) (h2 : ¬ (0 ≤ ((x + 2147483648) % 4294967296 - 2147483648)) → zB S D m is L st n sh d u Q) : zB S D m ((17, a, b, c, k) :: is) L (zv_i x :: st) n sh d u Q := (Classical.em (0 ≤ ((x + 2147483648) % 4294967296 - 2147483648))).elim (fun h => (zt_17 h).mpr (h1 h)) (fun h => (zf_17 h).mpr (h2 h))
theorem zt_18 {x : Int} (h : 0 < ((x + 2147483648) % 4294967296 - 2147483648)) : zB S D m ((18, a, b, c, k) :: is) L (zv_i x :: st) n sh d u Q ↔ zJ S D m a L st n sh d u Q := zr_if18.trans (by rw [if_pos (show 0 < zw x from h)])
theorem zf_18 {x : Int} (h : ¬ (0 < ((x + 2147483648) % 4294967296 - 2147483648))) : zB S D m ((18, a, b, c, k) :: is) L (zv_i x :: st) n sh d u Q ↔ zB S D m is L st n sh d u Q := zr_if18.trans (by rw [if_neg (show ¬ (0 < zw x) from h)])
theorem zsp_18 {x : Int} (h1 : 0 < ((x + 2147483648) % 4294967296 - 2147483648) → zJ S D m a L st n sh d u Q) (h2 : ¬ (0 < ((x + 2147483648) % 4294967296 - 2147483648)) → zB S D m is L st n sh d u Q) : zB S D m ((18, a, b, c, k) :: is) L (zv_i x :: st) n sh d u Q := (Classical.em (0 < ((x + 2147483648) % 4294967296 - 2147483648))).elim (fun h => (zt_18 h).mpr (h1 h)) (fun h => (zf_18 h).mpr (h2 h))
theorem zt_19 {x : Int} (h : ((x + 2147483648) % 4294967296 - 2147483648) ≤ 0) : zB S D m ((19, a, b, c, k) :: is) L (zv_i x :: st) n sh d u Q ↔ zJ S D m a L st n sh d u Q := zr_if19.trans (by rw [if_pos (show zw x ≤ 0 from h)])
theorem zf_19 {x : Int} (h : ¬ (((x + 2147483648) % 4294967296 - 2147483648) ≤ 0)) : zB S D m ((19, a, b, c, k) :: is) L (zv_i x :: st) n sh d u Q ↔ zB S D m is L st n sh d u Q := zr_if19.trans (by rw [if_neg (show ¬ (zw x ≤ 0) from h)])
theorem zsp_19 {x : Int} (h1 : ((x + 2147483648) % 4294967296 - 2147483648) ≤ 0 → zJ S D m a L st n sh d u Q) (h2 : ¬ (((x + 2147483648) % 4294967296 - 2147483648) ≤ 0) → zB S D m is L st n sh d u Q) : zB S D m ((19, a, b, c, k) :: is) L (zv_i x :: st) n sh d u Q := (Classical.em (((x + 2147483648) % 4294967296 - 2147483648) ≤ 0)).elim (fun h => (zt_19 h).mpr (h1 h)) (fun h => (zf_19 h).mpr (h2 h))
theorem zt_20 {x y : Int} (h : ((x + 2147483648) % 4294967296 - 2147483648) = ((y + 2147483648) % 4294967296 - 2147483648)) : zB S D m ((20, a, b, c, k) :: is) L (zv_i y :: zv_i x :: st) n sh d u Q ↔ zJ S D m a L st n sh d u Q := zr_ic20.trans (by rw [if_pos (show zw x = zw y from h)])
theorem zf_20 {x y : Int} (h : ¬ (((x + 2147483648) % 4294967296 - 2147483648) = ((y + 2147483648) % 4294967296 - 2147483648))) : zB S D m ((20, a, b, c, k) :: is) L (zv_i y :: zv_i x :: st) n sh d u Q ↔ zB S D m is L st n sh d u Q := zr_ic20.trans (by rw [if_neg (show ¬ (zw x = zw y) from h)])
theorem zsp_20 {x y : Int} (h1 : ((x + 2147483648) % 4294967296 - 2147483648) = ((y + 2147483648) % 4294967296 - 2147483648) → zJ S D m a L st n sh d u Q) (h2 : ¬ (((x + 2147483648) % 4294967296 - 2147483648) = ((y + 2147483648) % 4294967296 - 2147483648)) → zB S D m is L st n sh d u Q) : zB S D m ((20, a, b, c, k) :: is) L (zv_i y :: zv_i x :: st) n sh d u Q := (Classical.em (((x + 2147483648) % 4294967296 - 2147483648) = ((y + 2147483648) % 4294967296 - 2147483648))).elim (fun h => (zt_20 h).mpr (h1 h)) (fun h => (zf_20 h).mpr (h2 h))
theorem zt_21 {x y : Int} (h : ¬ ((x + 2147483648) % 4294967296 - 2147483648) = ((y + 2147483648) % 4294967296 - 2147483648)) : zB S D m ((21, a, b, c, k) :: is) L (zv_i y :: zv_i x :: st) n sh d u Q ↔ zJ S D m a L st n sh d u Q := zr_ic21.trans (by rw [if_pos (show ¬ zw x = zw y from h)])
theorem zf_21 {x y : Int} (h : ¬ (¬ ((x + 2147483648) % 4294967296 - 2147483648) = ((y + 2147483648) % 4294967296 - 2147483648))) : zB S D m ((21, a, b, c, k) :: is) L (zv_i y :: zv_i x :: st) n sh d u Q ↔ zB S D m is L st n sh d u Q := zr_ic21.trans (by rw [if_neg (show ¬ (¬ zw x = zw y) from h)])
theorem zsp_21 {x y : Int} (h1 : ¬ ((x + 2147483648) % 4294967296 - 2147483648) = ((y + 2147483648) % 4294967296 - 2147483648) → zJ S D m a L st n sh d u Q) (h2 : ¬ (¬ ((x + 2147483648) % 4294967296 - 2147483648) = ((y + 2147483648) % 4294967296 - 2147483648)) → zB S D m is L st n sh d u Q) : zB S D m ((21, a, b, c, k) :: is) L (zv_i y :: zv_i x :: st) n sh d u Q := (Classical.em (¬ ((x + 2147483648) % 4294967296 - 2147483648) = ((y + 2147483648) % 4294967296 - 2147483648))).elim (fun h => (zt_21 h).mpr (h1 h)) (fun h => (zf_21 h).mpr (h2 h))
theorem zt_22 {x y : Int} (h : ((x + 2147483648) % 4294967296 - 2147483648) < ((y + 2147483648) % 4294967296 - 2147483648)) : zB S D m ((22, a, b, c, k) :: is) L (zv_i y :: zv_i x :: st) n sh d u Q ↔ zJ S D m a L st n sh d u Q := zr_ic22.trans (by rw [if_pos (show zw x < zw y from h)])
theorem zf_22 {x y : Int} (h : ¬ (((x + 2147483648) % 4294967296 - 2147483648) < ((y + 2147483648) % 4294967296 - 2147483648))) : zB S D m ((22, a, b, c, k) :: is) L (zv_i y :: zv_i x :: st) n sh d u Q ↔ zB S D m is L st n sh d u Q := zr_ic22.trans (by rw [if_neg (show ¬ (zw x < zw y) from h)])
theorem zsp_22 {x y : Int} (h1 : ((x + 2147483648) % 4294967296 - 2147483648) < ((y + 2147483648) % 4294967296 - 2147483648) → zJ S D m a L st n sh d u Q) (h2 : ¬ (((x + 2147483648) % 4294967296 - 2147483648) < ((y + 2147483648) % 4294967296 - 2147483648)) → zB S D m is L st n sh d u Q) : zB S D m ((22, a, b, c, k) :: is) L (zv_i y :: zv_i x :: st) n sh d u Q := (Classical.em (((x + 2147483648) % 4294967296 - 2147483648) < ((y + 2147483648) % 4294967296 - 2147483648))).elim (fun h => (zt_22 h).mpr (h1 h)) (fun h => (zf_22 h).mpr (h2 h))
theorem zt_23 {x y : Int} (h : ((y + 2147483648) % 4294967296 - 2147483648) ≤ ((x + 2147483648) % 4294967296 - 2147483648)) : zB S D m ((23, a, b, c, k) :: is) L (zv_i y :: zv_i x :: st) n sh d u Q ↔ zJ S D m a L st n sh d u Q := zr_ic23.trans (by rw [if_pos (show zw y ≤ zw x from h)])
theorem zf_23 {x y : Int} (h : ¬ (((y + 2147483648) % 4294967296 - 2147483648) ≤ ((x + 2147483648) % 4294967296 - 2147483648))) : zB S D m ((23, a, b, c, k) :: is) L (zv_i y :: zv_i x :: st) n sh d u Q ↔ zB S D m is L st n sh d u Q := zr_ic23.trans (by rw [if_neg (show ¬ (zw y ≤ zw x) from h)])
theorem zsp_23 {x y : Int} (h1 : ((y + 2147483648) % 4294967296 - 2147483648) ≤ ((x + 2147483648) % 4294967296 - 2147483648) → zJ S D m a L st n sh d u Q) (h2 : ¬ (((y + 2147483648) % 4294967296 - 2147483648) ≤ ((x + 2147483648) % 4294967296 - 2147483648)) → zB S D m is L st n sh d u Q) : zB S D m ((23, a, b, c, k) :: is) L (zv_i y :: zv_i x :: st) n sh d u Q := (Classical.em (((y + 2147483648) % 4294967296 - 2147483648) ≤ ((x + 2147483648) % 4294967296 - 2147483648))).elim (fun h => (zt_23 h).mpr (h1 h)) (fun h => (zf_23 h).mpr (h2 h))
theorem zt_24 {x y : Int} (h : ((y + 2147483648) % 4294967296 - 2147483648) < ((x + 2147483648) % 4294967296 - 2147483648)) : zB S D m ((24, a, b, c, k) :: is) L (zv_i y :: zv_i x :: st) n sh d u Q ↔ zJ S D m a L st n sh d u Q := zr_ic24.trans (by rw [if_pos (show zw y < zw x from h)])
theorem zf_24 {x y : Int} (h : ¬ (((y + 2147483648) % 4294967296 - 2147483648) < ((x + 2147483648) % 4294967296 - 2147483648))) : zB S D m ((24, a, b, c, k) :: is) L (zv_i y :: zv_i x :: st) n sh d u Q ↔ zB S D m is L st n sh d u Q := zr_ic24.trans (by rw [if_neg (show ¬ (zw y < zw x) from h)])
theorem zsp_24 {x y : Int} (h1 : ((y + 2147483648) % 4294967296 - 2147483648) < ((x + 2147483648) % 4294967296 - 2147483648) → zJ S D m a L st n sh d u Q) (h2 : ¬ (((y + 2147483648) % 4294967296 - 2147483648) < ((x + 2147483648) % 4294967296 - 2147483648)) → zB S D m is L st n sh d u Q) : zB S D m ((24, a, b, c, k) :: is) L (zv_i y :: zv_i x :: st) n sh d u Q := (Classical.em (((y + 2147483648) % 4294967296 - 2147483648) < ((x + 2147483648) % 4294967296 - 2147483648))).elim (fun h => (zt_24 h).mpr (h1 h)) (fun h => (zf_24 h).mpr (h2 h))
theorem zt_25 {x y : Int} (h : ((x + 2147483648) % 4294967296 - 2147483648) ≤ ((y + 2147483648) % 4294967296 - 2147483648)) : zB S D m ((25, a, b, c, k) :: is) L (zv_i y :: zv_i x :: st) n sh d u Q ↔ zJ S D m a L st n sh d u Q := zr_ic25.trans (by rw [if_pos (show zw x ≤ zw y from h)])
theorem zf_25 {x y : Int} (h : ¬ (((x + 2147483648) % 4294967296 - 2147483648) ≤ ((y + 2147483648) % 4294967296 - 2147483648))) : zB S D m ((25, a, b, c, k) :: is) L (zv_i y :: zv_i x :: st) n sh d u Q ↔ zB S D m is L st n sh d u Q := zr_ic25.trans (by rw [if_neg (show ¬ (zw x ≤ zw y) from h)])
theorem zsp_25 {x y : Int} (h1 : ((x + 2147483648) % 4294967296 - 2147483648) ≤ ((y + 2147483648) % 4294967296 - 2147483648) → zJ S D m a L st n sh d u Q) (h2 : ¬ (((x + 2147483648) % 4294967296 - 2147483648) ≤ ((y + 2147483648) % 4294967296 - 2147483648)) → zB S D m is L st n sh d u Q) : zB S D m ((25, a, b, c, k) :: is) L (zv_i y :: zv_i x :: st) n sh d u Q := (Classical.em (((x + 2147483648) % 4294967296 - 2147483648) ≤ ((y + 2147483648) % 4294967296 - 2147483648))).elim (fun h => (zt_25 h).mpr (h1 h)) (fun h => (zf_25 h).mpr (h2 h))
end SYM
set_option maxRecDepth 100000
theorem zc_0_0 : zcd 0 0 = zb_0_0 := by decide +kernel
theorem zj_0_0 {S : zSs} {D n u : Nat} {sh : zk_S} {d : zm_D} {Q : ((Option zv_V) ⊕ Nat) → Nat → zk_S → zm_D → Nat → Prop} {L : zN} {st : List zv_V} : zJ S D 0 0 L st n sh d u Q ↔ zB S D 0 zb_0_0 L st n sh d u Q := by unfold zJ; rw [zc_0_0]
theorem zc_0_1 : zcd 0 1 = zb_0_1 := by decide +kernel
theorem zj_0_1 {S : zSs} {D n u : Nat} {sh : zk_S} {d : zm_D} {Q : ((Option zv_V) ⊕ Nat) → Nat → zk_S → zm_D → Nat → Prop} {L : zN} {st : List zv_V} : zJ S D 0 1 L st n sh d u Q ↔ zB S D 0 zb_0_1 L st n sh d u Q := by unfold zJ; rw [zc_0_1]
theorem zc_0_2 : zcd 0 2 = zb_0_2 := by decide +kernel
theorem zj_0_2 {S : zSs} {D n u : Nat} {sh : zk_S} {d : zm_D} {Q : ((Option zv_V) ⊕ Nat) → Nat → zk_S → zm_D → Nat → Prop} {L : zN} {st : List zv_V} : zJ S D 0 2 L st n sh d u Q ↔ zB S D 0 zb_0_2 L st n sh d u Q := by unfold zJ; rw [zc_0_2]
theorem zn_0 : znl 0 = 4 := by decide +kernel
theorem ze_0 {S : zSs} {D n u : Nat} {sh : zk_S} {d : zm_D} {Q : ((Option zv_V) ⊕ Nat) → Nat → zk_S → zm_D → Nat → Prop} {x0 : Int} {x1 : Int} {x2 : Int} : zE S D 0 [zv_a x0, zv_a x1, zv_a x2] n sh d u Q ↔ zB S D 0 zb_0_0 [some (zv_a x0), some (zv_a x1), some (zv_a x2), none] [] n sh d u Q := by
  unfold zE; rw [zn_0, zc_0_0]; exact ⟨fun h => h.2, fun h => ⟨Nat.le_of_ble_eq_true rfl, h⟩⟩
theorem ze_0s {S : zSs} {D n u : Nat} {sh : zk_S} {d : zm_D} {Q : ((Option zv_V) ⊕ Nat) → Nat → zk_S → zm_D → Nat → Prop} {x0 : Int} {x1 : Int} : zE S D 0 [zv_a x0, zv_a x1] n sh d u Q ↔ zB S D 0 zb_0_0 [some (zv_a x0), some (zv_a x1), none, none] [] n sh d u Q := by
  unfold zE; rw [zn_0, zc_0_0]; exact ⟨fun h => h.2, fun h => ⟨Nat.le_of_ble_eq_true rfl, h⟩⟩
theorem zh_0 : zhl 0 = [] := by decide +kernel
theorem zc_1_0 : zcd 1 0 = zb_1_0 := by decide +kernel
theorem zj_1_0 {S : zSs} {D n u : Nat} {sh : zk_S} {d : zm_D} {Q : ((Option zv_V) ⊕ Nat) → Nat → zk_S → zm_D → Nat → Prop} {L : zN} {st : List zv_V} : zJ S D 1 0 L st n sh d u Q ↔ zB S D 1 zb_1_0 L st n sh d u Q := by unfold zJ; rw [zc_1_0]
theorem zc_1_1 : zcd 1 1 = zb_1_1 := by decide +kernel
theorem zj_1_1 {S : zSs} {D n u : Nat} {sh : zk_S} {d : zm_D} {Q : ((Option zv_V) ⊕ Nat) → Nat → zk_S → zm_D → Nat → Prop} {L : zN} {st : List zv_V} : zJ S D 1 1 L st n sh d u Q ↔ zB S D 1 zb_1_1 L st n sh d u Q := by unfold zJ; rw [zc_1_1]
theorem zc_1_2 : zcd 1 2 = zb_1_2 := by decide +kernel
theorem zj_1_2 {S : zSs} {D n u : Nat} {sh : zk_S} {d : zm_D} {Q : ((Option zv_V) ⊕ Nat) → Nat → zk_S → zm_D → Nat → Prop} {L : zN} {st : List zv_V} : zJ S D 1 2 L st n sh d u Q ↔ zB S D 1 zb_1_2 L st n sh d u Q := by unfold zJ; rw [zc_1_2]
theorem zc_1_3 : zcd 1 3 = zb_1_3 := by decide +kernel
theorem zj_1_3 {S : zSs} {D n u : Nat} {sh : zk_S} {d : zm_D} {Q : ((Option zv_V) ⊕ Nat) → Nat → zk_S → zm_D → Nat → Prop} {L : zN} {st : List zv_V} : zJ S D 1 3 L st n sh d u Q ↔ zB S D 1 zb_1_3 L st n sh d u Q := by unfold zJ; rw [zc_1_3]
theorem zc_1_4 : zcd 1 4 = zb_1_4 := by decide +kernel
theorem zj_1_4 {S : zSs} {D n u : Nat} {sh : zk_S} {d : zm_D} {Q : ((Option zv_V) ⊕ Nat) → Nat → zk_S → zm_D → Nat → Prop} {L : zN} {st : List zv_V} : zJ S D 1 4 L st n sh d u Q ↔ zB S D 1 zb_1_4 L st n sh d u Q := by unfold zJ; rw [zc_1_4]
theorem zn_1 : znl 1 = 4 := by decide +kernel
theorem ze_1 {S : zSs} {D n u : Nat} {sh : zk_S} {d : zm_D} {Q : ((Option zv_V) ⊕ Nat) → Nat → zk_S → zm_D → Nat → Prop} {x0 : Int} {x1 : Int} {x2 : Int} : zE S D 1 [zv_a x0, zv_i x1, zv_i x2] n sh d u Q ↔ zB S D 1 zb_1_0 [some (zv_a x0), some (zv_i x1), some (zv_i x2), none] [] n sh d u Q := by
  unfold zE; rw [zn_1, zc_1_0]; exact ⟨fun h => h.2, fun h => ⟨Nat.le_of_ble_eq_true rfl, h⟩⟩
theorem ze_1s {S : zSs} {D n u : Nat} {sh : zk_S} {d : zm_D} {Q : ((Option zv_V) ⊕ Nat) → Nat → zk_S → zm_D → Nat → Prop} {x0 : Int} {x1 : Int} : zE S D 1 [zv_i x0, zv_i x1] n sh d u Q ↔ zB S D 1 zb_1_0 [some (zv_i x0), some (zv_i x1), none, none] [] n sh d u Q := by
  unfold zE; rw [zn_1, zc_1_0]; exact ⟨fun h => h.2, fun h => ⟨Nat.le_of_ble_eq_true rfl, h⟩⟩
theorem zh_1 : zhl 1 = [] := by decide +kernel
theorem zc_2_0 : zcd 2 0 = zb_2_0 := by decide +kernel
theorem zj_2_0 {S : zSs} {D n u : Nat} {sh : zk_S} {d : zm_D} {Q : ((Option zv_V) ⊕ Nat) → Nat → zk_S → zm_D → Nat → Prop} {L : zN} {st : List zv_V} : zJ S D 2 0 L st n sh d u Q ↔ zB S D 2 zb_2_0 L st n sh d u Q := by unfold zJ; rw [zc_2_0]
theorem zc_2_1 : zcd 2 1 = zb_2_1 := by decide +kernel
theorem zj_2_1 {S : zSs} {D n u : Nat} {sh : zk_S} {d : zm_D} {Q : ((Option zv_V) ⊕ Nat) → Nat → zk_S → zm_D → Nat → Prop} {L : zN} {st : List zv_V} : zJ S D 2 1 L st n sh d u Q ↔ zB S D 2 zb_2_1 L st n sh d u Q := by unfold zJ; rw [zc_2_1]
theorem zc_2_2 : zcd 2 2 = zb_2_2 := by decide +kernel
theorem zj_2_2 {S : zSs} {D n u : Nat} {sh : zk_S} {d : zm_D} {Q : ((Option zv_V) ⊕ Nat) → Nat → zk_S → zm_D → Nat → Prop} {L : zN} {st : List zv_V} : zJ S D 2 2 L st n sh d u Q ↔ zB S D 2 zb_2_2 L st n sh d u Q := by unfold zJ; rw [zc_2_2]
theorem zc_2_3 : zcd 2 3 = zb_2_3 := by decide +kernel
theorem zj_2_3 {S : zSs} {D n u : Nat} {sh : zk_S} {d : zm_D} {Q : ((Option zv_V) ⊕ Nat) → Nat → zk_S → zm_D → Nat → Prop} {L : zN} {st : List zv_V} : zJ S D 2 3 L st n sh d u Q ↔ zB S D 2 zb_2_3 L st n sh d u Q := by unfold zJ; rw [zc_2_3]
theorem zn_2 : znl 2 = 5 := by decide +kernel
theorem ze_2 {S : zSs} {D n u : Nat} {sh : zk_S} {d : zm_D} {Q : ((Option zv_V) ⊕ Nat) → Nat → zk_S → zm_D → Nat → Prop} {x0 : Int} : zE S D 2 [zv_a x0] n sh d u Q ↔ zB S D 2 zb_2_0 [some (zv_a x0), none, none, none, none] [] n sh d u Q := by
  unfold zE; rw [zn_2, zc_2_0]; exact ⟨fun h => h.2, fun h => ⟨Nat.le_of_ble_eq_true rfl, h⟩⟩
theorem ze_2s {S : zSs} {D n u : Nat} {sh : zk_S} {d : zm_D} {Q : ((Option zv_V) ⊕ Nat) → Nat → zk_S → zm_D → Nat → Prop} : zE S D 2 [] n sh d u Q ↔ zB S D 2 zb_2_0 [none, none, none, none, none] [] n sh d u Q := by
  unfold zE; rw [zn_2, zc_2_0]; exact ⟨fun h => h.2, fun h => ⟨Nat.le_of_ble_eq_true rfl, h⟩⟩
theorem zh_2 : zhl 2 = [] := by decide +kernel
theorem zc_3_0 : zcd 3 0 = zb_3_0 := by decide +kernel
theorem zj_3_0 {S : zSs} {D n u : Nat} {sh : zk_S} {d : zm_D} {Q : ((Option zv_V) ⊕ Nat) → Nat → zk_S → zm_D → Nat → Prop} {L : zN} {st : List zv_V} : zJ S D 3 0 L st n sh d u Q ↔ zB S D 3 zb_3_0 L st n sh d u Q := by unfold zJ; rw [zc_3_0]
theorem zc_3_1 : zcd 3 1 = zb_3_1 := by decide +kernel
theorem zj_3_1 {S : zSs} {D n u : Nat} {sh : zk_S} {d : zm_D} {Q : ((Option zv_V) ⊕ Nat) → Nat → zk_S → zm_D → Nat → Prop} {L : zN} {st : List zv_V} : zJ S D 3 1 L st n sh d u Q ↔ zB S D 3 zb_3_1 L st n sh d u Q := by unfold zJ; rw [zc_3_1]
theorem zc_3_2 : zcd 3 2 = zb_3_2 := by decide +kernel
theorem zj_3_2 {S : zSs} {D n u : Nat} {sh : zk_S} {d : zm_D} {Q : ((Option zv_V) ⊕ Nat) → Nat → zk_S → zm_D → Nat → Prop} {L : zN} {st : List zv_V} : zJ S D 3 2 L st n sh d u Q ↔ zB S D 3 zb_3_2 L st n sh d u Q := by unfold zJ; rw [zc_3_2]
theorem zc_3_3 : zcd 3 3 = zb_3_3 := by decide +kernel
theorem zj_3_3 {S : zSs} {D n u : Nat} {sh : zk_S} {d : zm_D} {Q : ((Option zv_V) ⊕ Nat) → Nat → zk_S → zm_D → Nat → Prop} {L : zN} {st : List zv_V} : zJ S D 3 3 L st n sh d u Q ↔ zB S D 3 zb_3_3 L st n sh d u Q := by unfold zJ; rw [zc_3_3]
theorem zn_3 : znl 3 = 7 := by decide +kernel
theorem ze_3 {S : zSs} {D n u : Nat} {sh : zk_S} {d : zm_D} {Q : ((Option zv_V) ⊕ Nat) → Nat → zk_S → zm_D → Nat → Prop} {x0 : Int} {x1 : Int} : zE S D 3 [zv_a x0, zv_a x1] n sh d u Q ↔ zB S D 3 zb_3_0 [some (zv_a x0), some (zv_a x1), none, none, none, none, none] [] n sh d u Q := by
  unfold zE; rw [zn_3, zc_3_0]; exact ⟨fun h => h.2, fun h => ⟨Nat.le_of_ble_eq_true rfl, h⟩⟩
theorem ze_3s {S : zSs} {D n u : Nat} {sh : zk_S} {d : zm_D} {Q : ((Option zv_V) ⊕ Nat) → Nat → zk_S → zm_D → Nat → Prop} {x0 : Int} : zE S D 3 [zv_a x0] n sh d u Q ↔ zB S D 3 zb_3_0 [some (zv_a x0), none, none, none, none, none, none] [] n sh d u Q := by
  unfold zE; rw [zn_3, zc_3_0]; exact ⟨fun h => h.2, fun h => ⟨Nat.le_of_ble_eq_true rfl, h⟩⟩
theorem zh_3 : zhl 3 = [] := by decide +kernel
theorem zc_4_0 : zcd 4 0 = zb_4_0 := by decide +kernel
theorem zj_4_0 {S : zSs} {D n u : Nat} {sh : zk_S} {d : zm_D} {Q : ((Option zv_V) ⊕ Nat) → Nat → zk_S → zm_D → Nat → Prop} {L : zN} {st : List zv_V} : zJ S D 4 0 L st n sh d u Q ↔ zB S D 4 zb_4_0 L st n sh d u Q := by unfold zJ; rw [zc_4_0]
theorem zc_4_1 : zcd 4 1 = zb_4_1 := by decide +kernel
theorem zj_4_1 {S : zSs} {D n u : Nat} {sh : zk_S} {d : zm_D} {Q : ((Option zv_V) ⊕ Nat) → Nat → zk_S → zm_D → Nat → Prop} {L : zN} {st : List zv_V} : zJ S D 4 1 L st n sh d u Q ↔ zB S D 4 zb_4_1 L st n sh d u Q := by unfold zJ; rw [zc_4_1]
theorem zc_4_2 : zcd 4 2 = zb_4_2 := by decide +kernel
theorem zj_4_2 {S : zSs} {D n u : Nat} {sh : zk_S} {d : zm_D} {Q : ((Option zv_V) ⊕ Nat) → Nat → zk_S → zm_D → Nat → Prop} {L : zN} {st : List zv_V} : zJ S D 4 2 L st n sh d u Q ↔ zB S D 4 zb_4_2 L st n sh d u Q := by unfold zJ; rw [zc_4_2]
theorem zc_4_3 : zcd 4 3 = zb_4_3 := by decide +kernel
theorem zj_4_3 {S : zSs} {D n u : Nat} {sh : zk_S} {d : zm_D} {Q : ((Option zv_V) ⊕ Nat) → Nat → zk_S → zm_D → Nat → Prop} {L : zN} {st : List zv_V} : zJ S D 4 3 L st n sh d u Q ↔ zB S D 4 zb_4_3 L st n sh d u Q := by unfold zJ; rw [zc_4_3]
theorem zn_4 : znl 4 = 7 := by decide +kernel
theorem ze_4 {S : zSs} {D n u : Nat} {sh : zk_S} {d : zm_D} {Q : ((Option zv_V) ⊕ Nat) → Nat → zk_S → zm_D → Nat → Prop} {x0 : Int} {x1 : Int} : zE S D 4 [zv_a x0, zv_a x1] n sh d u Q ↔ zB S D 4 zb_4_0 [some (zv_a x0), some (zv_a x1), none, none, none, none, none] [] n sh d u Q := by
  unfold zE; rw [zn_4, zc_4_0]; exact ⟨fun h => h.2, fun h => ⟨Nat.le_of_ble_eq_true rfl, h⟩⟩
theorem ze_4s {S : zSs} {D n u : Nat} {sh : zk_S} {d : zm_D} {Q : ((Option zv_V) ⊕ Nat) → Nat → zk_S → zm_D → Nat → Prop} {x0 : Int} : zE S D 4 [zv_a x0] n sh d u Q ↔ zB S D 4 zb_4_0 [some (zv_a x0), none, none, none, none, none, none] [] n sh d u Q := by
  unfold zE; rw [zn_4, zc_4_0]; exact ⟨fun h => h.2, fun h => ⟨Nat.le_of_ble_eq_true rfl, h⟩⟩
theorem zh_4 : zhl 4 = [] := by decide +kernel
theorem zc_5_0 : zcd 5 0 = zb_5_0 := by decide +kernel
theorem zj_5_0 {S : zSs} {D n u : Nat} {sh : zk_S} {d : zm_D} {Q : ((Option zv_V) ⊕ Nat) → Nat → zk_S → zm_D → Nat → Prop} {L : zN} {st : List zv_V} : zJ S D 5 0 L st n sh d u Q ↔ zB S D 5 zb_5_0 L st n sh d u Q := by unfold zJ; rw [zc_5_0]
theorem zc_5_1 : zcd 5 1 = zb_5_1 := by decide +kernel
theorem zj_5_1 {S : zSs} {D n u : Nat} {sh : zk_S} {d : zm_D} {Q : ((Option zv_V) ⊕ Nat) → Nat → zk_S → zm_D → Nat → Prop} {L : zN} {st : List zv_V} : zJ S D 5 1 L st n sh d u Q ↔ zB S D 5 zb_5_1 L st n sh d u Q := by unfold zJ; rw [zc_5_1]
theorem zc_5_2 : zcd 5 2 = zb_5_2 := by decide +kernel
theorem zj_5_2 {S : zSs} {D n u : Nat} {sh : zk_S} {d : zm_D} {Q : ((Option zv_V) ⊕ Nat) → Nat → zk_S → zm_D → Nat → Prop} {L : zN} {st : List zv_V} : zJ S D 5 2 L st n sh d u Q ↔ zB S D 5 zb_5_2 L st n sh d u Q := by unfold zJ; rw [zc_5_2]
theorem zn_5 : znl 5 = 5 := by decide +kernel
theorem ze_5 {S : zSs} {D n u : Nat} {sh : zk_S} {d : zm_D} {Q : ((Option zv_V) ⊕ Nat) → Nat → zk_S → zm_D → Nat → Prop} {x0 : Int} : zE S D 5 [zv_a x0] n sh d u Q ↔ zB S D 5 zb_5_0 [some (zv_a x0), none, none, none, none] [] n sh d u Q := by
  unfold zE; rw [zn_5, zc_5_0]; exact ⟨fun h => h.2, fun h => ⟨Nat.le_of_ble_eq_true rfl, h⟩⟩
theorem ze_5s {S : zSs} {D n u : Nat} {sh : zk_S} {d : zm_D} {Q : ((Option zv_V) ⊕ Nat) → Nat → zk_S → zm_D → Nat → Prop} : zE S D 5 [] n sh d u Q ↔ zB S D 5 zb_5_0 [none, none, none, none, none] [] n sh d u Q := by
  unfold zE; rw [zn_5, zc_5_0]; exact ⟨fun h => h.2, fun h => ⟨Nat.le_of_ble_eq_true rfl, h⟩⟩
theorem zh_5 : zhl 5 = [] := by decide +kernel
theorem zc_6_0 : zcd 6 0 = zb_6_0 := by decide +kernel
theorem zj_6_0 {S : zSs} {D n u : Nat} {sh : zk_S} {d : zm_D} {Q : ((Option zv_V) ⊕ Nat) → Nat → zk_S → zm_D → Nat → Prop} {L : zN} {st : List zv_V} : zJ S D 6 0 L st n sh d u Q ↔ zB S D 6 zb_6_0 L st n sh d u Q := by unfold zJ; rw [zc_6_0]
theorem zc_6_1 : zcd 6 1 = zb_6_1 := by decide +kernel
theorem zj_6_1 {S : zSs} {D n u : Nat} {sh : zk_S} {d : zm_D} {Q : ((Option zv_V) ⊕ Nat) → Nat → zk_S → zm_D → Nat → Prop} {L : zN} {st : List zv_V} : zJ S D 6 1 L st n sh d u Q ↔ zB S D 6 zb_6_1 L st n sh d u Q := by unfold zJ; rw [zc_6_1]
theorem zc_6_2 : zcd 6 2 = zb_6_2 := by decide +kernel
theorem zj_6_2 {S : zSs} {D n u : Nat} {sh : zk_S} {d : zm_D} {Q : ((Option zv_V) ⊕ Nat) → Nat → zk_S → zm_D → Nat → Prop} {L : zN} {st : List zv_V} : zJ S D 6 2 L st n sh d u Q ↔ zB S D 6 zb_6_2 L st n sh d u Q := by unfold zJ; rw [zc_6_2]
theorem zc_6_3 : zcd 6 3 = zb_6_3 := by decide +kernel
theorem zj_6_3 {S : zSs} {D n u : Nat} {sh : zk_S} {d : zm_D} {Q : ((Option zv_V) ⊕ Nat) → Nat → zk_S → zm_D → Nat → Prop} {L : zN} {st : List zv_V} : zJ S D 6 3 L st n sh d u Q ↔ zB S D 6 zb_6_3 L st n sh d u Q := by unfold zJ; rw [zc_6_3]
theorem zn_6 : znl 6 = 2 := by decide +kernel
theorem ze_6 {S : zSs} {D n u : Nat} {sh : zk_S} {d : zm_D} {Q : ((Option zv_V) ⊕ Nat) → Nat → zk_S → zm_D → Nat → Prop} {x0 : Int} : zE S D 6 [zv_a x0] n sh d u Q ↔ zB S D 6 zb_6_0 [some (zv_a x0), none] [] n sh d u Q := by
  unfold zE; rw [zn_6, zc_6_0]; exact ⟨fun h => h.2, fun h => ⟨Nat.le_of_ble_eq_true rfl, h⟩⟩
theorem ze_6s {S : zSs} {D n u : Nat} {sh : zk_S} {d : zm_D} {Q : ((Option zv_V) ⊕ Nat) → Nat → zk_S → zm_D → Nat → Prop} : zE S D 6 [] n sh d u Q ↔ zB S D 6 zb_6_0 [none, none] [] n sh d u Q := by
  unfold zE; rw [zn_6, zc_6_0]; exact ⟨fun h => h.2, fun h => ⟨Nat.le_of_ble_eq_true rfl, h⟩⟩
theorem zh_6 : zhl 6 = [] := by decide +kernel
theorem zc_7_0 : zcd 7 0 = zb_7_0 := by decide +kernel
theorem zj_7_0 {S : zSs} {D n u : Nat} {sh : zk_S} {d : zm_D} {Q : ((Option zv_V) ⊕ Nat) → Nat → zk_S → zm_D → Nat → Prop} {L : zN} {st : List zv_V} : zJ S D 7 0 L st n sh d u Q ↔ zB S D 7 zb_7_0 L st n sh d u Q := by unfold zJ; rw [zc_7_0]
theorem zc_7_1 : zcd 7 1 = zb_7_1 := by decide +kernel
theorem zj_7_1 {S : zSs} {D n u : Nat} {sh : zk_S} {d : zm_D} {Q : ((Option zv_V) ⊕ Nat) → Nat → zk_S → zm_D → Nat → Prop} {L : zN} {st : List zv_V} : zJ S D 7 1 L st n sh d u Q ↔ zB S D 7 zb_7_1 L st n sh d u Q := by unfold zJ; rw [zc_7_1]
theorem zc_7_2 : zcd 7 2 = zb_7_2 := by decide +kernel
theorem zj_7_2 {S : zSs} {D n u : Nat} {sh : zk_S} {d : zm_D} {Q : ((Option zv_V) ⊕ Nat) → Nat → zk_S → zm_D → Nat → Prop} {L : zN} {st : List zv_V} : zJ S D 7 2 L st n sh d u Q ↔ zB S D 7 zb_7_2 L st n sh d u Q := by unfold zJ; rw [zc_7_2]
theorem zc_7_3 : zcd 7 3 = zb_7_3 := by decide +kernel
theorem zj_7_3 {S : zSs} {D n u : Nat} {sh : zk_S} {d : zm_D} {Q : ((Option zv_V) ⊕ Nat) → Nat → zk_S → zm_D → Nat → Prop} {L : zN} {st : List zv_V} : zJ S D 7 3 L st n sh d u Q ↔ zB S D 7 zb_7_3 L st n sh d u Q := by unfold zJ; rw [zc_7_3]
theorem zc_7_4 : zcd 7 4 = zb_7_4 := by decide +kernel
theorem zj_7_4 {S : zSs} {D n u : Nat} {sh : zk_S} {d : zm_D} {Q : ((Option zv_V) ⊕ Nat) → Nat → zk_S → zm_D → Nat → Prop} {L : zN} {st : List zv_V} : zJ S D 7 4 L st n sh d u Q ↔ zB S D 7 zb_7_4 L st n sh d u Q := by unfold zJ; rw [zc_7_4]
theorem zn_7 : znl 7 = 5 := by decide +kernel
theorem ze_7 {S : zSs} {D n u : Nat} {sh : zk_S} {d : zm_D} {Q : ((Option zv_V) ⊕ Nat) → Nat → zk_S → zm_D → Nat → Prop} {x0 : Int} : zE S D 7 [zv_a x0] n sh d u Q ↔ zB S D 7 zb_7_0 [some (zv_a x0), none, none, none, none] [] n sh d u Q := by
  unfold zE; rw [zn_7, zc_7_0]; exact ⟨fun h => h.2, fun h => ⟨Nat.le_of_ble_eq_true rfl, h⟩⟩
theorem ze_7s {S : zSs} {D n u : Nat} {sh : zk_S} {d : zm_D} {Q : ((Option zv_V) ⊕ Nat) → Nat → zk_S → zm_D → Nat → Prop} : zE S D 7 [] n sh d u Q ↔ zB S D 7 zb_7_0 [none, none, none, none, none] [] n sh d u Q := by
  unfold zE; rw [zn_7, zc_7_0]; exact ⟨fun h => h.2, fun h => ⟨Nat.le_of_ble_eq_true rfl, h⟩⟩
theorem zh_7 : zhl 7 = [] := by decide +kernel
theorem zc_8_0 : zcd 8 0 = zb_8_0 := by decide +kernel
theorem zj_8_0 {S : zSs} {D n u : Nat} {sh : zk_S} {d : zm_D} {Q : ((Option zv_V) ⊕ Nat) → Nat → zk_S → zm_D → Nat → Prop} {L : zN} {st : List zv_V} : zJ S D 8 0 L st n sh d u Q ↔ zB S D 8 zb_8_0 L st n sh d u Q := by unfold zJ; rw [zc_8_0]
theorem zc_8_1 : zcd 8 1 = zb_8_1 := by decide +kernel
theorem zj_8_1 {S : zSs} {D n u : Nat} {sh : zk_S} {d : zm_D} {Q : ((Option zv_V) ⊕ Nat) → Nat → zk_S → zm_D → Nat → Prop} {L : zN} {st : List zv_V} : zJ S D 8 1 L st n sh d u Q ↔ zB S D 8 zb_8_1 L st n sh d u Q := by unfold zJ; rw [zc_8_1]
theorem zc_8_2 : zcd 8 2 = zb_8_2 := by decide +kernel
theorem zj_8_2 {S : zSs} {D n u : Nat} {sh : zk_S} {d : zm_D} {Q : ((Option zv_V) ⊕ Nat) → Nat → zk_S → zm_D → Nat → Prop} {L : zN} {st : List zv_V} : zJ S D 8 2 L st n sh d u Q ↔ zB S D 8 zb_8_2 L st n sh d u Q := by unfold zJ; rw [zc_8_2]
theorem zc_8_3 : zcd 8 3 = zb_8_3 := by decide +kernel
theorem zj_8_3 {S : zSs} {D n u : Nat} {sh : zk_S} {d : zm_D} {Q : ((Option zv_V) ⊕ Nat) → Nat → zk_S → zm_D → Nat → Prop} {L : zN} {st : List zv_V} : zJ S D 8 3 L st n sh d u Q ↔ zB S D 8 zb_8_3 L st n sh d u Q := by unfold zJ; rw [zc_8_3]
theorem zn_8 : znl 8 = 5 := by decide +kernel
theorem ze_8 {S : zSs} {D n u : Nat} {sh : zk_S} {d : zm_D} {Q : ((Option zv_V) ⊕ Nat) → Nat → zk_S → zm_D → Nat → Prop} {x0 : Int} : zE S D 8 [zv_a x0] n sh d u Q ↔ zB S D 8 zb_8_0 [some (zv_a x0), none, none, none, none] [] n sh d u Q := by
  unfold zE; rw [zn_8, zc_8_0]; exact ⟨fun h => h.2, fun h => ⟨Nat.le_of_ble_eq_true rfl, h⟩⟩
theorem ze_8s {S : zSs} {D n u : Nat} {sh : zk_S} {d : zm_D} {Q : ((Option zv_V) ⊕ Nat) → Nat → zk_S → zm_D → Nat → Prop} : zE S D 8 [] n sh d u Q ↔ zB S D 8 zb_8_0 [none, none, none, none, none] [] n sh d u Q := by
  unfold zE; rw [zn_8, zc_8_0]; exact ⟨fun h => h.2, fun h => ⟨Nat.le_of_ble_eq_true rfl, h⟩⟩
theorem zh_8 : zhl 8 = [] := by decide +kernel
theorem zc_9_0 : zcd 9 0 = zb_9_0 := by decide +kernel
theorem zj_9_0 {S : zSs} {D n u : Nat} {sh : zk_S} {d : zm_D} {Q : ((Option zv_V) ⊕ Nat) → Nat → zk_S → zm_D → Nat → Prop} {L : zN} {st : List zv_V} : zJ S D 9 0 L st n sh d u Q ↔ zB S D 9 zb_9_0 L st n sh d u Q := by unfold zJ; rw [zc_9_0]
theorem zc_9_1 : zcd 9 1 = zb_9_1 := by decide +kernel
theorem zj_9_1 {S : zSs} {D n u : Nat} {sh : zk_S} {d : zm_D} {Q : ((Option zv_V) ⊕ Nat) → Nat → zk_S → zm_D → Nat → Prop} {L : zN} {st : List zv_V} : zJ S D 9 1 L st n sh d u Q ↔ zB S D 9 zb_9_1 L st n sh d u Q := by unfold zJ; rw [zc_9_1]
theorem zc_9_2 : zcd 9 2 = zb_9_2 := by decide +kernel
theorem zj_9_2 {S : zSs} {D n u : Nat} {sh : zk_S} {d : zm_D} {Q : ((Option zv_V) ⊕ Nat) → Nat → zk_S → zm_D → Nat → Prop} {L : zN} {st : List zv_V} : zJ S D 9 2 L st n sh d u Q ↔ zB S D 9 zb_9_2 L st n sh d u Q := by unfold zJ; rw [zc_9_2]
theorem zn_9 : znl 9 = 3 := by decide +kernel
theorem ze_9 {S : zSs} {D n u : Nat} {sh : zk_S} {d : zm_D} {Q : ((Option zv_V) ⊕ Nat) → Nat → zk_S → zm_D → Nat → Prop} {x0 : Int} {x1 : Int} : zE S D 9 [zv_a x0, zv_a x1] n sh d u Q ↔ zB S D 9 zb_9_0 [some (zv_a x0), some (zv_a x1), none] [] n sh d u Q := by
  unfold zE; rw [zn_9, zc_9_0]; exact ⟨fun h => h.2, fun h => ⟨Nat.le_of_ble_eq_true rfl, h⟩⟩
theorem ze_9s {S : zSs} {D n u : Nat} {sh : zk_S} {d : zm_D} {Q : ((Option zv_V) ⊕ Nat) → Nat → zk_S → zm_D → Nat → Prop} {x0 : Int} : zE S D 9 [zv_a x0] n sh d u Q ↔ zB S D 9 zb_9_0 [some (zv_a x0), none, none] [] n sh d u Q := by
  unfold zE; rw [zn_9, zc_9_0]; exact ⟨fun h => h.2, fun h => ⟨Nat.le_of_ble_eq_true rfl, h⟩⟩
theorem zh_9 : zhl 9 = [] := by decide +kernel
theorem zc_10_0 : zcd 10 0 = zb_10_0 := by decide +kernel
theorem zj_10_0 {S : zSs} {D n u : Nat} {sh : zk_S} {d : zm_D} {Q : ((Option zv_V) ⊕ Nat) → Nat → zk_S → zm_D → Nat → Prop} {L : zN} {st : List zv_V} : zJ S D 10 0 L st n sh d u Q ↔ zB S D 10 zb_10_0 L st n sh d u Q := by unfold zJ; rw [zc_10_0]
theorem zc_10_1 : zcd 10 1 = zb_10_1 := by decide +kernel
theorem zj_10_1 {S : zSs} {D n u : Nat} {sh : zk_S} {d : zm_D} {Q : ((Option zv_V) ⊕ Nat) → Nat → zk_S → zm_D → Nat → Prop} {L : zN} {st : List zv_V} : zJ S D 10 1 L st n sh d u Q ↔ zB S D 10 zb_10_1 L st n sh d u Q := by unfold zJ; rw [zc_10_1]
theorem zn_10 : znl 10 = 5 := by decide +kernel
theorem ze_10 {S : zSs} {D n u : Nat} {sh : zk_S} {d : zm_D} {Q : ((Option zv_V) ⊕ Nat) → Nat → zk_S → zm_D → Nat → Prop} {x0 : Int} {x1 : Int} {x2 : Int} : zE S D 10 [zv_a x0, zv_a x1, zv_a x2] n sh d u Q ↔ zB S D 10 zb_10_0 [some (zv_a x0), some (zv_a x1), some (zv_a x2), none, none] [] n sh d u Q := by
  unfold zE; rw [zn_10, zc_10_0]; exact ⟨fun h => h.2, fun h => ⟨Nat.le_of_ble_eq_true rfl, h⟩⟩
theorem ze_10s {S : zSs} {D n u : Nat} {sh : zk_S} {d : zm_D} {Q : ((Option zv_V) ⊕ Nat) → Nat → zk_S → zm_D → Nat → Prop} {x0 : Int} {x1 : Int} : zE S D 10 [zv_a x0, zv_a x1] n sh d u Q ↔ zB S D 10 zb_10_0 [some (zv_a x0), some (zv_a x1), none, none, none] [] n sh d u Q := by
  unfold zE; rw [zn_10, zc_10_0]; exact ⟨fun h => h.2, fun h => ⟨Nat.le_of_ble_eq_true rfl, h⟩⟩
theorem zh_10 : zhl 10 = [] := by decide +kernel
theorem zc_11_0 : zcd 11 0 = zb_11_0 := by decide +kernel
theorem zj_11_0 {S : zSs} {D n u : Nat} {sh : zk_S} {d : zm_D} {Q : ((Option zv_V) ⊕ Nat) → Nat → zk_S → zm_D → Nat → Prop} {L : zN} {st : List zv_V} : zJ S D 11 0 L st n sh d u Q ↔ zB S D 11 zb_11_0 L st n sh d u Q := by unfold zJ; rw [zc_11_0]
theorem zc_11_1 : zcd 11 1 = zb_11_1 := by decide +kernel
theorem zj_11_1 {S : zSs} {D n u : Nat} {sh : zk_S} {d : zm_D} {Q : ((Option zv_V) ⊕ Nat) → Nat → zk_S → zm_D → Nat → Prop} {L : zN} {st : List zv_V} : zJ S D 11 1 L st n sh d u Q ↔ zB S D 11 zb_11_1 L st n sh d u Q := by unfold zJ; rw [zc_11_1]
theorem zc_11_2 : zcd 11 2 = zb_11_2 := by decide +kernel
theorem zj_11_2 {S : zSs} {D n u : Nat} {sh : zk_S} {d : zm_D} {Q : ((Option zv_V) ⊕ Nat) → Nat → zk_S → zm_D → Nat → Prop} {L : zN} {st : List zv_V} : zJ S D 11 2 L st n sh d u Q ↔ zB S D 11 zb_11_2 L st n sh d u Q := by unfold zJ; rw [zc_11_2]
theorem zc_11_3 : zcd 11 3 = zb_11_3 := by decide +kernel
theorem zj_11_3 {S : zSs} {D n u : Nat} {sh : zk_S} {d : zm_D} {Q : ((Option zv_V) ⊕ Nat) → Nat → zk_S → zm_D → Nat → Prop} {L : zN} {st : List zv_V} : zJ S D 11 3 L st n sh d u Q ↔ zB S D 11 zb_11_3 L st n sh d u Q := by unfold zJ; rw [zc_11_3]
theorem zc_11_4 : zcd 11 4 = zb_11_4 := by decide +kernel
theorem zj_11_4 {S : zSs} {D n u : Nat} {sh : zk_S} {d : zm_D} {Q : ((Option zv_V) ⊕ Nat) → Nat → zk_S → zm_D → Nat → Prop} {L : zN} {st : List zv_V} : zJ S D 11 4 L st n sh d u Q ↔ zB S D 11 zb_11_4 L st n sh d u Q := by unfold zJ; rw [zc_11_4]
theorem zn_11 : znl 11 = 5 := by decide +kernel
theorem ze_11 {S : zSs} {D n u : Nat} {sh : zk_S} {d : zm_D} {Q : ((Option zv_V) ⊕ Nat) → Nat → zk_S → zm_D → Nat → Prop} {x0 : Int} : zE S D 11 [zv_a x0] n sh d u Q ↔ zB S D 11 zb_11_0 [some (zv_a x0), none, none, none, none] [] n sh d u Q := by
  unfold zE; rw [zn_11, zc_11_0]; exact ⟨fun h => h.2, fun h => ⟨Nat.le_of_ble_eq_true rfl, h⟩⟩
theorem ze_11s {S : zSs} {D n u : Nat} {sh : zk_S} {d : zm_D} {Q : ((Option zv_V) ⊕ Nat) → Nat → zk_S → zm_D → Nat → Prop} : zE S D 11 [] n sh d u Q ↔ zB S D 11 zb_11_0 [none, none, none, none, none] [] n sh d u Q := by
  unfold zE; rw [zn_11, zc_11_0]; exact ⟨fun h => h.2, fun h => ⟨Nat.le_of_ble_eq_true rfl, h⟩⟩
theorem zh_11 : zhl 11 = [] := by decide +kernel
theorem zc_12_0 : zcd 12 0 = zb_12_0 := by decide +kernel
theorem zj_12_0 {S : zSs} {D n u : Nat} {sh : zk_S} {d : zm_D} {Q : ((Option zv_V) ⊕ Nat) → Nat → zk_S → zm_D → Nat → Prop} {L : zN} {st : List zv_V} : zJ S D 12 0 L st n sh d u Q ↔ zB S D 12 zb_12_0 L st n sh d u Q := by unfold zJ; rw [zc_12_0]
theorem zc_12_1 : zcd 12 1 = zb_12_1 := by decide +kernel
theorem zj_12_1 {S : zSs} {D n u : Nat} {sh : zk_S} {d : zm_D} {Q : ((Option zv_V) ⊕ Nat) → Nat → zk_S → zm_D → Nat → Prop} {L : zN} {st : List zv_V} : zJ S D 12 1 L st n sh d u Q ↔ zB S D 12 zb_12_1 L st n sh d u Q := by unfold zJ; rw [zc_12_1]
theorem zc_12_2 : zcd 12 2 = zb_12_2 := by decide +kernel
theorem zj_12_2 {S : zSs} {D n u : Nat} {sh : zk_S} {d : zm_D} {Q : ((Option zv_V) ⊕ Nat) → Nat → zk_S → zm_D → Nat → Prop} {L : zN} {st : List zv_V} : zJ S D 12 2 L st n sh d u Q ↔ zB S D 12 zb_12_2 L st n sh d u Q := by unfold zJ; rw [zc_12_2]
theorem zc_12_3 : zcd 12 3 = zb_12_3 := by decide +kernel
theorem zj_12_3 {S : zSs} {D n u : Nat} {sh : zk_S} {d : zm_D} {Q : ((Option zv_V) ⊕ Nat) → Nat → zk_S → zm_D → Nat → Prop} {L : zN} {st : List zv_V} : zJ S D 12 3 L st n sh d u Q ↔ zB S D 12 zb_12_3 L st n sh d u Q := by unfold zJ; rw [zc_12_3]
theorem zc_12_4 : zcd 12 4 = zb_12_4 := by decide +kernel
theorem zj_12_4 {S : zSs} {D n u : Nat} {sh : zk_S} {d : zm_D} {Q : ((Option zv_V) ⊕ Nat) → Nat → zk_S → zm_D → Nat → Prop} {L : zN} {st : List zv_V} : zJ S D 12 4 L st n sh d u Q ↔ zB S D 12 zb_12_4 L st n sh d u Q := by unfold zJ; rw [zc_12_4]
theorem zc_12_5 : zcd 12 5 = zb_12_5 := by decide +kernel
theorem zj_12_5 {S : zSs} {D n u : Nat} {sh : zk_S} {d : zm_D} {Q : ((Option zv_V) ⊕ Nat) → Nat → zk_S → zm_D → Nat → Prop} {L : zN} {st : List zv_V} : zJ S D 12 5 L st n sh d u Q ↔ zB S D 12 zb_12_5 L st n sh d u Q := by unfold zJ; rw [zc_12_5]
theorem zc_12_6 : zcd 12 6 = zb_12_6 := by decide +kernel
theorem zj_12_6 {S : zSs} {D n u : Nat} {sh : zk_S} {d : zm_D} {Q : ((Option zv_V) ⊕ Nat) → Nat → zk_S → zm_D → Nat → Prop} {L : zN} {st : List zv_V} : zJ S D 12 6 L st n sh d u Q ↔ zB S D 12 zb_12_6 L st n sh d u Q := by unfold zJ; rw [zc_12_6]
theorem zc_12_7 : zcd 12 7 = zb_12_7 := by decide +kernel
theorem zj_12_7 {S : zSs} {D n u : Nat} {sh : zk_S} {d : zm_D} {Q : ((Option zv_V) ⊕ Nat) → Nat → zk_S → zm_D → Nat → Prop} {L : zN} {st : List zv_V} : zJ S D 12 7 L st n sh d u Q ↔ zB S D 12 zb_12_7 L st n sh d u Q := by unfold zJ; rw [zc_12_7]
theorem zn_12 : znl 12 = 6 := by decide +kernel
theorem ze_12 {S : zSs} {D n u : Nat} {sh : zk_S} {d : zm_D} {Q : ((Option zv_V) ⊕ Nat) → Nat → zk_S → zm_D → Nat → Prop} {x0 : Int} : zE S D 12 [zv_a x0] n sh d u Q ↔ zB S D 12 zb_12_0 [some (zv_a x0), none, none, none, none, none] [] n sh d u Q := by
  unfold zE; rw [zn_12, zc_12_0]; exact ⟨fun h => h.2, fun h => ⟨Nat.le_of_ble_eq_true rfl, h⟩⟩
theorem ze_12s {S : zSs} {D n u : Nat} {sh : zk_S} {d : zm_D} {Q : ((Option zv_V) ⊕ Nat) → Nat → zk_S → zm_D → Nat → Prop} : zE S D 12 [] n sh d u Q ↔ zB S D 12 zb_12_0 [none, none, none, none, none, none] [] n sh d u Q := by
  unfold zE; rw [zn_12, zc_12_0]; exact ⟨fun h => h.2, fun h => ⟨Nat.le_of_ble_eq_true rfl, h⟩⟩
theorem zh_12 : zhl 12 = [] := by decide +kernel
theorem zc_13_0 : zcd 13 0 = zb_13_0 := by decide +kernel
theorem zj_13_0 {S : zSs} {D n u : Nat} {sh : zk_S} {d : zm_D} {Q : ((Option zv_V) ⊕ Nat) → Nat → zk_S → zm_D → Nat → Prop} {L : zN} {st : List zv_V} : zJ S D 13 0 L st n sh d u Q ↔ zB S D 13 zb_13_0 L st n sh d u Q := by unfold zJ; rw [zc_13_0]
theorem zc_13_1 : zcd 13 1 = zb_13_1 := by decide +kernel
theorem zj_13_1 {S : zSs} {D n u : Nat} {sh : zk_S} {d : zm_D} {Q : ((Option zv_V) ⊕ Nat) → Nat → zk_S → zm_D → Nat → Prop} {L : zN} {st : List zv_V} : zJ S D 13 1 L st n sh d u Q ↔ zB S D 13 zb_13_1 L st n sh d u Q := by unfold zJ; rw [zc_13_1]
theorem zc_13_2 : zcd 13 2 = zb_13_2 := by decide +kernel
theorem zj_13_2 {S : zSs} {D n u : Nat} {sh : zk_S} {d : zm_D} {Q : ((Option zv_V) ⊕ Nat) → Nat → zk_S → zm_D → Nat → Prop} {L : zN} {st : List zv_V} : zJ S D 13 2 L st n sh d u Q ↔ zB S D 13 zb_13_2 L st n sh d u Q := by unfold zJ; rw [zc_13_2]
theorem zc_13_3 : zcd 13 3 = zb_13_3 := by decide +kernel
theorem zj_13_3 {S : zSs} {D n u : Nat} {sh : zk_S} {d : zm_D} {Q : ((Option zv_V) ⊕ Nat) → Nat → zk_S → zm_D → Nat → Prop} {L : zN} {st : List zv_V} : zJ S D 13 3 L st n sh d u Q ↔ zB S D 13 zb_13_3 L st n sh d u Q := by unfold zJ; rw [zc_13_3]
theorem zn_13 : znl 13 = 2 := by decide +kernel
theorem ze_13 {S : zSs} {D n u : Nat} {sh : zk_S} {d : zm_D} {Q : ((Option zv_V) ⊕ Nat) → Nat → zk_S → zm_D → Nat → Prop} {x0 : Int} : zE S D 13 [zv_a x0] n sh d u Q ↔ zB S D 13 zb_13_0 [some (zv_a x0), none] [] n sh d u Q := by
  unfold zE; rw [zn_13, zc_13_0]; exact ⟨fun h => h.2, fun h => ⟨Nat.le_of_ble_eq_true rfl, h⟩⟩
theorem ze_13s {S : zSs} {D n u : Nat} {sh : zk_S} {d : zm_D} {Q : ((Option zv_V) ⊕ Nat) → Nat → zk_S → zm_D → Nat → Prop} : zE S D 13 [] n sh d u Q ↔ zB S D 13 zb_13_0 [none, none] [] n sh d u Q := by
  unfold zE; rw [zn_13, zc_13_0]; exact ⟨fun h => h.2, fun h => ⟨Nat.le_of_ble_eq_true rfl, h⟩⟩
theorem zh_13 : zhl 13 = [] := by decide +kernel
theorem zc_14_0 : zcd 14 0 = zb_14_0 := by decide +kernel
theorem zj_14_0 {S : zSs} {D n u : Nat} {sh : zk_S} {d : zm_D} {Q : ((Option zv_V) ⊕ Nat) → Nat → zk_S → zm_D → Nat → Prop} {L : zN} {st : List zv_V} : zJ S D 14 0 L st n sh d u Q ↔ zB S D 14 zb_14_0 L st n sh d u Q := by unfold zJ; rw [zc_14_0]
theorem zc_14_1 : zcd 14 1 = zb_14_1 := by decide +kernel
theorem zj_14_1 {S : zSs} {D n u : Nat} {sh : zk_S} {d : zm_D} {Q : ((Option zv_V) ⊕ Nat) → Nat → zk_S → zm_D → Nat → Prop} {L : zN} {st : List zv_V} : zJ S D 14 1 L st n sh d u Q ↔ zB S D 14 zb_14_1 L st n sh d u Q := by unfold zJ; rw [zc_14_1]
theorem zc_14_2 : zcd 14 2 = zb_14_2 := by decide +kernel
theorem zj_14_2 {S : zSs} {D n u : Nat} {sh : zk_S} {d : zm_D} {Q : ((Option zv_V) ⊕ Nat) → Nat → zk_S → zm_D → Nat → Prop} {L : zN} {st : List zv_V} : zJ S D 14 2 L st n sh d u Q ↔ zB S D 14 zb_14_2 L st n sh d u Q := by unfold zJ; rw [zc_14_2]
theorem zc_14_3 : zcd 14 3 = zb_14_3 := by decide +kernel
theorem zj_14_3 {S : zSs} {D n u : Nat} {sh : zk_S} {d : zm_D} {Q : ((Option zv_V) ⊕ Nat) → Nat → zk_S → zm_D → Nat → Prop} {L : zN} {st : List zv_V} : zJ S D 14 3 L st n sh d u Q ↔ zB S D 14 zb_14_3 L st n sh d u Q := by unfold zJ; rw [zc_14_3]
theorem zc_14_4 : zcd 14 4 = zb_14_4 := by decide +kernel
theorem zj_14_4 {S : zSs} {D n u : Nat} {sh : zk_S} {d : zm_D} {Q : ((Option zv_V) ⊕ Nat) → Nat → zk_S → zm_D → Nat → Prop} {L : zN} {st : List zv_V} : zJ S D 14 4 L st n sh d u Q ↔ zB S D 14 zb_14_4 L st n sh d u Q := by unfold zJ; rw [zc_14_4]
theorem zn_14 : znl 14 = 6 := by decide +kernel
theorem ze_14 {S : zSs} {D n u : Nat} {sh : zk_S} {d : zm_D} {Q : ((Option zv_V) ⊕ Nat) → Nat → zk_S → zm_D → Nat → Prop} {x0 : Int} {x1 : Int} {x2 : Int} : zE S D 14 [zv_a x0, zv_a x1, zv_a x2] n sh d u Q ↔ zB S D 14 zb_14_0 [some (zv_a x0), some (zv_a x1), some (zv_a x2), none, none, none] [] n sh d u Q := by
  unfold zE; rw [zn_14, zc_14_0]; exact ⟨fun h => h.2, fun h => ⟨Nat.le_of_ble_eq_true rfl, h⟩⟩
theorem ze_14s {S : zSs} {D n u : Nat} {sh : zk_S} {d : zm_D} {Q : ((Option zv_V) ⊕ Nat) → Nat → zk_S → zm_D → Nat → Prop} {x0 : Int} {x1 : Int} : zE S D 14 [zv_a x0, zv_a x1] n sh d u Q ↔ zB S D 14 zb_14_0 [some (zv_a x0), some (zv_a x1), none, none, none, none] [] n sh d u Q := by
  unfold zE; rw [zn_14, zc_14_0]; exact ⟨fun h => h.2, fun h => ⟨Nat.le_of_ble_eq_true rfl, h⟩⟩
theorem zh_14 : zhl 14 = [] := by decide +kernel
theorem zc_15_0 : zcd 15 0 = zb_15_0 := by decide +kernel
theorem zj_15_0 {S : zSs} {D n u : Nat} {sh : zk_S} {d : zm_D} {Q : ((Option zv_V) ⊕ Nat) → Nat → zk_S → zm_D → Nat → Prop} {L : zN} {st : List zv_V} : zJ S D 15 0 L st n sh d u Q ↔ zB S D 15 zb_15_0 L st n sh d u Q := by unfold zJ; rw [zc_15_0]
theorem zc_15_1 : zcd 15 1 = zb_15_1 := by decide +kernel
theorem zj_15_1 {S : zSs} {D n u : Nat} {sh : zk_S} {d : zm_D} {Q : ((Option zv_V) ⊕ Nat) → Nat → zk_S → zm_D → Nat → Prop} {L : zN} {st : List zv_V} : zJ S D 15 1 L st n sh d u Q ↔ zB S D 15 zb_15_1 L st n sh d u Q := by unfold zJ; rw [zc_15_1]
theorem zc_15_2 : zcd 15 2 = zb_15_2 := by decide +kernel
theorem zj_15_2 {S : zSs} {D n u : Nat} {sh : zk_S} {d : zm_D} {Q : ((Option zv_V) ⊕ Nat) → Nat → zk_S → zm_D → Nat → Prop} {L : zN} {st : List zv_V} : zJ S D 15 2 L st n sh d u Q ↔ zB S D 15 zb_15_2 L st n sh d u Q := by unfold zJ; rw [zc_15_2]
theorem zc_15_3 : zcd 15 3 = zb_15_3 := by decide +kernel
theorem zj_15_3 {S : zSs} {D n u : Nat} {sh : zk_S} {d : zm_D} {Q : ((Option zv_V) ⊕ Nat) → Nat → zk_S → zm_D → Nat → Prop} {L : zN} {st : List zv_V} : zJ S D 15 3 L st n sh d u Q ↔ zB S D 15 zb_15_3 L st n sh d u Q := by unfold zJ; rw [zc_15_3]
theorem zc_15_4 : zcd 15 4 = zb_15_4 := by decide +kernel
theorem zj_15_4 {S : zSs} {D n u : Nat} {sh : zk_S} {d : zm_D} {Q : ((Option zv_V) ⊕ Nat) → Nat → zk_S → zm_D → Nat → Prop} {L : zN} {st : List zv_V} : zJ S D 15 4 L st n sh d u Q ↔ zB S D 15 zb_15_4 L st n sh d u Q := by unfold zJ; rw [zc_15_4]
theorem zc_15_5 : zcd 15 5 = zb_15_5 := by decide +kernel
theorem zj_15_5 {S : zSs} {D n u : Nat} {sh : zk_S} {d : zm_D} {Q : ((Option zv_V) ⊕ Nat) → Nat → zk_S → zm_D → Nat → Prop} {L : zN} {st : List zv_V} : zJ S D 15 5 L st n sh d u Q ↔ zB S D 15 zb_15_5 L st n sh d u Q := by unfold zJ; rw [zc_15_5]
theorem zc_15_6 : zcd 15 6 = zb_15_6 := by decide +kernel
theorem zj_15_6 {S : zSs} {D n u : Nat} {sh : zk_S} {d : zm_D} {Q : ((Option zv_V) ⊕ Nat) → Nat → zk_S → zm_D → Nat → Prop} {L : zN} {st : List zv_V} : zJ S D 15 6 L st n sh d u Q ↔ zB S D 15 zb_15_6 L st n sh d u Q := by unfold zJ; rw [zc_15_6]
theorem zc_15_7 : zcd 15 7 = zb_15_7 := by decide +kernel
theorem zj_15_7 {S : zSs} {D n u : Nat} {sh : zk_S} {d : zm_D} {Q : ((Option zv_V) ⊕ Nat) → Nat → zk_S → zm_D → Nat → Prop} {L : zN} {st : List zv_V} : zJ S D 15 7 L st n sh d u Q ↔ zB S D 15 zb_15_7 L st n sh d u Q := by unfold zJ; rw [zc_15_7]
theorem zn_15 : znl 15 = 5 := by decide +kernel
theorem ze_15 {S : zSs} {D n u : Nat} {sh : zk_S} {d : zm_D} {Q : ((Option zv_V) ⊕ Nat) → Nat → zk_S → zm_D → Nat → Prop} {x0 : Int} {x1 : Int} {x2 : Int} : zE S D 15 [zv_a x0, zv_a x1, zv_a x2] n sh d u Q ↔ zB S D 15 zb_15_0 [some (zv_a x0), some (zv_a x1), some (zv_a x2), none, none] [] n sh d u Q := by
  unfold zE; rw [zn_15, zc_15_0]; exact ⟨fun h => h.2, fun h => ⟨Nat.le_of_ble_eq_true rfl, h⟩⟩
theorem ze_15s {S : zSs} {D n u : Nat} {sh : zk_S} {d : zm_D} {Q : ((Option zv_V) ⊕ Nat) → Nat → zk_S → zm_D → Nat → Prop} {x0 : Int} {x1 : Int} : zE S D 15 [zv_a x0, zv_a x1] n sh d u Q ↔ zB S D 15 zb_15_0 [some (zv_a x0), some (zv_a x1), none, none, none] [] n sh d u Q := by
  unfold zE; rw [zn_15, zc_15_0]; exact ⟨fun h => h.2, fun h => ⟨Nat.le_of_ble_eq_true rfl, h⟩⟩
theorem zh_15 : zhl 15 = [] := by decide +kernel
theorem zc_16_0 : zcd 16 0 = zb_16_0 := by decide +kernel
theorem zj_16_0 {S : zSs} {D n u : Nat} {sh : zk_S} {d : zm_D} {Q : ((Option zv_V) ⊕ Nat) → Nat → zk_S → zm_D → Nat → Prop} {L : zN} {st : List zv_V} : zJ S D 16 0 L st n sh d u Q ↔ zB S D 16 zb_16_0 L st n sh d u Q := by unfold zJ; rw [zc_16_0]
theorem zc_16_1 : zcd 16 1 = zb_16_1 := by decide +kernel
theorem zj_16_1 {S : zSs} {D n u : Nat} {sh : zk_S} {d : zm_D} {Q : ((Option zv_V) ⊕ Nat) → Nat → zk_S → zm_D → Nat → Prop} {L : zN} {st : List zv_V} : zJ S D 16 1 L st n sh d u Q ↔ zB S D 16 zb_16_1 L st n sh d u Q := by unfold zJ; rw [zc_16_1]
theorem zn_16 : znl 16 = 2 := by decide +kernel
theorem ze_16 {S : zSs} {D n u : Nat} {sh : zk_S} {d : zm_D} {Q : ((Option zv_V) ⊕ Nat) → Nat → zk_S → zm_D → Nat → Prop} {x0 : Int} {x1 : Int} : zE S D 16 [zv_a x0, zv_i x1] n sh d u Q ↔ zB S D 16 zb_16_0 [some (zv_a x0), some (zv_i x1)] [] n sh d u Q := by
  unfold zE; rw [zn_16, zc_16_0]; exact ⟨fun h => h.2, fun h => ⟨Nat.le_of_ble_eq_true rfl, h⟩⟩
theorem ze_16s {S : zSs} {D n u : Nat} {sh : zk_S} {d : zm_D} {Q : ((Option zv_V) ⊕ Nat) → Nat → zk_S → zm_D → Nat → Prop} {x0 : Int} : zE S D 16 [zv_i x0] n sh d u Q ↔ zB S D 16 zb_16_0 [some (zv_i x0), none] [] n sh d u Q := by
  unfold zE; rw [zn_16, zc_16_0]; exact ⟨fun h => h.2, fun h => ⟨Nat.le_of_ble_eq_true rfl, h⟩⟩
theorem zh_16 : zhl 16 = [] := by decide +kernel
theorem zc_17_0 : zcd 17 0 = zb_17_0 := by decide +kernel
theorem zj_17_0 {S : zSs} {D n u : Nat} {sh : zk_S} {d : zm_D} {Q : ((Option zv_V) ⊕ Nat) → Nat → zk_S → zm_D → Nat → Prop} {L : zN} {st : List zv_V} : zJ S D 17 0 L st n sh d u Q ↔ zB S D 17 zb_17_0 L st n sh d u Q := by unfold zJ; rw [zc_17_0]
theorem zn_17 : znl 17 = 1 := by decide +kernel
theorem ze_17 {S : zSs} {D n u : Nat} {sh : zk_S} {d : zm_D} {Q : ((Option zv_V) ⊕ Nat) → Nat → zk_S → zm_D → Nat → Prop} {x0 : Int} : zE S D 17 [zv_a x0] n sh d u Q ↔ zB S D 17 zb_17_0 [some (zv_a x0)] [] n sh d u Q := by
  unfold zE; rw [zn_17, zc_17_0]; exact ⟨fun h => h.2, fun h => ⟨Nat.le_of_ble_eq_true rfl, h⟩⟩
theorem ze_17s {S : zSs} {D n u : Nat} {sh : zk_S} {d : zm_D} {Q : ((Option zv_V) ⊕ Nat) → Nat → zk_S → zm_D → Nat → Prop} : zE S D 17 [] n sh d u Q ↔ zB S D 17 zb_17_0 [none] [] n sh d u Q := by
  unfold zE; rw [zn_17, zc_17_0]; exact ⟨fun h => h.2, fun h => ⟨Nat.le_of_ble_eq_true rfl, h⟩⟩
theorem zh_17 : zhl 17 = [] := by decide +kernel
theorem zc_18_0 : zcd 18 0 = zb_18_0 := by decide +kernel
theorem zj_18_0 {S : zSs} {D n u : Nat} {sh : zk_S} {d : zm_D} {Q : ((Option zv_V) ⊕ Nat) → Nat → zk_S → zm_D → Nat → Prop} {L : zN} {st : List zv_V} : zJ S D 18 0 L st n sh d u Q ↔ zB S D 18 zb_18_0 L st n sh d u Q := by unfold zJ; rw [zc_18_0]
theorem zc_18_1 : zcd 18 1 = zb_18_1 := by decide +kernel
theorem zj_18_1 {S : zSs} {D n u : Nat} {sh : zk_S} {d : zm_D} {Q : ((Option zv_V) ⊕ Nat) → Nat → zk_S → zm_D → Nat → Prop} {L : zN} {st : List zv_V} : zJ S D 18 1 L st n sh d u Q ↔ zB S D 18 zb_18_1 L st n sh d u Q := by unfold zJ; rw [zc_18_1]
theorem zc_18_2 : zcd 18 2 = zb_18_2 := by decide +kernel
theorem zj_18_2 {S : zSs} {D n u : Nat} {sh : zk_S} {d : zm_D} {Q : ((Option zv_V) ⊕ Nat) → Nat → zk_S → zm_D → Nat → Prop} {L : zN} {st : List zv_V} : zJ S D 18 2 L st n sh d u Q ↔ zB S D 18 zb_18_2 L st n sh d u Q := by unfold zJ; rw [zc_18_2]
theorem zc_18_3 : zcd 18 3 = zb_18_3 := by decide +kernel
theorem zj_18_3 {S : zSs} {D n u : Nat} {sh : zk_S} {d : zm_D} {Q : ((Option zv_V) ⊕ Nat) → Nat → zk_S → zm_D → Nat → Prop} {L : zN} {st : List zv_V} : zJ S D 18 3 L st n sh d u Q ↔ zB S D 18 zb_18_3 L st n sh d u Q := by unfold zJ; rw [zc_18_3]
theorem zc_18_4 : zcd 18 4 = zb_18_4 := by decide +kernel
theorem zj_18_4 {S : zSs} {D n u : Nat} {sh : zk_S} {d : zm_D} {Q : ((Option zv_V) ⊕ Nat) → Nat → zk_S → zm_D → Nat → Prop} {L : zN} {st : List zv_V} : zJ S D 18 4 L st n sh d u Q ↔ zB S D 18 zb_18_4 L st n sh d u Q := by unfold zJ; rw [zc_18_4]
theorem zn_18 : znl 18 = 5 := by decide +kernel
theorem ze_18 {S : zSs} {D n u : Nat} {sh : zk_S} {d : zm_D} {Q : ((Option zv_V) ⊕ Nat) → Nat → zk_S → zm_D → Nat → Prop} {x0 : Int} {x1 : Int} {x2 : Int} : zE S D 18 [zv_a x0, zv_i x1, zv_a x2] n sh d u Q ↔ zB S D 18 zb_18_0 [some (zv_a x0), some (zv_i x1), some (zv_a x2), none, none] [] n sh d u Q := by
  unfold zE; rw [zn_18, zc_18_0]; exact ⟨fun h => h.2, fun h => ⟨Nat.le_of_ble_eq_true rfl, h⟩⟩
theorem ze_18s {S : zSs} {D n u : Nat} {sh : zk_S} {d : zm_D} {Q : ((Option zv_V) ⊕ Nat) → Nat → zk_S → zm_D → Nat → Prop} {x0 : Int} {x1 : Int} : zE S D 18 [zv_i x0, zv_a x1] n sh d u Q ↔ zB S D 18 zb_18_0 [some (zv_i x0), some (zv_a x1), none, none, none] [] n sh d u Q := by
  unfold zE; rw [zn_18, zc_18_0]; exact ⟨fun h => h.2, fun h => ⟨Nat.le_of_ble_eq_true rfl, h⟩⟩
theorem zh_18 : zhl 18 = [] := by decide +kernel
theorem zc_19_0 : zcd 19 0 = zb_19_0 := by decide +kernel
theorem zj_19_0 {S : zSs} {D n u : Nat} {sh : zk_S} {d : zm_D} {Q : ((Option zv_V) ⊕ Nat) → Nat → zk_S → zm_D → Nat → Prop} {L : zN} {st : List zv_V} : zJ S D 19 0 L st n sh d u Q ↔ zB S D 19 zb_19_0 L st n sh d u Q := by unfold zJ; rw [zc_19_0]
theorem zc_19_1 : zcd 19 1 = zb_19_1 := by decide +kernel
theorem zj_19_1 {S : zSs} {D n u : Nat} {sh : zk_S} {d : zm_D} {Q : ((Option zv_V) ⊕ Nat) → Nat → zk_S → zm_D → Nat → Prop} {L : zN} {st : List zv_V} : zJ S D 19 1 L st n sh d u Q ↔ zB S D 19 zb_19_1 L st n sh d u Q := by unfold zJ; rw [zc_19_1]
theorem zc_19_2 : zcd 19 2 = zb_19_2 := by decide +kernel
theorem zj_19_2 {S : zSs} {D n u : Nat} {sh : zk_S} {d : zm_D} {Q : ((Option zv_V) ⊕ Nat) → Nat → zk_S → zm_D → Nat → Prop} {L : zN} {st : List zv_V} : zJ S D 19 2 L st n sh d u Q ↔ zB S D 19 zb_19_2 L st n sh d u Q := by unfold zJ; rw [zc_19_2]
theorem zc_19_3 : zcd 19 3 = zb_19_3 := by decide +kernel
theorem zj_19_3 {S : zSs} {D n u : Nat} {sh : zk_S} {d : zm_D} {Q : ((Option zv_V) ⊕ Nat) → Nat → zk_S → zm_D → Nat → Prop} {L : zN} {st : List zv_V} : zJ S D 19 3 L st n sh d u Q ↔ zB S D 19 zb_19_3 L st n sh d u Q := by unfold zJ; rw [zc_19_3]
theorem zc_19_4 : zcd 19 4 = zb_19_4 := by decide +kernel
theorem zj_19_4 {S : zSs} {D n u : Nat} {sh : zk_S} {d : zm_D} {Q : ((Option zv_V) ⊕ Nat) → Nat → zk_S → zm_D → Nat → Prop} {L : zN} {st : List zv_V} : zJ S D 19 4 L st n sh d u Q ↔ zB S D 19 zb_19_4 L st n sh d u Q := by unfold zJ; rw [zc_19_4]
theorem zc_19_5 : zcd 19 5 = zb_19_5 := by decide +kernel
theorem zj_19_5 {S : zSs} {D n u : Nat} {sh : zk_S} {d : zm_D} {Q : ((Option zv_V) ⊕ Nat) → Nat → zk_S → zm_D → Nat → Prop} {L : zN} {st : List zv_V} : zJ S D 19 5 L st n sh d u Q ↔ zB S D 19 zb_19_5 L st n sh d u Q := by unfold zJ; rw [zc_19_5]
theorem zc_19_6 : zcd 19 6 = zb_19_6 := by decide +kernel
theorem zj_19_6 {S : zSs} {D n u : Nat} {sh : zk_S} {d : zm_D} {Q : ((Option zv_V) ⊕ Nat) → Nat → zk_S → zm_D → Nat → Prop} {L : zN} {st : List zv_V} : zJ S D 19 6 L st n sh d u Q ↔ zB S D 19 zb_19_6 L st n sh d u Q := by unfold zJ; rw [zc_19_6]
theorem zc_19_7 : zcd 19 7 = zb_19_7 := by decide +kernel
theorem zj_19_7 {S : zSs} {D n u : Nat} {sh : zk_S} {d : zm_D} {Q : ((Option zv_V) ⊕ Nat) → Nat → zk_S → zm_D → Nat → Prop} {L : zN} {st : List zv_V} : zJ S D 19 7 L st n sh d u Q ↔ zB S D 19 zb_19_7 L st n sh d u Q := by unfold zJ; rw [zc_19_7]
theorem zc_19_8 : zcd 19 8 = zb_19_8 := by decide +kernel
theorem zj_19_8 {S : zSs} {D n u : Nat} {sh : zk_S} {d : zm_D} {Q : ((Option zv_V) ⊕ Nat) → Nat → zk_S → zm_D → Nat → Prop} {L : zN} {st : List zv_V} : zJ S D 19 8 L st n sh d u Q ↔ zB S D 19 zb_19_8 L st n sh d u Q := by unfold zJ; rw [zc_19_8]
theorem zc_19_9 : zcd 19 9 = zb_19_9 := by decide +kernel
theorem zj_19_9 {S : zSs} {D n u : Nat} {sh : zk_S} {d : zm_D} {Q : ((Option zv_V) ⊕ Nat) → Nat → zk_S → zm_D → Nat → Prop} {L : zN} {st : List zv_V} : zJ S D 19 9 L st n sh d u Q ↔ zB S D 19 zb_19_9 L st n sh d u Q := by unfold zJ; rw [zc_19_9]
theorem zc_19_10 : zcd 19 10 = zb_19_10 := by decide +kernel
theorem zj_19_10 {S : zSs} {D n u : Nat} {sh : zk_S} {d : zm_D} {Q : ((Option zv_V) ⊕ Nat) → Nat → zk_S → zm_D → Nat → Prop} {L : zN} {st : List zv_V} : zJ S D 19 10 L st n sh d u Q ↔ zB S D 19 zb_19_10 L st n sh d u Q := by unfold zJ; rw [zc_19_10]
theorem zc_19_11 : zcd 19 11 = zb_19_11 := by decide +kernel
theorem zj_19_11 {S : zSs} {D n u : Nat} {sh : zk_S} {d : zm_D} {Q : ((Option zv_V) ⊕ Nat) → Nat → zk_S → zm_D → Nat → Prop} {L : zN} {st : List zv_V} : zJ S D 19 11 L st n sh d u Q ↔ zB S D 19 zb_19_11 L st n sh d u Q := by unfold zJ; rw [zc_19_11]
theorem zc_19_12 : zcd 19 12 = zb_19_12 := by decide +kernel
theorem zj_19_12 {S : zSs} {D n u : Nat} {sh : zk_S} {d : zm_D} {Q : ((Option zv_V) ⊕ Nat) → Nat → zk_S → zm_D → Nat → Prop} {L : zN} {st : List zv_V} : zJ S D 19 12 L st n sh d u Q ↔ zB S D 19 zb_19_12 L st n sh d u Q := by unfold zJ; rw [zc_19_12]
theorem zc_19_13 : zcd 19 13 = zb_19_13 := by decide +kernel
theorem zj_19_13 {S : zSs} {D n u : Nat} {sh : zk_S} {d : zm_D} {Q : ((Option zv_V) ⊕ Nat) → Nat → zk_S → zm_D → Nat → Prop} {L : zN} {st : List zv_V} : zJ S D 19 13 L st n sh d u Q ↔ zB S D 19 zb_19_13 L st n sh d u Q := by unfold zJ; rw [zc_19_13]
theorem zc_19_14 : zcd 19 14 = zb_19_14 := by decide +kernel
theorem zj_19_14 {S : zSs} {D n u : Nat} {sh : zk_S} {d : zm_D} {Q : ((Option zv_V) ⊕ Nat) → Nat → zk_S → zm_D → Nat → Prop} {L : zN} {st : List zv_V} : zJ S D 19 14 L st n sh d u Q ↔ zB S D 19 zb_19_14 L st n sh d u Q := by unfold zJ; rw [zc_19_14]
theorem zc_19_15 : zcd 19 15 = zb_19_15 := by decide +kernel
theorem zj_19_15 {S : zSs} {D n u : Nat} {sh : zk_S} {d : zm_D} {Q : ((Option zv_V) ⊕ Nat) → Nat → zk_S → zm_D → Nat → Prop} {L : zN} {st : List zv_V} : zJ S D 19 15 L st n sh d u Q ↔ zB S D 19 zb_19_15 L st n sh d u Q := by unfold zJ; rw [zc_19_15]
theorem zc_19_16 : zcd 19 16 = zb_19_16 := by decide +kernel
theorem zj_19_16 {S : zSs} {D n u : Nat} {sh : zk_S} {d : zm_D} {Q : ((Option zv_V) ⊕ Nat) → Nat → zk_S → zm_D → Nat → Prop} {L : zN} {st : List zv_V} : zJ S D 19 16 L st n sh d u Q ↔ zB S D 19 zb_19_16 L st n sh d u Q := by unfold zJ; rw [zc_19_16]
theorem zn_19 : znl 19 = 11 := by decide +kernel
theorem ze_19 {S : zSs} {D n u : Nat} {sh : zk_S} {d : zm_D} {Q : ((Option zv_V) ⊕ Nat) → Nat → zk_S → zm_D → Nat → Prop} {x0 : Int} {x1 : Int} {x2 : Int} {x3 : Int} {x4 : Int} {x5 : Int} : zE S D 19 [zv_a x0, zv_a x1, zv_i x2, zv_i x3, zv_i x4, zv_i x5] n sh d u Q ↔ zB S D 19 zb_19_0 [some (zv_a x0), some (zv_a x1), some (zv_i x2), some (zv_i x3), some (zv_i x4), some (zv_i x5), none, none, none, none, none] [] n sh d u Q := by
  unfold zE; rw [zn_19, zc_19_0]; exact ⟨fun h => h.2, fun h => ⟨Nat.le_of_ble_eq_true rfl, h⟩⟩
theorem ze_19s {S : zSs} {D n u : Nat} {sh : zk_S} {d : zm_D} {Q : ((Option zv_V) ⊕ Nat) → Nat → zk_S → zm_D → Nat → Prop} {x0 : Int} {x1 : Int} {x2 : Int} {x3 : Int} {x4 : Int} : zE S D 19 [zv_a x0, zv_i x1, zv_i x2, zv_i x3, zv_i x4] n sh d u Q ↔ zB S D 19 zb_19_0 [some (zv_a x0), some (zv_i x1), some (zv_i x2), some (zv_i x3), some (zv_i x4), none, none, none, none, none, none] [] n sh d u Q := by
  unfold zE; rw [zn_19, zc_19_0]; exact ⟨fun h => h.2, fun h => ⟨Nat.le_of_ble_eq_true rfl, h⟩⟩
theorem zh_19 : zhl 19 = [] := by decide +kernel
theorem zc_20_0 : zcd 20 0 = zb_20_0 := by decide +kernel
theorem zj_20_0 {S : zSs} {D n u : Nat} {sh : zk_S} {d : zm_D} {Q : ((Option zv_V) ⊕ Nat) → Nat → zk_S → zm_D → Nat → Prop} {L : zN} {st : List zv_V} : zJ S D 20 0 L st n sh d u Q ↔ zB S D 20 zb_20_0 L st n sh d u Q := by unfold zJ; rw [zc_20_0]
theorem zn_20 : znl 20 = 1 := by decide +kernel
theorem ze_20 {S : zSs} {D n u : Nat} {sh : zk_S} {d : zm_D} {Q : ((Option zv_V) ⊕ Nat) → Nat → zk_S → zm_D → Nat → Prop} {x0 : Int} : zE S D 20 [zv_a x0] n sh d u Q ↔ zB S D 20 zb_20_0 [some (zv_a x0)] [] n sh d u Q := by
  unfold zE; rw [zn_20, zc_20_0]; exact ⟨fun h => h.2, fun h => ⟨Nat.le_of_ble_eq_true rfl, h⟩⟩
theorem ze_20s {S : zSs} {D n u : Nat} {sh : zk_S} {d : zm_D} {Q : ((Option zv_V) ⊕ Nat) → Nat → zk_S → zm_D → Nat → Prop} : zE S D 20 [] n sh d u Q ↔ zB S D 20 zb_20_0 [none] [] n sh d u Q := by
  unfold zE; rw [zn_20, zc_20_0]; exact ⟨fun h => h.2, fun h => ⟨Nat.le_of_ble_eq_true rfl, h⟩⟩
theorem zh_20 : zhl 20 = [] := by decide +kernel
theorem zc_21_0 : zcd 21 0 = zb_21_0 := by decide +kernel
theorem zj_21_0 {S : zSs} {D n u : Nat} {sh : zk_S} {d : zm_D} {Q : ((Option zv_V) ⊕ Nat) → Nat → zk_S → zm_D → Nat → Prop} {L : zN} {st : List zv_V} : zJ S D 21 0 L st n sh d u Q ↔ zB S D 21 zb_21_0 L st n sh d u Q := by unfold zJ; rw [zc_21_0]
theorem zc_21_1 : zcd 21 1 = zb_21_1 := by decide +kernel
theorem zj_21_1 {S : zSs} {D n u : Nat} {sh : zk_S} {d : zm_D} {Q : ((Option zv_V) ⊕ Nat) → Nat → zk_S → zm_D → Nat → Prop} {L : zN} {st : List zv_V} : zJ S D 21 1 L st n sh d u Q ↔ zB S D 21 zb_21_1 L st n sh d u Q := by unfold zJ; rw [zc_21_1]
theorem zc_21_2 : zcd 21 2 = zb_21_2 := by decide +kernel
theorem zj_21_2 {S : zSs} {D n u : Nat} {sh : zk_S} {d : zm_D} {Q : ((Option zv_V) ⊕ Nat) → Nat → zk_S → zm_D → Nat → Prop} {L : zN} {st : List zv_V} : zJ S D 21 2 L st n sh d u Q ↔ zB S D 21 zb_21_2 L st n sh d u Q := by unfold zJ; rw [zc_21_2]
theorem zn_21 : znl 21 = 2 := by decide +kernel
theorem ze_21 {S : zSs} {D n u : Nat} {sh : zk_S} {d : zm_D} {Q : ((Option zv_V) ⊕ Nat) → Nat → zk_S → zm_D → Nat → Prop} {x0 : Int} {x1 : Int} : zE S D 21 [zv_a x0, zv_i x1] n sh d u Q ↔ zB S D 21 zb_21_0 [some (zv_a x0), some (zv_i x1)] [] n sh d u Q := by
  unfold zE; rw [zn_21, zc_21_0]; exact ⟨fun h => h.2, fun h => ⟨Nat.le_of_ble_eq_true rfl, h⟩⟩
theorem ze_21s {S : zSs} {D n u : Nat} {sh : zk_S} {d : zm_D} {Q : ((Option zv_V) ⊕ Nat) → Nat → zk_S → zm_D → Nat → Prop} {x0 : Int} : zE S D 21 [zv_i x0] n sh d u Q ↔ zB S D 21 zb_21_0 [some (zv_i x0), none] [] n sh d u Q := by
  unfold zE; rw [zn_21, zc_21_0]; exact ⟨fun h => h.2, fun h => ⟨Nat.le_of_ble_eq_true rfl, h⟩⟩
theorem zh_21 : zhl 21 = [] := by decide +kernel
theorem zc_22_0 : zcd 22 0 = zb_22_0 := by decide +kernel
theorem zj_22_0 {S : zSs} {D n u : Nat} {sh : zk_S} {d : zm_D} {Q : ((Option zv_V) ⊕ Nat) → Nat → zk_S → zm_D → Nat → Prop} {L : zN} {st : List zv_V} : zJ S D 22 0 L st n sh d u Q ↔ zB S D 22 zb_22_0 L st n sh d u Q := by unfold zJ; rw [zc_22_0]
theorem zc_22_1 : zcd 22 1 = zb_22_1 := by decide +kernel
theorem zj_22_1 {S : zSs} {D n u : Nat} {sh : zk_S} {d : zm_D} {Q : ((Option zv_V) ⊕ Nat) → Nat → zk_S → zm_D → Nat → Prop} {L : zN} {st : List zv_V} : zJ S D 22 1 L st n sh d u Q ↔ zB S D 22 zb_22_1 L st n sh d u Q := by unfold zJ; rw [zc_22_1]
theorem zc_22_2 : zcd 22 2 = zb_22_2 := by decide +kernel
theorem zj_22_2 {S : zSs} {D n u : Nat} {sh : zk_S} {d : zm_D} {Q : ((Option zv_V) ⊕ Nat) → Nat → zk_S → zm_D → Nat → Prop} {L : zN} {st : List zv_V} : zJ S D 22 2 L st n sh d u Q ↔ zB S D 22 zb_22_2 L st n sh d u Q := by unfold zJ; rw [zc_22_2]
theorem zn_22 : znl 22 = 3 := by decide +kernel
theorem ze_22 {S : zSs} {D n u : Nat} {sh : zk_S} {d : zm_D} {Q : ((Option zv_V) ⊕ Nat) → Nat → zk_S → zm_D → Nat → Prop} {x0 : Int} {x1 : Int} {x2 : Int} : zE S D 22 [zv_a x0, zv_i x1, zv_i x2] n sh d u Q ↔ zB S D 22 zb_22_0 [some (zv_a x0), some (zv_i x1), some (zv_i x2)] [] n sh d u Q := by
  unfold zE; rw [zn_22, zc_22_0]; exact ⟨fun h => h.2, fun h => ⟨Nat.le_of_ble_eq_true rfl, h⟩⟩
theorem ze_22s {S : zSs} {D n u : Nat} {sh : zk_S} {d : zm_D} {Q : ((Option zv_V) ⊕ Nat) → Nat → zk_S → zm_D → Nat → Prop} {x0 : Int} {x1 : Int} : zE S D 22 [zv_i x0, zv_i x1] n sh d u Q ↔ zB S D 22 zb_22_0 [some (zv_i x0), some (zv_i x1), none] [] n sh d u Q := by
  unfold zE; rw [zn_22, zc_22_0]; exact ⟨fun h => h.2, fun h => ⟨Nat.le_of_ble_eq_true rfl, h⟩⟩
theorem zh_22 : zhl 22 = [] := by decide +kernel
theorem zc_23_0 : zcd 23 0 = zb_23_0 := by decide +kernel
theorem zj_23_0 {S : zSs} {D n u : Nat} {sh : zk_S} {d : zm_D} {Q : ((Option zv_V) ⊕ Nat) → Nat → zk_S → zm_D → Nat → Prop} {L : zN} {st : List zv_V} : zJ S D 23 0 L st n sh d u Q ↔ zB S D 23 zb_23_0 L st n sh d u Q := by unfold zJ; rw [zc_23_0]
theorem zn_23 : znl 23 = 2 := by decide +kernel
theorem ze_23 {S : zSs} {D n u : Nat} {sh : zk_S} {d : zm_D} {Q : ((Option zv_V) ⊕ Nat) → Nat → zk_S → zm_D → Nat → Prop} {x0 : Int} {x1 : Int} : zE S D 23 [zv_a x0, zv_i x1] n sh d u Q ↔ zB S D 23 zb_23_0 [some (zv_a x0), some (zv_i x1)] [] n sh d u Q := by
  unfold zE; rw [zn_23, zc_23_0]; exact ⟨fun h => h.2, fun h => ⟨Nat.le_of_ble_eq_true rfl, h⟩⟩
theorem ze_23s {S : zSs} {D n u : Nat} {sh : zk_S} {d : zm_D} {Q : ((Option zv_V) ⊕ Nat) → Nat → zk_S → zm_D → Nat → Prop} {x0 : Int} : zE S D 23 [zv_i x0] n sh d u Q ↔ zB S D 23 zb_23_0 [some (zv_i x0), none] [] n sh d u Q := by
  unfold zE; rw [zn_23, zc_23_0]; exact ⟨fun h => h.2, fun h => ⟨Nat.le_of_ble_eq_true rfl, h⟩⟩
theorem zh_23 : zhl 23 = [] := by decide +kernel
theorem zc_24_0 : zcd 24 0 = zb_24_0 := by decide +kernel
theorem zj_24_0 {S : zSs} {D n u : Nat} {sh : zk_S} {d : zm_D} {Q : ((Option zv_V) ⊕ Nat) → Nat → zk_S → zm_D → Nat → Prop} {L : zN} {st : List zv_V} : zJ S D 24 0 L st n sh d u Q ↔ zB S D 24 zb_24_0 L st n sh d u Q := by unfold zJ; rw [zc_24_0]
theorem zc_24_1 : zcd 24 1 = zb_24_1 := by decide +kernel
theorem zj_24_1 {S : zSs} {D n u : Nat} {sh : zk_S} {d : zm_D} {Q : ((Option zv_V) ⊕ Nat) → Nat → zk_S → zm_D → Nat → Prop} {L : zN} {st : List zv_V} : zJ S D 24 1 L st n sh d u Q ↔ zB S D 24 zb_24_1 L st n sh d u Q := by unfold zJ; rw [zc_24_1]
theorem zn_24 : znl 24 = 2 := by decide +kernel
theorem ze_24 {S : zSs} {D n u : Nat} {sh : zk_S} {d : zm_D} {Q : ((Option zv_V) ⊕ Nat) → Nat → zk_S → zm_D → Nat → Prop} {x0 : Int} {x1 : Int} : zE S D 24 [zv_a x0, zv_i x1] n sh d u Q ↔ zB S D 24 zb_24_0 [some (zv_a x0), some (zv_i x1)] [] n sh d u Q := by
  unfold zE; rw [zn_24, zc_24_0]; exact ⟨fun h => h.2, fun h => ⟨Nat.le_of_ble_eq_true rfl, h⟩⟩
theorem ze_24s {S : zSs} {D n u : Nat} {sh : zk_S} {d : zm_D} {Q : ((Option zv_V) ⊕ Nat) → Nat → zk_S → zm_D → Nat → Prop} {x0 : Int} : zE S D 24 [zv_i x0] n sh d u Q ↔ zB S D 24 zb_24_0 [some (zv_i x0), none] [] n sh d u Q := by
  unfold zE; rw [zn_24, zc_24_0]; exact ⟨fun h => h.2, fun h => ⟨Nat.le_of_ble_eq_true rfl, h⟩⟩
theorem zh_24 : zhl 24 = [] := by decide +kernel
theorem zc_25_0 : zcd 25 0 = zb_25_0 := by decide +kernel
theorem zj_25_0 {S : zSs} {D n u : Nat} {sh : zk_S} {d : zm_D} {Q : ((Option zv_V) ⊕ Nat) → Nat → zk_S → zm_D → Nat → Prop} {L : zN} {st : List zv_V} : zJ S D 25 0 L st n sh d u Q ↔ zB S D 25 zb_25_0 L st n sh d u Q := by unfold zJ; rw [zc_25_0]
theorem zc_25_1 : zcd 25 1 = zb_25_1 := by decide +kernel
theorem zj_25_1 {S : zSs} {D n u : Nat} {sh : zk_S} {d : zm_D} {Q : ((Option zv_V) ⊕ Nat) → Nat → zk_S → zm_D → Nat → Prop} {L : zN} {st : List zv_V} : zJ S D 25 1 L st n sh d u Q ↔ zB S D 25 zb_25_1 L st n sh d u Q := by unfold zJ; rw [zc_25_1]
theorem zn_25 : znl 25 = 2 := by decide +kernel
theorem ze_25 {S : zSs} {D n u : Nat} {sh : zk_S} {d : zm_D} {Q : ((Option zv_V) ⊕ Nat) → Nat → zk_S → zm_D → Nat → Prop} {x0 : Int} {x1 : Int} : zE S D 25 [zv_a x0, zv_i x1] n sh d u Q ↔ zB S D 25 zb_25_0 [some (zv_a x0), some (zv_i x1)] [] n sh d u Q := by
  unfold zE; rw [zn_25, zc_25_0]; exact ⟨fun h => h.2, fun h => ⟨Nat.le_of_ble_eq_true rfl, h⟩⟩
theorem ze_25s {S : zSs} {D n u : Nat} {sh : zk_S} {d : zm_D} {Q : ((Option zv_V) ⊕ Nat) → Nat → zk_S → zm_D → Nat → Prop} {x0 : Int} : zE S D 25 [zv_i x0] n sh d u Q ↔ zB S D 25 zb_25_0 [some (zv_i x0), none] [] n sh d u Q := by
  unfold zE; rw [zn_25, zc_25_0]; exact ⟨fun h => h.2, fun h => ⟨Nat.le_of_ble_eq_true rfl, h⟩⟩
theorem zh_25 : zhl 25 = [] := by decide +kernel
theorem zc_26_0 : zcd 26 0 = zb_26_0 := by decide +kernel
theorem zj_26_0 {S : zSs} {D n u : Nat} {sh : zk_S} {d : zm_D} {Q : ((Option zv_V) ⊕ Nat) → Nat → zk_S → zm_D → Nat → Prop} {L : zN} {st : List zv_V} : zJ S D 26 0 L st n sh d u Q ↔ zB S D 26 zb_26_0 L st n sh d u Q := by unfold zJ; rw [zc_26_0]
theorem zn_26 : znl 26 = 1 := by decide +kernel
theorem ze_26 {S : zSs} {D n u : Nat} {sh : zk_S} {d : zm_D} {Q : ((Option zv_V) ⊕ Nat) → Nat → zk_S → zm_D → Nat → Prop} {x0 : Int} : zE S D 26 [zv_a x0] n sh d u Q ↔ zB S D 26 zb_26_0 [some (zv_a x0)] [] n sh d u Q := by
  unfold zE; rw [zn_26, zc_26_0]; exact ⟨fun h => h.2, fun h => ⟨Nat.le_of_ble_eq_true rfl, h⟩⟩
theorem ze_26s {S : zSs} {D n u : Nat} {sh : zk_S} {d : zm_D} {Q : ((Option zv_V) ⊕ Nat) → Nat → zk_S → zm_D → Nat → Prop} : zE S D 26 [] n sh d u Q ↔ zB S D 26 zb_26_0 [none] [] n sh d u Q := by
  unfold zE; rw [zn_26, zc_26_0]; exact ⟨fun h => h.2, fun h => ⟨Nat.le_of_ble_eq_true rfl, h⟩⟩
theorem zh_26 : zhl 26 = [] := by decide +kernel
theorem zc_27_0 : zcd 27 0 = zb_27_0 := by decide +kernel
theorem zj_27_0 {S : zSs} {D n u : Nat} {sh : zk_S} {d : zm_D} {Q : ((Option zv_V) ⊕ Nat) → Nat → zk_S → zm_D → Nat → Prop} {L : zN} {st : List zv_V} : zJ S D 27 0 L st n sh d u Q ↔ zB S D 27 zb_27_0 L st n sh d u Q := by unfold zJ; rw [zc_27_0]
theorem zc_27_1 : zcd 27 1 = zb_27_1 := by decide +kernel
theorem zj_27_1 {S : zSs} {D n u : Nat} {sh : zk_S} {d : zm_D} {Q : ((Option zv_V) ⊕ Nat) → Nat → zk_S → zm_D → Nat → Prop} {L : zN} {st : List zv_V} : zJ S D 27 1 L st n sh d u Q ↔ zB S D 27 zb_27_1 L st n sh d u Q := by unfold zJ; rw [zc_27_1]
theorem zc_27_2 : zcd 27 2 = zb_27_2 := by decide +kernel
theorem zj_27_2 {S : zSs} {D n u : Nat} {sh : zk_S} {d : zm_D} {Q : ((Option zv_V) ⊕ Nat) → Nat → zk_S → zm_D → Nat → Prop} {L : zN} {st : List zv_V} : zJ S D 27 2 L st n sh d u Q ↔ zB S D 27 zb_27_2 L st n sh d u Q := by unfold zJ; rw [zc_27_2]
theorem zn_27 : znl 27 = 3 := by decide +kernel
theorem ze_27 {S : zSs} {D n u : Nat} {sh : zk_S} {d : zm_D} {Q : ((Option zv_V) ⊕ Nat) → Nat → zk_S → zm_D → Nat → Prop} {x0 : Int} {x1 : Int} {x2 : Int} : zE S D 27 [zv_a x0, zv_i x1, zv_i x2] n sh d u Q ↔ zB S D 27 zb_27_0 [some (zv_a x0), some (zv_i x1), some (zv_i x2)] [] n sh d u Q := by
  unfold zE; rw [zn_27, zc_27_0]; exact ⟨fun h => h.2, fun h => ⟨Nat.le_of_ble_eq_true rfl, h⟩⟩
theorem ze_27s {S : zSs} {D n u : Nat} {sh : zk_S} {d : zm_D} {Q : ((Option zv_V) ⊕ Nat) → Nat → zk_S → zm_D → Nat → Prop} {x0 : Int} {x1 : Int} : zE S D 27 [zv_i x0, zv_i x1] n sh d u Q ↔ zB S D 27 zb_27_0 [some (zv_i x0), some (zv_i x1), none] [] n sh d u Q := by
  unfold zE; rw [zn_27, zc_27_0]; exact ⟨fun h => h.2, fun h => ⟨Nat.le_of_ble_eq_true rfl, h⟩⟩
theorem zh_27 : zhl 27 = [] := by decide +kernel
theorem zc_28_0 : zcd 28 0 = zb_28_0 := by decide +kernel
theorem zj_28_0 {S : zSs} {D n u : Nat} {sh : zk_S} {d : zm_D} {Q : ((Option zv_V) ⊕ Nat) → Nat → zk_S → zm_D → Nat → Prop} {L : zN} {st : List zv_V} : zJ S D 28 0 L st n sh d u Q ↔ zB S D 28 zb_28_0 L st n sh d u Q := by unfold zJ; rw [zc_28_0]
theorem zc_28_1 : zcd 28 1 = zb_28_1 := by decide +kernel
theorem zj_28_1 {S : zSs} {D n u : Nat} {sh : zk_S} {d : zm_D} {Q : ((Option zv_V) ⊕ Nat) → Nat → zk_S → zm_D → Nat → Prop} {L : zN} {st : List zv_V} : zJ S D 28 1 L st n sh d u Q ↔ zB S D 28 zb_28_1 L st n sh d u Q := by unfold zJ; rw [zc_28_1]
theorem zc_28_2 : zcd 28 2 = zb_28_2 := by decide +kernel
theorem zj_28_2 {S : zSs} {D n u : Nat} {sh : zk_S} {d : zm_D} {Q : ((Option zv_V) ⊕ Nat) → Nat → zk_S → zm_D → Nat → Prop} {L : zN} {st : List zv_V} : zJ S D 28 2 L st n sh d u Q ↔ zB S D 28 zb_28_2 L st n sh d u Q := by unfold zJ; rw [zc_28_2]
theorem zn_28 : znl 28 = 1 := by decide +kernel
theorem ze_28 {S : zSs} {D n u : Nat} {sh : zk_S} {d : zm_D} {Q : ((Option zv_V) ⊕ Nat) → Nat → zk_S → zm_D → Nat → Prop} {x0 : Int} : zE S D 28 [zv_a x0] n sh d u Q ↔ zB S D 28 zb_28_0 [some (zv_a x0)] [] n sh d u Q := by
  unfold zE; rw [zn_28, zc_28_0]; exact ⟨fun h => h.2, fun h => ⟨Nat.le_of_ble_eq_true rfl, h⟩⟩
theorem ze_28s {S : zSs} {D n u : Nat} {sh : zk_S} {d : zm_D} {Q : ((Option zv_V) ⊕ Nat) → Nat → zk_S → zm_D → Nat → Prop} : zE S D 28 [] n sh d u Q ↔ zB S D 28 zb_28_0 [none] [] n sh d u Q := by
  unfold zE; rw [zn_28, zc_28_0]; exact ⟨fun h => h.2, fun h => ⟨Nat.le_of_ble_eq_true rfl, h⟩⟩
theorem zh_28 : zhl 28 = [] := by decide +kernel
theorem zc_29_0 : zcd 29 0 = zb_29_0 := by decide +kernel
theorem zj_29_0 {S : zSs} {D n u : Nat} {sh : zk_S} {d : zm_D} {Q : ((Option zv_V) ⊕ Nat) → Nat → zk_S → zm_D → Nat → Prop} {L : zN} {st : List zv_V} : zJ S D 29 0 L st n sh d u Q ↔ zB S D 29 zb_29_0 L st n sh d u Q := by unfold zJ; rw [zc_29_0]
theorem zc_29_1 : zcd 29 1 = zb_29_1 := by decide +kernel
theorem zj_29_1 {S : zSs} {D n u : Nat} {sh : zk_S} {d : zm_D} {Q : ((Option zv_V) ⊕ Nat) → Nat → zk_S → zm_D → Nat → Prop} {L : zN} {st : List zv_V} : zJ S D 29 1 L st n sh d u Q ↔ zB S D 29 zb_29_1 L st n sh d u Q := by unfold zJ; rw [zc_29_1]
theorem zn_29 : znl 29 = 4 := by decide +kernel
theorem ze_29 {S : zSs} {D n u : Nat} {sh : zk_S} {d : zm_D} {Q : ((Option zv_V) ⊕ Nat) → Nat → zk_S → zm_D → Nat → Prop} {x0 : Int} {x1 : Int} {x2 : Int} : zE S D 29 [zv_a x0, zv_i x1, zv_i x2] n sh d u Q ↔ zB S D 29 zb_29_0 [some (zv_a x0), some (zv_i x1), some (zv_i x2), none] [] n sh d u Q := by
  unfold zE; rw [zn_29, zc_29_0]; exact ⟨fun h => h.2, fun h => ⟨Nat.le_of_ble_eq_true rfl, h⟩⟩
theorem ze_29s {S : zSs} {D n u : Nat} {sh : zk_S} {d : zm_D} {Q : ((Option zv_V) ⊕ Nat) → Nat → zk_S → zm_D → Nat → Prop} {x0 : Int} {x1 : Int} : zE S D 29 [zv_i x0, zv_i x1] n sh d u Q ↔ zB S D 29 zb_29_0 [some (zv_i x0), some (zv_i x1), none, none] [] n sh d u Q := by
  unfold zE; rw [zn_29, zc_29_0]; exact ⟨fun h => h.2, fun h => ⟨Nat.le_of_ble_eq_true rfl, h⟩⟩
theorem zh_29 : zhl 29 = [] := by decide +kernel
theorem zc_30_0 : zcd 30 0 = zb_30_0 := by decide +kernel
theorem zj_30_0 {S : zSs} {D n u : Nat} {sh : zk_S} {d : zm_D} {Q : ((Option zv_V) ⊕ Nat) → Nat → zk_S → zm_D → Nat → Prop} {L : zN} {st : List zv_V} : zJ S D 30 0 L st n sh d u Q ↔ zB S D 30 zb_30_0 L st n sh d u Q := by unfold zJ; rw [zc_30_0]
theorem zc_30_1 : zcd 30 1 = zb_30_1 := by decide +kernel
theorem zj_30_1 {S : zSs} {D n u : Nat} {sh : zk_S} {d : zm_D} {Q : ((Option zv_V) ⊕ Nat) → Nat → zk_S → zm_D → Nat → Prop} {L : zN} {st : List zv_V} : zJ S D 30 1 L st n sh d u Q ↔ zB S D 30 zb_30_1 L st n sh d u Q := by unfold zJ; rw [zc_30_1]
theorem zc_30_2 : zcd 30 2 = zb_30_2 := by decide +kernel
theorem zj_30_2 {S : zSs} {D n u : Nat} {sh : zk_S} {d : zm_D} {Q : ((Option zv_V) ⊕ Nat) → Nat → zk_S → zm_D → Nat → Prop} {L : zN} {st : List zv_V} : zJ S D 30 2 L st n sh d u Q ↔ zB S D 30 zb_30_2 L st n sh d u Q := by unfold zJ; rw [zc_30_2]
theorem zn_30 : znl 30 = 4 := by decide +kernel
theorem ze_30 {S : zSs} {D n u : Nat} {sh : zk_S} {d : zm_D} {Q : ((Option zv_V) ⊕ Nat) → Nat → zk_S → zm_D → Nat → Prop} {x0 : Int} {x1 : Int} : zE S D 30 [zv_a x0, zv_i x1] n sh d u Q ↔ zB S D 30 zb_30_0 [some (zv_a x0), some (zv_i x1), none, none] [] n sh d u Q := by
  unfold zE; rw [zn_30, zc_30_0]; exact ⟨fun h => h.2, fun h => ⟨Nat.le_of_ble_eq_true rfl, h⟩⟩
theorem ze_30s {S : zSs} {D n u : Nat} {sh : zk_S} {d : zm_D} {Q : ((Option zv_V) ⊕ Nat) → Nat → zk_S → zm_D → Nat → Prop} {x0 : Int} : zE S D 30 [zv_i x0] n sh d u Q ↔ zB S D 30 zb_30_0 [some (zv_i x0), none, none, none] [] n sh d u Q := by
  unfold zE; rw [zn_30, zc_30_0]; exact ⟨fun h => h.2, fun h => ⟨Nat.le_of_ble_eq_true rfl, h⟩⟩
theorem zh_30 : zhl 30 = [] := by decide +kernel
theorem zc_31_0 : zcd 31 0 = zb_31_0 := by decide +kernel
theorem zj_31_0 {S : zSs} {D n u : Nat} {sh : zk_S} {d : zm_D} {Q : ((Option zv_V) ⊕ Nat) → Nat → zk_S → zm_D → Nat → Prop} {L : zN} {st : List zv_V} : zJ S D 31 0 L st n sh d u Q ↔ zB S D 31 zb_31_0 L st n sh d u Q := by unfold zJ; rw [zc_31_0]
theorem zc_31_1 : zcd 31 1 = zb_31_1 := by decide +kernel
theorem zj_31_1 {S : zSs} {D n u : Nat} {sh : zk_S} {d : zm_D} {Q : ((Option zv_V) ⊕ Nat) → Nat → zk_S → zm_D → Nat → Prop} {L : zN} {st : List zv_V} : zJ S D 31 1 L st n sh d u Q ↔ zB S D 31 zb_31_1 L st n sh d u Q := by unfold zJ; rw [zc_31_1]
theorem zc_31_2 : zcd 31 2 = zb_31_2 := by decide +kernel
theorem zj_31_2 {S : zSs} {D n u : Nat} {sh : zk_S} {d : zm_D} {Q : ((Option zv_V) ⊕ Nat) → Nat → zk_S → zm_D → Nat → Prop} {L : zN} {st : List zv_V} : zJ S D 31 2 L st n sh d u Q ↔ zB S D 31 zb_31_2 L st n sh d u Q := by unfold zJ; rw [zc_31_2]
theorem zn_31 : znl 31 = 6 := by decide +kernel
theorem ze_31 {S : zSs} {D n u : Nat} {sh : zk_S} {d : zm_D} {Q : ((Option zv_V) ⊕ Nat) → Nat → zk_S → zm_D → Nat → Prop} {x0 : Int} : zE S D 31 [zv_a x0] n sh d u Q ↔ zB S D 31 zb_31_0 [some (zv_a x0), none, none, none, none, none] [] n sh d u Q := by
  unfold zE; rw [zn_31, zc_31_0]; exact ⟨fun h => h.2, fun h => ⟨Nat.le_of_ble_eq_true rfl, h⟩⟩
theorem ze_31s {S : zSs} {D n u : Nat} {sh : zk_S} {d : zm_D} {Q : ((Option zv_V) ⊕ Nat) → Nat → zk_S → zm_D → Nat → Prop} : zE S D 31 [] n sh d u Q ↔ zB S D 31 zb_31_0 [none, none, none, none, none, none] [] n sh d u Q := by
  unfold zE; rw [zn_31, zc_31_0]; exact ⟨fun h => h.2, fun h => ⟨Nat.le_of_ble_eq_true rfl, h⟩⟩
theorem zh_31 : zhl 31 = [] := by decide +kernel
theorem zc_32_0 : zcd 32 0 = zb_32_0 := by decide +kernel
theorem zj_32_0 {S : zSs} {D n u : Nat} {sh : zk_S} {d : zm_D} {Q : ((Option zv_V) ⊕ Nat) → Nat → zk_S → zm_D → Nat → Prop} {L : zN} {st : List zv_V} : zJ S D 32 0 L st n sh d u Q ↔ zB S D 32 zb_32_0 L st n sh d u Q := by unfold zJ; rw [zc_32_0]
theorem zn_32 : znl 32 = 1 := by decide +kernel
theorem ze_32 {S : zSs} {D n u : Nat} {sh : zk_S} {d : zm_D} {Q : ((Option zv_V) ⊕ Nat) → Nat → zk_S → zm_D → Nat → Prop} {x0 : Int} : zE S D 32 [zv_a x0] n sh d u Q ↔ zB S D 32 zb_32_0 [some (zv_a x0)] [] n sh d u Q := by
  unfold zE; rw [zn_32, zc_32_0]; exact ⟨fun h => h.2, fun h => ⟨Nat.le_of_ble_eq_true rfl, h⟩⟩
theorem ze_32s {S : zSs} {D n u : Nat} {sh : zk_S} {d : zm_D} {Q : ((Option zv_V) ⊕ Nat) → Nat → zk_S → zm_D → Nat → Prop} : zE S D 32 [] n sh d u Q ↔ zB S D 32 zb_32_0 [none] [] n sh d u Q := by
  unfold zE; rw [zn_32, zc_32_0]; exact ⟨fun h => h.2, fun h => ⟨Nat.le_of_ble_eq_true rfl, h⟩⟩
theorem zh_32 : zhl 32 = [] := by decide +kernel
theorem zc_33_0 : zcd 33 0 = zb_33_0 := by decide +kernel
theorem zj_33_0 {S : zSs} {D n u : Nat} {sh : zk_S} {d : zm_D} {Q : ((Option zv_V) ⊕ Nat) → Nat → zk_S → zm_D → Nat → Prop} {L : zN} {st : List zv_V} : zJ S D 33 0 L st n sh d u Q ↔ zB S D 33 zb_33_0 L st n sh d u Q := by unfold zJ; rw [zc_33_0]
theorem zn_33 : znl 33 = 1 := by decide +kernel
theorem ze_33 {S : zSs} {D n u : Nat} {sh : zk_S} {d : zm_D} {Q : ((Option zv_V) ⊕ Nat) → Nat → zk_S → zm_D → Nat → Prop} {x0 : Int} : zE S D 33 [zv_a x0] n sh d u Q ↔ zB S D 33 zb_33_0 [some (zv_a x0)] [] n sh d u Q := by
  unfold zE; rw [zn_33, zc_33_0]; exact ⟨fun h => h.2, fun h => ⟨Nat.le_of_ble_eq_true rfl, h⟩⟩
theorem ze_33s {S : zSs} {D n u : Nat} {sh : zk_S} {d : zm_D} {Q : ((Option zv_V) ⊕ Nat) → Nat → zk_S → zm_D → Nat → Prop} : zE S D 33 [] n sh d u Q ↔ zB S D 33 zb_33_0 [none] [] n sh d u Q := by
  unfold zE; rw [zn_33, zc_33_0]; exact ⟨fun h => h.2, fun h => ⟨Nat.le_of_ble_eq_true rfl, h⟩⟩
theorem zh_33 : zhl 33 = [] := by decide +kernel
theorem zc_34_0 : zcd 34 0 = zb_34_0 := by decide +kernel
theorem zj_34_0 {S : zSs} {D n u : Nat} {sh : zk_S} {d : zm_D} {Q : ((Option zv_V) ⊕ Nat) → Nat → zk_S → zm_D → Nat → Prop} {L : zN} {st : List zv_V} : zJ S D 34 0 L st n sh d u Q ↔ zB S D 34 zb_34_0 L st n sh d u Q := by unfold zJ; rw [zc_34_0]
theorem zc_34_1 : zcd 34 1 = zb_34_1 := by decide +kernel
theorem zj_34_1 {S : zSs} {D n u : Nat} {sh : zk_S} {d : zm_D} {Q : ((Option zv_V) ⊕ Nat) → Nat → zk_S → zm_D → Nat → Prop} {L : zN} {st : List zv_V} : zJ S D 34 1 L st n sh d u Q ↔ zB S D 34 zb_34_1 L st n sh d u Q := by unfold zJ; rw [zc_34_1]
theorem zc_34_2 : zcd 34 2 = zb_34_2 := by decide +kernel
theorem zj_34_2 {S : zSs} {D n u : Nat} {sh : zk_S} {d : zm_D} {Q : ((Option zv_V) ⊕ Nat) → Nat → zk_S → zm_D → Nat → Prop} {L : zN} {st : List zv_V} : zJ S D 34 2 L st n sh d u Q ↔ zB S D 34 zb_34_2 L st n sh d u Q := by unfold zJ; rw [zc_34_2]
theorem zc_34_3 : zcd 34 3 = zb_34_3 := by decide +kernel
theorem zj_34_3 {S : zSs} {D n u : Nat} {sh : zk_S} {d : zm_D} {Q : ((Option zv_V) ⊕ Nat) → Nat → zk_S → zm_D → Nat → Prop} {L : zN} {st : List zv_V} : zJ S D 34 3 L st n sh d u Q ↔ zB S D 34 zb_34_3 L st n sh d u Q := by unfold zJ; rw [zc_34_3]
theorem zc_34_4 : zcd 34 4 = zb_34_4 := by decide +kernel
theorem zj_34_4 {S : zSs} {D n u : Nat} {sh : zk_S} {d : zm_D} {Q : ((Option zv_V) ⊕ Nat) → Nat → zk_S → zm_D → Nat → Prop} {L : zN} {st : List zv_V} : zJ S D 34 4 L st n sh d u Q ↔ zB S D 34 zb_34_4 L st n sh d u Q := by unfold zJ; rw [zc_34_4]
theorem zn_34 : znl 34 = 2 := by decide +kernel
theorem ze_34 {S : zSs} {D n u : Nat} {sh : zk_S} {d : zm_D} {Q : ((Option zv_V) ⊕ Nat) → Nat → zk_S → zm_D → Nat → Prop} {x0 : Int} {x1 : Int} : zE S D 34 [zv_a x0, zv_i x1] n sh d u Q ↔ zB S D 34 zb_34_0 [some (zv_a x0), some (zv_i x1)] [] n sh d u Q := by
  unfold zE; rw [zn_34, zc_34_0]; exact ⟨fun h => h.2, fun h => ⟨Nat.le_of_ble_eq_true rfl, h⟩⟩
theorem ze_34s {S : zSs} {D n u : Nat} {sh : zk_S} {d : zm_D} {Q : ((Option zv_V) ⊕ Nat) → Nat → zk_S → zm_D → Nat → Prop} {x0 : Int} : zE S D 34 [zv_i x0] n sh d u Q ↔ zB S D 34 zb_34_0 [some (zv_i x0), none] [] n sh d u Q := by
  unfold zE; rw [zn_34, zc_34_0]; exact ⟨fun h => h.2, fun h => ⟨Nat.le_of_ble_eq_true rfl, h⟩⟩
theorem zh_34 : zhl 34 = [] := by decide +kernel
theorem zc_35_0 : zcd 35 0 = zb_35_0 := by decide +kernel
theorem zj_35_0 {S : zSs} {D n u : Nat} {sh : zk_S} {d : zm_D} {Q : ((Option zv_V) ⊕ Nat) → Nat → zk_S → zm_D → Nat → Prop} {L : zN} {st : List zv_V} : zJ S D 35 0 L st n sh d u Q ↔ zB S D 35 zb_35_0 L st n sh d u Q := by unfold zJ; rw [zc_35_0]
theorem zn_35 : znl 35 = 1 := by decide +kernel
theorem ze_35 {S : zSs} {D n u : Nat} {sh : zk_S} {d : zm_D} {Q : ((Option zv_V) ⊕ Nat) → Nat → zk_S → zm_D → Nat → Prop} {x0 : Int} : zE S D 35 [zv_a x0] n sh d u Q ↔ zB S D 35 zb_35_0 [some (zv_a x0)] [] n sh d u Q := by
  unfold zE; rw [zn_35, zc_35_0]; exact ⟨fun h => h.2, fun h => ⟨Nat.le_of_ble_eq_true rfl, h⟩⟩
theorem ze_35s {S : zSs} {D n u : Nat} {sh : zk_S} {d : zm_D} {Q : ((Option zv_V) ⊕ Nat) → Nat → zk_S → zm_D → Nat → Prop} : zE S D 35 [] n sh d u Q ↔ zB S D 35 zb_35_0 [none] [] n sh d u Q := by
  unfold zE; rw [zn_35, zc_35_0]; exact ⟨fun h => h.2, fun h => ⟨Nat.le_of_ble_eq_true rfl, h⟩⟩
theorem zh_35 : zhl 35 = [] := by decide +kernel
theorem zc_36_0 : zcd 36 0 = zb_36_0 := by decide +kernel
theorem zj_36_0 {S : zSs} {D n u : Nat} {sh : zk_S} {d : zm_D} {Q : ((Option zv_V) ⊕ Nat) → Nat → zk_S → zm_D → Nat → Prop} {L : zN} {st : List zv_V} : zJ S D 36 0 L st n sh d u Q ↔ zB S D 36 zb_36_0 L st n sh d u Q := by unfold zJ; rw [zc_36_0]
theorem zc_36_1 : zcd 36 1 = zb_36_1 := by decide +kernel
theorem zj_36_1 {S : zSs} {D n u : Nat} {sh : zk_S} {d : zm_D} {Q : ((Option zv_V) ⊕ Nat) → Nat → zk_S → zm_D → Nat → Prop} {L : zN} {st : List zv_V} : zJ S D 36 1 L st n sh d u Q ↔ zB S D 36 zb_36_1 L st n sh d u Q := by unfold zJ; rw [zc_36_1]
theorem zc_36_2 : zcd 36 2 = zb_36_2 := by decide +kernel
theorem zj_36_2 {S : zSs} {D n u : Nat} {sh : zk_S} {d : zm_D} {Q : ((Option zv_V) ⊕ Nat) → Nat → zk_S → zm_D → Nat → Prop} {L : zN} {st : List zv_V} : zJ S D 36 2 L st n sh d u Q ↔ zB S D 36 zb_36_2 L st n sh d u Q := by unfold zJ; rw [zc_36_2]
theorem zn_36 : znl 36 = 2 := by decide +kernel
theorem ze_36 {S : zSs} {D n u : Nat} {sh : zk_S} {d : zm_D} {Q : ((Option zv_V) ⊕ Nat) → Nat → zk_S → zm_D → Nat → Prop} {x0 : Int} {x1 : Int} : zE S D 36 [zv_a x0, zv_i x1] n sh d u Q ↔ zB S D 36 zb_36_0 [some (zv_a x0), some (zv_i x1)] [] n sh d u Q := by
  unfold zE; rw [zn_36, zc_36_0]; exact ⟨fun h => h.2, fun h => ⟨Nat.le_of_ble_eq_true rfl, h⟩⟩
theorem ze_36s {S : zSs} {D n u : Nat} {sh : zk_S} {d : zm_D} {Q : ((Option zv_V) ⊕ Nat) → Nat → zk_S → zm_D → Nat → Prop} {x0 : Int} : zE S D 36 [zv_i x0] n sh d u Q ↔ zB S D 36 zb_36_0 [some (zv_i x0), none] [] n sh d u Q := by
  unfold zE; rw [zn_36, zc_36_0]; exact ⟨fun h => h.2, fun h => ⟨Nat.le_of_ble_eq_true rfl, h⟩⟩
theorem zh_36 : zhl 36 = [] := by decide +kernel
theorem zc_37_0 : zcd 37 0 = zb_37_0 := by decide +kernel
theorem zj_37_0 {S : zSs} {D n u : Nat} {sh : zk_S} {d : zm_D} {Q : ((Option zv_V) ⊕ Nat) → Nat → zk_S → zm_D → Nat → Prop} {L : zN} {st : List zv_V} : zJ S D 37 0 L st n sh d u Q ↔ zB S D 37 zb_37_0 L st n sh d u Q := by unfold zJ; rw [zc_37_0]
theorem zc_37_1 : zcd 37 1 = zb_37_1 := by decide +kernel
theorem zj_37_1 {S : zSs} {D n u : Nat} {sh : zk_S} {d : zm_D} {Q : ((Option zv_V) ⊕ Nat) → Nat → zk_S → zm_D → Nat → Prop} {L : zN} {st : List zv_V} : zJ S D 37 1 L st n sh d u Q ↔ zB S D 37 zb_37_1 L st n sh d u Q := by unfold zJ; rw [zc_37_1]
theorem zc_37_2 : zcd 37 2 = zb_37_2 := by decide +kernel
theorem zj_37_2 {S : zSs} {D n u : Nat} {sh : zk_S} {d : zm_D} {Q : ((Option zv_V) ⊕ Nat) → Nat → zk_S → zm_D → Nat → Prop} {L : zN} {st : List zv_V} : zJ S D 37 2 L st n sh d u Q ↔ zB S D 37 zb_37_2 L st n sh d u Q := by unfold zJ; rw [zc_37_2]
theorem zn_37 : znl 37 = 1 := by decide +kernel
theorem ze_37 {S : zSs} {D n u : Nat} {sh : zk_S} {d : zm_D} {Q : ((Option zv_V) ⊕ Nat) → Nat → zk_S → zm_D → Nat → Prop} {x0 : Int} : zE S D 37 [zv_a x0] n sh d u Q ↔ zB S D 37 zb_37_0 [some (zv_a x0)] [] n sh d u Q := by
  unfold zE; rw [zn_37, zc_37_0]; exact ⟨fun h => h.2, fun h => ⟨Nat.le_of_ble_eq_true rfl, h⟩⟩
theorem ze_37s {S : zSs} {D n u : Nat} {sh : zk_S} {d : zm_D} {Q : ((Option zv_V) ⊕ Nat) → Nat → zk_S → zm_D → Nat → Prop} : zE S D 37 [] n sh d u Q ↔ zB S D 37 zb_37_0 [none] [] n sh d u Q := by
  unfold zE; rw [zn_37, zc_37_0]; exact ⟨fun h => h.2, fun h => ⟨Nat.le_of_ble_eq_true rfl, h⟩⟩
theorem zh_37 : zhl 37 = [] := by decide +kernel
theorem zc_38_0 : zcd 38 0 = zb_38_0 := by decide +kernel
theorem zj_38_0 {S : zSs} {D n u : Nat} {sh : zk_S} {d : zm_D} {Q : ((Option zv_V) ⊕ Nat) → Nat → zk_S → zm_D → Nat → Prop} {L : zN} {st : List zv_V} : zJ S D 38 0 L st n sh d u Q ↔ zB S D 38 zb_38_0 L st n sh d u Q := by unfold zJ; rw [zc_38_0]
theorem zc_38_1 : zcd 38 1 = zb_38_1 := by decide +kernel
theorem zj_38_1 {S : zSs} {D n u : Nat} {sh : zk_S} {d : zm_D} {Q : ((Option zv_V) ⊕ Nat) → Nat → zk_S → zm_D → Nat → Prop} {L : zN} {st : List zv_V} : zJ S D 38 1 L st n sh d u Q ↔ zB S D 38 zb_38_1 L st n sh d u Q := by unfold zJ; rw [zc_38_1]
theorem zc_38_2 : zcd 38 2 = zb_38_2 := by decide +kernel
theorem zj_38_2 {S : zSs} {D n u : Nat} {sh : zk_S} {d : zm_D} {Q : ((Option zv_V) ⊕ Nat) → Nat → zk_S → zm_D → Nat → Prop} {L : zN} {st : List zv_V} : zJ S D 38 2 L st n sh d u Q ↔ zB S D 38 zb_38_2 L st n sh d u Q := by unfold zJ; rw [zc_38_2]
theorem zn_38 : znl 38 = 1 := by decide +kernel
theorem ze_38 {S : zSs} {D n u : Nat} {sh : zk_S} {d : zm_D} {Q : ((Option zv_V) ⊕ Nat) → Nat → zk_S → zm_D → Nat → Prop} {x0 : Int} : zE S D 38 [zv_a x0] n sh d u Q ↔ zB S D 38 zb_38_0 [some (zv_a x0)] [] n sh d u Q := by
  unfold zE; rw [zn_38, zc_38_0]; exact ⟨fun h => h.2, fun h => ⟨Nat.le_of_ble_eq_true rfl, h⟩⟩
theorem ze_38s {S : zSs} {D n u : Nat} {sh : zk_S} {d : zm_D} {Q : ((Option zv_V) ⊕ Nat) → Nat → zk_S → zm_D → Nat → Prop} : zE S D 38 [] n sh d u Q ↔ zB S D 38 zb_38_0 [none] [] n sh d u Q := by
  unfold zE; rw [zn_38, zc_38_0]; exact ⟨fun h => h.2, fun h => ⟨Nat.le_of_ble_eq_true rfl, h⟩⟩
theorem zh_38 : zhl 38 = [] := by decide +kernel
theorem zc_39_0 : zcd 39 0 = zb_39_0 := by decide +kernel
theorem zj_39_0 {S : zSs} {D n u : Nat} {sh : zk_S} {d : zm_D} {Q : ((Option zv_V) ⊕ Nat) → Nat → zk_S → zm_D → Nat → Prop} {L : zN} {st : List zv_V} : zJ S D 39 0 L st n sh d u Q ↔ zB S D 39 zb_39_0 L st n sh d u Q := by unfold zJ; rw [zc_39_0]
theorem zc_39_1 : zcd 39 1 = zb_39_1 := by decide +kernel
theorem zj_39_1 {S : zSs} {D n u : Nat} {sh : zk_S} {d : zm_D} {Q : ((Option zv_V) ⊕ Nat) → Nat → zk_S → zm_D → Nat → Prop} {L : zN} {st : List zv_V} : zJ S D 39 1 L st n sh d u Q ↔ zB S D 39 zb_39_1 L st n sh d u Q := by unfold zJ; rw [zc_39_1]
theorem zc_39_2 : zcd 39 2 = zb_39_2 := by decide +kernel
theorem zj_39_2 {S : zSs} {D n u : Nat} {sh : zk_S} {d : zm_D} {Q : ((Option zv_V) ⊕ Nat) → Nat → zk_S → zm_D → Nat → Prop} {L : zN} {st : List zv_V} : zJ S D 39 2 L st n sh d u Q ↔ zB S D 39 zb_39_2 L st n sh d u Q := by unfold zJ; rw [zc_39_2]
theorem zn_39 : znl 39 = 1 := by decide +kernel
theorem ze_39 {S : zSs} {D n u : Nat} {sh : zk_S} {d : zm_D} {Q : ((Option zv_V) ⊕ Nat) → Nat → zk_S → zm_D → Nat → Prop} {x0 : Int} : zE S D 39 [zv_a x0] n sh d u Q ↔ zB S D 39 zb_39_0 [some (zv_a x0)] [] n sh d u Q := by
  unfold zE; rw [zn_39, zc_39_0]; exact ⟨fun h => h.2, fun h => ⟨Nat.le_of_ble_eq_true rfl, h⟩⟩
theorem ze_39s {S : zSs} {D n u : Nat} {sh : zk_S} {d : zm_D} {Q : ((Option zv_V) ⊕ Nat) → Nat → zk_S → zm_D → Nat → Prop} : zE S D 39 [] n sh d u Q ↔ zB S D 39 zb_39_0 [none] [] n sh d u Q := by
  unfold zE; rw [zn_39, zc_39_0]; exact ⟨fun h => h.2, fun h => ⟨Nat.le_of_ble_eq_true rfl, h⟩⟩
theorem zh_39 : zhl 39 = [] := by decide +kernel
theorem zc_40_0 : zcd 40 0 = zb_40_0 := by decide +kernel
theorem zj_40_0 {S : zSs} {D n u : Nat} {sh : zk_S} {d : zm_D} {Q : ((Option zv_V) ⊕ Nat) → Nat → zk_S → zm_D → Nat → Prop} {L : zN} {st : List zv_V} : zJ S D 40 0 L st n sh d u Q ↔ zB S D 40 zb_40_0 L st n sh d u Q := by unfold zJ; rw [zc_40_0]
theorem zc_40_1 : zcd 40 1 = zb_40_1 := by decide +kernel
theorem zj_40_1 {S : zSs} {D n u : Nat} {sh : zk_S} {d : zm_D} {Q : ((Option zv_V) ⊕ Nat) → Nat → zk_S → zm_D → Nat → Prop} {L : zN} {st : List zv_V} : zJ S D 40 1 L st n sh d u Q ↔ zB S D 40 zb_40_1 L st n sh d u Q := by unfold zJ; rw [zc_40_1]
theorem zc_40_2 : zcd 40 2 = zb_40_2 := by decide +kernel
theorem zj_40_2 {S : zSs} {D n u : Nat} {sh : zk_S} {d : zm_D} {Q : ((Option zv_V) ⊕ Nat) → Nat → zk_S → zm_D → Nat → Prop} {L : zN} {st : List zv_V} : zJ S D 40 2 L st n sh d u Q ↔ zB S D 40 zb_40_2 L st n sh d u Q := by unfold zJ; rw [zc_40_2]
theorem zn_40 : znl 40 = 1 := by decide +kernel
theorem ze_40 {S : zSs} {D n u : Nat} {sh : zk_S} {d : zm_D} {Q : ((Option zv_V) ⊕ Nat) → Nat → zk_S → zm_D → Nat → Prop} {x0 : Int} : zE S D 40 [zv_a x0] n sh d u Q ↔ zB S D 40 zb_40_0 [some (zv_a x0)] [] n sh d u Q := by
  unfold zE; rw [zn_40, zc_40_0]; exact ⟨fun h => h.2, fun h => ⟨Nat.le_of_ble_eq_true rfl, h⟩⟩
theorem ze_40s {S : zSs} {D n u : Nat} {sh : zk_S} {d : zm_D} {Q : ((Option zv_V) ⊕ Nat) → Nat → zk_S → zm_D → Nat → Prop} : zE S D 40 [] n sh d u Q ↔ zB S D 40 zb_40_0 [none] [] n sh d u Q := by
  unfold zE; rw [zn_40, zc_40_0]; exact ⟨fun h => h.2, fun h => ⟨Nat.le_of_ble_eq_true rfl, h⟩⟩
theorem zh_40 : zhl 40 = [] := by decide +kernel
theorem zc_41_0 : zcd 41 0 = zb_41_0 := by decide +kernel
theorem zj_41_0 {S : zSs} {D n u : Nat} {sh : zk_S} {d : zm_D} {Q : ((Option zv_V) ⊕ Nat) → Nat → zk_S → zm_D → Nat → Prop} {L : zN} {st : List zv_V} : zJ S D 41 0 L st n sh d u Q ↔ zB S D 41 zb_41_0 L st n sh d u Q := by unfold zJ; rw [zc_41_0]
theorem zn_41 : znl 41 = 2 := by decide +kernel
theorem ze_41 {S : zSs} {D n u : Nat} {sh : zk_S} {d : zm_D} {Q : ((Option zv_V) ⊕ Nat) → Nat → zk_S → zm_D → Nat → Prop} {x0 : Int} : zE S D 41 [zv_a x0] n sh d u Q ↔ zB S D 41 zb_41_0 [some (zv_a x0), none] [] n sh d u Q := by
  unfold zE; rw [zn_41, zc_41_0]; exact ⟨fun h => h.2, fun h => ⟨Nat.le_of_ble_eq_true rfl, h⟩⟩
theorem ze_41s {S : zSs} {D n u : Nat} {sh : zk_S} {d : zm_D} {Q : ((Option zv_V) ⊕ Nat) → Nat → zk_S → zm_D → Nat → Prop} : zE S D 41 [] n sh d u Q ↔ zB S D 41 zb_41_0 [none, none] [] n sh d u Q := by
  unfold zE; rw [zn_41, zc_41_0]; exact ⟨fun h => h.2, fun h => ⟨Nat.le_of_ble_eq_true rfl, h⟩⟩
theorem zh_41 : zhl 41 = [] := by decide +kernel
theorem zc_42_0 : zcd 42 0 = zb_42_0 := by decide +kernel
theorem zj_42_0 {S : zSs} {D n u : Nat} {sh : zk_S} {d : zm_D} {Q : ((Option zv_V) ⊕ Nat) → Nat → zk_S → zm_D → Nat → Prop} {L : zN} {st : List zv_V} : zJ S D 42 0 L st n sh d u Q ↔ zB S D 42 zb_42_0 L st n sh d u Q := by unfold zJ; rw [zc_42_0]
theorem zc_42_1 : zcd 42 1 = zb_42_1 := by decide +kernel
theorem zj_42_1 {S : zSs} {D n u : Nat} {sh : zk_S} {d : zm_D} {Q : ((Option zv_V) ⊕ Nat) → Nat → zk_S → zm_D → Nat → Prop} {L : zN} {st : List zv_V} : zJ S D 42 1 L st n sh d u Q ↔ zB S D 42 zb_42_1 L st n sh d u Q := by unfold zJ; rw [zc_42_1]
theorem zn_42 : znl 42 = 3 := by decide +kernel
theorem ze_42 {S : zSs} {D n u : Nat} {sh : zk_S} {d : zm_D} {Q : ((Option zv_V) ⊕ Nat) → Nat → zk_S → zm_D → Nat → Prop} {x0 : Int} {x1 : Int} : zE S D 42 [zv_a x0, zv_i x1] n sh d u Q ↔ zB S D 42 zb_42_0 [some (zv_a x0), some (zv_i x1), none] [] n sh d u Q := by
  unfold zE; rw [zn_42, zc_42_0]; exact ⟨fun h => h.2, fun h => ⟨Nat.le_of_ble_eq_true rfl, h⟩⟩
theorem ze_42s {S : zSs} {D n u : Nat} {sh : zk_S} {d : zm_D} {Q : ((Option zv_V) ⊕ Nat) → Nat → zk_S → zm_D → Nat → Prop} {x0 : Int} : zE S D 42 [zv_i x0] n sh d u Q ↔ zB S D 42 zb_42_0 [some (zv_i x0), none, none] [] n sh d u Q := by
  unfold zE; rw [zn_42, zc_42_0]; exact ⟨fun h => h.2, fun h => ⟨Nat.le_of_ble_eq_true rfl, h⟩⟩
theorem zh_42 : zhl 42 = [] := by decide +kernel
theorem zc_43_0 : zcd 43 0 = zb_43_0 := by decide +kernel
theorem zj_43_0 {S : zSs} {D n u : Nat} {sh : zk_S} {d : zm_D} {Q : ((Option zv_V) ⊕ Nat) → Nat → zk_S → zm_D → Nat → Prop} {L : zN} {st : List zv_V} : zJ S D 43 0 L st n sh d u Q ↔ zB S D 43 zb_43_0 L st n sh d u Q := by unfold zJ; rw [zc_43_0]
theorem zn_43 : znl 43 = 1 := by decide +kernel
theorem ze_43 {S : zSs} {D n u : Nat} {sh : zk_S} {d : zm_D} {Q : ((Option zv_V) ⊕ Nat) → Nat → zk_S → zm_D → Nat → Prop} {x0 : Int} : zE S D 43 [zv_a x0] n sh d u Q ↔ zB S D 43 zb_43_0 [some (zv_a x0)] [] n sh d u Q := by
  unfold zE; rw [zn_43, zc_43_0]; exact ⟨fun h => h.2, fun h => ⟨Nat.le_of_ble_eq_true rfl, h⟩⟩
theorem ze_43s {S : zSs} {D n u : Nat} {sh : zk_S} {d : zm_D} {Q : ((Option zv_V) ⊕ Nat) → Nat → zk_S → zm_D → Nat → Prop} : zE S D 43 [] n sh d u Q ↔ zB S D 43 zb_43_0 [none] [] n sh d u Q := by
  unfold zE; rw [zn_43, zc_43_0]; exact ⟨fun h => h.2, fun h => ⟨Nat.le_of_ble_eq_true rfl, h⟩⟩
theorem zh_43 : zhl 43 = [] := by decide +kernel
theorem zc_44_0 : zcd 44 0 = zb_44_0 := by decide +kernel
theorem zj_44_0 {S : zSs} {D n u : Nat} {sh : zk_S} {d : zm_D} {Q : ((Option zv_V) ⊕ Nat) → Nat → zk_S → zm_D → Nat → Prop} {L : zN} {st : List zv_V} : zJ S D 44 0 L st n sh d u Q ↔ zB S D 44 zb_44_0 L st n sh d u Q := by unfold zJ; rw [zc_44_0]
theorem zc_44_1 : zcd 44 1 = zb_44_1 := by decide +kernel
theorem zj_44_1 {S : zSs} {D n u : Nat} {sh : zk_S} {d : zm_D} {Q : ((Option zv_V) ⊕ Nat) → Nat → zk_S → zm_D → Nat → Prop} {L : zN} {st : List zv_V} : zJ S D 44 1 L st n sh d u Q ↔ zB S D 44 zb_44_1 L st n sh d u Q := by unfold zJ; rw [zc_44_1]
theorem zc_44_2 : zcd 44 2 = zb_44_2 := by decide +kernel
theorem zj_44_2 {S : zSs} {D n u : Nat} {sh : zk_S} {d : zm_D} {Q : ((Option zv_V) ⊕ Nat) → Nat → zk_S → zm_D → Nat → Prop} {L : zN} {st : List zv_V} : zJ S D 44 2 L st n sh d u Q ↔ zB S D 44 zb_44_2 L st n sh d u Q := by unfold zJ; rw [zc_44_2]
theorem zc_44_3 : zcd 44 3 = zb_44_3 := by decide +kernel
theorem zj_44_3 {S : zSs} {D n u : Nat} {sh : zk_S} {d : zm_D} {Q : ((Option zv_V) ⊕ Nat) → Nat → zk_S → zm_D → Nat → Prop} {L : zN} {st : List zv_V} : zJ S D 44 3 L st n sh d u Q ↔ zB S D 44 zb_44_3 L st n sh d u Q := by unfold zJ; rw [zc_44_3]
theorem zc_44_4 : zcd 44 4 = zb_44_4 := by decide +kernel
theorem zj_44_4 {S : zSs} {D n u : Nat} {sh : zk_S} {d : zm_D} {Q : ((Option zv_V) ⊕ Nat) → Nat → zk_S → zm_D → Nat → Prop} {L : zN} {st : List zv_V} : zJ S D 44 4 L st n sh d u Q ↔ zB S D 44 zb_44_4 L st n sh d u Q := by unfold zJ; rw [zc_44_4]
theorem zn_44 : znl 44 = 2 := by decide +kernel
theorem ze_44 {S : zSs} {D n u : Nat} {sh : zk_S} {d : zm_D} {Q : ((Option zv_V) ⊕ Nat) → Nat → zk_S → zm_D → Nat → Prop} {x0 : Int} {x1 : Int} : zE S D 44 [zv_a x0, zv_i x1] n sh d u Q ↔ zB S D 44 zb_44_0 [some (zv_a x0), some (zv_i x1)] [] n sh d u Q := by
  unfold zE; rw [zn_44, zc_44_0]; exact ⟨fun h => h.2, fun h => ⟨Nat.le_of_ble_eq_true rfl, h⟩⟩
theorem ze_44s {S : zSs} {D n u : Nat} {sh : zk_S} {d : zm_D} {Q : ((Option zv_V) ⊕ Nat) → Nat → zk_S → zm_D → Nat → Prop} {x0 : Int} : zE S D 44 [zv_i x0] n sh d u Q ↔ zB S D 44 zb_44_0 [some (zv_i x0), none] [] n sh d u Q := by
  unfold zE; rw [zn_44, zc_44_0]; exact ⟨fun h => h.2, fun h => ⟨Nat.le_of_ble_eq_true rfl, h⟩⟩
theorem zh_44 : zhl 44 = [] := by decide +kernel
theorem zc_45_0 : zcd 45 0 = zb_45_0 := by decide +kernel
theorem zj_45_0 {S : zSs} {D n u : Nat} {sh : zk_S} {d : zm_D} {Q : ((Option zv_V) ⊕ Nat) → Nat → zk_S → zm_D → Nat → Prop} {L : zN} {st : List zv_V} : zJ S D 45 0 L st n sh d u Q ↔ zB S D 45 zb_45_0 L st n sh d u Q := by unfold zJ; rw [zc_45_0]
theorem zc_45_1 : zcd 45 1 = zb_45_1 := by decide +kernel
theorem zj_45_1 {S : zSs} {D n u : Nat} {sh : zk_S} {d : zm_D} {Q : ((Option zv_V) ⊕ Nat) → Nat → zk_S → zm_D → Nat → Prop} {L : zN} {st : List zv_V} : zJ S D 45 1 L st n sh d u Q ↔ zB S D 45 zb_45_1 L st n sh d u Q := by unfold zJ; rw [zc_45_1]
theorem zc_45_2 : zcd 45 2 = zb_45_2 := by decide +kernel
theorem zj_45_2 {S : zSs} {D n u : Nat} {sh : zk_S} {d : zm_D} {Q : ((Option zv_V) ⊕ Nat) → Nat → zk_S → zm_D → Nat → Prop} {L : zN} {st : List zv_V} : zJ S D 45 2 L st n sh d u Q ↔ zB S D 45 zb_45_2 L st n sh d u Q := by unfold zJ; rw [zc_45_2]
theorem zn_45 : znl 45 = 1 := by decide +kernel
theorem ze_45 {S : zSs} {D n u : Nat} {sh : zk_S} {d : zm_D} {Q : ((Option zv_V) ⊕ Nat) → Nat → zk_S → zm_D → Nat → Prop} {x0 : Int} : zE S D 45 [zv_a x0] n sh d u Q ↔ zB S D 45 zb_45_0 [some (zv_a x0)] [] n sh d u Q := by
  unfold zE; rw [zn_45, zc_45_0]; exact ⟨fun h => h.2, fun h => ⟨Nat.le_of_ble_eq_true rfl, h⟩⟩
theorem ze_45s {S : zSs} {D n u : Nat} {sh : zk_S} {d : zm_D} {Q : ((Option zv_V) ⊕ Nat) → Nat → zk_S → zm_D → Nat → Prop} : zE S D 45 [] n sh d u Q ↔ zB S D 45 zb_45_0 [none] [] n sh d u Q := by
  unfold zE; rw [zn_45, zc_45_0]; exact ⟨fun h => h.2, fun h => ⟨Nat.le_of_ble_eq_true rfl, h⟩⟩
theorem zh_45 : zhl 45 = [] := by decide +kernel
theorem zc_46_0 : zcd 46 0 = zb_46_0 := by decide +kernel
theorem zj_46_0 {S : zSs} {D n u : Nat} {sh : zk_S} {d : zm_D} {Q : ((Option zv_V) ⊕ Nat) → Nat → zk_S → zm_D → Nat → Prop} {L : zN} {st : List zv_V} : zJ S D 46 0 L st n sh d u Q ↔ zB S D 46 zb_46_0 L st n sh d u Q := by unfold zJ; rw [zc_46_0]
theorem zc_46_1 : zcd 46 1 = zb_46_1 := by decide +kernel
theorem zj_46_1 {S : zSs} {D n u : Nat} {sh : zk_S} {d : zm_D} {Q : ((Option zv_V) ⊕ Nat) → Nat → zk_S → zm_D → Nat → Prop} {L : zN} {st : List zv_V} : zJ S D 46 1 L st n sh d u Q ↔ zB S D 46 zb_46_1 L st n sh d u Q := by unfold zJ; rw [zc_46_1]
theorem zc_46_2 : zcd 46 2 = zb_46_2 := by decide +kernel
theorem zj_46_2 {S : zSs} {D n u : Nat} {sh : zk_S} {d : zm_D} {Q : ((Option zv_V) ⊕ Nat) → Nat → zk_S → zm_D → Nat → Prop} {L : zN} {st : List zv_V} : zJ S D 46 2 L st n sh d u Q ↔ zB S D 46 zb_46_2 L st n sh d u Q := by unfold zJ; rw [zc_46_2]
theorem zn_46 : znl 46 = 1 := by decide +kernel
theorem ze_46 {S : zSs} {D n u : Nat} {sh : zk_S} {d : zm_D} {Q : ((Option zv_V) ⊕ Nat) → Nat → zk_S → zm_D → Nat → Prop} {x0 : Int} : zE S D 46 [zv_a x0] n sh d u Q ↔ zB S D 46 zb_46_0 [some (zv_a x0)] [] n sh d u Q := by
  unfold zE; rw [zn_46, zc_46_0]; exact ⟨fun h => h.2, fun h => ⟨Nat.le_of_ble_eq_true rfl, h⟩⟩
theorem ze_46s {S : zSs} {D n u : Nat} {sh : zk_S} {d : zm_D} {Q : ((Option zv_V) ⊕ Nat) → Nat → zk_S → zm_D → Nat → Prop} : zE S D 46 [] n sh d u Q ↔ zB S D 46 zb_46_0 [none] [] n sh d u Q := by
  unfold zE; rw [zn_46, zc_46_0]; exact ⟨fun h => h.2, fun h => ⟨Nat.le_of_ble_eq_true rfl, h⟩⟩
theorem zh_46 : zhl 46 = [] := by decide +kernel
theorem zc_47_0 : zcd 47 0 = zb_47_0 := by decide +kernel
theorem zj_47_0 {S : zSs} {D n u : Nat} {sh : zk_S} {d : zm_D} {Q : ((Option zv_V) ⊕ Nat) → Nat → zk_S → zm_D → Nat → Prop} {L : zN} {st : List zv_V} : zJ S D 47 0 L st n sh d u Q ↔ zB S D 47 zb_47_0 L st n sh d u Q := by unfold zJ; rw [zc_47_0]
theorem zc_47_1 : zcd 47 1 = zb_47_1 := by decide +kernel
theorem zj_47_1 {S : zSs} {D n u : Nat} {sh : zk_S} {d : zm_D} {Q : ((Option zv_V) ⊕ Nat) → Nat → zk_S → zm_D → Nat → Prop} {L : zN} {st : List zv_V} : zJ S D 47 1 L st n sh d u Q ↔ zB S D 47 zb_47_1 L st n sh d u Q := by unfold zJ; rw [zc_47_1]
theorem zn_47 : znl 47 = 3 := by decide +kernel
theorem ze_47 {S : zSs} {D n u : Nat} {sh : zk_S} {d : zm_D} {Q : ((Option zv_V) ⊕ Nat) → Nat → zk_S → zm_D → Nat → Prop} {x0 : Int} {x1 : Int} {x2 : Int} : zE S D 47 [zv_a x0, zv_a x1, zv_i x2] n sh d u Q ↔ zB S D 47 zb_47_0 [some (zv_a x0), some (zv_a x1), some (zv_i x2)] [] n sh d u Q := by
  unfold zE; rw [zn_47, zc_47_0]; exact ⟨fun h => h.2, fun h => ⟨Nat.le_of_ble_eq_true rfl, h⟩⟩
theorem ze_47s {S : zSs} {D n u : Nat} {sh : zk_S} {d : zm_D} {Q : ((Option zv_V) ⊕ Nat) → Nat → zk_S → zm_D → Nat → Prop} {x0 : Int} {x1 : Int} : zE S D 47 [zv_a x0, zv_i x1] n sh d u Q ↔ zB S D 47 zb_47_0 [some (zv_a x0), some (zv_i x1), none] [] n sh d u Q := by
  unfold zE; rw [zn_47, zc_47_0]; exact ⟨fun h => h.2, fun h => ⟨Nat.le_of_ble_eq_true rfl, h⟩⟩
theorem zh_47 : zhl 47 = [] := by decide +kernel
theorem zc_48_0 : zcd 48 0 = zb_48_0 := by decide +kernel
theorem zj_48_0 {S : zSs} {D n u : Nat} {sh : zk_S} {d : zm_D} {Q : ((Option zv_V) ⊕ Nat) → Nat → zk_S → zm_D → Nat → Prop} {L : zN} {st : List zv_V} : zJ S D 48 0 L st n sh d u Q ↔ zB S D 48 zb_48_0 L st n sh d u Q := by unfold zJ; rw [zc_48_0]
theorem zc_48_1 : zcd 48 1 = zb_48_1 := by decide +kernel
theorem zj_48_1 {S : zSs} {D n u : Nat} {sh : zk_S} {d : zm_D} {Q : ((Option zv_V) ⊕ Nat) → Nat → zk_S → zm_D → Nat → Prop} {L : zN} {st : List zv_V} : zJ S D 48 1 L st n sh d u Q ↔ zB S D 48 zb_48_1 L st n sh d u Q := by unfold zJ; rw [zc_48_1]
theorem zc_48_2 : zcd 48 2 = zb_48_2 := by decide +kernel
theorem zj_48_2 {S : zSs} {D n u : Nat} {sh : zk_S} {d : zm_D} {Q : ((Option zv_V) ⊕ Nat) → Nat → zk_S → zm_D → Nat → Prop} {L : zN} {st : List zv_V} : zJ S D 48 2 L st n sh d u Q ↔ zB S D 48 zb_48_2 L st n sh d u Q := by unfold zJ; rw [zc_48_2]
theorem zn_48 : znl 48 = 2 := by decide +kernel
theorem ze_48 {S : zSs} {D n u : Nat} {sh : zk_S} {d : zm_D} {Q : ((Option zv_V) ⊕ Nat) → Nat → zk_S → zm_D → Nat → Prop} {x0 : Int} {x1 : Int} : zE S D 48 [zv_a x0, zv_i x1] n sh d u Q ↔ zB S D 48 zb_48_0 [some (zv_a x0), some (zv_i x1)] [] n sh d u Q := by
  unfold zE; rw [zn_48, zc_48_0]; exact ⟨fun h => h.2, fun h => ⟨Nat.le_of_ble_eq_true rfl, h⟩⟩
theorem ze_48s {S : zSs} {D n u : Nat} {sh : zk_S} {d : zm_D} {Q : ((Option zv_V) ⊕ Nat) → Nat → zk_S → zm_D → Nat → Prop} {x0 : Int} : zE S D 48 [zv_i x0] n sh d u Q ↔ zB S D 48 zb_48_0 [some (zv_i x0), none] [] n sh d u Q := by
  unfold zE; rw [zn_48, zc_48_0]; exact ⟨fun h => h.2, fun h => ⟨Nat.le_of_ble_eq_true rfl, h⟩⟩
theorem zh_48 : zhl 48 = [] := by decide +kernel
theorem zc_49_0 : zcd 49 0 = zb_49_0 := by decide +kernel
theorem zj_49_0 {S : zSs} {D n u : Nat} {sh : zk_S} {d : zm_D} {Q : ((Option zv_V) ⊕ Nat) → Nat → zk_S → zm_D → Nat → Prop} {L : zN} {st : List zv_V} : zJ S D 49 0 L st n sh d u Q ↔ zB S D 49 zb_49_0 L st n sh d u Q := by unfold zJ; rw [zc_49_0]
theorem zc_49_1 : zcd 49 1 = zb_49_1 := by decide +kernel
theorem zj_49_1 {S : zSs} {D n u : Nat} {sh : zk_S} {d : zm_D} {Q : ((Option zv_V) ⊕ Nat) → Nat → zk_S → zm_D → Nat → Prop} {L : zN} {st : List zv_V} : zJ S D 49 1 L st n sh d u Q ↔ zB S D 49 zb_49_1 L st n sh d u Q := by unfold zJ; rw [zc_49_1]
theorem zc_49_2 : zcd 49 2 = zb_49_2 := by decide +kernel
theorem zj_49_2 {S : zSs} {D n u : Nat} {sh : zk_S} {d : zm_D} {Q : ((Option zv_V) ⊕ Nat) → Nat → zk_S → zm_D → Nat → Prop} {L : zN} {st : List zv_V} : zJ S D 49 2 L st n sh d u Q ↔ zB S D 49 zb_49_2 L st n sh d u Q := by unfold zJ; rw [zc_49_2]
theorem zc_49_3 : zcd 49 3 = zb_49_3 := by decide +kernel
theorem zj_49_3 {S : zSs} {D n u : Nat} {sh : zk_S} {d : zm_D} {Q : ((Option zv_V) ⊕ Nat) → Nat → zk_S → zm_D → Nat → Prop} {L : zN} {st : List zv_V} : zJ S D 49 3 L st n sh d u Q ↔ zB S D 49 zb_49_3 L st n sh d u Q := by unfold zJ; rw [zc_49_3]
theorem zn_49 : znl 49 = 4 := by decide +kernel
theorem ze_49 {S : zSs} {D n u : Nat} {sh : zk_S} {d : zm_D} {Q : ((Option zv_V) ⊕ Nat) → Nat → zk_S → zm_D → Nat → Prop} {x0 : Int} {x1 : Int} : zE S D 49 [zv_a x0, zv_i x1] n sh d u Q ↔ zB S D 49 zb_49_0 [some (zv_a x0), some (zv_i x1), none, none] [] n sh d u Q := by
  unfold zE; rw [zn_49, zc_49_0]; exact ⟨fun h => h.2, fun h => ⟨Nat.le_of_ble_eq_true rfl, h⟩⟩
theorem ze_49s {S : zSs} {D n u : Nat} {sh : zk_S} {d : zm_D} {Q : ((Option zv_V) ⊕ Nat) → Nat → zk_S → zm_D → Nat → Prop} {x0 : Int} : zE S D 49 [zv_i x0] n sh d u Q ↔ zB S D 49 zb_49_0 [some (zv_i x0), none, none, none] [] n sh d u Q := by
  unfold zE; rw [zn_49, zc_49_0]; exact ⟨fun h => h.2, fun h => ⟨Nat.le_of_ble_eq_true rfl, h⟩⟩
theorem zh_49 : zhl 49 = [] := by decide +kernel
theorem zc_50_0 : zcd 50 0 = zb_50_0 := by decide +kernel
theorem zj_50_0 {S : zSs} {D n u : Nat} {sh : zk_S} {d : zm_D} {Q : ((Option zv_V) ⊕ Nat) → Nat → zk_S → zm_D → Nat → Prop} {L : zN} {st : List zv_V} : zJ S D 50 0 L st n sh d u Q ↔ zB S D 50 zb_50_0 L st n sh d u Q := by unfold zJ; rw [zc_50_0]
theorem zn_50 : znl 50 = 3 := by decide +kernel
theorem ze_50 {S : zSs} {D n u : Nat} {sh : zk_S} {d : zm_D} {Q : ((Option zv_V) ⊕ Nat) → Nat → zk_S → zm_D → Nat → Prop} {x0 : Int} {x1 : Int} : zE S D 50 [zv_a x0, zv_i x1] n sh d u Q ↔ zB S D 50 zb_50_0 [some (zv_a x0), some (zv_i x1), none] [] n sh d u Q := by
  unfold zE; rw [zn_50, zc_50_0]; exact ⟨fun h => h.2, fun h => ⟨Nat.le_of_ble_eq_true rfl, h⟩⟩
theorem ze_50s {S : zSs} {D n u : Nat} {sh : zk_S} {d : zm_D} {Q : ((Option zv_V) ⊕ Nat) → Nat → zk_S → zm_D → Nat → Prop} {x0 : Int} : zE S D 50 [zv_i x0] n sh d u Q ↔ zB S D 50 zb_50_0 [some (zv_i x0), none, none] [] n sh d u Q := by
  unfold zE; rw [zn_50, zc_50_0]; exact ⟨fun h => h.2, fun h => ⟨Nat.le_of_ble_eq_true rfl, h⟩⟩
theorem zh_50 : zhl 50 = [] := by decide +kernel
theorem zc_51_0 : zcd 51 0 = zb_51_0 := by decide +kernel
theorem zj_51_0 {S : zSs} {D n u : Nat} {sh : zk_S} {d : zm_D} {Q : ((Option zv_V) ⊕ Nat) → Nat → zk_S → zm_D → Nat → Prop} {L : zN} {st : List zv_V} : zJ S D 51 0 L st n sh d u Q ↔ zB S D 51 zb_51_0 L st n sh d u Q := by unfold zJ; rw [zc_51_0]
theorem zc_51_1 : zcd 51 1 = zb_51_1 := by decide +kernel
theorem zj_51_1 {S : zSs} {D n u : Nat} {sh : zk_S} {d : zm_D} {Q : ((Option zv_V) ⊕ Nat) → Nat → zk_S → zm_D → Nat → Prop} {L : zN} {st : List zv_V} : zJ S D 51 1 L st n sh d u Q ↔ zB S D 51 zb_51_1 L st n sh d u Q := by unfold zJ; rw [zc_51_1]
theorem zc_51_2 : zcd 51 2 = zb_51_2 := by decide +kernel
theorem zj_51_2 {S : zSs} {D n u : Nat} {sh : zk_S} {d : zm_D} {Q : ((Option zv_V) ⊕ Nat) → Nat → zk_S → zm_D → Nat → Prop} {L : zN} {st : List zv_V} : zJ S D 51 2 L st n sh d u Q ↔ zB S D 51 zb_51_2 L st n sh d u Q := by unfold zJ; rw [zc_51_2]
theorem zc_51_3 : zcd 51 3 = zb_51_3 := by decide +kernel
theorem zj_51_3 {S : zSs} {D n u : Nat} {sh : zk_S} {d : zm_D} {Q : ((Option zv_V) ⊕ Nat) → Nat → zk_S → zm_D → Nat → Prop} {L : zN} {st : List zv_V} : zJ S D 51 3 L st n sh d u Q ↔ zB S D 51 zb_51_3 L st n sh d u Q := by unfold zJ; rw [zc_51_3]
theorem zc_51_4 : zcd 51 4 = zb_51_4 := by decide +kernel
theorem zj_51_4 {S : zSs} {D n u : Nat} {sh : zk_S} {d : zm_D} {Q : ((Option zv_V) ⊕ Nat) → Nat → zk_S → zm_D → Nat → Prop} {L : zN} {st : List zv_V} : zJ S D 51 4 L st n sh d u Q ↔ zB S D 51 zb_51_4 L st n sh d u Q := by unfold zJ; rw [zc_51_4]
theorem zn_51 : znl 51 = 8 := by decide +kernel
theorem ze_51 {S : zSs} {D n u : Nat} {sh : zk_S} {d : zm_D} {Q : ((Option zv_V) ⊕ Nat) → Nat → zk_S → zm_D → Nat → Prop} {x0 : Int} {x1 : Int} {x2 : Int} {x3 : Int} : zE S D 51 [zv_a x0, zv_i x1, zv_i x2, zv_i x3] n sh d u Q ↔ zB S D 51 zb_51_0 [some (zv_a x0), some (zv_i x1), some (zv_i x2), some (zv_i x3), none, none, none, none] [] n sh d u Q := by
  unfold zE; rw [zn_51, zc_51_0]; exact ⟨fun h => h.2, fun h => ⟨Nat.le_of_ble_eq_true rfl, h⟩⟩
theorem ze_51s {S : zSs} {D n u : Nat} {sh : zk_S} {d : zm_D} {Q : ((Option zv_V) ⊕ Nat) → Nat → zk_S → zm_D → Nat → Prop} {x0 : Int} {x1 : Int} {x2 : Int} : zE S D 51 [zv_i x0, zv_i x1, zv_i x2] n sh d u Q ↔ zB S D 51 zb_51_0 [some (zv_i x0), some (zv_i x1), some (zv_i x2), none, none, none, none, none] [] n sh d u Q := by
  unfold zE; rw [zn_51, zc_51_0]; exact ⟨fun h => h.2, fun h => ⟨Nat.le_of_ble_eq_true rfl, h⟩⟩
theorem zh_51 : zhl 51 = [] := by decide +kernel
theorem zc_52_0 : zcd 52 0 = zb_52_0 := by decide +kernel
theorem zj_52_0 {S : zSs} {D n u : Nat} {sh : zk_S} {d : zm_D} {Q : ((Option zv_V) ⊕ Nat) → Nat → zk_S → zm_D → Nat → Prop} {L : zN} {st : List zv_V} : zJ S D 52 0 L st n sh d u Q ↔ zB S D 52 zb_52_0 L st n sh d u Q := by unfold zJ; rw [zc_52_0]
theorem zc_52_1 : zcd 52 1 = zb_52_1 := by decide +kernel
theorem zj_52_1 {S : zSs} {D n u : Nat} {sh : zk_S} {d : zm_D} {Q : ((Option zv_V) ⊕ Nat) → Nat → zk_S → zm_D → Nat → Prop} {L : zN} {st : List zv_V} : zJ S D 52 1 L st n sh d u Q ↔ zB S D 52 zb_52_1 L st n sh d u Q := by unfold zJ; rw [zc_52_1]
theorem zc_52_2 : zcd 52 2 = zb_52_2 := by decide +kernel
theorem zj_52_2 {S : zSs} {D n u : Nat} {sh : zk_S} {d : zm_D} {Q : ((Option zv_V) ⊕ Nat) → Nat → zk_S → zm_D → Nat → Prop} {L : zN} {st : List zv_V} : zJ S D 52 2 L st n sh d u Q ↔ zB S D 52 zb_52_2 L st n sh d u Q := by unfold zJ; rw [zc_52_2]
theorem zc_52_3 : zcd 52 3 = zb_52_3 := by decide +kernel
theorem zj_52_3 {S : zSs} {D n u : Nat} {sh : zk_S} {d : zm_D} {Q : ((Option zv_V) ⊕ Nat) → Nat → zk_S → zm_D → Nat → Prop} {L : zN} {st : List zv_V} : zJ S D 52 3 L st n sh d u Q ↔ zB S D 52 zb_52_3 L st n sh d u Q := by unfold zJ; rw [zc_52_3]
theorem zn_52 : znl 52 = 3 := by decide +kernel
theorem ze_52 {S : zSs} {D n u : Nat} {sh : zk_S} {d : zm_D} {Q : ((Option zv_V) ⊕ Nat) → Nat → zk_S → zm_D → Nat → Prop} {x0 : Int} {x1 : Int} : zE S D 52 [zv_a x0, zv_a x1] n sh d u Q ↔ zB S D 52 zb_52_0 [some (zv_a x0), some (zv_a x1), none] [] n sh d u Q := by
  unfold zE; rw [zn_52, zc_52_0]; exact ⟨fun h => h.2, fun h => ⟨Nat.le_of_ble_eq_true rfl, h⟩⟩
theorem ze_52s {S : zSs} {D n u : Nat} {sh : zk_S} {d : zm_D} {Q : ((Option zv_V) ⊕ Nat) → Nat → zk_S → zm_D → Nat → Prop} {x0 : Int} : zE S D 52 [zv_a x0] n sh d u Q ↔ zB S D 52 zb_52_0 [some (zv_a x0), none, none] [] n sh d u Q := by
  unfold zE; rw [zn_52, zc_52_0]; exact ⟨fun h => h.2, fun h => ⟨Nat.le_of_ble_eq_true rfl, h⟩⟩
theorem zh_52 : zhl 52 = [] := by decide +kernel
theorem zc_53_0 : zcd 53 0 = zb_53_0 := by decide +kernel
theorem zj_53_0 {S : zSs} {D n u : Nat} {sh : zk_S} {d : zm_D} {Q : ((Option zv_V) ⊕ Nat) → Nat → zk_S → zm_D → Nat → Prop} {L : zN} {st : List zv_V} : zJ S D 53 0 L st n sh d u Q ↔ zB S D 53 zb_53_0 L st n sh d u Q := by unfold zJ; rw [zc_53_0]
theorem zn_53 : znl 53 = 2 := by decide +kernel
theorem ze_53 {S : zSs} {D n u : Nat} {sh : zk_S} {d : zm_D} {Q : ((Option zv_V) ⊕ Nat) → Nat → zk_S → zm_D → Nat → Prop} {x0 : Int} {x1 : Int} : zE S D 53 [zv_a x0, zv_a x1] n sh d u Q ↔ zB S D 53 zb_53_0 [some (zv_a x0), some (zv_a x1)] [] n sh d u Q := by
  unfold zE; rw [zn_53, zc_53_0]; exact ⟨fun h => h.2, fun h => ⟨Nat.le_of_ble_eq_true rfl, h⟩⟩
theorem ze_53s {S : zSs} {D n u : Nat} {sh : zk_S} {d : zm_D} {Q : ((Option zv_V) ⊕ Nat) → Nat → zk_S → zm_D → Nat → Prop} {x0 : Int} : zE S D 53 [zv_a x0] n sh d u Q ↔ zB S D 53 zb_53_0 [some (zv_a x0), none] [] n sh d u Q := by
  unfold zE; rw [zn_53, zc_53_0]; exact ⟨fun h => h.2, fun h => ⟨Nat.le_of_ble_eq_true rfl, h⟩⟩
theorem zh_53 : zhl 53 = [] := by decide +kernel
theorem zc_54_0 : zcd 54 0 = zb_54_0 := by decide +kernel
theorem zj_54_0 {S : zSs} {D n u : Nat} {sh : zk_S} {d : zm_D} {Q : ((Option zv_V) ⊕ Nat) → Nat → zk_S → zm_D → Nat → Prop} {L : zN} {st : List zv_V} : zJ S D 54 0 L st n sh d u Q ↔ zB S D 54 zb_54_0 L st n sh d u Q := by unfold zJ; rw [zc_54_0]
theorem zn_54 : znl 54 = 1 := by decide +kernel
theorem ze_54s {S : zSs} {D n u : Nat} {sh : zk_S} {d : zm_D} {Q : ((Option zv_V) ⊕ Nat) → Nat → zk_S → zm_D → Nat → Prop} {x0 : Int} : zE S D 54 [zv_i x0] n sh d u Q ↔ zB S D 54 zb_54_0 [some (zv_i x0)] [] n sh d u Q := by
  unfold zE; rw [zn_54, zc_54_0]; exact ⟨fun h => h.2, fun h => ⟨Nat.le_of_ble_eq_true rfl, h⟩⟩
theorem zh_54 : zhl 54 = [] := by decide +kernel
theorem zc_55_0 : zcd 55 0 = zb_55_0 := by decide +kernel
theorem zj_55_0 {S : zSs} {D n u : Nat} {sh : zk_S} {d : zm_D} {Q : ((Option zv_V) ⊕ Nat) → Nat → zk_S → zm_D → Nat → Prop} {L : zN} {st : List zv_V} : zJ S D 55 0 L st n sh d u Q ↔ zB S D 55 zb_55_0 L st n sh d u Q := by unfold zJ; rw [zc_55_0]
theorem zn_55 : znl 55 = 1 := by decide +kernel
theorem ze_55s {S : zSs} {D n u : Nat} {sh : zk_S} {d : zm_D} {Q : ((Option zv_V) ⊕ Nat) → Nat → zk_S → zm_D → Nat → Prop} {x0 : Int} : zE S D 55 [zv_i x0] n sh d u Q ↔ zB S D 55 zb_55_0 [some (zv_i x0)] [] n sh d u Q := by
  unfold zE; rw [zn_55, zc_55_0]; exact ⟨fun h => h.2, fun h => ⟨Nat.le_of_ble_eq_true rfl, h⟩⟩
theorem zh_55 : zhl 55 = [] := by decide +kernel
theorem zc_56_0 : zcd 56 0 = zb_56_0 := by decide +kernel
theorem zj_56_0 {S : zSs} {D n u : Nat} {sh : zk_S} {d : zm_D} {Q : ((Option zv_V) ⊕ Nat) → Nat → zk_S → zm_D → Nat → Prop} {L : zN} {st : List zv_V} : zJ S D 56 0 L st n sh d u Q ↔ zB S D 56 zb_56_0 L st n sh d u Q := by unfold zJ; rw [zc_56_0]
theorem zc_56_1 : zcd 56 1 = zb_56_1 := by decide +kernel
theorem zj_56_1 {S : zSs} {D n u : Nat} {sh : zk_S} {d : zm_D} {Q : ((Option zv_V) ⊕ Nat) → Nat → zk_S → zm_D → Nat → Prop} {L : zN} {st : List zv_V} : zJ S D 56 1 L st n sh d u Q ↔ zB S D 56 zb_56_1 L st n sh d u Q := by unfold zJ; rw [zc_56_1]
theorem zc_56_2 : zcd 56 2 = zb_56_2 := by decide +kernel
theorem zj_56_2 {S : zSs} {D n u : Nat} {sh : zk_S} {d : zm_D} {Q : ((Option zv_V) ⊕ Nat) → Nat → zk_S → zm_D → Nat → Prop} {L : zN} {st : List zv_V} : zJ S D 56 2 L st n sh d u Q ↔ zB S D 56 zb_56_2 L st n sh d u Q := by unfold zJ; rw [zc_56_2]
theorem zc_56_3 : zcd 56 3 = zb_56_3 := by decide +kernel
theorem zj_56_3 {S : zSs} {D n u : Nat} {sh : zk_S} {d : zm_D} {Q : ((Option zv_V) ⊕ Nat) → Nat → zk_S → zm_D → Nat → Prop} {L : zN} {st : List zv_V} : zJ S D 56 3 L st n sh d u Q ↔ zB S D 56 zb_56_3 L st n sh d u Q := by unfold zJ; rw [zc_56_3]
theorem zc_56_4 : zcd 56 4 = zb_56_4 := by decide +kernel
theorem zj_56_4 {S : zSs} {D n u : Nat} {sh : zk_S} {d : zm_D} {Q : ((Option zv_V) ⊕ Nat) → Nat → zk_S → zm_D → Nat → Prop} {L : zN} {st : List zv_V} : zJ S D 56 4 L st n sh d u Q ↔ zB S D 56 zb_56_4 L st n sh d u Q := by unfold zJ; rw [zc_56_4]
theorem zc_56_5 : zcd 56 5 = zb_56_5 := by decide +kernel
theorem zj_56_5 {S : zSs} {D n u : Nat} {sh : zk_S} {d : zm_D} {Q : ((Option zv_V) ⊕ Nat) → Nat → zk_S → zm_D → Nat → Prop} {L : zN} {st : List zv_V} : zJ S D 56 5 L st n sh d u Q ↔ zB S D 56 zb_56_5 L st n sh d u Q := by unfold zJ; rw [zc_56_5]
theorem zc_56_6 : zcd 56 6 = zb_56_6 := by decide +kernel
theorem zj_56_6 {S : zSs} {D n u : Nat} {sh : zk_S} {d : zm_D} {Q : ((Option zv_V) ⊕ Nat) → Nat → zk_S → zm_D → Nat → Prop} {L : zN} {st : List zv_V} : zJ S D 56 6 L st n sh d u Q ↔ zB S D 56 zb_56_6 L st n sh d u Q := by unfold zJ; rw [zc_56_6]
theorem zn_56 : znl 56 = 5 := by decide +kernel
theorem ze_56 {S : zSs} {D n u : Nat} {sh : zk_S} {d : zm_D} {Q : ((Option zv_V) ⊕ Nat) → Nat → zk_S → zm_D → Nat → Prop} {x0 : Int} {x1 : Int} {x2 : Int} {x3 : Int} : zE S D 56 [zv_a x0, zv_i x1, zv_i x2, zv_i x3] n sh d u Q ↔ zB S D 56 zb_56_0 [some (zv_a x0), some (zv_i x1), some (zv_i x2), some (zv_i x3), none] [] n sh d u Q := by
  unfold zE; rw [zn_56, zc_56_0]; exact ⟨fun h => h.2, fun h => ⟨Nat.le_of_ble_eq_true rfl, h⟩⟩
theorem ze_56s {S : zSs} {D n u : Nat} {sh : zk_S} {d : zm_D} {Q : ((Option zv_V) ⊕ Nat) → Nat → zk_S → zm_D → Nat → Prop} {x0 : Int} {x1 : Int} {x2 : Int} : zE S D 56 [zv_i x0, zv_i x1, zv_i x2] n sh d u Q ↔ zB S D 56 zb_56_0 [some (zv_i x0), some (zv_i x1), some (zv_i x2), none, none] [] n sh d u Q := by
  unfold zE; rw [zn_56, zc_56_0]; exact ⟨fun h => h.2, fun h => ⟨Nat.le_of_ble_eq_true rfl, h⟩⟩
theorem zh_56 : zhl 56 = [] := by decide +kernel
theorem zc_57_0 : zcd 57 0 = zb_57_0 := by decide +kernel
theorem zj_57_0 {S : zSs} {D n u : Nat} {sh : zk_S} {d : zm_D} {Q : ((Option zv_V) ⊕ Nat) → Nat → zk_S → zm_D → Nat → Prop} {L : zN} {st : List zv_V} : zJ S D 57 0 L st n sh d u Q ↔ zB S D 57 zb_57_0 L st n sh d u Q := by unfold zJ; rw [zc_57_0]
theorem zc_57_1 : zcd 57 1 = zb_57_1 := by decide +kernel
theorem zj_57_1 {S : zSs} {D n u : Nat} {sh : zk_S} {d : zm_D} {Q : ((Option zv_V) ⊕ Nat) → Nat → zk_S → zm_D → Nat → Prop} {L : zN} {st : List zv_V} : zJ S D 57 1 L st n sh d u Q ↔ zB S D 57 zb_57_1 L st n sh d u Q := by unfold zJ; rw [zc_57_1]
theorem zc_57_2 : zcd 57 2 = zb_57_2 := by decide +kernel
theorem zj_57_2 {S : zSs} {D n u : Nat} {sh : zk_S} {d : zm_D} {Q : ((Option zv_V) ⊕ Nat) → Nat → zk_S → zm_D → Nat → Prop} {L : zN} {st : List zv_V} : zJ S D 57 2 L st n sh d u Q ↔ zB S D 57 zb_57_2 L st n sh d u Q := by unfold zJ; rw [zc_57_2]
theorem zn_57 : znl 57 = 1 := by decide +kernel
theorem ze_57 {S : zSs} {D n u : Nat} {sh : zk_S} {d : zm_D} {Q : ((Option zv_V) ⊕ Nat) → Nat → zk_S → zm_D → Nat → Prop} {x0 : Int} : zE S D 57 [zv_a x0] n sh d u Q ↔ zB S D 57 zb_57_0 [some (zv_a x0)] [] n sh d u Q := by
  unfold zE; rw [zn_57, zc_57_0]; exact ⟨fun h => h.2, fun h => ⟨Nat.le_of_ble_eq_true rfl, h⟩⟩
theorem ze_57s {S : zSs} {D n u : Nat} {sh : zk_S} {d : zm_D} {Q : ((Option zv_V) ⊕ Nat) → Nat → zk_S → zm_D → Nat → Prop} : zE S D 57 [] n sh d u Q ↔ zB S D 57 zb_57_0 [none] [] n sh d u Q := by
  unfold zE; rw [zn_57, zc_57_0]; exact ⟨fun h => h.2, fun h => ⟨Nat.le_of_ble_eq_true rfl, h⟩⟩
theorem zh_57 : zhl 57 = [] := by decide +kernel
theorem zc_58_0 : zcd 58 0 = zb_58_0 := by decide +kernel
theorem zj_58_0 {S : zSs} {D n u : Nat} {sh : zk_S} {d : zm_D} {Q : ((Option zv_V) ⊕ Nat) → Nat → zk_S → zm_D → Nat → Prop} {L : zN} {st : List zv_V} : zJ S D 58 0 L st n sh d u Q ↔ zB S D 58 zb_58_0 L st n sh d u Q := by unfold zJ; rw [zc_58_0]
theorem zc_58_1 : zcd 58 1 = zb_58_1 := by decide +kernel
theorem zj_58_1 {S : zSs} {D n u : Nat} {sh : zk_S} {d : zm_D} {Q : ((Option zv_V) ⊕ Nat) → Nat → zk_S → zm_D → Nat → Prop} {L : zN} {st : List zv_V} : zJ S D 58 1 L st n sh d u Q ↔ zB S D 58 zb_58_1 L st n sh d u Q := by unfold zJ; rw [zc_58_1]
theorem zc_58_2 : zcd 58 2 = zb_58_2 := by decide +kernel
theorem zj_58_2 {S : zSs} {D n u : Nat} {sh : zk_S} {d : zm_D} {Q : ((Option zv_V) ⊕ Nat) → Nat → zk_S → zm_D → Nat → Prop} {L : zN} {st : List zv_V} : zJ S D 58 2 L st n sh d u Q ↔ zB S D 58 zb_58_2 L st n sh d u Q := by unfold zJ; rw [zc_58_2]
theorem zn_58 : znl 58 = 2 := by decide +kernel
theorem ze_58 {S : zSs} {D n u : Nat} {sh : zk_S} {d : zm_D} {Q : ((Option zv_V) ⊕ Nat) → Nat → zk_S → zm_D → Nat → Prop} {x0 : Int} {x1 : Int} : zE S D 58 [zv_a x0, zv_a x1] n sh d u Q ↔ zB S D 58 zb_58_0 [some (zv_a x0), some (zv_a x1)] [] n sh d u Q := by
  unfold zE; rw [zn_58, zc_58_0]; exact ⟨fun h => h.2, fun h => ⟨Nat.le_of_ble_eq_true rfl, h⟩⟩
theorem ze_58s {S : zSs} {D n u : Nat} {sh : zk_S} {d : zm_D} {Q : ((Option zv_V) ⊕ Nat) → Nat → zk_S → zm_D → Nat → Prop} {x0 : Int} : zE S D 58 [zv_a x0] n sh d u Q ↔ zB S D 58 zb_58_0 [some (zv_a x0), none] [] n sh d u Q := by
  unfold zE; rw [zn_58, zc_58_0]; exact ⟨fun h => h.2, fun h => ⟨Nat.le_of_ble_eq_true rfl, h⟩⟩
theorem zh_58 : zhl 58 = [] := by decide +kernel
theorem zc_59_0 : zcd 59 0 = zb_59_0 := by decide +kernel
theorem zj_59_0 {S : zSs} {D n u : Nat} {sh : zk_S} {d : zm_D} {Q : ((Option zv_V) ⊕ Nat) → Nat → zk_S → zm_D → Nat → Prop} {L : zN} {st : List zv_V} : zJ S D 59 0 L st n sh d u Q ↔ zB S D 59 zb_59_0 L st n sh d u Q := by unfold zJ; rw [zc_59_0]
theorem zc_59_1 : zcd 59 1 = zb_59_1 := by decide +kernel
theorem zj_59_1 {S : zSs} {D n u : Nat} {sh : zk_S} {d : zm_D} {Q : ((Option zv_V) ⊕ Nat) → Nat → zk_S → zm_D → Nat → Prop} {L : zN} {st : List zv_V} : zJ S D 59 1 L st n sh d u Q ↔ zB S D 59 zb_59_1 L st n sh d u Q := by unfold zJ; rw [zc_59_1]
theorem zc_59_2 : zcd 59 2 = zb_59_2 := by decide +kernel
theorem zj_59_2 {S : zSs} {D n u : Nat} {sh : zk_S} {d : zm_D} {Q : ((Option zv_V) ⊕ Nat) → Nat → zk_S → zm_D → Nat → Prop} {L : zN} {st : List zv_V} : zJ S D 59 2 L st n sh d u Q ↔ zB S D 59 zb_59_2 L st n sh d u Q := by unfold zJ; rw [zc_59_2]
theorem zn_59 : znl 59 = 4 := by decide +kernel
theorem ze_59 {S : zSs} {D n u : Nat} {sh : zk_S} {d : zm_D} {Q : ((Option zv_V) ⊕ Nat) → Nat → zk_S → zm_D → Nat → Prop} {x0 : Int} {x1 : Int} {x2 : Int} : zE S D 59 [zv_a x0, zv_i x1, zv_i x2] n sh d u Q ↔ zB S D 59 zb_59_0 [some (zv_a x0), some (zv_i x1), some (zv_i x2), none] [] n sh d u Q := by
  unfold zE; rw [zn_59, zc_59_0]; exact ⟨fun h => h.2, fun h => ⟨Nat.le_of_ble_eq_true rfl, h⟩⟩
theorem ze_59s {S : zSs} {D n u : Nat} {sh : zk_S} {d : zm_D} {Q : ((Option zv_V) ⊕ Nat) → Nat → zk_S → zm_D → Nat → Prop} {x0 : Int} {x1 : Int} : zE S D 59 [zv_i x0, zv_i x1] n sh d u Q ↔ zB S D 59 zb_59_0 [some (zv_i x0), some (zv_i x1), none, none] [] n sh d u Q := by
  unfold zE; rw [zn_59, zc_59_0]; exact ⟨fun h => h.2, fun h => ⟨Nat.le_of_ble_eq_true rfl, h⟩⟩
theorem zh_59 : zhl 59 = [] := by decide +kernel
theorem zc_60_0 : zcd 60 0 = zb_60_0 := by decide +kernel
theorem zj_60_0 {S : zSs} {D n u : Nat} {sh : zk_S} {d : zm_D} {Q : ((Option zv_V) ⊕ Nat) → Nat → zk_S → zm_D → Nat → Prop} {L : zN} {st : List zv_V} : zJ S D 60 0 L st n sh d u Q ↔ zB S D 60 zb_60_0 L st n sh d u Q := by unfold zJ; rw [zc_60_0]
theorem zc_60_1 : zcd 60 1 = zb_60_1 := by decide +kernel
theorem zj_60_1 {S : zSs} {D n u : Nat} {sh : zk_S} {d : zm_D} {Q : ((Option zv_V) ⊕ Nat) → Nat → zk_S → zm_D → Nat → Prop} {L : zN} {st : List zv_V} : zJ S D 60 1 L st n sh d u Q ↔ zB S D 60 zb_60_1 L st n sh d u Q := by unfold zJ; rw [zc_60_1]
theorem zc_60_2 : zcd 60 2 = zb_60_2 := by decide +kernel
theorem zj_60_2 {S : zSs} {D n u : Nat} {sh : zk_S} {d : zm_D} {Q : ((Option zv_V) ⊕ Nat) → Nat → zk_S → zm_D → Nat → Prop} {L : zN} {st : List zv_V} : zJ S D 60 2 L st n sh d u Q ↔ zB S D 60 zb_60_2 L st n sh d u Q := by unfold zJ; rw [zc_60_2]
theorem zn_60 : znl 60 = 2 := by decide +kernel
theorem ze_60 {S : zSs} {D n u : Nat} {sh : zk_S} {d : zm_D} {Q : ((Option zv_V) ⊕ Nat) → Nat → zk_S → zm_D → Nat → Prop} {x0 : Int} {x1 : Int} : zE S D 60 [zv_a x0, zv_i x1] n sh d u Q ↔ zB S D 60 zb_60_0 [some (zv_a x0), some (zv_i x1)] [] n sh d u Q := by
  unfold zE; rw [zn_60, zc_60_0]; exact ⟨fun h => h.2, fun h => ⟨Nat.le_of_ble_eq_true rfl, h⟩⟩
theorem ze_60s {S : zSs} {D n u : Nat} {sh : zk_S} {d : zm_D} {Q : ((Option zv_V) ⊕ Nat) → Nat → zk_S → zm_D → Nat → Prop} {x0 : Int} : zE S D 60 [zv_i x0] n sh d u Q ↔ zB S D 60 zb_60_0 [some (zv_i x0), none] [] n sh d u Q := by
  unfold zE; rw [zn_60, zc_60_0]; exact ⟨fun h => h.2, fun h => ⟨Nat.le_of_ble_eq_true rfl, h⟩⟩
theorem zh_60 : zhl 60 = [] := by decide +kernel
theorem zc_61_0 : zcd 61 0 = zb_61_0 := by decide +kernel
theorem zj_61_0 {S : zSs} {D n u : Nat} {sh : zk_S} {d : zm_D} {Q : ((Option zv_V) ⊕ Nat) → Nat → zk_S → zm_D → Nat → Prop} {L : zN} {st : List zv_V} : zJ S D 61 0 L st n sh d u Q ↔ zB S D 61 zb_61_0 L st n sh d u Q := by unfold zJ; rw [zc_61_0]
theorem zc_61_1 : zcd 61 1 = zb_61_1 := by decide +kernel
theorem zj_61_1 {S : zSs} {D n u : Nat} {sh : zk_S} {d : zm_D} {Q : ((Option zv_V) ⊕ Nat) → Nat → zk_S → zm_D → Nat → Prop} {L : zN} {st : List zv_V} : zJ S D 61 1 L st n sh d u Q ↔ zB S D 61 zb_61_1 L st n sh d u Q := by unfold zJ; rw [zc_61_1]
theorem zc_61_2 : zcd 61 2 = zb_61_2 := by decide +kernel
theorem zj_61_2 {S : zSs} {D n u : Nat} {sh : zk_S} {d : zm_D} {Q : ((Option zv_V) ⊕ Nat) → Nat → zk_S → zm_D → Nat → Prop} {L : zN} {st : List zv_V} : zJ S D 61 2 L st n sh d u Q ↔ zB S D 61 zb_61_2 L st n sh d u Q := by unfold zJ; rw [zc_61_2]
theorem zc_61_3 : zcd 61 3 = zb_61_3 := by decide +kernel
theorem zj_61_3 {S : zSs} {D n u : Nat} {sh : zk_S} {d : zm_D} {Q : ((Option zv_V) ⊕ Nat) → Nat → zk_S → zm_D → Nat → Prop} {L : zN} {st : List zv_V} : zJ S D 61 3 L st n sh d u Q ↔ zB S D 61 zb_61_3 L st n sh d u Q := by unfold zJ; rw [zc_61_3]
theorem zn_61 : znl 61 = 7 := by decide +kernel
theorem ze_61 {S : zSs} {D n u : Nat} {sh : zk_S} {d : zm_D} {Q : ((Option zv_V) ⊕ Nat) → Nat → zk_S → zm_D → Nat → Prop} {x0 : Int} {x1 : Int} {x2 : Int} : zE S D 61 [zv_a x0, zv_i x1, zv_i x2] n sh d u Q ↔ zB S D 61 zb_61_0 [some (zv_a x0), some (zv_i x1), some (zv_i x2), none, none, none, none] [] n sh d u Q := by
  unfold zE; rw [zn_61, zc_61_0]; exact ⟨fun h => h.2, fun h => ⟨Nat.le_of_ble_eq_true rfl, h⟩⟩
theorem ze_61s {S : zSs} {D n u : Nat} {sh : zk_S} {d : zm_D} {Q : ((Option zv_V) ⊕ Nat) → Nat → zk_S → zm_D → Nat → Prop} {x0 : Int} {x1 : Int} : zE S D 61 [zv_i x0, zv_i x1] n sh d u Q ↔ zB S D 61 zb_61_0 [some (zv_i x0), some (zv_i x1), none, none, none, none, none] [] n sh d u Q := by
  unfold zE; rw [zn_61, zc_61_0]; exact ⟨fun h => h.2, fun h => ⟨Nat.le_of_ble_eq_true rfl, h⟩⟩
theorem zh_61 : zhl 61 = [] := by decide +kernel
theorem zc_62_0 : zcd 62 0 = zb_62_0 := by decide +kernel
theorem zj_62_0 {S : zSs} {D n u : Nat} {sh : zk_S} {d : zm_D} {Q : ((Option zv_V) ⊕ Nat) → Nat → zk_S → zm_D → Nat → Prop} {L : zN} {st : List zv_V} : zJ S D 62 0 L st n sh d u Q ↔ zB S D 62 zb_62_0 L st n sh d u Q := by unfold zJ; rw [zc_62_0]
theorem zc_62_1 : zcd 62 1 = zb_62_1 := by decide +kernel
theorem zj_62_1 {S : zSs} {D n u : Nat} {sh : zk_S} {d : zm_D} {Q : ((Option zv_V) ⊕ Nat) → Nat → zk_S → zm_D → Nat → Prop} {L : zN} {st : List zv_V} : zJ S D 62 1 L st n sh d u Q ↔ zB S D 62 zb_62_1 L st n sh d u Q := by unfold zJ; rw [zc_62_1]
theorem zn_62 : znl 62 = 4 := by decide +kernel
theorem ze_62 {S : zSs} {D n u : Nat} {sh : zk_S} {d : zm_D} {Q : ((Option zv_V) ⊕ Nat) → Nat → zk_S → zm_D → Nat → Prop} {x0 : Int} {x1 : Int} {x2 : Int} : zE S D 62 [zv_a x0, zv_i x1, zv_i x2] n sh d u Q ↔ zB S D 62 zb_62_0 [some (zv_a x0), some (zv_i x1), some (zv_i x2), none] [] n sh d u Q := by
  unfold zE; rw [zn_62, zc_62_0]; exact ⟨fun h => h.2, fun h => ⟨Nat.le_of_ble_eq_true rfl, h⟩⟩
theorem ze_62s {S : zSs} {D n u : Nat} {sh : zk_S} {d : zm_D} {Q : ((Option zv_V) ⊕ Nat) → Nat → zk_S → zm_D → Nat → Prop} {x0 : Int} {x1 : Int} : zE S D 62 [zv_i x0, zv_i x1] n sh d u Q ↔ zB S D 62 zb_62_0 [some (zv_i x0), some (zv_i x1), none, none] [] n sh d u Q := by
  unfold zE; rw [zn_62, zc_62_0]; exact ⟨fun h => h.2, fun h => ⟨Nat.le_of_ble_eq_true rfl, h⟩⟩
theorem zh_62 : zhl 62 = [] := by decide +kernel
theorem zc_63_0 : zcd 63 0 = zb_63_0 := by decide +kernel
theorem zj_63_0 {S : zSs} {D n u : Nat} {sh : zk_S} {d : zm_D} {Q : ((Option zv_V) ⊕ Nat) → Nat → zk_S → zm_D → Nat → Prop} {L : zN} {st : List zv_V} : zJ S D 63 0 L st n sh d u Q ↔ zB S D 63 zb_63_0 L st n sh d u Q := by unfold zJ; rw [zc_63_0]
theorem zc_63_1 : zcd 63 1 = zb_63_1 := by decide +kernel
theorem zj_63_1 {S : zSs} {D n u : Nat} {sh : zk_S} {d : zm_D} {Q : ((Option zv_V) ⊕ Nat) → Nat → zk_S → zm_D → Nat → Prop} {L : zN} {st : List zv_V} : zJ S D 63 1 L st n sh d u Q ↔ zB S D 63 zb_63_1 L st n sh d u Q := by unfold zJ; rw [zc_63_1]
theorem zc_63_2 : zcd 63 2 = zb_63_2 := by decide +kernel
theorem zj_63_2 {S : zSs} {D n u : Nat} {sh : zk_S} {d : zm_D} {Q : ((Option zv_V) ⊕ Nat) → Nat → zk_S → zm_D → Nat → Prop} {L : zN} {st : List zv_V} : zJ S D 63 2 L st n sh d u Q ↔ zB S D 63 zb_63_2 L st n sh d u Q := by unfold zJ; rw [zc_63_2]
theorem zn_63 : znl 63 = 3 := by decide +kernel
theorem ze_63 {S : zSs} {D n u : Nat} {sh : zk_S} {d : zm_D} {Q : ((Option zv_V) ⊕ Nat) → Nat → zk_S → zm_D → Nat → Prop} {x0 : Int} {x1 : Int} {x2 : Int} : zE S D 63 [zv_a x0, zv_a x1, zv_i x2] n sh d u Q ↔ zB S D 63 zb_63_0 [some (zv_a x0), some (zv_a x1), some (zv_i x2)] [] n sh d u Q := by
  unfold zE; rw [zn_63, zc_63_0]; exact ⟨fun h => h.2, fun h => ⟨Nat.le_of_ble_eq_true rfl, h⟩⟩
theorem ze_63s {S : zSs} {D n u : Nat} {sh : zk_S} {d : zm_D} {Q : ((Option zv_V) ⊕ Nat) → Nat → zk_S → zm_D → Nat → Prop} {x0 : Int} {x1 : Int} : zE S D 63 [zv_a x0, zv_i x1] n sh d u Q ↔ zB S D 63 zb_63_0 [some (zv_a x0), some (zv_i x1), none] [] n sh d u Q := by
  unfold zE; rw [zn_63, zc_63_0]; exact ⟨fun h => h.2, fun h => ⟨Nat.le_of_ble_eq_true rfl, h⟩⟩
theorem zh_63 : zhl 63 = [] := by decide +kernel
theorem zc_64_0 : zcd 64 0 = zb_64_0 := by decide +kernel
theorem zj_64_0 {S : zSs} {D n u : Nat} {sh : zk_S} {d : zm_D} {Q : ((Option zv_V) ⊕ Nat) → Nat → zk_S → zm_D → Nat → Prop} {L : zN} {st : List zv_V} : zJ S D 64 0 L st n sh d u Q ↔ zB S D 64 zb_64_0 L st n sh d u Q := by unfold zJ; rw [zc_64_0]
theorem zc_64_1 : zcd 64 1 = zb_64_1 := by decide +kernel
theorem zj_64_1 {S : zSs} {D n u : Nat} {sh : zk_S} {d : zm_D} {Q : ((Option zv_V) ⊕ Nat) → Nat → zk_S → zm_D → Nat → Prop} {L : zN} {st : List zv_V} : zJ S D 64 1 L st n sh d u Q ↔ zB S D 64 zb_64_1 L st n sh d u Q := by unfold zJ; rw [zc_64_1]
theorem zc_64_2 : zcd 64 2 = zb_64_2 := by decide +kernel
theorem zj_64_2 {S : zSs} {D n u : Nat} {sh : zk_S} {d : zm_D} {Q : ((Option zv_V) ⊕ Nat) → Nat → zk_S → zm_D → Nat → Prop} {L : zN} {st : List zv_V} : zJ S D 64 2 L st n sh d u Q ↔ zB S D 64 zb_64_2 L st n sh d u Q := by unfold zJ; rw [zc_64_2]
theorem zc_64_3 : zcd 64 3 = zb_64_3 := by decide +kernel
theorem zj_64_3 {S : zSs} {D n u : Nat} {sh : zk_S} {d : zm_D} {Q : ((Option zv_V) ⊕ Nat) → Nat → zk_S → zm_D → Nat → Prop} {L : zN} {st : List zv_V} : zJ S D 64 3 L st n sh d u Q ↔ zB S D 64 zb_64_3 L st n sh d u Q := by unfold zJ; rw [zc_64_3]
theorem zc_64_4 : zcd 64 4 = zb_64_4 := by decide +kernel
theorem zj_64_4 {S : zSs} {D n u : Nat} {sh : zk_S} {d : zm_D} {Q : ((Option zv_V) ⊕ Nat) → Nat → zk_S → zm_D → Nat → Prop} {L : zN} {st : List zv_V} : zJ S D 64 4 L st n sh d u Q ↔ zB S D 64 zb_64_4 L st n sh d u Q := by unfold zJ; rw [zc_64_4]
theorem zc_64_5 : zcd 64 5 = zb_64_5 := by decide +kernel
theorem zj_64_5 {S : zSs} {D n u : Nat} {sh : zk_S} {d : zm_D} {Q : ((Option zv_V) ⊕ Nat) → Nat → zk_S → zm_D → Nat → Prop} {L : zN} {st : List zv_V} : zJ S D 64 5 L st n sh d u Q ↔ zB S D 64 zb_64_5 L st n sh d u Q := by unfold zJ; rw [zc_64_5]
theorem zc_64_6 : zcd 64 6 = zb_64_6 := by decide +kernel
theorem zj_64_6 {S : zSs} {D n u : Nat} {sh : zk_S} {d : zm_D} {Q : ((Option zv_V) ⊕ Nat) → Nat → zk_S → zm_D → Nat → Prop} {L : zN} {st : List zv_V} : zJ S D 64 6 L st n sh d u Q ↔ zB S D 64 zb_64_6 L st n sh d u Q := by unfold zJ; rw [zc_64_6]
theorem zc_64_7 : zcd 64 7 = zb_64_7 := by decide +kernel
theorem zj_64_7 {S : zSs} {D n u : Nat} {sh : zk_S} {d : zm_D} {Q : ((Option zv_V) ⊕ Nat) → Nat → zk_S → zm_D → Nat → Prop} {L : zN} {st : List zv_V} : zJ S D 64 7 L st n sh d u Q ↔ zB S D 64 zb_64_7 L st n sh d u Q := by unfold zJ; rw [zc_64_7]
theorem zn_64 : znl 64 = 6 := by decide +kernel
theorem ze_64 {S : zSs} {D n u : Nat} {sh : zk_S} {d : zm_D} {Q : ((Option zv_V) ⊕ Nat) → Nat → zk_S → zm_D → Nat → Prop} {x0 : Int} {x1 : Int} : zE S D 64 [zv_a x0, zv_i x1] n sh d u Q ↔ zB S D 64 zb_64_0 [some (zv_a x0), some (zv_i x1), none, none, none, none] [] n sh d u Q := by
  unfold zE; rw [zn_64, zc_64_0]; exact ⟨fun h => h.2, fun h => ⟨Nat.le_of_ble_eq_true rfl, h⟩⟩
theorem ze_64s {S : zSs} {D n u : Nat} {sh : zk_S} {d : zm_D} {Q : ((Option zv_V) ⊕ Nat) → Nat → zk_S → zm_D → Nat → Prop} {x0 : Int} : zE S D 64 [zv_i x0] n sh d u Q ↔ zB S D 64 zb_64_0 [some (zv_i x0), none, none, none, none, none] [] n sh d u Q := by
  unfold zE; rw [zn_64, zc_64_0]; exact ⟨fun h => h.2, fun h => ⟨Nat.le_of_ble_eq_true rfl, h⟩⟩
theorem zh_64 : zhl 64 = [] := by decide +kernel
theorem zc_65_0 : zcd 65 0 = zb_65_0 := by decide +kernel
theorem zj_65_0 {S : zSs} {D n u : Nat} {sh : zk_S} {d : zm_D} {Q : ((Option zv_V) ⊕ Nat) → Nat → zk_S → zm_D → Nat → Prop} {L : zN} {st : List zv_V} : zJ S D 65 0 L st n sh d u Q ↔ zB S D 65 zb_65_0 L st n sh d u Q := by unfold zJ; rw [zc_65_0]
theorem zc_65_1 : zcd 65 1 = zb_65_1 := by decide +kernel
theorem zj_65_1 {S : zSs} {D n u : Nat} {sh : zk_S} {d : zm_D} {Q : ((Option zv_V) ⊕ Nat) → Nat → zk_S → zm_D → Nat → Prop} {L : zN} {st : List zv_V} : zJ S D 65 1 L st n sh d u Q ↔ zB S D 65 zb_65_1 L st n sh d u Q := by unfold zJ; rw [zc_65_1]
theorem zn_65 : znl 65 = 3 := by decide +kernel
theorem ze_65 {S : zSs} {D n u : Nat} {sh : zk_S} {d : zm_D} {Q : ((Option zv_V) ⊕ Nat) → Nat → zk_S → zm_D → Nat → Prop} {x0 : Int} {x1 : Int} : zE S D 65 [zv_a x0, zv_a x1] n sh d u Q ↔ zB S D 65 zb_65_0 [some (zv_a x0), some (zv_a x1), none] [] n sh d u Q := by
  unfold zE; rw [zn_65, zc_65_0]; exact ⟨fun h => h.2, fun h => ⟨Nat.le_of_ble_eq_true rfl, h⟩⟩
theorem ze_65s {S : zSs} {D n u : Nat} {sh : zk_S} {d : zm_D} {Q : ((Option zv_V) ⊕ Nat) → Nat → zk_S → zm_D → Nat → Prop} {x0 : Int} : zE S D 65 [zv_a x0] n sh d u Q ↔ zB S D 65 zb_65_0 [some (zv_a x0), none, none] [] n sh d u Q := by
  unfold zE; rw [zn_65, zc_65_0]; exact ⟨fun h => h.2, fun h => ⟨Nat.le_of_ble_eq_true rfl, h⟩⟩
theorem zh_65 : zhl 65 = [] := by decide +kernel
theorem zc_66_0 : zcd 66 0 = zb_66_0 := by decide +kernel
theorem zj_66_0 {S : zSs} {D n u : Nat} {sh : zk_S} {d : zm_D} {Q : ((Option zv_V) ⊕ Nat) → Nat → zk_S → zm_D → Nat → Prop} {L : zN} {st : List zv_V} : zJ S D 66 0 L st n sh d u Q ↔ zB S D 66 zb_66_0 L st n sh d u Q := by unfold zJ; rw [zc_66_0]
theorem zc_66_1 : zcd 66 1 = zb_66_1 := by decide +kernel
theorem zj_66_1 {S : zSs} {D n u : Nat} {sh : zk_S} {d : zm_D} {Q : ((Option zv_V) ⊕ Nat) → Nat → zk_S → zm_D → Nat → Prop} {L : zN} {st : List zv_V} : zJ S D 66 1 L st n sh d u Q ↔ zB S D 66 zb_66_1 L st n sh d u Q := by unfold zJ; rw [zc_66_1]
theorem zc_66_2 : zcd 66 2 = zb_66_2 := by decide +kernel
theorem zj_66_2 {S : zSs} {D n u : Nat} {sh : zk_S} {d : zm_D} {Q : ((Option zv_V) ⊕ Nat) → Nat → zk_S → zm_D → Nat → Prop} {L : zN} {st : List zv_V} : zJ S D 66 2 L st n sh d u Q ↔ zB S D 66 zb_66_2 L st n sh d u Q := by unfold zJ; rw [zc_66_2]
theorem zc_66_3 : zcd 66 3 = zb_66_3 := by decide +kernel
theorem zj_66_3 {S : zSs} {D n u : Nat} {sh : zk_S} {d : zm_D} {Q : ((Option zv_V) ⊕ Nat) → Nat → zk_S → zm_D → Nat → Prop} {L : zN} {st : List zv_V} : zJ S D 66 3 L st n sh d u Q ↔ zB S D 66 zb_66_3 L st n sh d u Q := by unfold zJ; rw [zc_66_3]
theorem zc_66_4 : zcd 66 4 = zb_66_4 := by decide +kernel
theorem zj_66_4 {S : zSs} {D n u : Nat} {sh : zk_S} {d : zm_D} {Q : ((Option zv_V) ⊕ Nat) → Nat → zk_S → zm_D → Nat → Prop} {L : zN} {st : List zv_V} : zJ S D 66 4 L st n sh d u Q ↔ zB S D 66 zb_66_4 L st n sh d u Q := by unfold zJ; rw [zc_66_4]
theorem zn_66 : znl 66 = 5 := by decide +kernel
theorem ze_66 {S : zSs} {D n u : Nat} {sh : zk_S} {d : zm_D} {Q : ((Option zv_V) ⊕ Nat) → Nat → zk_S → zm_D → Nat → Prop} {x0 : Int} : zE S D 66 [zv_a x0] n sh d u Q ↔ zB S D 66 zb_66_0 [some (zv_a x0), none, none, none, none] [] n sh d u Q := by
  unfold zE; rw [zn_66, zc_66_0]; exact ⟨fun h => h.2, fun h => ⟨Nat.le_of_ble_eq_true rfl, h⟩⟩
theorem ze_66s {S : zSs} {D n u : Nat} {sh : zk_S} {d : zm_D} {Q : ((Option zv_V) ⊕ Nat) → Nat → zk_S → zm_D → Nat → Prop} : zE S D 66 [] n sh d u Q ↔ zB S D 66 zb_66_0 [none, none, none, none, none] [] n sh d u Q := by
  unfold zE; rw [zn_66, zc_66_0]; exact ⟨fun h => h.2, fun h => ⟨Nat.le_of_ble_eq_true rfl, h⟩⟩
theorem zh_66 : zhl 66 = [] := by decide +kernel
theorem zc_67_0 : zcd 67 0 = zb_67_0 := by decide +kernel
theorem zj_67_0 {S : zSs} {D n u : Nat} {sh : zk_S} {d : zm_D} {Q : ((Option zv_V) ⊕ Nat) → Nat → zk_S → zm_D → Nat → Prop} {L : zN} {st : List zv_V} : zJ S D 67 0 L st n sh d u Q ↔ zB S D 67 zb_67_0 L st n sh d u Q := by unfold zJ; rw [zc_67_0]
theorem zc_67_1 : zcd 67 1 = zb_67_1 := by decide +kernel
theorem zj_67_1 {S : zSs} {D n u : Nat} {sh : zk_S} {d : zm_D} {Q : ((Option zv_V) ⊕ Nat) → Nat → zk_S → zm_D → Nat → Prop} {L : zN} {st : List zv_V} : zJ S D 67 1 L st n sh d u Q ↔ zB S D 67 zb_67_1 L st n sh d u Q := by unfold zJ; rw [zc_67_1]
theorem zc_67_2 : zcd 67 2 = zb_67_2 := by decide +kernel
theorem zj_67_2 {S : zSs} {D n u : Nat} {sh : zk_S} {d : zm_D} {Q : ((Option zv_V) ⊕ Nat) → Nat → zk_S → zm_D → Nat → Prop} {L : zN} {st : List zv_V} : zJ S D 67 2 L st n sh d u Q ↔ zB S D 67 zb_67_2 L st n sh d u Q := by unfold zJ; rw [zc_67_2]
theorem zc_67_3 : zcd 67 3 = zb_67_3 := by decide +kernel
theorem zj_67_3 {S : zSs} {D n u : Nat} {sh : zk_S} {d : zm_D} {Q : ((Option zv_V) ⊕ Nat) → Nat → zk_S → zm_D → Nat → Prop} {L : zN} {st : List zv_V} : zJ S D 67 3 L st n sh d u Q ↔ zB S D 67 zb_67_3 L st n sh d u Q := by unfold zJ; rw [zc_67_3]
theorem zn_67 : znl 67 = 5 := by decide +kernel
theorem ze_67 {S : zSs} {D n u : Nat} {sh : zk_S} {d : zm_D} {Q : ((Option zv_V) ⊕ Nat) → Nat → zk_S → zm_D → Nat → Prop} {x0 : Int} {x1 : Int} {x2 : Int} : zE S D 67 [zv_a x0, zv_i x1, zv_i x2] n sh d u Q ↔ zB S D 67 zb_67_0 [some (zv_a x0), some (zv_i x1), some (zv_i x2), none, none] [] n sh d u Q := by
  unfold zE; rw [zn_67, zc_67_0]; exact ⟨fun h => h.2, fun h => ⟨Nat.le_of_ble_eq_true rfl, h⟩⟩
theorem ze_67s {S : zSs} {D n u : Nat} {sh : zk_S} {d : zm_D} {Q : ((Option zv_V) ⊕ Nat) → Nat → zk_S → zm_D → Nat → Prop} {x0 : Int} {x1 : Int} : zE S D 67 [zv_i x0, zv_i x1] n sh d u Q ↔ zB S D 67 zb_67_0 [some (zv_i x0), some (zv_i x1), none, none, none] [] n sh d u Q := by
  unfold zE; rw [zn_67, zc_67_0]; exact ⟨fun h => h.2, fun h => ⟨Nat.le_of_ble_eq_true rfl, h⟩⟩
theorem zh_67 : zhl 67 = [] := by decide +kernel
theorem zc_68_0 : zcd 68 0 = zb_68_0 := by decide +kernel
theorem zj_68_0 {S : zSs} {D n u : Nat} {sh : zk_S} {d : zm_D} {Q : ((Option zv_V) ⊕ Nat) → Nat → zk_S → zm_D → Nat → Prop} {L : zN} {st : List zv_V} : zJ S D 68 0 L st n sh d u Q ↔ zB S D 68 zb_68_0 L st n sh d u Q := by unfold zJ; rw [zc_68_0]
theorem zn_68 : znl 68 = 1 := by decide +kernel
theorem ze_68 {S : zSs} {D n u : Nat} {sh : zk_S} {d : zm_D} {Q : ((Option zv_V) ⊕ Nat) → Nat → zk_S → zm_D → Nat → Prop} {x0 : Int} : zE S D 68 [zv_a x0] n sh d u Q ↔ zB S D 68 zb_68_0 [some (zv_a x0)] [] n sh d u Q := by
  unfold zE; rw [zn_68, zc_68_0]; exact ⟨fun h => h.2, fun h => ⟨Nat.le_of_ble_eq_true rfl, h⟩⟩
theorem ze_68s {S : zSs} {D n u : Nat} {sh : zk_S} {d : zm_D} {Q : ((Option zv_V) ⊕ Nat) → Nat → zk_S → zm_D → Nat → Prop} : zE S D 68 [] n sh d u Q ↔ zB S D 68 zb_68_0 [none] [] n sh d u Q := by
  unfold zE; rw [zn_68, zc_68_0]; exact ⟨fun h => h.2, fun h => ⟨Nat.le_of_ble_eq_true rfl, h⟩⟩
theorem zh_68 : zhl 68 = [] := by decide +kernel
theorem zc_69_0 : zcd 69 0 = zb_69_0 := by decide +kernel
theorem zj_69_0 {S : zSs} {D n u : Nat} {sh : zk_S} {d : zm_D} {Q : ((Option zv_V) ⊕ Nat) → Nat → zk_S → zm_D → Nat → Prop} {L : zN} {st : List zv_V} : zJ S D 69 0 L st n sh d u Q ↔ zB S D 69 zb_69_0 L st n sh d u Q := by unfold zJ; rw [zc_69_0]
theorem zc_69_1 : zcd 69 1 = zb_69_1 := by decide +kernel
theorem zj_69_1 {S : zSs} {D n u : Nat} {sh : zk_S} {d : zm_D} {Q : ((Option zv_V) ⊕ Nat) → Nat → zk_S → zm_D → Nat → Prop} {L : zN} {st : List zv_V} : zJ S D 69 1 L st n sh d u Q ↔ zB S D 69 zb_69_1 L st n sh d u Q := by unfold zJ; rw [zc_69_1]
theorem zc_69_2 : zcd 69 2 = zb_69_2 := by decide +kernel
theorem zj_69_2 {S : zSs} {D n u : Nat} {sh : zk_S} {d : zm_D} {Q : ((Option zv_V) ⊕ Nat) → Nat → zk_S → zm_D → Nat → Prop} {L : zN} {st : List zv_V} : zJ S D 69 2 L st n sh d u Q ↔ zB S D 69 zb_69_2 L st n sh d u Q := by unfold zJ; rw [zc_69_2]
theorem zc_69_3 : zcd 69 3 = zb_69_3 := by decide +kernel
theorem zj_69_3 {S : zSs} {D n u : Nat} {sh : zk_S} {d : zm_D} {Q : ((Option zv_V) ⊕ Nat) → Nat → zk_S → zm_D → Nat → Prop} {L : zN} {st : List zv_V} : zJ S D 69 3 L st n sh d u Q ↔ zB S D 69 zb_69_3 L st n sh d u Q := by unfold zJ; rw [zc_69_3]
theorem zn_69 : znl 69 = 1 := by decide +kernel
theorem ze_69 {S : zSs} {D n u : Nat} {sh : zk_S} {d : zm_D} {Q : ((Option zv_V) ⊕ Nat) → Nat → zk_S → zm_D → Nat → Prop} {x0 : Int} : zE S D 69 [zv_a x0] n sh d u Q ↔ zB S D 69 zb_69_0 [some (zv_a x0)] [] n sh d u Q := by
  unfold zE; rw [zn_69, zc_69_0]; exact ⟨fun h => h.2, fun h => ⟨Nat.le_of_ble_eq_true rfl, h⟩⟩
theorem ze_69s {S : zSs} {D n u : Nat} {sh : zk_S} {d : zm_D} {Q : ((Option zv_V) ⊕ Nat) → Nat → zk_S → zm_D → Nat → Prop} : zE S D 69 [] n sh d u Q ↔ zB S D 69 zb_69_0 [none] [] n sh d u Q := by
  unfold zE; rw [zn_69, zc_69_0]; exact ⟨fun h => h.2, fun h => ⟨Nat.le_of_ble_eq_true rfl, h⟩⟩
theorem zh_69 : zhl 69 = [] := by decide +kernel
theorem zc_70_0 : zcd 70 0 = zb_70_0 := by decide +kernel
theorem zj_70_0 {S : zSs} {D n u : Nat} {sh : zk_S} {d : zm_D} {Q : ((Option zv_V) ⊕ Nat) → Nat → zk_S → zm_D → Nat → Prop} {L : zN} {st : List zv_V} : zJ S D 70 0 L st n sh d u Q ↔ zB S D 70 zb_70_0 L st n sh d u Q := by unfold zJ; rw [zc_70_0]
theorem zn_70 : znl 70 = 1 := by decide +kernel
theorem ze_70 {S : zSs} {D n u : Nat} {sh : zk_S} {d : zm_D} {Q : ((Option zv_V) ⊕ Nat) → Nat → zk_S → zm_D → Nat → Prop} {x0 : Int} : zE S D 70 [zv_a x0] n sh d u Q ↔ zB S D 70 zb_70_0 [some (zv_a x0)] [] n sh d u Q := by
  unfold zE; rw [zn_70, zc_70_0]; exact ⟨fun h => h.2, fun h => ⟨Nat.le_of_ble_eq_true rfl, h⟩⟩
theorem ze_70s {S : zSs} {D n u : Nat} {sh : zk_S} {d : zm_D} {Q : ((Option zv_V) ⊕ Nat) → Nat → zk_S → zm_D → Nat → Prop} : zE S D 70 [] n sh d u Q ↔ zB S D 70 zb_70_0 [none] [] n sh d u Q := by
  unfold zE; rw [zn_70, zc_70_0]; exact ⟨fun h => h.2, fun h => ⟨Nat.le_of_ble_eq_true rfl, h⟩⟩
theorem zh_70 : zhl 70 = [] := by decide +kernel
theorem zc_71_0 : zcd 71 0 = zb_71_0 := by decide +kernel
theorem zj_71_0 {S : zSs} {D n u : Nat} {sh : zk_S} {d : zm_D} {Q : ((Option zv_V) ⊕ Nat) → Nat → zk_S → zm_D → Nat → Prop} {L : zN} {st : List zv_V} : zJ S D 71 0 L st n sh d u Q ↔ zB S D 71 zb_71_0 L st n sh d u Q := by unfold zJ; rw [zc_71_0]
theorem zn_71 : znl 71 = 3 := by decide +kernel
theorem ze_71 {S : zSs} {D n u : Nat} {sh : zk_S} {d : zm_D} {Q : ((Option zv_V) ⊕ Nat) → Nat → zk_S → zm_D → Nat → Prop} {x0 : Int} {x1 : Int} {x2 : Int} : zE S D 71 [zv_a x0, zv_a x1, zv_i x2] n sh d u Q ↔ zB S D 71 zb_71_0 [some (zv_a x0), some (zv_a x1), some (zv_i x2)] [] n sh d u Q := by
  unfold zE; rw [zn_71, zc_71_0]; exact ⟨fun h => h.2, fun h => ⟨Nat.le_of_ble_eq_true rfl, h⟩⟩
theorem ze_71s {S : zSs} {D n u : Nat} {sh : zk_S} {d : zm_D} {Q : ((Option zv_V) ⊕ Nat) → Nat → zk_S → zm_D → Nat → Prop} {x0 : Int} {x1 : Int} : zE S D 71 [zv_a x0, zv_i x1] n sh d u Q ↔ zB S D 71 zb_71_0 [some (zv_a x0), some (zv_i x1), none] [] n sh d u Q := by
  unfold zE; rw [zn_71, zc_71_0]; exact ⟨fun h => h.2, fun h => ⟨Nat.le_of_ble_eq_true rfl, h⟩⟩
theorem zh_71 : zhl 71 = [] := by decide +kernel
theorem zc_72_0 : zcd 72 0 = zb_72_0 := by decide +kernel
theorem zj_72_0 {S : zSs} {D n u : Nat} {sh : zk_S} {d : zm_D} {Q : ((Option zv_V) ⊕ Nat) → Nat → zk_S → zm_D → Nat → Prop} {L : zN} {st : List zv_V} : zJ S D 72 0 L st n sh d u Q ↔ zB S D 72 zb_72_0 L st n sh d u Q := by unfold zJ; rw [zc_72_0]
theorem zc_72_1 : zcd 72 1 = zb_72_1 := by decide +kernel
theorem zj_72_1 {S : zSs} {D n u : Nat} {sh : zk_S} {d : zm_D} {Q : ((Option zv_V) ⊕ Nat) → Nat → zk_S → zm_D → Nat → Prop} {L : zN} {st : List zv_V} : zJ S D 72 1 L st n sh d u Q ↔ zB S D 72 zb_72_1 L st n sh d u Q := by unfold zJ; rw [zc_72_1]
theorem zc_72_2 : zcd 72 2 = zb_72_2 := by decide +kernel
theorem zj_72_2 {S : zSs} {D n u : Nat} {sh : zk_S} {d : zm_D} {Q : ((Option zv_V) ⊕ Nat) → Nat → zk_S → zm_D → Nat → Prop} {L : zN} {st : List zv_V} : zJ S D 72 2 L st n sh d u Q ↔ zB S D 72 zb_72_2 L st n sh d u Q := by unfold zJ; rw [zc_72_2]
theorem zc_72_3 : zcd 72 3 = zb_72_3 := by decide +kernel
theorem zj_72_3 {S : zSs} {D n u : Nat} {sh : zk_S} {d : zm_D} {Q : ((Option zv_V) ⊕ Nat) → Nat → zk_S → zm_D → Nat → Prop} {L : zN} {st : List zv_V} : zJ S D 72 3 L st n sh d u Q ↔ zB S D 72 zb_72_3 L st n sh d u Q := by unfold zJ; rw [zc_72_3]
theorem zc_72_4 : zcd 72 4 = zb_72_4 := by decide +kernel
theorem zj_72_4 {S : zSs} {D n u : Nat} {sh : zk_S} {d : zm_D} {Q : ((Option zv_V) ⊕ Nat) → Nat → zk_S → zm_D → Nat → Prop} {L : zN} {st : List zv_V} : zJ S D 72 4 L st n sh d u Q ↔ zB S D 72 zb_72_4 L st n sh d u Q := by unfold zJ; rw [zc_72_4]
theorem zn_72 : znl 72 = 3 := by decide +kernel
theorem ze_72 {S : zSs} {D n u : Nat} {sh : zk_S} {d : zm_D} {Q : ((Option zv_V) ⊕ Nat) → Nat → zk_S → zm_D → Nat → Prop} {x0 : Int} {x1 : Int} : zE S D 72 [zv_a x0, zv_i x1] n sh d u Q ↔ zB S D 72 zb_72_0 [some (zv_a x0), some (zv_i x1), none] [] n sh d u Q := by
  unfold zE; rw [zn_72, zc_72_0]; exact ⟨fun h => h.2, fun h => ⟨Nat.le_of_ble_eq_true rfl, h⟩⟩
theorem ze_72s {S : zSs} {D n u : Nat} {sh : zk_S} {d : zm_D} {Q : ((Option zv_V) ⊕ Nat) → Nat → zk_S → zm_D → Nat → Prop} {x0 : Int} : zE S D 72 [zv_i x0] n sh d u Q ↔ zB S D 72 zb_72_0 [some (zv_i x0), none, none] [] n sh d u Q := by
  unfold zE; rw [zn_72, zc_72_0]; exact ⟨fun h => h.2, fun h => ⟨Nat.le_of_ble_eq_true rfl, h⟩⟩
theorem zh_72 : zhl 72 = [] := by decide +kernel
theorem zc_73_0 : zcd 73 0 = zb_73_0 := by decide +kernel
theorem zj_73_0 {S : zSs} {D n u : Nat} {sh : zk_S} {d : zm_D} {Q : ((Option zv_V) ⊕ Nat) → Nat → zk_S → zm_D → Nat → Prop} {L : zN} {st : List zv_V} : zJ S D 73 0 L st n sh d u Q ↔ zB S D 73 zb_73_0 L st n sh d u Q := by unfold zJ; rw [zc_73_0]
theorem zc_73_1 : zcd 73 1 = zb_73_1 := by decide +kernel
theorem zj_73_1 {S : zSs} {D n u : Nat} {sh : zk_S} {d : zm_D} {Q : ((Option zv_V) ⊕ Nat) → Nat → zk_S → zm_D → Nat → Prop} {L : zN} {st : List zv_V} : zJ S D 73 1 L st n sh d u Q ↔ zB S D 73 zb_73_1 L st n sh d u Q := by unfold zJ; rw [zc_73_1]
theorem zc_73_2 : zcd 73 2 = zb_73_2 := by decide +kernel
theorem zj_73_2 {S : zSs} {D n u : Nat} {sh : zk_S} {d : zm_D} {Q : ((Option zv_V) ⊕ Nat) → Nat → zk_S → zm_D → Nat → Prop} {L : zN} {st : List zv_V} : zJ S D 73 2 L st n sh d u Q ↔ zB S D 73 zb_73_2 L st n sh d u Q := by unfold zJ; rw [zc_73_2]
theorem zc_73_3 : zcd 73 3 = zb_73_3 := by decide +kernel
theorem zj_73_3 {S : zSs} {D n u : Nat} {sh : zk_S} {d : zm_D} {Q : ((Option zv_V) ⊕ Nat) → Nat → zk_S → zm_D → Nat → Prop} {L : zN} {st : List zv_V} : zJ S D 73 3 L st n sh d u Q ↔ zB S D 73 zb_73_3 L st n sh d u Q := by unfold zJ; rw [zc_73_3]
theorem zn_73 : znl 73 = 1 := by decide +kernel
theorem ze_73 {S : zSs} {D n u : Nat} {sh : zk_S} {d : zm_D} {Q : ((Option zv_V) ⊕ Nat) → Nat → zk_S → zm_D → Nat → Prop} {x0 : Int} : zE S D 73 [zv_a x0] n sh d u Q ↔ zB S D 73 zb_73_0 [some (zv_a x0)] [] n sh d u Q := by
  unfold zE; rw [zn_73, zc_73_0]; exact ⟨fun h => h.2, fun h => ⟨Nat.le_of_ble_eq_true rfl, h⟩⟩
theorem ze_73s {S : zSs} {D n u : Nat} {sh : zk_S} {d : zm_D} {Q : ((Option zv_V) ⊕ Nat) → Nat → zk_S → zm_D → Nat → Prop} : zE S D 73 [] n sh d u Q ↔ zB S D 73 zb_73_0 [none] [] n sh d u Q := by
  unfold zE; rw [zn_73, zc_73_0]; exact ⟨fun h => h.2, fun h => ⟨Nat.le_of_ble_eq_true rfl, h⟩⟩
theorem zh_73 : zhl 73 = [] := by decide +kernel
theorem zc_74_0 : zcd 74 0 = zb_74_0 := by decide +kernel
theorem zj_74_0 {S : zSs} {D n u : Nat} {sh : zk_S} {d : zm_D} {Q : ((Option zv_V) ⊕ Nat) → Nat → zk_S → zm_D → Nat → Prop} {L : zN} {st : List zv_V} : zJ S D 74 0 L st n sh d u Q ↔ zB S D 74 zb_74_0 L st n sh d u Q := by unfold zJ; rw [zc_74_0]
theorem zn_74 : znl 74 = 2 := by decide +kernel
theorem ze_74 {S : zSs} {D n u : Nat} {sh : zk_S} {d : zm_D} {Q : ((Option zv_V) ⊕ Nat) → Nat → zk_S → zm_D → Nat → Prop} {x0 : Int} : zE S D 74 [zv_a x0] n sh d u Q ↔ zB S D 74 zb_74_0 [some (zv_a x0), none] [] n sh d u Q := by
  unfold zE; rw [zn_74, zc_74_0]; exact ⟨fun h => h.2, fun h => ⟨Nat.le_of_ble_eq_true rfl, h⟩⟩
theorem ze_74s {S : zSs} {D n u : Nat} {sh : zk_S} {d : zm_D} {Q : ((Option zv_V) ⊕ Nat) → Nat → zk_S → zm_D → Nat → Prop} : zE S D 74 [] n sh d u Q ↔ zB S D 74 zb_74_0 [none, none] [] n sh d u Q := by
  unfold zE; rw [zn_74, zc_74_0]; exact ⟨fun h => h.2, fun h => ⟨Nat.le_of_ble_eq_true rfl, h⟩⟩
theorem zh_74 : zhl 74 = [] := by decide +kernel
theorem zc_75_0 : zcd 75 0 = zb_75_0 := by decide +kernel
theorem zj_75_0 {S : zSs} {D n u : Nat} {sh : zk_S} {d : zm_D} {Q : ((Option zv_V) ⊕ Nat) → Nat → zk_S → zm_D → Nat → Prop} {L : zN} {st : List zv_V} : zJ S D 75 0 L st n sh d u Q ↔ zB S D 75 zb_75_0 L st n sh d u Q := by unfold zJ; rw [zc_75_0]
theorem zc_75_1 : zcd 75 1 = zb_75_1 := by decide +kernel
theorem zj_75_1 {S : zSs} {D n u : Nat} {sh : zk_S} {d : zm_D} {Q : ((Option zv_V) ⊕ Nat) → Nat → zk_S → zm_D → Nat → Prop} {L : zN} {st : List zv_V} : zJ S D 75 1 L st n sh d u Q ↔ zB S D 75 zb_75_1 L st n sh d u Q := by unfold zJ; rw [zc_75_1]
theorem zc_75_2 : zcd 75 2 = zb_75_2 := by decide +kernel
theorem zj_75_2 {S : zSs} {D n u : Nat} {sh : zk_S} {d : zm_D} {Q : ((Option zv_V) ⊕ Nat) → Nat → zk_S → zm_D → Nat → Prop} {L : zN} {st : List zv_V} : zJ S D 75 2 L st n sh d u Q ↔ zB S D 75 zb_75_2 L st n sh d u Q := by unfold zJ; rw [zc_75_2]
theorem zn_75 : znl 75 = 1 := by decide +kernel
theorem ze_75 {S : zSs} {D n u : Nat} {sh : zk_S} {d : zm_D} {Q : ((Option zv_V) ⊕ Nat) → Nat → zk_S → zm_D → Nat → Prop} {x0 : Int} : zE S D 75 [zv_a x0] n sh d u Q ↔ zB S D 75 zb_75_0 [some (zv_a x0)] [] n sh d u Q := by
  unfold zE; rw [zn_75, zc_75_0]; exact ⟨fun h => h.2, fun h => ⟨Nat.le_of_ble_eq_true rfl, h⟩⟩
theorem ze_75s {S : zSs} {D n u : Nat} {sh : zk_S} {d : zm_D} {Q : ((Option zv_V) ⊕ Nat) → Nat → zk_S → zm_D → Nat → Prop} : zE S D 75 [] n sh d u Q ↔ zB S D 75 zb_75_0 [none] [] n sh d u Q := by
  unfold zE; rw [zn_75, zc_75_0]; exact ⟨fun h => h.2, fun h => ⟨Nat.le_of_ble_eq_true rfl, h⟩⟩
theorem zh_75 : zhl 75 = [] := by decide +kernel
theorem zc_76_0 : zcd 76 0 = zb_76_0 := by decide +kernel
theorem zj_76_0 {S : zSs} {D n u : Nat} {sh : zk_S} {d : zm_D} {Q : ((Option zv_V) ⊕ Nat) → Nat → zk_S → zm_D → Nat → Prop} {L : zN} {st : List zv_V} : zJ S D 76 0 L st n sh d u Q ↔ zB S D 76 zb_76_0 L st n sh d u Q := by unfold zJ; rw [zc_76_0]
theorem zc_76_1 : zcd 76 1 = zb_76_1 := by decide +kernel
theorem zj_76_1 {S : zSs} {D n u : Nat} {sh : zk_S} {d : zm_D} {Q : ((Option zv_V) ⊕ Nat) → Nat → zk_S → zm_D → Nat → Prop} {L : zN} {st : List zv_V} : zJ S D 76 1 L st n sh d u Q ↔ zB S D 76 zb_76_1 L st n sh d u Q := by unfold zJ; rw [zc_76_1]
theorem zc_76_2 : zcd 76 2 = zb_76_2 := by decide +kernel
theorem zj_76_2 {S : zSs} {D n u : Nat} {sh : zk_S} {d : zm_D} {Q : ((Option zv_V) ⊕ Nat) → Nat → zk_S → zm_D → Nat → Prop} {L : zN} {st : List zv_V} : zJ S D 76 2 L st n sh d u Q ↔ zB S D 76 zb_76_2 L st n sh d u Q := by unfold zJ; rw [zc_76_2]
theorem zn_76 : znl 76 = 1 := by decide +kernel
theorem ze_76 {S : zSs} {D n u : Nat} {sh : zk_S} {d : zm_D} {Q : ((Option zv_V) ⊕ Nat) → Nat → zk_S → zm_D → Nat → Prop} {x0 : Int} : zE S D 76 [zv_a x0] n sh d u Q ↔ zB S D 76 zb_76_0 [some (zv_a x0)] [] n sh d u Q := by
  unfold zE; rw [zn_76, zc_76_0]; exact ⟨fun h => h.2, fun h => ⟨Nat.le_of_ble_eq_true rfl, h⟩⟩
theorem ze_76s {S : zSs} {D n u : Nat} {sh : zk_S} {d : zm_D} {Q : ((Option zv_V) ⊕ Nat) → Nat → zk_S → zm_D → Nat → Prop} : zE S D 76 [] n sh d u Q ↔ zB S D 76 zb_76_0 [none] [] n sh d u Q := by
  unfold zE; rw [zn_76, zc_76_0]; exact ⟨fun h => h.2, fun h => ⟨Nat.le_of_ble_eq_true rfl, h⟩⟩
theorem zh_76 : zhl 76 = [] := by decide +kernel
theorem zc_77_0 : zcd 77 0 = zb_77_0 := by decide +kernel
theorem zj_77_0 {S : zSs} {D n u : Nat} {sh : zk_S} {d : zm_D} {Q : ((Option zv_V) ⊕ Nat) → Nat → zk_S → zm_D → Nat → Prop} {L : zN} {st : List zv_V} : zJ S D 77 0 L st n sh d u Q ↔ zB S D 77 zb_77_0 L st n sh d u Q := by unfold zJ; rw [zc_77_0]
theorem zn_77 : znl 77 = 1 := by decide +kernel
theorem ze_77 {S : zSs} {D n u : Nat} {sh : zk_S} {d : zm_D} {Q : ((Option zv_V) ⊕ Nat) → Nat → zk_S → zm_D → Nat → Prop} {x0 : Int} : zE S D 77 [zv_a x0] n sh d u Q ↔ zB S D 77 zb_77_0 [some (zv_a x0)] [] n sh d u Q := by
  unfold zE; rw [zn_77, zc_77_0]; exact ⟨fun h => h.2, fun h => ⟨Nat.le_of_ble_eq_true rfl, h⟩⟩
theorem ze_77s {S : zSs} {D n u : Nat} {sh : zk_S} {d : zm_D} {Q : ((Option zv_V) ⊕ Nat) → Nat → zk_S → zm_D → Nat → Prop} : zE S D 77 [] n sh d u Q ↔ zB S D 77 zb_77_0 [none] [] n sh d u Q := by
  unfold zE; rw [zn_77, zc_77_0]; exact ⟨fun h => h.2, fun h => ⟨Nat.le_of_ble_eq_true rfl, h⟩⟩
theorem zh_77 : zhl 77 = [] := by decide +kernel
theorem zc_78_0 : zcd 78 0 = zb_78_0 := by decide +kernel
theorem zj_78_0 {S : zSs} {D n u : Nat} {sh : zk_S} {d : zm_D} {Q : ((Option zv_V) ⊕ Nat) → Nat → zk_S → zm_D → Nat → Prop} {L : zN} {st : List zv_V} : zJ S D 78 0 L st n sh d u Q ↔ zB S D 78 zb_78_0 L st n sh d u Q := by unfold zJ; rw [zc_78_0]
theorem zn_78 : znl 78 = 1 := by decide +kernel
theorem ze_78 {S : zSs} {D n u : Nat} {sh : zk_S} {d : zm_D} {Q : ((Option zv_V) ⊕ Nat) → Nat → zk_S → zm_D → Nat → Prop} {x0 : Int} : zE S D 78 [zv_a x0] n sh d u Q ↔ zB S D 78 zb_78_0 [some (zv_a x0)] [] n sh d u Q := by
  unfold zE; rw [zn_78, zc_78_0]; exact ⟨fun h => h.2, fun h => ⟨Nat.le_of_ble_eq_true rfl, h⟩⟩
theorem ze_78s {S : zSs} {D n u : Nat} {sh : zk_S} {d : zm_D} {Q : ((Option zv_V) ⊕ Nat) → Nat → zk_S → zm_D → Nat → Prop} : zE S D 78 [] n sh d u Q ↔ zB S D 78 zb_78_0 [none] [] n sh d u Q := by
  unfold zE; rw [zn_78, zc_78_0]; exact ⟨fun h => h.2, fun h => ⟨Nat.le_of_ble_eq_true rfl, h⟩⟩
theorem zh_78 : zhl 78 = [] := by decide +kernel
theorem zc_79_0 : zcd 79 0 = zb_79_0 := by decide +kernel
theorem zj_79_0 {S : zSs} {D n u : Nat} {sh : zk_S} {d : zm_D} {Q : ((Option zv_V) ⊕ Nat) → Nat → zk_S → zm_D → Nat → Prop} {L : zN} {st : List zv_V} : zJ S D 79 0 L st n sh d u Q ↔ zB S D 79 zb_79_0 L st n sh d u Q := by unfold zJ; rw [zc_79_0]
theorem zn_79 : znl 79 = 2 := by decide +kernel
theorem ze_79 {S : zSs} {D n u : Nat} {sh : zk_S} {d : zm_D} {Q : ((Option zv_V) ⊕ Nat) → Nat → zk_S → zm_D → Nat → Prop} {x0 : Int} {x1 : Int} : zE S D 79 [zv_a x0, zv_i x1] n sh d u Q ↔ zB S D 79 zb_79_0 [some (zv_a x0), some (zv_i x1)] [] n sh d u Q := by
  unfold zE; rw [zn_79, zc_79_0]; exact ⟨fun h => h.2, fun h => ⟨Nat.le_of_ble_eq_true rfl, h⟩⟩
theorem ze_79s {S : zSs} {D n u : Nat} {sh : zk_S} {d : zm_D} {Q : ((Option zv_V) ⊕ Nat) → Nat → zk_S → zm_D → Nat → Prop} {x0 : Int} : zE S D 79 [zv_i x0] n sh d u Q ↔ zB S D 79 zb_79_0 [some (zv_i x0), none] [] n sh d u Q := by
  unfold zE; rw [zn_79, zc_79_0]; exact ⟨fun h => h.2, fun h => ⟨Nat.le_of_ble_eq_true rfl, h⟩⟩
theorem zh_79 : zhl 79 = [] := by decide +kernel
theorem zc_80_0 : zcd 80 0 = zb_80_0 := by decide +kernel
theorem zj_80_0 {S : zSs} {D n u : Nat} {sh : zk_S} {d : zm_D} {Q : ((Option zv_V) ⊕ Nat) → Nat → zk_S → zm_D → Nat → Prop} {L : zN} {st : List zv_V} : zJ S D 80 0 L st n sh d u Q ↔ zB S D 80 zb_80_0 L st n sh d u Q := by unfold zJ; rw [zc_80_0]
theorem zn_80 : znl 80 = 1 := by decide +kernel
theorem ze_80 {S : zSs} {D n u : Nat} {sh : zk_S} {d : zm_D} {Q : ((Option zv_V) ⊕ Nat) → Nat → zk_S → zm_D → Nat → Prop} {x0 : Int} : zE S D 80 [zv_a x0] n sh d u Q ↔ zB S D 80 zb_80_0 [some (zv_a x0)] [] n sh d u Q := by
  unfold zE; rw [zn_80, zc_80_0]; exact ⟨fun h => h.2, fun h => ⟨Nat.le_of_ble_eq_true rfl, h⟩⟩
theorem ze_80s {S : zSs} {D n u : Nat} {sh : zk_S} {d : zm_D} {Q : ((Option zv_V) ⊕ Nat) → Nat → zk_S → zm_D → Nat → Prop} : zE S D 80 [] n sh d u Q ↔ zB S D 80 zb_80_0 [none] [] n sh d u Q := by
  unfold zE; rw [zn_80, zc_80_0]; exact ⟨fun h => h.2, fun h => ⟨Nat.le_of_ble_eq_true rfl, h⟩⟩
theorem zh_80 : zhl 80 = [] := by decide +kernel
theorem zc_81_0 : zcd 81 0 = zb_81_0 := by decide +kernel
theorem zj_81_0 {S : zSs} {D n u : Nat} {sh : zk_S} {d : zm_D} {Q : ((Option zv_V) ⊕ Nat) → Nat → zk_S → zm_D → Nat → Prop} {L : zN} {st : List zv_V} : zJ S D 81 0 L st n sh d u Q ↔ zB S D 81 zb_81_0 L st n sh d u Q := by unfold zJ; rw [zc_81_0]
theorem zc_81_1 : zcd 81 1 = zb_81_1 := by decide +kernel
theorem zj_81_1 {S : zSs} {D n u : Nat} {sh : zk_S} {d : zm_D} {Q : ((Option zv_V) ⊕ Nat) → Nat → zk_S → zm_D → Nat → Prop} {L : zN} {st : List zv_V} : zJ S D 81 1 L st n sh d u Q ↔ zB S D 81 zb_81_1 L st n sh d u Q := by unfold zJ; rw [zc_81_1]
theorem zc_81_2 : zcd 81 2 = zb_81_2 := by decide +kernel
theorem zj_81_2 {S : zSs} {D n u : Nat} {sh : zk_S} {d : zm_D} {Q : ((Option zv_V) ⊕ Nat) → Nat → zk_S → zm_D → Nat → Prop} {L : zN} {st : List zv_V} : zJ S D 81 2 L st n sh d u Q ↔ zB S D 81 zb_81_2 L st n sh d u Q := by unfold zJ; rw [zc_81_2]
theorem zn_81 : znl 81 = 1 := by decide +kernel
theorem ze_81s {S : zSs} {D n u : Nat} {sh : zk_S} {d : zm_D} {Q : ((Option zv_V) ⊕ Nat) → Nat → zk_S → zm_D → Nat → Prop} {x0 : Int} : zE S D 81 [zv_i x0] n sh d u Q ↔ zB S D 81 zb_81_0 [some (zv_i x0)] [] n sh d u Q := by
  unfold zE; rw [zn_81, zc_81_0]; exact ⟨fun h => h.2, fun h => ⟨Nat.le_of_ble_eq_true rfl, h⟩⟩
theorem zh_81 : zhl 81 = [] := by decide +kernel
theorem zc_82_0 : zcd 82 0 = zb_82_0 := by decide +kernel
theorem zj_82_0 {S : zSs} {D n u : Nat} {sh : zk_S} {d : zm_D} {Q : ((Option zv_V) ⊕ Nat) → Nat → zk_S → zm_D → Nat → Prop} {L : zN} {st : List zv_V} : zJ S D 82 0 L st n sh d u Q ↔ zB S D 82 zb_82_0 L st n sh d u Q := by unfold zJ; rw [zc_82_0]
theorem zn_82 : znl 82 = 1 := by decide +kernel
theorem ze_82 {S : zSs} {D n u : Nat} {sh : zk_S} {d : zm_D} {Q : ((Option zv_V) ⊕ Nat) → Nat → zk_S → zm_D → Nat → Prop} {x0 : Int} : zE S D 82 [zv_a x0] n sh d u Q ↔ zB S D 82 zb_82_0 [some (zv_a x0)] [] n sh d u Q := by
  unfold zE; rw [zn_82, zc_82_0]; exact ⟨fun h => h.2, fun h => ⟨Nat.le_of_ble_eq_true rfl, h⟩⟩
theorem ze_82s {S : zSs} {D n u : Nat} {sh : zk_S} {d : zm_D} {Q : ((Option zv_V) ⊕ Nat) → Nat → zk_S → zm_D → Nat → Prop} : zE S D 82 [] n sh d u Q ↔ zB S D 82 zb_82_0 [none] [] n sh d u Q := by
  unfold zE; rw [zn_82, zc_82_0]; exact ⟨fun h => h.2, fun h => ⟨Nat.le_of_ble_eq_true rfl, h⟩⟩
theorem zh_82 : zhl 82 = [] := by decide +kernel
theorem zc_83_0 : zcd 83 0 = zb_83_0 := by decide +kernel
theorem zj_83_0 {S : zSs} {D n u : Nat} {sh : zk_S} {d : zm_D} {Q : ((Option zv_V) ⊕ Nat) → Nat → zk_S → zm_D → Nat → Prop} {L : zN} {st : List zv_V} : zJ S D 83 0 L st n sh d u Q ↔ zB S D 83 zb_83_0 L st n sh d u Q := by unfold zJ; rw [zc_83_0]
theorem zc_83_1 : zcd 83 1 = zb_83_1 := by decide +kernel
theorem zj_83_1 {S : zSs} {D n u : Nat} {sh : zk_S} {d : zm_D} {Q : ((Option zv_V) ⊕ Nat) → Nat → zk_S → zm_D → Nat → Prop} {L : zN} {st : List zv_V} : zJ S D 83 1 L st n sh d u Q ↔ zB S D 83 zb_83_1 L st n sh d u Q := by unfold zJ; rw [zc_83_1]
theorem zc_83_2 : zcd 83 2 = zb_83_2 := by decide +kernel
theorem zj_83_2 {S : zSs} {D n u : Nat} {sh : zk_S} {d : zm_D} {Q : ((Option zv_V) ⊕ Nat) → Nat → zk_S → zm_D → Nat → Prop} {L : zN} {st : List zv_V} : zJ S D 83 2 L st n sh d u Q ↔ zB S D 83 zb_83_2 L st n sh d u Q := by unfold zJ; rw [zc_83_2]
theorem zn_83 : znl 83 = 3 := by decide +kernel
theorem ze_83 {S : zSs} {D n u : Nat} {sh : zk_S} {d : zm_D} {Q : ((Option zv_V) ⊕ Nat) → Nat → zk_S → zm_D → Nat → Prop} {x0 : Int} {x1 : Int} : zE S D 83 [zv_a x0, zv_i x1] n sh d u Q ↔ zB S D 83 zb_83_0 [some (zv_a x0), some (zv_i x1), none] [] n sh d u Q := by
  unfold zE; rw [zn_83, zc_83_0]; exact ⟨fun h => h.2, fun h => ⟨Nat.le_of_ble_eq_true rfl, h⟩⟩
theorem ze_83s {S : zSs} {D n u : Nat} {sh : zk_S} {d : zm_D} {Q : ((Option zv_V) ⊕ Nat) → Nat → zk_S → zm_D → Nat → Prop} {x0 : Int} : zE S D 83 [zv_i x0] n sh d u Q ↔ zB S D 83 zb_83_0 [some (zv_i x0), none, none] [] n sh d u Q := by
  unfold zE; rw [zn_83, zc_83_0]; exact ⟨fun h => h.2, fun h => ⟨Nat.le_of_ble_eq_true rfl, h⟩⟩
theorem zh_83 : zhl 83 = [] := by decide +kernel
theorem zc_84_0 : zcd 84 0 = zb_84_0 := by decide +kernel
theorem zj_84_0 {S : zSs} {D n u : Nat} {sh : zk_S} {d : zm_D} {Q : ((Option zv_V) ⊕ Nat) → Nat → zk_S → zm_D → Nat → Prop} {L : zN} {st : List zv_V} : zJ S D 84 0 L st n sh d u Q ↔ zB S D 84 zb_84_0 L st n sh d u Q := by unfold zJ; rw [zc_84_0]
theorem zc_84_1 : zcd 84 1 = zb_84_1 := by decide +kernel
theorem zj_84_1 {S : zSs} {D n u : Nat} {sh : zk_S} {d : zm_D} {Q : ((Option zv_V) ⊕ Nat) → Nat → zk_S → zm_D → Nat → Prop} {L : zN} {st : List zv_V} : zJ S D 84 1 L st n sh d u Q ↔ zB S D 84 zb_84_1 L st n sh d u Q := by unfold zJ; rw [zc_84_1]
theorem zc_84_2 : zcd 84 2 = zb_84_2 := by decide +kernel
theorem zj_84_2 {S : zSs} {D n u : Nat} {sh : zk_S} {d : zm_D} {Q : ((Option zv_V) ⊕ Nat) → Nat → zk_S → zm_D → Nat → Prop} {L : zN} {st : List zv_V} : zJ S D 84 2 L st n sh d u Q ↔ zB S D 84 zb_84_2 L st n sh d u Q := by unfold zJ; rw [zc_84_2]
theorem zc_84_3 : zcd 84 3 = zb_84_3 := by decide +kernel
theorem zj_84_3 {S : zSs} {D n u : Nat} {sh : zk_S} {d : zm_D} {Q : ((Option zv_V) ⊕ Nat) → Nat → zk_S → zm_D → Nat → Prop} {L : zN} {st : List zv_V} : zJ S D 84 3 L st n sh d u Q ↔ zB S D 84 zb_84_3 L st n sh d u Q := by unfold zJ; rw [zc_84_3]
theorem zc_84_4 : zcd 84 4 = zb_84_4 := by decide +kernel
theorem zj_84_4 {S : zSs} {D n u : Nat} {sh : zk_S} {d : zm_D} {Q : ((Option zv_V) ⊕ Nat) → Nat → zk_S → zm_D → Nat → Prop} {L : zN} {st : List zv_V} : zJ S D 84 4 L st n sh d u Q ↔ zB S D 84 zb_84_4 L st n sh d u Q := by unfold zJ; rw [zc_84_4]
theorem zn_84 : znl 84 = 4 := by decide +kernel
theorem ze_84 {S : zSs} {D n u : Nat} {sh : zk_S} {d : zm_D} {Q : ((Option zv_V) ⊕ Nat) → Nat → zk_S → zm_D → Nat → Prop} {x0 : Int} {x1 : Int} : zE S D 84 [zv_a x0, zv_i x1] n sh d u Q ↔ zB S D 84 zb_84_0 [some (zv_a x0), some (zv_i x1), none, none] [] n sh d u Q := by
  unfold zE; rw [zn_84, zc_84_0]; exact ⟨fun h => h.2, fun h => ⟨Nat.le_of_ble_eq_true rfl, h⟩⟩
theorem ze_84s {S : zSs} {D n u : Nat} {sh : zk_S} {d : zm_D} {Q : ((Option zv_V) ⊕ Nat) → Nat → zk_S → zm_D → Nat → Prop} {x0 : Int} : zE S D 84 [zv_i x0] n sh d u Q ↔ zB S D 84 zb_84_0 [some (zv_i x0), none, none, none] [] n sh d u Q := by
  unfold zE; rw [zn_84, zc_84_0]; exact ⟨fun h => h.2, fun h => ⟨Nat.le_of_ble_eq_true rfl, h⟩⟩
theorem zh_84 : zhl 84 = [] := by decide +kernel
theorem zc_85_0 : zcd 85 0 = zb_85_0 := by decide +kernel
theorem zj_85_0 {S : zSs} {D n u : Nat} {sh : zk_S} {d : zm_D} {Q : ((Option zv_V) ⊕ Nat) → Nat → zk_S → zm_D → Nat → Prop} {L : zN} {st : List zv_V} : zJ S D 85 0 L st n sh d u Q ↔ zB S D 85 zb_85_0 L st n sh d u Q := by unfold zJ; rw [zc_85_0]
theorem zc_85_1 : zcd 85 1 = zb_85_1 := by decide +kernel
theorem zj_85_1 {S : zSs} {D n u : Nat} {sh : zk_S} {d : zm_D} {Q : ((Option zv_V) ⊕ Nat) → Nat → zk_S → zm_D → Nat → Prop} {L : zN} {st : List zv_V} : zJ S D 85 1 L st n sh d u Q ↔ zB S D 85 zb_85_1 L st n sh d u Q := by unfold zJ; rw [zc_85_1]
theorem zc_85_2 : zcd 85 2 = zb_85_2 := by decide +kernel
theorem zj_85_2 {S : zSs} {D n u : Nat} {sh : zk_S} {d : zm_D} {Q : ((Option zv_V) ⊕ Nat) → Nat → zk_S → zm_D → Nat → Prop} {L : zN} {st : List zv_V} : zJ S D 85 2 L st n sh d u Q ↔ zB S D 85 zb_85_2 L st n sh d u Q := by unfold zJ; rw [zc_85_2]
theorem zc_85_3 : zcd 85 3 = zb_85_3 := by decide +kernel
theorem zj_85_3 {S : zSs} {D n u : Nat} {sh : zk_S} {d : zm_D} {Q : ((Option zv_V) ⊕ Nat) → Nat → zk_S → zm_D → Nat → Prop} {L : zN} {st : List zv_V} : zJ S D 85 3 L st n sh d u Q ↔ zB S D 85 zb_85_3 L st n sh d u Q := by unfold zJ; rw [zc_85_3]
theorem zc_85_4 : zcd 85 4 = zb_85_4 := by decide +kernel
theorem zj_85_4 {S : zSs} {D n u : Nat} {sh : zk_S} {d : zm_D} {Q : ((Option zv_V) ⊕ Nat) → Nat → zk_S → zm_D → Nat → Prop} {L : zN} {st : List zv_V} : zJ S D 85 4 L st n sh d u Q ↔ zB S D 85 zb_85_4 L st n sh d u Q := by unfold zJ; rw [zc_85_4]
theorem zn_85 : znl 85 = 5 := by decide +kernel
theorem ze_85 {S : zSs} {D n u : Nat} {sh : zk_S} {d : zm_D} {Q : ((Option zv_V) ⊕ Nat) → Nat → zk_S → zm_D → Nat → Prop} {x0 : Int} {x1 : Int} : zE S D 85 [zv_a x0, zv_i x1] n sh d u Q ↔ zB S D 85 zb_85_0 [some (zv_a x0), some (zv_i x1), none, none, none] [] n sh d u Q := by
  unfold zE; rw [zn_85, zc_85_0]; exact ⟨fun h => h.2, fun h => ⟨Nat.le_of_ble_eq_true rfl, h⟩⟩
theorem ze_85s {S : zSs} {D n u : Nat} {sh : zk_S} {d : zm_D} {Q : ((Option zv_V) ⊕ Nat) → Nat → zk_S → zm_D → Nat → Prop} {x0 : Int} : zE S D 85 [zv_i x0] n sh d u Q ↔ zB S D 85 zb_85_0 [some (zv_i x0), none, none, none, none] [] n sh d u Q := by
  unfold zE; rw [zn_85, zc_85_0]; exact ⟨fun h => h.2, fun h => ⟨Nat.le_of_ble_eq_true rfl, h⟩⟩
theorem zh_85 : zhl 85 = [] := by decide +kernel
theorem zc_86_0 : zcd 86 0 = zb_86_0 := by decide +kernel
theorem zj_86_0 {S : zSs} {D n u : Nat} {sh : zk_S} {d : zm_D} {Q : ((Option zv_V) ⊕ Nat) → Nat → zk_S → zm_D → Nat → Prop} {L : zN} {st : List zv_V} : zJ S D 86 0 L st n sh d u Q ↔ zB S D 86 zb_86_0 L st n sh d u Q := by unfold zJ; rw [zc_86_0]
theorem zc_86_1 : zcd 86 1 = zb_86_1 := by decide +kernel
theorem zj_86_1 {S : zSs} {D n u : Nat} {sh : zk_S} {d : zm_D} {Q : ((Option zv_V) ⊕ Nat) → Nat → zk_S → zm_D → Nat → Prop} {L : zN} {st : List zv_V} : zJ S D 86 1 L st n sh d u Q ↔ zB S D 86 zb_86_1 L st n sh d u Q := by unfold zJ; rw [zc_86_1]
theorem zc_86_2 : zcd 86 2 = zb_86_2 := by decide +kernel
theorem zj_86_2 {S : zSs} {D n u : Nat} {sh : zk_S} {d : zm_D} {Q : ((Option zv_V) ⊕ Nat) → Nat → zk_S → zm_D → Nat → Prop} {L : zN} {st : List zv_V} : zJ S D 86 2 L st n sh d u Q ↔ zB S D 86 zb_86_2 L st n sh d u Q := by unfold zJ; rw [zc_86_2]
theorem zc_86_3 : zcd 86 3 = zb_86_3 := by decide +kernel
theorem zj_86_3 {S : zSs} {D n u : Nat} {sh : zk_S} {d : zm_D} {Q : ((Option zv_V) ⊕ Nat) → Nat → zk_S → zm_D → Nat → Prop} {L : zN} {st : List zv_V} : zJ S D 86 3 L st n sh d u Q ↔ zB S D 86 zb_86_3 L st n sh d u Q := by unfold zJ; rw [zc_86_3]
theorem zc_86_4 : zcd 86 4 = zb_86_4 := by decide +kernel
theorem zj_86_4 {S : zSs} {D n u : Nat} {sh : zk_S} {d : zm_D} {Q : ((Option zv_V) ⊕ Nat) → Nat → zk_S → zm_D → Nat → Prop} {L : zN} {st : List zv_V} : zJ S D 86 4 L st n sh d u Q ↔ zB S D 86 zb_86_4 L st n sh d u Q := by unfold zJ; rw [zc_86_4]
theorem zc_86_5 : zcd 86 5 = zb_86_5 := by decide +kernel
theorem zj_86_5 {S : zSs} {D n u : Nat} {sh : zk_S} {d : zm_D} {Q : ((Option zv_V) ⊕ Nat) → Nat → zk_S → zm_D → Nat → Prop} {L : zN} {st : List zv_V} : zJ S D 86 5 L st n sh d u Q ↔ zB S D 86 zb_86_5 L st n sh d u Q := by unfold zJ; rw [zc_86_5]
theorem zc_86_6 : zcd 86 6 = zb_86_6 := by decide +kernel
theorem zj_86_6 {S : zSs} {D n u : Nat} {sh : zk_S} {d : zm_D} {Q : ((Option zv_V) ⊕ Nat) → Nat → zk_S → zm_D → Nat → Prop} {L : zN} {st : List zv_V} : zJ S D 86 6 L st n sh d u Q ↔ zB S D 86 zb_86_6 L st n sh d u Q := by unfold zJ; rw [zc_86_6]
theorem zc_86_7 : zcd 86 7 = zb_86_7 := by decide +kernel
theorem zj_86_7 {S : zSs} {D n u : Nat} {sh : zk_S} {d : zm_D} {Q : ((Option zv_V) ⊕ Nat) → Nat → zk_S → zm_D → Nat → Prop} {L : zN} {st : List zv_V} : zJ S D 86 7 L st n sh d u Q ↔ zB S D 86 zb_86_7 L st n sh d u Q := by unfold zJ; rw [zc_86_7]
theorem zc_86_8 : zcd 86 8 = zb_86_8 := by decide +kernel
theorem zj_86_8 {S : zSs} {D n u : Nat} {sh : zk_S} {d : zm_D} {Q : ((Option zv_V) ⊕ Nat) → Nat → zk_S → zm_D → Nat → Prop} {L : zN} {st : List zv_V} : zJ S D 86 8 L st n sh d u Q ↔ zB S D 86 zb_86_8 L st n sh d u Q := by unfold zJ; rw [zc_86_8]
theorem zc_86_9 : zcd 86 9 = zb_86_9 := by decide +kernel
theorem zj_86_9 {S : zSs} {D n u : Nat} {sh : zk_S} {d : zm_D} {Q : ((Option zv_V) ⊕ Nat) → Nat → zk_S → zm_D → Nat → Prop} {L : zN} {st : List zv_V} : zJ S D 86 9 L st n sh d u Q ↔ zB S D 86 zb_86_9 L st n sh d u Q := by unfold zJ; rw [zc_86_9]
theorem zc_86_10 : zcd 86 10 = zb_86_10 := by decide +kernel
theorem zj_86_10 {S : zSs} {D n u : Nat} {sh : zk_S} {d : zm_D} {Q : ((Option zv_V) ⊕ Nat) → Nat → zk_S → zm_D → Nat → Prop} {L : zN} {st : List zv_V} : zJ S D 86 10 L st n sh d u Q ↔ zB S D 86 zb_86_10 L st n sh d u Q := by unfold zJ; rw [zc_86_10]
theorem zn_86 : znl 86 = 6 := by decide +kernel
theorem ze_86 {S : zSs} {D n u : Nat} {sh : zk_S} {d : zm_D} {Q : ((Option zv_V) ⊕ Nat) → Nat → zk_S → zm_D → Nat → Prop} {x0 : Int} {x1 : Int} : zE S D 86 [zv_a x0, zv_i x1] n sh d u Q ↔ zB S D 86 zb_86_0 [some (zv_a x0), some (zv_i x1), none, none, none, none] [] n sh d u Q := by
  unfold zE; rw [zn_86, zc_86_0]; exact ⟨fun h => h.2, fun h => ⟨Nat.le_of_ble_eq_true rfl, h⟩⟩
theorem ze_86s {S : zSs} {D n u : Nat} {sh : zk_S} {d : zm_D} {Q : ((Option zv_V) ⊕ Nat) → Nat → zk_S → zm_D → Nat → Prop} {x0 : Int} : zE S D 86 [zv_i x0] n sh d u Q ↔ zB S D 86 zb_86_0 [some (zv_i x0), none, none, none, none, none] [] n sh d u Q := by
  unfold zE; rw [zn_86, zc_86_0]; exact ⟨fun h => h.2, fun h => ⟨Nat.le_of_ble_eq_true rfl, h⟩⟩
theorem zh_86 : zhl 86 = [] := by decide +kernel
theorem zc_87_0 : zcd 87 0 = zb_87_0 := by decide +kernel
theorem zj_87_0 {S : zSs} {D n u : Nat} {sh : zk_S} {d : zm_D} {Q : ((Option zv_V) ⊕ Nat) → Nat → zk_S → zm_D → Nat → Prop} {L : zN} {st : List zv_V} : zJ S D 87 0 L st n sh d u Q ↔ zB S D 87 zb_87_0 L st n sh d u Q := by unfold zJ; rw [zc_87_0]
theorem zc_87_1 : zcd 87 1 = zb_87_1 := by decide +kernel
theorem zj_87_1 {S : zSs} {D n u : Nat} {sh : zk_S} {d : zm_D} {Q : ((Option zv_V) ⊕ Nat) → Nat → zk_S → zm_D → Nat → Prop} {L : zN} {st : List zv_V} : zJ S D 87 1 L st n sh d u Q ↔ zB S D 87 zb_87_1 L st n sh d u Q := by unfold zJ; rw [zc_87_1]
theorem zc_87_2 : zcd 87 2 = zb_87_2 := by decide +kernel
theorem zj_87_2 {S : zSs} {D n u : Nat} {sh : zk_S} {d : zm_D} {Q : ((Option zv_V) ⊕ Nat) → Nat → zk_S → zm_D → Nat → Prop} {L : zN} {st : List zv_V} : zJ S D 87 2 L st n sh d u Q ↔ zB S D 87 zb_87_2 L st n sh d u Q := by unfold zJ; rw [zc_87_2]
theorem zn_87 : znl 87 = 3 := by decide +kernel
theorem ze_87 {S : zSs} {D n u : Nat} {sh : zk_S} {d : zm_D} {Q : ((Option zv_V) ⊕ Nat) → Nat → zk_S → zm_D → Nat → Prop} {x0 : Int} {x1 : Int} : zE S D 87 [zv_a x0, zv_i x1] n sh d u Q ↔ zB S D 87 zb_87_0 [some (zv_a x0), some (zv_i x1), none] [] n sh d u Q := by
  unfold zE; rw [zn_87, zc_87_0]; exact ⟨fun h => h.2, fun h => ⟨Nat.le_of_ble_eq_true rfl, h⟩⟩
theorem ze_87s {S : zSs} {D n u : Nat} {sh : zk_S} {d : zm_D} {Q : ((Option zv_V) ⊕ Nat) → Nat → zk_S → zm_D → Nat → Prop} {x0 : Int} : zE S D 87 [zv_i x0] n sh d u Q ↔ zB S D 87 zb_87_0 [some (zv_i x0), none, none] [] n sh d u Q := by
  unfold zE; rw [zn_87, zc_87_0]; exact ⟨fun h => h.2, fun h => ⟨Nat.le_of_ble_eq_true rfl, h⟩⟩
theorem zh_87 : zhl 87 = [] := by decide +kernel
theorem zc_88_0 : zcd 88 0 = zb_88_0 := by decide +kernel
theorem zj_88_0 {S : zSs} {D n u : Nat} {sh : zk_S} {d : zm_D} {Q : ((Option zv_V) ⊕ Nat) → Nat → zk_S → zm_D → Nat → Prop} {L : zN} {st : List zv_V} : zJ S D 88 0 L st n sh d u Q ↔ zB S D 88 zb_88_0 L st n sh d u Q := by unfold zJ; rw [zc_88_0]
theorem zc_88_1 : zcd 88 1 = zb_88_1 := by decide +kernel
theorem zj_88_1 {S : zSs} {D n u : Nat} {sh : zk_S} {d : zm_D} {Q : ((Option zv_V) ⊕ Nat) → Nat → zk_S → zm_D → Nat → Prop} {L : zN} {st : List zv_V} : zJ S D 88 1 L st n sh d u Q ↔ zB S D 88 zb_88_1 L st n sh d u Q := by unfold zJ; rw [zc_88_1]
theorem zn_88 : znl 88 = 2 := by decide +kernel
theorem ze_88 {S : zSs} {D n u : Nat} {sh : zk_S} {d : zm_D} {Q : ((Option zv_V) ⊕ Nat) → Nat → zk_S → zm_D → Nat → Prop} {x0 : Int} : zE S D 88 [zv_a x0] n sh d u Q ↔ zB S D 88 zb_88_0 [some (zv_a x0), none] [] n sh d u Q := by
  unfold zE; rw [zn_88, zc_88_0]; exact ⟨fun h => h.2, fun h => ⟨Nat.le_of_ble_eq_true rfl, h⟩⟩
theorem ze_88s {S : zSs} {D n u : Nat} {sh : zk_S} {d : zm_D} {Q : ((Option zv_V) ⊕ Nat) → Nat → zk_S → zm_D → Nat → Prop} : zE S D 88 [] n sh d u Q ↔ zB S D 88 zb_88_0 [none, none] [] n sh d u Q := by
  unfold zE; rw [zn_88, zc_88_0]; exact ⟨fun h => h.2, fun h => ⟨Nat.le_of_ble_eq_true rfl, h⟩⟩
theorem zh_88 : zhl 88 = [] := by decide +kernel
theorem zc_89_0 : zcd 89 0 = zb_89_0 := by decide +kernel
theorem zj_89_0 {S : zSs} {D n u : Nat} {sh : zk_S} {d : zm_D} {Q : ((Option zv_V) ⊕ Nat) → Nat → zk_S → zm_D → Nat → Prop} {L : zN} {st : List zv_V} : zJ S D 89 0 L st n sh d u Q ↔ zB S D 89 zb_89_0 L st n sh d u Q := by unfold zJ; rw [zc_89_0]
theorem zc_89_1 : zcd 89 1 = zb_89_1 := by decide +kernel
theorem zj_89_1 {S : zSs} {D n u : Nat} {sh : zk_S} {d : zm_D} {Q : ((Option zv_V) ⊕ Nat) → Nat → zk_S → zm_D → Nat → Prop} {L : zN} {st : List zv_V} : zJ S D 89 1 L st n sh d u Q ↔ zB S D 89 zb_89_1 L st n sh d u Q := by unfold zJ; rw [zc_89_1]
theorem zn_89 : znl 89 = 2 := by decide +kernel
theorem ze_89 {S : zSs} {D n u : Nat} {sh : zk_S} {d : zm_D} {Q : ((Option zv_V) ⊕ Nat) → Nat → zk_S → zm_D → Nat → Prop} {x0 : Int} {x1 : Int} : zE S D 89 [zv_a x0, zv_i x1] n sh d u Q ↔ zB S D 89 zb_89_0 [some (zv_a x0), some (zv_i x1)] [] n sh d u Q := by
  unfold zE; rw [zn_89, zc_89_0]; exact ⟨fun h => h.2, fun h => ⟨Nat.le_of_ble_eq_true rfl, h⟩⟩
theorem ze_89s {S : zSs} {D n u : Nat} {sh : zk_S} {d : zm_D} {Q : ((Option zv_V) ⊕ Nat) → Nat → zk_S → zm_D → Nat → Prop} {x0 : Int} : zE S D 89 [zv_i x0] n sh d u Q ↔ zB S D 89 zb_89_0 [some (zv_i x0), none] [] n sh d u Q := by
  unfold zE; rw [zn_89, zc_89_0]; exact ⟨fun h => h.2, fun h => ⟨Nat.le_of_ble_eq_true rfl, h⟩⟩
theorem zh_89 : zhl 89 = [] := by decide +kernel
theorem zc_90_0 : zcd 90 0 = zb_90_0 := by decide +kernel
theorem zj_90_0 {S : zSs} {D n u : Nat} {sh : zk_S} {d : zm_D} {Q : ((Option zv_V) ⊕ Nat) → Nat → zk_S → zm_D → Nat → Prop} {L : zN} {st : List zv_V} : zJ S D 90 0 L st n sh d u Q ↔ zB S D 90 zb_90_0 L st n sh d u Q := by unfold zJ; rw [zc_90_0]
theorem zn_90 : znl 90 = 2 := by decide +kernel
theorem ze_90 {S : zSs} {D n u : Nat} {sh : zk_S} {d : zm_D} {Q : ((Option zv_V) ⊕ Nat) → Nat → zk_S → zm_D → Nat → Prop} {x0 : Int} : zE S D 90 [zv_a x0] n sh d u Q ↔ zB S D 90 zb_90_0 [some (zv_a x0), none] [] n sh d u Q := by
  unfold zE; rw [zn_90, zc_90_0]; exact ⟨fun h => h.2, fun h => ⟨Nat.le_of_ble_eq_true rfl, h⟩⟩
theorem ze_90s {S : zSs} {D n u : Nat} {sh : zk_S} {d : zm_D} {Q : ((Option zv_V) ⊕ Nat) → Nat → zk_S → zm_D → Nat → Prop} : zE S D 90 [] n sh d u Q ↔ zB S D 90 zb_90_0 [none, none] [] n sh d u Q := by
  unfold zE; rw [zn_90, zc_90_0]; exact ⟨fun h => h.2, fun h => ⟨Nat.le_of_ble_eq_true rfl, h⟩⟩
theorem zh_90 : zhl 90 = [] := by decide +kernel
theorem zc_91_0 : zcd 91 0 = zb_91_0 := by decide +kernel
theorem zj_91_0 {S : zSs} {D n u : Nat} {sh : zk_S} {d : zm_D} {Q : ((Option zv_V) ⊕ Nat) → Nat → zk_S → zm_D → Nat → Prop} {L : zN} {st : List zv_V} : zJ S D 91 0 L st n sh d u Q ↔ zB S D 91 zb_91_0 L st n sh d u Q := by unfold zJ; rw [zc_91_0]
theorem zn_91 : znl 91 = 1 := by decide +kernel
theorem ze_91 {S : zSs} {D n u : Nat} {sh : zk_S} {d : zm_D} {Q : ((Option zv_V) ⊕ Nat) → Nat → zk_S → zm_D → Nat → Prop} {x0 : Int} : zE S D 91 [zv_a x0] n sh d u Q ↔ zB S D 91 zb_91_0 [some (zv_a x0)] [] n sh d u Q := by
  unfold zE; rw [zn_91, zc_91_0]; exact ⟨fun h => h.2, fun h => ⟨Nat.le_of_ble_eq_true rfl, h⟩⟩
theorem ze_91s {S : zSs} {D n u : Nat} {sh : zk_S} {d : zm_D} {Q : ((Option zv_V) ⊕ Nat) → Nat → zk_S → zm_D → Nat → Prop} : zE S D 91 [] n sh d u Q ↔ zB S D 91 zb_91_0 [none] [] n sh d u Q := by
  unfold zE; rw [zn_91, zc_91_0]; exact ⟨fun h => h.2, fun h => ⟨Nat.le_of_ble_eq_true rfl, h⟩⟩
theorem zh_91 : zhl 91 = [] := by decide +kernel
theorem zc_92_0 : zcd 92 0 = zb_92_0 := by decide +kernel
theorem zj_92_0 {S : zSs} {D n u : Nat} {sh : zk_S} {d : zm_D} {Q : ((Option zv_V) ⊕ Nat) → Nat → zk_S → zm_D → Nat → Prop} {L : zN} {st : List zv_V} : zJ S D 92 0 L st n sh d u Q ↔ zB S D 92 zb_92_0 L st n sh d u Q := by unfold zJ; rw [zc_92_0]
theorem zn_92 : znl 92 = 1 := by decide +kernel
theorem ze_92 {S : zSs} {D n u : Nat} {sh : zk_S} {d : zm_D} {Q : ((Option zv_V) ⊕ Nat) → Nat → zk_S → zm_D → Nat → Prop} {x0 : Int} : zE S D 92 [zv_a x0] n sh d u Q ↔ zB S D 92 zb_92_0 [some (zv_a x0)] [] n sh d u Q := by
  unfold zE; rw [zn_92, zc_92_0]; exact ⟨fun h => h.2, fun h => ⟨Nat.le_of_ble_eq_true rfl, h⟩⟩
theorem ze_92s {S : zSs} {D n u : Nat} {sh : zk_S} {d : zm_D} {Q : ((Option zv_V) ⊕ Nat) → Nat → zk_S → zm_D → Nat → Prop} : zE S D 92 [] n sh d u Q ↔ zB S D 92 zb_92_0 [none] [] n sh d u Q := by
  unfold zE; rw [zn_92, zc_92_0]; exact ⟨fun h => h.2, fun h => ⟨Nat.le_of_ble_eq_true rfl, h⟩⟩
theorem zh_92 : zhl 92 = [] := by decide +kernel
theorem zc_93_0 : zcd 93 0 = zb_93_0 := by decide +kernel
theorem zj_93_0 {S : zSs} {D n u : Nat} {sh : zk_S} {d : zm_D} {Q : ((Option zv_V) ⊕ Nat) → Nat → zk_S → zm_D → Nat → Prop} {L : zN} {st : List zv_V} : zJ S D 93 0 L st n sh d u Q ↔ zB S D 93 zb_93_0 L st n sh d u Q := by unfold zJ; rw [zc_93_0]
theorem zc_93_1 : zcd 93 1 = zb_93_1 := by decide +kernel
theorem zj_93_1 {S : zSs} {D n u : Nat} {sh : zk_S} {d : zm_D} {Q : ((Option zv_V) ⊕ Nat) → Nat → zk_S → zm_D → Nat → Prop} {L : zN} {st : List zv_V} : zJ S D 93 1 L st n sh d u Q ↔ zB S D 93 zb_93_1 L st n sh d u Q := by unfold zJ; rw [zc_93_1]
theorem zc_93_2 : zcd 93 2 = zb_93_2 := by decide +kernel
theorem zj_93_2 {S : zSs} {D n u : Nat} {sh : zk_S} {d : zm_D} {Q : ((Option zv_V) ⊕ Nat) → Nat → zk_S → zm_D → Nat → Prop} {L : zN} {st : List zv_V} : zJ S D 93 2 L st n sh d u Q ↔ zB S D 93 zb_93_2 L st n sh d u Q := by unfold zJ; rw [zc_93_2]
theorem zn_93 : znl 93 = 2 := by decide +kernel
theorem ze_93 {S : zSs} {D n u : Nat} {sh : zk_S} {d : zm_D} {Q : ((Option zv_V) ⊕ Nat) → Nat → zk_S → zm_D → Nat → Prop} {x0 : Int} {x1 : Int} : zE S D 93 [zv_a x0, zv_i x1] n sh d u Q ↔ zB S D 93 zb_93_0 [some (zv_a x0), some (zv_i x1)] [] n sh d u Q := by
  unfold zE; rw [zn_93, zc_93_0]; exact ⟨fun h => h.2, fun h => ⟨Nat.le_of_ble_eq_true rfl, h⟩⟩
theorem ze_93s {S : zSs} {D n u : Nat} {sh : zk_S} {d : zm_D} {Q : ((Option zv_V) ⊕ Nat) → Nat → zk_S → zm_D → Nat → Prop} {x0 : Int} : zE S D 93 [zv_i x0] n sh d u Q ↔ zB S D 93 zb_93_0 [some (zv_i x0), none] [] n sh d u Q := by
  unfold zE; rw [zn_93, zc_93_0]; exact ⟨fun h => h.2, fun h => ⟨Nat.le_of_ble_eq_true rfl, h⟩⟩
theorem zh_93 : zhl 93 = [] := by decide +kernel
theorem zc_94_0 : zcd 94 0 = zb_94_0 := by decide +kernel
theorem zj_94_0 {S : zSs} {D n u : Nat} {sh : zk_S} {d : zm_D} {Q : ((Option zv_V) ⊕ Nat) → Nat → zk_S → zm_D → Nat → Prop} {L : zN} {st : List zv_V} : zJ S D 94 0 L st n sh d u Q ↔ zB S D 94 zb_94_0 L st n sh d u Q := by unfold zJ; rw [zc_94_0]
theorem zc_94_1 : zcd 94 1 = zb_94_1 := by decide +kernel
theorem zj_94_1 {S : zSs} {D n u : Nat} {sh : zk_S} {d : zm_D} {Q : ((Option zv_V) ⊕ Nat) → Nat → zk_S → zm_D → Nat → Prop} {L : zN} {st : List zv_V} : zJ S D 94 1 L st n sh d u Q ↔ zB S D 94 zb_94_1 L st n sh d u Q := by unfold zJ; rw [zc_94_1]
theorem zc_94_2 : zcd 94 2 = zb_94_2 := by decide +kernel
theorem zj_94_2 {S : zSs} {D n u : Nat} {sh : zk_S} {d : zm_D} {Q : ((Option zv_V) ⊕ Nat) → Nat → zk_S → zm_D → Nat → Prop} {L : zN} {st : List zv_V} : zJ S D 94 2 L st n sh d u Q ↔ zB S D 94 zb_94_2 L st n sh d u Q := by unfold zJ; rw [zc_94_2]
theorem zn_94 : znl 94 = 4 := by decide +kernel
theorem ze_94 {S : zSs} {D n u : Nat} {sh : zk_S} {d : zm_D} {Q : ((Option zv_V) ⊕ Nat) → Nat → zk_S → zm_D → Nat → Prop} {x0 : Int} {x1 : Int} : zE S D 94 [zv_a x0, zv_i x1] n sh d u Q ↔ zB S D 94 zb_94_0 [some (zv_a x0), some (zv_i x1), none, none] [] n sh d u Q := by
  unfold zE; rw [zn_94, zc_94_0]; exact ⟨fun h => h.2, fun h => ⟨Nat.le_of_ble_eq_true rfl, h⟩⟩
theorem ze_94s {S : zSs} {D n u : Nat} {sh : zk_S} {d : zm_D} {Q : ((Option zv_V) ⊕ Nat) → Nat → zk_S → zm_D → Nat → Prop} {x0 : Int} : zE S D 94 [zv_i x0] n sh d u Q ↔ zB S D 94 zb_94_0 [some (zv_i x0), none, none, none] [] n sh d u Q := by
  unfold zE; rw [zn_94, zc_94_0]; exact ⟨fun h => h.2, fun h => ⟨Nat.le_of_ble_eq_true rfl, h⟩⟩
theorem zh_94 : zhl 94 = [] := by decide +kernel
theorem zc_95_0 : zcd 95 0 = zb_95_0 := by decide +kernel
theorem zj_95_0 {S : zSs} {D n u : Nat} {sh : zk_S} {d : zm_D} {Q : ((Option zv_V) ⊕ Nat) → Nat → zk_S → zm_D → Nat → Prop} {L : zN} {st : List zv_V} : zJ S D 95 0 L st n sh d u Q ↔ zB S D 95 zb_95_0 L st n sh d u Q := by unfold zJ; rw [zc_95_0]
theorem zn_95 : znl 95 = 1 := by decide +kernel
theorem ze_95 {S : zSs} {D n u : Nat} {sh : zk_S} {d : zm_D} {Q : ((Option zv_V) ⊕ Nat) → Nat → zk_S → zm_D → Nat → Prop} {x0 : Int} : zE S D 95 [zv_a x0] n sh d u Q ↔ zB S D 95 zb_95_0 [some (zv_a x0)] [] n sh d u Q := by
  unfold zE; rw [zn_95, zc_95_0]; exact ⟨fun h => h.2, fun h => ⟨Nat.le_of_ble_eq_true rfl, h⟩⟩
theorem ze_95s {S : zSs} {D n u : Nat} {sh : zk_S} {d : zm_D} {Q : ((Option zv_V) ⊕ Nat) → Nat → zk_S → zm_D → Nat → Prop} : zE S D 95 [] n sh d u Q ↔ zB S D 95 zb_95_0 [none] [] n sh d u Q := by
  unfold zE; rw [zn_95, zc_95_0]; exact ⟨fun h => h.2, fun h => ⟨Nat.le_of_ble_eq_true rfl, h⟩⟩
theorem zh_95 : zhl 95 = [] := by decide +kernel
theorem zc_96_0 : zcd 96 0 = zb_96_0 := by decide +kernel
theorem zj_96_0 {S : zSs} {D n u : Nat} {sh : zk_S} {d : zm_D} {Q : ((Option zv_V) ⊕ Nat) → Nat → zk_S → zm_D → Nat → Prop} {L : zN} {st : List zv_V} : zJ S D 96 0 L st n sh d u Q ↔ zB S D 96 zb_96_0 L st n sh d u Q := by unfold zJ; rw [zc_96_0]
theorem zc_96_1 : zcd 96 1 = zb_96_1 := by decide +kernel
theorem zj_96_1 {S : zSs} {D n u : Nat} {sh : zk_S} {d : zm_D} {Q : ((Option zv_V) ⊕ Nat) → Nat → zk_S → zm_D → Nat → Prop} {L : zN} {st : List zv_V} : zJ S D 96 1 L st n sh d u Q ↔ zB S D 96 zb_96_1 L st n sh d u Q := by unfold zJ; rw [zc_96_1]
theorem zc_96_2 : zcd 96 2 = zb_96_2 := by decide +kernel
theorem zj_96_2 {S : zSs} {D n u : Nat} {sh : zk_S} {d : zm_D} {Q : ((Option zv_V) ⊕ Nat) → Nat → zk_S → zm_D → Nat → Prop} {L : zN} {st : List zv_V} : zJ S D 96 2 L st n sh d u Q ↔ zB S D 96 zb_96_2 L st n sh d u Q := by unfold zJ; rw [zc_96_2]
theorem zn_96 : znl 96 = 4 := by decide +kernel
theorem ze_96 {S : zSs} {D n u : Nat} {sh : zk_S} {d : zm_D} {Q : ((Option zv_V) ⊕ Nat) → Nat → zk_S → zm_D → Nat → Prop} {x0 : Int} {x1 : Int} {x2 : Int} : zE S D 96 [zv_a x0, zv_i x1, zv_i x2] n sh d u Q ↔ zB S D 96 zb_96_0 [some (zv_a x0), some (zv_i x1), some (zv_i x2), none] [] n sh d u Q := by
  unfold zE; rw [zn_96, zc_96_0]; exact ⟨fun h => h.2, fun h => ⟨Nat.le_of_ble_eq_true rfl, h⟩⟩
theorem ze_96s {S : zSs} {D n u : Nat} {sh : zk_S} {d : zm_D} {Q : ((Option zv_V) ⊕ Nat) → Nat → zk_S → zm_D → Nat → Prop} {x0 : Int} {x1 : Int} : zE S D 96 [zv_i x0, zv_i x1] n sh d u Q ↔ zB S D 96 zb_96_0 [some (zv_i x0), some (zv_i x1), none, none] [] n sh d u Q := by
  unfold zE; rw [zn_96, zc_96_0]; exact ⟨fun h => h.2, fun h => ⟨Nat.le_of_ble_eq_true rfl, h⟩⟩
theorem zh_96 : zhl 96 = [] := by decide +kernel
theorem zc_97_0 : zcd 97 0 = zb_97_0 := by decide +kernel
theorem zj_97_0 {S : zSs} {D n u : Nat} {sh : zk_S} {d : zm_D} {Q : ((Option zv_V) ⊕ Nat) → Nat → zk_S → zm_D → Nat → Prop} {L : zN} {st : List zv_V} : zJ S D 97 0 L st n sh d u Q ↔ zB S D 97 zb_97_0 L st n sh d u Q := by unfold zJ; rw [zc_97_0]
theorem zc_97_1 : zcd 97 1 = zb_97_1 := by decide +kernel
theorem zj_97_1 {S : zSs} {D n u : Nat} {sh : zk_S} {d : zm_D} {Q : ((Option zv_V) ⊕ Nat) → Nat → zk_S → zm_D → Nat → Prop} {L : zN} {st : List zv_V} : zJ S D 97 1 L st n sh d u Q ↔ zB S D 97 zb_97_1 L st n sh d u Q := by unfold zJ; rw [zc_97_1]
theorem zc_97_2 : zcd 97 2 = zb_97_2 := by decide +kernel
theorem zj_97_2 {S : zSs} {D n u : Nat} {sh : zk_S} {d : zm_D} {Q : ((Option zv_V) ⊕ Nat) → Nat → zk_S → zm_D → Nat → Prop} {L : zN} {st : List zv_V} : zJ S D 97 2 L st n sh d u Q ↔ zB S D 97 zb_97_2 L st n sh d u Q := by unfold zJ; rw [zc_97_2]
theorem zn_97 : znl 97 = 3 := by decide +kernel
theorem ze_97 {S : zSs} {D n u : Nat} {sh : zk_S} {d : zm_D} {Q : ((Option zv_V) ⊕ Nat) → Nat → zk_S → zm_D → Nat → Prop} {x0 : Int} : zE S D 97 [zv_a x0] n sh d u Q ↔ zB S D 97 zb_97_0 [some (zv_a x0), none, none] [] n sh d u Q := by
  unfold zE; rw [zn_97, zc_97_0]; exact ⟨fun h => h.2, fun h => ⟨Nat.le_of_ble_eq_true rfl, h⟩⟩
theorem ze_97s {S : zSs} {D n u : Nat} {sh : zk_S} {d : zm_D} {Q : ((Option zv_V) ⊕ Nat) → Nat → zk_S → zm_D → Nat → Prop} : zE S D 97 [] n sh d u Q ↔ zB S D 97 zb_97_0 [none, none, none] [] n sh d u Q := by
  unfold zE; rw [zn_97, zc_97_0]; exact ⟨fun h => h.2, fun h => ⟨Nat.le_of_ble_eq_true rfl, h⟩⟩
theorem zh_97 : zhl 97 = [] := by decide +kernel
theorem zc_98_0 : zcd 98 0 = zb_98_0 := by decide +kernel
theorem zj_98_0 {S : zSs} {D n u : Nat} {sh : zk_S} {d : zm_D} {Q : ((Option zv_V) ⊕ Nat) → Nat → zk_S → zm_D → Nat → Prop} {L : zN} {st : List zv_V} : zJ S D 98 0 L st n sh d u Q ↔ zB S D 98 zb_98_0 L st n sh d u Q := by unfold zJ; rw [zc_98_0]
theorem zc_98_1 : zcd 98 1 = zb_98_1 := by decide +kernel
theorem zj_98_1 {S : zSs} {D n u : Nat} {sh : zk_S} {d : zm_D} {Q : ((Option zv_V) ⊕ Nat) → Nat → zk_S → zm_D → Nat → Prop} {L : zN} {st : List zv_V} : zJ S D 98 1 L st n sh d u Q ↔ zB S D 98 zb_98_1 L st n sh d u Q := by unfold zJ; rw [zc_98_1]
theorem zc_98_2 : zcd 98 2 = zb_98_2 := by decide +kernel
theorem zj_98_2 {S : zSs} {D n u : Nat} {sh : zk_S} {d : zm_D} {Q : ((Option zv_V) ⊕ Nat) → Nat → zk_S → zm_D → Nat → Prop} {L : zN} {st : List zv_V} : zJ S D 98 2 L st n sh d u Q ↔ zB S D 98 zb_98_2 L st n sh d u Q := by unfold zJ; rw [zc_98_2]
theorem zn_98 : znl 98 = 2 := by decide +kernel
theorem ze_98 {S : zSs} {D n u : Nat} {sh : zk_S} {d : zm_D} {Q : ((Option zv_V) ⊕ Nat) → Nat → zk_S → zm_D → Nat → Prop} {x0 : Int} : zE S D 98 [zv_a x0] n sh d u Q ↔ zB S D 98 zb_98_0 [some (zv_a x0), none] [] n sh d u Q := by
  unfold zE; rw [zn_98, zc_98_0]; exact ⟨fun h => h.2, fun h => ⟨Nat.le_of_ble_eq_true rfl, h⟩⟩
theorem ze_98s {S : zSs} {D n u : Nat} {sh : zk_S} {d : zm_D} {Q : ((Option zv_V) ⊕ Nat) → Nat → zk_S → zm_D → Nat → Prop} : zE S D 98 [] n sh d u Q ↔ zB S D 98 zb_98_0 [none, none] [] n sh d u Q := by
  unfold zE; rw [zn_98, zc_98_0]; exact ⟨fun h => h.2, fun h => ⟨Nat.le_of_ble_eq_true rfl, h⟩⟩
theorem zh_98 : zhl 98 = [] := by decide +kernel
theorem zc_99_0 : zcd 99 0 = zb_99_0 := by decide +kernel
theorem zj_99_0 {S : zSs} {D n u : Nat} {sh : zk_S} {d : zm_D} {Q : ((Option zv_V) ⊕ Nat) → Nat → zk_S → zm_D → Nat → Prop} {L : zN} {st : List zv_V} : zJ S D 99 0 L st n sh d u Q ↔ zB S D 99 zb_99_0 L st n sh d u Q := by unfold zJ; rw [zc_99_0]
theorem zc_99_1 : zcd 99 1 = zb_99_1 := by decide +kernel
theorem zj_99_1 {S : zSs} {D n u : Nat} {sh : zk_S} {d : zm_D} {Q : ((Option zv_V) ⊕ Nat) → Nat → zk_S → zm_D → Nat → Prop} {L : zN} {st : List zv_V} : zJ S D 99 1 L st n sh d u Q ↔ zB S D 99 zb_99_1 L st n sh d u Q := by unfold zJ; rw [zc_99_1]
theorem zc_99_2 : zcd 99 2 = zb_99_2 := by decide +kernel
theorem zj_99_2 {S : zSs} {D n u : Nat} {sh : zk_S} {d : zm_D} {Q : ((Option zv_V) ⊕ Nat) → Nat → zk_S → zm_D → Nat → Prop} {L : zN} {st : List zv_V} : zJ S D 99 2 L st n sh d u Q ↔ zB S D 99 zb_99_2 L st n sh d u Q := by unfold zJ; rw [zc_99_2]
theorem zc_99_3 : zcd 99 3 = zb_99_3 := by decide +kernel
theorem zj_99_3 {S : zSs} {D n u : Nat} {sh : zk_S} {d : zm_D} {Q : ((Option zv_V) ⊕ Nat) → Nat → zk_S → zm_D → Nat → Prop} {L : zN} {st : List zv_V} : zJ S D 99 3 L st n sh d u Q ↔ zB S D 99 zb_99_3 L st n sh d u Q := by unfold zJ; rw [zc_99_3]
theorem zc_99_4 : zcd 99 4 = zb_99_4 := by decide +kernel
theorem zj_99_4 {S : zSs} {D n u : Nat} {sh : zk_S} {d : zm_D} {Q : ((Option zv_V) ⊕ Nat) → Nat → zk_S → zm_D → Nat → Prop} {L : zN} {st : List zv_V} : zJ S D 99 4 L st n sh d u Q ↔ zB S D 99 zb_99_4 L st n sh d u Q := by unfold zJ; rw [zc_99_4]
theorem zc_99_5 : zcd 99 5 = zb_99_5 := by decide +kernel
theorem zj_99_5 {S : zSs} {D n u : Nat} {sh : zk_S} {d : zm_D} {Q : ((Option zv_V) ⊕ Nat) → Nat → zk_S → zm_D → Nat → Prop} {L : zN} {st : List zv_V} : zJ S D 99 5 L st n sh d u Q ↔ zB S D 99 zb_99_5 L st n sh d u Q := by unfold zJ; rw [zc_99_5]
theorem zc_99_6 : zcd 99 6 = zb_99_6 := by decide +kernel
theorem zj_99_6 {S : zSs} {D n u : Nat} {sh : zk_S} {d : zm_D} {Q : ((Option zv_V) ⊕ Nat) → Nat → zk_S → zm_D → Nat → Prop} {L : zN} {st : List zv_V} : zJ S D 99 6 L st n sh d u Q ↔ zB S D 99 zb_99_6 L st n sh d u Q := by unfold zJ; rw [zc_99_6]
theorem zc_99_7 : zcd 99 7 = zb_99_7 := by decide +kernel
theorem zj_99_7 {S : zSs} {D n u : Nat} {sh : zk_S} {d : zm_D} {Q : ((Option zv_V) ⊕ Nat) → Nat → zk_S → zm_D → Nat → Prop} {L : zN} {st : List zv_V} : zJ S D 99 7 L st n sh d u Q ↔ zB S D 99 zb_99_7 L st n sh d u Q := by unfold zJ; rw [zc_99_7]
theorem zc_99_8 : zcd 99 8 = zb_99_8 := by decide +kernel
theorem zj_99_8 {S : zSs} {D n u : Nat} {sh : zk_S} {d : zm_D} {Q : ((Option zv_V) ⊕ Nat) → Nat → zk_S → zm_D → Nat → Prop} {L : zN} {st : List zv_V} : zJ S D 99 8 L st n sh d u Q ↔ zB S D 99 zb_99_8 L st n sh d u Q := by unfold zJ; rw [zc_99_8]
theorem zn_99 : znl 99 = 4 := by decide +kernel
theorem ze_99 {S : zSs} {D n u : Nat} {sh : zk_S} {d : zm_D} {Q : ((Option zv_V) ⊕ Nat) → Nat → zk_S → zm_D → Nat → Prop} {x0 : Int} : zE S D 99 [zv_a x0] n sh d u Q ↔ zB S D 99 zb_99_0 [some (zv_a x0), none, none, none] [] n sh d u Q := by
  unfold zE; rw [zn_99, zc_99_0]; exact ⟨fun h => h.2, fun h => ⟨Nat.le_of_ble_eq_true rfl, h⟩⟩
theorem ze_99s {S : zSs} {D n u : Nat} {sh : zk_S} {d : zm_D} {Q : ((Option zv_V) ⊕ Nat) → Nat → zk_S → zm_D → Nat → Prop} : zE S D 99 [] n sh d u Q ↔ zB S D 99 zb_99_0 [none, none, none, none] [] n sh d u Q := by
  unfold zE; rw [zn_99, zc_99_0]; exact ⟨fun h => h.2, fun h => ⟨Nat.le_of_ble_eq_true rfl, h⟩⟩
theorem zh_99 : zhl 99 = [] := by decide +kernel
theorem zc_100_0 : zcd 100 0 = zb_100_0 := by decide +kernel
theorem zj_100_0 {S : zSs} {D n u : Nat} {sh : zk_S} {d : zm_D} {Q : ((Option zv_V) ⊕ Nat) → Nat → zk_S → zm_D → Nat → Prop} {L : zN} {st : List zv_V} : zJ S D 100 0 L st n sh d u Q ↔ zB S D 100 zb_100_0 L st n sh d u Q := by unfold zJ; rw [zc_100_0]
theorem zn_100 : znl 100 = 2 := by decide +kernel
theorem ze_100 {S : zSs} {D n u : Nat} {sh : zk_S} {d : zm_D} {Q : ((Option zv_V) ⊕ Nat) → Nat → zk_S → zm_D → Nat → Prop} {x0 : Int} {x1 : Int} : zE S D 100 [zv_a x0, zv_a x1] n sh d u Q ↔ zB S D 100 zb_100_0 [some (zv_a x0), some (zv_a x1)] [] n sh d u Q := by
  unfold zE; rw [zn_100, zc_100_0]; exact ⟨fun h => h.2, fun h => ⟨Nat.le_of_ble_eq_true rfl, h⟩⟩
theorem ze_100s {S : zSs} {D n u : Nat} {sh : zk_S} {d : zm_D} {Q : ((Option zv_V) ⊕ Nat) → Nat → zk_S → zm_D → Nat → Prop} {x0 : Int} : zE S D 100 [zv_a x0] n sh d u Q ↔ zB S D 100 zb_100_0 [some (zv_a x0), none] [] n sh d u Q := by
  unfold zE; rw [zn_100, zc_100_0]; exact ⟨fun h => h.2, fun h => ⟨Nat.le_of_ble_eq_true rfl, h⟩⟩
theorem zh_100 : zhl 100 = [] := by decide +kernel
theorem zc_101_0 : zcd 101 0 = zb_101_0 := by decide +kernel
theorem zj_101_0 {S : zSs} {D n u : Nat} {sh : zk_S} {d : zm_D} {Q : ((Option zv_V) ⊕ Nat) → Nat → zk_S → zm_D → Nat → Prop} {L : zN} {st : List zv_V} : zJ S D 101 0 L st n sh d u Q ↔ zB S D 101 zb_101_0 L st n sh d u Q := by unfold zJ; rw [zc_101_0]
theorem zn_101 : znl 101 = 2 := by decide +kernel
theorem ze_101 {S : zSs} {D n u : Nat} {sh : zk_S} {d : zm_D} {Q : ((Option zv_V) ⊕ Nat) → Nat → zk_S → zm_D → Nat → Prop} {x0 : Int} {x1 : Int} : zE S D 101 [zv_a x0, zv_i x1] n sh d u Q ↔ zB S D 101 zb_101_0 [some (zv_a x0), some (zv_i x1)] [] n sh d u Q := by
  unfold zE; rw [zn_101, zc_101_0]; exact ⟨fun h => h.2, fun h => ⟨Nat.le_of_ble_eq_true rfl, h⟩⟩
theorem ze_101s {S : zSs} {D n u : Nat} {sh : zk_S} {d : zm_D} {Q : ((Option zv_V) ⊕ Nat) → Nat → zk_S → zm_D → Nat → Prop} {x0 : Int} : zE S D 101 [zv_i x0] n sh d u Q ↔ zB S D 101 zb_101_0 [some (zv_i x0), none] [] n sh d u Q := by
  unfold zE; rw [zn_101, zc_101_0]; exact ⟨fun h => h.2, fun h => ⟨Nat.le_of_ble_eq_true rfl, h⟩⟩
theorem zh_101 : zhl 101 = [] := by decide +kernel
theorem zc_102_0 : zcd 102 0 = zb_102_0 := by decide +kernel
theorem zj_102_0 {S : zSs} {D n u : Nat} {sh : zk_S} {d : zm_D} {Q : ((Option zv_V) ⊕ Nat) → Nat → zk_S → zm_D → Nat → Prop} {L : zN} {st : List zv_V} : zJ S D 102 0 L st n sh d u Q ↔ zB S D 102 zb_102_0 L st n sh d u Q := by unfold zJ; rw [zc_102_0]
theorem zn_102 : znl 102 = 2 := by decide +kernel
theorem ze_102 {S : zSs} {D n u : Nat} {sh : zk_S} {d : zm_D} {Q : ((Option zv_V) ⊕ Nat) → Nat → zk_S → zm_D → Nat → Prop} {x0 : Int} {x1 : Int} : zE S D 102 [zv_a x0, zv_i x1] n sh d u Q ↔ zB S D 102 zb_102_0 [some (zv_a x0), some (zv_i x1)] [] n sh d u Q := by
  unfold zE; rw [zn_102, zc_102_0]; exact ⟨fun h => h.2, fun h => ⟨Nat.le_of_ble_eq_true rfl, h⟩⟩
theorem ze_102s {S : zSs} {D n u : Nat} {sh : zk_S} {d : zm_D} {Q : ((Option zv_V) ⊕ Nat) → Nat → zk_S → zm_D → Nat → Prop} {x0 : Int} : zE S D 102 [zv_i x0] n sh d u Q ↔ zB S D 102 zb_102_0 [some (zv_i x0), none] [] n sh d u Q := by
  unfold zE; rw [zn_102, zc_102_0]; exact ⟨fun h => h.2, fun h => ⟨Nat.le_of_ble_eq_true rfl, h⟩⟩
theorem zh_102 : zhl 102 = [] := by decide +kernel
theorem zc_103_0 : zcd 103 0 = zb_103_0 := by decide +kernel
theorem zj_103_0 {S : zSs} {D n u : Nat} {sh : zk_S} {d : zm_D} {Q : ((Option zv_V) ⊕ Nat) → Nat → zk_S → zm_D → Nat → Prop} {L : zN} {st : List zv_V} : zJ S D 103 0 L st n sh d u Q ↔ zB S D 103 zb_103_0 L st n sh d u Q := by unfold zJ; rw [zc_103_0]
theorem zn_103 : znl 103 = 2 := by decide +kernel
theorem ze_103 {S : zSs} {D n u : Nat} {sh : zk_S} {d : zm_D} {Q : ((Option zv_V) ⊕ Nat) → Nat → zk_S → zm_D → Nat → Prop} {x0 : Int} {x1 : Int} : zE S D 103 [zv_a x0, zv_i x1] n sh d u Q ↔ zB S D 103 zb_103_0 [some (zv_a x0), some (zv_i x1)] [] n sh d u Q := by
  unfold zE; rw [zn_103, zc_103_0]; exact ⟨fun h => h.2, fun h => ⟨Nat.le_of_ble_eq_true rfl, h⟩⟩
theorem ze_103s {S : zSs} {D n u : Nat} {sh : zk_S} {d : zm_D} {Q : ((Option zv_V) ⊕ Nat) → Nat → zk_S → zm_D → Nat → Prop} {x0 : Int} : zE S D 103 [zv_i x0] n sh d u Q ↔ zB S D 103 zb_103_0 [some (zv_i x0), none] [] n sh d u Q := by
  unfold zE; rw [zn_103, zc_103_0]; exact ⟨fun h => h.2, fun h => ⟨Nat.le_of_ble_eq_true rfl, h⟩⟩
theorem zh_103 : zhl 103 = [] := by decide +kernel
theorem zc_104_0 : zcd 104 0 = zb_104_0 := by decide +kernel
theorem zj_104_0 {S : zSs} {D n u : Nat} {sh : zk_S} {d : zm_D} {Q : ((Option zv_V) ⊕ Nat) → Nat → zk_S → zm_D → Nat → Prop} {L : zN} {st : List zv_V} : zJ S D 104 0 L st n sh d u Q ↔ zB S D 104 zb_104_0 L st n sh d u Q := by unfold zJ; rw [zc_104_0]
theorem zc_104_1 : zcd 104 1 = zb_104_1 := by decide +kernel
theorem zj_104_1 {S : zSs} {D n u : Nat} {sh : zk_S} {d : zm_D} {Q : ((Option zv_V) ⊕ Nat) → Nat → zk_S → zm_D → Nat → Prop} {L : zN} {st : List zv_V} : zJ S D 104 1 L st n sh d u Q ↔ zB S D 104 zb_104_1 L st n sh d u Q := by unfold zJ; rw [zc_104_1]
theorem zn_104 : znl 104 = 2 := by decide +kernel
theorem ze_104 {S : zSs} {D n u : Nat} {sh : zk_S} {d : zm_D} {Q : ((Option zv_V) ⊕ Nat) → Nat → zk_S → zm_D → Nat → Prop} {x0 : Int} {x1 : Int} : zE S D 104 [zv_a x0, zv_i x1] n sh d u Q ↔ zB S D 104 zb_104_0 [some (zv_a x0), some (zv_i x1)] [] n sh d u Q := by
  unfold zE; rw [zn_104, zc_104_0]; exact ⟨fun h => h.2, fun h => ⟨Nat.le_of_ble_eq_true rfl, h⟩⟩
theorem ze_104s {S : zSs} {D n u : Nat} {sh : zk_S} {d : zm_D} {Q : ((Option zv_V) ⊕ Nat) → Nat → zk_S → zm_D → Nat → Prop} {x0 : Int} : zE S D 104 [zv_i x0] n sh d u Q ↔ zB S D 104 zb_104_0 [some (zv_i x0), none] [] n sh d u Q := by
  unfold zE; rw [zn_104, zc_104_0]; exact ⟨fun h => h.2, fun h => ⟨Nat.le_of_ble_eq_true rfl, h⟩⟩
theorem zh_104 : zhl 104 = [] := by decide +kernel
theorem zc_105_0 : zcd 105 0 = zb_105_0 := by decide +kernel
theorem zj_105_0 {S : zSs} {D n u : Nat} {sh : zk_S} {d : zm_D} {Q : ((Option zv_V) ⊕ Nat) → Nat → zk_S → zm_D → Nat → Prop} {L : zN} {st : List zv_V} : zJ S D 105 0 L st n sh d u Q ↔ zB S D 105 zb_105_0 L st n sh d u Q := by unfold zJ; rw [zc_105_0]
theorem zn_105 : znl 105 = 1 := by decide +kernel
theorem ze_105 {S : zSs} {D n u : Nat} {sh : zk_S} {d : zm_D} {Q : ((Option zv_V) ⊕ Nat) → Nat → zk_S → zm_D → Nat → Prop} {x0 : Int} : zE S D 105 [zv_a x0] n sh d u Q ↔ zB S D 105 zb_105_0 [some (zv_a x0)] [] n sh d u Q := by
  unfold zE; rw [zn_105, zc_105_0]; exact ⟨fun h => h.2, fun h => ⟨Nat.le_of_ble_eq_true rfl, h⟩⟩
theorem ze_105s {S : zSs} {D n u : Nat} {sh : zk_S} {d : zm_D} {Q : ((Option zv_V) ⊕ Nat) → Nat → zk_S → zm_D → Nat → Prop} : zE S D 105 [] n sh d u Q ↔ zB S D 105 zb_105_0 [none] [] n sh d u Q := by
  unfold zE; rw [zn_105, zc_105_0]; exact ⟨fun h => h.2, fun h => ⟨Nat.le_of_ble_eq_true rfl, h⟩⟩
theorem zh_105 : zhl 105 = [] := by decide +kernel
theorem zc_106_0 : zcd 106 0 = zb_106_0 := by decide +kernel
theorem zj_106_0 {S : zSs} {D n u : Nat} {sh : zk_S} {d : zm_D} {Q : ((Option zv_V) ⊕ Nat) → Nat → zk_S → zm_D → Nat → Prop} {L : zN} {st : List zv_V} : zJ S D 106 0 L st n sh d u Q ↔ zB S D 106 zb_106_0 L st n sh d u Q := by unfold zJ; rw [zc_106_0]
theorem zn_106 : znl 106 = 1 := by decide +kernel
theorem ze_106 {S : zSs} {D n u : Nat} {sh : zk_S} {d : zm_D} {Q : ((Option zv_V) ⊕ Nat) → Nat → zk_S → zm_D → Nat → Prop} {x0 : Int} : zE S D 106 [zv_a x0] n sh d u Q ↔ zB S D 106 zb_106_0 [some (zv_a x0)] [] n sh d u Q := by
  unfold zE; rw [zn_106, zc_106_0]; exact ⟨fun h => h.2, fun h => ⟨Nat.le_of_ble_eq_true rfl, h⟩⟩
theorem ze_106s {S : zSs} {D n u : Nat} {sh : zk_S} {d : zm_D} {Q : ((Option zv_V) ⊕ Nat) → Nat → zk_S → zm_D → Nat → Prop} : zE S D 106 [] n sh d u Q ↔ zB S D 106 zb_106_0 [none] [] n sh d u Q := by
  unfold zE; rw [zn_106, zc_106_0]; exact ⟨fun h => h.2, fun h => ⟨Nat.le_of_ble_eq_true rfl, h⟩⟩
theorem zh_106 : zhl 106 = [] := by decide +kernel
theorem zc_107_0 : zcd 107 0 = zb_107_0 := by decide +kernel
theorem zj_107_0 {S : zSs} {D n u : Nat} {sh : zk_S} {d : zm_D} {Q : ((Option zv_V) ⊕ Nat) → Nat → zk_S → zm_D → Nat → Prop} {L : zN} {st : List zv_V} : zJ S D 107 0 L st n sh d u Q ↔ zB S D 107 zb_107_0 L st n sh d u Q := by unfold zJ; rw [zc_107_0]
theorem zn_107 : znl 107 = 1 := by decide +kernel
theorem ze_107 {S : zSs} {D n u : Nat} {sh : zk_S} {d : zm_D} {Q : ((Option zv_V) ⊕ Nat) → Nat → zk_S → zm_D → Nat → Prop} {x0 : Int} : zE S D 107 [zv_a x0] n sh d u Q ↔ zB S D 107 zb_107_0 [some (zv_a x0)] [] n sh d u Q := by
  unfold zE; rw [zn_107, zc_107_0]; exact ⟨fun h => h.2, fun h => ⟨Nat.le_of_ble_eq_true rfl, h⟩⟩
theorem ze_107s {S : zSs} {D n u : Nat} {sh : zk_S} {d : zm_D} {Q : ((Option zv_V) ⊕ Nat) → Nat → zk_S → zm_D → Nat → Prop} : zE S D 107 [] n sh d u Q ↔ zB S D 107 zb_107_0 [none] [] n sh d u Q := by
  unfold zE; rw [zn_107, zc_107_0]; exact ⟨fun h => h.2, fun h => ⟨Nat.le_of_ble_eq_true rfl, h⟩⟩
theorem zh_107 : zhl 107 = [] := by decide +kernel
theorem zc_108_0 : zcd 108 0 = zb_108_0 := by decide +kernel
theorem zj_108_0 {S : zSs} {D n u : Nat} {sh : zk_S} {d : zm_D} {Q : ((Option zv_V) ⊕ Nat) → Nat → zk_S → zm_D → Nat → Prop} {L : zN} {st : List zv_V} : zJ S D 108 0 L st n sh d u Q ↔ zB S D 108 zb_108_0 L st n sh d u Q := by unfold zJ; rw [zc_108_0]
theorem zn_108 : znl 108 = 2 := by decide +kernel
theorem ze_108 {S : zSs} {D n u : Nat} {sh : zk_S} {d : zm_D} {Q : ((Option zv_V) ⊕ Nat) → Nat → zk_S → zm_D → Nat → Prop} {x0 : Int} {x1 : Int} : zE S D 108 [zv_a x0, zv_a x1] n sh d u Q ↔ zB S D 108 zb_108_0 [some (zv_a x0), some (zv_a x1)] [] n sh d u Q := by
  unfold zE; rw [zn_108, zc_108_0]; exact ⟨fun h => h.2, fun h => ⟨Nat.le_of_ble_eq_true rfl, h⟩⟩
theorem ze_108s {S : zSs} {D n u : Nat} {sh : zk_S} {d : zm_D} {Q : ((Option zv_V) ⊕ Nat) → Nat → zk_S → zm_D → Nat → Prop} {x0 : Int} : zE S D 108 [zv_a x0] n sh d u Q ↔ zB S D 108 zb_108_0 [some (zv_a x0), none] [] n sh d u Q := by
  unfold zE; rw [zn_108, zc_108_0]; exact ⟨fun h => h.2, fun h => ⟨Nat.le_of_ble_eq_true rfl, h⟩⟩
theorem zh_108 : zhl 108 = [] := by decide +kernel
theorem zc_109_0 : zcd 109 0 = zb_109_0 := by decide +kernel
theorem zj_109_0 {S : zSs} {D n u : Nat} {sh : zk_S} {d : zm_D} {Q : ((Option zv_V) ⊕ Nat) → Nat → zk_S → zm_D → Nat → Prop} {L : zN} {st : List zv_V} : zJ S D 109 0 L st n sh d u Q ↔ zB S D 109 zb_109_0 L st n sh d u Q := by unfold zJ; rw [zc_109_0]
theorem zc_109_1 : zcd 109 1 = zb_109_1 := by decide +kernel
theorem zj_109_1 {S : zSs} {D n u : Nat} {sh : zk_S} {d : zm_D} {Q : ((Option zv_V) ⊕ Nat) → Nat → zk_S → zm_D → Nat → Prop} {L : zN} {st : List zv_V} : zJ S D 109 1 L st n sh d u Q ↔ zB S D 109 zb_109_1 L st n sh d u Q := by unfold zJ; rw [zc_109_1]
theorem zc_109_2 : zcd 109 2 = zb_109_2 := by decide +kernel
theorem zj_109_2 {S : zSs} {D n u : Nat} {sh : zk_S} {d : zm_D} {Q : ((Option zv_V) ⊕ Nat) → Nat → zk_S → zm_D → Nat → Prop} {L : zN} {st : List zv_V} : zJ S D 109 2 L st n sh d u Q ↔ zB S D 109 zb_109_2 L st n sh d u Q := by unfold zJ; rw [zc_109_2]
theorem zc_109_3 : zcd 109 3 = zb_109_3 := by decide +kernel
theorem zj_109_3 {S : zSs} {D n u : Nat} {sh : zk_S} {d : zm_D} {Q : ((Option zv_V) ⊕ Nat) → Nat → zk_S → zm_D → Nat → Prop} {L : zN} {st : List zv_V} : zJ S D 109 3 L st n sh d u Q ↔ zB S D 109 zb_109_3 L st n sh d u Q := by unfold zJ; rw [zc_109_3]
theorem zc_109_4 : zcd 109 4 = zb_109_4 := by decide +kernel
theorem zj_109_4 {S : zSs} {D n u : Nat} {sh : zk_S} {d : zm_D} {Q : ((Option zv_V) ⊕ Nat) → Nat → zk_S → zm_D → Nat → Prop} {L : zN} {st : List zv_V} : zJ S D 109 4 L st n sh d u Q ↔ zB S D 109 zb_109_4 L st n sh d u Q := by unfold zJ; rw [zc_109_4]
theorem zc_109_5 : zcd 109 5 = zb_109_5 := by decide +kernel
theorem zj_109_5 {S : zSs} {D n u : Nat} {sh : zk_S} {d : zm_D} {Q : ((Option zv_V) ⊕ Nat) → Nat → zk_S → zm_D → Nat → Prop} {L : zN} {st : List zv_V} : zJ S D 109 5 L st n sh d u Q ↔ zB S D 109 zb_109_5 L st n sh d u Q := by unfold zJ; rw [zc_109_5]
theorem zc_109_6 : zcd 109 6 = zb_109_6 := by decide +kernel
theorem zj_109_6 {S : zSs} {D n u : Nat} {sh : zk_S} {d : zm_D} {Q : ((Option zv_V) ⊕ Nat) → Nat → zk_S → zm_D → Nat → Prop} {L : zN} {st : List zv_V} : zJ S D 109 6 L st n sh d u Q ↔ zB S D 109 zb_109_6 L st n sh d u Q := by unfold zJ; rw [zc_109_6]
theorem zc_109_7 : zcd 109 7 = zb_109_7 := by decide +kernel
theorem zj_109_7 {S : zSs} {D n u : Nat} {sh : zk_S} {d : zm_D} {Q : ((Option zv_V) ⊕ Nat) → Nat → zk_S → zm_D → Nat → Prop} {L : zN} {st : List zv_V} : zJ S D 109 7 L st n sh d u Q ↔ zB S D 109 zb_109_7 L st n sh d u Q := by unfold zJ; rw [zc_109_7]
theorem zc_109_8 : zcd 109 8 = zb_109_8 := by decide +kernel
theorem zj_109_8 {S : zSs} {D n u : Nat} {sh : zk_S} {d : zm_D} {Q : ((Option zv_V) ⊕ Nat) → Nat → zk_S → zm_D → Nat → Prop} {L : zN} {st : List zv_V} : zJ S D 109 8 L st n sh d u Q ↔ zB S D 109 zb_109_8 L st n sh d u Q := by unfold zJ; rw [zc_109_8]
theorem zc_109_9 : zcd 109 9 = zb_109_9 := by decide +kernel
theorem zj_109_9 {S : zSs} {D n u : Nat} {sh : zk_S} {d : zm_D} {Q : ((Option zv_V) ⊕ Nat) → Nat → zk_S → zm_D → Nat → Prop} {L : zN} {st : List zv_V} : zJ S D 109 9 L st n sh d u Q ↔ zB S D 109 zb_109_9 L st n sh d u Q := by unfold zJ; rw [zc_109_9]
theorem zn_109 : znl 109 = 2 := by decide +kernel
theorem ze_109s {S : zSs} {D n u : Nat} {sh : zk_S} {d : zm_D} {Q : ((Option zv_V) ⊕ Nat) → Nat → zk_S → zm_D → Nat → Prop} {x0 : Int} {x1 : Int} : zE S D 109 [zv_i x0, zv_i x1] n sh d u Q ↔ zB S D 109 zb_109_0 [some (zv_i x0), some (zv_i x1)] [] n sh d u Q := by
  unfold zE; rw [zn_109, zc_109_0]; exact ⟨fun h => h.2, fun h => ⟨Nat.le_of_ble_eq_true rfl, h⟩⟩
theorem zh_109 : zhl 109 = [] := by decide +kernel
theorem zc_110_0 : zcd 110 0 = zb_110_0 := by decide +kernel
theorem zj_110_0 {S : zSs} {D n u : Nat} {sh : zk_S} {d : zm_D} {Q : ((Option zv_V) ⊕ Nat) → Nat → zk_S → zm_D → Nat → Prop} {L : zN} {st : List zv_V} : zJ S D 110 0 L st n sh d u Q ↔ zB S D 110 zb_110_0 L st n sh d u Q := by unfold zJ; rw [zc_110_0]
theorem zc_110_1 : zcd 110 1 = zb_110_1 := by decide +kernel
theorem zj_110_1 {S : zSs} {D n u : Nat} {sh : zk_S} {d : zm_D} {Q : ((Option zv_V) ⊕ Nat) → Nat → zk_S → zm_D → Nat → Prop} {L : zN} {st : List zv_V} : zJ S D 110 1 L st n sh d u Q ↔ zB S D 110 zb_110_1 L st n sh d u Q := by unfold zJ; rw [zc_110_1]
theorem zc_110_2 : zcd 110 2 = zb_110_2 := by decide +kernel
theorem zj_110_2 {S : zSs} {D n u : Nat} {sh : zk_S} {d : zm_D} {Q : ((Option zv_V) ⊕ Nat) → Nat → zk_S → zm_D → Nat → Prop} {L : zN} {st : List zv_V} : zJ S D 110 2 L st n sh d u Q ↔ zB S D 110 zb_110_2 L st n sh d u Q := by unfold zJ; rw [zc_110_2]
theorem zc_110_3 : zcd 110 3 = zb_110_3 := by decide +kernel
theorem zj_110_3 {S : zSs} {D n u : Nat} {sh : zk_S} {d : zm_D} {Q : ((Option zv_V) ⊕ Nat) → Nat → zk_S → zm_D → Nat → Prop} {L : zN} {st : List zv_V} : zJ S D 110 3 L st n sh d u Q ↔ zB S D 110 zb_110_3 L st n sh d u Q := by unfold zJ; rw [zc_110_3]
theorem zc_110_4 : zcd 110 4 = zb_110_4 := by decide +kernel
theorem zj_110_4 {S : zSs} {D n u : Nat} {sh : zk_S} {d : zm_D} {Q : ((Option zv_V) ⊕ Nat) → Nat → zk_S → zm_D → Nat → Prop} {L : zN} {st : List zv_V} : zJ S D 110 4 L st n sh d u Q ↔ zB S D 110 zb_110_4 L st n sh d u Q := by unfold zJ; rw [zc_110_4]
theorem zc_110_5 : zcd 110 5 = zb_110_5 := by decide +kernel
theorem zj_110_5 {S : zSs} {D n u : Nat} {sh : zk_S} {d : zm_D} {Q : ((Option zv_V) ⊕ Nat) → Nat → zk_S → zm_D → Nat → Prop} {L : zN} {st : List zv_V} : zJ S D 110 5 L st n sh d u Q ↔ zB S D 110 zb_110_5 L st n sh d u Q := by unfold zJ; rw [zc_110_5]
theorem zc_110_6 : zcd 110 6 = zb_110_6 := by decide +kernel
theorem zj_110_6 {S : zSs} {D n u : Nat} {sh : zk_S} {d : zm_D} {Q : ((Option zv_V) ⊕ Nat) → Nat → zk_S → zm_D → Nat → Prop} {L : zN} {st : List zv_V} : zJ S D 110 6 L st n sh d u Q ↔ zB S D 110 zb_110_6 L st n sh d u Q := by unfold zJ; rw [zc_110_6]
theorem zc_110_7 : zcd 110 7 = zb_110_7 := by decide +kernel
theorem zj_110_7 {S : zSs} {D n u : Nat} {sh : zk_S} {d : zm_D} {Q : ((Option zv_V) ⊕ Nat) → Nat → zk_S → zm_D → Nat → Prop} {L : zN} {st : List zv_V} : zJ S D 110 7 L st n sh d u Q ↔ zB S D 110 zb_110_7 L st n sh d u Q := by unfold zJ; rw [zc_110_7]
theorem zc_110_8 : zcd 110 8 = zb_110_8 := by decide +kernel
theorem zj_110_8 {S : zSs} {D n u : Nat} {sh : zk_S} {d : zm_D} {Q : ((Option zv_V) ⊕ Nat) → Nat → zk_S → zm_D → Nat → Prop} {L : zN} {st : List zv_V} : zJ S D 110 8 L st n sh d u Q ↔ zB S D 110 zb_110_8 L st n sh d u Q := by unfold zJ; rw [zc_110_8]
theorem zn_110 : znl 110 = 3 := by decide +kernel
theorem ze_110 {S : zSs} {D n u : Nat} {sh : zk_S} {d : zm_D} {Q : ((Option zv_V) ⊕ Nat) → Nat → zk_S → zm_D → Nat → Prop} {x0 : Int} {x1 : Int} : zE S D 110 [zv_a x0, zv_i x1] n sh d u Q ↔ zB S D 110 zb_110_0 [some (zv_a x0), some (zv_i x1), none] [] n sh d u Q := by
  unfold zE; rw [zn_110, zc_110_0]; exact ⟨fun h => h.2, fun h => ⟨Nat.le_of_ble_eq_true rfl, h⟩⟩
theorem ze_110s {S : zSs} {D n u : Nat} {sh : zk_S} {d : zm_D} {Q : ((Option zv_V) ⊕ Nat) → Nat → zk_S → zm_D → Nat → Prop} {x0 : Int} : zE S D 110 [zv_i x0] n sh d u Q ↔ zB S D 110 zb_110_0 [some (zv_i x0), none, none] [] n sh d u Q := by
  unfold zE; rw [zn_110, zc_110_0]; exact ⟨fun h => h.2, fun h => ⟨Nat.le_of_ble_eq_true rfl, h⟩⟩
theorem zh_110 : zhl 110 = [] := by decide +kernel
theorem zc_111_0 : zcd 111 0 = zb_111_0 := by decide +kernel
theorem zj_111_0 {S : zSs} {D n u : Nat} {sh : zk_S} {d : zm_D} {Q : ((Option zv_V) ⊕ Nat) → Nat → zk_S → zm_D → Nat → Prop} {L : zN} {st : List zv_V} : zJ S D 111 0 L st n sh d u Q ↔ zB S D 111 zb_111_0 L st n sh d u Q := by unfold zJ; rw [zc_111_0]
theorem zc_111_1 : zcd 111 1 = zb_111_1 := by decide +kernel
theorem zj_111_1 {S : zSs} {D n u : Nat} {sh : zk_S} {d : zm_D} {Q : ((Option zv_V) ⊕ Nat) → Nat → zk_S → zm_D → Nat → Prop} {L : zN} {st : List zv_V} : zJ S D 111 1 L st n sh d u Q ↔ zB S D 111 zb_111_1 L st n sh d u Q := by unfold zJ; rw [zc_111_1]
theorem zc_111_2 : zcd 111 2 = zb_111_2 := by decide +kernel
theorem zj_111_2 {S : zSs} {D n u : Nat} {sh : zk_S} {d : zm_D} {Q : ((Option zv_V) ⊕ Nat) → Nat → zk_S → zm_D → Nat → Prop} {L : zN} {st : List zv_V} : zJ S D 111 2 L st n sh d u Q ↔ zB S D 111 zb_111_2 L st n sh d u Q := by unfold zJ; rw [zc_111_2]
theorem zc_111_3 : zcd 111 3 = zb_111_3 := by decide +kernel
theorem zj_111_3 {S : zSs} {D n u : Nat} {sh : zk_S} {d : zm_D} {Q : ((Option zv_V) ⊕ Nat) → Nat → zk_S → zm_D → Nat → Prop} {L : zN} {st : List zv_V} : zJ S D 111 3 L st n sh d u Q ↔ zB S D 111 zb_111_3 L st n sh d u Q := by unfold zJ; rw [zc_111_3]
theorem zc_111_4 : zcd 111 4 = zb_111_4 := by decide +kernel
theorem zj_111_4 {S : zSs} {D n u : Nat} {sh : zk_S} {d : zm_D} {Q : ((Option zv_V) ⊕ Nat) → Nat → zk_S → zm_D → Nat → Prop} {L : zN} {st : List zv_V} : zJ S D 111 4 L st n sh d u Q ↔ zB S D 111 zb_111_4 L st n sh d u Q := by unfold zJ; rw [zc_111_4]
theorem zc_111_5 : zcd 111 5 = zb_111_5 := by decide +kernel
theorem zj_111_5 {S : zSs} {D n u : Nat} {sh : zk_S} {d : zm_D} {Q : ((Option zv_V) ⊕ Nat) → Nat → zk_S → zm_D → Nat → Prop} {L : zN} {st : List zv_V} : zJ S D 111 5 L st n sh d u Q ↔ zB S D 111 zb_111_5 L st n sh d u Q := by unfold zJ; rw [zc_111_5]
theorem zc_111_6 : zcd 111 6 = zb_111_6 := by decide +kernel
theorem zj_111_6 {S : zSs} {D n u : Nat} {sh : zk_S} {d : zm_D} {Q : ((Option zv_V) ⊕ Nat) → Nat → zk_S → zm_D → Nat → Prop} {L : zN} {st : List zv_V} : zJ S D 111 6 L st n sh d u Q ↔ zB S D 111 zb_111_6 L st n sh d u Q := by unfold zJ; rw [zc_111_6]
theorem zc_111_7 : zcd 111 7 = zb_111_7 := by decide +kernel
theorem zj_111_7 {S : zSs} {D n u : Nat} {sh : zk_S} {d : zm_D} {Q : ((Option zv_V) ⊕ Nat) → Nat → zk_S → zm_D → Nat → Prop} {L : zN} {st : List zv_V} : zJ S D 111 7 L st n sh d u Q ↔ zB S D 111 zb_111_7 L st n sh d u Q := by unfold zJ; rw [zc_111_7]
theorem zc_111_8 : zcd 111 8 = zb_111_8 := by decide +kernel
theorem zj_111_8 {S : zSs} {D n u : Nat} {sh : zk_S} {d : zm_D} {Q : ((Option zv_V) ⊕ Nat) → Nat → zk_S → zm_D → Nat → Prop} {L : zN} {st : List zv_V} : zJ S D 111 8 L st n sh d u Q ↔ zB S D 111 zb_111_8 L st n sh d u Q := by unfold zJ; rw [zc_111_8]
theorem zc_111_9 : zcd 111 9 = zb_111_9 := by decide +kernel
theorem zj_111_9 {S : zSs} {D n u : Nat} {sh : zk_S} {d : zm_D} {Q : ((Option zv_V) ⊕ Nat) → Nat → zk_S → zm_D → Nat → Prop} {L : zN} {st : List zv_V} : zJ S D 111 9 L st n sh d u Q ↔ zB S D 111 zb_111_9 L st n sh d u Q := by unfold zJ; rw [zc_111_9]
theorem zc_111_10 : zcd 111 10 = zb_111_10 := by decide +kernel
theorem zj_111_10 {S : zSs} {D n u : Nat} {sh : zk_S} {d : zm_D} {Q : ((Option zv_V) ⊕ Nat) → Nat → zk_S → zm_D → Nat → Prop} {L : zN} {st : List zv_V} : zJ S D 111 10 L st n sh d u Q ↔ zB S D 111 zb_111_10 L st n sh d u Q := by unfold zJ; rw [zc_111_10]
theorem zn_111 : znl 111 = 3 := by decide +kernel
theorem ze_111s {S : zSs} {D n u : Nat} {sh : zk_S} {d : zm_D} {Q : ((Option zv_V) ⊕ Nat) → Nat → zk_S → zm_D → Nat → Prop} {x0 : Int} {x1 : Int} {x2 : Int} : zE S D 111 [zv_i x0, zv_i x1, zv_i x2] n sh d u Q ↔ zB S D 111 zb_111_0 [some (zv_i x0), some (zv_i x1), some (zv_i x2)] [] n sh d u Q := by
  unfold zE; rw [zn_111, zc_111_0]; exact ⟨fun h => h.2, fun h => ⟨Nat.le_of_ble_eq_true rfl, h⟩⟩
theorem zh_111 : zhl 111 = [] := by decide +kernel
theorem zc_112_0 : zcd 112 0 = zb_112_0 := by decide +kernel
theorem zj_112_0 {S : zSs} {D n u : Nat} {sh : zk_S} {d : zm_D} {Q : ((Option zv_V) ⊕ Nat) → Nat → zk_S → zm_D → Nat → Prop} {L : zN} {st : List zv_V} : zJ S D 112 0 L st n sh d u Q ↔ zB S D 112 zb_112_0 L st n sh d u Q := by unfold zJ; rw [zc_112_0]
theorem zc_112_1 : zcd 112 1 = zb_112_1 := by decide +kernel
theorem zj_112_1 {S : zSs} {D n u : Nat} {sh : zk_S} {d : zm_D} {Q : ((Option zv_V) ⊕ Nat) → Nat → zk_S → zm_D → Nat → Prop} {L : zN} {st : List zv_V} : zJ S D 112 1 L st n sh d u Q ↔ zB S D 112 zb_112_1 L st n sh d u Q := by unfold zJ; rw [zc_112_1]
theorem zc_112_2 : zcd 112 2 = zb_112_2 := by decide +kernel
theorem zj_112_2 {S : zSs} {D n u : Nat} {sh : zk_S} {d : zm_D} {Q : ((Option zv_V) ⊕ Nat) → Nat → zk_S → zm_D → Nat → Prop} {L : zN} {st : List zv_V} : zJ S D 112 2 L st n sh d u Q ↔ zB S D 112 zb_112_2 L st n sh d u Q := by unfold zJ; rw [zc_112_2]
theorem zn_112 : znl 112 = 1 := by decide +kernel
theorem ze_112 {S : zSs} {D n u : Nat} {sh : zk_S} {d : zm_D} {Q : ((Option zv_V) ⊕ Nat) → Nat → zk_S → zm_D → Nat → Prop} {x0 : Int} : zE S D 112 [zv_a x0] n sh d u Q ↔ zB S D 112 zb_112_0 [some (zv_a x0)] [] n sh d u Q := by
  unfold zE; rw [zn_112, zc_112_0]; exact ⟨fun h => h.2, fun h => ⟨Nat.le_of_ble_eq_true rfl, h⟩⟩
theorem ze_112s {S : zSs} {D n u : Nat} {sh : zk_S} {d : zm_D} {Q : ((Option zv_V) ⊕ Nat) → Nat → zk_S → zm_D → Nat → Prop} : zE S D 112 [] n sh d u Q ↔ zB S D 112 zb_112_0 [none] [] n sh d u Q := by
  unfold zE; rw [zn_112, zc_112_0]; exact ⟨fun h => h.2, fun h => ⟨Nat.le_of_ble_eq_true rfl, h⟩⟩
theorem zh_112 : zhl 112 = [] := by decide +kernel
theorem zc_113_0 : zcd 113 0 = zb_113_0 := by decide +kernel
theorem zj_113_0 {S : zSs} {D n u : Nat} {sh : zk_S} {d : zm_D} {Q : ((Option zv_V) ⊕ Nat) → Nat → zk_S → zm_D → Nat → Prop} {L : zN} {st : List zv_V} : zJ S D 113 0 L st n sh d u Q ↔ zB S D 113 zb_113_0 L st n sh d u Q := by unfold zJ; rw [zc_113_0]
theorem zc_113_1 : zcd 113 1 = zb_113_1 := by decide +kernel
theorem zj_113_1 {S : zSs} {D n u : Nat} {sh : zk_S} {d : zm_D} {Q : ((Option zv_V) ⊕ Nat) → Nat → zk_S → zm_D → Nat → Prop} {L : zN} {st : List zv_V} : zJ S D 113 1 L st n sh d u Q ↔ zB S D 113 zb_113_1 L st n sh d u Q := by unfold zJ; rw [zc_113_1]
theorem zn_113 : znl 113 = 5 := by decide +kernel
theorem ze_113 {S : zSs} {D n u : Nat} {sh : zk_S} {d : zm_D} {Q : ((Option zv_V) ⊕ Nat) → Nat → zk_S → zm_D → Nat → Prop} {x0 : Int} {x1 : Int} {x2 : Int} {x3 : Int} {x4 : Int} : zE S D 113 [zv_a x0, zv_a x1, zv_i x2, zv_i x3, zv_i x4] n sh d u Q ↔ zB S D 113 zb_113_0 [some (zv_a x0), some (zv_a x1), some (zv_i x2), some (zv_i x3), some (zv_i x4)] [] n sh d u Q := by
  unfold zE; rw [zn_113, zc_113_0]; exact ⟨fun h => h.2, fun h => ⟨Nat.le_of_ble_eq_true rfl, h⟩⟩
theorem ze_113s {S : zSs} {D n u : Nat} {sh : zk_S} {d : zm_D} {Q : ((Option zv_V) ⊕ Nat) → Nat → zk_S → zm_D → Nat → Prop} {x0 : Int} {x1 : Int} {x2 : Int} {x3 : Int} : zE S D 113 [zv_a x0, zv_i x1, zv_i x2, zv_i x3] n sh d u Q ↔ zB S D 113 zb_113_0 [some (zv_a x0), some (zv_i x1), some (zv_i x2), some (zv_i x3), none] [] n sh d u Q := by
  unfold zE; rw [zn_113, zc_113_0]; exact ⟨fun h => h.2, fun h => ⟨Nat.le_of_ble_eq_true rfl, h⟩⟩
theorem zh_113 : zhl 113 = [] := by decide +kernel
theorem zc_114_0 : zcd 114 0 = zb_114_0 := by decide +kernel
theorem zj_114_0 {S : zSs} {D n u : Nat} {sh : zk_S} {d : zm_D} {Q : ((Option zv_V) ⊕ Nat) → Nat → zk_S → zm_D → Nat → Prop} {L : zN} {st : List zv_V} : zJ S D 114 0 L st n sh d u Q ↔ zB S D 114 zb_114_0 L st n sh d u Q := by unfold zJ; rw [zc_114_0]
theorem zc_114_1 : zcd 114 1 = zb_114_1 := by decide +kernel
theorem zj_114_1 {S : zSs} {D n u : Nat} {sh : zk_S} {d : zm_D} {Q : ((Option zv_V) ⊕ Nat) → Nat → zk_S → zm_D → Nat → Prop} {L : zN} {st : List zv_V} : zJ S D 114 1 L st n sh d u Q ↔ zB S D 114 zb_114_1 L st n sh d u Q := by unfold zJ; rw [zc_114_1]
theorem zc_114_2 : zcd 114 2 = zb_114_2 := by decide +kernel
theorem zj_114_2 {S : zSs} {D n u : Nat} {sh : zk_S} {d : zm_D} {Q : ((Option zv_V) ⊕ Nat) → Nat → zk_S → zm_D → Nat → Prop} {L : zN} {st : List zv_V} : zJ S D 114 2 L st n sh d u Q ↔ zB S D 114 zb_114_2 L st n sh d u Q := by unfold zJ; rw [zc_114_2]
theorem zc_114_3 : zcd 114 3 = zb_114_3 := by decide +kernel
theorem zj_114_3 {S : zSs} {D n u : Nat} {sh : zk_S} {d : zm_D} {Q : ((Option zv_V) ⊕ Nat) → Nat → zk_S → zm_D → Nat → Prop} {L : zN} {st : List zv_V} : zJ S D 114 3 L st n sh d u Q ↔ zB S D 114 zb_114_3 L st n sh d u Q := by unfold zJ; rw [zc_114_3]
theorem zc_114_4 : zcd 114 4 = zb_114_4 := by decide +kernel
theorem zj_114_4 {S : zSs} {D n u : Nat} {sh : zk_S} {d : zm_D} {Q : ((Option zv_V) ⊕ Nat) → Nat → zk_S → zm_D → Nat → Prop} {L : zN} {st : List zv_V} : zJ S D 114 4 L st n sh d u Q ↔ zB S D 114 zb_114_4 L st n sh d u Q := by unfold zJ; rw [zc_114_4]
theorem zc_114_5 : zcd 114 5 = zb_114_5 := by decide +kernel
theorem zj_114_5 {S : zSs} {D n u : Nat} {sh : zk_S} {d : zm_D} {Q : ((Option zv_V) ⊕ Nat) → Nat → zk_S → zm_D → Nat → Prop} {L : zN} {st : List zv_V} : zJ S D 114 5 L st n sh d u Q ↔ zB S D 114 zb_114_5 L st n sh d u Q := by unfold zJ; rw [zc_114_5]
theorem zn_114 : znl 114 = 6 := by decide +kernel
theorem ze_114 {S : zSs} {D n u : Nat} {sh : zk_S} {d : zm_D} {Q : ((Option zv_V) ⊕ Nat) → Nat → zk_S → zm_D → Nat → Prop} {x0 : Int} {x1 : Int} : zE S D 114 [zv_a x0, zv_i x1] n sh d u Q ↔ zB S D 114 zb_114_0 [some (zv_a x0), some (zv_i x1), none, none, none, none] [] n sh d u Q := by
  unfold zE; rw [zn_114, zc_114_0]; exact ⟨fun h => h.2, fun h => ⟨Nat.le_of_ble_eq_true rfl, h⟩⟩
theorem ze_114s {S : zSs} {D n u : Nat} {sh : zk_S} {d : zm_D} {Q : ((Option zv_V) ⊕ Nat) → Nat → zk_S → zm_D → Nat → Prop} {x0 : Int} : zE S D 114 [zv_i x0] n sh d u Q ↔ zB S D 114 zb_114_0 [some (zv_i x0), none, none, none, none, none] [] n sh d u Q := by
  unfold zE; rw [zn_114, zc_114_0]; exact ⟨fun h => h.2, fun h => ⟨Nat.le_of_ble_eq_true rfl, h⟩⟩
theorem zh_114 : zhl 114 = [] := by decide +kernel
theorem zc_115_0 : zcd 115 0 = zb_115_0 := by decide +kernel
theorem zj_115_0 {S : zSs} {D n u : Nat} {sh : zk_S} {d : zm_D} {Q : ((Option zv_V) ⊕ Nat) → Nat → zk_S → zm_D → Nat → Prop} {L : zN} {st : List zv_V} : zJ S D 115 0 L st n sh d u Q ↔ zB S D 115 zb_115_0 L st n sh d u Q := by unfold zJ; rw [zc_115_0]
theorem zc_115_1 : zcd 115 1 = zb_115_1 := by decide +kernel
theorem zj_115_1 {S : zSs} {D n u : Nat} {sh : zk_S} {d : zm_D} {Q : ((Option zv_V) ⊕ Nat) → Nat → zk_S → zm_D → Nat → Prop} {L : zN} {st : List zv_V} : zJ S D 115 1 L st n sh d u Q ↔ zB S D 115 zb_115_1 L st n sh d u Q := by unfold zJ; rw [zc_115_1]
theorem zc_115_2 : zcd 115 2 = zb_115_2 := by decide +kernel
theorem zj_115_2 {S : zSs} {D n u : Nat} {sh : zk_S} {d : zm_D} {Q : ((Option zv_V) ⊕ Nat) → Nat → zk_S → zm_D → Nat → Prop} {L : zN} {st : List zv_V} : zJ S D 115 2 L st n sh d u Q ↔ zB S D 115 zb_115_2 L st n sh d u Q := by unfold zJ; rw [zc_115_2]
theorem zc_115_3 : zcd 115 3 = zb_115_3 := by decide +kernel
theorem zj_115_3 {S : zSs} {D n u : Nat} {sh : zk_S} {d : zm_D} {Q : ((Option zv_V) ⊕ Nat) → Nat → zk_S → zm_D → Nat → Prop} {L : zN} {st : List zv_V} : zJ S D 115 3 L st n sh d u Q ↔ zB S D 115 zb_115_3 L st n sh d u Q := by unfold zJ; rw [zc_115_3]
theorem zn_115 : znl 115 = 4 := by decide +kernel
theorem ze_115 {S : zSs} {D n u : Nat} {sh : zk_S} {d : zm_D} {Q : ((Option zv_V) ⊕ Nat) → Nat → zk_S → zm_D → Nat → Prop} {x0 : Int} {x1 : Int} : zE S D 115 [zv_a x0, zv_a x1] n sh d u Q ↔ zB S D 115 zb_115_0 [some (zv_a x0), some (zv_a x1), none, none] [] n sh d u Q := by
  unfold zE; rw [zn_115, zc_115_0]; exact ⟨fun h => h.2, fun h => ⟨Nat.le_of_ble_eq_true rfl, h⟩⟩
theorem ze_115s {S : zSs} {D n u : Nat} {sh : zk_S} {d : zm_D} {Q : ((Option zv_V) ⊕ Nat) → Nat → zk_S → zm_D → Nat → Prop} {x0 : Int} : zE S D 115 [zv_a x0] n sh d u Q ↔ zB S D 115 zb_115_0 [some (zv_a x0), none, none, none] [] n sh d u Q := by
  unfold zE; rw [zn_115, zc_115_0]; exact ⟨fun h => h.2, fun h => ⟨Nat.le_of_ble_eq_true rfl, h⟩⟩
theorem zh_115 : zhl 115 = [] := by decide +kernel
theorem zc_116_0 : zcd 116 0 = zb_116_0 := by decide +kernel
theorem zj_116_0 {S : zSs} {D n u : Nat} {sh : zk_S} {d : zm_D} {Q : ((Option zv_V) ⊕ Nat) → Nat → zk_S → zm_D → Nat → Prop} {L : zN} {st : List zv_V} : zJ S D 116 0 L st n sh d u Q ↔ zB S D 116 zb_116_0 L st n sh d u Q := by unfold zJ; rw [zc_116_0]
theorem zc_116_1 : zcd 116 1 = zb_116_1 := by decide +kernel
theorem zj_116_1 {S : zSs} {D n u : Nat} {sh : zk_S} {d : zm_D} {Q : ((Option zv_V) ⊕ Nat) → Nat → zk_S → zm_D → Nat → Prop} {L : zN} {st : List zv_V} : zJ S D 116 1 L st n sh d u Q ↔ zB S D 116 zb_116_1 L st n sh d u Q := by unfold zJ; rw [zc_116_1]
theorem zc_116_2 : zcd 116 2 = zb_116_2 := by decide +kernel
theorem zj_116_2 {S : zSs} {D n u : Nat} {sh : zk_S} {d : zm_D} {Q : ((Option zv_V) ⊕ Nat) → Nat → zk_S → zm_D → Nat → Prop} {L : zN} {st : List zv_V} : zJ S D 116 2 L st n sh d u Q ↔ zB S D 116 zb_116_2 L st n sh d u Q := by unfold zJ; rw [zc_116_2]
theorem zc_116_3 : zcd 116 3 = zb_116_3 := by decide +kernel
theorem zj_116_3 {S : zSs} {D n u : Nat} {sh : zk_S} {d : zm_D} {Q : ((Option zv_V) ⊕ Nat) → Nat → zk_S → zm_D → Nat → Prop} {L : zN} {st : List zv_V} : zJ S D 116 3 L st n sh d u Q ↔ zB S D 116 zb_116_3 L st n sh d u Q := by unfold zJ; rw [zc_116_3]
theorem zn_116 : znl 116 = 6 := by decide +kernel
theorem ze_116 {S : zSs} {D n u : Nat} {sh : zk_S} {d : zm_D} {Q : ((Option zv_V) ⊕ Nat) → Nat → zk_S → zm_D → Nat → Prop} {x0 : Int} {x1 : Int} : zE S D 116 [zv_a x0, zv_a x1] n sh d u Q ↔ zB S D 116 zb_116_0 [some (zv_a x0), some (zv_a x1), none, none, none, none] [] n sh d u Q := by
  unfold zE; rw [zn_116, zc_116_0]; exact ⟨fun h => h.2, fun h => ⟨Nat.le_of_ble_eq_true rfl, h⟩⟩
theorem ze_116s {S : zSs} {D n u : Nat} {sh : zk_S} {d : zm_D} {Q : ((Option zv_V) ⊕ Nat) → Nat → zk_S → zm_D → Nat → Prop} {x0 : Int} : zE S D 116 [zv_a x0] n sh d u Q ↔ zB S D 116 zb_116_0 [some (zv_a x0), none, none, none, none, none] [] n sh d u Q := by
  unfold zE; rw [zn_116, zc_116_0]; exact ⟨fun h => h.2, fun h => ⟨Nat.le_of_ble_eq_true rfl, h⟩⟩
theorem zh_116 : zhl 116 = [] := by decide +kernel
theorem zc_117_0 : zcd 117 0 = zb_117_0 := by decide +kernel
theorem zj_117_0 {S : zSs} {D n u : Nat} {sh : zk_S} {d : zm_D} {Q : ((Option zv_V) ⊕ Nat) → Nat → zk_S → zm_D → Nat → Prop} {L : zN} {st : List zv_V} : zJ S D 117 0 L st n sh d u Q ↔ zB S D 117 zb_117_0 L st n sh d u Q := by unfold zJ; rw [zc_117_0]
theorem zc_117_1 : zcd 117 1 = zb_117_1 := by decide +kernel
theorem zj_117_1 {S : zSs} {D n u : Nat} {sh : zk_S} {d : zm_D} {Q : ((Option zv_V) ⊕ Nat) → Nat → zk_S → zm_D → Nat → Prop} {L : zN} {st : List zv_V} : zJ S D 117 1 L st n sh d u Q ↔ zB S D 117 zb_117_1 L st n sh d u Q := by unfold zJ; rw [zc_117_1]
theorem zc_117_2 : zcd 117 2 = zb_117_2 := by decide +kernel
theorem zj_117_2 {S : zSs} {D n u : Nat} {sh : zk_S} {d : zm_D} {Q : ((Option zv_V) ⊕ Nat) → Nat → zk_S → zm_D → Nat → Prop} {L : zN} {st : List zv_V} : zJ S D 117 2 L st n sh d u Q ↔ zB S D 117 zb_117_2 L st n sh d u Q := by unfold zJ; rw [zc_117_2]
theorem zc_117_3 : zcd 117 3 = zb_117_3 := by decide +kernel
theorem zj_117_3 {S : zSs} {D n u : Nat} {sh : zk_S} {d : zm_D} {Q : ((Option zv_V) ⊕ Nat) → Nat → zk_S → zm_D → Nat → Prop} {L : zN} {st : List zv_V} : zJ S D 117 3 L st n sh d u Q ↔ zB S D 117 zb_117_3 L st n sh d u Q := by unfold zJ; rw [zc_117_3]
theorem zc_117_4 : zcd 117 4 = zb_117_4 := by decide +kernel
theorem zj_117_4 {S : zSs} {D n u : Nat} {sh : zk_S} {d : zm_D} {Q : ((Option zv_V) ⊕ Nat) → Nat → zk_S → zm_D → Nat → Prop} {L : zN} {st : List zv_V} : zJ S D 117 4 L st n sh d u Q ↔ zB S D 117 zb_117_4 L st n sh d u Q := by unfold zJ; rw [zc_117_4]
theorem zn_117 : znl 117 = 2 := by decide +kernel
theorem ze_117 {S : zSs} {D n u : Nat} {sh : zk_S} {d : zm_D} {Q : ((Option zv_V) ⊕ Nat) → Nat → zk_S → zm_D → Nat → Prop} {x0 : Int} : zE S D 117 [zv_a x0] n sh d u Q ↔ zB S D 117 zb_117_0 [some (zv_a x0), none] [] n sh d u Q := by
  unfold zE; rw [zn_117, zc_117_0]; exact ⟨fun h => h.2, fun h => ⟨Nat.le_of_ble_eq_true rfl, h⟩⟩
theorem ze_117s {S : zSs} {D n u : Nat} {sh : zk_S} {d : zm_D} {Q : ((Option zv_V) ⊕ Nat) → Nat → zk_S → zm_D → Nat → Prop} : zE S D 117 [] n sh d u Q ↔ zB S D 117 zb_117_0 [none, none] [] n sh d u Q := by
  unfold zE; rw [zn_117, zc_117_0]; exact ⟨fun h => h.2, fun h => ⟨Nat.le_of_ble_eq_true rfl, h⟩⟩
theorem zh_117 : zhl 117 = [] := by decide +kernel
theorem zc_118_0 : zcd 118 0 = zb_118_0 := by decide +kernel
theorem zj_118_0 {S : zSs} {D n u : Nat} {sh : zk_S} {d : zm_D} {Q : ((Option zv_V) ⊕ Nat) → Nat → zk_S → zm_D → Nat → Prop} {L : zN} {st : List zv_V} : zJ S D 118 0 L st n sh d u Q ↔ zB S D 118 zb_118_0 L st n sh d u Q := by unfold zJ; rw [zc_118_0]
theorem zc_118_1 : zcd 118 1 = zb_118_1 := by decide +kernel
theorem zj_118_1 {S : zSs} {D n u : Nat} {sh : zk_S} {d : zm_D} {Q : ((Option zv_V) ⊕ Nat) → Nat → zk_S → zm_D → Nat → Prop} {L : zN} {st : List zv_V} : zJ S D 118 1 L st n sh d u Q ↔ zB S D 118 zb_118_1 L st n sh d u Q := by unfold zJ; rw [zc_118_1]
theorem zc_118_2 : zcd 118 2 = zb_118_2 := by decide +kernel
theorem zj_118_2 {S : zSs} {D n u : Nat} {sh : zk_S} {d : zm_D} {Q : ((Option zv_V) ⊕ Nat) → Nat → zk_S → zm_D → Nat → Prop} {L : zN} {st : List zv_V} : zJ S D 118 2 L st n sh d u Q ↔ zB S D 118 zb_118_2 L st n sh d u Q := by unfold zJ; rw [zc_118_2]
theorem zn_118 : znl 118 = 2 := by decide +kernel
theorem ze_118 {S : zSs} {D n u : Nat} {sh : zk_S} {d : zm_D} {Q : ((Option zv_V) ⊕ Nat) → Nat → zk_S → zm_D → Nat → Prop} {x0 : Int} {x1 : Int} : zE S D 118 [zv_a x0, zv_i x1] n sh d u Q ↔ zB S D 118 zb_118_0 [some (zv_a x0), some (zv_i x1)] [] n sh d u Q := by
  unfold zE; rw [zn_118, zc_118_0]; exact ⟨fun h => h.2, fun h => ⟨Nat.le_of_ble_eq_true rfl, h⟩⟩
theorem ze_118s {S : zSs} {D n u : Nat} {sh : zk_S} {d : zm_D} {Q : ((Option zv_V) ⊕ Nat) → Nat → zk_S → zm_D → Nat → Prop} {x0 : Int} : zE S D 118 [zv_i x0] n sh d u Q ↔ zB S D 118 zb_118_0 [some (zv_i x0), none] [] n sh d u Q := by
  unfold zE; rw [zn_118, zc_118_0]; exact ⟨fun h => h.2, fun h => ⟨Nat.le_of_ble_eq_true rfl, h⟩⟩
theorem zh_118 : zhl 118 = [] := by decide +kernel
theorem zc_119_0 : zcd 119 0 = zb_119_0 := by decide +kernel
theorem zj_119_0 {S : zSs} {D n u : Nat} {sh : zk_S} {d : zm_D} {Q : ((Option zv_V) ⊕ Nat) → Nat → zk_S → zm_D → Nat → Prop} {L : zN} {st : List zv_V} : zJ S D 119 0 L st n sh d u Q ↔ zB S D 119 zb_119_0 L st n sh d u Q := by unfold zJ; rw [zc_119_0]
theorem zc_119_1 : zcd 119 1 = zb_119_1 := by decide +kernel
theorem zj_119_1 {S : zSs} {D n u : Nat} {sh : zk_S} {d : zm_D} {Q : ((Option zv_V) ⊕ Nat) → Nat → zk_S → zm_D → Nat → Prop} {L : zN} {st : List zv_V} : zJ S D 119 1 L st n sh d u Q ↔ zB S D 119 zb_119_1 L st n sh d u Q := by unfold zJ; rw [zc_119_1]
theorem zc_119_2 : zcd 119 2 = zb_119_2 := by decide +kernel
theorem zj_119_2 {S : zSs} {D n u : Nat} {sh : zk_S} {d : zm_D} {Q : ((Option zv_V) ⊕ Nat) → Nat → zk_S → zm_D → Nat → Prop} {L : zN} {st : List zv_V} : zJ S D 119 2 L st n sh d u Q ↔ zB S D 119 zb_119_2 L st n sh d u Q := by unfold zJ; rw [zc_119_2]
theorem zn_119 : znl 119 = 4 := by decide +kernel
theorem ze_119 {S : zSs} {D n u : Nat} {sh : zk_S} {d : zm_D} {Q : ((Option zv_V) ⊕ Nat) → Nat → zk_S → zm_D → Nat → Prop} {x0 : Int} {x1 : Int} {x2 : Int} : zE S D 119 [zv_a x0, zv_i x1, zv_i x2] n sh d u Q ↔ zB S D 119 zb_119_0 [some (zv_a x0), some (zv_i x1), some (zv_i x2), none] [] n sh d u Q := by
  unfold zE; rw [zn_119, zc_119_0]; exact ⟨fun h => h.2, fun h => ⟨Nat.le_of_ble_eq_true rfl, h⟩⟩
theorem ze_119s {S : zSs} {D n u : Nat} {sh : zk_S} {d : zm_D} {Q : ((Option zv_V) ⊕ Nat) → Nat → zk_S → zm_D → Nat → Prop} {x0 : Int} {x1 : Int} : zE S D 119 [zv_i x0, zv_i x1] n sh d u Q ↔ zB S D 119 zb_119_0 [some (zv_i x0), some (zv_i x1), none, none] [] n sh d u Q := by
  unfold zE; rw [zn_119, zc_119_0]; exact ⟨fun h => h.2, fun h => ⟨Nat.le_of_ble_eq_true rfl, h⟩⟩
theorem zh_119 : zhl 119 = [] := by decide +kernel
theorem zc_120_0 : zcd 120 0 = zb_120_0 := by decide +kernel
theorem zj_120_0 {S : zSs} {D n u : Nat} {sh : zk_S} {d : zm_D} {Q : ((Option zv_V) ⊕ Nat) → Nat → zk_S → zm_D → Nat → Prop} {L : zN} {st : List zv_V} : zJ S D 120 0 L st n sh d u Q ↔ zB S D 120 zb_120_0 L st n sh d u Q := by unfold zJ; rw [zc_120_0]
theorem zc_120_1 : zcd 120 1 = zb_120_1 := by decide +kernel
theorem zj_120_1 {S : zSs} {D n u : Nat} {sh : zk_S} {d : zm_D} {Q : ((Option zv_V) ⊕ Nat) → Nat → zk_S → zm_D → Nat → Prop} {L : zN} {st : List zv_V} : zJ S D 120 1 L st n sh d u Q ↔ zB S D 120 zb_120_1 L st n sh d u Q := by unfold zJ; rw [zc_120_1]
theorem zn_120 : znl 120 = 4 := by decide +kernel
theorem ze_120 {S : zSs} {D n u : Nat} {sh : zk_S} {d : zm_D} {Q : ((Option zv_V) ⊕ Nat) → Nat → zk_S → zm_D → Nat → Prop} {x0 : Int} {x1 : Int} {x2 : Int} : zE S D 120 [zv_a x0, zv_i x1, zv_i x2] n sh d u Q ↔ zB S D 120 zb_120_0 [some (zv_a x0), some (zv_i x1), some (zv_i x2), none] [] n sh d u Q := by
  unfold zE; rw [zn_120, zc_120_0]; exact ⟨fun h => h.2, fun h => ⟨Nat.le_of_ble_eq_true rfl, h⟩⟩
theorem ze_120s {S : zSs} {D n u : Nat} {sh : zk_S} {d : zm_D} {Q : ((Option zv_V) ⊕ Nat) → Nat → zk_S → zm_D → Nat → Prop} {x0 : Int} {x1 : Int} : zE S D 120 [zv_i x0, zv_i x1] n sh d u Q ↔ zB S D 120 zb_120_0 [some (zv_i x0), some (zv_i x1), none, none] [] n sh d u Q := by
  unfold zE; rw [zn_120, zc_120_0]; exact ⟨fun h => h.2, fun h => ⟨Nat.le_of_ble_eq_true rfl, h⟩⟩
theorem zh_120 : zhl 120 = [] := by decide +kernel
theorem zc_121_0 : zcd 121 0 = zb_121_0 := by decide +kernel
theorem zj_121_0 {S : zSs} {D n u : Nat} {sh : zk_S} {d : zm_D} {Q : ((Option zv_V) ⊕ Nat) → Nat → zk_S → zm_D → Nat → Prop} {L : zN} {st : List zv_V} : zJ S D 121 0 L st n sh d u Q ↔ zB S D 121 zb_121_0 L st n sh d u Q := by unfold zJ; rw [zc_121_0]
theorem zn_121 : znl 121 = 4 := by decide +kernel
theorem ze_121 {S : zSs} {D n u : Nat} {sh : zk_S} {d : zm_D} {Q : ((Option zv_V) ⊕ Nat) → Nat → zk_S → zm_D → Nat → Prop} {x0 : Int} {x1 : Int} {x2 : Int} : zE S D 121 [zv_a x0, zv_i x1, zv_i x2] n sh d u Q ↔ zB S D 121 zb_121_0 [some (zv_a x0), some (zv_i x1), some (zv_i x2), none] [] n sh d u Q := by
  unfold zE; rw [zn_121, zc_121_0]; exact ⟨fun h => h.2, fun h => ⟨Nat.le_of_ble_eq_true rfl, h⟩⟩
theorem ze_121s {S : zSs} {D n u : Nat} {sh : zk_S} {d : zm_D} {Q : ((Option zv_V) ⊕ Nat) → Nat → zk_S → zm_D → Nat → Prop} {x0 : Int} {x1 : Int} : zE S D 121 [zv_i x0, zv_i x1] n sh d u Q ↔ zB S D 121 zb_121_0 [some (zv_i x0), some (zv_i x1), none, none] [] n sh d u Q := by
  unfold zE; rw [zn_121, zc_121_0]; exact ⟨fun h => h.2, fun h => ⟨Nat.le_of_ble_eq_true rfl, h⟩⟩
theorem zh_121 : zhl 121 = [] := by decide +kernel
theorem zc_122_0 : zcd 122 0 = zb_122_0 := by decide +kernel
theorem zj_122_0 {S : zSs} {D n u : Nat} {sh : zk_S} {d : zm_D} {Q : ((Option zv_V) ⊕ Nat) → Nat → zk_S → zm_D → Nat → Prop} {L : zN} {st : List zv_V} : zJ S D 122 0 L st n sh d u Q ↔ zB S D 122 zb_122_0 L st n sh d u Q := by unfold zJ; rw [zc_122_0]
theorem zc_122_1 : zcd 122 1 = zb_122_1 := by decide +kernel
theorem zj_122_1 {S : zSs} {D n u : Nat} {sh : zk_S} {d : zm_D} {Q : ((Option zv_V) ⊕ Nat) → Nat → zk_S → zm_D → Nat → Prop} {L : zN} {st : List zv_V} : zJ S D 122 1 L st n sh d u Q ↔ zB S D 122 zb_122_1 L st n sh d u Q := by unfold zJ; rw [zc_122_1]
theorem zc_122_2 : zcd 122 2 = zb_122_2 := by decide +kernel
theorem zj_122_2 {S : zSs} {D n u : Nat} {sh : zk_S} {d : zm_D} {Q : ((Option zv_V) ⊕ Nat) → Nat → zk_S → zm_D → Nat → Prop} {L : zN} {st : List zv_V} : zJ S D 122 2 L st n sh d u Q ↔ zB S D 122 zb_122_2 L st n sh d u Q := by unfold zJ; rw [zc_122_2]
theorem zn_122 : znl 122 = 5 := by decide +kernel
theorem ze_122 {S : zSs} {D n u : Nat} {sh : zk_S} {d : zm_D} {Q : ((Option zv_V) ⊕ Nat) → Nat → zk_S → zm_D → Nat → Prop} {x0 : Int} {x1 : Int} {x2 : Int} : zE S D 122 [zv_a x0, zv_i x1, zv_i x2] n sh d u Q ↔ zB S D 122 zb_122_0 [some (zv_a x0), some (zv_i x1), some (zv_i x2), none, none] [] n sh d u Q := by
  unfold zE; rw [zn_122, zc_122_0]; exact ⟨fun h => h.2, fun h => ⟨Nat.le_of_ble_eq_true rfl, h⟩⟩
theorem ze_122s {S : zSs} {D n u : Nat} {sh : zk_S} {d : zm_D} {Q : ((Option zv_V) ⊕ Nat) → Nat → zk_S → zm_D → Nat → Prop} {x0 : Int} {x1 : Int} : zE S D 122 [zv_i x0, zv_i x1] n sh d u Q ↔ zB S D 122 zb_122_0 [some (zv_i x0), some (zv_i x1), none, none, none] [] n sh d u Q := by
  unfold zE; rw [zn_122, zc_122_0]; exact ⟨fun h => h.2, fun h => ⟨Nat.le_of_ble_eq_true rfl, h⟩⟩
theorem zh_122 : zhl 122 = [] := by decide +kernel
theorem zc_123_0 : zcd 123 0 = zb_123_0 := by decide +kernel
theorem zj_123_0 {S : zSs} {D n u : Nat} {sh : zk_S} {d : zm_D} {Q : ((Option zv_V) ⊕ Nat) → Nat → zk_S → zm_D → Nat → Prop} {L : zN} {st : List zv_V} : zJ S D 123 0 L st n sh d u Q ↔ zB S D 123 zb_123_0 L st n sh d u Q := by unfold zJ; rw [zc_123_0]
theorem zc_123_1 : zcd 123 1 = zb_123_1 := by decide +kernel
theorem zj_123_1 {S : zSs} {D n u : Nat} {sh : zk_S} {d : zm_D} {Q : ((Option zv_V) ⊕ Nat) → Nat → zk_S → zm_D → Nat → Prop} {L : zN} {st : List zv_V} : zJ S D 123 1 L st n sh d u Q ↔ zB S D 123 zb_123_1 L st n sh d u Q := by unfold zJ; rw [zc_123_1]
theorem zc_123_2 : zcd 123 2 = zb_123_2 := by decide +kernel
theorem zj_123_2 {S : zSs} {D n u : Nat} {sh : zk_S} {d : zm_D} {Q : ((Option zv_V) ⊕ Nat) → Nat → zk_S → zm_D → Nat → Prop} {L : zN} {st : List zv_V} : zJ S D 123 2 L st n sh d u Q ↔ zB S D 123 zb_123_2 L st n sh d u Q := by unfold zJ; rw [zc_123_2]
theorem zc_123_3 : zcd 123 3 = zb_123_3 := by decide +kernel
theorem zj_123_3 {S : zSs} {D n u : Nat} {sh : zk_S} {d : zm_D} {Q : ((Option zv_V) ⊕ Nat) → Nat → zk_S → zm_D → Nat → Prop} {L : zN} {st : List zv_V} : zJ S D 123 3 L st n sh d u Q ↔ zB S D 123 zb_123_3 L st n sh d u Q := by unfold zJ; rw [zc_123_3]
theorem zc_123_4 : zcd 123 4 = zb_123_4 := by decide +kernel
theorem zj_123_4 {S : zSs} {D n u : Nat} {sh : zk_S} {d : zm_D} {Q : ((Option zv_V) ⊕ Nat) → Nat → zk_S → zm_D → Nat → Prop} {L : zN} {st : List zv_V} : zJ S D 123 4 L st n sh d u Q ↔ zB S D 123 zb_123_4 L st n sh d u Q := by unfold zJ; rw [zc_123_4]
theorem zc_123_5 : zcd 123 5 = zb_123_5 := by decide +kernel
theorem zj_123_5 {S : zSs} {D n u : Nat} {sh : zk_S} {d : zm_D} {Q : ((Option zv_V) ⊕ Nat) → Nat → zk_S → zm_D → Nat → Prop} {L : zN} {st : List zv_V} : zJ S D 123 5 L st n sh d u Q ↔ zB S D 123 zb_123_5 L st n sh d u Q := by unfold zJ; rw [zc_123_5]
theorem zc_123_6 : zcd 123 6 = zb_123_6 := by decide +kernel
theorem zj_123_6 {S : zSs} {D n u : Nat} {sh : zk_S} {d : zm_D} {Q : ((Option zv_V) ⊕ Nat) → Nat → zk_S → zm_D → Nat → Prop} {L : zN} {st : List zv_V} : zJ S D 123 6 L st n sh d u Q ↔ zB S D 123 zb_123_6 L st n sh d u Q := by unfold zJ; rw [zc_123_6]
theorem zn_123 : znl 123 = 7 := by decide +kernel
theorem ze_123 {S : zSs} {D n u : Nat} {sh : zk_S} {d : zm_D} {Q : ((Option zv_V) ⊕ Nat) → Nat → zk_S → zm_D → Nat → Prop} {x0 : Int} {x1 : Int} : zE S D 123 [zv_a x0, zv_i x1] n sh d u Q ↔ zB S D 123 zb_123_0 [some (zv_a x0), some (zv_i x1), none, none, none, none, none] [] n sh d u Q := by
  unfold zE; rw [zn_123, zc_123_0]; exact ⟨fun h => h.2, fun h => ⟨Nat.le_of_ble_eq_true rfl, h⟩⟩
theorem ze_123s {S : zSs} {D n u : Nat} {sh : zk_S} {d : zm_D} {Q : ((Option zv_V) ⊕ Nat) → Nat → zk_S → zm_D → Nat → Prop} {x0 : Int} : zE S D 123 [zv_i x0] n sh d u Q ↔ zB S D 123 zb_123_0 [some (zv_i x0), none, none, none, none, none, none] [] n sh d u Q := by
  unfold zE; rw [zn_123, zc_123_0]; exact ⟨fun h => h.2, fun h => ⟨Nat.le_of_ble_eq_true rfl, h⟩⟩
theorem zh_123 : zhl 123 = [] := by decide +kernel
theorem zc_124_0 : zcd 124 0 = zb_124_0 := by decide +kernel
theorem zj_124_0 {S : zSs} {D n u : Nat} {sh : zk_S} {d : zm_D} {Q : ((Option zv_V) ⊕ Nat) → Nat → zk_S → zm_D → Nat → Prop} {L : zN} {st : List zv_V} : zJ S D 124 0 L st n sh d u Q ↔ zB S D 124 zb_124_0 L st n sh d u Q := by unfold zJ; rw [zc_124_0]
theorem zc_124_1 : zcd 124 1 = zb_124_1 := by decide +kernel
theorem zj_124_1 {S : zSs} {D n u : Nat} {sh : zk_S} {d : zm_D} {Q : ((Option zv_V) ⊕ Nat) → Nat → zk_S → zm_D → Nat → Prop} {L : zN} {st : List zv_V} : zJ S D 124 1 L st n sh d u Q ↔ zB S D 124 zb_124_1 L st n sh d u Q := by unfold zJ; rw [zc_124_1]
theorem zn_124 : znl 124 = 4 := by decide +kernel
theorem ze_124 {S : zSs} {D n u : Nat} {sh : zk_S} {d : zm_D} {Q : ((Option zv_V) ⊕ Nat) → Nat → zk_S → zm_D → Nat → Prop} {x0 : Int} {x1 : Int} {x2 : Int} : zE S D 124 [zv_a x0, zv_i x1, zv_i x2] n sh d u Q ↔ zB S D 124 zb_124_0 [some (zv_a x0), some (zv_i x1), some (zv_i x2), none] [] n sh d u Q := by
  unfold zE; rw [zn_124, zc_124_0]; exact ⟨fun h => h.2, fun h => ⟨Nat.le_of_ble_eq_true rfl, h⟩⟩
theorem ze_124s {S : zSs} {D n u : Nat} {sh : zk_S} {d : zm_D} {Q : ((Option zv_V) ⊕ Nat) → Nat → zk_S → zm_D → Nat → Prop} {x0 : Int} {x1 : Int} : zE S D 124 [zv_i x0, zv_i x1] n sh d u Q ↔ zB S D 124 zb_124_0 [some (zv_i x0), some (zv_i x1), none, none] [] n sh d u Q := by
  unfold zE; rw [zn_124, zc_124_0]; exact ⟨fun h => h.2, fun h => ⟨Nat.le_of_ble_eq_true rfl, h⟩⟩
theorem zh_124 : zhl 124 = [] := by decide +kernel
theorem zc_125_0 : zcd 125 0 = zb_125_0 := by decide +kernel
theorem zj_125_0 {S : zSs} {D n u : Nat} {sh : zk_S} {d : zm_D} {Q : ((Option zv_V) ⊕ Nat) → Nat → zk_S → zm_D → Nat → Prop} {L : zN} {st : List zv_V} : zJ S D 125 0 L st n sh d u Q ↔ zB S D 125 zb_125_0 L st n sh d u Q := by unfold zJ; rw [zc_125_0]
theorem zc_125_1 : zcd 125 1 = zb_125_1 := by decide +kernel
theorem zj_125_1 {S : zSs} {D n u : Nat} {sh : zk_S} {d : zm_D} {Q : ((Option zv_V) ⊕ Nat) → Nat → zk_S → zm_D → Nat → Prop} {L : zN} {st : List zv_V} : zJ S D 125 1 L st n sh d u Q ↔ zB S D 125 zb_125_1 L st n sh d u Q := by unfold zJ; rw [zc_125_1]
theorem zn_125 : znl 125 = 4 := by decide +kernel
theorem ze_125 {S : zSs} {D n u : Nat} {sh : zk_S} {d : zm_D} {Q : ((Option zv_V) ⊕ Nat) → Nat → zk_S → zm_D → Nat → Prop} {x0 : Int} {x1 : Int} {x2 : Int} : zE S D 125 [zv_a x0, zv_i x1, zv_i x2] n sh d u Q ↔ zB S D 125 zb_125_0 [some (zv_a x0), some (zv_i x1), some (zv_i x2), none] [] n sh d u Q := by
  unfold zE; rw [zn_125, zc_125_0]; exact ⟨fun h => h.2, fun h => ⟨Nat.le_of_ble_eq_true rfl, h⟩⟩
theorem ze_125s {S : zSs} {D n u : Nat} {sh : zk_S} {d : zm_D} {Q : ((Option zv_V) ⊕ Nat) → Nat → zk_S → zm_D → Nat → Prop} {x0 : Int} {x1 : Int} : zE S D 125 [zv_i x0, zv_i x1] n sh d u Q ↔ zB S D 125 zb_125_0 [some (zv_i x0), some (zv_i x1), none, none] [] n sh d u Q := by
  unfold zE; rw [zn_125, zc_125_0]; exact ⟨fun h => h.2, fun h => ⟨Nat.le_of_ble_eq_true rfl, h⟩⟩
theorem zh_125 : zhl 125 = [] := by decide +kernel
theorem zc_126_0 : zcd 126 0 = zb_126_0 := by decide +kernel
theorem zj_126_0 {S : zSs} {D n u : Nat} {sh : zk_S} {d : zm_D} {Q : ((Option zv_V) ⊕ Nat) → Nat → zk_S → zm_D → Nat → Prop} {L : zN} {st : List zv_V} : zJ S D 126 0 L st n sh d u Q ↔ zB S D 126 zb_126_0 L st n sh d u Q := by unfold zJ; rw [zc_126_0]
theorem zc_126_1 : zcd 126 1 = zb_126_1 := by decide +kernel
theorem zj_126_1 {S : zSs} {D n u : Nat} {sh : zk_S} {d : zm_D} {Q : ((Option zv_V) ⊕ Nat) → Nat → zk_S → zm_D → Nat → Prop} {L : zN} {st : List zv_V} : zJ S D 126 1 L st n sh d u Q ↔ zB S D 126 zb_126_1 L st n sh d u Q := by unfold zJ; rw [zc_126_1]
theorem zc_126_2 : zcd 126 2 = zb_126_2 := by decide +kernel
theorem zj_126_2 {S : zSs} {D n u : Nat} {sh : zk_S} {d : zm_D} {Q : ((Option zv_V) ⊕ Nat) → Nat → zk_S → zm_D → Nat → Prop} {L : zN} {st : List zv_V} : zJ S D 126 2 L st n sh d u Q ↔ zB S D 126 zb_126_2 L st n sh d u Q := by unfold zJ; rw [zc_126_2]
theorem zn_126 : znl 126 = 6 := by decide +kernel
theorem ze_126 {S : zSs} {D n u : Nat} {sh : zk_S} {d : zm_D} {Q : ((Option zv_V) ⊕ Nat) → Nat → zk_S → zm_D → Nat → Prop} {x0 : Int} : zE S D 126 [zv_a x0] n sh d u Q ↔ zB S D 126 zb_126_0 [some (zv_a x0), none, none, none, none, none] [] n sh d u Q := by
  unfold zE; rw [zn_126, zc_126_0]; exact ⟨fun h => h.2, fun h => ⟨Nat.le_of_ble_eq_true rfl, h⟩⟩
theorem ze_126s {S : zSs} {D n u : Nat} {sh : zk_S} {d : zm_D} {Q : ((Option zv_V) ⊕ Nat) → Nat → zk_S → zm_D → Nat → Prop} : zE S D 126 [] n sh d u Q ↔ zB S D 126 zb_126_0 [none, none, none, none, none, none] [] n sh d u Q := by
  unfold zE; rw [zn_126, zc_126_0]; exact ⟨fun h => h.2, fun h => ⟨Nat.le_of_ble_eq_true rfl, h⟩⟩
theorem zh_126 : zhl 126 = [] := by decide +kernel
theorem zc_127_0 : zcd 127 0 = zb_127_0 := by decide +kernel
theorem zj_127_0 {S : zSs} {D n u : Nat} {sh : zk_S} {d : zm_D} {Q : ((Option zv_V) ⊕ Nat) → Nat → zk_S → zm_D → Nat → Prop} {L : zN} {st : List zv_V} : zJ S D 127 0 L st n sh d u Q ↔ zB S D 127 zb_127_0 L st n sh d u Q := by unfold zJ; rw [zc_127_0]
theorem zn_127 : znl 127 = 2 := by decide +kernel
theorem ze_127 {S : zSs} {D n u : Nat} {sh : zk_S} {d : zm_D} {Q : ((Option zv_V) ⊕ Nat) → Nat → zk_S → zm_D → Nat → Prop} {x0 : Int} {x1 : Int} : zE S D 127 [zv_a x0, zv_i x1] n sh d u Q ↔ zB S D 127 zb_127_0 [some (zv_a x0), some (zv_i x1)] [] n sh d u Q := by
  unfold zE; rw [zn_127, zc_127_0]; exact ⟨fun h => h.2, fun h => ⟨Nat.le_of_ble_eq_true rfl, h⟩⟩
theorem ze_127s {S : zSs} {D n u : Nat} {sh : zk_S} {d : zm_D} {Q : ((Option zv_V) ⊕ Nat) → Nat → zk_S → zm_D → Nat → Prop} {x0 : Int} : zE S D 127 [zv_i x0] n sh d u Q ↔ zB S D 127 zb_127_0 [some (zv_i x0), none] [] n sh d u Q := by
  unfold zE; rw [zn_127, zc_127_0]; exact ⟨fun h => h.2, fun h => ⟨Nat.le_of_ble_eq_true rfl, h⟩⟩
theorem zh_127 : zhl 127 = [] := by decide +kernel
theorem zc_128_0 : zcd 128 0 = zb_128_0 := by decide +kernel
theorem zj_128_0 {S : zSs} {D n u : Nat} {sh : zk_S} {d : zm_D} {Q : ((Option zv_V) ⊕ Nat) → Nat → zk_S → zm_D → Nat → Prop} {L : zN} {st : List zv_V} : zJ S D 128 0 L st n sh d u Q ↔ zB S D 128 zb_128_0 L st n sh d u Q := by unfold zJ; rw [zc_128_0]
theorem zc_128_1 : zcd 128 1 = zb_128_1 := by decide +kernel
theorem zj_128_1 {S : zSs} {D n u : Nat} {sh : zk_S} {d : zm_D} {Q : ((Option zv_V) ⊕ Nat) → Nat → zk_S → zm_D → Nat → Prop} {L : zN} {st : List zv_V} : zJ S D 128 1 L st n sh d u Q ↔ zB S D 128 zb_128_1 L st n sh d u Q := by unfold zJ; rw [zc_128_1]
theorem zn_128 : znl 128 = 3 := by decide +kernel
theorem ze_128 {S : zSs} {D n u : Nat} {sh : zk_S} {d : zm_D} {Q : ((Option zv_V) ⊕ Nat) → Nat → zk_S → zm_D → Nat → Prop} {x0 : Int} {x1 : Int} {x2 : Int} : zE S D 128 [zv_a x0, zv_i x1, zv_i x2] n sh d u Q ↔ zB S D 128 zb_128_0 [some (zv_a x0), some (zv_i x1), some (zv_i x2)] [] n sh d u Q := by
  unfold zE; rw [zn_128, zc_128_0]; exact ⟨fun h => h.2, fun h => ⟨Nat.le_of_ble_eq_true rfl, h⟩⟩
theorem ze_128s {S : zSs} {D n u : Nat} {sh : zk_S} {d : zm_D} {Q : ((Option zv_V) ⊕ Nat) → Nat → zk_S → zm_D → Nat → Prop} {x0 : Int} {x1 : Int} : zE S D 128 [zv_i x0, zv_i x1] n sh d u Q ↔ zB S D 128 zb_128_0 [some (zv_i x0), some (zv_i x1), none] [] n sh d u Q := by
  unfold zE; rw [zn_128, zc_128_0]; exact ⟨fun h => h.2, fun h => ⟨Nat.le_of_ble_eq_true rfl, h⟩⟩
theorem zh_128 : zhl 128 = [] := by decide +kernel
theorem zc_129_0 : zcd 129 0 = zb_129_0 := by decide +kernel
theorem zj_129_0 {S : zSs} {D n u : Nat} {sh : zk_S} {d : zm_D} {Q : ((Option zv_V) ⊕ Nat) → Nat → zk_S → zm_D → Nat → Prop} {L : zN} {st : List zv_V} : zJ S D 129 0 L st n sh d u Q ↔ zB S D 129 zb_129_0 L st n sh d u Q := by unfold zJ; rw [zc_129_0]
theorem zn_129 : znl 129 = 2 := by decide +kernel
theorem ze_129 {S : zSs} {D n u : Nat} {sh : zk_S} {d : zm_D} {Q : ((Option zv_V) ⊕ Nat) → Nat → zk_S → zm_D → Nat → Prop} {x0 : Int} {x1 : Int} : zE S D 129 [zv_a x0, zv_i x1] n sh d u Q ↔ zB S D 129 zb_129_0 [some (zv_a x0), some (zv_i x1)] [] n sh d u Q := by
  unfold zE; rw [zn_129, zc_129_0]; exact ⟨fun h => h.2, fun h => ⟨Nat.le_of_ble_eq_true rfl, h⟩⟩
theorem ze_129s {S : zSs} {D n u : Nat} {sh : zk_S} {d : zm_D} {Q : ((Option zv_V) ⊕ Nat) → Nat → zk_S → zm_D → Nat → Prop} {x0 : Int} : zE S D 129 [zv_i x0] n sh d u Q ↔ zB S D 129 zb_129_0 [some (zv_i x0), none] [] n sh d u Q := by
  unfold zE; rw [zn_129, zc_129_0]; exact ⟨fun h => h.2, fun h => ⟨Nat.le_of_ble_eq_true rfl, h⟩⟩
theorem zh_129 : zhl 129 = [] := by decide +kernel
theorem zc_130_0 : zcd 130 0 = zb_130_0 := by decide +kernel
theorem zj_130_0 {S : zSs} {D n u : Nat} {sh : zk_S} {d : zm_D} {Q : ((Option zv_V) ⊕ Nat) → Nat → zk_S → zm_D → Nat → Prop} {L : zN} {st : List zv_V} : zJ S D 130 0 L st n sh d u Q ↔ zB S D 130 zb_130_0 L st n sh d u Q := by unfold zJ; rw [zc_130_0]
theorem zc_130_1 : zcd 130 1 = zb_130_1 := by decide +kernel
theorem zj_130_1 {S : zSs} {D n u : Nat} {sh : zk_S} {d : zm_D} {Q : ((Option zv_V) ⊕ Nat) → Nat → zk_S → zm_D → Nat → Prop} {L : zN} {st : List zv_V} : zJ S D 130 1 L st n sh d u Q ↔ zB S D 130 zb_130_1 L st n sh d u Q := by unfold zJ; rw [zc_130_1]
theorem zc_130_2 : zcd 130 2 = zb_130_2 := by decide +kernel
theorem zj_130_2 {S : zSs} {D n u : Nat} {sh : zk_S} {d : zm_D} {Q : ((Option zv_V) ⊕ Nat) → Nat → zk_S → zm_D → Nat → Prop} {L : zN} {st : List zv_V} : zJ S D 130 2 L st n sh d u Q ↔ zB S D 130 zb_130_2 L st n sh d u Q := by unfold zJ; rw [zc_130_2]
theorem zn_130 : znl 130 = 2 := by decide +kernel
theorem ze_130 {S : zSs} {D n u : Nat} {sh : zk_S} {d : zm_D} {Q : ((Option zv_V) ⊕ Nat) → Nat → zk_S → zm_D → Nat → Prop} {x0 : Int} {x1 : Int} : zE S D 130 [zv_a x0, zv_i x1] n sh d u Q ↔ zB S D 130 zb_130_0 [some (zv_a x0), some (zv_i x1)] [] n sh d u Q := by
  unfold zE; rw [zn_130, zc_130_0]; exact ⟨fun h => h.2, fun h => ⟨Nat.le_of_ble_eq_true rfl, h⟩⟩
theorem ze_130s {S : zSs} {D n u : Nat} {sh : zk_S} {d : zm_D} {Q : ((Option zv_V) ⊕ Nat) → Nat → zk_S → zm_D → Nat → Prop} {x0 : Int} : zE S D 130 [zv_i x0] n sh d u Q ↔ zB S D 130 zb_130_0 [some (zv_i x0), none] [] n sh d u Q := by
  unfold zE; rw [zn_130, zc_130_0]; exact ⟨fun h => h.2, fun h => ⟨Nat.le_of_ble_eq_true rfl, h⟩⟩
theorem zh_130 : zhl 130 = [] := by decide +kernel
theorem zc_131_0 : zcd 131 0 = zb_131_0 := by decide +kernel
theorem zj_131_0 {S : zSs} {D n u : Nat} {sh : zk_S} {d : zm_D} {Q : ((Option zv_V) ⊕ Nat) → Nat → zk_S → zm_D → Nat → Prop} {L : zN} {st : List zv_V} : zJ S D 131 0 L st n sh d u Q ↔ zB S D 131 zb_131_0 L st n sh d u Q := by unfold zJ; rw [zc_131_0]
theorem zc_131_1 : zcd 131 1 = zb_131_1 := by decide +kernel
theorem zj_131_1 {S : zSs} {D n u : Nat} {sh : zk_S} {d : zm_D} {Q : ((Option zv_V) ⊕ Nat) → Nat → zk_S → zm_D → Nat → Prop} {L : zN} {st : List zv_V} : zJ S D 131 1 L st n sh d u Q ↔ zB S D 131 zb_131_1 L st n sh d u Q := by unfold zJ; rw [zc_131_1]
theorem zn_131 : znl 131 = 2 := by decide +kernel
theorem ze_131 {S : zSs} {D n u : Nat} {sh : zk_S} {d : zm_D} {Q : ((Option zv_V) ⊕ Nat) → Nat → zk_S → zm_D → Nat → Prop} {x0 : Int} {x1 : Int} : zE S D 131 [zv_a x0, zv_i x1] n sh d u Q ↔ zB S D 131 zb_131_0 [some (zv_a x0), some (zv_i x1)] [] n sh d u Q := by
  unfold zE; rw [zn_131, zc_131_0]; exact ⟨fun h => h.2, fun h => ⟨Nat.le_of_ble_eq_true rfl, h⟩⟩
theorem ze_131s {S : zSs} {D n u : Nat} {sh : zk_S} {d : zm_D} {Q : ((Option zv_V) ⊕ Nat) → Nat → zk_S → zm_D → Nat → Prop} {x0 : Int} : zE S D 131 [zv_i x0] n sh d u Q ↔ zB S D 131 zb_131_0 [some (zv_i x0), none] [] n sh d u Q := by
  unfold zE; rw [zn_131, zc_131_0]; exact ⟨fun h => h.2, fun h => ⟨Nat.le_of_ble_eq_true rfl, h⟩⟩
theorem zh_131 : zhl 131 = [] := by decide +kernel
theorem zc_132_0 : zcd 132 0 = zb_132_0 := by decide +kernel
theorem zj_132_0 {S : zSs} {D n u : Nat} {sh : zk_S} {d : zm_D} {Q : ((Option zv_V) ⊕ Nat) → Nat → zk_S → zm_D → Nat → Prop} {L : zN} {st : List zv_V} : zJ S D 132 0 L st n sh d u Q ↔ zB S D 132 zb_132_0 L st n sh d u Q := by unfold zJ; rw [zc_132_0]
theorem zc_132_1 : zcd 132 1 = zb_132_1 := by decide +kernel
theorem zj_132_1 {S : zSs} {D n u : Nat} {sh : zk_S} {d : zm_D} {Q : ((Option zv_V) ⊕ Nat) → Nat → zk_S → zm_D → Nat → Prop} {L : zN} {st : List zv_V} : zJ S D 132 1 L st n sh d u Q ↔ zB S D 132 zb_132_1 L st n sh d u Q := by unfold zJ; rw [zc_132_1]
theorem zc_132_2 : zcd 132 2 = zb_132_2 := by decide +kernel
theorem zj_132_2 {S : zSs} {D n u : Nat} {sh : zk_S} {d : zm_D} {Q : ((Option zv_V) ⊕ Nat) → Nat → zk_S → zm_D → Nat → Prop} {L : zN} {st : List zv_V} : zJ S D 132 2 L st n sh d u Q ↔ zB S D 132 zb_132_2 L st n sh d u Q := by unfold zJ; rw [zc_132_2]
theorem zc_132_3 : zcd 132 3 = zb_132_3 := by decide +kernel
theorem zj_132_3 {S : zSs} {D n u : Nat} {sh : zk_S} {d : zm_D} {Q : ((Option zv_V) ⊕ Nat) → Nat → zk_S → zm_D → Nat → Prop} {L : zN} {st : List zv_V} : zJ S D 132 3 L st n sh d u Q ↔ zB S D 132 zb_132_3 L st n sh d u Q := by unfold zJ; rw [zc_132_3]
theorem zn_132 : znl 132 = 6 := by decide +kernel
theorem ze_132 {S : zSs} {D n u : Nat} {sh : zk_S} {d : zm_D} {Q : ((Option zv_V) ⊕ Nat) → Nat → zk_S → zm_D → Nat → Prop} {x0 : Int} {x1 : Int} {x2 : Int} {x3 : Int} : zE S D 132 [zv_a x0, zv_i x1, zv_i x2, zv_i x3] n sh d u Q ↔ zB S D 132 zb_132_0 [some (zv_a x0), some (zv_i x1), some (zv_i x2), some (zv_i x3), none, none] [] n sh d u Q := by
  unfold zE; rw [zn_132, zc_132_0]; exact ⟨fun h => h.2, fun h => ⟨Nat.le_of_ble_eq_true rfl, h⟩⟩
theorem ze_132s {S : zSs} {D n u : Nat} {sh : zk_S} {d : zm_D} {Q : ((Option zv_V) ⊕ Nat) → Nat → zk_S → zm_D → Nat → Prop} {x0 : Int} {x1 : Int} {x2 : Int} : zE S D 132 [zv_i x0, zv_i x1, zv_i x2] n sh d u Q ↔ zB S D 132 zb_132_0 [some (zv_i x0), some (zv_i x1), some (zv_i x2), none, none, none] [] n sh d u Q := by
  unfold zE; rw [zn_132, zc_132_0]; exact ⟨fun h => h.2, fun h => ⟨Nat.le_of_ble_eq_true rfl, h⟩⟩
theorem zh_132 : zhl 132 = [] := by decide +kernel
theorem zc_133_0 : zcd 133 0 = zb_133_0 := by decide +kernel
theorem zj_133_0 {S : zSs} {D n u : Nat} {sh : zk_S} {d : zm_D} {Q : ((Option zv_V) ⊕ Nat) → Nat → zk_S → zm_D → Nat → Prop} {L : zN} {st : List zv_V} : zJ S D 133 0 L st n sh d u Q ↔ zB S D 133 zb_133_0 L st n sh d u Q := by unfold zJ; rw [zc_133_0]
theorem zc_133_1 : zcd 133 1 = zb_133_1 := by decide +kernel
theorem zj_133_1 {S : zSs} {D n u : Nat} {sh : zk_S} {d : zm_D} {Q : ((Option zv_V) ⊕ Nat) → Nat → zk_S → zm_D → Nat → Prop} {L : zN} {st : List zv_V} : zJ S D 133 1 L st n sh d u Q ↔ zB S D 133 zb_133_1 L st n sh d u Q := by unfold zJ; rw [zc_133_1]
theorem zc_133_2 : zcd 133 2 = zb_133_2 := by decide +kernel
theorem zj_133_2 {S : zSs} {D n u : Nat} {sh : zk_S} {d : zm_D} {Q : ((Option zv_V) ⊕ Nat) → Nat → zk_S → zm_D → Nat → Prop} {L : zN} {st : List zv_V} : zJ S D 133 2 L st n sh d u Q ↔ zB S D 133 zb_133_2 L st n sh d u Q := by unfold zJ; rw [zc_133_2]
theorem zn_133 : znl 133 = 2 := by decide +kernel
theorem ze_133 {S : zSs} {D n u : Nat} {sh : zk_S} {d : zm_D} {Q : ((Option zv_V) ⊕ Nat) → Nat → zk_S → zm_D → Nat → Prop} {x0 : Int} : zE S D 133 [zv_a x0] n sh d u Q ↔ zB S D 133 zb_133_0 [some (zv_a x0), none] [] n sh d u Q := by
  unfold zE; rw [zn_133, zc_133_0]; exact ⟨fun h => h.2, fun h => ⟨Nat.le_of_ble_eq_true rfl, h⟩⟩
theorem ze_133s {S : zSs} {D n u : Nat} {sh : zk_S} {d : zm_D} {Q : ((Option zv_V) ⊕ Nat) → Nat → zk_S → zm_D → Nat → Prop} : zE S D 133 [] n sh d u Q ↔ zB S D 133 zb_133_0 [none, none] [] n sh d u Q := by
  unfold zE; rw [zn_133, zc_133_0]; exact ⟨fun h => h.2, fun h => ⟨Nat.le_of_ble_eq_true rfl, h⟩⟩
theorem zh_133 : zhl 133 = [] := by decide +kernel
theorem zc_134_0 : zcd 134 0 = zb_134_0 := by decide +kernel
theorem zj_134_0 {S : zSs} {D n u : Nat} {sh : zk_S} {d : zm_D} {Q : ((Option zv_V) ⊕ Nat) → Nat → zk_S → zm_D → Nat → Prop} {L : zN} {st : List zv_V} : zJ S D 134 0 L st n sh d u Q ↔ zB S D 134 zb_134_0 L st n sh d u Q := by unfold zJ; rw [zc_134_0]
theorem zn_134 : znl 134 = 4 := by decide +kernel
theorem ze_134 {S : zSs} {D n u : Nat} {sh : zk_S} {d : zm_D} {Q : ((Option zv_V) ⊕ Nat) → Nat → zk_S → zm_D → Nat → Prop} {x0 : Int} {x1 : Int} : zE S D 134 [zv_a x0, zv_i x1] n sh d u Q ↔ zB S D 134 zb_134_0 [some (zv_a x0), some (zv_i x1), none, none] [] n sh d u Q := by
  unfold zE; rw [zn_134, zc_134_0]; exact ⟨fun h => h.2, fun h => ⟨Nat.le_of_ble_eq_true rfl, h⟩⟩
theorem ze_134s {S : zSs} {D n u : Nat} {sh : zk_S} {d : zm_D} {Q : ((Option zv_V) ⊕ Nat) → Nat → zk_S → zm_D → Nat → Prop} {x0 : Int} : zE S D 134 [zv_i x0] n sh d u Q ↔ zB S D 134 zb_134_0 [some (zv_i x0), none, none, none] [] n sh d u Q := by
  unfold zE; rw [zn_134, zc_134_0]; exact ⟨fun h => h.2, fun h => ⟨Nat.le_of_ble_eq_true rfl, h⟩⟩
theorem zh_134 : zhl 134 = [] := by decide +kernel
theorem zc_135_0 : zcd 135 0 = zb_135_0 := by decide +kernel
theorem zj_135_0 {S : zSs} {D n u : Nat} {sh : zk_S} {d : zm_D} {Q : ((Option zv_V) ⊕ Nat) → Nat → zk_S → zm_D → Nat → Prop} {L : zN} {st : List zv_V} : zJ S D 135 0 L st n sh d u Q ↔ zB S D 135 zb_135_0 L st n sh d u Q := by unfold zJ; rw [zc_135_0]
theorem zn_135 : znl 135 = 3 := by decide +kernel
theorem ze_135 {S : zSs} {D n u : Nat} {sh : zk_S} {d : zm_D} {Q : ((Option zv_V) ⊕ Nat) → Nat → zk_S → zm_D → Nat → Prop} {x0 : Int} {x1 : Int} : zE S D 135 [zv_a x0, zv_i x1] n sh d u Q ↔ zB S D 135 zb_135_0 [some (zv_a x0), some (zv_i x1), none] [] n sh d u Q := by
  unfold zE; rw [zn_135, zc_135_0]; exact ⟨fun h => h.2, fun h => ⟨Nat.le_of_ble_eq_true rfl, h⟩⟩
theorem ze_135s {S : zSs} {D n u : Nat} {sh : zk_S} {d : zm_D} {Q : ((Option zv_V) ⊕ Nat) → Nat → zk_S → zm_D → Nat → Prop} {x0 : Int} : zE S D 135 [zv_i x0] n sh d u Q ↔ zB S D 135 zb_135_0 [some (zv_i x0), none, none] [] n sh d u Q := by
  unfold zE; rw [zn_135, zc_135_0]; exact ⟨fun h => h.2, fun h => ⟨Nat.le_of_ble_eq_true rfl, h⟩⟩
theorem zh_135 : zhl 135 = [] := by decide +kernel
theorem zc_136_0 : zcd 136 0 = zb_136_0 := by decide +kernel
theorem zj_136_0 {S : zSs} {D n u : Nat} {sh : zk_S} {d : zm_D} {Q : ((Option zv_V) ⊕ Nat) → Nat → zk_S → zm_D → Nat → Prop} {L : zN} {st : List zv_V} : zJ S D 136 0 L st n sh d u Q ↔ zB S D 136 zb_136_0 L st n sh d u Q := by unfold zJ; rw [zc_136_0]
theorem zc_136_1 : zcd 136 1 = zb_136_1 := by decide +kernel
theorem zj_136_1 {S : zSs} {D n u : Nat} {sh : zk_S} {d : zm_D} {Q : ((Option zv_V) ⊕ Nat) → Nat → zk_S → zm_D → Nat → Prop} {L : zN} {st : List zv_V} : zJ S D 136 1 L st n sh d u Q ↔ zB S D 136 zb_136_1 L st n sh d u Q := by unfold zJ; rw [zc_136_1]
theorem zc_136_2 : zcd 136 2 = zb_136_2 := by decide +kernel
theorem zj_136_2 {S : zSs} {D n u : Nat} {sh : zk_S} {d : zm_D} {Q : ((Option zv_V) ⊕ Nat) → Nat → zk_S → zm_D → Nat → Prop} {L : zN} {st : List zv_V} : zJ S D 136 2 L st n sh d u Q ↔ zB S D 136 zb_136_2 L st n sh d u Q := by unfold zJ; rw [zc_136_2]
theorem zn_136 : znl 136 = 6 := by decide +kernel
theorem ze_136 {S : zSs} {D n u : Nat} {sh : zk_S} {d : zm_D} {Q : ((Option zv_V) ⊕ Nat) → Nat → zk_S → zm_D → Nat → Prop} {x0 : Int} {x1 : Int} : zE S D 136 [zv_a x0, zv_i x1] n sh d u Q ↔ zB S D 136 zb_136_0 [some (zv_a x0), some (zv_i x1), none, none, none, none] [] n sh d u Q := by
  unfold zE; rw [zn_136, zc_136_0]; exact ⟨fun h => h.2, fun h => ⟨Nat.le_of_ble_eq_true rfl, h⟩⟩
theorem ze_136s {S : zSs} {D n u : Nat} {sh : zk_S} {d : zm_D} {Q : ((Option zv_V) ⊕ Nat) → Nat → zk_S → zm_D → Nat → Prop} {x0 : Int} : zE S D 136 [zv_i x0] n sh d u Q ↔ zB S D 136 zb_136_0 [some (zv_i x0), none, none, none, none, none] [] n sh d u Q := by
  unfold zE; rw [zn_136, zc_136_0]; exact ⟨fun h => h.2, fun h => ⟨Nat.le_of_ble_eq_true rfl, h⟩⟩
theorem zh_136 : zhl 136 = [] := by decide +kernel
theorem zc_137_0 : zcd 137 0 = zb_137_0 := by decide +kernel
theorem zj_137_0 {S : zSs} {D n u : Nat} {sh : zk_S} {d : zm_D} {Q : ((Option zv_V) ⊕ Nat) → Nat → zk_S → zm_D → Nat → Prop} {L : zN} {st : List zv_V} : zJ S D 137 0 L st n sh d u Q ↔ zB S D 137 zb_137_0 L st n sh d u Q := by unfold zJ; rw [zc_137_0]
theorem zc_137_1 : zcd 137 1 = zb_137_1 := by decide +kernel
theorem zj_137_1 {S : zSs} {D n u : Nat} {sh : zk_S} {d : zm_D} {Q : ((Option zv_V) ⊕ Nat) → Nat → zk_S → zm_D → Nat → Prop} {L : zN} {st : List zv_V} : zJ S D 137 1 L st n sh d u Q ↔ zB S D 137 zb_137_1 L st n sh d u Q := by unfold zJ; rw [zc_137_1]
theorem zc_137_2 : zcd 137 2 = zb_137_2 := by decide +kernel
theorem zj_137_2 {S : zSs} {D n u : Nat} {sh : zk_S} {d : zm_D} {Q : ((Option zv_V) ⊕ Nat) → Nat → zk_S → zm_D → Nat → Prop} {L : zN} {st : List zv_V} : zJ S D 137 2 L st n sh d u Q ↔ zB S D 137 zb_137_2 L st n sh d u Q := by unfold zJ; rw [zc_137_2]
theorem zn_137 : znl 137 = 6 := by decide +kernel
theorem ze_137 {S : zSs} {D n u : Nat} {sh : zk_S} {d : zm_D} {Q : ((Option zv_V) ⊕ Nat) → Nat → zk_S → zm_D → Nat → Prop} {x0 : Int} {x1 : Int} : zE S D 137 [zv_a x0, zv_i x1] n sh d u Q ↔ zB S D 137 zb_137_0 [some (zv_a x0), some (zv_i x1), none, none, none, none] [] n sh d u Q := by
  unfold zE; rw [zn_137, zc_137_0]; exact ⟨fun h => h.2, fun h => ⟨Nat.le_of_ble_eq_true rfl, h⟩⟩
theorem ze_137s {S : zSs} {D n u : Nat} {sh : zk_S} {d : zm_D} {Q : ((Option zv_V) ⊕ Nat) → Nat → zk_S → zm_D → Nat → Prop} {x0 : Int} : zE S D 137 [zv_i x0] n sh d u Q ↔ zB S D 137 zb_137_0 [some (zv_i x0), none, none, none, none, none] [] n sh d u Q := by
  unfold zE; rw [zn_137, zc_137_0]; exact ⟨fun h => h.2, fun h => ⟨Nat.le_of_ble_eq_true rfl, h⟩⟩
theorem zh_137 : zhl 137 = [] := by decide +kernel
theorem zc_138_0 : zcd 138 0 = zb_138_0 := by decide +kernel
theorem zj_138_0 {S : zSs} {D n u : Nat} {sh : zk_S} {d : zm_D} {Q : ((Option zv_V) ⊕ Nat) → Nat → zk_S → zm_D → Nat → Prop} {L : zN} {st : List zv_V} : zJ S D 138 0 L st n sh d u Q ↔ zB S D 138 zb_138_0 L st n sh d u Q := by unfold zJ; rw [zc_138_0]
theorem zc_138_1 : zcd 138 1 = zb_138_1 := by decide +kernel
theorem zj_138_1 {S : zSs} {D n u : Nat} {sh : zk_S} {d : zm_D} {Q : ((Option zv_V) ⊕ Nat) → Nat → zk_S → zm_D → Nat → Prop} {L : zN} {st : List zv_V} : zJ S D 138 1 L st n sh d u Q ↔ zB S D 138 zb_138_1 L st n sh d u Q := by unfold zJ; rw [zc_138_1]
theorem zc_138_2 : zcd 138 2 = zb_138_2 := by decide +kernel
theorem zj_138_2 {S : zSs} {D n u : Nat} {sh : zk_S} {d : zm_D} {Q : ((Option zv_V) ⊕ Nat) → Nat → zk_S → zm_D → Nat → Prop} {L : zN} {st : List zv_V} : zJ S D 138 2 L st n sh d u Q ↔ zB S D 138 zb_138_2 L st n sh d u Q := by unfold zJ; rw [zc_138_2]
theorem zn_138 : znl 138 = 5 := by decide +kernel
theorem ze_138 {S : zSs} {D n u : Nat} {sh : zk_S} {d : zm_D} {Q : ((Option zv_V) ⊕ Nat) → Nat → zk_S → zm_D → Nat → Prop} {x0 : Int} {x1 : Int} : zE S D 138 [zv_a x0, zv_i x1] n sh d u Q ↔ zB S D 138 zb_138_0 [some (zv_a x0), some (zv_i x1), none, none, none] [] n sh d u Q := by
  unfold zE; rw [zn_138, zc_138_0]; exact ⟨fun h => h.2, fun h => ⟨Nat.le_of_ble_eq_true rfl, h⟩⟩
theorem ze_138s {S : zSs} {D n u : Nat} {sh : zk_S} {d : zm_D} {Q : ((Option zv_V) ⊕ Nat) → Nat → zk_S → zm_D → Nat → Prop} {x0 : Int} : zE S D 138 [zv_i x0] n sh d u Q ↔ zB S D 138 zb_138_0 [some (zv_i x0), none, none, none, none] [] n sh d u Q := by
  unfold zE; rw [zn_138, zc_138_0]; exact ⟨fun h => h.2, fun h => ⟨Nat.le_of_ble_eq_true rfl, h⟩⟩
theorem zh_138 : zhl 138 = [] := by decide +kernel
theorem zc_139_0 : zcd 139 0 = zb_139_0 := by decide +kernel
theorem zj_139_0 {S : zSs} {D n u : Nat} {sh : zk_S} {d : zm_D} {Q : ((Option zv_V) ⊕ Nat) → Nat → zk_S → zm_D → Nat → Prop} {L : zN} {st : List zv_V} : zJ S D 139 0 L st n sh d u Q ↔ zB S D 139 zb_139_0 L st n sh d u Q := by unfold zJ; rw [zc_139_0]
theorem zc_139_1 : zcd 139 1 = zb_139_1 := by decide +kernel
theorem zj_139_1 {S : zSs} {D n u : Nat} {sh : zk_S} {d : zm_D} {Q : ((Option zv_V) ⊕ Nat) → Nat → zk_S → zm_D → Nat → Prop} {L : zN} {st : List zv_V} : zJ S D 139 1 L st n sh d u Q ↔ zB S D 139 zb_139_1 L st n sh d u Q := by unfold zJ; rw [zc_139_1]
theorem zc_139_2 : zcd 139 2 = zb_139_2 := by decide +kernel
theorem zj_139_2 {S : zSs} {D n u : Nat} {sh : zk_S} {d : zm_D} {Q : ((Option zv_V) ⊕ Nat) → Nat → zk_S → zm_D → Nat → Prop} {L : zN} {st : List zv_V} : zJ S D 139 2 L st n sh d u Q ↔ zB S D 139 zb_139_2 L st n sh d u Q := by unfold zJ; rw [zc_139_2]
theorem zn_139 : znl 139 = 6 := by decide +kernel
theorem ze_139 {S : zSs} {D n u : Nat} {sh : zk_S} {d : zm_D} {Q : ((Option zv_V) ⊕ Nat) → Nat → zk_S → zm_D → Nat → Prop} {x0 : Int} {x1 : Int} {x2 : Int} {x3 : Int} : zE S D 139 [zv_a x0, zv_i x1, zv_i x2, zv_i x3] n sh d u Q ↔ zB S D 139 zb_139_0 [some (zv_a x0), some (zv_i x1), some (zv_i x2), some (zv_i x3), none, none] [] n sh d u Q := by
  unfold zE; rw [zn_139, zc_139_0]; exact ⟨fun h => h.2, fun h => ⟨Nat.le_of_ble_eq_true rfl, h⟩⟩
theorem ze_139s {S : zSs} {D n u : Nat} {sh : zk_S} {d : zm_D} {Q : ((Option zv_V) ⊕ Nat) → Nat → zk_S → zm_D → Nat → Prop} {x0 : Int} {x1 : Int} {x2 : Int} : zE S D 139 [zv_i x0, zv_i x1, zv_i x2] n sh d u Q ↔ zB S D 139 zb_139_0 [some (zv_i x0), some (zv_i x1), some (zv_i x2), none, none, none] [] n sh d u Q := by
  unfold zE; rw [zn_139, zc_139_0]; exact ⟨fun h => h.2, fun h => ⟨Nat.le_of_ble_eq_true rfl, h⟩⟩
theorem zh_139 : zhl 139 = [] := by decide +kernel
theorem zc_140_0 : zcd 140 0 = zb_140_0 := by decide +kernel
theorem zj_140_0 {S : zSs} {D n u : Nat} {sh : zk_S} {d : zm_D} {Q : ((Option zv_V) ⊕ Nat) → Nat → zk_S → zm_D → Nat → Prop} {L : zN} {st : List zv_V} : zJ S D 140 0 L st n sh d u Q ↔ zB S D 140 zb_140_0 L st n sh d u Q := by unfold zJ; rw [zc_140_0]
theorem zc_140_1 : zcd 140 1 = zb_140_1 := by decide +kernel
theorem zj_140_1 {S : zSs} {D n u : Nat} {sh : zk_S} {d : zm_D} {Q : ((Option zv_V) ⊕ Nat) → Nat → zk_S → zm_D → Nat → Prop} {L : zN} {st : List zv_V} : zJ S D 140 1 L st n sh d u Q ↔ zB S D 140 zb_140_1 L st n sh d u Q := by unfold zJ; rw [zc_140_1]
theorem zc_140_2 : zcd 140 2 = zb_140_2 := by decide +kernel
theorem zj_140_2 {S : zSs} {D n u : Nat} {sh : zk_S} {d : zm_D} {Q : ((Option zv_V) ⊕ Nat) → Nat → zk_S → zm_D → Nat → Prop} {L : zN} {st : List zv_V} : zJ S D 140 2 L st n sh d u Q ↔ zB S D 140 zb_140_2 L st n sh d u Q := by unfold zJ; rw [zc_140_2]
theorem zc_140_3 : zcd 140 3 = zb_140_3 := by decide +kernel
theorem zj_140_3 {S : zSs} {D n u : Nat} {sh : zk_S} {d : zm_D} {Q : ((Option zv_V) ⊕ Nat) → Nat → zk_S → zm_D → Nat → Prop} {L : zN} {st : List zv_V} : zJ S D 140 3 L st n sh d u Q ↔ zB S D 140 zb_140_3 L st n sh d u Q := by unfold zJ; rw [zc_140_3]
theorem zn_140 : znl 140 = 3 := by decide +kernel
theorem ze_140 {S : zSs} {D n u : Nat} {sh : zk_S} {d : zm_D} {Q : ((Option zv_V) ⊕ Nat) → Nat → zk_S → zm_D → Nat → Prop} {x0 : Int} {x1 : Int} : zE S D 140 [zv_a x0, zv_i x1] n sh d u Q ↔ zB S D 140 zb_140_0 [some (zv_a x0), some (zv_i x1), none] [] n sh d u Q := by
  unfold zE; rw [zn_140, zc_140_0]; exact ⟨fun h => h.2, fun h => ⟨Nat.le_of_ble_eq_true rfl, h⟩⟩
theorem ze_140s {S : zSs} {D n u : Nat} {sh : zk_S} {d : zm_D} {Q : ((Option zv_V) ⊕ Nat) → Nat → zk_S → zm_D → Nat → Prop} {x0 : Int} : zE S D 140 [zv_i x0] n sh d u Q ↔ zB S D 140 zb_140_0 [some (zv_i x0), none, none] [] n sh d u Q := by
  unfold zE; rw [zn_140, zc_140_0]; exact ⟨fun h => h.2, fun h => ⟨Nat.le_of_ble_eq_true rfl, h⟩⟩
theorem zh_140 : zhl 140 = [] := by decide +kernel
theorem zc_141_0 : zcd 141 0 = zb_141_0 := by decide +kernel
theorem zj_141_0 {S : zSs} {D n u : Nat} {sh : zk_S} {d : zm_D} {Q : ((Option zv_V) ⊕ Nat) → Nat → zk_S → zm_D → Nat → Prop} {L : zN} {st : List zv_V} : zJ S D 141 0 L st n sh d u Q ↔ zB S D 141 zb_141_0 L st n sh d u Q := by unfold zJ; rw [zc_141_0]
theorem zn_141 : znl 141 = 1 := by decide +kernel
theorem ze_141 {S : zSs} {D n u : Nat} {sh : zk_S} {d : zm_D} {Q : ((Option zv_V) ⊕ Nat) → Nat → zk_S → zm_D → Nat → Prop} {x0 : Int} : zE S D 141 [zv_a x0] n sh d u Q ↔ zB S D 141 zb_141_0 [some (zv_a x0)] [] n sh d u Q := by
  unfold zE; rw [zn_141, zc_141_0]; exact ⟨fun h => h.2, fun h => ⟨Nat.le_of_ble_eq_true rfl, h⟩⟩
theorem ze_141s {S : zSs} {D n u : Nat} {sh : zk_S} {d : zm_D} {Q : ((Option zv_V) ⊕ Nat) → Nat → zk_S → zm_D → Nat → Prop} : zE S D 141 [] n sh d u Q ↔ zB S D 141 zb_141_0 [none] [] n sh d u Q := by
  unfold zE; rw [zn_141, zc_141_0]; exact ⟨fun h => h.2, fun h => ⟨Nat.le_of_ble_eq_true rfl, h⟩⟩
theorem zh_141 : zhl 141 = [] := by decide +kernel
theorem zc_142_0 : zcd 142 0 = zb_142_0 := by decide +kernel
theorem zj_142_0 {S : zSs} {D n u : Nat} {sh : zk_S} {d : zm_D} {Q : ((Option zv_V) ⊕ Nat) → Nat → zk_S → zm_D → Nat → Prop} {L : zN} {st : List zv_V} : zJ S D 142 0 L st n sh d u Q ↔ zB S D 142 zb_142_0 L st n sh d u Q := by unfold zJ; rw [zc_142_0]
theorem zn_142 : znl 142 = 2 := by decide +kernel
theorem ze_142 {S : zSs} {D n u : Nat} {sh : zk_S} {d : zm_D} {Q : ((Option zv_V) ⊕ Nat) → Nat → zk_S → zm_D → Nat → Prop} {x0 : Int} {x1 : Int} : zE S D 142 [zv_a x0, zv_i x1] n sh d u Q ↔ zB S D 142 zb_142_0 [some (zv_a x0), some (zv_i x1)] [] n sh d u Q := by
  unfold zE; rw [zn_142, zc_142_0]; exact ⟨fun h => h.2, fun h => ⟨Nat.le_of_ble_eq_true rfl, h⟩⟩
theorem ze_142s {S : zSs} {D n u : Nat} {sh : zk_S} {d : zm_D} {Q : ((Option zv_V) ⊕ Nat) → Nat → zk_S → zm_D → Nat → Prop} {x0 : Int} : zE S D 142 [zv_i x0] n sh d u Q ↔ zB S D 142 zb_142_0 [some (zv_i x0), none] [] n sh d u Q := by
  unfold zE; rw [zn_142, zc_142_0]; exact ⟨fun h => h.2, fun h => ⟨Nat.le_of_ble_eq_true rfl, h⟩⟩
theorem zh_142 : zhl 142 = [] := by decide +kernel
theorem zc_143_0 : zcd 143 0 = zb_143_0 := by decide +kernel
theorem zj_143_0 {S : zSs} {D n u : Nat} {sh : zk_S} {d : zm_D} {Q : ((Option zv_V) ⊕ Nat) → Nat → zk_S → zm_D → Nat → Prop} {L : zN} {st : List zv_V} : zJ S D 143 0 L st n sh d u Q ↔ zB S D 143 zb_143_0 L st n sh d u Q := by unfold zJ; rw [zc_143_0]
theorem zn_143 : znl 143 = 2 := by decide +kernel
theorem ze_143 {S : zSs} {D n u : Nat} {sh : zk_S} {d : zm_D} {Q : ((Option zv_V) ⊕ Nat) → Nat → zk_S → zm_D → Nat → Prop} {x0 : Int} {x1 : Int} : zE S D 143 [zv_a x0, zv_i x1] n sh d u Q ↔ zB S D 143 zb_143_0 [some (zv_a x0), some (zv_i x1)] [] n sh d u Q := by
  unfold zE; rw [zn_143, zc_143_0]; exact ⟨fun h => h.2, fun h => ⟨Nat.le_of_ble_eq_true rfl, h⟩⟩
theorem ze_143s {S : zSs} {D n u : Nat} {sh : zk_S} {d : zm_D} {Q : ((Option zv_V) ⊕ Nat) → Nat → zk_S → zm_D → Nat → Prop} {x0 : Int} : zE S D 143 [zv_i x0] n sh d u Q ↔ zB S D 143 zb_143_0 [some (zv_i x0), none] [] n sh d u Q := by
  unfold zE; rw [zn_143, zc_143_0]; exact ⟨fun h => h.2, fun h => ⟨Nat.le_of_ble_eq_true rfl, h⟩⟩
theorem zh_143 : zhl 143 = [] := by decide +kernel
theorem zc_144_0 : zcd 144 0 = zb_144_0 := by decide +kernel
theorem zj_144_0 {S : zSs} {D n u : Nat} {sh : zk_S} {d : zm_D} {Q : ((Option zv_V) ⊕ Nat) → Nat → zk_S → zm_D → Nat → Prop} {L : zN} {st : List zv_V} : zJ S D 144 0 L st n sh d u Q ↔ zB S D 144 zb_144_0 L st n sh d u Q := by unfold zJ; rw [zc_144_0]
theorem zn_144 : znl 144 = 2 := by decide +kernel
theorem ze_144 {S : zSs} {D n u : Nat} {sh : zk_S} {d : zm_D} {Q : ((Option zv_V) ⊕ Nat) → Nat → zk_S → zm_D → Nat → Prop} {x0 : Int} {x1 : Int} : zE S D 144 [zv_a x0, zv_i x1] n sh d u Q ↔ zB S D 144 zb_144_0 [some (zv_a x0), some (zv_i x1)] [] n sh d u Q := by
  unfold zE; rw [zn_144, zc_144_0]; exact ⟨fun h => h.2, fun h => ⟨Nat.le_of_ble_eq_true rfl, h⟩⟩
theorem ze_144s {S : zSs} {D n u : Nat} {sh : zk_S} {d : zm_D} {Q : ((Option zv_V) ⊕ Nat) → Nat → zk_S → zm_D → Nat → Prop} {x0 : Int} : zE S D 144 [zv_i x0] n sh d u Q ↔ zB S D 144 zb_144_0 [some (zv_i x0), none] [] n sh d u Q := by
  unfold zE; rw [zn_144, zc_144_0]; exact ⟨fun h => h.2, fun h => ⟨Nat.le_of_ble_eq_true rfl, h⟩⟩
theorem zh_144 : zhl 144 = [] := by decide +kernel
theorem zc_145_0 : zcd 145 0 = zb_145_0 := by decide +kernel
theorem zj_145_0 {S : zSs} {D n u : Nat} {sh : zk_S} {d : zm_D} {Q : ((Option zv_V) ⊕ Nat) → Nat → zk_S → zm_D → Nat → Prop} {L : zN} {st : List zv_V} : zJ S D 145 0 L st n sh d u Q ↔ zB S D 145 zb_145_0 L st n sh d u Q := by unfold zJ; rw [zc_145_0]
theorem zn_145 : znl 145 = 2 := by decide +kernel
theorem ze_145 {S : zSs} {D n u : Nat} {sh : zk_S} {d : zm_D} {Q : ((Option zv_V) ⊕ Nat) → Nat → zk_S → zm_D → Nat → Prop} {x0 : Int} {x1 : Int} : zE S D 145 [zv_a x0, zv_i x1] n sh d u Q ↔ zB S D 145 zb_145_0 [some (zv_a x0), some (zv_i x1)] [] n sh d u Q := by
  unfold zE; rw [zn_145, zc_145_0]; exact ⟨fun h => h.2, fun h => ⟨Nat.le_of_ble_eq_true rfl, h⟩⟩
theorem ze_145s {S : zSs} {D n u : Nat} {sh : zk_S} {d : zm_D} {Q : ((Option zv_V) ⊕ Nat) → Nat → zk_S → zm_D → Nat → Prop} {x0 : Int} : zE S D 145 [zv_i x0] n sh d u Q ↔ zB S D 145 zb_145_0 [some (zv_i x0), none] [] n sh d u Q := by
  unfold zE; rw [zn_145, zc_145_0]; exact ⟨fun h => h.2, fun h => ⟨Nat.le_of_ble_eq_true rfl, h⟩⟩
theorem zh_145 : zhl 145 = [] := by decide +kernel
theorem zc_146_0 : zcd 146 0 = zb_146_0 := by decide +kernel
theorem zj_146_0 {S : zSs} {D n u : Nat} {sh : zk_S} {d : zm_D} {Q : ((Option zv_V) ⊕ Nat) → Nat → zk_S → zm_D → Nat → Prop} {L : zN} {st : List zv_V} : zJ S D 146 0 L st n sh d u Q ↔ zB S D 146 zb_146_0 L st n sh d u Q := by unfold zJ; rw [zc_146_0]
theorem zn_146 : znl 146 = 3 := by decide +kernel
theorem ze_146 {S : zSs} {D n u : Nat} {sh : zk_S} {d : zm_D} {Q : ((Option zv_V) ⊕ Nat) → Nat → zk_S → zm_D → Nat → Prop} {x0 : Int} {x1 : Int} {x2 : Int} : zE S D 146 [zv_a x0, zv_i x1, zv_i x2] n sh d u Q ↔ zB S D 146 zb_146_0 [some (zv_a x0), some (zv_i x1), some (zv_i x2)] [] n sh d u Q := by
  unfold zE; rw [zn_146, zc_146_0]; exact ⟨fun h => h.2, fun h => ⟨Nat.le_of_ble_eq_true rfl, h⟩⟩
theorem ze_146s {S : zSs} {D n u : Nat} {sh : zk_S} {d : zm_D} {Q : ((Option zv_V) ⊕ Nat) → Nat → zk_S → zm_D → Nat → Prop} {x0 : Int} {x1 : Int} : zE S D 146 [zv_i x0, zv_i x1] n sh d u Q ↔ zB S D 146 zb_146_0 [some (zv_i x0), some (zv_i x1), none] [] n sh d u Q := by
  unfold zE; rw [zn_146, zc_146_0]; exact ⟨fun h => h.2, fun h => ⟨Nat.le_of_ble_eq_true rfl, h⟩⟩
theorem zh_146 : zhl 146 = [] := by decide +kernel
theorem zc_147_0 : zcd 147 0 = zb_147_0 := by decide +kernel
theorem zj_147_0 {S : zSs} {D n u : Nat} {sh : zk_S} {d : zm_D} {Q : ((Option zv_V) ⊕ Nat) → Nat → zk_S → zm_D → Nat → Prop} {L : zN} {st : List zv_V} : zJ S D 147 0 L st n sh d u Q ↔ zB S D 147 zb_147_0 L st n sh d u Q := by unfold zJ; rw [zc_147_0]
theorem zn_147 : znl 147 = 1 := by decide +kernel
theorem ze_147 {S : zSs} {D n u : Nat} {sh : zk_S} {d : zm_D} {Q : ((Option zv_V) ⊕ Nat) → Nat → zk_S → zm_D → Nat → Prop} {x0 : Int} : zE S D 147 [zv_a x0] n sh d u Q ↔ zB S D 147 zb_147_0 [some (zv_a x0)] [] n sh d u Q := by
  unfold zE; rw [zn_147, zc_147_0]; exact ⟨fun h => h.2, fun h => ⟨Nat.le_of_ble_eq_true rfl, h⟩⟩
theorem ze_147s {S : zSs} {D n u : Nat} {sh : zk_S} {d : zm_D} {Q : ((Option zv_V) ⊕ Nat) → Nat → zk_S → zm_D → Nat → Prop} : zE S D 147 [] n sh d u Q ↔ zB S D 147 zb_147_0 [none] [] n sh d u Q := by
  unfold zE; rw [zn_147, zc_147_0]; exact ⟨fun h => h.2, fun h => ⟨Nat.le_of_ble_eq_true rfl, h⟩⟩
theorem zh_147 : zhl 147 = [] := by decide +kernel
theorem zc_148_0 : zcd 148 0 = zb_148_0 := by decide +kernel
theorem zj_148_0 {S : zSs} {D n u : Nat} {sh : zk_S} {d : zm_D} {Q : ((Option zv_V) ⊕ Nat) → Nat → zk_S → zm_D → Nat → Prop} {L : zN} {st : List zv_V} : zJ S D 148 0 L st n sh d u Q ↔ zB S D 148 zb_148_0 L st n sh d u Q := by unfold zJ; rw [zc_148_0]
theorem zn_148 : znl 148 = 1 := by decide +kernel
theorem ze_148 {S : zSs} {D n u : Nat} {sh : zk_S} {d : zm_D} {Q : ((Option zv_V) ⊕ Nat) → Nat → zk_S → zm_D → Nat → Prop} {x0 : Int} : zE S D 148 [zv_a x0] n sh d u Q ↔ zB S D 148 zb_148_0 [some (zv_a x0)] [] n sh d u Q := by
  unfold zE; rw [zn_148, zc_148_0]; exact ⟨fun h => h.2, fun h => ⟨Nat.le_of_ble_eq_true rfl, h⟩⟩
theorem ze_148s {S : zSs} {D n u : Nat} {sh : zk_S} {d : zm_D} {Q : ((Option zv_V) ⊕ Nat) → Nat → zk_S → zm_D → Nat → Prop} : zE S D 148 [] n sh d u Q ↔ zB S D 148 zb_148_0 [none] [] n sh d u Q := by
  unfold zE; rw [zn_148, zc_148_0]; exact ⟨fun h => h.2, fun h => ⟨Nat.le_of_ble_eq_true rfl, h⟩⟩
theorem zh_148 : zhl 148 = [] := by decide +kernel
theorem zc_149_0 : zcd 149 0 = zb_149_0 := by decide +kernel
theorem zj_149_0 {S : zSs} {D n u : Nat} {sh : zk_S} {d : zm_D} {Q : ((Option zv_V) ⊕ Nat) → Nat → zk_S → zm_D → Nat → Prop} {L : zN} {st : List zv_V} : zJ S D 149 0 L st n sh d u Q ↔ zB S D 149 zb_149_0 L st n sh d u Q := by unfold zJ; rw [zc_149_0]
theorem zn_149 : znl 149 = 2 := by decide +kernel
theorem ze_149 {S : zSs} {D n u : Nat} {sh : zk_S} {d : zm_D} {Q : ((Option zv_V) ⊕ Nat) → Nat → zk_S → zm_D → Nat → Prop} {x0 : Int} {x1 : Int} : zE S D 149 [zv_a x0, zv_i x1] n sh d u Q ↔ zB S D 149 zb_149_0 [some (zv_a x0), some (zv_i x1)] [] n sh d u Q := by
  unfold zE; rw [zn_149, zc_149_0]; exact ⟨fun h => h.2, fun h => ⟨Nat.le_of_ble_eq_true rfl, h⟩⟩
theorem ze_149s {S : zSs} {D n u : Nat} {sh : zk_S} {d : zm_D} {Q : ((Option zv_V) ⊕ Nat) → Nat → zk_S → zm_D → Nat → Prop} {x0 : Int} : zE S D 149 [zv_i x0] n sh d u Q ↔ zB S D 149 zb_149_0 [some (zv_i x0), none] [] n sh d u Q := by
  unfold zE; rw [zn_149, zc_149_0]; exact ⟨fun h => h.2, fun h => ⟨Nat.le_of_ble_eq_true rfl, h⟩⟩
theorem zh_149 : zhl 149 = [] := by decide +kernel
theorem zc_150_0 : zcd 150 0 = zb_150_0 := by decide +kernel
theorem zj_150_0 {S : zSs} {D n u : Nat} {sh : zk_S} {d : zm_D} {Q : ((Option zv_V) ⊕ Nat) → Nat → zk_S → zm_D → Nat → Prop} {L : zN} {st : List zv_V} : zJ S D 150 0 L st n sh d u Q ↔ zB S D 150 zb_150_0 L st n sh d u Q := by unfold zJ; rw [zc_150_0]
theorem zn_150 : znl 150 = 1 := by decide +kernel
theorem ze_150 {S : zSs} {D n u : Nat} {sh : zk_S} {d : zm_D} {Q : ((Option zv_V) ⊕ Nat) → Nat → zk_S → zm_D → Nat → Prop} {x0 : Int} : zE S D 150 [zv_a x0] n sh d u Q ↔ zB S D 150 zb_150_0 [some (zv_a x0)] [] n sh d u Q := by
  unfold zE; rw [zn_150, zc_150_0]; exact ⟨fun h => h.2, fun h => ⟨Nat.le_of_ble_eq_true rfl, h⟩⟩
theorem ze_150s {S : zSs} {D n u : Nat} {sh : zk_S} {d : zm_D} {Q : ((Option zv_V) ⊕ Nat) → Nat → zk_S → zm_D → Nat → Prop} : zE S D 150 [] n sh d u Q ↔ zB S D 150 zb_150_0 [none] [] n sh d u Q := by
  unfold zE; rw [zn_150, zc_150_0]; exact ⟨fun h => h.2, fun h => ⟨Nat.le_of_ble_eq_true rfl, h⟩⟩
theorem zh_150 : zhl 150 = [] := by decide +kernel
theorem zc_151_0 : zcd 151 0 = zb_151_0 := by decide +kernel
theorem zj_151_0 {S : zSs} {D n u : Nat} {sh : zk_S} {d : zm_D} {Q : ((Option zv_V) ⊕ Nat) → Nat → zk_S → zm_D → Nat → Prop} {L : zN} {st : List zv_V} : zJ S D 151 0 L st n sh d u Q ↔ zB S D 151 zb_151_0 L st n sh d u Q := by unfold zJ; rw [zc_151_0]
theorem zc_151_1 : zcd 151 1 = zb_151_1 := by decide +kernel
theorem zj_151_1 {S : zSs} {D n u : Nat} {sh : zk_S} {d : zm_D} {Q : ((Option zv_V) ⊕ Nat) → Nat → zk_S → zm_D → Nat → Prop} {L : zN} {st : List zv_V} : zJ S D 151 1 L st n sh d u Q ↔ zB S D 151 zb_151_1 L st n sh d u Q := by unfold zJ; rw [zc_151_1]
theorem zc_151_2 : zcd 151 2 = zb_151_2 := by decide +kernel
theorem zj_151_2 {S : zSs} {D n u : Nat} {sh : zk_S} {d : zm_D} {Q : ((Option zv_V) ⊕ Nat) → Nat → zk_S → zm_D → Nat → Prop} {L : zN} {st : List zv_V} : zJ S D 151 2 L st n sh d u Q ↔ zB S D 151 zb_151_2 L st n sh d u Q := by unfold zJ; rw [zc_151_2]
theorem zn_151 : znl 151 = 6 := by decide +kernel
theorem ze_151 {S : zSs} {D n u : Nat} {sh : zk_S} {d : zm_D} {Q : ((Option zv_V) ⊕ Nat) → Nat → zk_S → zm_D → Nat → Prop} {x0 : Int} {x1 : Int} {x2 : Int} {x3 : Int} {x4 : Int} : zE S D 151 [zv_a x0, zv_i x1, zv_i x2, zv_i x3, zv_i x4] n sh d u Q ↔ zB S D 151 zb_151_0 [some (zv_a x0), some (zv_i x1), some (zv_i x2), some (zv_i x3), some (zv_i x4), none] [] n sh d u Q := by
  unfold zE; rw [zn_151, zc_151_0]; exact ⟨fun h => h.2, fun h => ⟨Nat.le_of_ble_eq_true rfl, h⟩⟩
theorem ze_151s {S : zSs} {D n u : Nat} {sh : zk_S} {d : zm_D} {Q : ((Option zv_V) ⊕ Nat) → Nat → zk_S → zm_D → Nat → Prop} {x0 : Int} {x1 : Int} {x2 : Int} {x3 : Int} : zE S D 151 [zv_i x0, zv_i x1, zv_i x2, zv_i x3] n sh d u Q ↔ zB S D 151 zb_151_0 [some (zv_i x0), some (zv_i x1), some (zv_i x2), some (zv_i x3), none, none] [] n sh d u Q := by
  unfold zE; rw [zn_151, zc_151_0]; exact ⟨fun h => h.2, fun h => ⟨Nat.le_of_ble_eq_true rfl, h⟩⟩
theorem zh_151 : zhl 151 = [] := by decide +kernel
theorem zc_152_0 : zcd 152 0 = zb_152_0 := by decide +kernel
theorem zj_152_0 {S : zSs} {D n u : Nat} {sh : zk_S} {d : zm_D} {Q : ((Option zv_V) ⊕ Nat) → Nat → zk_S → zm_D → Nat → Prop} {L : zN} {st : List zv_V} : zJ S D 152 0 L st n sh d u Q ↔ zB S D 152 zb_152_0 L st n sh d u Q := by unfold zJ; rw [zc_152_0]
theorem zn_152 : znl 152 = 2 := by decide +kernel
theorem ze_152 {S : zSs} {D n u : Nat} {sh : zk_S} {d : zm_D} {Q : ((Option zv_V) ⊕ Nat) → Nat → zk_S → zm_D → Nat → Prop} {x0 : Int} {x1 : Int} : zE S D 152 [zv_a x0, zv_i x1] n sh d u Q ↔ zB S D 152 zb_152_0 [some (zv_a x0), some (zv_i x1)] [] n sh d u Q := by
  unfold zE; rw [zn_152, zc_152_0]; exact ⟨fun h => h.2, fun h => ⟨Nat.le_of_ble_eq_true rfl, h⟩⟩
theorem ze_152s {S : zSs} {D n u : Nat} {sh : zk_S} {d : zm_D} {Q : ((Option zv_V) ⊕ Nat) → Nat → zk_S → zm_D → Nat → Prop} {x0 : Int} : zE S D 152 [zv_i x0] n sh d u Q ↔ zB S D 152 zb_152_0 [some (zv_i x0), none] [] n sh d u Q := by
  unfold zE; rw [zn_152, zc_152_0]; exact ⟨fun h => h.2, fun h => ⟨Nat.le_of_ble_eq_true rfl, h⟩⟩
theorem zh_152 : zhl 152 = [] := by decide +kernel
theorem zc_153_0 : zcd 153 0 = zb_153_0 := by decide +kernel
theorem zj_153_0 {S : zSs} {D n u : Nat} {sh : zk_S} {d : zm_D} {Q : ((Option zv_V) ⊕ Nat) → Nat → zk_S → zm_D → Nat → Prop} {L : zN} {st : List zv_V} : zJ S D 153 0 L st n sh d u Q ↔ zB S D 153 zb_153_0 L st n sh d u Q := by unfold zJ; rw [zc_153_0]
theorem zc_153_1 : zcd 153 1 = zb_153_1 := by decide +kernel
theorem zj_153_1 {S : zSs} {D n u : Nat} {sh : zk_S} {d : zm_D} {Q : ((Option zv_V) ⊕ Nat) → Nat → zk_S → zm_D → Nat → Prop} {L : zN} {st : List zv_V} : zJ S D 153 1 L st n sh d u Q ↔ zB S D 153 zb_153_1 L st n sh d u Q := by unfold zJ; rw [zc_153_1]
theorem zc_153_2 : zcd 153 2 = zb_153_2 := by decide +kernel
theorem zj_153_2 {S : zSs} {D n u : Nat} {sh : zk_S} {d : zm_D} {Q : ((Option zv_V) ⊕ Nat) → Nat → zk_S → zm_D → Nat → Prop} {L : zN} {st : List zv_V} : zJ S D 153 2 L st n sh d u Q ↔ zB S D 153 zb_153_2 L st n sh d u Q := by unfold zJ; rw [zc_153_2]
theorem zc_153_3 : zcd 153 3 = zb_153_3 := by decide +kernel
theorem zj_153_3 {S : zSs} {D n u : Nat} {sh : zk_S} {d : zm_D} {Q : ((Option zv_V) ⊕ Nat) → Nat → zk_S → zm_D → Nat → Prop} {L : zN} {st : List zv_V} : zJ S D 153 3 L st n sh d u Q ↔ zB S D 153 zb_153_3 L st n sh d u Q := by unfold zJ; rw [zc_153_3]
theorem zn_153 : znl 153 = 3 := by decide +kernel
theorem ze_153 {S : zSs} {D n u : Nat} {sh : zk_S} {d : zm_D} {Q : ((Option zv_V) ⊕ Nat) → Nat → zk_S → zm_D → Nat → Prop} {x0 : Int} {x1 : Int} {x2 : Int} : zE S D 153 [zv_a x0, zv_i x1, zv_i x2] n sh d u Q ↔ zB S D 153 zb_153_0 [some (zv_a x0), some (zv_i x1), some (zv_i x2)] [] n sh d u Q := by
  unfold zE; rw [zn_153, zc_153_0]; exact ⟨fun h => h.2, fun h => ⟨Nat.le_of_ble_eq_true rfl, h⟩⟩
theorem ze_153s {S : zSs} {D n u : Nat} {sh : zk_S} {d : zm_D} {Q : ((Option zv_V) ⊕ Nat) → Nat → zk_S → zm_D → Nat → Prop} {x0 : Int} {x1 : Int} : zE S D 153 [zv_i x0, zv_i x1] n sh d u Q ↔ zB S D 153 zb_153_0 [some (zv_i x0), some (zv_i x1), none] [] n sh d u Q := by
  unfold zE; rw [zn_153, zc_153_0]; exact ⟨fun h => h.2, fun h => ⟨Nat.le_of_ble_eq_true rfl, h⟩⟩
theorem zh_153 : zhl 153 = [] := by decide +kernel
theorem zc_154_0 : zcd 154 0 = zb_154_0 := by decide +kernel
theorem zj_154_0 {S : zSs} {D n u : Nat} {sh : zk_S} {d : zm_D} {Q : ((Option zv_V) ⊕ Nat) → Nat → zk_S → zm_D → Nat → Prop} {L : zN} {st : List zv_V} : zJ S D 154 0 L st n sh d u Q ↔ zB S D 154 zb_154_0 L st n sh d u Q := by unfold zJ; rw [zc_154_0]
theorem zn_154 : znl 154 = 3 := by decide +kernel
theorem ze_154 {S : zSs} {D n u : Nat} {sh : zk_S} {d : zm_D} {Q : ((Option zv_V) ⊕ Nat) → Nat → zk_S → zm_D → Nat → Prop} {x0 : Int} {x1 : Int} {x2 : Int} : zE S D 154 [zv_a x0, zv_i x1, zv_i x2] n sh d u Q ↔ zB S D 154 zb_154_0 [some (zv_a x0), some (zv_i x1), some (zv_i x2)] [] n sh d u Q := by
  unfold zE; rw [zn_154, zc_154_0]; exact ⟨fun h => h.2, fun h => ⟨Nat.le_of_ble_eq_true rfl, h⟩⟩
theorem ze_154s {S : zSs} {D n u : Nat} {sh : zk_S} {d : zm_D} {Q : ((Option zv_V) ⊕ Nat) → Nat → zk_S → zm_D → Nat → Prop} {x0 : Int} {x1 : Int} : zE S D 154 [zv_i x0, zv_i x1] n sh d u Q ↔ zB S D 154 zb_154_0 [some (zv_i x0), some (zv_i x1), none] [] n sh d u Q := by
  unfold zE; rw [zn_154, zc_154_0]; exact ⟨fun h => h.2, fun h => ⟨Nat.le_of_ble_eq_true rfl, h⟩⟩
theorem zh_154 : zhl 154 = [] := by decide +kernel
theorem zc_155_0 : zcd 155 0 = zb_155_0 := by decide +kernel
theorem zj_155_0 {S : zSs} {D n u : Nat} {sh : zk_S} {d : zm_D} {Q : ((Option zv_V) ⊕ Nat) → Nat → zk_S → zm_D → Nat → Prop} {L : zN} {st : List zv_V} : zJ S D 155 0 L st n sh d u Q ↔ zB S D 155 zb_155_0 L st n sh d u Q := by unfold zJ; rw [zc_155_0]
theorem zn_155 : znl 155 = 3 := by decide +kernel
theorem ze_155 {S : zSs} {D n u : Nat} {sh : zk_S} {d : zm_D} {Q : ((Option zv_V) ⊕ Nat) → Nat → zk_S → zm_D → Nat → Prop} {x0 : Int} {x1 : Int} : zE S D 155 [zv_a x0, zv_i x1] n sh d u Q ↔ zB S D 155 zb_155_0 [some (zv_a x0), some (zv_i x1), none] [] n sh d u Q := by
  unfold zE; rw [zn_155, zc_155_0]; exact ⟨fun h => h.2, fun h => ⟨Nat.le_of_ble_eq_true rfl, h⟩⟩
theorem ze_155s {S : zSs} {D n u : Nat} {sh : zk_S} {d : zm_D} {Q : ((Option zv_V) ⊕ Nat) → Nat → zk_S → zm_D → Nat → Prop} {x0 : Int} : zE S D 155 [zv_i x0] n sh d u Q ↔ zB S D 155 zb_155_0 [some (zv_i x0), none, none] [] n sh d u Q := by
  unfold zE; rw [zn_155, zc_155_0]; exact ⟨fun h => h.2, fun h => ⟨Nat.le_of_ble_eq_true rfl, h⟩⟩
theorem zh_155 : zhl 155 = [] := by decide +kernel
theorem zc_156_0 : zcd 156 0 = zb_156_0 := by decide +kernel
theorem zj_156_0 {S : zSs} {D n u : Nat} {sh : zk_S} {d : zm_D} {Q : ((Option zv_V) ⊕ Nat) → Nat → zk_S → zm_D → Nat → Prop} {L : zN} {st : List zv_V} : zJ S D 156 0 L st n sh d u Q ↔ zB S D 156 zb_156_0 L st n sh d u Q := by unfold zJ; rw [zc_156_0]
theorem zc_156_1 : zcd 156 1 = zb_156_1 := by decide +kernel
theorem zj_156_1 {S : zSs} {D n u : Nat} {sh : zk_S} {d : zm_D} {Q : ((Option zv_V) ⊕ Nat) → Nat → zk_S → zm_D → Nat → Prop} {L : zN} {st : List zv_V} : zJ S D 156 1 L st n sh d u Q ↔ zB S D 156 zb_156_1 L st n sh d u Q := by unfold zJ; rw [zc_156_1]
theorem zn_156 : znl 156 = 4 := by decide +kernel
theorem ze_156 {S : zSs} {D n u : Nat} {sh : zk_S} {d : zm_D} {Q : ((Option zv_V) ⊕ Nat) → Nat → zk_S → zm_D → Nat → Prop} {x0 : Int} {x1 : Int} {x2 : Int} : zE S D 156 [zv_a x0, zv_i x1, zv_i x2] n sh d u Q ↔ zB S D 156 zb_156_0 [some (zv_a x0), some (zv_i x1), some (zv_i x2), none] [] n sh d u Q := by
  unfold zE; rw [zn_156, zc_156_0]; exact ⟨fun h => h.2, fun h => ⟨Nat.le_of_ble_eq_true rfl, h⟩⟩
theorem ze_156s {S : zSs} {D n u : Nat} {sh : zk_S} {d : zm_D} {Q : ((Option zv_V) ⊕ Nat) → Nat → zk_S → zm_D → Nat → Prop} {x0 : Int} {x1 : Int} : zE S D 156 [zv_i x0, zv_i x1] n sh d u Q ↔ zB S D 156 zb_156_0 [some (zv_i x0), some (zv_i x1), none, none] [] n sh d u Q := by
  unfold zE; rw [zn_156, zc_156_0]; exact ⟨fun h => h.2, fun h => ⟨Nat.le_of_ble_eq_true rfl, h⟩⟩
theorem zh_156 : zhl 156 = [] := by decide +kernel
theorem zc_157_0 : zcd 157 0 = zb_157_0 := by decide +kernel
theorem zj_157_0 {S : zSs} {D n u : Nat} {sh : zk_S} {d : zm_D} {Q : ((Option zv_V) ⊕ Nat) → Nat → zk_S → zm_D → Nat → Prop} {L : zN} {st : List zv_V} : zJ S D 157 0 L st n sh d u Q ↔ zB S D 157 zb_157_0 L st n sh d u Q := by unfold zJ; rw [zc_157_0]
theorem zc_157_1 : zcd 157 1 = zb_157_1 := by decide +kernel
theorem zj_157_1 {S : zSs} {D n u : Nat} {sh : zk_S} {d : zm_D} {Q : ((Option zv_V) ⊕ Nat) → Nat → zk_S → zm_D → Nat → Prop} {L : zN} {st : List zv_V} : zJ S D 157 1 L st n sh d u Q ↔ zB S D 157 zb_157_1 L st n sh d u Q := by unfold zJ; rw [zc_157_1]
theorem zn_157 : znl 157 = 2 := by decide +kernel
theorem ze_157 {S : zSs} {D n u : Nat} {sh : zk_S} {d : zm_D} {Q : ((Option zv_V) ⊕ Nat) → Nat → zk_S → zm_D → Nat → Prop} {x0 : Int} {x1 : Int} : zE S D 157 [zv_a x0, zv_i x1] n sh d u Q ↔ zB S D 157 zb_157_0 [some (zv_a x0), some (zv_i x1)] [] n sh d u Q := by
  unfold zE; rw [zn_157, zc_157_0]; exact ⟨fun h => h.2, fun h => ⟨Nat.le_of_ble_eq_true rfl, h⟩⟩
theorem ze_157s {S : zSs} {D n u : Nat} {sh : zk_S} {d : zm_D} {Q : ((Option zv_V) ⊕ Nat) → Nat → zk_S → zm_D → Nat → Prop} {x0 : Int} : zE S D 157 [zv_i x0] n sh d u Q ↔ zB S D 157 zb_157_0 [some (zv_i x0), none] [] n sh d u Q := by
  unfold zE; rw [zn_157, zc_157_0]; exact ⟨fun h => h.2, fun h => ⟨Nat.le_of_ble_eq_true rfl, h⟩⟩
theorem zh_157 : zhl 157 = [] := by decide +kernel
theorem zc_158_0 : zcd 158 0 = zb_158_0 := by decide +kernel
theorem zj_158_0 {S : zSs} {D n u : Nat} {sh : zk_S} {d : zm_D} {Q : ((Option zv_V) ⊕ Nat) → Nat → zk_S → zm_D → Nat → Prop} {L : zN} {st : List zv_V} : zJ S D 158 0 L st n sh d u Q ↔ zB S D 158 zb_158_0 L st n sh d u Q := by unfold zJ; rw [zc_158_0]
theorem zn_158 : znl 158 = 1 := by decide +kernel
theorem ze_158 {S : zSs} {D n u : Nat} {sh : zk_S} {d : zm_D} {Q : ((Option zv_V) ⊕ Nat) → Nat → zk_S → zm_D → Nat → Prop} {x0 : Int} : zE S D 158 [zv_a x0] n sh d u Q ↔ zB S D 158 zb_158_0 [some (zv_a x0)] [] n sh d u Q := by
  unfold zE; rw [zn_158, zc_158_0]; exact ⟨fun h => h.2, fun h => ⟨Nat.le_of_ble_eq_true rfl, h⟩⟩
theorem ze_158s {S : zSs} {D n u : Nat} {sh : zk_S} {d : zm_D} {Q : ((Option zv_V) ⊕ Nat) → Nat → zk_S → zm_D → Nat → Prop} : zE S D 158 [] n sh d u Q ↔ zB S D 158 zb_158_0 [none] [] n sh d u Q := by
  unfold zE; rw [zn_158, zc_158_0]; exact ⟨fun h => h.2, fun h => ⟨Nat.le_of_ble_eq_true rfl, h⟩⟩
theorem zh_158 : zhl 158 = [] := by decide +kernel
theorem zc_159_0 : zcd 159 0 = zb_159_0 := by decide +kernel
theorem zj_159_0 {S : zSs} {D n u : Nat} {sh : zk_S} {d : zm_D} {Q : ((Option zv_V) ⊕ Nat) → Nat → zk_S → zm_D → Nat → Prop} {L : zN} {st : List zv_V} : zJ S D 159 0 L st n sh d u Q ↔ zB S D 159 zb_159_0 L st n sh d u Q := by unfold zJ; rw [zc_159_0]
theorem zc_159_1 : zcd 159 1 = zb_159_1 := by decide +kernel
theorem zj_159_1 {S : zSs} {D n u : Nat} {sh : zk_S} {d : zm_D} {Q : ((Option zv_V) ⊕ Nat) → Nat → zk_S → zm_D → Nat → Prop} {L : zN} {st : List zv_V} : zJ S D 159 1 L st n sh d u Q ↔ zB S D 159 zb_159_1 L st n sh d u Q := by unfold zJ; rw [zc_159_1]
theorem zc_159_2 : zcd 159 2 = zb_159_2 := by decide +kernel
theorem zj_159_2 {S : zSs} {D n u : Nat} {sh : zk_S} {d : zm_D} {Q : ((Option zv_V) ⊕ Nat) → Nat → zk_S → zm_D → Nat → Prop} {L : zN} {st : List zv_V} : zJ S D 159 2 L st n sh d u Q ↔ zB S D 159 zb_159_2 L st n sh d u Q := by unfold zJ; rw [zc_159_2]
theorem zn_159 : znl 159 = 2 := by decide +kernel
theorem ze_159 {S : zSs} {D n u : Nat} {sh : zk_S} {d : zm_D} {Q : ((Option zv_V) ⊕ Nat) → Nat → zk_S → zm_D → Nat → Prop} {x0 : Int} : zE S D 159 [zv_a x0] n sh d u Q ↔ zB S D 159 zb_159_0 [some (zv_a x0), none] [] n sh d u Q := by
  unfold zE; rw [zn_159, zc_159_0]; exact ⟨fun h => h.2, fun h => ⟨Nat.le_of_ble_eq_true rfl, h⟩⟩
theorem ze_159s {S : zSs} {D n u : Nat} {sh : zk_S} {d : zm_D} {Q : ((Option zv_V) ⊕ Nat) → Nat → zk_S → zm_D → Nat → Prop} : zE S D 159 [] n sh d u Q ↔ zB S D 159 zb_159_0 [none, none] [] n sh d u Q := by
  unfold zE; rw [zn_159, zc_159_0]; exact ⟨fun h => h.2, fun h => ⟨Nat.le_of_ble_eq_true rfl, h⟩⟩
theorem zh_159 : zhl 159 = [] := by decide +kernel
theorem zc_160_0 : zcd 160 0 = zb_160_0 := by decide +kernel
theorem zj_160_0 {S : zSs} {D n u : Nat} {sh : zk_S} {d : zm_D} {Q : ((Option zv_V) ⊕ Nat) → Nat → zk_S → zm_D → Nat → Prop} {L : zN} {st : List zv_V} : zJ S D 160 0 L st n sh d u Q ↔ zB S D 160 zb_160_0 L st n sh d u Q := by unfold zJ; rw [zc_160_0]
theorem zn_160 : znl 160 = 1 := by decide +kernel
theorem ze_160 {S : zSs} {D n u : Nat} {sh : zk_S} {d : zm_D} {Q : ((Option zv_V) ⊕ Nat) → Nat → zk_S → zm_D → Nat → Prop} {x0 : Int} : zE S D 160 [zv_a x0] n sh d u Q ↔ zB S D 160 zb_160_0 [some (zv_a x0)] [] n sh d u Q := by
  unfold zE; rw [zn_160, zc_160_0]; exact ⟨fun h => h.2, fun h => ⟨Nat.le_of_ble_eq_true rfl, h⟩⟩
theorem ze_160s {S : zSs} {D n u : Nat} {sh : zk_S} {d : zm_D} {Q : ((Option zv_V) ⊕ Nat) → Nat → zk_S → zm_D → Nat → Prop} : zE S D 160 [] n sh d u Q ↔ zB S D 160 zb_160_0 [none] [] n sh d u Q := by
  unfold zE; rw [zn_160, zc_160_0]; exact ⟨fun h => h.2, fun h => ⟨Nat.le_of_ble_eq_true rfl, h⟩⟩
theorem zh_160 : zhl 160 = [] := by decide +kernel
theorem zc_161_0 : zcd 161 0 = zb_161_0 := by decide +kernel
theorem zj_161_0 {S : zSs} {D n u : Nat} {sh : zk_S} {d : zm_D} {Q : ((Option zv_V) ⊕ Nat) → Nat → zk_S → zm_D → Nat → Prop} {L : zN} {st : List zv_V} : zJ S D 161 0 L st n sh d u Q ↔ zB S D 161 zb_161_0 L st n sh d u Q := by unfold zJ; rw [zc_161_0]
theorem zn_161 : znl 161 = 1 := by decide +kernel
theorem ze_161 {S : zSs} {D n u : Nat} {sh : zk_S} {d : zm_D} {Q : ((Option zv_V) ⊕ Nat) → Nat → zk_S → zm_D → Nat → Prop} {x0 : Int} : zE S D 161 [zv_a x0] n sh d u Q ↔ zB S D 161 zb_161_0 [some (zv_a x0)] [] n sh d u Q := by
  unfold zE; rw [zn_161, zc_161_0]; exact ⟨fun h => h.2, fun h => ⟨Nat.le_of_ble_eq_true rfl, h⟩⟩
theorem ze_161s {S : zSs} {D n u : Nat} {sh : zk_S} {d : zm_D} {Q : ((Option zv_V) ⊕ Nat) → Nat → zk_S → zm_D → Nat → Prop} : zE S D 161 [] n sh d u Q ↔ zB S D 161 zb_161_0 [none] [] n sh d u Q := by
  unfold zE; rw [zn_161, zc_161_0]; exact ⟨fun h => h.2, fun h => ⟨Nat.le_of_ble_eq_true rfl, h⟩⟩
theorem zh_161 : zhl 161 = [] := by decide +kernel
theorem zc_162_0 : zcd 162 0 = zb_162_0 := by decide +kernel
theorem zj_162_0 {S : zSs} {D n u : Nat} {sh : zk_S} {d : zm_D} {Q : ((Option zv_V) ⊕ Nat) → Nat → zk_S → zm_D → Nat → Prop} {L : zN} {st : List zv_V} : zJ S D 162 0 L st n sh d u Q ↔ zB S D 162 zb_162_0 L st n sh d u Q := by unfold zJ; rw [zc_162_0]
theorem zn_162 : znl 162 = 1 := by decide +kernel
theorem ze_162 {S : zSs} {D n u : Nat} {sh : zk_S} {d : zm_D} {Q : ((Option zv_V) ⊕ Nat) → Nat → zk_S → zm_D → Nat → Prop} {x0 : Int} : zE S D 162 [zv_a x0] n sh d u Q ↔ zB S D 162 zb_162_0 [some (zv_a x0)] [] n sh d u Q := by
  unfold zE; rw [zn_162, zc_162_0]; exact ⟨fun h => h.2, fun h => ⟨Nat.le_of_ble_eq_true rfl, h⟩⟩
theorem ze_162s {S : zSs} {D n u : Nat} {sh : zk_S} {d : zm_D} {Q : ((Option zv_V) ⊕ Nat) → Nat → zk_S → zm_D → Nat → Prop} : zE S D 162 [] n sh d u Q ↔ zB S D 162 zb_162_0 [none] [] n sh d u Q := by
  unfold zE; rw [zn_162, zc_162_0]; exact ⟨fun h => h.2, fun h => ⟨Nat.le_of_ble_eq_true rfl, h⟩⟩
theorem zh_162 : zhl 162 = [] := by decide +kernel
theorem zc_163_0 : zcd 163 0 = zb_163_0 := by decide +kernel
theorem zj_163_0 {S : zSs} {D n u : Nat} {sh : zk_S} {d : zm_D} {Q : ((Option zv_V) ⊕ Nat) → Nat → zk_S → zm_D → Nat → Prop} {L : zN} {st : List zv_V} : zJ S D 163 0 L st n sh d u Q ↔ zB S D 163 zb_163_0 L st n sh d u Q := by unfold zJ; rw [zc_163_0]
theorem zc_163_1 : zcd 163 1 = zb_163_1 := by decide +kernel
theorem zj_163_1 {S : zSs} {D n u : Nat} {sh : zk_S} {d : zm_D} {Q : ((Option zv_V) ⊕ Nat) → Nat → zk_S → zm_D → Nat → Prop} {L : zN} {st : List zv_V} : zJ S D 163 1 L st n sh d u Q ↔ zB S D 163 zb_163_1 L st n sh d u Q := by unfold zJ; rw [zc_163_1]
theorem zc_163_2 : zcd 163 2 = zb_163_2 := by decide +kernel
theorem zj_163_2 {S : zSs} {D n u : Nat} {sh : zk_S} {d : zm_D} {Q : ((Option zv_V) ⊕ Nat) → Nat → zk_S → zm_D → Nat → Prop} {L : zN} {st : List zv_V} : zJ S D 163 2 L st n sh d u Q ↔ zB S D 163 zb_163_2 L st n sh d u Q := by unfold zJ; rw [zc_163_2]
theorem zn_163 : znl 163 = 4 := by decide +kernel
theorem ze_163 {S : zSs} {D n u : Nat} {sh : zk_S} {d : zm_D} {Q : ((Option zv_V) ⊕ Nat) → Nat → zk_S → zm_D → Nat → Prop} {x0 : Int} {x1 : Int} {x2 : Int} : zE S D 163 [zv_a x0, zv_i x1, zv_i x2] n sh d u Q ↔ zB S D 163 zb_163_0 [some (zv_a x0), some (zv_i x1), some (zv_i x2), none] [] n sh d u Q := by
  unfold zE; rw [zn_163, zc_163_0]; exact ⟨fun h => h.2, fun h => ⟨Nat.le_of_ble_eq_true rfl, h⟩⟩
theorem ze_163s {S : zSs} {D n u : Nat} {sh : zk_S} {d : zm_D} {Q : ((Option zv_V) ⊕ Nat) → Nat → zk_S → zm_D → Nat → Prop} {x0 : Int} {x1 : Int} : zE S D 163 [zv_i x0, zv_i x1] n sh d u Q ↔ zB S D 163 zb_163_0 [some (zv_i x0), some (zv_i x1), none, none] [] n sh d u Q := by
  unfold zE; rw [zn_163, zc_163_0]; exact ⟨fun h => h.2, fun h => ⟨Nat.le_of_ble_eq_true rfl, h⟩⟩
theorem zh_163 : zhl 163 = [] := by decide +kernel
theorem zc_164_0 : zcd 164 0 = zb_164_0 := by decide +kernel
theorem zj_164_0 {S : zSs} {D n u : Nat} {sh : zk_S} {d : zm_D} {Q : ((Option zv_V) ⊕ Nat) → Nat → zk_S → zm_D → Nat → Prop} {L : zN} {st : List zv_V} : zJ S D 164 0 L st n sh d u Q ↔ zB S D 164 zb_164_0 L st n sh d u Q := by unfold zJ; rw [zc_164_0]
theorem zn_164 : znl 164 = 2 := by decide +kernel
theorem ze_164 {S : zSs} {D n u : Nat} {sh : zk_S} {d : zm_D} {Q : ((Option zv_V) ⊕ Nat) → Nat → zk_S → zm_D → Nat → Prop} {x0 : Int} {x1 : Int} : zE S D 164 [zv_a x0, zv_i x1] n sh d u Q ↔ zB S D 164 zb_164_0 [some (zv_a x0), some (zv_i x1)] [] n sh d u Q := by
  unfold zE; rw [zn_164, zc_164_0]; exact ⟨fun h => h.2, fun h => ⟨Nat.le_of_ble_eq_true rfl, h⟩⟩
theorem ze_164s {S : zSs} {D n u : Nat} {sh : zk_S} {d : zm_D} {Q : ((Option zv_V) ⊕ Nat) → Nat → zk_S → zm_D → Nat → Prop} {x0 : Int} : zE S D 164 [zv_i x0] n sh d u Q ↔ zB S D 164 zb_164_0 [some (zv_i x0), none] [] n sh d u Q := by
  unfold zE; rw [zn_164, zc_164_0]; exact ⟨fun h => h.2, fun h => ⟨Nat.le_of_ble_eq_true rfl, h⟩⟩
theorem zh_164 : zhl 164 = [] := by decide +kernel
theorem zc_165_0 : zcd 165 0 = zb_165_0 := by decide +kernel
theorem zj_165_0 {S : zSs} {D n u : Nat} {sh : zk_S} {d : zm_D} {Q : ((Option zv_V) ⊕ Nat) → Nat → zk_S → zm_D → Nat → Prop} {L : zN} {st : List zv_V} : zJ S D 165 0 L st n sh d u Q ↔ zB S D 165 zb_165_0 L st n sh d u Q := by unfold zJ; rw [zc_165_0]
theorem zc_165_1 : zcd 165 1 = zb_165_1 := by decide +kernel
theorem zj_165_1 {S : zSs} {D n u : Nat} {sh : zk_S} {d : zm_D} {Q : ((Option zv_V) ⊕ Nat) → Nat → zk_S → zm_D → Nat → Prop} {L : zN} {st : List zv_V} : zJ S D 165 1 L st n sh d u Q ↔ zB S D 165 zb_165_1 L st n sh d u Q := by unfold zJ; rw [zc_165_1]
theorem zn_165 : znl 165 = 1 := by decide +kernel
theorem ze_165 {S : zSs} {D n u : Nat} {sh : zk_S} {d : zm_D} {Q : ((Option zv_V) ⊕ Nat) → Nat → zk_S → zm_D → Nat → Prop} {x0 : Int} : zE S D 165 [zv_a x0] n sh d u Q ↔ zB S D 165 zb_165_0 [some (zv_a x0)] [] n sh d u Q := by
  unfold zE; rw [zn_165, zc_165_0]; exact ⟨fun h => h.2, fun h => ⟨Nat.le_of_ble_eq_true rfl, h⟩⟩
theorem ze_165s {S : zSs} {D n u : Nat} {sh : zk_S} {d : zm_D} {Q : ((Option zv_V) ⊕ Nat) → Nat → zk_S → zm_D → Nat → Prop} : zE S D 165 [] n sh d u Q ↔ zB S D 165 zb_165_0 [none] [] n sh d u Q := by
  unfold zE; rw [zn_165, zc_165_0]; exact ⟨fun h => h.2, fun h => ⟨Nat.le_of_ble_eq_true rfl, h⟩⟩
theorem zh_165 : zhl 165 = [] := by decide +kernel
theorem zc_166_0 : zcd 166 0 = zb_166_0 := by decide +kernel
theorem zj_166_0 {S : zSs} {D n u : Nat} {sh : zk_S} {d : zm_D} {Q : ((Option zv_V) ⊕ Nat) → Nat → zk_S → zm_D → Nat → Prop} {L : zN} {st : List zv_V} : zJ S D 166 0 L st n sh d u Q ↔ zB S D 166 zb_166_0 L st n sh d u Q := by unfold zJ; rw [zc_166_0]
theorem zc_166_1 : zcd 166 1 = zb_166_1 := by decide +kernel
theorem zj_166_1 {S : zSs} {D n u : Nat} {sh : zk_S} {d : zm_D} {Q : ((Option zv_V) ⊕ Nat) → Nat → zk_S → zm_D → Nat → Prop} {L : zN} {st : List zv_V} : zJ S D 166 1 L st n sh d u Q ↔ zB S D 166 zb_166_1 L st n sh d u Q := by unfold zJ; rw [zc_166_1]
theorem zn_166 : znl 166 = 4 := by decide +kernel
theorem ze_166 {S : zSs} {D n u : Nat} {sh : zk_S} {d : zm_D} {Q : ((Option zv_V) ⊕ Nat) → Nat → zk_S → zm_D → Nat → Prop} {x0 : Int} {x1 : Int} : zE S D 166 [zv_a x0, zv_i x1] n sh d u Q ↔ zB S D 166 zb_166_0 [some (zv_a x0), some (zv_i x1), none, none] [] n sh d u Q := by
  unfold zE; rw [zn_166, zc_166_0]; exact ⟨fun h => h.2, fun h => ⟨Nat.le_of_ble_eq_true rfl, h⟩⟩
theorem ze_166s {S : zSs} {D n u : Nat} {sh : zk_S} {d : zm_D} {Q : ((Option zv_V) ⊕ Nat) → Nat → zk_S → zm_D → Nat → Prop} {x0 : Int} : zE S D 166 [zv_i x0] n sh d u Q ↔ zB S D 166 zb_166_0 [some (zv_i x0), none, none, none] [] n sh d u Q := by
  unfold zE; rw [zn_166, zc_166_0]; exact ⟨fun h => h.2, fun h => ⟨Nat.le_of_ble_eq_true rfl, h⟩⟩
theorem zh_166 : zhl 166 = [] := by decide +kernel
theorem zc_167_0 : zcd 167 0 = zb_167_0 := by decide +kernel
theorem zj_167_0 {S : zSs} {D n u : Nat} {sh : zk_S} {d : zm_D} {Q : ((Option zv_V) ⊕ Nat) → Nat → zk_S → zm_D → Nat → Prop} {L : zN} {st : List zv_V} : zJ S D 167 0 L st n sh d u Q ↔ zB S D 167 zb_167_0 L st n sh d u Q := by unfold zJ; rw [zc_167_0]
theorem zn_167 : znl 167 = 1 := by decide +kernel
theorem ze_167 {S : zSs} {D n u : Nat} {sh : zk_S} {d : zm_D} {Q : ((Option zv_V) ⊕ Nat) → Nat → zk_S → zm_D → Nat → Prop} {x0 : Int} : zE S D 167 [zv_a x0] n sh d u Q ↔ zB S D 167 zb_167_0 [some (zv_a x0)] [] n sh d u Q := by
  unfold zE; rw [zn_167, zc_167_0]; exact ⟨fun h => h.2, fun h => ⟨Nat.le_of_ble_eq_true rfl, h⟩⟩
theorem ze_167s {S : zSs} {D n u : Nat} {sh : zk_S} {d : zm_D} {Q : ((Option zv_V) ⊕ Nat) → Nat → zk_S → zm_D → Nat → Prop} : zE S D 167 [] n sh d u Q ↔ zB S D 167 zb_167_0 [none] [] n sh d u Q := by
  unfold zE; rw [zn_167, zc_167_0]; exact ⟨fun h => h.2, fun h => ⟨Nat.le_of_ble_eq_true rfl, h⟩⟩
theorem zh_167 : zhl 167 = [] := by decide +kernel
theorem zc_168_0 : zcd 168 0 = zb_168_0 := by decide +kernel
theorem zj_168_0 {S : zSs} {D n u : Nat} {sh : zk_S} {d : zm_D} {Q : ((Option zv_V) ⊕ Nat) → Nat → zk_S → zm_D → Nat → Prop} {L : zN} {st : List zv_V} : zJ S D 168 0 L st n sh d u Q ↔ zB S D 168 zb_168_0 L st n sh d u Q := by unfold zJ; rw [zc_168_0]
theorem zn_168 : znl 168 = 1 := by decide +kernel
theorem ze_168 {S : zSs} {D n u : Nat} {sh : zk_S} {d : zm_D} {Q : ((Option zv_V) ⊕ Nat) → Nat → zk_S → zm_D → Nat → Prop} {x0 : Int} : zE S D 168 [zv_a x0] n sh d u Q ↔ zB S D 168 zb_168_0 [some (zv_a x0)] [] n sh d u Q := by
  unfold zE; rw [zn_168, zc_168_0]; exact ⟨fun h => h.2, fun h => ⟨Nat.le_of_ble_eq_true rfl, h⟩⟩
theorem ze_168s {S : zSs} {D n u : Nat} {sh : zk_S} {d : zm_D} {Q : ((Option zv_V) ⊕ Nat) → Nat → zk_S → zm_D → Nat → Prop} : zE S D 168 [] n sh d u Q ↔ zB S D 168 zb_168_0 [none] [] n sh d u Q := by
  unfold zE; rw [zn_168, zc_168_0]; exact ⟨fun h => h.2, fun h => ⟨Nat.le_of_ble_eq_true rfl, h⟩⟩
theorem zh_168 : zhl 168 = [] := by decide +kernel
theorem zc_169_0 : zcd 169 0 = zb_169_0 := by decide +kernel
theorem zj_169_0 {S : zSs} {D n u : Nat} {sh : zk_S} {d : zm_D} {Q : ((Option zv_V) ⊕ Nat) → Nat → zk_S → zm_D → Nat → Prop} {L : zN} {st : List zv_V} : zJ S D 169 0 L st n sh d u Q ↔ zB S D 169 zb_169_0 L st n sh d u Q := by unfold zJ; rw [zc_169_0]
theorem zn_169 : znl 169 = 2 := by decide +kernel
theorem ze_169 {S : zSs} {D n u : Nat} {sh : zk_S} {d : zm_D} {Q : ((Option zv_V) ⊕ Nat) → Nat → zk_S → zm_D → Nat → Prop} {x0 : Int} {x1 : Int} : zE S D 169 [zv_a x0, zv_i x1] n sh d u Q ↔ zB S D 169 zb_169_0 [some (zv_a x0), some (zv_i x1)] [] n sh d u Q := by
  unfold zE; rw [zn_169, zc_169_0]; exact ⟨fun h => h.2, fun h => ⟨Nat.le_of_ble_eq_true rfl, h⟩⟩
theorem ze_169s {S : zSs} {D n u : Nat} {sh : zk_S} {d : zm_D} {Q : ((Option zv_V) ⊕ Nat) → Nat → zk_S → zm_D → Nat → Prop} {x0 : Int} : zE S D 169 [zv_i x0] n sh d u Q ↔ zB S D 169 zb_169_0 [some (zv_i x0), none] [] n sh d u Q := by
  unfold zE; rw [zn_169, zc_169_0]; exact ⟨fun h => h.2, fun h => ⟨Nat.le_of_ble_eq_true rfl, h⟩⟩
theorem zh_169 : zhl 169 = [] := by decide +kernel
theorem zc_170_0 : zcd 170 0 = zb_170_0 := by decide +kernel
theorem zj_170_0 {S : zSs} {D n u : Nat} {sh : zk_S} {d : zm_D} {Q : ((Option zv_V) ⊕ Nat) → Nat → zk_S → zm_D → Nat → Prop} {L : zN} {st : List zv_V} : zJ S D 170 0 L st n sh d u Q ↔ zB S D 170 zb_170_0 L st n sh d u Q := by unfold zJ; rw [zc_170_0]
theorem zn_170 : znl 170 = 2 := by decide +kernel
theorem ze_170 {S : zSs} {D n u : Nat} {sh : zk_S} {d : zm_D} {Q : ((Option zv_V) ⊕ Nat) → Nat → zk_S → zm_D → Nat → Prop} {x0 : Int} {x1 : Int} : zE S D 170 [zv_a x0, zv_i x1] n sh d u Q ↔ zB S D 170 zb_170_0 [some (zv_a x0), some (zv_i x1)] [] n sh d u Q := by
  unfold zE; rw [zn_170, zc_170_0]; exact ⟨fun h => h.2, fun h => ⟨Nat.le_of_ble_eq_true rfl, h⟩⟩
theorem ze_170s {S : zSs} {D n u : Nat} {sh : zk_S} {d : zm_D} {Q : ((Option zv_V) ⊕ Nat) → Nat → zk_S → zm_D → Nat → Prop} {x0 : Int} : zE S D 170 [zv_i x0] n sh d u Q ↔ zB S D 170 zb_170_0 [some (zv_i x0), none] [] n sh d u Q := by
  unfold zE; rw [zn_170, zc_170_0]; exact ⟨fun h => h.2, fun h => ⟨Nat.le_of_ble_eq_true rfl, h⟩⟩
theorem zh_170 : zhl 170 = [] := by decide +kernel
theorem zc_171_0 : zcd 171 0 = zb_171_0 := by decide +kernel
theorem zj_171_0 {S : zSs} {D n u : Nat} {sh : zk_S} {d : zm_D} {Q : ((Option zv_V) ⊕ Nat) → Nat → zk_S → zm_D → Nat → Prop} {L : zN} {st : List zv_V} : zJ S D 171 0 L st n sh d u Q ↔ zB S D 171 zb_171_0 L st n sh d u Q := by unfold zJ; rw [zc_171_0]
theorem zn_171 : znl 171 = 2 := by decide +kernel
theorem ze_171 {S : zSs} {D n u : Nat} {sh : zk_S} {d : zm_D} {Q : ((Option zv_V) ⊕ Nat) → Nat → zk_S → zm_D → Nat → Prop} {x0 : Int} {x1 : Int} : zE S D 171 [zv_a x0, zv_i x1] n sh d u Q ↔ zB S D 171 zb_171_0 [some (zv_a x0), some (zv_i x1)] [] n sh d u Q := by
  unfold zE; rw [zn_171, zc_171_0]; exact ⟨fun h => h.2, fun h => ⟨Nat.le_of_ble_eq_true rfl, h⟩⟩
theorem ze_171s {S : zSs} {D n u : Nat} {sh : zk_S} {d : zm_D} {Q : ((Option zv_V) ⊕ Nat) → Nat → zk_S → zm_D → Nat → Prop} {x0 : Int} : zE S D 171 [zv_i x0] n sh d u Q ↔ zB S D 171 zb_171_0 [some (zv_i x0), none] [] n sh d u Q := by
  unfold zE; rw [zn_171, zc_171_0]; exact ⟨fun h => h.2, fun h => ⟨Nat.le_of_ble_eq_true rfl, h⟩⟩
theorem zh_171 : zhl 171 = [] := by decide +kernel
theorem zc_172_0 : zcd 172 0 = zb_172_0 := by decide +kernel
theorem zj_172_0 {S : zSs} {D n u : Nat} {sh : zk_S} {d : zm_D} {Q : ((Option zv_V) ⊕ Nat) → Nat → zk_S → zm_D → Nat → Prop} {L : zN} {st : List zv_V} : zJ S D 172 0 L st n sh d u Q ↔ zB S D 172 zb_172_0 L st n sh d u Q := by unfold zJ; rw [zc_172_0]
theorem zn_172 : znl 172 = 2 := by decide +kernel
theorem ze_172 {S : zSs} {D n u : Nat} {sh : zk_S} {d : zm_D} {Q : ((Option zv_V) ⊕ Nat) → Nat → zk_S → zm_D → Nat → Prop} {x0 : Int} {x1 : Int} : zE S D 172 [zv_a x0, zv_i x1] n sh d u Q ↔ zB S D 172 zb_172_0 [some (zv_a x0), some (zv_i x1)] [] n sh d u Q := by
  unfold zE; rw [zn_172, zc_172_0]; exact ⟨fun h => h.2, fun h => ⟨Nat.le_of_ble_eq_true rfl, h⟩⟩
theorem ze_172s {S : zSs} {D n u : Nat} {sh : zk_S} {d : zm_D} {Q : ((Option zv_V) ⊕ Nat) → Nat → zk_S → zm_D → Nat → Prop} {x0 : Int} : zE S D 172 [zv_i x0] n sh d u Q ↔ zB S D 172 zb_172_0 [some (zv_i x0), none] [] n sh d u Q := by
  unfold zE; rw [zn_172, zc_172_0]; exact ⟨fun h => h.2, fun h => ⟨Nat.le_of_ble_eq_true rfl, h⟩⟩
theorem zh_172 : zhl 172 = [] := by decide +kernel
theorem zc_173_0 : zcd 173 0 = zb_173_0 := by decide +kernel
theorem zj_173_0 {S : zSs} {D n u : Nat} {sh : zk_S} {d : zm_D} {Q : ((Option zv_V) ⊕ Nat) → Nat → zk_S → zm_D → Nat → Prop} {L : zN} {st : List zv_V} : zJ S D 173 0 L st n sh d u Q ↔ zB S D 173 zb_173_0 L st n sh d u Q := by unfold zJ; rw [zc_173_0]
theorem zn_173 : znl 173 = 2 := by decide +kernel
theorem ze_173 {S : zSs} {D n u : Nat} {sh : zk_S} {d : zm_D} {Q : ((Option zv_V) ⊕ Nat) → Nat → zk_S → zm_D → Nat → Prop} {x0 : Int} {x1 : Int} : zE S D 173 [zv_a x0, zv_i x1] n sh d u Q ↔ zB S D 173 zb_173_0 [some (zv_a x0), some (zv_i x1)] [] n sh d u Q := by
  unfold zE; rw [zn_173, zc_173_0]; exact ⟨fun h => h.2, fun h => ⟨Nat.le_of_ble_eq_true rfl, h⟩⟩
theorem ze_173s {S : zSs} {D n u : Nat} {sh : zk_S} {d : zm_D} {Q : ((Option zv_V) ⊕ Nat) → Nat → zk_S → zm_D → Nat → Prop} {x0 : Int} : zE S D 173 [zv_i x0] n sh d u Q ↔ zB S D 173 zb_173_0 [some (zv_i x0), none] [] n sh d u Q := by
  unfold zE; rw [zn_173, zc_173_0]; exact ⟨fun h => h.2, fun h => ⟨Nat.le_of_ble_eq_true rfl, h⟩⟩
theorem zh_173 : zhl 173 = [] := by decide +kernel
theorem zc_174_0 : zcd 174 0 = zb_174_0 := by decide +kernel
theorem zj_174_0 {S : zSs} {D n u : Nat} {sh : zk_S} {d : zm_D} {Q : ((Option zv_V) ⊕ Nat) → Nat → zk_S → zm_D → Nat → Prop} {L : zN} {st : List zv_V} : zJ S D 174 0 L st n sh d u Q ↔ zB S D 174 zb_174_0 L st n sh d u Q := by unfold zJ; rw [zc_174_0]
theorem zn_174 : znl 174 = 2 := by decide +kernel
theorem ze_174 {S : zSs} {D n u : Nat} {sh : zk_S} {d : zm_D} {Q : ((Option zv_V) ⊕ Nat) → Nat → zk_S → zm_D → Nat → Prop} {x0 : Int} {x1 : Int} : zE S D 174 [zv_a x0, zv_i x1] n sh d u Q ↔ zB S D 174 zb_174_0 [some (zv_a x0), some (zv_i x1)] [] n sh d u Q := by
  unfold zE; rw [zn_174, zc_174_0]; exact ⟨fun h => h.2, fun h => ⟨Nat.le_of_ble_eq_true rfl, h⟩⟩
theorem ze_174s {S : zSs} {D n u : Nat} {sh : zk_S} {d : zm_D} {Q : ((Option zv_V) ⊕ Nat) → Nat → zk_S → zm_D → Nat → Prop} {x0 : Int} : zE S D 174 [zv_i x0] n sh d u Q ↔ zB S D 174 zb_174_0 [some (zv_i x0), none] [] n sh d u Q := by
  unfold zE; rw [zn_174, zc_174_0]; exact ⟨fun h => h.2, fun h => ⟨Nat.le_of_ble_eq_true rfl, h⟩⟩
theorem zh_174 : zhl 174 = [] := by decide +kernel
theorem zc_175_0 : zcd 175 0 = zb_175_0 := by decide +kernel
theorem zj_175_0 {S : zSs} {D n u : Nat} {sh : zk_S} {d : zm_D} {Q : ((Option zv_V) ⊕ Nat) → Nat → zk_S → zm_D → Nat → Prop} {L : zN} {st : List zv_V} : zJ S D 175 0 L st n sh d u Q ↔ zB S D 175 zb_175_0 L st n sh d u Q := by unfold zJ; rw [zc_175_0]
theorem zn_175 : znl 175 = 1 := by decide +kernel
theorem ze_175 {S : zSs} {D n u : Nat} {sh : zk_S} {d : zm_D} {Q : ((Option zv_V) ⊕ Nat) → Nat → zk_S → zm_D → Nat → Prop} {x0 : Int} : zE S D 175 [zv_a x0] n sh d u Q ↔ zB S D 175 zb_175_0 [some (zv_a x0)] [] n sh d u Q := by
  unfold zE; rw [zn_175, zc_175_0]; exact ⟨fun h => h.2, fun h => ⟨Nat.le_of_ble_eq_true rfl, h⟩⟩
theorem ze_175s {S : zSs} {D n u : Nat} {sh : zk_S} {d : zm_D} {Q : ((Option zv_V) ⊕ Nat) → Nat → zk_S → zm_D → Nat → Prop} : zE S D 175 [] n sh d u Q ↔ zB S D 175 zb_175_0 [none] [] n sh d u Q := by
  unfold zE; rw [zn_175, zc_175_0]; exact ⟨fun h => h.2, fun h => ⟨Nat.le_of_ble_eq_true rfl, h⟩⟩
theorem zh_175 : zhl 175 = [] := by decide +kernel
theorem zc_176_0 : zcd 176 0 = zb_176_0 := by decide +kernel
theorem zj_176_0 {S : zSs} {D n u : Nat} {sh : zk_S} {d : zm_D} {Q : ((Option zv_V) ⊕ Nat) → Nat → zk_S → zm_D → Nat → Prop} {L : zN} {st : List zv_V} : zJ S D 176 0 L st n sh d u Q ↔ zB S D 176 zb_176_0 L st n sh d u Q := by unfold zJ; rw [zc_176_0]
theorem zn_176 : znl 176 = 3 := by decide +kernel
theorem ze_176 {S : zSs} {D n u : Nat} {sh : zk_S} {d : zm_D} {Q : ((Option zv_V) ⊕ Nat) → Nat → zk_S → zm_D → Nat → Prop} {x0 : Int} {x1 : Int} {x2 : Int} : zE S D 176 [zv_a x0, zv_i x1, zv_i x2] n sh d u Q ↔ zB S D 176 zb_176_0 [some (zv_a x0), some (zv_i x1), some (zv_i x2)] [] n sh d u Q := by
  unfold zE; rw [zn_176, zc_176_0]; exact ⟨fun h => h.2, fun h => ⟨Nat.le_of_ble_eq_true rfl, h⟩⟩
theorem ze_176s {S : zSs} {D n u : Nat} {sh : zk_S} {d : zm_D} {Q : ((Option zv_V) ⊕ Nat) → Nat → zk_S → zm_D → Nat → Prop} {x0 : Int} {x1 : Int} : zE S D 176 [zv_i x0, zv_i x1] n sh d u Q ↔ zB S D 176 zb_176_0 [some (zv_i x0), some (zv_i x1), none] [] n sh d u Q := by
  unfold zE; rw [zn_176, zc_176_0]; exact ⟨fun h => h.2, fun h => ⟨Nat.le_of_ble_eq_true rfl, h⟩⟩
theorem zh_176 : zhl 176 = [] := by decide +kernel
theorem zc_177_0 : zcd 177 0 = zb_177_0 := by decide +kernel
theorem zj_177_0 {S : zSs} {D n u : Nat} {sh : zk_S} {d : zm_D} {Q : ((Option zv_V) ⊕ Nat) → Nat → zk_S → zm_D → Nat → Prop} {L : zN} {st : List zv_V} : zJ S D 177 0 L st n sh d u Q ↔ zB S D 177 zb_177_0 L st n sh d u Q := by unfold zJ; rw [zc_177_0]
theorem zn_177 : znl 177 = 3 := by decide +kernel
theorem ze_177 {S : zSs} {D n u : Nat} {sh : zk_S} {d : zm_D} {Q : ((Option zv_V) ⊕ Nat) → Nat → zk_S → zm_D → Nat → Prop} {x0 : Int} {x1 : Int} {x2 : Int} : zE S D 177 [zv_a x0, zv_i x1, zv_i x2] n sh d u Q ↔ zB S D 177 zb_177_0 [some (zv_a x0), some (zv_i x1), some (zv_i x2)] [] n sh d u Q := by
  unfold zE; rw [zn_177, zc_177_0]; exact ⟨fun h => h.2, fun h => ⟨Nat.le_of_ble_eq_true rfl, h⟩⟩
theorem ze_177s {S : zSs} {D n u : Nat} {sh : zk_S} {d : zm_D} {Q : ((Option zv_V) ⊕ Nat) → Nat → zk_S → zm_D → Nat → Prop} {x0 : Int} {x1 : Int} : zE S D 177 [zv_i x0, zv_i x1] n sh d u Q ↔ zB S D 177 zb_177_0 [some (zv_i x0), some (zv_i x1), none] [] n sh d u Q := by
  unfold zE; rw [zn_177, zc_177_0]; exact ⟨fun h => h.2, fun h => ⟨Nat.le_of_ble_eq_true rfl, h⟩⟩
theorem zh_177 : zhl 177 = [] := by decide +kernel
theorem zc_178_0 : zcd 178 0 = zb_178_0 := by decide +kernel
theorem zj_178_0 {S : zSs} {D n u : Nat} {sh : zk_S} {d : zm_D} {Q : ((Option zv_V) ⊕ Nat) → Nat → zk_S → zm_D → Nat → Prop} {L : zN} {st : List zv_V} : zJ S D 178 0 L st n sh d u Q ↔ zB S D 178 zb_178_0 L st n sh d u Q := by unfold zJ; rw [zc_178_0]
theorem zc_178_1 : zcd 178 1 = zb_178_1 := by decide +kernel
theorem zj_178_1 {S : zSs} {D n u : Nat} {sh : zk_S} {d : zm_D} {Q : ((Option zv_V) ⊕ Nat) → Nat → zk_S → zm_D → Nat → Prop} {L : zN} {st : List zv_V} : zJ S D 178 1 L st n sh d u Q ↔ zB S D 178 zb_178_1 L st n sh d u Q := by unfold zJ; rw [zc_178_1]
theorem zc_178_2 : zcd 178 2 = zb_178_2 := by decide +kernel
theorem zj_178_2 {S : zSs} {D n u : Nat} {sh : zk_S} {d : zm_D} {Q : ((Option zv_V) ⊕ Nat) → Nat → zk_S → zm_D → Nat → Prop} {L : zN} {st : List zv_V} : zJ S D 178 2 L st n sh d u Q ↔ zB S D 178 zb_178_2 L st n sh d u Q := by unfold zJ; rw [zc_178_2]
theorem zc_178_3 : zcd 178 3 = zb_178_3 := by decide +kernel
theorem zj_178_3 {S : zSs} {D n u : Nat} {sh : zk_S} {d : zm_D} {Q : ((Option zv_V) ⊕ Nat) → Nat → zk_S → zm_D → Nat → Prop} {L : zN} {st : List zv_V} : zJ S D 178 3 L st n sh d u Q ↔ zB S D 178 zb_178_3 L st n sh d u Q := by unfold zJ; rw [zc_178_3]
theorem zc_178_4 : zcd 178 4 = zb_178_4 := by decide +kernel
theorem zj_178_4 {S : zSs} {D n u : Nat} {sh : zk_S} {d : zm_D} {Q : ((Option zv_V) ⊕ Nat) → Nat → zk_S → zm_D → Nat → Prop} {L : zN} {st : List zv_V} : zJ S D 178 4 L st n sh d u Q ↔ zB S D 178 zb_178_4 L st n sh d u Q := by unfold zJ; rw [zc_178_4]
theorem zn_178 : znl 178 = 7 := by decide +kernel
theorem ze_178 {S : zSs} {D n u : Nat} {sh : zk_S} {d : zm_D} {Q : ((Option zv_V) ⊕ Nat) → Nat → zk_S → zm_D → Nat → Prop} {x0 : Int} : zE S D 178 [zv_a x0] n sh d u Q ↔ zB S D 178 zb_178_0 [some (zv_a x0), none, none, none, none, none, none] [] n sh d u Q := by
  unfold zE; rw [zn_178, zc_178_0]; exact ⟨fun h => h.2, fun h => ⟨Nat.le_of_ble_eq_true rfl, h⟩⟩
theorem ze_178s {S : zSs} {D n u : Nat} {sh : zk_S} {d : zm_D} {Q : ((Option zv_V) ⊕ Nat) → Nat → zk_S → zm_D → Nat → Prop} : zE S D 178 [] n sh d u Q ↔ zB S D 178 zb_178_0 [none, none, none, none, none, none, none] [] n sh d u Q := by
  unfold zE; rw [zn_178, zc_178_0]; exact ⟨fun h => h.2, fun h => ⟨Nat.le_of_ble_eq_true rfl, h⟩⟩
theorem zh_178 : zhl 178 = [] := by decide +kernel
theorem zc_179_0 : zcd 179 0 = zb_179_0 := by decide +kernel
theorem zj_179_0 {S : zSs} {D n u : Nat} {sh : zk_S} {d : zm_D} {Q : ((Option zv_V) ⊕ Nat) → Nat → zk_S → zm_D → Nat → Prop} {L : zN} {st : List zv_V} : zJ S D 179 0 L st n sh d u Q ↔ zB S D 179 zb_179_0 L st n sh d u Q := by unfold zJ; rw [zc_179_0]
theorem zn_179 : znl 179 = 1 := by decide +kernel
theorem ze_179 {S : zSs} {D n u : Nat} {sh : zk_S} {d : zm_D} {Q : ((Option zv_V) ⊕ Nat) → Nat → zk_S → zm_D → Nat → Prop} {x0 : Int} : zE S D 179 [zv_a x0] n sh d u Q ↔ zB S D 179 zb_179_0 [some (zv_a x0)] [] n sh d u Q := by
  unfold zE; rw [zn_179, zc_179_0]; exact ⟨fun h => h.2, fun h => ⟨Nat.le_of_ble_eq_true rfl, h⟩⟩
theorem ze_179s {S : zSs} {D n u : Nat} {sh : zk_S} {d : zm_D} {Q : ((Option zv_V) ⊕ Nat) → Nat → zk_S → zm_D → Nat → Prop} : zE S D 179 [] n sh d u Q ↔ zB S D 179 zb_179_0 [none] [] n sh d u Q := by
  unfold zE; rw [zn_179, zc_179_0]; exact ⟨fun h => h.2, fun h => ⟨Nat.le_of_ble_eq_true rfl, h⟩⟩
theorem zh_179 : zhl 179 = [] := by decide +kernel
theorem zc_180_0 : zcd 180 0 = zb_180_0 := by decide +kernel
theorem zj_180_0 {S : zSs} {D n u : Nat} {sh : zk_S} {d : zm_D} {Q : ((Option zv_V) ⊕ Nat) → Nat → zk_S → zm_D → Nat → Prop} {L : zN} {st : List zv_V} : zJ S D 180 0 L st n sh d u Q ↔ zB S D 180 zb_180_0 L st n sh d u Q := by unfold zJ; rw [zc_180_0]
theorem zc_180_1 : zcd 180 1 = zb_180_1 := by decide +kernel
theorem zj_180_1 {S : zSs} {D n u : Nat} {sh : zk_S} {d : zm_D} {Q : ((Option zv_V) ⊕ Nat) → Nat → zk_S → zm_D → Nat → Prop} {L : zN} {st : List zv_V} : zJ S D 180 1 L st n sh d u Q ↔ zB S D 180 zb_180_1 L st n sh d u Q := by unfold zJ; rw [zc_180_1]
theorem zc_180_2 : zcd 180 2 = zb_180_2 := by decide +kernel
theorem zj_180_2 {S : zSs} {D n u : Nat} {sh : zk_S} {d : zm_D} {Q : ((Option zv_V) ⊕ Nat) → Nat → zk_S → zm_D → Nat → Prop} {L : zN} {st : List zv_V} : zJ S D 180 2 L st n sh d u Q ↔ zB S D 180 zb_180_2 L st n sh d u Q := by unfold zJ; rw [zc_180_2]
theorem zc_180_3 : zcd 180 3 = zb_180_3 := by decide +kernel
theorem zj_180_3 {S : zSs} {D n u : Nat} {sh : zk_S} {d : zm_D} {Q : ((Option zv_V) ⊕ Nat) → Nat → zk_S → zm_D → Nat → Prop} {L : zN} {st : List zv_V} : zJ S D 180 3 L st n sh d u Q ↔ zB S D 180 zb_180_3 L st n sh d u Q := by unfold zJ; rw [zc_180_3]
theorem zn_180 : znl 180 = 3 := by decide +kernel
theorem ze_180 {S : zSs} {D n u : Nat} {sh : zk_S} {d : zm_D} {Q : ((Option zv_V) ⊕ Nat) → Nat → zk_S → zm_D → Nat → Prop} {x0 : Int} : zE S D 180 [zv_a x0] n sh d u Q ↔ zB S D 180 zb_180_0 [some (zv_a x0), none, none] [] n sh d u Q := by
  unfold zE; rw [zn_180, zc_180_0]; exact ⟨fun h => h.2, fun h => ⟨Nat.le_of_ble_eq_true rfl, h⟩⟩
theorem ze_180s {S : zSs} {D n u : Nat} {sh : zk_S} {d : zm_D} {Q : ((Option zv_V) ⊕ Nat) → Nat → zk_S → zm_D → Nat → Prop} : zE S D 180 [] n sh d u Q ↔ zB S D 180 zb_180_0 [none, none, none] [] n sh d u Q := by
  unfold zE; rw [zn_180, zc_180_0]; exact ⟨fun h => h.2, fun h => ⟨Nat.le_of_ble_eq_true rfl, h⟩⟩
theorem zh_180 : zhl 180 = [] := by decide +kernel
theorem zc_181_0 : zcd 181 0 = zb_181_0 := by decide +kernel
theorem zj_181_0 {S : zSs} {D n u : Nat} {sh : zk_S} {d : zm_D} {Q : ((Option zv_V) ⊕ Nat) → Nat → zk_S → zm_D → Nat → Prop} {L : zN} {st : List zv_V} : zJ S D 181 0 L st n sh d u Q ↔ zB S D 181 zb_181_0 L st n sh d u Q := by unfold zJ; rw [zc_181_0]
theorem zn_181 : znl 181 = 1 := by decide +kernel
theorem ze_181 {S : zSs} {D n u : Nat} {sh : zk_S} {d : zm_D} {Q : ((Option zv_V) ⊕ Nat) → Nat → zk_S → zm_D → Nat → Prop} {x0 : Int} : zE S D 181 [zv_a x0] n sh d u Q ↔ zB S D 181 zb_181_0 [some (zv_a x0)] [] n sh d u Q := by
  unfold zE; rw [zn_181, zc_181_0]; exact ⟨fun h => h.2, fun h => ⟨Nat.le_of_ble_eq_true rfl, h⟩⟩
theorem ze_181s {S : zSs} {D n u : Nat} {sh : zk_S} {d : zm_D} {Q : ((Option zv_V) ⊕ Nat) → Nat → zk_S → zm_D → Nat → Prop} : zE S D 181 [] n sh d u Q ↔ zB S D 181 zb_181_0 [none] [] n sh d u Q := by
  unfold zE; rw [zn_181, zc_181_0]; exact ⟨fun h => h.2, fun h => ⟨Nat.le_of_ble_eq_true rfl, h⟩⟩
theorem zh_181 : zhl 181 = [] := by decide +kernel
theorem zc_182_0 : zcd 182 0 = zb_182_0 := by decide +kernel
theorem zj_182_0 {S : zSs} {D n u : Nat} {sh : zk_S} {d : zm_D} {Q : ((Option zv_V) ⊕ Nat) → Nat → zk_S → zm_D → Nat → Prop} {L : zN} {st : List zv_V} : zJ S D 182 0 L st n sh d u Q ↔ zB S D 182 zb_182_0 L st n sh d u Q := by unfold zJ; rw [zc_182_0]
theorem zc_182_1 : zcd 182 1 = zb_182_1 := by decide +kernel
theorem zj_182_1 {S : zSs} {D n u : Nat} {sh : zk_S} {d : zm_D} {Q : ((Option zv_V) ⊕ Nat) → Nat → zk_S → zm_D → Nat → Prop} {L : zN} {st : List zv_V} : zJ S D 182 1 L st n sh d u Q ↔ zB S D 182 zb_182_1 L st n sh d u Q := by unfold zJ; rw [zc_182_1]
theorem zc_182_2 : zcd 182 2 = zb_182_2 := by decide +kernel
theorem zj_182_2 {S : zSs} {D n u : Nat} {sh : zk_S} {d : zm_D} {Q : ((Option zv_V) ⊕ Nat) → Nat → zk_S → zm_D → Nat → Prop} {L : zN} {st : List zv_V} : zJ S D 182 2 L st n sh d u Q ↔ zB S D 182 zb_182_2 L st n sh d u Q := by unfold zJ; rw [zc_182_2]
theorem zn_182 : znl 182 = 1 := by decide +kernel
theorem ze_182 {S : zSs} {D n u : Nat} {sh : zk_S} {d : zm_D} {Q : ((Option zv_V) ⊕ Nat) → Nat → zk_S → zm_D → Nat → Prop} {x0 : Int} : zE S D 182 [zv_a x0] n sh d u Q ↔ zB S D 182 zb_182_0 [some (zv_a x0)] [] n sh d u Q := by
  unfold zE; rw [zn_182, zc_182_0]; exact ⟨fun h => h.2, fun h => ⟨Nat.le_of_ble_eq_true rfl, h⟩⟩
theorem ze_182s {S : zSs} {D n u : Nat} {sh : zk_S} {d : zm_D} {Q : ((Option zv_V) ⊕ Nat) → Nat → zk_S → zm_D → Nat → Prop} : zE S D 182 [] n sh d u Q ↔ zB S D 182 zb_182_0 [none] [] n sh d u Q := by
  unfold zE; rw [zn_182, zc_182_0]; exact ⟨fun h => h.2, fun h => ⟨Nat.le_of_ble_eq_true rfl, h⟩⟩
theorem zh_182 : zhl 182 = [] := by decide +kernel
theorem zc_183_0 : zcd 183 0 = zb_183_0 := by decide +kernel
theorem zj_183_0 {S : zSs} {D n u : Nat} {sh : zk_S} {d : zm_D} {Q : ((Option zv_V) ⊕ Nat) → Nat → zk_S → zm_D → Nat → Prop} {L : zN} {st : List zv_V} : zJ S D 183 0 L st n sh d u Q ↔ zB S D 183 zb_183_0 L st n sh d u Q := by unfold zJ; rw [zc_183_0]
theorem zc_183_1 : zcd 183 1 = zb_183_1 := by decide +kernel
theorem zj_183_1 {S : zSs} {D n u : Nat} {sh : zk_S} {d : zm_D} {Q : ((Option zv_V) ⊕ Nat) → Nat → zk_S → zm_D → Nat → Prop} {L : zN} {st : List zv_V} : zJ S D 183 1 L st n sh d u Q ↔ zB S D 183 zb_183_1 L st n sh d u Q := by unfold zJ; rw [zc_183_1]
theorem zc_183_2 : zcd 183 2 = zb_183_2 := by decide +kernel
theorem zj_183_2 {S : zSs} {D n u : Nat} {sh : zk_S} {d : zm_D} {Q : ((Option zv_V) ⊕ Nat) → Nat → zk_S → zm_D → Nat → Prop} {L : zN} {st : List zv_V} : zJ S D 183 2 L st n sh d u Q ↔ zB S D 183 zb_183_2 L st n sh d u Q := by unfold zJ; rw [zc_183_2]
theorem zn_183 : znl 183 = 2 := by decide +kernel
theorem ze_183 {S : zSs} {D n u : Nat} {sh : zk_S} {d : zm_D} {Q : ((Option zv_V) ⊕ Nat) → Nat → zk_S → zm_D → Nat → Prop} {x0 : Int} {x1 : Int} : zE S D 183 [zv_a x0, zv_i x1] n sh d u Q ↔ zB S D 183 zb_183_0 [some (zv_a x0), some (zv_i x1)] [] n sh d u Q := by
  unfold zE; rw [zn_183, zc_183_0]; exact ⟨fun h => h.2, fun h => ⟨Nat.le_of_ble_eq_true rfl, h⟩⟩
theorem ze_183s {S : zSs} {D n u : Nat} {sh : zk_S} {d : zm_D} {Q : ((Option zv_V) ⊕ Nat) → Nat → zk_S → zm_D → Nat → Prop} {x0 : Int} : zE S D 183 [zv_i x0] n sh d u Q ↔ zB S D 183 zb_183_0 [some (zv_i x0), none] [] n sh d u Q := by
  unfold zE; rw [zn_183, zc_183_0]; exact ⟨fun h => h.2, fun h => ⟨Nat.le_of_ble_eq_true rfl, h⟩⟩
theorem zh_183 : zhl 183 = [] := by decide +kernel
theorem zc_184_0 : zcd 184 0 = zb_184_0 := by decide +kernel
theorem zj_184_0 {S : zSs} {D n u : Nat} {sh : zk_S} {d : zm_D} {Q : ((Option zv_V) ⊕ Nat) → Nat → zk_S → zm_D → Nat → Prop} {L : zN} {st : List zv_V} : zJ S D 184 0 L st n sh d u Q ↔ zB S D 184 zb_184_0 L st n sh d u Q := by unfold zJ; rw [zc_184_0]
theorem zc_184_1 : zcd 184 1 = zb_184_1 := by decide +kernel
theorem zj_184_1 {S : zSs} {D n u : Nat} {sh : zk_S} {d : zm_D} {Q : ((Option zv_V) ⊕ Nat) → Nat → zk_S → zm_D → Nat → Prop} {L : zN} {st : List zv_V} : zJ S D 184 1 L st n sh d u Q ↔ zB S D 184 zb_184_1 L st n sh d u Q := by unfold zJ; rw [zc_184_1]
theorem zc_184_2 : zcd 184 2 = zb_184_2 := by decide +kernel
theorem zj_184_2 {S : zSs} {D n u : Nat} {sh : zk_S} {d : zm_D} {Q : ((Option zv_V) ⊕ Nat) → Nat → zk_S → zm_D → Nat → Prop} {L : zN} {st : List zv_V} : zJ S D 184 2 L st n sh d u Q ↔ zB S D 184 zb_184_2 L st n sh d u Q := by unfold zJ; rw [zc_184_2]
theorem zn_184 : znl 184 = 2 := by decide +kernel
theorem ze_184 {S : zSs} {D n u : Nat} {sh : zk_S} {d : zm_D} {Q : ((Option zv_V) ⊕ Nat) → Nat → zk_S → zm_D → Nat → Prop} {x0 : Int} {x1 : Int} : zE S D 184 [zv_a x0, zv_i x1] n sh d u Q ↔ zB S D 184 zb_184_0 [some (zv_a x0), some (zv_i x1)] [] n sh d u Q := by
  unfold zE; rw [zn_184, zc_184_0]; exact ⟨fun h => h.2, fun h => ⟨Nat.le_of_ble_eq_true rfl, h⟩⟩
theorem ze_184s {S : zSs} {D n u : Nat} {sh : zk_S} {d : zm_D} {Q : ((Option zv_V) ⊕ Nat) → Nat → zk_S → zm_D → Nat → Prop} {x0 : Int} : zE S D 184 [zv_i x0] n sh d u Q ↔ zB S D 184 zb_184_0 [some (zv_i x0), none] [] n sh d u Q := by
  unfold zE; rw [zn_184, zc_184_0]; exact ⟨fun h => h.2, fun h => ⟨Nat.le_of_ble_eq_true rfl, h⟩⟩
theorem zh_184 : zhl 184 = [] := by decide +kernel
theorem zc_185_0 : zcd 185 0 = zb_185_0 := by decide +kernel
theorem zj_185_0 {S : zSs} {D n u : Nat} {sh : zk_S} {d : zm_D} {Q : ((Option zv_V) ⊕ Nat) → Nat → zk_S → zm_D → Nat → Prop} {L : zN} {st : List zv_V} : zJ S D 185 0 L st n sh d u Q ↔ zB S D 185 zb_185_0 L st n sh d u Q := by unfold zJ; rw [zc_185_0]
theorem zc_185_1 : zcd 185 1 = zb_185_1 := by decide +kernel
theorem zj_185_1 {S : zSs} {D n u : Nat} {sh : zk_S} {d : zm_D} {Q : ((Option zv_V) ⊕ Nat) → Nat → zk_S → zm_D → Nat → Prop} {L : zN} {st : List zv_V} : zJ S D 185 1 L st n sh d u Q ↔ zB S D 185 zb_185_1 L st n sh d u Q := by unfold zJ; rw [zc_185_1]
theorem zc_185_2 : zcd 185 2 = zb_185_2 := by decide +kernel
theorem zj_185_2 {S : zSs} {D n u : Nat} {sh : zk_S} {d : zm_D} {Q : ((Option zv_V) ⊕ Nat) → Nat → zk_S → zm_D → Nat → Prop} {L : zN} {st : List zv_V} : zJ S D 185 2 L st n sh d u Q ↔ zB S D 185 zb_185_2 L st n sh d u Q := by unfold zJ; rw [zc_185_2]
theorem zn_185 : znl 185 = 2 := by decide +kernel
theorem ze_185 {S : zSs} {D n u : Nat} {sh : zk_S} {d : zm_D} {Q : ((Option zv_V) ⊕ Nat) → Nat → zk_S → zm_D → Nat → Prop} {x0 : Int} {x1 : Int} : zE S D 185 [zv_a x0, zv_i x1] n sh d u Q ↔ zB S D 185 zb_185_0 [some (zv_a x0), some (zv_i x1)] [] n sh d u Q := by
  unfold zE; rw [zn_185, zc_185_0]; exact ⟨fun h => h.2, fun h => ⟨Nat.le_of_ble_eq_true rfl, h⟩⟩
theorem ze_185s {S : zSs} {D n u : Nat} {sh : zk_S} {d : zm_D} {Q : ((Option zv_V) ⊕ Nat) → Nat → zk_S → zm_D → Nat → Prop} {x0 : Int} : zE S D 185 [zv_i x0] n sh d u Q ↔ zB S D 185 zb_185_0 [some (zv_i x0), none] [] n sh d u Q := by
  unfold zE; rw [zn_185, zc_185_0]; exact ⟨fun h => h.2, fun h => ⟨Nat.le_of_ble_eq_true rfl, h⟩⟩
theorem zh_185 : zhl 185 = [] := by decide +kernel
theorem zc_186_0 : zcd 186 0 = zb_186_0 := by decide +kernel
theorem zj_186_0 {S : zSs} {D n u : Nat} {sh : zk_S} {d : zm_D} {Q : ((Option zv_V) ⊕ Nat) → Nat → zk_S → zm_D → Nat → Prop} {L : zN} {st : List zv_V} : zJ S D 186 0 L st n sh d u Q ↔ zB S D 186 zb_186_0 L st n sh d u Q := by unfold zJ; rw [zc_186_0]
theorem zc_186_1 : zcd 186 1 = zb_186_1 := by decide +kernel
theorem zj_186_1 {S : zSs} {D n u : Nat} {sh : zk_S} {d : zm_D} {Q : ((Option zv_V) ⊕ Nat) → Nat → zk_S → zm_D → Nat → Prop} {L : zN} {st : List zv_V} : zJ S D 186 1 L st n sh d u Q ↔ zB S D 186 zb_186_1 L st n sh d u Q := by unfold zJ; rw [zc_186_1]
theorem zc_186_2 : zcd 186 2 = zb_186_2 := by decide +kernel
theorem zj_186_2 {S : zSs} {D n u : Nat} {sh : zk_S} {d : zm_D} {Q : ((Option zv_V) ⊕ Nat) → Nat → zk_S → zm_D → Nat → Prop} {L : zN} {st : List zv_V} : zJ S D 186 2 L st n sh d u Q ↔ zB S D 186 zb_186_2 L st n sh d u Q := by unfold zJ; rw [zc_186_2]
theorem zn_186 : znl 186 = 4 := by decide +kernel
theorem ze_186 {S : zSs} {D n u : Nat} {sh : zk_S} {d : zm_D} {Q : ((Option zv_V) ⊕ Nat) → Nat → zk_S → zm_D → Nat → Prop} {x0 : Int} {x1 : Int} : zE S D 186 [zv_a x0, zv_i x1] n sh d u Q ↔ zB S D 186 zb_186_0 [some (zv_a x0), some (zv_i x1), none, none] [] n sh d u Q := by
  unfold zE; rw [zn_186, zc_186_0]; exact ⟨fun h => h.2, fun h => ⟨Nat.le_of_ble_eq_true rfl, h⟩⟩
theorem ze_186s {S : zSs} {D n u : Nat} {sh : zk_S} {d : zm_D} {Q : ((Option zv_V) ⊕ Nat) → Nat → zk_S → zm_D → Nat → Prop} {x0 : Int} : zE S D 186 [zv_i x0] n sh d u Q ↔ zB S D 186 zb_186_0 [some (zv_i x0), none, none, none] [] n sh d u Q := by
  unfold zE; rw [zn_186, zc_186_0]; exact ⟨fun h => h.2, fun h => ⟨Nat.le_of_ble_eq_true rfl, h⟩⟩
theorem zh_186 : zhl 186 = [] := by decide +kernel
theorem zc_187_0 : zcd 187 0 = zb_187_0 := by decide +kernel
theorem zj_187_0 {S : zSs} {D n u : Nat} {sh : zk_S} {d : zm_D} {Q : ((Option zv_V) ⊕ Nat) → Nat → zk_S → zm_D → Nat → Prop} {L : zN} {st : List zv_V} : zJ S D 187 0 L st n sh d u Q ↔ zB S D 187 zb_187_0 L st n sh d u Q := by unfold zJ; rw [zc_187_0]
theorem zc_187_1 : zcd 187 1 = zb_187_1 := by decide +kernel
theorem zj_187_1 {S : zSs} {D n u : Nat} {sh : zk_S} {d : zm_D} {Q : ((Option zv_V) ⊕ Nat) → Nat → zk_S → zm_D → Nat → Prop} {L : zN} {st : List zv_V} : zJ S D 187 1 L st n sh d u Q ↔ zB S D 187 zb_187_1 L st n sh d u Q := by unfold zJ; rw [zc_187_1]
theorem zc_187_2 : zcd 187 2 = zb_187_2 := by decide +kernel
theorem zj_187_2 {S : zSs} {D n u : Nat} {sh : zk_S} {d : zm_D} {Q : ((Option zv_V) ⊕ Nat) → Nat → zk_S → zm_D → Nat → Prop} {L : zN} {st : List zv_V} : zJ S D 187 2 L st n sh d u Q ↔ zB S D 187 zb_187_2 L st n sh d u Q := by unfold zJ; rw [zc_187_2]
theorem zn_187 : znl 187 = 4 := by decide +kernel
theorem ze_187 {S : zSs} {D n u : Nat} {sh : zk_S} {d : zm_D} {Q : ((Option zv_V) ⊕ Nat) → Nat → zk_S → zm_D → Nat → Prop} {x0 : Int} {x1 : Int} {x2 : Int} : zE S D 187 [zv_a x0, zv_a x1, zv_i x2] n sh d u Q ↔ zB S D 187 zb_187_0 [some (zv_a x0), some (zv_a x1), some (zv_i x2), none] [] n sh d u Q := by
  unfold zE; rw [zn_187, zc_187_0]; exact ⟨fun h => h.2, fun h => ⟨Nat.le_of_ble_eq_true rfl, h⟩⟩
theorem ze_187s {S : zSs} {D n u : Nat} {sh : zk_S} {d : zm_D} {Q : ((Option zv_V) ⊕ Nat) → Nat → zk_S → zm_D → Nat → Prop} {x0 : Int} {x1 : Int} : zE S D 187 [zv_a x0, zv_i x1] n sh d u Q ↔ zB S D 187 zb_187_0 [some (zv_a x0), some (zv_i x1), none, none] [] n sh d u Q := by
  unfold zE; rw [zn_187, zc_187_0]; exact ⟨fun h => h.2, fun h => ⟨Nat.le_of_ble_eq_true rfl, h⟩⟩
theorem zh_187 : zhl 187 = [] := by decide +kernel
theorem zc_188_0 : zcd 188 0 = zb_188_0 := by decide +kernel
theorem zj_188_0 {S : zSs} {D n u : Nat} {sh : zk_S} {d : zm_D} {Q : ((Option zv_V) ⊕ Nat) → Nat → zk_S → zm_D → Nat → Prop} {L : zN} {st : List zv_V} : zJ S D 188 0 L st n sh d u Q ↔ zB S D 188 zb_188_0 L st n sh d u Q := by unfold zJ; rw [zc_188_0]
theorem zc_188_1 : zcd 188 1 = zb_188_1 := by decide +kernel
theorem zj_188_1 {S : zSs} {D n u : Nat} {sh : zk_S} {d : zm_D} {Q : ((Option zv_V) ⊕ Nat) → Nat → zk_S → zm_D → Nat → Prop} {L : zN} {st : List zv_V} : zJ S D 188 1 L st n sh d u Q ↔ zB S D 188 zb_188_1 L st n sh d u Q := by unfold zJ; rw [zc_188_1]
theorem zn_188 : znl 188 = 3 := by decide +kernel
theorem ze_188 {S : zSs} {D n u : Nat} {sh : zk_S} {d : zm_D} {Q : ((Option zv_V) ⊕ Nat) → Nat → zk_S → zm_D → Nat → Prop} {x0 : Int} {x1 : Int} {x2 : Int} : zE S D 188 [zv_a x0, zv_a x1, zv_i x2] n sh d u Q ↔ zB S D 188 zb_188_0 [some (zv_a x0), some (zv_a x1), some (zv_i x2)] [] n sh d u Q := by
  unfold zE; rw [zn_188, zc_188_0]; exact ⟨fun h => h.2, fun h => ⟨Nat.le_of_ble_eq_true rfl, h⟩⟩
theorem ze_188s {S : zSs} {D n u : Nat} {sh : zk_S} {d : zm_D} {Q : ((Option zv_V) ⊕ Nat) → Nat → zk_S → zm_D → Nat → Prop} {x0 : Int} {x1 : Int} : zE S D 188 [zv_a x0, zv_i x1] n sh d u Q ↔ zB S D 188 zb_188_0 [some (zv_a x0), some (zv_i x1), none] [] n sh d u Q := by
  unfold zE; rw [zn_188, zc_188_0]; exact ⟨fun h => h.2, fun h => ⟨Nat.le_of_ble_eq_true rfl, h⟩⟩
theorem zh_188 : zhl 188 = [] := by decide +kernel
theorem zc_189_0 : zcd 189 0 = zb_189_0 := by decide +kernel
theorem zj_189_0 {S : zSs} {D n u : Nat} {sh : zk_S} {d : zm_D} {Q : ((Option zv_V) ⊕ Nat) → Nat → zk_S → zm_D → Nat → Prop} {L : zN} {st : List zv_V} : zJ S D 189 0 L st n sh d u Q ↔ zB S D 189 zb_189_0 L st n sh d u Q := by unfold zJ; rw [zc_189_0]
theorem zc_189_1 : zcd 189 1 = zb_189_1 := by decide +kernel
theorem zj_189_1 {S : zSs} {D n u : Nat} {sh : zk_S} {d : zm_D} {Q : ((Option zv_V) ⊕ Nat) → Nat → zk_S → zm_D → Nat → Prop} {L : zN} {st : List zv_V} : zJ S D 189 1 L st n sh d u Q ↔ zB S D 189 zb_189_1 L st n sh d u Q := by unfold zJ; rw [zc_189_1]
theorem zn_189 : znl 189 = 2 := by decide +kernel
theorem ze_189 {S : zSs} {D n u : Nat} {sh : zk_S} {d : zm_D} {Q : ((Option zv_V) ⊕ Nat) → Nat → zk_S → zm_D → Nat → Prop} {x0 : Int} {x1 : Int} : zE S D 189 [zv_a x0, zv_i x1] n sh d u Q ↔ zB S D 189 zb_189_0 [some (zv_a x0), some (zv_i x1)] [] n sh d u Q := by
  unfold zE; rw [zn_189, zc_189_0]; exact ⟨fun h => h.2, fun h => ⟨Nat.le_of_ble_eq_true rfl, h⟩⟩
theorem ze_189s {S : zSs} {D n u : Nat} {sh : zk_S} {d : zm_D} {Q : ((Option zv_V) ⊕ Nat) → Nat → zk_S → zm_D → Nat → Prop} {x0 : Int} : zE S D 189 [zv_i x0] n sh d u Q ↔ zB S D 189 zb_189_0 [some (zv_i x0), none] [] n sh d u Q := by
  unfold zE; rw [zn_189, zc_189_0]; exact ⟨fun h => h.2, fun h => ⟨Nat.le_of_ble_eq_true rfl, h⟩⟩
theorem zh_189 : zhl 189 = [] := by decide +kernel
theorem zc_190_0 : zcd 190 0 = zb_190_0 := by decide +kernel
theorem zj_190_0 {S : zSs} {D n u : Nat} {sh : zk_S} {d : zm_D} {Q : ((Option zv_V) ⊕ Nat) → Nat → zk_S → zm_D → Nat → Prop} {L : zN} {st : List zv_V} : zJ S D 190 0 L st n sh d u Q ↔ zB S D 190 zb_190_0 L st n sh d u Q := by unfold zJ; rw [zc_190_0]
theorem zc_190_1 : zcd 190 1 = zb_190_1 := by decide +kernel
theorem zj_190_1 {S : zSs} {D n u : Nat} {sh : zk_S} {d : zm_D} {Q : ((Option zv_V) ⊕ Nat) → Nat → zk_S → zm_D → Nat → Prop} {L : zN} {st : List zv_V} : zJ S D 190 1 L st n sh d u Q ↔ zB S D 190 zb_190_1 L st n sh d u Q := by unfold zJ; rw [zc_190_1]
theorem zn_190 : znl 190 = 1 := by decide +kernel
theorem ze_190 {S : zSs} {D n u : Nat} {sh : zk_S} {d : zm_D} {Q : ((Option zv_V) ⊕ Nat) → Nat → zk_S → zm_D → Nat → Prop} {x0 : Int} : zE S D 190 [zv_a x0] n sh d u Q ↔ zB S D 190 zb_190_0 [some (zv_a x0)] [] n sh d u Q := by
  unfold zE; rw [zn_190, zc_190_0]; exact ⟨fun h => h.2, fun h => ⟨Nat.le_of_ble_eq_true rfl, h⟩⟩
theorem ze_190s {S : zSs} {D n u : Nat} {sh : zk_S} {d : zm_D} {Q : ((Option zv_V) ⊕ Nat) → Nat → zk_S → zm_D → Nat → Prop} : zE S D 190 [] n sh d u Q ↔ zB S D 190 zb_190_0 [none] [] n sh d u Q := by
  unfold zE; rw [zn_190, zc_190_0]; exact ⟨fun h => h.2, fun h => ⟨Nat.le_of_ble_eq_true rfl, h⟩⟩
theorem zh_190 : zhl 190 = [] := by decide +kernel
theorem zc_191_0 : zcd 191 0 = zb_191_0 := by decide +kernel
theorem zj_191_0 {S : zSs} {D n u : Nat} {sh : zk_S} {d : zm_D} {Q : ((Option zv_V) ⊕ Nat) → Nat → zk_S → zm_D → Nat → Prop} {L : zN} {st : List zv_V} : zJ S D 191 0 L st n sh d u Q ↔ zB S D 191 zb_191_0 L st n sh d u Q := by unfold zJ; rw [zc_191_0]
theorem zc_191_1 : zcd 191 1 = zb_191_1 := by decide +kernel
theorem zj_191_1 {S : zSs} {D n u : Nat} {sh : zk_S} {d : zm_D} {Q : ((Option zv_V) ⊕ Nat) → Nat → zk_S → zm_D → Nat → Prop} {L : zN} {st : List zv_V} : zJ S D 191 1 L st n sh d u Q ↔ zB S D 191 zb_191_1 L st n sh d u Q := by unfold zJ; rw [zc_191_1]
theorem zn_191 : znl 191 = 1 := by decide +kernel
theorem ze_191 {S : zSs} {D n u : Nat} {sh : zk_S} {d : zm_D} {Q : ((Option zv_V) ⊕ Nat) → Nat → zk_S → zm_D → Nat → Prop} {x0 : Int} : zE S D 191 [zv_a x0] n sh d u Q ↔ zB S D 191 zb_191_0 [some (zv_a x0)] [] n sh d u Q := by
  unfold zE; rw [zn_191, zc_191_0]; exact ⟨fun h => h.2, fun h => ⟨Nat.le_of_ble_eq_true rfl, h⟩⟩
theorem ze_191s {S : zSs} {D n u : Nat} {sh : zk_S} {d : zm_D} {Q : ((Option zv_V) ⊕ Nat) → Nat → zk_S → zm_D → Nat → Prop} : zE S D 191 [] n sh d u Q ↔ zB S D 191 zb_191_0 [none] [] n sh d u Q := by
  unfold zE; rw [zn_191, zc_191_0]; exact ⟨fun h => h.2, fun h => ⟨Nat.le_of_ble_eq_true rfl, h⟩⟩
theorem zh_191 : zhl 191 = [] := by decide +kernel
theorem zc_192_0 : zcd 192 0 = zb_192_0 := by decide +kernel
theorem zj_192_0 {S : zSs} {D n u : Nat} {sh : zk_S} {d : zm_D} {Q : ((Option zv_V) ⊕ Nat) → Nat → zk_S → zm_D → Nat → Prop} {L : zN} {st : List zv_V} : zJ S D 192 0 L st n sh d u Q ↔ zB S D 192 zb_192_0 L st n sh d u Q := by unfold zJ; rw [zc_192_0]
theorem zc_192_1 : zcd 192 1 = zb_192_1 := by decide +kernel
theorem zj_192_1 {S : zSs} {D n u : Nat} {sh : zk_S} {d : zm_D} {Q : ((Option zv_V) ⊕ Nat) → Nat → zk_S → zm_D → Nat → Prop} {L : zN} {st : List zv_V} : zJ S D 192 1 L st n sh d u Q ↔ zB S D 192 zb_192_1 L st n sh d u Q := by unfold zJ; rw [zc_192_1]
theorem zn_192 : znl 192 = 1 := by decide +kernel
theorem ze_192 {S : zSs} {D n u : Nat} {sh : zk_S} {d : zm_D} {Q : ((Option zv_V) ⊕ Nat) → Nat → zk_S → zm_D → Nat → Prop} {x0 : Int} : zE S D 192 [zv_a x0] n sh d u Q ↔ zB S D 192 zb_192_0 [some (zv_a x0)] [] n sh d u Q := by
  unfold zE; rw [zn_192, zc_192_0]; exact ⟨fun h => h.2, fun h => ⟨Nat.le_of_ble_eq_true rfl, h⟩⟩
theorem ze_192s {S : zSs} {D n u : Nat} {sh : zk_S} {d : zm_D} {Q : ((Option zv_V) ⊕ Nat) → Nat → zk_S → zm_D → Nat → Prop} : zE S D 192 [] n sh d u Q ↔ zB S D 192 zb_192_0 [none] [] n sh d u Q := by
  unfold zE; rw [zn_192, zc_192_0]; exact ⟨fun h => h.2, fun h => ⟨Nat.le_of_ble_eq_true rfl, h⟩⟩
theorem zh_192 : zhl 192 = [] := by decide +kernel
theorem zc_193_0 : zcd 193 0 = zb_193_0 := by decide +kernel
theorem zj_193_0 {S : zSs} {D n u : Nat} {sh : zk_S} {d : zm_D} {Q : ((Option zv_V) ⊕ Nat) → Nat → zk_S → zm_D → Nat → Prop} {L : zN} {st : List zv_V} : zJ S D 193 0 L st n sh d u Q ↔ zB S D 193 zb_193_0 L st n sh d u Q := by unfold zJ; rw [zc_193_0]
theorem zc_193_1 : zcd 193 1 = zb_193_1 := by decide +kernel
theorem zj_193_1 {S : zSs} {D n u : Nat} {sh : zk_S} {d : zm_D} {Q : ((Option zv_V) ⊕ Nat) → Nat → zk_S → zm_D → Nat → Prop} {L : zN} {st : List zv_V} : zJ S D 193 1 L st n sh d u Q ↔ zB S D 193 zb_193_1 L st n sh d u Q := by unfold zJ; rw [zc_193_1]
theorem zn_193 : znl 193 = 1 := by decide +kernel
theorem ze_193 {S : zSs} {D n u : Nat} {sh : zk_S} {d : zm_D} {Q : ((Option zv_V) ⊕ Nat) → Nat → zk_S → zm_D → Nat → Prop} {x0 : Int} : zE S D 193 [zv_a x0] n sh d u Q ↔ zB S D 193 zb_193_0 [some (zv_a x0)] [] n sh d u Q := by
  unfold zE; rw [zn_193, zc_193_0]; exact ⟨fun h => h.2, fun h => ⟨Nat.le_of_ble_eq_true rfl, h⟩⟩
theorem ze_193s {S : zSs} {D n u : Nat} {sh : zk_S} {d : zm_D} {Q : ((Option zv_V) ⊕ Nat) → Nat → zk_S → zm_D → Nat → Prop} : zE S D 193 [] n sh d u Q ↔ zB S D 193 zb_193_0 [none] [] n sh d u Q := by
  unfold zE; rw [zn_193, zc_193_0]; exact ⟨fun h => h.2, fun h => ⟨Nat.le_of_ble_eq_true rfl, h⟩⟩
theorem zh_193 : zhl 193 = [] := by decide +kernel
theorem zc_194_0 : zcd 194 0 = zb_194_0 := by decide +kernel
theorem zj_194_0 {S : zSs} {D n u : Nat} {sh : zk_S} {d : zm_D} {Q : ((Option zv_V) ⊕ Nat) → Nat → zk_S → zm_D → Nat → Prop} {L : zN} {st : List zv_V} : zJ S D 194 0 L st n sh d u Q ↔ zB S D 194 zb_194_0 L st n sh d u Q := by unfold zJ; rw [zc_194_0]
theorem zc_194_1 : zcd 194 1 = zb_194_1 := by decide +kernel
theorem zj_194_1 {S : zSs} {D n u : Nat} {sh : zk_S} {d : zm_D} {Q : ((Option zv_V) ⊕ Nat) → Nat → zk_S → zm_D → Nat → Prop} {L : zN} {st : List zv_V} : zJ S D 194 1 L st n sh d u Q ↔ zB S D 194 zb_194_1 L st n sh d u Q := by unfold zJ; rw [zc_194_1]
theorem zn_194 : znl 194 = 1 := by decide +kernel
theorem ze_194 {S : zSs} {D n u : Nat} {sh : zk_S} {d : zm_D} {Q : ((Option zv_V) ⊕ Nat) → Nat → zk_S → zm_D → Nat → Prop} {x0 : Int} : zE S D 194 [zv_a x0] n sh d u Q ↔ zB S D 194 zb_194_0 [some (zv_a x0)] [] n sh d u Q := by
  unfold zE; rw [zn_194, zc_194_0]; exact ⟨fun h => h.2, fun h => ⟨Nat.le_of_ble_eq_true rfl, h⟩⟩
theorem ze_194s {S : zSs} {D n u : Nat} {sh : zk_S} {d : zm_D} {Q : ((Option zv_V) ⊕ Nat) → Nat → zk_S → zm_D → Nat → Prop} : zE S D 194 [] n sh d u Q ↔ zB S D 194 zb_194_0 [none] [] n sh d u Q := by
  unfold zE; rw [zn_194, zc_194_0]; exact ⟨fun h => h.2, fun h => ⟨Nat.le_of_ble_eq_true rfl, h⟩⟩
theorem zh_194 : zhl 194 = [] := by decide +kernel
theorem zc_195_0 : zcd 195 0 = zb_195_0 := by decide +kernel
theorem zj_195_0 {S : zSs} {D n u : Nat} {sh : zk_S} {d : zm_D} {Q : ((Option zv_V) ⊕ Nat) → Nat → zk_S → zm_D → Nat → Prop} {L : zN} {st : List zv_V} : zJ S D 195 0 L st n sh d u Q ↔ zB S D 195 zb_195_0 L st n sh d u Q := by unfold zJ; rw [zc_195_0]
theorem zc_195_1 : zcd 195 1 = zb_195_1 := by decide +kernel
theorem zj_195_1 {S : zSs} {D n u : Nat} {sh : zk_S} {d : zm_D} {Q : ((Option zv_V) ⊕ Nat) → Nat → zk_S → zm_D → Nat → Prop} {L : zN} {st : List zv_V} : zJ S D 195 1 L st n sh d u Q ↔ zB S D 195 zb_195_1 L st n sh d u Q := by unfold zJ; rw [zc_195_1]
theorem zn_195 : znl 195 = 1 := by decide +kernel
theorem ze_195 {S : zSs} {D n u : Nat} {sh : zk_S} {d : zm_D} {Q : ((Option zv_V) ⊕ Nat) → Nat → zk_S → zm_D → Nat → Prop} {x0 : Int} : zE S D 195 [zv_a x0] n sh d u Q ↔ zB S D 195 zb_195_0 [some (zv_a x0)] [] n sh d u Q := by
  unfold zE; rw [zn_195, zc_195_0]; exact ⟨fun h => h.2, fun h => ⟨Nat.le_of_ble_eq_true rfl, h⟩⟩
theorem ze_195s {S : zSs} {D n u : Nat} {sh : zk_S} {d : zm_D} {Q : ((Option zv_V) ⊕ Nat) → Nat → zk_S → zm_D → Nat → Prop} : zE S D 195 [] n sh d u Q ↔ zB S D 195 zb_195_0 [none] [] n sh d u Q := by
  unfold zE; rw [zn_195, zc_195_0]; exact ⟨fun h => h.2, fun h => ⟨Nat.le_of_ble_eq_true rfl, h⟩⟩
theorem zh_195 : zhl 195 = [] := by decide +kernel
theorem zc_196_0 : zcd 196 0 = zb_196_0 := by decide +kernel
theorem zj_196_0 {S : zSs} {D n u : Nat} {sh : zk_S} {d : zm_D} {Q : ((Option zv_V) ⊕ Nat) → Nat → zk_S → zm_D → Nat → Prop} {L : zN} {st : List zv_V} : zJ S D 196 0 L st n sh d u Q ↔ zB S D 196 zb_196_0 L st n sh d u Q := by unfold zJ; rw [zc_196_0]
theorem zc_196_1 : zcd 196 1 = zb_196_1 := by decide +kernel
theorem zj_196_1 {S : zSs} {D n u : Nat} {sh : zk_S} {d : zm_D} {Q : ((Option zv_V) ⊕ Nat) → Nat → zk_S → zm_D → Nat → Prop} {L : zN} {st : List zv_V} : zJ S D 196 1 L st n sh d u Q ↔ zB S D 196 zb_196_1 L st n sh d u Q := by unfold zJ; rw [zc_196_1]
theorem zn_196 : znl 196 = 1 := by decide +kernel
theorem ze_196s {S : zSs} {D n u : Nat} {sh : zk_S} {d : zm_D} {Q : ((Option zv_V) ⊕ Nat) → Nat → zk_S → zm_D → Nat → Prop} {x0 : Int} : zE S D 196 [zv_i x0] n sh d u Q ↔ zB S D 196 zb_196_0 [some (zv_i x0)] [] n sh d u Q := by
  unfold zE; rw [zn_196, zc_196_0]; exact ⟨fun h => h.2, fun h => ⟨Nat.le_of_ble_eq_true rfl, h⟩⟩
theorem zh_196 : zhl 196 = [] := by decide +kernel
theorem zc_197_0 : zcd 197 0 = zb_197_0 := by decide +kernel
theorem zj_197_0 {S : zSs} {D n u : Nat} {sh : zk_S} {d : zm_D} {Q : ((Option zv_V) ⊕ Nat) → Nat → zk_S → zm_D → Nat → Prop} {L : zN} {st : List zv_V} : zJ S D 197 0 L st n sh d u Q ↔ zB S D 197 zb_197_0 L st n sh d u Q := by unfold zJ; rw [zc_197_0]
theorem zn_197 : znl 197 = 2 := by decide +kernel
theorem ze_197s {S : zSs} {D n u : Nat} {sh : zk_S} {d : zm_D} {Q : ((Option zv_V) ⊕ Nat) → Nat → zk_S → zm_D → Nat → Prop} {x0 : Int} {x1 : Int} : zE S D 197 [zv_i x0, zv_i x1] n sh d u Q ↔ zB S D 197 zb_197_0 [some (zv_i x0), some (zv_i x1)] [] n sh d u Q := by
  unfold zE; rw [zn_197, zc_197_0]; exact ⟨fun h => h.2, fun h => ⟨Nat.le_of_ble_eq_true rfl, h⟩⟩
theorem zh_197 : zhl 197 = [] := by decide +kernel
theorem zc_198_0 : zcd 198 0 = zb_198_0 := by decide +kernel
theorem zj_198_0 {S : zSs} {D n u : Nat} {sh : zk_S} {d : zm_D} {Q : ((Option zv_V) ⊕ Nat) → Nat → zk_S → zm_D → Nat → Prop} {L : zN} {st : List zv_V} : zJ S D 198 0 L st n sh d u Q ↔ zB S D 198 zb_198_0 L st n sh d u Q := by unfold zJ; rw [zc_198_0]
theorem zc_198_1 : zcd 198 1 = zb_198_1 := by decide +kernel
theorem zj_198_1 {S : zSs} {D n u : Nat} {sh : zk_S} {d : zm_D} {Q : ((Option zv_V) ⊕ Nat) → Nat → zk_S → zm_D → Nat → Prop} {L : zN} {st : List zv_V} : zJ S D 198 1 L st n sh d u Q ↔ zB S D 198 zb_198_1 L st n sh d u Q := by unfold zJ; rw [zc_198_1]
theorem zc_198_2 : zcd 198 2 = zb_198_2 := by decide +kernel
theorem zj_198_2 {S : zSs} {D n u : Nat} {sh : zk_S} {d : zm_D} {Q : ((Option zv_V) ⊕ Nat) → Nat → zk_S → zm_D → Nat → Prop} {L : zN} {st : List zv_V} : zJ S D 198 2 L st n sh d u Q ↔ zB S D 198 zb_198_2 L st n sh d u Q := by unfold zJ; rw [zc_198_2]
theorem zn_198 : znl 198 = 3 := by decide +kernel
theorem ze_198s {S : zSs} {D n u : Nat} {sh : zk_S} {d : zm_D} {Q : ((Option zv_V) ⊕ Nat) → Nat → zk_S → zm_D → Nat → Prop} {x0 : Int} {x1 : Int} {x2 : Int} : zE S D 198 [zv_i x0, zv_i x1, zv_i x2] n sh d u Q ↔ zB S D 198 zb_198_0 [some (zv_i x0), some (zv_i x1), some (zv_i x2)] [] n sh d u Q := by
  unfold zE; rw [zn_198, zc_198_0]; exact ⟨fun h => h.2, fun h => ⟨Nat.le_of_ble_eq_true rfl, h⟩⟩
theorem zh_198 : zhl 198 = [] := by decide +kernel
theorem zc_199_0 : zcd 199 0 = zb_199_0 := by decide +kernel
theorem zj_199_0 {S : zSs} {D n u : Nat} {sh : zk_S} {d : zm_D} {Q : ((Option zv_V) ⊕ Nat) → Nat → zk_S → zm_D → Nat → Prop} {L : zN} {st : List zv_V} : zJ S D 199 0 L st n sh d u Q ↔ zB S D 199 zb_199_0 L st n sh d u Q := by unfold zJ; rw [zc_199_0]
theorem zc_199_1 : zcd 199 1 = zb_199_1 := by decide +kernel
theorem zj_199_1 {S : zSs} {D n u : Nat} {sh : zk_S} {d : zm_D} {Q : ((Option zv_V) ⊕ Nat) → Nat → zk_S → zm_D → Nat → Prop} {L : zN} {st : List zv_V} : zJ S D 199 1 L st n sh d u Q ↔ zB S D 199 zb_199_1 L st n sh d u Q := by unfold zJ; rw [zc_199_1]
theorem zc_199_2 : zcd 199 2 = zb_199_2 := by decide +kernel
theorem zj_199_2 {S : zSs} {D n u : Nat} {sh : zk_S} {d : zm_D} {Q : ((Option zv_V) ⊕ Nat) → Nat → zk_S → zm_D → Nat → Prop} {L : zN} {st : List zv_V} : zJ S D 199 2 L st n sh d u Q ↔ zB S D 199 zb_199_2 L st n sh d u Q := by unfold zJ; rw [zc_199_2]
theorem zn_199 : znl 199 = 3 := by decide +kernel
theorem ze_199 {S : zSs} {D n u : Nat} {sh : zk_S} {d : zm_D} {Q : ((Option zv_V) ⊕ Nat) → Nat → zk_S → zm_D → Nat → Prop} {x0 : Int} : zE S D 199 [zv_a x0] n sh d u Q ↔ zB S D 199 zb_199_0 [some (zv_a x0), none, none] [] n sh d u Q := by
  unfold zE; rw [zn_199, zc_199_0]; exact ⟨fun h => h.2, fun h => ⟨Nat.le_of_ble_eq_true rfl, h⟩⟩
theorem ze_199s {S : zSs} {D n u : Nat} {sh : zk_S} {d : zm_D} {Q : ((Option zv_V) ⊕ Nat) → Nat → zk_S → zm_D → Nat → Prop} : zE S D 199 [] n sh d u Q ↔ zB S D 199 zb_199_0 [none, none, none] [] n sh d u Q := by
  unfold zE; rw [zn_199, zc_199_0]; exact ⟨fun h => h.2, fun h => ⟨Nat.le_of_ble_eq_true rfl, h⟩⟩
theorem zh_199 : zhl 199 = [] := by decide +kernel
theorem zc_200_0 : zcd 200 0 = zb_200_0 := by decide +kernel
theorem zj_200_0 {S : zSs} {D n u : Nat} {sh : zk_S} {d : zm_D} {Q : ((Option zv_V) ⊕ Nat) → Nat → zk_S → zm_D → Nat → Prop} {L : zN} {st : List zv_V} : zJ S D 200 0 L st n sh d u Q ↔ zB S D 200 zb_200_0 L st n sh d u Q := by unfold zJ; rw [zc_200_0]
theorem zc_200_1 : zcd 200 1 = zb_200_1 := by decide +kernel
theorem zj_200_1 {S : zSs} {D n u : Nat} {sh : zk_S} {d : zm_D} {Q : ((Option zv_V) ⊕ Nat) → Nat → zk_S → zm_D → Nat → Prop} {L : zN} {st : List zv_V} : zJ S D 200 1 L st n sh d u Q ↔ zB S D 200 zb_200_1 L st n sh d u Q := by unfold zJ; rw [zc_200_1]
theorem zc_200_2 : zcd 200 2 = zb_200_2 := by decide +kernel
theorem zj_200_2 {S : zSs} {D n u : Nat} {sh : zk_S} {d : zm_D} {Q : ((Option zv_V) ⊕ Nat) → Nat → zk_S → zm_D → Nat → Prop} {L : zN} {st : List zv_V} : zJ S D 200 2 L st n sh d u Q ↔ zB S D 200 zb_200_2 L st n sh d u Q := by unfold zJ; rw [zc_200_2]
theorem zc_200_3 : zcd 200 3 = zb_200_3 := by decide +kernel
theorem zj_200_3 {S : zSs} {D n u : Nat} {sh : zk_S} {d : zm_D} {Q : ((Option zv_V) ⊕ Nat) → Nat → zk_S → zm_D → Nat → Prop} {L : zN} {st : List zv_V} : zJ S D 200 3 L st n sh d u Q ↔ zB S D 200 zb_200_3 L st n sh d u Q := by unfold zJ; rw [zc_200_3]
theorem zc_200_4 : zcd 200 4 = zb_200_4 := by decide +kernel
theorem zj_200_4 {S : zSs} {D n u : Nat} {sh : zk_S} {d : zm_D} {Q : ((Option zv_V) ⊕ Nat) → Nat → zk_S → zm_D → Nat → Prop} {L : zN} {st : List zv_V} : zJ S D 200 4 L st n sh d u Q ↔ zB S D 200 zb_200_4 L st n sh d u Q := by unfold zJ; rw [zc_200_4]
theorem zc_200_5 : zcd 200 5 = zb_200_5 := by decide +kernel
theorem zj_200_5 {S : zSs} {D n u : Nat} {sh : zk_S} {d : zm_D} {Q : ((Option zv_V) ⊕ Nat) → Nat → zk_S → zm_D → Nat → Prop} {L : zN} {st : List zv_V} : zJ S D 200 5 L st n sh d u Q ↔ zB S D 200 zb_200_5 L st n sh d u Q := by unfold zJ; rw [zc_200_5]
theorem zc_200_6 : zcd 200 6 = zb_200_6 := by decide +kernel
theorem zj_200_6 {S : zSs} {D n u : Nat} {sh : zk_S} {d : zm_D} {Q : ((Option zv_V) ⊕ Nat) → Nat → zk_S → zm_D → Nat → Prop} {L : zN} {st : List zv_V} : zJ S D 200 6 L st n sh d u Q ↔ zB S D 200 zb_200_6 L st n sh d u Q := by unfold zJ; rw [zc_200_6]
theorem zn_200 : znl 200 = 6 := by decide +kernel
theorem ze_200 {S : zSs} {D n u : Nat} {sh : zk_S} {d : zm_D} {Q : ((Option zv_V) ⊕ Nat) → Nat → zk_S → zm_D → Nat → Prop} {x0 : Int} : zE S D 200 [zv_a x0] n sh d u Q ↔ zB S D 200 zb_200_0 [some (zv_a x0), none, none, none, none, none] [] n sh d u Q := by
  unfold zE; rw [zn_200, zc_200_0]; exact ⟨fun h => h.2, fun h => ⟨Nat.le_of_ble_eq_true rfl, h⟩⟩
theorem ze_200s {S : zSs} {D n u : Nat} {sh : zk_S} {d : zm_D} {Q : ((Option zv_V) ⊕ Nat) → Nat → zk_S → zm_D → Nat → Prop} : zE S D 200 [] n sh d u Q ↔ zB S D 200 zb_200_0 [none, none, none, none, none, none] [] n sh d u Q := by
  unfold zE; rw [zn_200, zc_200_0]; exact ⟨fun h => h.2, fun h => ⟨Nat.le_of_ble_eq_true rfl, h⟩⟩
theorem zh_200 : zhl 200 = [] := by decide +kernel
theorem zc_201_0 : zcd 201 0 = zb_201_0 := by decide +kernel
theorem zj_201_0 {S : zSs} {D n u : Nat} {sh : zk_S} {d : zm_D} {Q : ((Option zv_V) ⊕ Nat) → Nat → zk_S → zm_D → Nat → Prop} {L : zN} {st : List zv_V} : zJ S D 201 0 L st n sh d u Q ↔ zB S D 201 zb_201_0 L st n sh d u Q := by unfold zJ; rw [zc_201_0]
theorem zn_201 : znl 201 = 2 := by decide +kernel
theorem ze_201 {S : zSs} {D n u : Nat} {sh : zk_S} {d : zm_D} {Q : ((Option zv_V) ⊕ Nat) → Nat → zk_S → zm_D → Nat → Prop} {x0 : Int} {x1 : Int} : zE S D 201 [zv_a x0, zv_a x1] n sh d u Q ↔ zB S D 201 zb_201_0 [some (zv_a x0), some (zv_a x1)] [] n sh d u Q := by
  unfold zE; rw [zn_201, zc_201_0]; exact ⟨fun h => h.2, fun h => ⟨Nat.le_of_ble_eq_true rfl, h⟩⟩
theorem ze_201s {S : zSs} {D n u : Nat} {sh : zk_S} {d : zm_D} {Q : ((Option zv_V) ⊕ Nat) → Nat → zk_S → zm_D → Nat → Prop} {x0 : Int} : zE S D 201 [zv_a x0] n sh d u Q ↔ zB S D 201 zb_201_0 [some (zv_a x0), none] [] n sh d u Q := by
  unfold zE; rw [zn_201, zc_201_0]; exact ⟨fun h => h.2, fun h => ⟨Nat.le_of_ble_eq_true rfl, h⟩⟩
theorem zh_201 : zhl 201 = [] := by decide +kernel
theorem zc_202_0 : zcd 202 0 = zb_202_0 := by decide +kernel
theorem zj_202_0 {S : zSs} {D n u : Nat} {sh : zk_S} {d : zm_D} {Q : ((Option zv_V) ⊕ Nat) → Nat → zk_S → zm_D → Nat → Prop} {L : zN} {st : List zv_V} : zJ S D 202 0 L st n sh d u Q ↔ zB S D 202 zb_202_0 L st n sh d u Q := by unfold zJ; rw [zc_202_0]
theorem zc_202_1 : zcd 202 1 = zb_202_1 := by decide +kernel
theorem zj_202_1 {S : zSs} {D n u : Nat} {sh : zk_S} {d : zm_D} {Q : ((Option zv_V) ⊕ Nat) → Nat → zk_S → zm_D → Nat → Prop} {L : zN} {st : List zv_V} : zJ S D 202 1 L st n sh d u Q ↔ zB S D 202 zb_202_1 L st n sh d u Q := by unfold zJ; rw [zc_202_1]
theorem zc_202_2 : zcd 202 2 = zb_202_2 := by decide +kernel
theorem zj_202_2 {S : zSs} {D n u : Nat} {sh : zk_S} {d : zm_D} {Q : ((Option zv_V) ⊕ Nat) → Nat → zk_S → zm_D → Nat → Prop} {L : zN} {st : List zv_V} : zJ S D 202 2 L st n sh d u Q ↔ zB S D 202 zb_202_2 L st n sh d u Q := by unfold zJ; rw [zc_202_2]
theorem zc_202_3 : zcd 202 3 = zb_202_3 := by decide +kernel
theorem zj_202_3 {S : zSs} {D n u : Nat} {sh : zk_S} {d : zm_D} {Q : ((Option zv_V) ⊕ Nat) → Nat → zk_S → zm_D → Nat → Prop} {L : zN} {st : List zv_V} : zJ S D 202 3 L st n sh d u Q ↔ zB S D 202 zb_202_3 L st n sh d u Q := by unfold zJ; rw [zc_202_3]
theorem zn_202 : znl 202 = 5 := by decide +kernel
theorem ze_202 {S : zSs} {D n u : Nat} {sh : zk_S} {d : zm_D} {Q : ((Option zv_V) ⊕ Nat) → Nat → zk_S → zm_D → Nat → Prop} {x0 : Int} : zE S D 202 [zv_a x0] n sh d u Q ↔ zB S D 202 zb_202_0 [some (zv_a x0), none, none, none, none] [] n sh d u Q := by
  unfold zE; rw [zn_202, zc_202_0]; exact ⟨fun h => h.2, fun h => ⟨Nat.le_of_ble_eq_true rfl, h⟩⟩
theorem ze_202s {S : zSs} {D n u : Nat} {sh : zk_S} {d : zm_D} {Q : ((Option zv_V) ⊕ Nat) → Nat → zk_S → zm_D → Nat → Prop} : zE S D 202 [] n sh d u Q ↔ zB S D 202 zb_202_0 [none, none, none, none, none] [] n sh d u Q := by
  unfold zE; rw [zn_202, zc_202_0]; exact ⟨fun h => h.2, fun h => ⟨Nat.le_of_ble_eq_true rfl, h⟩⟩
theorem zh_202 : zhl 202 = [] := by decide +kernel
theorem zc_203_0 : zcd 203 0 = zb_203_0 := by decide +kernel
theorem zj_203_0 {S : zSs} {D n u : Nat} {sh : zk_S} {d : zm_D} {Q : ((Option zv_V) ⊕ Nat) → Nat → zk_S → zm_D → Nat → Prop} {L : zN} {st : List zv_V} : zJ S D 203 0 L st n sh d u Q ↔ zB S D 203 zb_203_0 L st n sh d u Q := by unfold zJ; rw [zc_203_0]
theorem zc_203_1 : zcd 203 1 = zb_203_1 := by decide +kernel
theorem zj_203_1 {S : zSs} {D n u : Nat} {sh : zk_S} {d : zm_D} {Q : ((Option zv_V) ⊕ Nat) → Nat → zk_S → zm_D → Nat → Prop} {L : zN} {st : List zv_V} : zJ S D 203 1 L st n sh d u Q ↔ zB S D 203 zb_203_1 L st n sh d u Q := by unfold zJ; rw [zc_203_1]
theorem zc_203_2 : zcd 203 2 = zb_203_2 := by decide +kernel
theorem zj_203_2 {S : zSs} {D n u : Nat} {sh : zk_S} {d : zm_D} {Q : ((Option zv_V) ⊕ Nat) → Nat → zk_S → zm_D → Nat → Prop} {L : zN} {st : List zv_V} : zJ S D 203 2 L st n sh d u Q ↔ zB S D 203 zb_203_2 L st n sh d u Q := by unfold zJ; rw [zc_203_2]
theorem zc_203_3 : zcd 203 3 = zb_203_3 := by decide +kernel
theorem zj_203_3 {S : zSs} {D n u : Nat} {sh : zk_S} {d : zm_D} {Q : ((Option zv_V) ⊕ Nat) → Nat → zk_S → zm_D → Nat → Prop} {L : zN} {st : List zv_V} : zJ S D 203 3 L st n sh d u Q ↔ zB S D 203 zb_203_3 L st n sh d u Q := by unfold zJ; rw [zc_203_3]
theorem zc_203_4 : zcd 203 4 = zb_203_4 := by decide +kernel
theorem zj_203_4 {S : zSs} {D n u : Nat} {sh : zk_S} {d : zm_D} {Q : ((Option zv_V) ⊕ Nat) → Nat → zk_S → zm_D → Nat → Prop} {L : zN} {st : List zv_V} : zJ S D 203 4 L st n sh d u Q ↔ zB S D 203 zb_203_4 L st n sh d u Q := by unfold zJ; rw [zc_203_4]
theorem zn_203 : znl 203 = 4 := by decide +kernel
theorem ze_203 {S : zSs} {D n u : Nat} {sh : zk_S} {d : zm_D} {Q : ((Option zv_V) ⊕ Nat) → Nat → zk_S → zm_D → Nat → Prop} {x0 : Int} : zE S D 203 [zv_a x0] n sh d u Q ↔ zB S D 203 zb_203_0 [some (zv_a x0), none, none, none] [] n sh d u Q := by
  unfold zE; rw [zn_203, zc_203_0]; exact ⟨fun h => h.2, fun h => ⟨Nat.le_of_ble_eq_true rfl, h⟩⟩
theorem ze_203s {S : zSs} {D n u : Nat} {sh : zk_S} {d : zm_D} {Q : ((Option zv_V) ⊕ Nat) → Nat → zk_S → zm_D → Nat → Prop} : zE S D 203 [] n sh d u Q ↔ zB S D 203 zb_203_0 [none, none, none, none] [] n sh d u Q := by
  unfold zE; rw [zn_203, zc_203_0]; exact ⟨fun h => h.2, fun h => ⟨Nat.le_of_ble_eq_true rfl, h⟩⟩
theorem zh_203 : zhl 203 = [] := by decide +kernel
theorem zc_204_0 : zcd 204 0 = zb_204_0 := by decide +kernel
theorem zj_204_0 {S : zSs} {D n u : Nat} {sh : zk_S} {d : zm_D} {Q : ((Option zv_V) ⊕ Nat) → Nat → zk_S → zm_D → Nat → Prop} {L : zN} {st : List zv_V} : zJ S D 204 0 L st n sh d u Q ↔ zB S D 204 zb_204_0 L st n sh d u Q := by unfold zJ; rw [zc_204_0]
theorem zc_204_1 : zcd 204 1 = zb_204_1 := by decide +kernel
theorem zj_204_1 {S : zSs} {D n u : Nat} {sh : zk_S} {d : zm_D} {Q : ((Option zv_V) ⊕ Nat) → Nat → zk_S → zm_D → Nat → Prop} {L : zN} {st : List zv_V} : zJ S D 204 1 L st n sh d u Q ↔ zB S D 204 zb_204_1 L st n sh d u Q := by unfold zJ; rw [zc_204_1]
theorem zc_204_2 : zcd 204 2 = zb_204_2 := by decide +kernel
theorem zj_204_2 {S : zSs} {D n u : Nat} {sh : zk_S} {d : zm_D} {Q : ((Option zv_V) ⊕ Nat) → Nat → zk_S → zm_D → Nat → Prop} {L : zN} {st : List zv_V} : zJ S D 204 2 L st n sh d u Q ↔ zB S D 204 zb_204_2 L st n sh d u Q := by unfold zJ; rw [zc_204_2]
theorem zn_204 : znl 204 = 6 := by decide +kernel
theorem ze_204 {S : zSs} {D n u : Nat} {sh : zk_S} {d : zm_D} {Q : ((Option zv_V) ⊕ Nat) → Nat → zk_S → zm_D → Nat → Prop} {x0 : Int} {x1 : Int} {x2 : Int} : zE S D 204 [zv_a x0, zv_l x1, zv_l x2] n sh d u Q ↔ zB S D 204 zb_204_0 [some (zv_a x0), some (zv_l x1), none, some (zv_l x2), none, none] [] n sh d u Q := by
  unfold zE; rw [zn_204, zc_204_0]; exact ⟨fun h => h.2, fun h => ⟨Nat.le_of_ble_eq_true rfl, h⟩⟩
theorem ze_204s {S : zSs} {D n u : Nat} {sh : zk_S} {d : zm_D} {Q : ((Option zv_V) ⊕ Nat) → Nat → zk_S → zm_D → Nat → Prop} {x0 : Int} {x1 : Int} : zE S D 204 [zv_l x0, zv_l x1] n sh d u Q ↔ zB S D 204 zb_204_0 [some (zv_l x0), none, some (zv_l x1), none, none, none] [] n sh d u Q := by
  unfold zE; rw [zn_204, zc_204_0]; exact ⟨fun h => h.2, fun h => ⟨Nat.le_of_ble_eq_true rfl, h⟩⟩
theorem zh_204 : zhl 204 = [] := by decide +kernel
theorem zc_205_0 : zcd 205 0 = zb_205_0 := by decide +kernel
theorem zj_205_0 {S : zSs} {D n u : Nat} {sh : zk_S} {d : zm_D} {Q : ((Option zv_V) ⊕ Nat) → Nat → zk_S → zm_D → Nat → Prop} {L : zN} {st : List zv_V} : zJ S D 205 0 L st n sh d u Q ↔ zB S D 205 zb_205_0 L st n sh d u Q := by unfold zJ; rw [zc_205_0]
theorem zc_205_1 : zcd 205 1 = zb_205_1 := by decide +kernel
theorem zj_205_1 {S : zSs} {D n u : Nat} {sh : zk_S} {d : zm_D} {Q : ((Option zv_V) ⊕ Nat) → Nat → zk_S → zm_D → Nat → Prop} {L : zN} {st : List zv_V} : zJ S D 205 1 L st n sh d u Q ↔ zB S D 205 zb_205_1 L st n sh d u Q := by unfold zJ; rw [zc_205_1]
theorem zc_205_2 : zcd 205 2 = zb_205_2 := by decide +kernel
theorem zj_205_2 {S : zSs} {D n u : Nat} {sh : zk_S} {d : zm_D} {Q : ((Option zv_V) ⊕ Nat) → Nat → zk_S → zm_D → Nat → Prop} {L : zN} {st : List zv_V} : zJ S D 205 2 L st n sh d u Q ↔ zB S D 205 zb_205_2 L st n sh d u Q := by unfold zJ; rw [zc_205_2]
theorem zn_205 : znl 205 = 6 := by decide +kernel
theorem ze_205 {S : zSs} {D n u : Nat} {sh : zk_S} {d : zm_D} {Q : ((Option zv_V) ⊕ Nat) → Nat → zk_S → zm_D → Nat → Prop} {x0 : Int} {x1 : Int} {x2 : Int} : zE S D 205 [zv_a x0, zv_l x1, zv_l x2] n sh d u Q ↔ zB S D 205 zb_205_0 [some (zv_a x0), some (zv_l x1), none, some (zv_l x2), none, none] [] n sh d u Q := by
  unfold zE; rw [zn_205, zc_205_0]; exact ⟨fun h => h.2, fun h => ⟨Nat.le_of_ble_eq_true rfl, h⟩⟩
theorem ze_205s {S : zSs} {D n u : Nat} {sh : zk_S} {d : zm_D} {Q : ((Option zv_V) ⊕ Nat) → Nat → zk_S → zm_D → Nat → Prop} {x0 : Int} {x1 : Int} : zE S D 205 [zv_l x0, zv_l x1] n sh d u Q ↔ zB S D 205 zb_205_0 [some (zv_l x0), none, some (zv_l x1), none, none, none] [] n sh d u Q := by
  unfold zE; rw [zn_205, zc_205_0]; exact ⟨fun h => h.2, fun h => ⟨Nat.le_of_ble_eq_true rfl, h⟩⟩
theorem zh_205 : zhl 205 = [] := by decide +kernel
theorem zc_206_0 : zcd 206 0 = zb_206_0 := by decide +kernel
theorem zj_206_0 {S : zSs} {D n u : Nat} {sh : zk_S} {d : zm_D} {Q : ((Option zv_V) ⊕ Nat) → Nat → zk_S → zm_D → Nat → Prop} {L : zN} {st : List zv_V} : zJ S D 206 0 L st n sh d u Q ↔ zB S D 206 zb_206_0 L st n sh d u Q := by unfold zJ; rw [zc_206_0]
theorem zc_206_1 : zcd 206 1 = zb_206_1 := by decide +kernel
theorem zj_206_1 {S : zSs} {D n u : Nat} {sh : zk_S} {d : zm_D} {Q : ((Option zv_V) ⊕ Nat) → Nat → zk_S → zm_D → Nat → Prop} {L : zN} {st : List zv_V} : zJ S D 206 1 L st n sh d u Q ↔ zB S D 206 zb_206_1 L st n sh d u Q := by unfold zJ; rw [zc_206_1]
theorem zc_206_2 : zcd 206 2 = zb_206_2 := by decide +kernel
theorem zj_206_2 {S : zSs} {D n u : Nat} {sh : zk_S} {d : zm_D} {Q : ((Option zv_V) ⊕ Nat) → Nat → zk_S → zm_D → Nat → Prop} {L : zN} {st : List zv_V} : zJ S D 206 2 L st n sh d u Q ↔ zB S D 206 zb_206_2 L st n sh d u Q := by unfold zJ; rw [zc_206_2]
theorem zn_206 : znl 206 = 11 := by decide +kernel
theorem ze_206 {S : zSs} {D n u : Nat} {sh : zk_S} {d : zm_D} {Q : ((Option zv_V) ⊕ Nat) → Nat → zk_S → zm_D → Nat → Prop} {x0 : Int} {x1 : Int} {x2 : Int} : zE S D 206 [zv_a x0, zv_l x1, zv_l x2] n sh d u Q ↔ zB S D 206 zb_206_0 [some (zv_a x0), some (zv_l x1), none, some (zv_l x2), none, none, none, none, none, none, none] [] n sh d u Q := by
  unfold zE; rw [zn_206, zc_206_0]; exact ⟨fun h => h.2, fun h => ⟨Nat.le_of_ble_eq_true rfl, h⟩⟩
theorem ze_206s {S : zSs} {D n u : Nat} {sh : zk_S} {d : zm_D} {Q : ((Option zv_V) ⊕ Nat) → Nat → zk_S → zm_D → Nat → Prop} {x0 : Int} {x1 : Int} : zE S D 206 [zv_l x0, zv_l x1] n sh d u Q ↔ zB S D 206 zb_206_0 [some (zv_l x0), none, some (zv_l x1), none, none, none, none, none, none, none, none] [] n sh d u Q := by
  unfold zE; rw [zn_206, zc_206_0]; exact ⟨fun h => h.2, fun h => ⟨Nat.le_of_ble_eq_true rfl, h⟩⟩
theorem zh_206 : zhl 206 = [] := by decide +kernel
theorem zc_207_0 : zcd 207 0 = zb_207_0 := by decide +kernel
theorem zj_207_0 {S : zSs} {D n u : Nat} {sh : zk_S} {d : zm_D} {Q : ((Option zv_V) ⊕ Nat) → Nat → zk_S → zm_D → Nat → Prop} {L : zN} {st : List zv_V} : zJ S D 207 0 L st n sh d u Q ↔ zB S D 207 zb_207_0 L st n sh d u Q := by unfold zJ; rw [zc_207_0]
theorem zc_207_1 : zcd 207 1 = zb_207_1 := by decide +kernel
theorem zj_207_1 {S : zSs} {D n u : Nat} {sh : zk_S} {d : zm_D} {Q : ((Option zv_V) ⊕ Nat) → Nat → zk_S → zm_D → Nat → Prop} {L : zN} {st : List zv_V} : zJ S D 207 1 L st n sh d u Q ↔ zB S D 207 zb_207_1 L st n sh d u Q := by unfold zJ; rw [zc_207_1]
theorem zc_207_2 : zcd 207 2 = zb_207_2 := by decide +kernel
theorem zj_207_2 {S : zSs} {D n u : Nat} {sh : zk_S} {d : zm_D} {Q : ((Option zv_V) ⊕ Nat) → Nat → zk_S → zm_D → Nat → Prop} {L : zN} {st : List zv_V} : zJ S D 207 2 L st n sh d u Q ↔ zB S D 207 zb_207_2 L st n sh d u Q := by unfold zJ; rw [zc_207_2]
theorem zn_207 : znl 207 = 5 := by decide +kernel
theorem ze_207 {S : zSs} {D n u : Nat} {sh : zk_S} {d : zm_D} {Q : ((Option zv_V) ⊕ Nat) → Nat → zk_S → zm_D → Nat → Prop} {x0 : Int} {x1 : Int} {x2 : Int} : zE S D 207 [zv_a x0, zv_i x1, zv_i x2] n sh d u Q ↔ zB S D 207 zb_207_0 [some (zv_a x0), some (zv_i x1), some (zv_i x2), none, none] [] n sh d u Q := by
  unfold zE; rw [zn_207, zc_207_0]; exact ⟨fun h => h.2, fun h => ⟨Nat.le_of_ble_eq_true rfl, h⟩⟩
theorem ze_207s {S : zSs} {D n u : Nat} {sh : zk_S} {d : zm_D} {Q : ((Option zv_V) ⊕ Nat) → Nat → zk_S → zm_D → Nat → Prop} {x0 : Int} {x1 : Int} : zE S D 207 [zv_i x0, zv_i x1] n sh d u Q ↔ zB S D 207 zb_207_0 [some (zv_i x0), some (zv_i x1), none, none, none] [] n sh d u Q := by
  unfold zE; rw [zn_207, zc_207_0]; exact ⟨fun h => h.2, fun h => ⟨Nat.le_of_ble_eq_true rfl, h⟩⟩
theorem zh_207 : zhl 207 = [] := by decide +kernel
theorem zc_208_0 : zcd 208 0 = zb_208_0 := by decide +kernel
theorem zj_208_0 {S : zSs} {D n u : Nat} {sh : zk_S} {d : zm_D} {Q : ((Option zv_V) ⊕ Nat) → Nat → zk_S → zm_D → Nat → Prop} {L : zN} {st : List zv_V} : zJ S D 208 0 L st n sh d u Q ↔ zB S D 208 zb_208_0 L st n sh d u Q := by unfold zJ; rw [zc_208_0]
theorem zn_208 : znl 208 = 2 := by decide +kernel
theorem ze_208s {S : zSs} {D n u : Nat} {sh : zk_S} {d : zm_D} {Q : ((Option zv_V) ⊕ Nat) → Nat → zk_S → zm_D → Nat → Prop} {x0 : Int} {x1 : Int} : zE S D 208 [zv_i x0, zv_i x1] n sh d u Q ↔ zB S D 208 zb_208_0 [some (zv_i x0), some (zv_i x1)] [] n sh d u Q := by
  unfold zE; rw [zn_208, zc_208_0]; exact ⟨fun h => h.2, fun h => ⟨Nat.le_of_ble_eq_true rfl, h⟩⟩
theorem zh_208 : zhl 208 = [] := by decide +kernel
theorem zc_209_0 : zcd 209 0 = zb_209_0 := by decide +kernel
theorem zj_209_0 {S : zSs} {D n u : Nat} {sh : zk_S} {d : zm_D} {Q : ((Option zv_V) ⊕ Nat) → Nat → zk_S → zm_D → Nat → Prop} {L : zN} {st : List zv_V} : zJ S D 209 0 L st n sh d u Q ↔ zB S D 209 zb_209_0 L st n sh d u Q := by unfold zJ; rw [zc_209_0]
theorem zc_209_1 : zcd 209 1 = zb_209_1 := by decide +kernel
theorem zj_209_1 {S : zSs} {D n u : Nat} {sh : zk_S} {d : zm_D} {Q : ((Option zv_V) ⊕ Nat) → Nat → zk_S → zm_D → Nat → Prop} {L : zN} {st : List zv_V} : zJ S D 209 1 L st n sh d u Q ↔ zB S D 209 zb_209_1 L st n sh d u Q := by unfold zJ; rw [zc_209_1]
theorem zc_209_2 : zcd 209 2 = zb_209_2 := by decide +kernel
theorem zj_209_2 {S : zSs} {D n u : Nat} {sh : zk_S} {d : zm_D} {Q : ((Option zv_V) ⊕ Nat) → Nat → zk_S → zm_D → Nat → Prop} {L : zN} {st : List zv_V} : zJ S D 209 2 L st n sh d u Q ↔ zB S D 209 zb_209_2 L st n sh d u Q := by unfold zJ; rw [zc_209_2]
theorem zc_209_3 : zcd 209 3 = zb_209_3 := by decide +kernel
theorem zj_209_3 {S : zSs} {D n u : Nat} {sh : zk_S} {d : zm_D} {Q : ((Option zv_V) ⊕ Nat) → Nat → zk_S → zm_D → Nat → Prop} {L : zN} {st : List zv_V} : zJ S D 209 3 L st n sh d u Q ↔ zB S D 209 zb_209_3 L st n sh d u Q := by unfold zJ; rw [zc_209_3]
theorem zc_209_4 : zcd 209 4 = zb_209_4 := by decide +kernel
theorem zj_209_4 {S : zSs} {D n u : Nat} {sh : zk_S} {d : zm_D} {Q : ((Option zv_V) ⊕ Nat) → Nat → zk_S → zm_D → Nat → Prop} {L : zN} {st : List zv_V} : zJ S D 209 4 L st n sh d u Q ↔ zB S D 209 zb_209_4 L st n sh d u Q := by unfold zJ; rw [zc_209_4]
theorem zc_209_5 : zcd 209 5 = zb_209_5 := by decide +kernel
theorem zj_209_5 {S : zSs} {D n u : Nat} {sh : zk_S} {d : zm_D} {Q : ((Option zv_V) ⊕ Nat) → Nat → zk_S → zm_D → Nat → Prop} {L : zN} {st : List zv_V} : zJ S D 209 5 L st n sh d u Q ↔ zB S D 209 zb_209_5 L st n sh d u Q := by unfold zJ; rw [zc_209_5]
theorem zc_209_6 : zcd 209 6 = zb_209_6 := by decide +kernel
theorem zj_209_6 {S : zSs} {D n u : Nat} {sh : zk_S} {d : zm_D} {Q : ((Option zv_V) ⊕ Nat) → Nat → zk_S → zm_D → Nat → Prop} {L : zN} {st : List zv_V} : zJ S D 209 6 L st n sh d u Q ↔ zB S D 209 zb_209_6 L st n sh d u Q := by unfold zJ; rw [zc_209_6]
theorem zc_209_7 : zcd 209 7 = zb_209_7 := by decide +kernel
theorem zj_209_7 {S : zSs} {D n u : Nat} {sh : zk_S} {d : zm_D} {Q : ((Option zv_V) ⊕ Nat) → Nat → zk_S → zm_D → Nat → Prop} {L : zN} {st : List zv_V} : zJ S D 209 7 L st n sh d u Q ↔ zB S D 209 zb_209_7 L st n sh d u Q := by unfold zJ; rw [zc_209_7]
theorem zc_209_8 : zcd 209 8 = zb_209_8 := by decide +kernel
theorem zj_209_8 {S : zSs} {D n u : Nat} {sh : zk_S} {d : zm_D} {Q : ((Option zv_V) ⊕ Nat) → Nat → zk_S → zm_D → Nat → Prop} {L : zN} {st : List zv_V} : zJ S D 209 8 L st n sh d u Q ↔ zB S D 209 zb_209_8 L st n sh d u Q := by unfold zJ; rw [zc_209_8]
theorem zc_209_9 : zcd 209 9 = zb_209_9 := by decide +kernel
theorem zj_209_9 {S : zSs} {D n u : Nat} {sh : zk_S} {d : zm_D} {Q : ((Option zv_V) ⊕ Nat) → Nat → zk_S → zm_D → Nat → Prop} {L : zN} {st : List zv_V} : zJ S D 209 9 L st n sh d u Q ↔ zB S D 209 zb_209_9 L st n sh d u Q := by unfold zJ; rw [zc_209_9]
theorem zn_209 : znl 209 = 5 := by decide +kernel
theorem ze_209 {S : zSs} {D n u : Nat} {sh : zk_S} {d : zm_D} {Q : ((Option zv_V) ⊕ Nat) → Nat → zk_S → zm_D → Nat → Prop} {x0 : Int} {x1 : UInt32} : zE S D 209 [zv_a x0, zv_f x1] n sh d u Q ↔ zB S D 209 zb_209_0 [some (zv_a x0), some (zv_f x1), none, none, none] [] n sh d u Q := by
  unfold zE; rw [zn_209, zc_209_0]; exact ⟨fun h => h.2, fun h => ⟨Nat.le_of_ble_eq_true rfl, h⟩⟩
theorem ze_209s {S : zSs} {D n u : Nat} {sh : zk_S} {d : zm_D} {Q : ((Option zv_V) ⊕ Nat) → Nat → zk_S → zm_D → Nat → Prop} {x0 : UInt32} : zE S D 209 [zv_f x0] n sh d u Q ↔ zB S D 209 zb_209_0 [some (zv_f x0), none, none, none, none] [] n sh d u Q := by
  unfold zE; rw [zn_209, zc_209_0]; exact ⟨fun h => h.2, fun h => ⟨Nat.le_of_ble_eq_true rfl, h⟩⟩
theorem zh_209 : zhl 209 = [] := by decide +kernel
theorem zc_210_0 : zcd 210 0 = zb_210_0 := by decide +kernel
theorem zj_210_0 {S : zSs} {D n u : Nat} {sh : zk_S} {d : zm_D} {Q : ((Option zv_V) ⊕ Nat) → Nat → zk_S → zm_D → Nat → Prop} {L : zN} {st : List zv_V} : zJ S D 210 0 L st n sh d u Q ↔ zB S D 210 zb_210_0 L st n sh d u Q := by unfold zJ; rw [zc_210_0]
theorem zc_210_1 : zcd 210 1 = zb_210_1 := by decide +kernel
theorem zj_210_1 {S : zSs} {D n u : Nat} {sh : zk_S} {d : zm_D} {Q : ((Option zv_V) ⊕ Nat) → Nat → zk_S → zm_D → Nat → Prop} {L : zN} {st : List zv_V} : zJ S D 210 1 L st n sh d u Q ↔ zB S D 210 zb_210_1 L st n sh d u Q := by unfold zJ; rw [zc_210_1]
theorem zc_210_2 : zcd 210 2 = zb_210_2 := by decide +kernel
theorem zj_210_2 {S : zSs} {D n u : Nat} {sh : zk_S} {d : zm_D} {Q : ((Option zv_V) ⊕ Nat) → Nat → zk_S → zm_D → Nat → Prop} {L : zN} {st : List zv_V} : zJ S D 210 2 L st n sh d u Q ↔ zB S D 210 zb_210_2 L st n sh d u Q := by unfold zJ; rw [zc_210_2]
theorem zc_210_3 : zcd 210 3 = zb_210_3 := by decide +kernel
theorem zj_210_3 {S : zSs} {D n u : Nat} {sh : zk_S} {d : zm_D} {Q : ((Option zv_V) ⊕ Nat) → Nat → zk_S → zm_D → Nat → Prop} {L : zN} {st : List zv_V} : zJ S D 210 3 L st n sh d u Q ↔ zB S D 210 zb_210_3 L st n sh d u Q := by unfold zJ; rw [zc_210_3]
theorem zc_210_4 : zcd 210 4 = zb_210_4 := by decide +kernel
theorem zj_210_4 {S : zSs} {D n u : Nat} {sh : zk_S} {d : zm_D} {Q : ((Option zv_V) ⊕ Nat) → Nat → zk_S → zm_D → Nat → Prop} {L : zN} {st : List zv_V} : zJ S D 210 4 L st n sh d u Q ↔ zB S D 210 zb_210_4 L st n sh d u Q := by unfold zJ; rw [zc_210_4]
theorem zc_210_5 : zcd 210 5 = zb_210_5 := by decide +kernel
theorem zj_210_5 {S : zSs} {D n u : Nat} {sh : zk_S} {d : zm_D} {Q : ((Option zv_V) ⊕ Nat) → Nat → zk_S → zm_D → Nat → Prop} {L : zN} {st : List zv_V} : zJ S D 210 5 L st n sh d u Q ↔ zB S D 210 zb_210_5 L st n sh d u Q := by unfold zJ; rw [zc_210_5]
theorem zc_210_6 : zcd 210 6 = zb_210_6 := by decide +kernel
theorem zj_210_6 {S : zSs} {D n u : Nat} {sh : zk_S} {d : zm_D} {Q : ((Option zv_V) ⊕ Nat) → Nat → zk_S → zm_D → Nat → Prop} {L : zN} {st : List zv_V} : zJ S D 210 6 L st n sh d u Q ↔ zB S D 210 zb_210_6 L st n sh d u Q := by unfold zJ; rw [zc_210_6]
theorem zn_210 : znl 210 = 6 := by decide +kernel
theorem ze_210 {S : zSs} {D n u : Nat} {sh : zk_S} {d : zm_D} {Q : ((Option zv_V) ⊕ Nat) → Nat → zk_S → zm_D → Nat → Prop} {x0 : Int} : zE S D 210 [zv_a x0] n sh d u Q ↔ zB S D 210 zb_210_0 [some (zv_a x0), none, none, none, none, none] [] n sh d u Q := by
  unfold zE; rw [zn_210, zc_210_0]; exact ⟨fun h => h.2, fun h => ⟨Nat.le_of_ble_eq_true rfl, h⟩⟩
theorem ze_210s {S : zSs} {D n u : Nat} {sh : zk_S} {d : zm_D} {Q : ((Option zv_V) ⊕ Nat) → Nat → zk_S → zm_D → Nat → Prop} : zE S D 210 [] n sh d u Q ↔ zB S D 210 zb_210_0 [none, none, none, none, none, none] [] n sh d u Q := by
  unfold zE; rw [zn_210, zc_210_0]; exact ⟨fun h => h.2, fun h => ⟨Nat.le_of_ble_eq_true rfl, h⟩⟩
theorem zh_210 : zhl 210 = [] := by decide +kernel
theorem zc_211_0 : zcd 211 0 = zb_211_0 := by decide +kernel
theorem zj_211_0 {S : zSs} {D n u : Nat} {sh : zk_S} {d : zm_D} {Q : ((Option zv_V) ⊕ Nat) → Nat → zk_S → zm_D → Nat → Prop} {L : zN} {st : List zv_V} : zJ S D 211 0 L st n sh d u Q ↔ zB S D 211 zb_211_0 L st n sh d u Q := by unfold zJ; rw [zc_211_0]
theorem zn_211 : znl 211 = 1 := by decide +kernel
theorem ze_211 {S : zSs} {D n u : Nat} {sh : zk_S} {d : zm_D} {Q : ((Option zv_V) ⊕ Nat) → Nat → zk_S → zm_D → Nat → Prop} {x0 : Int} : zE S D 211 [zv_a x0] n sh d u Q ↔ zB S D 211 zb_211_0 [some (zv_a x0)] [] n sh d u Q := by
  unfold zE; rw [zn_211, zc_211_0]; exact ⟨fun h => h.2, fun h => ⟨Nat.le_of_ble_eq_true rfl, h⟩⟩
theorem ze_211s {S : zSs} {D n u : Nat} {sh : zk_S} {d : zm_D} {Q : ((Option zv_V) ⊕ Nat) → Nat → zk_S → zm_D → Nat → Prop} : zE S D 211 [] n sh d u Q ↔ zB S D 211 zb_211_0 [none] [] n sh d u Q := by
  unfold zE; rw [zn_211, zc_211_0]; exact ⟨fun h => h.2, fun h => ⟨Nat.le_of_ble_eq_true rfl, h⟩⟩
theorem zh_211 : zhl 211 = [] := by decide +kernel
theorem zc_212_0 : zcd 212 0 = zb_212_0 := by decide +kernel
theorem zj_212_0 {S : zSs} {D n u : Nat} {sh : zk_S} {d : zm_D} {Q : ((Option zv_V) ⊕ Nat) → Nat → zk_S → zm_D → Nat → Prop} {L : zN} {st : List zv_V} : zJ S D 212 0 L st n sh d u Q ↔ zB S D 212 zb_212_0 L st n sh d u Q := by unfold zJ; rw [zc_212_0]
theorem zc_212_1 : zcd 212 1 = zb_212_1 := by decide +kernel
theorem zj_212_1 {S : zSs} {D n u : Nat} {sh : zk_S} {d : zm_D} {Q : ((Option zv_V) ⊕ Nat) → Nat → zk_S → zm_D → Nat → Prop} {L : zN} {st : List zv_V} : zJ S D 212 1 L st n sh d u Q ↔ zB S D 212 zb_212_1 L st n sh d u Q := by unfold zJ; rw [zc_212_1]
theorem zc_212_2 : zcd 212 2 = zb_212_2 := by decide +kernel
theorem zj_212_2 {S : zSs} {D n u : Nat} {sh : zk_S} {d : zm_D} {Q : ((Option zv_V) ⊕ Nat) → Nat → zk_S → zm_D → Nat → Prop} {L : zN} {st : List zv_V} : zJ S D 212 2 L st n sh d u Q ↔ zB S D 212 zb_212_2 L st n sh d u Q := by unfold zJ; rw [zc_212_2]
theorem zn_212 : znl 212 = 3 := by decide +kernel
theorem ze_212 {S : zSs} {D n u : Nat} {sh : zk_S} {d : zm_D} {Q : ((Option zv_V) ⊕ Nat) → Nat → zk_S → zm_D → Nat → Prop} {x0 : Int} {x1 : Int} {x2 : Int} : zE S D 212 [zv_a x0, zv_i x1, zv_i x2] n sh d u Q ↔ zB S D 212 zb_212_0 [some (zv_a x0), some (zv_i x1), some (zv_i x2)] [] n sh d u Q := by
  unfold zE; rw [zn_212, zc_212_0]; exact ⟨fun h => h.2, fun h => ⟨Nat.le_of_ble_eq_true rfl, h⟩⟩
theorem ze_212s {S : zSs} {D n u : Nat} {sh : zk_S} {d : zm_D} {Q : ((Option zv_V) ⊕ Nat) → Nat → zk_S → zm_D → Nat → Prop} {x0 : Int} {x1 : Int} : zE S D 212 [zv_i x0, zv_i x1] n sh d u Q ↔ zB S D 212 zb_212_0 [some (zv_i x0), some (zv_i x1), none] [] n sh d u Q := by
  unfold zE; rw [zn_212, zc_212_0]; exact ⟨fun h => h.2, fun h => ⟨Nat.le_of_ble_eq_true rfl, h⟩⟩
theorem zh_212 : zhl 212 = [] := by decide +kernel
theorem zc_213_0 : zcd 213 0 = zb_213_0 := by decide +kernel
theorem zj_213_0 {S : zSs} {D n u : Nat} {sh : zk_S} {d : zm_D} {Q : ((Option zv_V) ⊕ Nat) → Nat → zk_S → zm_D → Nat → Prop} {L : zN} {st : List zv_V} : zJ S D 213 0 L st n sh d u Q ↔ zB S D 213 zb_213_0 L st n sh d u Q := by unfold zJ; rw [zc_213_0]
theorem zc_213_1 : zcd 213 1 = zb_213_1 := by decide +kernel
theorem zj_213_1 {S : zSs} {D n u : Nat} {sh : zk_S} {d : zm_D} {Q : ((Option zv_V) ⊕ Nat) → Nat → zk_S → zm_D → Nat → Prop} {L : zN} {st : List zv_V} : zJ S D 213 1 L st n sh d u Q ↔ zB S D 213 zb_213_1 L st n sh d u Q := by unfold zJ; rw [zc_213_1]
theorem zc_213_2 : zcd 213 2 = zb_213_2 := by decide +kernel
theorem zj_213_2 {S : zSs} {D n u : Nat} {sh : zk_S} {d : zm_D} {Q : ((Option zv_V) ⊕ Nat) → Nat → zk_S → zm_D → Nat → Prop} {L : zN} {st : List zv_V} : zJ S D 213 2 L st n sh d u Q ↔ zB S D 213 zb_213_2 L st n sh d u Q := by unfold zJ; rw [zc_213_2]
theorem zn_213 : znl 213 = 3 := by decide +kernel
theorem ze_213s {S : zSs} {D n u : Nat} {sh : zk_S} {d : zm_D} {Q : ((Option zv_V) ⊕ Nat) → Nat → zk_S → zm_D → Nat → Prop} {x0 : Int} {x1 : Int} {x2 : Int} : zE S D 213 [zv_i x0, zv_i x1, zv_i x2] n sh d u Q ↔ zB S D 213 zb_213_0 [some (zv_i x0), some (zv_i x1), some (zv_i x2)] [] n sh d u Q := by
  unfold zE; rw [zn_213, zc_213_0]; exact ⟨fun h => h.2, fun h => ⟨Nat.le_of_ble_eq_true rfl, h⟩⟩
theorem zh_213 : zhl 213 = [] := by decide +kernel
theorem zc_214_0 : zcd 214 0 = zb_214_0 := by decide +kernel
theorem zj_214_0 {S : zSs} {D n u : Nat} {sh : zk_S} {d : zm_D} {Q : ((Option zv_V) ⊕ Nat) → Nat → zk_S → zm_D → Nat → Prop} {L : zN} {st : List zv_V} : zJ S D 214 0 L st n sh d u Q ↔ zB S D 214 zb_214_0 L st n sh d u Q := by unfold zJ; rw [zc_214_0]
theorem zc_214_1 : zcd 214 1 = zb_214_1 := by decide +kernel
theorem zj_214_1 {S : zSs} {D n u : Nat} {sh : zk_S} {d : zm_D} {Q : ((Option zv_V) ⊕ Nat) → Nat → zk_S → zm_D → Nat → Prop} {L : zN} {st : List zv_V} : zJ S D 214 1 L st n sh d u Q ↔ zB S D 214 zb_214_1 L st n sh d u Q := by unfold zJ; rw [zc_214_1]
theorem zc_214_2 : zcd 214 2 = zb_214_2 := by decide +kernel
theorem zj_214_2 {S : zSs} {D n u : Nat} {sh : zk_S} {d : zm_D} {Q : ((Option zv_V) ⊕ Nat) → Nat → zk_S → zm_D → Nat → Prop} {L : zN} {st : List zv_V} : zJ S D 214 2 L st n sh d u Q ↔ zB S D 214 zb_214_2 L st n sh d u Q := by unfold zJ; rw [zc_214_2]
theorem zn_214 : znl 214 = 2 := by decide +kernel
theorem ze_214 {S : zSs} {D n u : Nat} {sh : zk_S} {d : zm_D} {Q : ((Option zv_V) ⊕ Nat) → Nat → zk_S → zm_D → Nat → Prop} {x0 : Int} {x1 : Int} : zE S D 214 [zv_a x0, zv_i x1] n sh d u Q ↔ zB S D 214 zb_214_0 [some (zv_a x0), some (zv_i x1)] [] n sh d u Q := by
  unfold zE; rw [zn_214, zc_214_0]; exact ⟨fun h => h.2, fun h => ⟨Nat.le_of_ble_eq_true rfl, h⟩⟩
theorem ze_214s {S : zSs} {D n u : Nat} {sh : zk_S} {d : zm_D} {Q : ((Option zv_V) ⊕ Nat) → Nat → zk_S → zm_D → Nat → Prop} {x0 : Int} : zE S D 214 [zv_i x0] n sh d u Q ↔ zB S D 214 zb_214_0 [some (zv_i x0), none] [] n sh d u Q := by
  unfold zE; rw [zn_214, zc_214_0]; exact ⟨fun h => h.2, fun h => ⟨Nat.le_of_ble_eq_true rfl, h⟩⟩
theorem zh_214 : zhl 214 = [] := by decide +kernel
theorem zc_215_0 : zcd 215 0 = zb_215_0 := by decide +kernel
theorem zj_215_0 {S : zSs} {D n u : Nat} {sh : zk_S} {d : zm_D} {Q : ((Option zv_V) ⊕ Nat) → Nat → zk_S → zm_D → Nat → Prop} {L : zN} {st : List zv_V} : zJ S D 215 0 L st n sh d u Q ↔ zB S D 215 zb_215_0 L st n sh d u Q := by unfold zJ; rw [zc_215_0]
theorem zc_215_1 : zcd 215 1 = zb_215_1 := by decide +kernel
theorem zj_215_1 {S : zSs} {D n u : Nat} {sh : zk_S} {d : zm_D} {Q : ((Option zv_V) ⊕ Nat) → Nat → zk_S → zm_D → Nat → Prop} {L : zN} {st : List zv_V} : zJ S D 215 1 L st n sh d u Q ↔ zB S D 215 zb_215_1 L st n sh d u Q := by unfold zJ; rw [zc_215_1]
theorem zc_215_2 : zcd 215 2 = zb_215_2 := by decide +kernel
theorem zj_215_2 {S : zSs} {D n u : Nat} {sh : zk_S} {d : zm_D} {Q : ((Option zv_V) ⊕ Nat) → Nat → zk_S → zm_D → Nat → Prop} {L : zN} {st : List zv_V} : zJ S D 215 2 L st n sh d u Q ↔ zB S D 215 zb_215_2 L st n sh d u Q := by unfold zJ; rw [zc_215_2]
theorem zc_215_3 : zcd 215 3 = zb_215_3 := by decide +kernel
theorem zj_215_3 {S : zSs} {D n u : Nat} {sh : zk_S} {d : zm_D} {Q : ((Option zv_V) ⊕ Nat) → Nat → zk_S → zm_D → Nat → Prop} {L : zN} {st : List zv_V} : zJ S D 215 3 L st n sh d u Q ↔ zB S D 215 zb_215_3 L st n sh d u Q := by unfold zJ; rw [zc_215_3]
theorem zc_215_4 : zcd 215 4 = zb_215_4 := by decide +kernel
theorem zj_215_4 {S : zSs} {D n u : Nat} {sh : zk_S} {d : zm_D} {Q : ((Option zv_V) ⊕ Nat) → Nat → zk_S → zm_D → Nat → Prop} {L : zN} {st : List zv_V} : zJ S D 215 4 L st n sh d u Q ↔ zB S D 215 zb_215_4 L st n sh d u Q := by unfold zJ; rw [zc_215_4]
theorem zc_215_5 : zcd 215 5 = zb_215_5 := by decide +kernel
theorem zj_215_5 {S : zSs} {D n u : Nat} {sh : zk_S} {d : zm_D} {Q : ((Option zv_V) ⊕ Nat) → Nat → zk_S → zm_D → Nat → Prop} {L : zN} {st : List zv_V} : zJ S D 215 5 L st n sh d u Q ↔ zB S D 215 zb_215_5 L st n sh d u Q := by unfold zJ; rw [zc_215_5]
theorem zc_215_6 : zcd 215 6 = zb_215_6 := by decide +kernel
theorem zj_215_6 {S : zSs} {D n u : Nat} {sh : zk_S} {d : zm_D} {Q : ((Option zv_V) ⊕ Nat) → Nat → zk_S → zm_D → Nat → Prop} {L : zN} {st : List zv_V} : zJ S D 215 6 L st n sh d u Q ↔ zB S D 215 zb_215_6 L st n sh d u Q := by unfold zJ; rw [zc_215_6]
theorem zn_215 : znl 215 = 2 := by decide +kernel
theorem ze_215 {S : zSs} {D n u : Nat} {sh : zk_S} {d : zm_D} {Q : ((Option zv_V) ⊕ Nat) → Nat → zk_S → zm_D → Nat → Prop} {x0 : Int} {x1 : Int} : zE S D 215 [zv_a x0, zv_i x1] n sh d u Q ↔ zB S D 215 zb_215_0 [some (zv_a x0), some (zv_i x1)] [] n sh d u Q := by
  unfold zE; rw [zn_215, zc_215_0]; exact ⟨fun h => h.2, fun h => ⟨Nat.le_of_ble_eq_true rfl, h⟩⟩
theorem ze_215s {S : zSs} {D n u : Nat} {sh : zk_S} {d : zm_D} {Q : ((Option zv_V) ⊕ Nat) → Nat → zk_S → zm_D → Nat → Prop} {x0 : Int} : zE S D 215 [zv_i x0] n sh d u Q ↔ zB S D 215 zb_215_0 [some (zv_i x0), none] [] n sh d u Q := by
  unfold zE; rw [zn_215, zc_215_0]; exact ⟨fun h => h.2, fun h => ⟨Nat.le_of_ble_eq_true rfl, h⟩⟩
theorem zh_215 : zhl 215 = [] := by decide +kernel
theorem zc_216_0 : zcd 216 0 = zb_216_0 := by decide +kernel
theorem zj_216_0 {S : zSs} {D n u : Nat} {sh : zk_S} {d : zm_D} {Q : ((Option zv_V) ⊕ Nat) → Nat → zk_S → zm_D → Nat → Prop} {L : zN} {st : List zv_V} : zJ S D 216 0 L st n sh d u Q ↔ zB S D 216 zb_216_0 L st n sh d u Q := by unfold zJ; rw [zc_216_0]
theorem zc_216_1 : zcd 216 1 = zb_216_1 := by decide +kernel
theorem zj_216_1 {S : zSs} {D n u : Nat} {sh : zk_S} {d : zm_D} {Q : ((Option zv_V) ⊕ Nat) → Nat → zk_S → zm_D → Nat → Prop} {L : zN} {st : List zv_V} : zJ S D 216 1 L st n sh d u Q ↔ zB S D 216 zb_216_1 L st n sh d u Q := by unfold zJ; rw [zc_216_1]
theorem zc_216_2 : zcd 216 2 = zb_216_2 := by decide +kernel
theorem zj_216_2 {S : zSs} {D n u : Nat} {sh : zk_S} {d : zm_D} {Q : ((Option zv_V) ⊕ Nat) → Nat → zk_S → zm_D → Nat → Prop} {L : zN} {st : List zv_V} : zJ S D 216 2 L st n sh d u Q ↔ zB S D 216 zb_216_2 L st n sh d u Q := by unfold zJ; rw [zc_216_2]
theorem zc_216_3 : zcd 216 3 = zb_216_3 := by decide +kernel
theorem zj_216_3 {S : zSs} {D n u : Nat} {sh : zk_S} {d : zm_D} {Q : ((Option zv_V) ⊕ Nat) → Nat → zk_S → zm_D → Nat → Prop} {L : zN} {st : List zv_V} : zJ S D 216 3 L st n sh d u Q ↔ zB S D 216 zb_216_3 L st n sh d u Q := by unfold zJ; rw [zc_216_3]
theorem zc_216_4 : zcd 216 4 = zb_216_4 := by decide +kernel
theorem zj_216_4 {S : zSs} {D n u : Nat} {sh : zk_S} {d : zm_D} {Q : ((Option zv_V) ⊕ Nat) → Nat → zk_S → zm_D → Nat → Prop} {L : zN} {st : List zv_V} : zJ S D 216 4 L st n sh d u Q ↔ zB S D 216 zb_216_4 L st n sh d u Q := by unfold zJ; rw [zc_216_4]
theorem zc_216_5 : zcd 216 5 = zb_216_5 := by decide +kernel
theorem zj_216_5 {S : zSs} {D n u : Nat} {sh : zk_S} {d : zm_D} {Q : ((Option zv_V) ⊕ Nat) → Nat → zk_S → zm_D → Nat → Prop} {L : zN} {st : List zv_V} : zJ S D 216 5 L st n sh d u Q ↔ zB S D 216 zb_216_5 L st n sh d u Q := by unfold zJ; rw [zc_216_5]
theorem zc_216_6 : zcd 216 6 = zb_216_6 := by decide +kernel
theorem zj_216_6 {S : zSs} {D n u : Nat} {sh : zk_S} {d : zm_D} {Q : ((Option zv_V) ⊕ Nat) → Nat → zk_S → zm_D → Nat → Prop} {L : zN} {st : List zv_V} : zJ S D 216 6 L st n sh d u Q ↔ zB S D 216 zb_216_6 L st n sh d u Q := by unfold zJ; rw [zc_216_6]
theorem zc_216_7 : zcd 216 7 = zb_216_7 := by decide +kernel
theorem zj_216_7 {S : zSs} {D n u : Nat} {sh : zk_S} {d : zm_D} {Q : ((Option zv_V) ⊕ Nat) → Nat → zk_S → zm_D → Nat → Prop} {L : zN} {st : List zv_V} : zJ S D 216 7 L st n sh d u Q ↔ zB S D 216 zb_216_7 L st n sh d u Q := by unfold zJ; rw [zc_216_7]
theorem zc_216_8 : zcd 216 8 = zb_216_8 := by decide +kernel
theorem zj_216_8 {S : zSs} {D n u : Nat} {sh : zk_S} {d : zm_D} {Q : ((Option zv_V) ⊕ Nat) → Nat → zk_S → zm_D → Nat → Prop} {L : zN} {st : List zv_V} : zJ S D 216 8 L st n sh d u Q ↔ zB S D 216 zb_216_8 L st n sh d u Q := by unfold zJ; rw [zc_216_8]
theorem zc_216_9 : zcd 216 9 = zb_216_9 := by decide +kernel
theorem zj_216_9 {S : zSs} {D n u : Nat} {sh : zk_S} {d : zm_D} {Q : ((Option zv_V) ⊕ Nat) → Nat → zk_S → zm_D → Nat → Prop} {L : zN} {st : List zv_V} : zJ S D 216 9 L st n sh d u Q ↔ zB S D 216 zb_216_9 L st n sh d u Q := by unfold zJ; rw [zc_216_9]
theorem zn_216 : znl 216 = 3 := by decide +kernel
theorem ze_216 {S : zSs} {D n u : Nat} {sh : zk_S} {d : zm_D} {Q : ((Option zv_V) ⊕ Nat) → Nat → zk_S → zm_D → Nat → Prop} {x0 : Int} {x1 : Int} {x2 : Int} : zE S D 216 [zv_a x0, zv_i x1, zv_i x2] n sh d u Q ↔ zB S D 216 zb_216_0 [some (zv_a x0), some (zv_i x1), some (zv_i x2)] [] n sh d u Q := by
  unfold zE; rw [zn_216, zc_216_0]; exact ⟨fun h => h.2, fun h => ⟨Nat.le_of_ble_eq_true rfl, h⟩⟩
theorem ze_216s {S : zSs} {D n u : Nat} {sh : zk_S} {d : zm_D} {Q : ((Option zv_V) ⊕ Nat) → Nat → zk_S → zm_D → Nat → Prop} {x0 : Int} {x1 : Int} : zE S D 216 [zv_i x0, zv_i x1] n sh d u Q ↔ zB S D 216 zb_216_0 [some (zv_i x0), some (zv_i x1), none] [] n sh d u Q := by
  unfold zE; rw [zn_216, zc_216_0]; exact ⟨fun h => h.2, fun h => ⟨Nat.le_of_ble_eq_true rfl, h⟩⟩
theorem zh_216 : zhl 216 = [] := by decide +kernel
theorem zc_217_0 : zcd 217 0 = zb_217_0 := by decide +kernel
theorem zj_217_0 {S : zSs} {D n u : Nat} {sh : zk_S} {d : zm_D} {Q : ((Option zv_V) ⊕ Nat) → Nat → zk_S → zm_D → Nat → Prop} {L : zN} {st : List zv_V} : zJ S D 217 0 L st n sh d u Q ↔ zB S D 217 zb_217_0 L st n sh d u Q := by unfold zJ; rw [zc_217_0]
theorem zc_217_1 : zcd 217 1 = zb_217_1 := by decide +kernel
theorem zj_217_1 {S : zSs} {D n u : Nat} {sh : zk_S} {d : zm_D} {Q : ((Option zv_V) ⊕ Nat) → Nat → zk_S → zm_D → Nat → Prop} {L : zN} {st : List zv_V} : zJ S D 217 1 L st n sh d u Q ↔ zB S D 217 zb_217_1 L st n sh d u Q := by unfold zJ; rw [zc_217_1]
theorem zc_217_2 : zcd 217 2 = zb_217_2 := by decide +kernel
theorem zj_217_2 {S : zSs} {D n u : Nat} {sh : zk_S} {d : zm_D} {Q : ((Option zv_V) ⊕ Nat) → Nat → zk_S → zm_D → Nat → Prop} {L : zN} {st : List zv_V} : zJ S D 217 2 L st n sh d u Q ↔ zB S D 217 zb_217_2 L st n sh d u Q := by unfold zJ; rw [zc_217_2]
theorem zc_217_3 : zcd 217 3 = zb_217_3 := by decide +kernel
theorem zj_217_3 {S : zSs} {D n u : Nat} {sh : zk_S} {d : zm_D} {Q : ((Option zv_V) ⊕ Nat) → Nat → zk_S → zm_D → Nat → Prop} {L : zN} {st : List zv_V} : zJ S D 217 3 L st n sh d u Q ↔ zB S D 217 zb_217_3 L st n sh d u Q := by unfold zJ; rw [zc_217_3]
theorem zc_217_4 : zcd 217 4 = zb_217_4 := by decide +kernel
theorem zj_217_4 {S : zSs} {D n u : Nat} {sh : zk_S} {d : zm_D} {Q : ((Option zv_V) ⊕ Nat) → Nat → zk_S → zm_D → Nat → Prop} {L : zN} {st : List zv_V} : zJ S D 217 4 L st n sh d u Q ↔ zB S D 217 zb_217_4 L st n sh d u Q := by unfold zJ; rw [zc_217_4]
theorem zc_217_5 : zcd 217 5 = zb_217_5 := by decide +kernel
theorem zj_217_5 {S : zSs} {D n u : Nat} {sh : zk_S} {d : zm_D} {Q : ((Option zv_V) ⊕ Nat) → Nat → zk_S → zm_D → Nat → Prop} {L : zN} {st : List zv_V} : zJ S D 217 5 L st n sh d u Q ↔ zB S D 217 zb_217_5 L st n sh d u Q := by unfold zJ; rw [zc_217_5]
theorem zc_217_6 : zcd 217 6 = zb_217_6 := by decide +kernel
theorem zj_217_6 {S : zSs} {D n u : Nat} {sh : zk_S} {d : zm_D} {Q : ((Option zv_V) ⊕ Nat) → Nat → zk_S → zm_D → Nat → Prop} {L : zN} {st : List zv_V} : zJ S D 217 6 L st n sh d u Q ↔ zB S D 217 zb_217_6 L st n sh d u Q := by unfold zJ; rw [zc_217_6]
theorem zn_217 : znl 217 = 3 := by decide +kernel
theorem ze_217 {S : zSs} {D n u : Nat} {sh : zk_S} {d : zm_D} {Q : ((Option zv_V) ⊕ Nat) → Nat → zk_S → zm_D → Nat → Prop} {x0 : Int} {x1 : Int} {x2 : Int} : zE S D 217 [zv_a x0, zv_i x1, zv_i x2] n sh d u Q ↔ zB S D 217 zb_217_0 [some (zv_a x0), some (zv_i x1), some (zv_i x2)] [] n sh d u Q := by
  unfold zE; rw [zn_217, zc_217_0]; exact ⟨fun h => h.2, fun h => ⟨Nat.le_of_ble_eq_true rfl, h⟩⟩
theorem ze_217s {S : zSs} {D n u : Nat} {sh : zk_S} {d : zm_D} {Q : ((Option zv_V) ⊕ Nat) → Nat → zk_S → zm_D → Nat → Prop} {x0 : Int} {x1 : Int} : zE S D 217 [zv_i x0, zv_i x1] n sh d u Q ↔ zB S D 217 zb_217_0 [some (zv_i x0), some (zv_i x1), none] [] n sh d u Q := by
  unfold zE; rw [zn_217, zc_217_0]; exact ⟨fun h => h.2, fun h => ⟨Nat.le_of_ble_eq_true rfl, h⟩⟩
theorem zh_217 : zhl 217 = [] := by decide +kernel
theorem zc_218_0 : zcd 218 0 = zb_218_0 := by decide +kernel
theorem zj_218_0 {S : zSs} {D n u : Nat} {sh : zk_S} {d : zm_D} {Q : ((Option zv_V) ⊕ Nat) → Nat → zk_S → zm_D → Nat → Prop} {L : zN} {st : List zv_V} : zJ S D 218 0 L st n sh d u Q ↔ zB S D 218 zb_218_0 L st n sh d u Q := by unfold zJ; rw [zc_218_0]
theorem zc_218_1 : zcd 218 1 = zb_218_1 := by decide +kernel
theorem zj_218_1 {S : zSs} {D n u : Nat} {sh : zk_S} {d : zm_D} {Q : ((Option zv_V) ⊕ Nat) → Nat → zk_S → zm_D → Nat → Prop} {L : zN} {st : List zv_V} : zJ S D 218 1 L st n sh d u Q ↔ zB S D 218 zb_218_1 L st n sh d u Q := by unfold zJ; rw [zc_218_1]
theorem zc_218_2 : zcd 218 2 = zb_218_2 := by decide +kernel
theorem zj_218_2 {S : zSs} {D n u : Nat} {sh : zk_S} {d : zm_D} {Q : ((Option zv_V) ⊕ Nat) → Nat → zk_S → zm_D → Nat → Prop} {L : zN} {st : List zv_V} : zJ S D 218 2 L st n sh d u Q ↔ zB S D 218 zb_218_2 L st n sh d u Q := by unfold zJ; rw [zc_218_2]
theorem zc_218_3 : zcd 218 3 = zb_218_3 := by decide +kernel
theorem zj_218_3 {S : zSs} {D n u : Nat} {sh : zk_S} {d : zm_D} {Q : ((Option zv_V) ⊕ Nat) → Nat → zk_S → zm_D → Nat → Prop} {L : zN} {st : List zv_V} : zJ S D 218 3 L st n sh d u Q ↔ zB S D 218 zb_218_3 L st n sh d u Q := by unfold zJ; rw [zc_218_3]
theorem zc_218_4 : zcd 218 4 = zb_218_4 := by decide +kernel
theorem zj_218_4 {S : zSs} {D n u : Nat} {sh : zk_S} {d : zm_D} {Q : ((Option zv_V) ⊕ Nat) → Nat → zk_S → zm_D → Nat → Prop} {L : zN} {st : List zv_V} : zJ S D 218 4 L st n sh d u Q ↔ zB S D 218 zb_218_4 L st n sh d u Q := by unfold zJ; rw [zc_218_4]
theorem zc_218_5 : zcd 218 5 = zb_218_5 := by decide +kernel
theorem zj_218_5 {S : zSs} {D n u : Nat} {sh : zk_S} {d : zm_D} {Q : ((Option zv_V) ⊕ Nat) → Nat → zk_S → zm_D → Nat → Prop} {L : zN} {st : List zv_V} : zJ S D 218 5 L st n sh d u Q ↔ zB S D 218 zb_218_5 L st n sh d u Q := by unfold zJ; rw [zc_218_5]
theorem zc_218_6 : zcd 218 6 = zb_218_6 := by decide +kernel
theorem zj_218_6 {S : zSs} {D n u : Nat} {sh : zk_S} {d : zm_D} {Q : ((Option zv_V) ⊕ Nat) → Nat → zk_S → zm_D → Nat → Prop} {L : zN} {st : List zv_V} : zJ S D 218 6 L st n sh d u Q ↔ zB S D 218 zb_218_6 L st n sh d u Q := by unfold zJ; rw [zc_218_6]
theorem zn_218 : znl 218 = 3 := by decide +kernel
theorem ze_218 {S : zSs} {D n u : Nat} {sh : zk_S} {d : zm_D} {Q : ((Option zv_V) ⊕ Nat) → Nat → zk_S → zm_D → Nat → Prop} {x0 : Int} {x1 : Int} {x2 : Int} : zE S D 218 [zv_a x0, zv_i x1, zv_i x2] n sh d u Q ↔ zB S D 218 zb_218_0 [some (zv_a x0), some (zv_i x1), some (zv_i x2)] [] n sh d u Q := by
  unfold zE; rw [zn_218, zc_218_0]; exact ⟨fun h => h.2, fun h => ⟨Nat.le_of_ble_eq_true rfl, h⟩⟩
theorem ze_218s {S : zSs} {D n u : Nat} {sh : zk_S} {d : zm_D} {Q : ((Option zv_V) ⊕ Nat) → Nat → zk_S → zm_D → Nat → Prop} {x0 : Int} {x1 : Int} : zE S D 218 [zv_i x0, zv_i x1] n sh d u Q ↔ zB S D 218 zb_218_0 [some (zv_i x0), some (zv_i x1), none] [] n sh d u Q := by
  unfold zE; rw [zn_218, zc_218_0]; exact ⟨fun h => h.2, fun h => ⟨Nat.le_of_ble_eq_true rfl, h⟩⟩
theorem zh_218 : zhl 218 = [] := by decide +kernel
theorem zc_219_0 : zcd 219 0 = zb_219_0 := by decide +kernel
theorem zj_219_0 {S : zSs} {D n u : Nat} {sh : zk_S} {d : zm_D} {Q : ((Option zv_V) ⊕ Nat) → Nat → zk_S → zm_D → Nat → Prop} {L : zN} {st : List zv_V} : zJ S D 219 0 L st n sh d u Q ↔ zB S D 219 zb_219_0 L st n sh d u Q := by unfold zJ; rw [zc_219_0]
theorem zc_219_1 : zcd 219 1 = zb_219_1 := by decide +kernel
theorem zj_219_1 {S : zSs} {D n u : Nat} {sh : zk_S} {d : zm_D} {Q : ((Option zv_V) ⊕ Nat) → Nat → zk_S → zm_D → Nat → Prop} {L : zN} {st : List zv_V} : zJ S D 219 1 L st n sh d u Q ↔ zB S D 219 zb_219_1 L st n sh d u Q := by unfold zJ; rw [zc_219_1]
theorem zc_219_2 : zcd 219 2 = zb_219_2 := by decide +kernel
theorem zj_219_2 {S : zSs} {D n u : Nat} {sh : zk_S} {d : zm_D} {Q : ((Option zv_V) ⊕ Nat) → Nat → zk_S → zm_D → Nat → Prop} {L : zN} {st : List zv_V} : zJ S D 219 2 L st n sh d u Q ↔ zB S D 219 zb_219_2 L st n sh d u Q := by unfold zJ; rw [zc_219_2]
theorem zn_219 : znl 219 = 2 := by decide +kernel
theorem ze_219 {S : zSs} {D n u : Nat} {sh : zk_S} {d : zm_D} {Q : ((Option zv_V) ⊕ Nat) → Nat → zk_S → zm_D → Nat → Prop} {x0 : Int} {x1 : Int} : zE S D 219 [zv_a x0, zv_i x1] n sh d u Q ↔ zB S D 219 zb_219_0 [some (zv_a x0), some (zv_i x1)] [] n sh d u Q := by
  unfold zE; rw [zn_219, zc_219_0]; exact ⟨fun h => h.2, fun h => ⟨Nat.le_of_ble_eq_true rfl, h⟩⟩
theorem ze_219s {S : zSs} {D n u : Nat} {sh : zk_S} {d : zm_D} {Q : ((Option zv_V) ⊕ Nat) → Nat → zk_S → zm_D → Nat → Prop} {x0 : Int} : zE S D 219 [zv_i x0] n sh d u Q ↔ zB S D 219 zb_219_0 [some (zv_i x0), none] [] n sh d u Q := by
  unfold zE; rw [zn_219, zc_219_0]; exact ⟨fun h => h.2, fun h => ⟨Nat.le_of_ble_eq_true rfl, h⟩⟩
theorem zh_219 : zhl 219 = [] := by decide +kernel
theorem zc_220_0 : zcd 220 0 = zb_220_0 := by decide +kernel
theorem zj_220_0 {S : zSs} {D n u : Nat} {sh : zk_S} {d : zm_D} {Q : ((Option zv_V) ⊕ Nat) → Nat → zk_S → zm_D → Nat → Prop} {L : zN} {st : List zv_V} : zJ S D 220 0 L st n sh d u Q ↔ zB S D 220 zb_220_0 L st n sh d u Q := by unfold zJ; rw [zc_220_0]
theorem zc_220_1 : zcd 220 1 = zb_220_1 := by decide +kernel
theorem zj_220_1 {S : zSs} {D n u : Nat} {sh : zk_S} {d : zm_D} {Q : ((Option zv_V) ⊕ Nat) → Nat → zk_S → zm_D → Nat → Prop} {L : zN} {st : List zv_V} : zJ S D 220 1 L st n sh d u Q ↔ zB S D 220 zb_220_1 L st n sh d u Q := by unfold zJ; rw [zc_220_1]
theorem zc_220_2 : zcd 220 2 = zb_220_2 := by decide +kernel
theorem zj_220_2 {S : zSs} {D n u : Nat} {sh : zk_S} {d : zm_D} {Q : ((Option zv_V) ⊕ Nat) → Nat → zk_S → zm_D → Nat → Prop} {L : zN} {st : List zv_V} : zJ S D 220 2 L st n sh d u Q ↔ zB S D 220 zb_220_2 L st n sh d u Q := by unfold zJ; rw [zc_220_2]
theorem zn_220 : znl 220 = 3 := by decide +kernel
theorem ze_220 {S : zSs} {D n u : Nat} {sh : zk_S} {d : zm_D} {Q : ((Option zv_V) ⊕ Nat) → Nat → zk_S → zm_D → Nat → Prop} {x0 : Int} {x1 : Int} {x2 : Int} : zE S D 220 [zv_a x0, zv_i x1, zv_i x2] n sh d u Q ↔ zB S D 220 zb_220_0 [some (zv_a x0), some (zv_i x1), some (zv_i x2)] [] n sh d u Q := by
  unfold zE; rw [zn_220, zc_220_0]; exact ⟨fun h => h.2, fun h => ⟨Nat.le_of_ble_eq_true rfl, h⟩⟩
theorem ze_220s {S : zSs} {D n u : Nat} {sh : zk_S} {d : zm_D} {Q : ((Option zv_V) ⊕ Nat) → Nat → zk_S → zm_D → Nat → Prop} {x0 : Int} {x1 : Int} : zE S D 220 [zv_i x0, zv_i x1] n sh d u Q ↔ zB S D 220 zb_220_0 [some (zv_i x0), some (zv_i x1), none] [] n sh d u Q := by
  unfold zE; rw [zn_220, zc_220_0]; exact ⟨fun h => h.2, fun h => ⟨Nat.le_of_ble_eq_true rfl, h⟩⟩
theorem zh_220 : zhl 220 = [] := by decide +kernel
theorem zc_221_0 : zcd 221 0 = zb_221_0 := by decide +kernel
theorem zj_221_0 {S : zSs} {D n u : Nat} {sh : zk_S} {d : zm_D} {Q : ((Option zv_V) ⊕ Nat) → Nat → zk_S → zm_D → Nat → Prop} {L : zN} {st : List zv_V} : zJ S D 221 0 L st n sh d u Q ↔ zB S D 221 zb_221_0 L st n sh d u Q := by unfold zJ; rw [zc_221_0]
theorem zn_221 : znl 221 = 3 := by decide +kernel
theorem ze_221 {S : zSs} {D n u : Nat} {sh : zk_S} {d : zm_D} {Q : ((Option zv_V) ⊕ Nat) → Nat → zk_S → zm_D → Nat → Prop} {x0 : Int} {x1 : Int} {x2 : Int} : zE S D 221 [zv_a x0, zv_i x1, zv_i x2] n sh d u Q ↔ zB S D 221 zb_221_0 [some (zv_a x0), some (zv_i x1), some (zv_i x2)] [] n sh d u Q := by
  unfold zE; rw [zn_221, zc_221_0]; exact ⟨fun h => h.2, fun h => ⟨Nat.le_of_ble_eq_true rfl, h⟩⟩
theorem ze_221s {S : zSs} {D n u : Nat} {sh : zk_S} {d : zm_D} {Q : ((Option zv_V) ⊕ Nat) → Nat → zk_S → zm_D → Nat → Prop} {x0 : Int} {x1 : Int} : zE S D 221 [zv_i x0, zv_i x1] n sh d u Q ↔ zB S D 221 zb_221_0 [some (zv_i x0), some (zv_i x1), none] [] n sh d u Q := by
  unfold zE; rw [zn_221, zc_221_0]; exact ⟨fun h => h.2, fun h => ⟨Nat.le_of_ble_eq_true rfl, h⟩⟩
theorem zh_221 : zhl 221 = [] := by decide +kernel
theorem zc_222_0 : zcd 222 0 = zb_222_0 := by decide +kernel
theorem zj_222_0 {S : zSs} {D n u : Nat} {sh : zk_S} {d : zm_D} {Q : ((Option zv_V) ⊕ Nat) → Nat → zk_S → zm_D → Nat → Prop} {L : zN} {st : List zv_V} : zJ S D 222 0 L st n sh d u Q ↔ zB S D 222 zb_222_0 L st n sh d u Q := by unfold zJ; rw [zc_222_0]
theorem zn_222 : znl 222 = 5 := by decide +kernel
theorem ze_222 {S : zSs} {D n u : Nat} {sh : zk_S} {d : zm_D} {Q : ((Option zv_V) ⊕ Nat) → Nat → zk_S → zm_D → Nat → Prop} {x0 : Int} {x1 : Int} {x2 : Int} {x3 : Int} : zE S D 222 [zv_a x0, zv_i x1, zv_i x2, zv_i x3] n sh d u Q ↔ zB S D 222 zb_222_0 [some (zv_a x0), some (zv_i x1), some (zv_i x2), some (zv_i x3), none] [] n sh d u Q := by
  unfold zE; rw [zn_222, zc_222_0]; exact ⟨fun h => h.2, fun h => ⟨Nat.le_of_ble_eq_true rfl, h⟩⟩
theorem ze_222s {S : zSs} {D n u : Nat} {sh : zk_S} {d : zm_D} {Q : ((Option zv_V) ⊕ Nat) → Nat → zk_S → zm_D → Nat → Prop} {x0 : Int} {x1 : Int} {x2 : Int} : zE S D 222 [zv_i x0, zv_i x1, zv_i x2] n sh d u Q ↔ zB S D 222 zb_222_0 [some (zv_i x0), some (zv_i x1), some (zv_i x2), none, none] [] n sh d u Q := by
  unfold zE; rw [zn_222, zc_222_0]; exact ⟨fun h => h.2, fun h => ⟨Nat.le_of_ble_eq_true rfl, h⟩⟩
theorem zh_222 : zhl 222 = [] := by decide +kernel
theorem zc_223_0 : zcd 223 0 = zb_223_0 := by decide +kernel
theorem zj_223_0 {S : zSs} {D n u : Nat} {sh : zk_S} {d : zm_D} {Q : ((Option zv_V) ⊕ Nat) → Nat → zk_S → zm_D → Nat → Prop} {L : zN} {st : List zv_V} : zJ S D 223 0 L st n sh d u Q ↔ zB S D 223 zb_223_0 L st n sh d u Q := by unfold zJ; rw [zc_223_0]
theorem zc_223_1 : zcd 223 1 = zb_223_1 := by decide +kernel
theorem zj_223_1 {S : zSs} {D n u : Nat} {sh : zk_S} {d : zm_D} {Q : ((Option zv_V) ⊕ Nat) → Nat → zk_S → zm_D → Nat → Prop} {L : zN} {st : List zv_V} : zJ S D 223 1 L st n sh d u Q ↔ zB S D 223 zb_223_1 L st n sh d u Q := by unfold zJ; rw [zc_223_1]
theorem zc_223_2 : zcd 223 2 = zb_223_2 := by decide +kernel
theorem zj_223_2 {S : zSs} {D n u : Nat} {sh : zk_S} {d : zm_D} {Q : ((Option zv_V) ⊕ Nat) → Nat → zk_S → zm_D → Nat → Prop} {L : zN} {st : List zv_V} : zJ S D 223 2 L st n sh d u Q ↔ zB S D 223 zb_223_2 L st n sh d u Q := by unfold zJ; rw [zc_223_2]
theorem zc_223_3 : zcd 223 3 = zb_223_3 := by decide +kernel
theorem zj_223_3 {S : zSs} {D n u : Nat} {sh : zk_S} {d : zm_D} {Q : ((Option zv_V) ⊕ Nat) → Nat → zk_S → zm_D → Nat → Prop} {L : zN} {st : List zv_V} : zJ S D 223 3 L st n sh d u Q ↔ zB S D 223 zb_223_3 L st n sh d u Q := by unfold zJ; rw [zc_223_3]
theorem zc_223_4 : zcd 223 4 = zb_223_4 := by decide +kernel
theorem zj_223_4 {S : zSs} {D n u : Nat} {sh : zk_S} {d : zm_D} {Q : ((Option zv_V) ⊕ Nat) → Nat → zk_S → zm_D → Nat → Prop} {L : zN} {st : List zv_V} : zJ S D 223 4 L st n sh d u Q ↔ zB S D 223 zb_223_4 L st n sh d u Q := by unfold zJ; rw [zc_223_4]
theorem zc_223_5 : zcd 223 5 = zb_223_5 := by decide +kernel
theorem zj_223_5 {S : zSs} {D n u : Nat} {sh : zk_S} {d : zm_D} {Q : ((Option zv_V) ⊕ Nat) → Nat → zk_S → zm_D → Nat → Prop} {L : zN} {st : List zv_V} : zJ S D 223 5 L st n sh d u Q ↔ zB S D 223 zb_223_5 L st n sh d u Q := by unfold zJ; rw [zc_223_5]
theorem zc_223_6 : zcd 223 6 = zb_223_6 := by decide +kernel
theorem zj_223_6 {S : zSs} {D n u : Nat} {sh : zk_S} {d : zm_D} {Q : ((Option zv_V) ⊕ Nat) → Nat → zk_S → zm_D → Nat → Prop} {L : zN} {st : List zv_V} : zJ S D 223 6 L st n sh d u Q ↔ zB S D 223 zb_223_6 L st n sh d u Q := by unfold zJ; rw [zc_223_6]
theorem zc_223_7 : zcd 223 7 = zb_223_7 := by decide +kernel
theorem zj_223_7 {S : zSs} {D n u : Nat} {sh : zk_S} {d : zm_D} {Q : ((Option zv_V) ⊕ Nat) → Nat → zk_S → zm_D → Nat → Prop} {L : zN} {st : List zv_V} : zJ S D 223 7 L st n sh d u Q ↔ zB S D 223 zb_223_7 L st n sh d u Q := by unfold zJ; rw [zc_223_7]
theorem zc_223_8 : zcd 223 8 = zb_223_8 := by decide +kernel
theorem zj_223_8 {S : zSs} {D n u : Nat} {sh : zk_S} {d : zm_D} {Q : ((Option zv_V) ⊕ Nat) → Nat → zk_S → zm_D → Nat → Prop} {L : zN} {st : List zv_V} : zJ S D 223 8 L st n sh d u Q ↔ zB S D 223 zb_223_8 L st n sh d u Q := by unfold zJ; rw [zc_223_8]
theorem zc_223_9 : zcd 223 9 = zb_223_9 := by decide +kernel
theorem zj_223_9 {S : zSs} {D n u : Nat} {sh : zk_S} {d : zm_D} {Q : ((Option zv_V) ⊕ Nat) → Nat → zk_S → zm_D → Nat → Prop} {L : zN} {st : List zv_V} : zJ S D 223 9 L st n sh d u Q ↔ zB S D 223 zb_223_9 L st n sh d u Q := by unfold zJ; rw [zc_223_9]
theorem zc_223_10 : zcd 223 10 = zb_223_10 := by decide +kernel
theorem zj_223_10 {S : zSs} {D n u : Nat} {sh : zk_S} {d : zm_D} {Q : ((Option zv_V) ⊕ Nat) → Nat → zk_S → zm_D → Nat → Prop} {L : zN} {st : List zv_V} : zJ S D 223 10 L st n sh d u Q ↔ zB S D 223 zb_223_10 L st n sh d u Q := by unfold zJ; rw [zc_223_10]
theorem zc_223_11 : zcd 223 11 = zb_223_11 := by decide +kernel
theorem zj_223_11 {S : zSs} {D n u : Nat} {sh : zk_S} {d : zm_D} {Q : ((Option zv_V) ⊕ Nat) → Nat → zk_S → zm_D → Nat → Prop} {L : zN} {st : List zv_V} : zJ S D 223 11 L st n sh d u Q ↔ zB S D 223 zb_223_11 L st n sh d u Q := by unfold zJ; rw [zc_223_11]
theorem zc_223_12 : zcd 223 12 = zb_223_12 := by decide +kernel
theorem zj_223_12 {S : zSs} {D n u : Nat} {sh : zk_S} {d : zm_D} {Q : ((Option zv_V) ⊕ Nat) → Nat → zk_S → zm_D → Nat → Prop} {L : zN} {st : List zv_V} : zJ S D 223 12 L st n sh d u Q ↔ zB S D 223 zb_223_12 L st n sh d u Q := by unfold zJ; rw [zc_223_12]
theorem zc_223_13 : zcd 223 13 = zb_223_13 := by decide +kernel
theorem zj_223_13 {S : zSs} {D n u : Nat} {sh : zk_S} {d : zm_D} {Q : ((Option zv_V) ⊕ Nat) → Nat → zk_S → zm_D → Nat → Prop} {L : zN} {st : List zv_V} : zJ S D 223 13 L st n sh d u Q ↔ zB S D 223 zb_223_13 L st n sh d u Q := by unfold zJ; rw [zc_223_13]
theorem zc_223_14 : zcd 223 14 = zb_223_14 := by decide +kernel
theorem zj_223_14 {S : zSs} {D n u : Nat} {sh : zk_S} {d : zm_D} {Q : ((Option zv_V) ⊕ Nat) → Nat → zk_S → zm_D → Nat → Prop} {L : zN} {st : List zv_V} : zJ S D 223 14 L st n sh d u Q ↔ zB S D 223 zb_223_14 L st n sh d u Q := by unfold zJ; rw [zc_223_14]
theorem zc_223_15 : zcd 223 15 = zb_223_15 := by decide +kernel
theorem zj_223_15 {S : zSs} {D n u : Nat} {sh : zk_S} {d : zm_D} {Q : ((Option zv_V) ⊕ Nat) → Nat → zk_S → zm_D → Nat → Prop} {L : zN} {st : List zv_V} : zJ S D 223 15 L st n sh d u Q ↔ zB S D 223 zb_223_15 L st n sh d u Q := by unfold zJ; rw [zc_223_15]
theorem zc_223_16 : zcd 223 16 = zb_223_16 := by decide +kernel
theorem zj_223_16 {S : zSs} {D n u : Nat} {sh : zk_S} {d : zm_D} {Q : ((Option zv_V) ⊕ Nat) → Nat → zk_S → zm_D → Nat → Prop} {L : zN} {st : List zv_V} : zJ S D 223 16 L st n sh d u Q ↔ zB S D 223 zb_223_16 L st n sh d u Q := by unfold zJ; rw [zc_223_16]
theorem zc_223_17 : zcd 223 17 = zb_223_17 := by decide +kernel
theorem zj_223_17 {S : zSs} {D n u : Nat} {sh : zk_S} {d : zm_D} {Q : ((Option zv_V) ⊕ Nat) → Nat → zk_S → zm_D → Nat → Prop} {L : zN} {st : List zv_V} : zJ S D 223 17 L st n sh d u Q ↔ zB S D 223 zb_223_17 L st n sh d u Q := by unfold zJ; rw [zc_223_17]
theorem zc_223_18 : zcd 223 18 = zb_223_18 := by decide +kernel
theorem zj_223_18 {S : zSs} {D n u : Nat} {sh : zk_S} {d : zm_D} {Q : ((Option zv_V) ⊕ Nat) → Nat → zk_S → zm_D → Nat → Prop} {L : zN} {st : List zv_V} : zJ S D 223 18 L st n sh d u Q ↔ zB S D 223 zb_223_18 L st n sh d u Q := by unfold zJ; rw [zc_223_18]
theorem zc_223_19 : zcd 223 19 = zb_223_19 := by decide +kernel
theorem zj_223_19 {S : zSs} {D n u : Nat} {sh : zk_S} {d : zm_D} {Q : ((Option zv_V) ⊕ Nat) → Nat → zk_S → zm_D → Nat → Prop} {L : zN} {st : List zv_V} : zJ S D 223 19 L st n sh d u Q ↔ zB S D 223 zb_223_19 L st n sh d u Q := by unfold zJ; rw [zc_223_19]
theorem zc_223_20 : zcd 223 20 = zb_223_20 := by decide +kernel
theorem zj_223_20 {S : zSs} {D n u : Nat} {sh : zk_S} {d : zm_D} {Q : ((Option zv_V) ⊕ Nat) → Nat → zk_S → zm_D → Nat → Prop} {L : zN} {st : List zv_V} : zJ S D 223 20 L st n sh d u Q ↔ zB S D 223 zb_223_20 L st n sh d u Q := by unfold zJ; rw [zc_223_20]
theorem zc_223_21 : zcd 223 21 = zb_223_21 := by decide +kernel
theorem zj_223_21 {S : zSs} {D n u : Nat} {sh : zk_S} {d : zm_D} {Q : ((Option zv_V) ⊕ Nat) → Nat → zk_S → zm_D → Nat → Prop} {L : zN} {st : List zv_V} : zJ S D 223 21 L st n sh d u Q ↔ zB S D 223 zb_223_21 L st n sh d u Q := by unfold zJ; rw [zc_223_21]
theorem zc_223_22 : zcd 223 22 = zb_223_22 := by decide +kernel
theorem zj_223_22 {S : zSs} {D n u : Nat} {sh : zk_S} {d : zm_D} {Q : ((Option zv_V) ⊕ Nat) → Nat → zk_S → zm_D → Nat → Prop} {L : zN} {st : List zv_V} : zJ S D 223 22 L st n sh d u Q ↔ zB S D 223 zb_223_22 L st n sh d u Q := by unfold zJ; rw [zc_223_22]
theorem zc_223_23 : zcd 223 23 = zb_223_23 := by decide +kernel
theorem zj_223_23 {S : zSs} {D n u : Nat} {sh : zk_S} {d : zm_D} {Q : ((Option zv_V) ⊕ Nat) → Nat → zk_S → zm_D → Nat → Prop} {L : zN} {st : List zv_V} : zJ S D 223 23 L st n sh d u Q ↔ zB S D 223 zb_223_23 L st n sh d u Q := by unfold zJ; rw [zc_223_23]
theorem zc_223_24 : zcd 223 24 = zb_223_24 := by decide +kernel
theorem zj_223_24 {S : zSs} {D n u : Nat} {sh : zk_S} {d : zm_D} {Q : ((Option zv_V) ⊕ Nat) → Nat → zk_S → zm_D → Nat → Prop} {L : zN} {st : List zv_V} : zJ S D 223 24 L st n sh d u Q ↔ zB S D 223 zb_223_24 L st n sh d u Q := by unfold zJ; rw [zc_223_24]
theorem zn_223 : znl 223 = 6 := by decide +kernel
theorem ze_223 {S : zSs} {D n u : Nat} {sh : zk_S} {d : zm_D} {Q : ((Option zv_V) ⊕ Nat) → Nat → zk_S → zm_D → Nat → Prop} {x0 : Int} {x1 : Int} {x2 : Int} : zE S D 223 [zv_a x0, zv_i x1, zv_i x2] n sh d u Q ↔ zB S D 223 zb_223_0 [some (zv_a x0), some (zv_i x1), some (zv_i x2), none, none, none] [] n sh d u Q := by
  unfold zE; rw [zn_223, zc_223_0]; exact ⟨fun h => h.2, fun h => ⟨Nat.le_of_ble_eq_true rfl, h⟩⟩
theorem ze_223s {S : zSs} {D n u : Nat} {sh : zk_S} {d : zm_D} {Q : ((Option zv_V) ⊕ Nat) → Nat → zk_S → zm_D → Nat → Prop} {x0 : Int} {x1 : Int} : zE S D 223 [zv_i x0, zv_i x1] n sh d u Q ↔ zB S D 223 zb_223_0 [some (zv_i x0), some (zv_i x1), none, none, none, none] [] n sh d u Q := by
  unfold zE; rw [zn_223, zc_223_0]; exact ⟨fun h => h.2, fun h => ⟨Nat.le_of_ble_eq_true rfl, h⟩⟩
theorem zh_223 : zhl 223 = [] := by decide +kernel
theorem zc_224_0 : zcd 224 0 = zb_224_0 := by decide +kernel
theorem zj_224_0 {S : zSs} {D n u : Nat} {sh : zk_S} {d : zm_D} {Q : ((Option zv_V) ⊕ Nat) → Nat → zk_S → zm_D → Nat → Prop} {L : zN} {st : List zv_V} : zJ S D 224 0 L st n sh d u Q ↔ zB S D 224 zb_224_0 L st n sh d u Q := by unfold zJ; rw [zc_224_0]
theorem zc_224_1 : zcd 224 1 = zb_224_1 := by decide +kernel
theorem zj_224_1 {S : zSs} {D n u : Nat} {sh : zk_S} {d : zm_D} {Q : ((Option zv_V) ⊕ Nat) → Nat → zk_S → zm_D → Nat → Prop} {L : zN} {st : List zv_V} : zJ S D 224 1 L st n sh d u Q ↔ zB S D 224 zb_224_1 L st n sh d u Q := by unfold zJ; rw [zc_224_1]
theorem zc_224_2 : zcd 224 2 = zb_224_2 := by decide +kernel
theorem zj_224_2 {S : zSs} {D n u : Nat} {sh : zk_S} {d : zm_D} {Q : ((Option zv_V) ⊕ Nat) → Nat → zk_S → zm_D → Nat → Prop} {L : zN} {st : List zv_V} : zJ S D 224 2 L st n sh d u Q ↔ zB S D 224 zb_224_2 L st n sh d u Q := by unfold zJ; rw [zc_224_2]
theorem zc_224_3 : zcd 224 3 = zb_224_3 := by decide +kernel
theorem zj_224_3 {S : zSs} {D n u : Nat} {sh : zk_S} {d : zm_D} {Q : ((Option zv_V) ⊕ Nat) → Nat → zk_S → zm_D → Nat → Prop} {L : zN} {st : List zv_V} : zJ S D 224 3 L st n sh d u Q ↔ zB S D 224 zb_224_3 L st n sh d u Q := by unfold zJ; rw [zc_224_3]
theorem zc_224_4 : zcd 224 4 = zb_224_4 := by decide +kernel
theorem zj_224_4 {S : zSs} {D n u : Nat} {sh : zk_S} {d : zm_D} {Q : ((Option zv_V) ⊕ Nat) → Nat → zk_S → zm_D → Nat → Prop} {L : zN} {st : List zv_V} : zJ S D 224 4 L st n sh d u Q ↔ zB S D 224 zb_224_4 L st n sh d u Q := by unfold zJ; rw [zc_224_4]
theorem zc_224_5 : zcd 224 5 = zb_224_5 := by decide +kernel
theorem zj_224_5 {S : zSs} {D n u : Nat} {sh : zk_S} {d : zm_D} {Q : ((Option zv_V) ⊕ Nat) → Nat → zk_S → zm_D → Nat → Prop} {L : zN} {st : List zv_V} : zJ S D 224 5 L st n sh d u Q ↔ zB S D 224 zb_224_5 L st n sh d u Q := by unfold zJ; rw [zc_224_5]
theorem zc_224_6 : zcd 224 6 = zb_224_6 := by decide +kernel
theorem zj_224_6 {S : zSs} {D n u : Nat} {sh : zk_S} {d : zm_D} {Q : ((Option zv_V) ⊕ Nat) → Nat → zk_S → zm_D → Nat → Prop} {L : zN} {st : List zv_V} : zJ S D 224 6 L st n sh d u Q ↔ zB S D 224 zb_224_6 L st n sh d u Q := by unfold zJ; rw [zc_224_6]
theorem zc_224_7 : zcd 224 7 = zb_224_7 := by decide +kernel
theorem zj_224_7 {S : zSs} {D n u : Nat} {sh : zk_S} {d : zm_D} {Q : ((Option zv_V) ⊕ Nat) → Nat → zk_S → zm_D → Nat → Prop} {L : zN} {st : List zv_V} : zJ S D 224 7 L st n sh d u Q ↔ zB S D 224 zb_224_7 L st n sh d u Q := by unfold zJ; rw [zc_224_7]
theorem zc_224_8 : zcd 224 8 = zb_224_8 := by decide +kernel
theorem zj_224_8 {S : zSs} {D n u : Nat} {sh : zk_S} {d : zm_D} {Q : ((Option zv_V) ⊕ Nat) → Nat → zk_S → zm_D → Nat → Prop} {L : zN} {st : List zv_V} : zJ S D 224 8 L st n sh d u Q ↔ zB S D 224 zb_224_8 L st n sh d u Q := by unfold zJ; rw [zc_224_8]
theorem zc_224_9 : zcd 224 9 = zb_224_9 := by decide +kernel
theorem zj_224_9 {S : zSs} {D n u : Nat} {sh : zk_S} {d : zm_D} {Q : ((Option zv_V) ⊕ Nat) → Nat → zk_S → zm_D → Nat → Prop} {L : zN} {st : List zv_V} : zJ S D 224 9 L st n sh d u Q ↔ zB S D 224 zb_224_9 L st n sh d u Q := by unfold zJ; rw [zc_224_9]
theorem zc_224_10 : zcd 224 10 = zb_224_10 := by decide +kernel
theorem zj_224_10 {S : zSs} {D n u : Nat} {sh : zk_S} {d : zm_D} {Q : ((Option zv_V) ⊕ Nat) → Nat → zk_S → zm_D → Nat → Prop} {L : zN} {st : List zv_V} : zJ S D 224 10 L st n sh d u Q ↔ zB S D 224 zb_224_10 L st n sh d u Q := by unfold zJ; rw [zc_224_10]
theorem zc_224_11 : zcd 224 11 = zb_224_11 := by decide +kernel
theorem zj_224_11 {S : zSs} {D n u : Nat} {sh : zk_S} {d : zm_D} {Q : ((Option zv_V) ⊕ Nat) → Nat → zk_S → zm_D → Nat → Prop} {L : zN} {st : List zv_V} : zJ S D 224 11 L st n sh d u Q ↔ zB S D 224 zb_224_11 L st n sh d u Q := by unfold zJ; rw [zc_224_11]
theorem zc_224_12 : zcd 224 12 = zb_224_12 := by decide +kernel
theorem zj_224_12 {S : zSs} {D n u : Nat} {sh : zk_S} {d : zm_D} {Q : ((Option zv_V) ⊕ Nat) → Nat → zk_S → zm_D → Nat → Prop} {L : zN} {st : List zv_V} : zJ S D 224 12 L st n sh d u Q ↔ zB S D 224 zb_224_12 L st n sh d u Q := by unfold zJ; rw [zc_224_12]
theorem zc_224_13 : zcd 224 13 = zb_224_13 := by decide +kernel
theorem zj_224_13 {S : zSs} {D n u : Nat} {sh : zk_S} {d : zm_D} {Q : ((Option zv_V) ⊕ Nat) → Nat → zk_S → zm_D → Nat → Prop} {L : zN} {st : List zv_V} : zJ S D 224 13 L st n sh d u Q ↔ zB S D 224 zb_224_13 L st n sh d u Q := by unfold zJ; rw [zc_224_13]
theorem zn_224 : znl 224 = 4 := by decide +kernel
theorem ze_224 {S : zSs} {D n u : Nat} {sh : zk_S} {d : zm_D} {Q : ((Option zv_V) ⊕ Nat) → Nat → zk_S → zm_D → Nat → Prop} {x0 : Int} {x1 : Int} : zE S D 224 [zv_a x0, zv_i x1] n sh d u Q ↔ zB S D 224 zb_224_0 [some (zv_a x0), some (zv_i x1), none, none] [] n sh d u Q := by
  unfold zE; rw [zn_224, zc_224_0]; exact ⟨fun h => h.2, fun h => ⟨Nat.le_of_ble_eq_true rfl, h⟩⟩
theorem ze_224s {S : zSs} {D n u : Nat} {sh : zk_S} {d : zm_D} {Q : ((Option zv_V) ⊕ Nat) → Nat → zk_S → zm_D → Nat → Prop} {x0 : Int} : zE S D 224 [zv_i x0] n sh d u Q ↔ zB S D 224 zb_224_0 [some (zv_i x0), none, none, none] [] n sh d u Q := by
  unfold zE; rw [zn_224, zc_224_0]; exact ⟨fun h => h.2, fun h => ⟨Nat.le_of_ble_eq_true rfl, h⟩⟩
theorem zh_224 : zhl 224 = [] := by decide +kernel
theorem zc_225_0 : zcd 225 0 = zb_225_0 := by decide +kernel
theorem zj_225_0 {S : zSs} {D n u : Nat} {sh : zk_S} {d : zm_D} {Q : ((Option zv_V) ⊕ Nat) → Nat → zk_S → zm_D → Nat → Prop} {L : zN} {st : List zv_V} : zJ S D 225 0 L st n sh d u Q ↔ zB S D 225 zb_225_0 L st n sh d u Q := by unfold zJ; rw [zc_225_0]
theorem zc_225_1 : zcd 225 1 = zb_225_1 := by decide +kernel
theorem zj_225_1 {S : zSs} {D n u : Nat} {sh : zk_S} {d : zm_D} {Q : ((Option zv_V) ⊕ Nat) → Nat → zk_S → zm_D → Nat → Prop} {L : zN} {st : List zv_V} : zJ S D 225 1 L st n sh d u Q ↔ zB S D 225 zb_225_1 L st n sh d u Q := by unfold zJ; rw [zc_225_1]
theorem zc_225_2 : zcd 225 2 = zb_225_2 := by decide +kernel
theorem zj_225_2 {S : zSs} {D n u : Nat} {sh : zk_S} {d : zm_D} {Q : ((Option zv_V) ⊕ Nat) → Nat → zk_S → zm_D → Nat → Prop} {L : zN} {st : List zv_V} : zJ S D 225 2 L st n sh d u Q ↔ zB S D 225 zb_225_2 L st n sh d u Q := by unfold zJ; rw [zc_225_2]
theorem zn_225 : znl 225 = 1 := by decide +kernel
theorem ze_225s {S : zSs} {D n u : Nat} {sh : zk_S} {d : zm_D} {Q : ((Option zv_V) ⊕ Nat) → Nat → zk_S → zm_D → Nat → Prop} {x0 : Int} : zE S D 225 [zv_i x0] n sh d u Q ↔ zB S D 225 zb_225_0 [some (zv_i x0)] [] n sh d u Q := by
  unfold zE; rw [zn_225, zc_225_0]; exact ⟨fun h => h.2, fun h => ⟨Nat.le_of_ble_eq_true rfl, h⟩⟩
theorem zh_225 : zhl 225 = [] := by decide +kernel
theorem zc_226_0 : zcd 226 0 = zb_226_0 := by decide +kernel
theorem zj_226_0 {S : zSs} {D n u : Nat} {sh : zk_S} {d : zm_D} {Q : ((Option zv_V) ⊕ Nat) → Nat → zk_S → zm_D → Nat → Prop} {L : zN} {st : List zv_V} : zJ S D 226 0 L st n sh d u Q ↔ zB S D 226 zb_226_0 L st n sh d u Q := by unfold zJ; rw [zc_226_0]
theorem zc_226_1 : zcd 226 1 = zb_226_1 := by decide +kernel
theorem zj_226_1 {S : zSs} {D n u : Nat} {sh : zk_S} {d : zm_D} {Q : ((Option zv_V) ⊕ Nat) → Nat → zk_S → zm_D → Nat → Prop} {L : zN} {st : List zv_V} : zJ S D 226 1 L st n sh d u Q ↔ zB S D 226 zb_226_1 L st n sh d u Q := by unfold zJ; rw [zc_226_1]
theorem zc_226_2 : zcd 226 2 = zb_226_2 := by decide +kernel
theorem zj_226_2 {S : zSs} {D n u : Nat} {sh : zk_S} {d : zm_D} {Q : ((Option zv_V) ⊕ Nat) → Nat → zk_S → zm_D → Nat → Prop} {L : zN} {st : List zv_V} : zJ S D 226 2 L st n sh d u Q ↔ zB S D 226 zb_226_2 L st n sh d u Q := by unfold zJ; rw [zc_226_2]
theorem zc_226_3 : zcd 226 3 = zb_226_3 := by decide +kernel
theorem zj_226_3 {S : zSs} {D n u : Nat} {sh : zk_S} {d : zm_D} {Q : ((Option zv_V) ⊕ Nat) → Nat → zk_S → zm_D → Nat → Prop} {L : zN} {st : List zv_V} : zJ S D 226 3 L st n sh d u Q ↔ zB S D 226 zb_226_3 L st n sh d u Q := by unfold zJ; rw [zc_226_3]
theorem zc_226_4 : zcd 226 4 = zb_226_4 := by decide +kernel
theorem zj_226_4 {S : zSs} {D n u : Nat} {sh : zk_S} {d : zm_D} {Q : ((Option zv_V) ⊕ Nat) → Nat → zk_S → zm_D → Nat → Prop} {L : zN} {st : List zv_V} : zJ S D 226 4 L st n sh d u Q ↔ zB S D 226 zb_226_4 L st n sh d u Q := by unfold zJ; rw [zc_226_4]
theorem zc_226_5 : zcd 226 5 = zb_226_5 := by decide +kernel
theorem zj_226_5 {S : zSs} {D n u : Nat} {sh : zk_S} {d : zm_D} {Q : ((Option zv_V) ⊕ Nat) → Nat → zk_S → zm_D → Nat → Prop} {L : zN} {st : List zv_V} : zJ S D 226 5 L st n sh d u Q ↔ zB S D 226 zb_226_5 L st n sh d u Q := by unfold zJ; rw [zc_226_5]
theorem zc_226_6 : zcd 226 6 = zb_226_6 := by decide +kernel
theorem zj_226_6 {S : zSs} {D n u : Nat} {sh : zk_S} {d : zm_D} {Q : ((Option zv_V) ⊕ Nat) → Nat → zk_S → zm_D → Nat → Prop} {L : zN} {st : List zv_V} : zJ S D 226 6 L st n sh d u Q ↔ zB S D 226 zb_226_6 L st n sh d u Q := by unfold zJ; rw [zc_226_6]
theorem zn_226 : znl 226 = 3 := by decide +kernel
theorem ze_226 {S : zSs} {D n u : Nat} {sh : zk_S} {d : zm_D} {Q : ((Option zv_V) ⊕ Nat) → Nat → zk_S → zm_D → Nat → Prop} {x0 : Int} {x1 : Int} {x2 : Int} : zE S D 226 [zv_a x0, zv_i x1, zv_i x2] n sh d u Q ↔ zB S D 226 zb_226_0 [some (zv_a x0), some (zv_i x1), some (zv_i x2)] [] n sh d u Q := by
  unfold zE; rw [zn_226, zc_226_0]; exact ⟨fun h => h.2, fun h => ⟨Nat.le_of_ble_eq_true rfl, h⟩⟩
theorem ze_226s {S : zSs} {D n u : Nat} {sh : zk_S} {d : zm_D} {Q : ((Option zv_V) ⊕ Nat) → Nat → zk_S → zm_D → Nat → Prop} {x0 : Int} {x1 : Int} : zE S D 226 [zv_i x0, zv_i x1] n sh d u Q ↔ zB S D 226 zb_226_0 [some (zv_i x0), some (zv_i x1), none] [] n sh d u Q := by
  unfold zE; rw [zn_226, zc_226_0]; exact ⟨fun h => h.2, fun h => ⟨Nat.le_of_ble_eq_true rfl, h⟩⟩
theorem zh_226 : zhl 226 = [] := by decide +kernel
theorem zc_227_0 : zcd 227 0 = zb_227_0 := by decide +kernel
theorem zj_227_0 {S : zSs} {D n u : Nat} {sh : zk_S} {d : zm_D} {Q : ((Option zv_V) ⊕ Nat) → Nat → zk_S → zm_D → Nat → Prop} {L : zN} {st : List zv_V} : zJ S D 227 0 L st n sh d u Q ↔ zB S D 227 zb_227_0 L st n sh d u Q := by unfold zJ; rw [zc_227_0]
theorem zc_227_1 : zcd 227 1 = zb_227_1 := by decide +kernel
theorem zj_227_1 {S : zSs} {D n u : Nat} {sh : zk_S} {d : zm_D} {Q : ((Option zv_V) ⊕ Nat) → Nat → zk_S → zm_D → Nat → Prop} {L : zN} {st : List zv_V} : zJ S D 227 1 L st n sh d u Q ↔ zB S D 227 zb_227_1 L st n sh d u Q := by unfold zJ; rw [zc_227_1]
theorem zc_227_2 : zcd 227 2 = zb_227_2 := by decide +kernel
theorem zj_227_2 {S : zSs} {D n u : Nat} {sh : zk_S} {d : zm_D} {Q : ((Option zv_V) ⊕ Nat) → Nat → zk_S → zm_D → Nat → Prop} {L : zN} {st : List zv_V} : zJ S D 227 2 L st n sh d u Q ↔ zB S D 227 zb_227_2 L st n sh d u Q := by unfold zJ; rw [zc_227_2]
theorem zc_227_3 : zcd 227 3 = zb_227_3 := by decide +kernel
theorem zj_227_3 {S : zSs} {D n u : Nat} {sh : zk_S} {d : zm_D} {Q : ((Option zv_V) ⊕ Nat) → Nat → zk_S → zm_D → Nat → Prop} {L : zN} {st : List zv_V} : zJ S D 227 3 L st n sh d u Q ↔ zB S D 227 zb_227_3 L st n sh d u Q := by unfold zJ; rw [zc_227_3]
theorem zc_227_4 : zcd 227 4 = zb_227_4 := by decide +kernel
theorem zj_227_4 {S : zSs} {D n u : Nat} {sh : zk_S} {d : zm_D} {Q : ((Option zv_V) ⊕ Nat) → Nat → zk_S → zm_D → Nat → Prop} {L : zN} {st : List zv_V} : zJ S D 227 4 L st n sh d u Q ↔ zB S D 227 zb_227_4 L st n sh d u Q := by unfold zJ; rw [zc_227_4]
theorem zc_227_5 : zcd 227 5 = zb_227_5 := by decide +kernel
theorem zj_227_5 {S : zSs} {D n u : Nat} {sh : zk_S} {d : zm_D} {Q : ((Option zv_V) ⊕ Nat) → Nat → zk_S → zm_D → Nat → Prop} {L : zN} {st : List zv_V} : zJ S D 227 5 L st n sh d u Q ↔ zB S D 227 zb_227_5 L st n sh d u Q := by unfold zJ; rw [zc_227_5]
theorem zc_227_6 : zcd 227 6 = zb_227_6 := by decide +kernel
theorem zj_227_6 {S : zSs} {D n u : Nat} {sh : zk_S} {d : zm_D} {Q : ((Option zv_V) ⊕ Nat) → Nat → zk_S → zm_D → Nat → Prop} {L : zN} {st : List zv_V} : zJ S D 227 6 L st n sh d u Q ↔ zB S D 227 zb_227_6 L st n sh d u Q := by unfold zJ; rw [zc_227_6]
theorem zn_227 : znl 227 = 3 := by decide +kernel
theorem ze_227 {S : zSs} {D n u : Nat} {sh : zk_S} {d : zm_D} {Q : ((Option zv_V) ⊕ Nat) → Nat → zk_S → zm_D → Nat → Prop} {x0 : Int} {x1 : Int} {x2 : Int} : zE S D 227 [zv_a x0, zv_i x1, zv_i x2] n sh d u Q ↔ zB S D 227 zb_227_0 [some (zv_a x0), some (zv_i x1), some (zv_i x2)] [] n sh d u Q := by
  unfold zE; rw [zn_227, zc_227_0]; exact ⟨fun h => h.2, fun h => ⟨Nat.le_of_ble_eq_true rfl, h⟩⟩
theorem ze_227s {S : zSs} {D n u : Nat} {sh : zk_S} {d : zm_D} {Q : ((Option zv_V) ⊕ Nat) → Nat → zk_S → zm_D → Nat → Prop} {x0 : Int} {x1 : Int} : zE S D 227 [zv_i x0, zv_i x1] n sh d u Q ↔ zB S D 227 zb_227_0 [some (zv_i x0), some (zv_i x1), none] [] n sh d u Q := by
  unfold zE; rw [zn_227, zc_227_0]; exact ⟨fun h => h.2, fun h => ⟨Nat.le_of_ble_eq_true rfl, h⟩⟩
theorem zh_227 : zhl 227 = [] := by decide +kernel
theorem zc_228_0 : zcd 228 0 = zb_228_0 := by decide +kernel
theorem zj_228_0 {S : zSs} {D n u : Nat} {sh : zk_S} {d : zm_D} {Q : ((Option zv_V) ⊕ Nat) → Nat → zk_S → zm_D → Nat → Prop} {L : zN} {st : List zv_V} : zJ S D 228 0 L st n sh d u Q ↔ zB S D 228 zb_228_0 L st n sh d u Q := by unfold zJ; rw [zc_228_0]
theorem zn_228 : znl 228 = 2 := by decide +kernel
theorem ze_228 {S : zSs} {D n u : Nat} {sh : zk_S} {d : zm_D} {Q : ((Option zv_V) ⊕ Nat) → Nat → zk_S → zm_D → Nat → Prop} {x0 : Int} {x1 : Int} : zE S D 228 [zv_a x0, zv_i x1] n sh d u Q ↔ zB S D 228 zb_228_0 [some (zv_a x0), some (zv_i x1)] [] n sh d u Q := by
  unfold zE; rw [zn_228, zc_228_0]; exact ⟨fun h => h.2, fun h => ⟨Nat.le_of_ble_eq_true rfl, h⟩⟩
theorem ze_228s {S : zSs} {D n u : Nat} {sh : zk_S} {d : zm_D} {Q : ((Option zv_V) ⊕ Nat) → Nat → zk_S → zm_D → Nat → Prop} {x0 : Int} : zE S D 228 [zv_i x0] n sh d u Q ↔ zB S D 228 zb_228_0 [some (zv_i x0), none] [] n sh d u Q := by
  unfold zE; rw [zn_228, zc_228_0]; exact ⟨fun h => h.2, fun h => ⟨Nat.le_of_ble_eq_true rfl, h⟩⟩
theorem zh_228 : zhl 228 = [] := by decide +kernel
theorem zc_229_0 : zcd 229 0 = zb_229_0 := by decide +kernel
theorem zj_229_0 {S : zSs} {D n u : Nat} {sh : zk_S} {d : zm_D} {Q : ((Option zv_V) ⊕ Nat) → Nat → zk_S → zm_D → Nat → Prop} {L : zN} {st : List zv_V} : zJ S D 229 0 L st n sh d u Q ↔ zB S D 229 zb_229_0 L st n sh d u Q := by unfold zJ; rw [zc_229_0]
theorem zc_229_1 : zcd 229 1 = zb_229_1 := by decide +kernel
theorem zj_229_1 {S : zSs} {D n u : Nat} {sh : zk_S} {d : zm_D} {Q : ((Option zv_V) ⊕ Nat) → Nat → zk_S → zm_D → Nat → Prop} {L : zN} {st : List zv_V} : zJ S D 229 1 L st n sh d u Q ↔ zB S D 229 zb_229_1 L st n sh d u Q := by unfold zJ; rw [zc_229_1]
theorem zc_229_2 : zcd 229 2 = zb_229_2 := by decide +kernel
theorem zj_229_2 {S : zSs} {D n u : Nat} {sh : zk_S} {d : zm_D} {Q : ((Option zv_V) ⊕ Nat) → Nat → zk_S → zm_D → Nat → Prop} {L : zN} {st : List zv_V} : zJ S D 229 2 L st n sh d u Q ↔ zB S D 229 zb_229_2 L st n sh d u Q := by unfold zJ; rw [zc_229_2]
theorem zn_229 : znl 229 = 3 := by decide +kernel
theorem ze_229 {S : zSs} {D n u : Nat} {sh : zk_S} {d : zm_D} {Q : ((Option zv_V) ⊕ Nat) → Nat → zk_S → zm_D → Nat → Prop} {x0 : Int} : zE S D 229 [zv_a x0] n sh d u Q ↔ zB S D 229 zb_229_0 [some (zv_a x0), none, none] [] n sh d u Q := by
  unfold zE; rw [zn_229, zc_229_0]; exact ⟨fun h => h.2, fun h => ⟨Nat.le_of_ble_eq_true rfl, h⟩⟩
theorem ze_229s {S : zSs} {D n u : Nat} {sh : zk_S} {d : zm_D} {Q : ((Option zv_V) ⊕ Nat) → Nat → zk_S → zm_D → Nat → Prop} : zE S D 229 [] n sh d u Q ↔ zB S D 229 zb_229_0 [none, none, none] [] n sh d u Q := by
  unfold zE; rw [zn_229, zc_229_0]; exact ⟨fun h => h.2, fun h => ⟨Nat.le_of_ble_eq_true rfl, h⟩⟩
theorem zh_229 : zhl 229 = [] := by decide +kernel
theorem zc_230_0 : zcd 230 0 = zb_230_0 := by decide +kernel
theorem zj_230_0 {S : zSs} {D n u : Nat} {sh : zk_S} {d : zm_D} {Q : ((Option zv_V) ⊕ Nat) → Nat → zk_S → zm_D → Nat → Prop} {L : zN} {st : List zv_V} : zJ S D 230 0 L st n sh d u Q ↔ zB S D 230 zb_230_0 L st n sh d u Q := by unfold zJ; rw [zc_230_0]
theorem zc_230_1 : zcd 230 1 = zb_230_1 := by decide +kernel
theorem zj_230_1 {S : zSs} {D n u : Nat} {sh : zk_S} {d : zm_D} {Q : ((Option zv_V) ⊕ Nat) → Nat → zk_S → zm_D → Nat → Prop} {L : zN} {st : List zv_V} : zJ S D 230 1 L st n sh d u Q ↔ zB S D 230 zb_230_1 L st n sh d u Q := by unfold zJ; rw [zc_230_1]
theorem zc_230_2 : zcd 230 2 = zb_230_2 := by decide +kernel
theorem zj_230_2 {S : zSs} {D n u : Nat} {sh : zk_S} {d : zm_D} {Q : ((Option zv_V) ⊕ Nat) → Nat → zk_S → zm_D → Nat → Prop} {L : zN} {st : List zv_V} : zJ S D 230 2 L st n sh d u Q ↔ zB S D 230 zb_230_2 L st n sh d u Q := by unfold zJ; rw [zc_230_2]
theorem zn_230 : znl 230 = 2 := by decide +kernel
theorem ze_230 {S : zSs} {D n u : Nat} {sh : zk_S} {d : zm_D} {Q : ((Option zv_V) ⊕ Nat) → Nat → zk_S → zm_D → Nat → Prop} {x0 : Int} {x1 : Int} : zE S D 230 [zv_a x0, zv_i x1] n sh d u Q ↔ zB S D 230 zb_230_0 [some (zv_a x0), some (zv_i x1)] [] n sh d u Q := by
  unfold zE; rw [zn_230, zc_230_0]; exact ⟨fun h => h.2, fun h => ⟨Nat.le_of_ble_eq_true rfl, h⟩⟩
theorem ze_230s {S : zSs} {D n u : Nat} {sh : zk_S} {d : zm_D} {Q : ((Option zv_V) ⊕ Nat) → Nat → zk_S → zm_D → Nat → Prop} {x0 : Int} : zE S D 230 [zv_i x0] n sh d u Q ↔ zB S D 230 zb_230_0 [some (zv_i x0), none] [] n sh d u Q := by
  unfold zE; rw [zn_230, zc_230_0]; exact ⟨fun h => h.2, fun h => ⟨Nat.le_of_ble_eq_true rfl, h⟩⟩
theorem zh_230 : zhl 230 = [] := by decide +kernel
theorem zc_231_0 : zcd 231 0 = zb_231_0 := by decide +kernel
theorem zj_231_0 {S : zSs} {D n u : Nat} {sh : zk_S} {d : zm_D} {Q : ((Option zv_V) ⊕ Nat) → Nat → zk_S → zm_D → Nat → Prop} {L : zN} {st : List zv_V} : zJ S D 231 0 L st n sh d u Q ↔ zB S D 231 zb_231_0 L st n sh d u Q := by unfold zJ; rw [zc_231_0]
theorem zc_231_1 : zcd 231 1 = zb_231_1 := by decide +kernel
theorem zj_231_1 {S : zSs} {D n u : Nat} {sh : zk_S} {d : zm_D} {Q : ((Option zv_V) ⊕ Nat) → Nat → zk_S → zm_D → Nat → Prop} {L : zN} {st : List zv_V} : zJ S D 231 1 L st n sh d u Q ↔ zB S D 231 zb_231_1 L st n sh d u Q := by unfold zJ; rw [zc_231_1]
theorem zc_231_2 : zcd 231 2 = zb_231_2 := by decide +kernel
theorem zj_231_2 {S : zSs} {D n u : Nat} {sh : zk_S} {d : zm_D} {Q : ((Option zv_V) ⊕ Nat) → Nat → zk_S → zm_D → Nat → Prop} {L : zN} {st : List zv_V} : zJ S D 231 2 L st n sh d u Q ↔ zB S D 231 zb_231_2 L st n sh d u Q := by unfold zJ; rw [zc_231_2]
theorem zc_231_3 : zcd 231 3 = zb_231_3 := by decide +kernel
theorem zj_231_3 {S : zSs} {D n u : Nat} {sh : zk_S} {d : zm_D} {Q : ((Option zv_V) ⊕ Nat) → Nat → zk_S → zm_D → Nat → Prop} {L : zN} {st : List zv_V} : zJ S D 231 3 L st n sh d u Q ↔ zB S D 231 zb_231_3 L st n sh d u Q := by unfold zJ; rw [zc_231_3]
theorem zc_231_4 : zcd 231 4 = zb_231_4 := by decide +kernel
theorem zj_231_4 {S : zSs} {D n u : Nat} {sh : zk_S} {d : zm_D} {Q : ((Option zv_V) ⊕ Nat) → Nat → zk_S → zm_D → Nat → Prop} {L : zN} {st : List zv_V} : zJ S D 231 4 L st n sh d u Q ↔ zB S D 231 zb_231_4 L st n sh d u Q := by unfold zJ; rw [zc_231_4]
theorem zc_231_5 : zcd 231 5 = zb_231_5 := by decide +kernel
theorem zj_231_5 {S : zSs} {D n u : Nat} {sh : zk_S} {d : zm_D} {Q : ((Option zv_V) ⊕ Nat) → Nat → zk_S → zm_D → Nat → Prop} {L : zN} {st : List zv_V} : zJ S D 231 5 L st n sh d u Q ↔ zB S D 231 zb_231_5 L st n sh d u Q := by unfold zJ; rw [zc_231_5]
theorem zn_231 : znl 231 = 1 := by decide +kernel
theorem ze_231s {S : zSs} {D n u : Nat} {sh : zk_S} {d : zm_D} {Q : ((Option zv_V) ⊕ Nat) → Nat → zk_S → zm_D → Nat → Prop} {x0 : Int} : zE S D 231 [zv_i x0] n sh d u Q ↔ zB S D 231 zb_231_0 [some (zv_i x0)] [] n sh d u Q := by
  unfold zE; rw [zn_231, zc_231_0]; exact ⟨fun h => h.2, fun h => ⟨Nat.le_of_ble_eq_true rfl, h⟩⟩
theorem zh_231 : zhl 231 = [] := by decide +kernel
theorem zc_232_0 : zcd 232 0 = zb_232_0 := by decide +kernel
theorem zj_232_0 {S : zSs} {D n u : Nat} {sh : zk_S} {d : zm_D} {Q : ((Option zv_V) ⊕ Nat) → Nat → zk_S → zm_D → Nat → Prop} {L : zN} {st : List zv_V} : zJ S D 232 0 L st n sh d u Q ↔ zB S D 232 zb_232_0 L st n sh d u Q := by unfold zJ; rw [zc_232_0]
theorem zc_232_1 : zcd 232 1 = zb_232_1 := by decide +kernel
theorem zj_232_1 {S : zSs} {D n u : Nat} {sh : zk_S} {d : zm_D} {Q : ((Option zv_V) ⊕ Nat) → Nat → zk_S → zm_D → Nat → Prop} {L : zN} {st : List zv_V} : zJ S D 232 1 L st n sh d u Q ↔ zB S D 232 zb_232_1 L st n sh d u Q := by unfold zJ; rw [zc_232_1]
theorem zc_232_2 : zcd 232 2 = zb_232_2 := by decide +kernel
theorem zj_232_2 {S : zSs} {D n u : Nat} {sh : zk_S} {d : zm_D} {Q : ((Option zv_V) ⊕ Nat) → Nat → zk_S → zm_D → Nat → Prop} {L : zN} {st : List zv_V} : zJ S D 232 2 L st n sh d u Q ↔ zB S D 232 zb_232_2 L st n sh d u Q := by unfold zJ; rw [zc_232_2]
theorem zc_232_3 : zcd 232 3 = zb_232_3 := by decide +kernel
theorem zj_232_3 {S : zSs} {D n u : Nat} {sh : zk_S} {d : zm_D} {Q : ((Option zv_V) ⊕ Nat) → Nat → zk_S → zm_D → Nat → Prop} {L : zN} {st : List zv_V} : zJ S D 232 3 L st n sh d u Q ↔ zB S D 232 zb_232_3 L st n sh d u Q := by unfold zJ; rw [zc_232_3]
theorem zc_232_4 : zcd 232 4 = zb_232_4 := by decide +kernel
theorem zj_232_4 {S : zSs} {D n u : Nat} {sh : zk_S} {d : zm_D} {Q : ((Option zv_V) ⊕ Nat) → Nat → zk_S → zm_D → Nat → Prop} {L : zN} {st : List zv_V} : zJ S D 232 4 L st n sh d u Q ↔ zB S D 232 zb_232_4 L st n sh d u Q := by unfold zJ; rw [zc_232_4]
theorem zn_232 : znl 232 = 4 := by decide +kernel
theorem ze_232 {S : zSs} {D n u : Nat} {sh : zk_S} {d : zm_D} {Q : ((Option zv_V) ⊕ Nat) → Nat → zk_S → zm_D → Nat → Prop} {x0 : Int} {x1 : Int} {x2 : Int} : zE S D 232 [zv_a x0, zv_i x1, zv_i x2] n sh d u Q ↔ zB S D 232 zb_232_0 [some (zv_a x0), some (zv_i x1), some (zv_i x2), none] [] n sh d u Q := by
  unfold zE; rw [zn_232, zc_232_0]; exact ⟨fun h => h.2, fun h => ⟨Nat.le_of_ble_eq_true rfl, h⟩⟩
theorem ze_232s {S : zSs} {D n u : Nat} {sh : zk_S} {d : zm_D} {Q : ((Option zv_V) ⊕ Nat) → Nat → zk_S → zm_D → Nat → Prop} {x0 : Int} {x1 : Int} : zE S D 232 [zv_i x0, zv_i x1] n sh d u Q ↔ zB S D 232 zb_232_0 [some (zv_i x0), some (zv_i x1), none, none] [] n sh d u Q := by
  unfold zE; rw [zn_232, zc_232_0]; exact ⟨fun h => h.2, fun h => ⟨Nat.le_of_ble_eq_true rfl, h⟩⟩
theorem zh_232 : zhl 232 = [] := by decide +kernel
theorem zc_233_0 : zcd 233 0 = zb_233_0 := by decide +kernel
theorem zj_233_0 {S : zSs} {D n u : Nat} {sh : zk_S} {d : zm_D} {Q : ((Option zv_V) ⊕ Nat) → Nat → zk_S → zm_D → Nat → Prop} {L : zN} {st : List zv_V} : zJ S D 233 0 L st n sh d u Q ↔ zB S D 233 zb_233_0 L st n sh d u Q := by unfold zJ; rw [zc_233_0]
theorem zc_233_1 : zcd 233 1 = zb_233_1 := by decide +kernel
theorem zj_233_1 {S : zSs} {D n u : Nat} {sh : zk_S} {d : zm_D} {Q : ((Option zv_V) ⊕ Nat) → Nat → zk_S → zm_D → Nat → Prop} {L : zN} {st : List zv_V} : zJ S D 233 1 L st n sh d u Q ↔ zB S D 233 zb_233_1 L st n sh d u Q := by unfold zJ; rw [zc_233_1]
theorem zc_233_2 : zcd 233 2 = zb_233_2 := by decide +kernel
theorem zj_233_2 {S : zSs} {D n u : Nat} {sh : zk_S} {d : zm_D} {Q : ((Option zv_V) ⊕ Nat) → Nat → zk_S → zm_D → Nat → Prop} {L : zN} {st : List zv_V} : zJ S D 233 2 L st n sh d u Q ↔ zB S D 233 zb_233_2 L st n sh d u Q := by unfold zJ; rw [zc_233_2]
theorem zn_233 : znl 233 = 1 := by decide +kernel
theorem ze_233s {S : zSs} {D n u : Nat} {sh : zk_S} {d : zm_D} {Q : ((Option zv_V) ⊕ Nat) → Nat → zk_S → zm_D → Nat → Prop} {x0 : Int} : zE S D 233 [zv_i x0] n sh d u Q ↔ zB S D 233 zb_233_0 [some (zv_i x0)] [] n sh d u Q := by
  unfold zE; rw [zn_233, zc_233_0]; exact ⟨fun h => h.2, fun h => ⟨Nat.le_of_ble_eq_true rfl, h⟩⟩
theorem zh_233 : zhl 233 = [] := by decide +kernel
theorem zc_234_0 : zcd 234 0 = zb_234_0 := by decide +kernel
theorem zj_234_0 {S : zSs} {D n u : Nat} {sh : zk_S} {d : zm_D} {Q : ((Option zv_V) ⊕ Nat) → Nat → zk_S → zm_D → Nat → Prop} {L : zN} {st : List zv_V} : zJ S D 234 0 L st n sh d u Q ↔ zB S D 234 zb_234_0 L st n sh d u Q := by unfold zJ; rw [zc_234_0]
theorem zc_234_1 : zcd 234 1 = zb_234_1 := by decide +kernel
theorem zj_234_1 {S : zSs} {D n u : Nat} {sh : zk_S} {d : zm_D} {Q : ((Option zv_V) ⊕ Nat) → Nat → zk_S → zm_D → Nat → Prop} {L : zN} {st : List zv_V} : zJ S D 234 1 L st n sh d u Q ↔ zB S D 234 zb_234_1 L st n sh d u Q := by unfold zJ; rw [zc_234_1]
theorem zc_234_2 : zcd 234 2 = zb_234_2 := by decide +kernel
theorem zj_234_2 {S : zSs} {D n u : Nat} {sh : zk_S} {d : zm_D} {Q : ((Option zv_V) ⊕ Nat) → Nat → zk_S → zm_D → Nat → Prop} {L : zN} {st : List zv_V} : zJ S D 234 2 L st n sh d u Q ↔ zB S D 234 zb_234_2 L st n sh d u Q := by unfold zJ; rw [zc_234_2]
theorem zc_234_3 : zcd 234 3 = zb_234_3 := by decide +kernel
theorem zj_234_3 {S : zSs} {D n u : Nat} {sh : zk_S} {d : zm_D} {Q : ((Option zv_V) ⊕ Nat) → Nat → zk_S → zm_D → Nat → Prop} {L : zN} {st : List zv_V} : zJ S D 234 3 L st n sh d u Q ↔ zB S D 234 zb_234_3 L st n sh d u Q := by unfold zJ; rw [zc_234_3]
theorem zc_234_4 : zcd 234 4 = zb_234_4 := by decide +kernel
theorem zj_234_4 {S : zSs} {D n u : Nat} {sh : zk_S} {d : zm_D} {Q : ((Option zv_V) ⊕ Nat) → Nat → zk_S → zm_D → Nat → Prop} {L : zN} {st : List zv_V} : zJ S D 234 4 L st n sh d u Q ↔ zB S D 234 zb_234_4 L st n sh d u Q := by unfold zJ; rw [zc_234_4]
theorem zc_234_5 : zcd 234 5 = zb_234_5 := by decide +kernel
theorem zj_234_5 {S : zSs} {D n u : Nat} {sh : zk_S} {d : zm_D} {Q : ((Option zv_V) ⊕ Nat) → Nat → zk_S → zm_D → Nat → Prop} {L : zN} {st : List zv_V} : zJ S D 234 5 L st n sh d u Q ↔ zB S D 234 zb_234_5 L st n sh d u Q := by unfold zJ; rw [zc_234_5]
theorem zc_234_6 : zcd 234 6 = zb_234_6 := by decide +kernel
theorem zj_234_6 {S : zSs} {D n u : Nat} {sh : zk_S} {d : zm_D} {Q : ((Option zv_V) ⊕ Nat) → Nat → zk_S → zm_D → Nat → Prop} {L : zN} {st : List zv_V} : zJ S D 234 6 L st n sh d u Q ↔ zB S D 234 zb_234_6 L st n sh d u Q := by unfold zJ; rw [zc_234_6]
theorem zc_234_7 : zcd 234 7 = zb_234_7 := by decide +kernel
theorem zj_234_7 {S : zSs} {D n u : Nat} {sh : zk_S} {d : zm_D} {Q : ((Option zv_V) ⊕ Nat) → Nat → zk_S → zm_D → Nat → Prop} {L : zN} {st : List zv_V} : zJ S D 234 7 L st n sh d u Q ↔ zB S D 234 zb_234_7 L st n sh d u Q := by unfold zJ; rw [zc_234_7]
theorem zc_234_8 : zcd 234 8 = zb_234_8 := by decide +kernel
theorem zj_234_8 {S : zSs} {D n u : Nat} {sh : zk_S} {d : zm_D} {Q : ((Option zv_V) ⊕ Nat) → Nat → zk_S → zm_D → Nat → Prop} {L : zN} {st : List zv_V} : zJ S D 234 8 L st n sh d u Q ↔ zB S D 234 zb_234_8 L st n sh d u Q := by unfold zJ; rw [zc_234_8]
theorem zc_234_9 : zcd 234 9 = zb_234_9 := by decide +kernel
theorem zj_234_9 {S : zSs} {D n u : Nat} {sh : zk_S} {d : zm_D} {Q : ((Option zv_V) ⊕ Nat) → Nat → zk_S → zm_D → Nat → Prop} {L : zN} {st : List zv_V} : zJ S D 234 9 L st n sh d u Q ↔ zB S D 234 zb_234_9 L st n sh d u Q := by unfold zJ; rw [zc_234_9]
theorem zc_234_10 : zcd 234 10 = zb_234_10 := by decide +kernel
theorem zj_234_10 {S : zSs} {D n u : Nat} {sh : zk_S} {d : zm_D} {Q : ((Option zv_V) ⊕ Nat) → Nat → zk_S → zm_D → Nat → Prop} {L : zN} {st : List zv_V} : zJ S D 234 10 L st n sh d u Q ↔ zB S D 234 zb_234_10 L st n sh d u Q := by unfold zJ; rw [zc_234_10]
theorem zn_234 : znl 234 = 4 := by decide +kernel
theorem ze_234 {S : zSs} {D n u : Nat} {sh : zk_S} {d : zm_D} {Q : ((Option zv_V) ⊕ Nat) → Nat → zk_S → zm_D → Nat → Prop} {x0 : Int} {x1 : Int} : zE S D 234 [zv_a x0, zv_i x1] n sh d u Q ↔ zB S D 234 zb_234_0 [some (zv_a x0), some (zv_i x1), none, none] [] n sh d u Q := by
  unfold zE; rw [zn_234, zc_234_0]; exact ⟨fun h => h.2, fun h => ⟨Nat.le_of_ble_eq_true rfl, h⟩⟩
theorem ze_234s {S : zSs} {D n u : Nat} {sh : zk_S} {d : zm_D} {Q : ((Option zv_V) ⊕ Nat) → Nat → zk_S → zm_D → Nat → Prop} {x0 : Int} : zE S D 234 [zv_i x0] n sh d u Q ↔ zB S D 234 zb_234_0 [some (zv_i x0), none, none, none] [] n sh d u Q := by
  unfold zE; rw [zn_234, zc_234_0]; exact ⟨fun h => h.2, fun h => ⟨Nat.le_of_ble_eq_true rfl, h⟩⟩
theorem zh_234 : zhl 234 = [] := by decide +kernel
theorem zc_235_0 : zcd 235 0 = zb_235_0 := by decide +kernel
theorem zj_235_0 {S : zSs} {D n u : Nat} {sh : zk_S} {d : zm_D} {Q : ((Option zv_V) ⊕ Nat) → Nat → zk_S → zm_D → Nat → Prop} {L : zN} {st : List zv_V} : zJ S D 235 0 L st n sh d u Q ↔ zB S D 235 zb_235_0 L st n sh d u Q := by unfold zJ; rw [zc_235_0]
theorem zc_235_1 : zcd 235 1 = zb_235_1 := by decide +kernel
theorem zj_235_1 {S : zSs} {D n u : Nat} {sh : zk_S} {d : zm_D} {Q : ((Option zv_V) ⊕ Nat) → Nat → zk_S → zm_D → Nat → Prop} {L : zN} {st : List zv_V} : zJ S D 235 1 L st n sh d u Q ↔ zB S D 235 zb_235_1 L st n sh d u Q := by unfold zJ; rw [zc_235_1]
theorem zc_235_2 : zcd 235 2 = zb_235_2 := by decide +kernel
theorem zj_235_2 {S : zSs} {D n u : Nat} {sh : zk_S} {d : zm_D} {Q : ((Option zv_V) ⊕ Nat) → Nat → zk_S → zm_D → Nat → Prop} {L : zN} {st : List zv_V} : zJ S D 235 2 L st n sh d u Q ↔ zB S D 235 zb_235_2 L st n sh d u Q := by unfold zJ; rw [zc_235_2]
theorem zc_235_3 : zcd 235 3 = zb_235_3 := by decide +kernel
theorem zj_235_3 {S : zSs} {D n u : Nat} {sh : zk_S} {d : zm_D} {Q : ((Option zv_V) ⊕ Nat) → Nat → zk_S → zm_D → Nat → Prop} {L : zN} {st : List zv_V} : zJ S D 235 3 L st n sh d u Q ↔ zB S D 235 zb_235_3 L st n sh d u Q := by unfold zJ; rw [zc_235_3]
theorem zc_235_4 : zcd 235 4 = zb_235_4 := by decide +kernel
theorem zj_235_4 {S : zSs} {D n u : Nat} {sh : zk_S} {d : zm_D} {Q : ((Option zv_V) ⊕ Nat) → Nat → zk_S → zm_D → Nat → Prop} {L : zN} {st : List zv_V} : zJ S D 235 4 L st n sh d u Q ↔ zB S D 235 zb_235_4 L st n sh d u Q := by unfold zJ; rw [zc_235_4]
theorem zc_235_5 : zcd 235 5 = zb_235_5 := by decide +kernel
theorem zj_235_5 {S : zSs} {D n u : Nat} {sh : zk_S} {d : zm_D} {Q : ((Option zv_V) ⊕ Nat) → Nat → zk_S → zm_D → Nat → Prop} {L : zN} {st : List zv_V} : zJ S D 235 5 L st n sh d u Q ↔ zB S D 235 zb_235_5 L st n sh d u Q := by unfold zJ; rw [zc_235_5]
theorem zc_235_6 : zcd 235 6 = zb_235_6 := by decide +kernel
theorem zj_235_6 {S : zSs} {D n u : Nat} {sh : zk_S} {d : zm_D} {Q : ((Option zv_V) ⊕ Nat) → Nat → zk_S → zm_D → Nat → Prop} {L : zN} {st : List zv_V} : zJ S D 235 6 L st n sh d u Q ↔ zB S D 235 zb_235_6 L st n sh d u Q := by unfold zJ; rw [zc_235_6]
theorem zn_235 : znl 235 = 3 := by decide +kernel
theorem ze_235 {S : zSs} {D n u : Nat} {sh : zk_S} {d : zm_D} {Q : ((Option zv_V) ⊕ Nat) → Nat → zk_S → zm_D → Nat → Prop} {x0 : Int} {x1 : Int} : zE S D 235 [zv_a x0, zv_i x1] n sh d u Q ↔ zB S D 235 zb_235_0 [some (zv_a x0), some (zv_i x1), none] [] n sh d u Q := by
  unfold zE; rw [zn_235, zc_235_0]; exact ⟨fun h => h.2, fun h => ⟨Nat.le_of_ble_eq_true rfl, h⟩⟩
theorem ze_235s {S : zSs} {D n u : Nat} {sh : zk_S} {d : zm_D} {Q : ((Option zv_V) ⊕ Nat) → Nat → zk_S → zm_D → Nat → Prop} {x0 : Int} : zE S D 235 [zv_i x0] n sh d u Q ↔ zB S D 235 zb_235_0 [some (zv_i x0), none, none] [] n sh d u Q := by
  unfold zE; rw [zn_235, zc_235_0]; exact ⟨fun h => h.2, fun h => ⟨Nat.le_of_ble_eq_true rfl, h⟩⟩
theorem zh_235 : zhl 235 = [] := by decide +kernel
theorem zc_236_0 : zcd 236 0 = zb_236_0 := by decide +kernel
theorem zj_236_0 {S : zSs} {D n u : Nat} {sh : zk_S} {d : zm_D} {Q : ((Option zv_V) ⊕ Nat) → Nat → zk_S → zm_D → Nat → Prop} {L : zN} {st : List zv_V} : zJ S D 236 0 L st n sh d u Q ↔ zB S D 236 zb_236_0 L st n sh d u Q := by unfold zJ; rw [zc_236_0]
theorem zc_236_1 : zcd 236 1 = zb_236_1 := by decide +kernel
theorem zj_236_1 {S : zSs} {D n u : Nat} {sh : zk_S} {d : zm_D} {Q : ((Option zv_V) ⊕ Nat) → Nat → zk_S → zm_D → Nat → Prop} {L : zN} {st : List zv_V} : zJ S D 236 1 L st n sh d u Q ↔ zB S D 236 zb_236_1 L st n sh d u Q := by unfold zJ; rw [zc_236_1]
theorem zc_236_2 : zcd 236 2 = zb_236_2 := by decide +kernel
theorem zj_236_2 {S : zSs} {D n u : Nat} {sh : zk_S} {d : zm_D} {Q : ((Option zv_V) ⊕ Nat) → Nat → zk_S → zm_D → Nat → Prop} {L : zN} {st : List zv_V} : zJ S D 236 2 L st n sh d u Q ↔ zB S D 236 zb_236_2 L st n sh d u Q := by unfold zJ; rw [zc_236_2]
theorem zc_236_3 : zcd 236 3 = zb_236_3 := by decide +kernel
theorem zj_236_3 {S : zSs} {D n u : Nat} {sh : zk_S} {d : zm_D} {Q : ((Option zv_V) ⊕ Nat) → Nat → zk_S → zm_D → Nat → Prop} {L : zN} {st : List zv_V} : zJ S D 236 3 L st n sh d u Q ↔ zB S D 236 zb_236_3 L st n sh d u Q := by unfold zJ; rw [zc_236_3]
theorem zc_236_4 : zcd 236 4 = zb_236_4 := by decide +kernel
theorem zj_236_4 {S : zSs} {D n u : Nat} {sh : zk_S} {d : zm_D} {Q : ((Option zv_V) ⊕ Nat) → Nat → zk_S → zm_D → Nat → Prop} {L : zN} {st : List zv_V} : zJ S D 236 4 L st n sh d u Q ↔ zB S D 236 zb_236_4 L st n sh d u Q := by unfold zJ; rw [zc_236_4]
theorem zc_236_5 : zcd 236 5 = zb_236_5 := by decide +kernel
theorem zj_236_5 {S : zSs} {D n u : Nat} {sh : zk_S} {d : zm_D} {Q : ((Option zv_V) ⊕ Nat) → Nat → zk_S → zm_D → Nat → Prop} {L : zN} {st : List zv_V} : zJ S D 236 5 L st n sh d u Q ↔ zB S D 236 zb_236_5 L st n sh d u Q := by unfold zJ; rw [zc_236_5]
theorem zc_236_6 : zcd 236 6 = zb_236_6 := by decide +kernel
theorem zj_236_6 {S : zSs} {D n u : Nat} {sh : zk_S} {d : zm_D} {Q : ((Option zv_V) ⊕ Nat) → Nat → zk_S → zm_D → Nat → Prop} {L : zN} {st : List zv_V} : zJ S D 236 6 L st n sh d u Q ↔ zB S D 236 zb_236_6 L st n sh d u Q := by unfold zJ; rw [zc_236_6]
theorem zc_236_7 : zcd 236 7 = zb_236_7 := by decide +kernel
theorem zj_236_7 {S : zSs} {D n u : Nat} {sh : zk_S} {d : zm_D} {Q : ((Option zv_V) ⊕ Nat) → Nat → zk_S → zm_D → Nat → Prop} {L : zN} {st : List zv_V} : zJ S D 236 7 L st n sh d u Q ↔ zB S D 236 zb_236_7 L st n sh d u Q := by unfold zJ; rw [zc_236_7]
theorem zc_236_8 : zcd 236 8 = zb_236_8 := by decide +kernel
theorem zj_236_8 {S : zSs} {D n u : Nat} {sh : zk_S} {d : zm_D} {Q : ((Option zv_V) ⊕ Nat) → Nat → zk_S → zm_D → Nat → Prop} {L : zN} {st : List zv_V} : zJ S D 236 8 L st n sh d u Q ↔ zB S D 236 zb_236_8 L st n sh d u Q := by unfold zJ; rw [zc_236_8]
theorem zc_236_9 : zcd 236 9 = zb_236_9 := by decide +kernel
theorem zj_236_9 {S : zSs} {D n u : Nat} {sh : zk_S} {d : zm_D} {Q : ((Option zv_V) ⊕ Nat) → Nat → zk_S → zm_D → Nat → Prop} {L : zN} {st : List zv_V} : zJ S D 236 9 L st n sh d u Q ↔ zB S D 236 zb_236_9 L st n sh d u Q := by unfold zJ; rw [zc_236_9]
theorem zc_236_10 : zcd 236 10 = zb_236_10 := by decide +kernel
theorem zj_236_10 {S : zSs} {D n u : Nat} {sh : zk_S} {d : zm_D} {Q : ((Option zv_V) ⊕ Nat) → Nat → zk_S → zm_D → Nat → Prop} {L : zN} {st : List zv_V} : zJ S D 236 10 L st n sh d u Q ↔ zB S D 236 zb_236_10 L st n sh d u Q := by unfold zJ; rw [zc_236_10]
theorem zc_236_11 : zcd 236 11 = zb_236_11 := by decide +kernel
theorem zj_236_11 {S : zSs} {D n u : Nat} {sh : zk_S} {d : zm_D} {Q : ((Option zv_V) ⊕ Nat) → Nat → zk_S → zm_D → Nat → Prop} {L : zN} {st : List zv_V} : zJ S D 236 11 L st n sh d u Q ↔ zB S D 236 zb_236_11 L st n sh d u Q := by unfold zJ; rw [zc_236_11]
theorem zc_236_12 : zcd 236 12 = zb_236_12 := by decide +kernel
theorem zj_236_12 {S : zSs} {D n u : Nat} {sh : zk_S} {d : zm_D} {Q : ((Option zv_V) ⊕ Nat) → Nat → zk_S → zm_D → Nat → Prop} {L : zN} {st : List zv_V} : zJ S D 236 12 L st n sh d u Q ↔ zB S D 236 zb_236_12 L st n sh d u Q := by unfold zJ; rw [zc_236_12]
theorem zn_236 : znl 236 = 5 := by decide +kernel
theorem ze_236 {S : zSs} {D n u : Nat} {sh : zk_S} {d : zm_D} {Q : ((Option zv_V) ⊕ Nat) → Nat → zk_S → zm_D → Nat → Prop} {x0 : Int} {x1 : Int} : zE S D 236 [zv_a x0, zv_i x1] n sh d u Q ↔ zB S D 236 zb_236_0 [some (zv_a x0), some (zv_i x1), none, none, none] [] n sh d u Q := by
  unfold zE; rw [zn_236, zc_236_0]; exact ⟨fun h => h.2, fun h => ⟨Nat.le_of_ble_eq_true rfl, h⟩⟩
theorem ze_236s {S : zSs} {D n u : Nat} {sh : zk_S} {d : zm_D} {Q : ((Option zv_V) ⊕ Nat) → Nat → zk_S → zm_D → Nat → Prop} {x0 : Int} : zE S D 236 [zv_i x0] n sh d u Q ↔ zB S D 236 zb_236_0 [some (zv_i x0), none, none, none, none] [] n sh d u Q := by
  unfold zE; rw [zn_236, zc_236_0]; exact ⟨fun h => h.2, fun h => ⟨Nat.le_of_ble_eq_true rfl, h⟩⟩
theorem zh_236 : zhl 236 = [] := by decide +kernel
theorem zc_237_0 : zcd 237 0 = zb_237_0 := by decide +kernel
theorem zj_237_0 {S : zSs} {D n u : Nat} {sh : zk_S} {d : zm_D} {Q : ((Option zv_V) ⊕ Nat) → Nat → zk_S → zm_D → Nat → Prop} {L : zN} {st : List zv_V} : zJ S D 237 0 L st n sh d u Q ↔ zB S D 237 zb_237_0 L st n sh d u Q := by unfold zJ; rw [zc_237_0]
theorem zn_237 : znl 237 = 2 := by decide +kernel
theorem ze_237 {S : zSs} {D n u : Nat} {sh : zk_S} {d : zm_D} {Q : ((Option zv_V) ⊕ Nat) → Nat → zk_S → zm_D → Nat → Prop} {x0 : Int} : zE S D 237 [zv_a x0] n sh d u Q ↔ zB S D 237 zb_237_0 [some (zv_a x0), none] [] n sh d u Q := by
  unfold zE; rw [zn_237, zc_237_0]; exact ⟨fun h => h.2, fun h => ⟨Nat.le_of_ble_eq_true rfl, h⟩⟩
theorem ze_237s {S : zSs} {D n u : Nat} {sh : zk_S} {d : zm_D} {Q : ((Option zv_V) ⊕ Nat) → Nat → zk_S → zm_D → Nat → Prop} : zE S D 237 [] n sh d u Q ↔ zB S D 237 zb_237_0 [none, none] [] n sh d u Q := by
  unfold zE; rw [zn_237, zc_237_0]; exact ⟨fun h => h.2, fun h => ⟨Nat.le_of_ble_eq_true rfl, h⟩⟩
theorem zh_237 : zhl 237 = [] := by decide +kernel
theorem zc_238_0 : zcd 238 0 = zb_238_0 := by decide +kernel
theorem zj_238_0 {S : zSs} {D n u : Nat} {sh : zk_S} {d : zm_D} {Q : ((Option zv_V) ⊕ Nat) → Nat → zk_S → zm_D → Nat → Prop} {L : zN} {st : List zv_V} : zJ S D 238 0 L st n sh d u Q ↔ zB S D 238 zb_238_0 L st n sh d u Q := by unfold zJ; rw [zc_238_0]
theorem zc_238_1 : zcd 238 1 = zb_238_1 := by decide +kernel
theorem zj_238_1 {S : zSs} {D n u : Nat} {sh : zk_S} {d : zm_D} {Q : ((Option zv_V) ⊕ Nat) → Nat → zk_S → zm_D → Nat → Prop} {L : zN} {st : List zv_V} : zJ S D 238 1 L st n sh d u Q ↔ zB S D 238 zb_238_1 L st n sh d u Q := by unfold zJ; rw [zc_238_1]
theorem zc_238_2 : zcd 238 2 = zb_238_2 := by decide +kernel
theorem zj_238_2 {S : zSs} {D n u : Nat} {sh : zk_S} {d : zm_D} {Q : ((Option zv_V) ⊕ Nat) → Nat → zk_S → zm_D → Nat → Prop} {L : zN} {st : List zv_V} : zJ S D 238 2 L st n sh d u Q ↔ zB S D 238 zb_238_2 L st n sh d u Q := by unfold zJ; rw [zc_238_2]
theorem zc_238_3 : zcd 238 3 = zb_238_3 := by decide +kernel
theorem zj_238_3 {S : zSs} {D n u : Nat} {sh : zk_S} {d : zm_D} {Q : ((Option zv_V) ⊕ Nat) → Nat → zk_S → zm_D → Nat → Prop} {L : zN} {st : List zv_V} : zJ S D 238 3 L st n sh d u Q ↔ zB S D 238 zb_238_3 L st n sh d u Q := by unfold zJ; rw [zc_238_3]
theorem zc_238_4 : zcd 238 4 = zb_238_4 := by decide +kernel
theorem zj_238_4 {S : zSs} {D n u : Nat} {sh : zk_S} {d : zm_D} {Q : ((Option zv_V) ⊕ Nat) → Nat → zk_S → zm_D → Nat → Prop} {L : zN} {st : List zv_V} : zJ S D 238 4 L st n sh d u Q ↔ zB S D 238 zb_238_4 L st n sh d u Q := by unfold zJ; rw [zc_238_4]
theorem zc_238_5 : zcd 238 5 = zb_238_5 := by decide +kernel
theorem zj_238_5 {S : zSs} {D n u : Nat} {sh : zk_S} {d : zm_D} {Q : ((Option zv_V) ⊕ Nat) → Nat → zk_S → zm_D → Nat → Prop} {L : zN} {st : List zv_V} : zJ S D 238 5 L st n sh d u Q ↔ zB S D 238 zb_238_5 L st n sh d u Q := by unfold zJ; rw [zc_238_5]
theorem zc_238_6 : zcd 238 6 = zb_238_6 := by decide +kernel
theorem zj_238_6 {S : zSs} {D n u : Nat} {sh : zk_S} {d : zm_D} {Q : ((Option zv_V) ⊕ Nat) → Nat → zk_S → zm_D → Nat → Prop} {L : zN} {st : List zv_V} : zJ S D 238 6 L st n sh d u Q ↔ zB S D 238 zb_238_6 L st n sh d u Q := by unfold zJ; rw [zc_238_6]
theorem zn_238 : znl 238 = 5 := by decide +kernel
theorem ze_238 {S : zSs} {D n u : Nat} {sh : zk_S} {d : zm_D} {Q : ((Option zv_V) ⊕ Nat) → Nat → zk_S → zm_D → Nat → Prop} {x0 : Int} {x1 : Int} {x2 : Int} : zE S D 238 [zv_a x0, zv_i x1, zv_a x2] n sh d u Q ↔ zB S D 238 zb_238_0 [some (zv_a x0), some (zv_i x1), some (zv_a x2), none, none] [] n sh d u Q := by
  unfold zE; rw [zn_238, zc_238_0]; exact ⟨fun h => h.2, fun h => ⟨Nat.le_of_ble_eq_true rfl, h⟩⟩
theorem ze_238s {S : zSs} {D n u : Nat} {sh : zk_S} {d : zm_D} {Q : ((Option zv_V) ⊕ Nat) → Nat → zk_S → zm_D → Nat → Prop} {x0 : Int} {x1 : Int} : zE S D 238 [zv_i x0, zv_a x1] n sh d u Q ↔ zB S D 238 zb_238_0 [some (zv_i x0), some (zv_a x1), none, none, none] [] n sh d u Q := by
  unfold zE; rw [zn_238, zc_238_0]; exact ⟨fun h => h.2, fun h => ⟨Nat.le_of_ble_eq_true rfl, h⟩⟩
theorem zh_238 : zhl 238 = [] := by decide +kernel
theorem zc_239_0 : zcd 239 0 = zb_239_0 := by decide +kernel
theorem zj_239_0 {S : zSs} {D n u : Nat} {sh : zk_S} {d : zm_D} {Q : ((Option zv_V) ⊕ Nat) → Nat → zk_S → zm_D → Nat → Prop} {L : zN} {st : List zv_V} : zJ S D 239 0 L st n sh d u Q ↔ zB S D 239 zb_239_0 L st n sh d u Q := by unfold zJ; rw [zc_239_0]
theorem zc_239_1 : zcd 239 1 = zb_239_1 := by decide +kernel
theorem zj_239_1 {S : zSs} {D n u : Nat} {sh : zk_S} {d : zm_D} {Q : ((Option zv_V) ⊕ Nat) → Nat → zk_S → zm_D → Nat → Prop} {L : zN} {st : List zv_V} : zJ S D 239 1 L st n sh d u Q ↔ zB S D 239 zb_239_1 L st n sh d u Q := by unfold zJ; rw [zc_239_1]
theorem zc_239_2 : zcd 239 2 = zb_239_2 := by decide +kernel
theorem zj_239_2 {S : zSs} {D n u : Nat} {sh : zk_S} {d : zm_D} {Q : ((Option zv_V) ⊕ Nat) → Nat → zk_S → zm_D → Nat → Prop} {L : zN} {st : List zv_V} : zJ S D 239 2 L st n sh d u Q ↔ zB S D 239 zb_239_2 L st n sh d u Q := by unfold zJ; rw [zc_239_2]
theorem zc_239_3 : zcd 239 3 = zb_239_3 := by decide +kernel
theorem zj_239_3 {S : zSs} {D n u : Nat} {sh : zk_S} {d : zm_D} {Q : ((Option zv_V) ⊕ Nat) → Nat → zk_S → zm_D → Nat → Prop} {L : zN} {st : List zv_V} : zJ S D 239 3 L st n sh d u Q ↔ zB S D 239 zb_239_3 L st n sh d u Q := by unfold zJ; rw [zc_239_3]
theorem zc_239_4 : zcd 239 4 = zb_239_4 := by decide +kernel
theorem zj_239_4 {S : zSs} {D n u : Nat} {sh : zk_S} {d : zm_D} {Q : ((Option zv_V) ⊕ Nat) → Nat → zk_S → zm_D → Nat → Prop} {L : zN} {st : List zv_V} : zJ S D 239 4 L st n sh d u Q ↔ zB S D 239 zb_239_4 L st n sh d u Q := by unfold zJ; rw [zc_239_4]
theorem zn_239 : znl 239 = 4 := by decide +kernel
theorem ze_239 {S : zSs} {D n u : Nat} {sh : zk_S} {d : zm_D} {Q : ((Option zv_V) ⊕ Nat) → Nat → zk_S → zm_D → Nat → Prop} {x0 : Int} {x1 : Int} {x2 : Int} : zE S D 239 [zv_a x0, zv_i x1, zv_a x2] n sh d u Q ↔ zB S D 239 zb_239_0 [some (zv_a x0), some (zv_i x1), some (zv_a x2), none] [] n sh d u Q := by
  unfold zE; rw [zn_239, zc_239_0]; exact ⟨fun h => h.2, fun h => ⟨Nat.le_of_ble_eq_true rfl, h⟩⟩
theorem ze_239s {S : zSs} {D n u : Nat} {sh : zk_S} {d : zm_D} {Q : ((Option zv_V) ⊕ Nat) → Nat → zk_S → zm_D → Nat → Prop} {x0 : Int} {x1 : Int} : zE S D 239 [zv_i x0, zv_a x1] n sh d u Q ↔ zB S D 239 zb_239_0 [some (zv_i x0), some (zv_a x1), none, none] [] n sh d u Q := by
  unfold zE; rw [zn_239, zc_239_0]; exact ⟨fun h => h.2, fun h => ⟨Nat.le_of_ble_eq_true rfl, h⟩⟩
theorem zh_239 : zhl 239 = [] := by decide +kernel
theorem zc_240_0 : zcd 240 0 = zb_240_0 := by decide +kernel
theorem zj_240_0 {S : zSs} {D n u : Nat} {sh : zk_S} {d : zm_D} {Q : ((Option zv_V) ⊕ Nat) → Nat → zk_S → zm_D → Nat → Prop} {L : zN} {st : List zv_V} : zJ S D 240 0 L st n sh d u Q ↔ zB S D 240 zb_240_0 L st n sh d u Q := by unfold zJ; rw [zc_240_0]
theorem zn_240 : znl 240 = 3 := by decide +kernel
theorem ze_240 {S : zSs} {D n u : Nat} {sh : zk_S} {d : zm_D} {Q : ((Option zv_V) ⊕ Nat) → Nat → zk_S → zm_D → Nat → Prop} {x0 : Int} {x1 : Int} {x2 : Int} : zE S D 240 [zv_a x0, zv_i x1, zv_i x2] n sh d u Q ↔ zB S D 240 zb_240_0 [some (zv_a x0), some (zv_i x1), some (zv_i x2)] [] n sh d u Q := by
  unfold zE; rw [zn_240, zc_240_0]; exact ⟨fun h => h.2, fun h => ⟨Nat.le_of_ble_eq_true rfl, h⟩⟩
theorem ze_240s {S : zSs} {D n u : Nat} {sh : zk_S} {d : zm_D} {Q : ((Option zv_V) ⊕ Nat) → Nat → zk_S → zm_D → Nat → Prop} {x0 : Int} {x1 : Int} : zE S D 240 [zv_i x0, zv_i x1] n sh d u Q ↔ zB S D 240 zb_240_0 [some (zv_i x0), some (zv_i x1), none] [] n sh d u Q := by
  unfold zE; rw [zn_240, zc_240_0]; exact ⟨fun h => h.2, fun h => ⟨Nat.le_of_ble_eq_true rfl, h⟩⟩
theorem zh_240 : zhl 240 = [] := by decide +kernel
theorem zc_241_0 : zcd 241 0 = zb_241_0 := by decide +kernel
theorem zj_241_0 {S : zSs} {D n u : Nat} {sh : zk_S} {d : zm_D} {Q : ((Option zv_V) ⊕ Nat) → Nat → zk_S → zm_D → Nat → Prop} {L : zN} {st : List zv_V} : zJ S D 241 0 L st n sh d u Q ↔ zB S D 241 zb_241_0 L st n sh d u Q := by unfold zJ; rw [zc_241_0]
theorem zc_241_1 : zcd 241 1 = zb_241_1 := by decide +kernel
theorem zj_241_1 {S : zSs} {D n u : Nat} {sh : zk_S} {d : zm_D} {Q : ((Option zv_V) ⊕ Nat) → Nat → zk_S → zm_D → Nat → Prop} {L : zN} {st : List zv_V} : zJ S D 241 1 L st n sh d u Q ↔ zB S D 241 zb_241_1 L st n sh d u Q := by unfold zJ; rw [zc_241_1]
theorem zc_241_2 : zcd 241 2 = zb_241_2 := by decide +kernel
theorem zj_241_2 {S : zSs} {D n u : Nat} {sh : zk_S} {d : zm_D} {Q : ((Option zv_V) ⊕ Nat) → Nat → zk_S → zm_D → Nat → Prop} {L : zN} {st : List zv_V} : zJ S D 241 2 L st n sh d u Q ↔ zB S D 241 zb_241_2 L st n sh d u Q := by unfold zJ; rw [zc_241_2]
theorem zn_241 : znl 241 = 2 := by decide +kernel
theorem ze_241 {S : zSs} {D n u : Nat} {sh : zk_S} {d : zm_D} {Q : ((Option zv_V) ⊕ Nat) → Nat → zk_S → zm_D → Nat → Prop} {x0 : Int} {x1 : Int} : zE S D 241 [zv_a x0, zv_i x1] n sh d u Q ↔ zB S D 241 zb_241_0 [some (zv_a x0), some (zv_i x1)] [] n sh d u Q := by
  unfold zE; rw [zn_241, zc_241_0]; exact ⟨fun h => h.2, fun h => ⟨Nat.le_of_ble_eq_true rfl, h⟩⟩
theorem ze_241s {S : zSs} {D n u : Nat} {sh : zk_S} {d : zm_D} {Q : ((Option zv_V) ⊕ Nat) → Nat → zk_S → zm_D → Nat → Prop} {x0 : Int} : zE S D 241 [zv_i x0] n sh d u Q ↔ zB S D 241 zb_241_0 [some (zv_i x0), none] [] n sh d u Q := by
  unfold zE; rw [zn_241, zc_241_0]; exact ⟨fun h => h.2, fun h => ⟨Nat.le_of_ble_eq_true rfl, h⟩⟩
theorem zh_241 : zhl 241 = [] := by decide +kernel
theorem zc_242_0 : zcd 242 0 = zb_242_0 := by decide +kernel
theorem zj_242_0 {S : zSs} {D n u : Nat} {sh : zk_S} {d : zm_D} {Q : ((Option zv_V) ⊕ Nat) → Nat → zk_S → zm_D → Nat → Prop} {L : zN} {st : List zv_V} : zJ S D 242 0 L st n sh d u Q ↔ zB S D 242 zb_242_0 L st n sh d u Q := by unfold zJ; rw [zc_242_0]
theorem zc_242_1 : zcd 242 1 = zb_242_1 := by decide +kernel
theorem zj_242_1 {S : zSs} {D n u : Nat} {sh : zk_S} {d : zm_D} {Q : ((Option zv_V) ⊕ Nat) → Nat → zk_S → zm_D → Nat → Prop} {L : zN} {st : List zv_V} : zJ S D 242 1 L st n sh d u Q ↔ zB S D 242 zb_242_1 L st n sh d u Q := by unfold zJ; rw [zc_242_1]
theorem zc_242_2 : zcd 242 2 = zb_242_2 := by decide +kernel
theorem zj_242_2 {S : zSs} {D n u : Nat} {sh : zk_S} {d : zm_D} {Q : ((Option zv_V) ⊕ Nat) → Nat → zk_S → zm_D → Nat → Prop} {L : zN} {st : List zv_V} : zJ S D 242 2 L st n sh d u Q ↔ zB S D 242 zb_242_2 L st n sh d u Q := by unfold zJ; rw [zc_242_2]
theorem zn_242 : znl 242 = 2 := by decide +kernel
theorem ze_242 {S : zSs} {D n u : Nat} {sh : zk_S} {d : zm_D} {Q : ((Option zv_V) ⊕ Nat) → Nat → zk_S → zm_D → Nat → Prop} {x0 : Int} {x1 : Int} : zE S D 242 [zv_a x0, zv_i x1] n sh d u Q ↔ zB S D 242 zb_242_0 [some (zv_a x0), some (zv_i x1)] [] n sh d u Q := by
  unfold zE; rw [zn_242, zc_242_0]; exact ⟨fun h => h.2, fun h => ⟨Nat.le_of_ble_eq_true rfl, h⟩⟩
theorem ze_242s {S : zSs} {D n u : Nat} {sh : zk_S} {d : zm_D} {Q : ((Option zv_V) ⊕ Nat) → Nat → zk_S → zm_D → Nat → Prop} {x0 : Int} : zE S D 242 [zv_i x0] n sh d u Q ↔ zB S D 242 zb_242_0 [some (zv_i x0), none] [] n sh d u Q := by
  unfold zE; rw [zn_242, zc_242_0]; exact ⟨fun h => h.2, fun h => ⟨Nat.le_of_ble_eq_true rfl, h⟩⟩
theorem zh_242 : zhl 242 = [] := by decide +kernel
theorem zc_243_0 : zcd 243 0 = zb_243_0 := by decide +kernel
theorem zj_243_0 {S : zSs} {D n u : Nat} {sh : zk_S} {d : zm_D} {Q : ((Option zv_V) ⊕ Nat) → Nat → zk_S → zm_D → Nat → Prop} {L : zN} {st : List zv_V} : zJ S D 243 0 L st n sh d u Q ↔ zB S D 243 zb_243_0 L st n sh d u Q := by unfold zJ; rw [zc_243_0]
theorem zc_243_1 : zcd 243 1 = zb_243_1 := by decide +kernel
theorem zj_243_1 {S : zSs} {D n u : Nat} {sh : zk_S} {d : zm_D} {Q : ((Option zv_V) ⊕ Nat) → Nat → zk_S → zm_D → Nat → Prop} {L : zN} {st : List zv_V} : zJ S D 243 1 L st n sh d u Q ↔ zB S D 243 zb_243_1 L st n sh d u Q := by unfold zJ; rw [zc_243_1]
theorem zc_243_2 : zcd 243 2 = zb_243_2 := by decide +kernel
theorem zj_243_2 {S : zSs} {D n u : Nat} {sh : zk_S} {d : zm_D} {Q : ((Option zv_V) ⊕ Nat) → Nat → zk_S → zm_D → Nat → Prop} {L : zN} {st : List zv_V} : zJ S D 243 2 L st n sh d u Q ↔ zB S D 243 zb_243_2 L st n sh d u Q := by unfold zJ; rw [zc_243_2]
theorem zc_243_3 : zcd 243 3 = zb_243_3 := by decide +kernel
theorem zj_243_3 {S : zSs} {D n u : Nat} {sh : zk_S} {d : zm_D} {Q : ((Option zv_V) ⊕ Nat) → Nat → zk_S → zm_D → Nat → Prop} {L : zN} {st : List zv_V} : zJ S D 243 3 L st n sh d u Q ↔ zB S D 243 zb_243_3 L st n sh d u Q := by unfold zJ; rw [zc_243_3]
theorem zc_243_4 : zcd 243 4 = zb_243_4 := by decide +kernel
theorem zj_243_4 {S : zSs} {D n u : Nat} {sh : zk_S} {d : zm_D} {Q : ((Option zv_V) ⊕ Nat) → Nat → zk_S → zm_D → Nat → Prop} {L : zN} {st : List zv_V} : zJ S D 243 4 L st n sh d u Q ↔ zB S D 243 zb_243_4 L st n sh d u Q := by unfold zJ; rw [zc_243_4]
theorem zc_243_5 : zcd 243 5 = zb_243_5 := by decide +kernel
theorem zj_243_5 {S : zSs} {D n u : Nat} {sh : zk_S} {d : zm_D} {Q : ((Option zv_V) ⊕ Nat) → Nat → zk_S → zm_D → Nat → Prop} {L : zN} {st : List zv_V} : zJ S D 243 5 L st n sh d u Q ↔ zB S D 243 zb_243_5 L st n sh d u Q := by unfold zJ; rw [zc_243_5]
theorem zc_243_6 : zcd 243 6 = zb_243_6 := by decide +kernel
theorem zj_243_6 {S : zSs} {D n u : Nat} {sh : zk_S} {d : zm_D} {Q : ((Option zv_V) ⊕ Nat) → Nat → zk_S → zm_D → Nat → Prop} {L : zN} {st : List zv_V} : zJ S D 243 6 L st n sh d u Q ↔ zB S D 243 zb_243_6 L st n sh d u Q := by unfold zJ; rw [zc_243_6]
theorem zc_243_7 : zcd 243 7 = zb_243_7 := by decide +kernel
theorem zj_243_7 {S : zSs} {D n u : Nat} {sh : zk_S} {d : zm_D} {Q : ((Option zv_V) ⊕ Nat) → Nat → zk_S → zm_D → Nat → Prop} {L : zN} {st : List zv_V} : zJ S D 243 7 L st n sh d u Q ↔ zB S D 243 zb_243_7 L st n sh d u Q := by unfold zJ; rw [zc_243_7]
theorem zc_243_8 : zcd 243 8 = zb_243_8 := by decide +kernel
theorem zj_243_8 {S : zSs} {D n u : Nat} {sh : zk_S} {d : zm_D} {Q : ((Option zv_V) ⊕ Nat) → Nat → zk_S → zm_D → Nat → Prop} {L : zN} {st : List zv_V} : zJ S D 243 8 L st n sh d u Q ↔ zB S D 243 zb_243_8 L st n sh d u Q := by unfold zJ; rw [zc_243_8]
theorem zc_243_9 : zcd 243 9 = zb_243_9 := by decide +kernel
theorem zj_243_9 {S : zSs} {D n u : Nat} {sh : zk_S} {d : zm_D} {Q : ((Option zv_V) ⊕ Nat) → Nat → zk_S → zm_D → Nat → Prop} {L : zN} {st : List zv_V} : zJ S D 243 9 L st n sh d u Q ↔ zB S D 243 zb_243_9 L st n sh d u Q := by unfold zJ; rw [zc_243_9]
theorem zc_243_10 : zcd 243 10 = zb_243_10 := by decide +kernel
theorem zj_243_10 {S : zSs} {D n u : Nat} {sh : zk_S} {d : zm_D} {Q : ((Option zv_V) ⊕ Nat) → Nat → zk_S → zm_D → Nat → Prop} {L : zN} {st : List zv_V} : zJ S D 243 10 L st n sh d u Q ↔ zB S D 243 zb_243_10 L st n sh d u Q := by unfold zJ; rw [zc_243_10]
theorem zc_243_11 : zcd 243 11 = zb_243_11 := by decide +kernel
theorem zj_243_11 {S : zSs} {D n u : Nat} {sh : zk_S} {d : zm_D} {Q : ((Option zv_V) ⊕ Nat) → Nat → zk_S → zm_D → Nat → Prop} {L : zN} {st : List zv_V} : zJ S D 243 11 L st n sh d u Q ↔ zB S D 243 zb_243_11 L st n sh d u Q := by unfold zJ; rw [zc_243_11]
theorem zc_243_12 : zcd 243 12 = zb_243_12 := by decide +kernel
theorem zj_243_12 {S : zSs} {D n u : Nat} {sh : zk_S} {d : zm_D} {Q : ((Option zv_V) ⊕ Nat) → Nat → zk_S → zm_D → Nat → Prop} {L : zN} {st : List zv_V} : zJ S D 243 12 L st n sh d u Q ↔ zB S D 243 zb_243_12 L st n sh d u Q := by unfold zJ; rw [zc_243_12]
theorem zc_243_13 : zcd 243 13 = zb_243_13 := by decide +kernel
theorem zj_243_13 {S : zSs} {D n u : Nat} {sh : zk_S} {d : zm_D} {Q : ((Option zv_V) ⊕ Nat) → Nat → zk_S → zm_D → Nat → Prop} {L : zN} {st : List zv_V} : zJ S D 243 13 L st n sh d u Q ↔ zB S D 243 zb_243_13 L st n sh d u Q := by unfold zJ; rw [zc_243_13]
theorem zc_243_14 : zcd 243 14 = zb_243_14 := by decide +kernel
theorem zj_243_14 {S : zSs} {D n u : Nat} {sh : zk_S} {d : zm_D} {Q : ((Option zv_V) ⊕ Nat) → Nat → zk_S → zm_D → Nat → Prop} {L : zN} {st : List zv_V} : zJ S D 243 14 L st n sh d u Q ↔ zB S D 243 zb_243_14 L st n sh d u Q := by unfold zJ; rw [zc_243_14]
theorem zn_243 : znl 243 = 6 := by decide +kernel
theorem ze_243 {S : zSs} {D n u : Nat} {sh : zk_S} {d : zm_D} {Q : ((Option zv_V) ⊕ Nat) → Nat → zk_S → zm_D → Nat → Prop} {x0 : Int} {x1 : Int} {x2 : Int} {x3 : Int} : zE S D 243 [zv_a x0, zv_i x1, zv_i x2, zv_i x3] n sh d u Q ↔ zB S D 243 zb_243_0 [some (zv_a x0), some (zv_i x1), some (zv_i x2), some (zv_i x3), none, none] [] n sh d u Q := by
  unfold zE; rw [zn_243, zc_243_0]; exact ⟨fun h => h.2, fun h => ⟨Nat.le_of_ble_eq_true rfl, h⟩⟩
theorem ze_243s {S : zSs} {D n u : Nat} {sh : zk_S} {d : zm_D} {Q : ((Option zv_V) ⊕ Nat) → Nat → zk_S → zm_D → Nat → Prop} {x0 : Int} {x1 : Int} {x2 : Int} : zE S D 243 [zv_i x0, zv_i x1, zv_i x2] n sh d u Q ↔ zB S D 243 zb_243_0 [some (zv_i x0), some (zv_i x1), some (zv_i x2), none, none, none] [] n sh d u Q := by
  unfold zE; rw [zn_243, zc_243_0]; exact ⟨fun h => h.2, fun h => ⟨Nat.le_of_ble_eq_true rfl, h⟩⟩
theorem zh_243 : zhl 243 = [] := by decide +kernel
theorem zc_244_0 : zcd 244 0 = zb_244_0 := by decide +kernel
theorem zj_244_0 {S : zSs} {D n u : Nat} {sh : zk_S} {d : zm_D} {Q : ((Option zv_V) ⊕ Nat) → Nat → zk_S → zm_D → Nat → Prop} {L : zN} {st : List zv_V} : zJ S D 244 0 L st n sh d u Q ↔ zB S D 244 zb_244_0 L st n sh d u Q := by unfold zJ; rw [zc_244_0]
theorem zn_244 : znl 244 = 3 := by decide +kernel
theorem ze_244 {S : zSs} {D n u : Nat} {sh : zk_S} {d : zm_D} {Q : ((Option zv_V) ⊕ Nat) → Nat → zk_S → zm_D → Nat → Prop} {x0 : Int} {x1 : Int} {x2 : Int} : zE S D 244 [zv_a x0, zv_i x1, zv_i x2] n sh d u Q ↔ zB S D 244 zb_244_0 [some (zv_a x0), some (zv_i x1), some (zv_i x2)] [] n sh d u Q := by
  unfold zE; rw [zn_244, zc_244_0]; exact ⟨fun h => h.2, fun h => ⟨Nat.le_of_ble_eq_true rfl, h⟩⟩
theorem ze_244s {S : zSs} {D n u : Nat} {sh : zk_S} {d : zm_D} {Q : ((Option zv_V) ⊕ Nat) → Nat → zk_S → zm_D → Nat → Prop} {x0 : Int} {x1 : Int} : zE S D 244 [zv_i x0, zv_i x1] n sh d u Q ↔ zB S D 244 zb_244_0 [some (zv_i x0), some (zv_i x1), none] [] n sh d u Q := by
  unfold zE; rw [zn_244, zc_244_0]; exact ⟨fun h => h.2, fun h => ⟨Nat.le_of_ble_eq_true rfl, h⟩⟩
theorem zh_244 : zhl 244 = [] := by decide +kernel
theorem zc_245_0 : zcd 245 0 = zb_245_0 := by decide +kernel
theorem zj_245_0 {S : zSs} {D n u : Nat} {sh : zk_S} {d : zm_D} {Q : ((Option zv_V) ⊕ Nat) → Nat → zk_S → zm_D → Nat → Prop} {L : zN} {st : List zv_V} : zJ S D 245 0 L st n sh d u Q ↔ zB S D 245 zb_245_0 L st n sh d u Q := by unfold zJ; rw [zc_245_0]
theorem zc_245_1 : zcd 245 1 = zb_245_1 := by decide +kernel
theorem zj_245_1 {S : zSs} {D n u : Nat} {sh : zk_S} {d : zm_D} {Q : ((Option zv_V) ⊕ Nat) → Nat → zk_S → zm_D → Nat → Prop} {L : zN} {st : List zv_V} : zJ S D 245 1 L st n sh d u Q ↔ zB S D 245 zb_245_1 L st n sh d u Q := by unfold zJ; rw [zc_245_1]
theorem zc_245_2 : zcd 245 2 = zb_245_2 := by decide +kernel
theorem zj_245_2 {S : zSs} {D n u : Nat} {sh : zk_S} {d : zm_D} {Q : ((Option zv_V) ⊕ Nat) → Nat → zk_S → zm_D → Nat → Prop} {L : zN} {st : List zv_V} : zJ S D 245 2 L st n sh d u Q ↔ zB S D 245 zb_245_2 L st n sh d u Q := by unfold zJ; rw [zc_245_2]
theorem zc_245_3 : zcd 245 3 = zb_245_3 := by decide +kernel
theorem zj_245_3 {S : zSs} {D n u : Nat} {sh : zk_S} {d : zm_D} {Q : ((Option zv_V) ⊕ Nat) → Nat → zk_S → zm_D → Nat → Prop} {L : zN} {st : List zv_V} : zJ S D 245 3 L st n sh d u Q ↔ zB S D 245 zb_245_3 L st n sh d u Q := by unfold zJ; rw [zc_245_3]
theorem zc_245_4 : zcd 245 4 = zb_245_4 := by decide +kernel
theorem zj_245_4 {S : zSs} {D n u : Nat} {sh : zk_S} {d : zm_D} {Q : ((Option zv_V) ⊕ Nat) → Nat → zk_S → zm_D → Nat → Prop} {L : zN} {st : List zv_V} : zJ S D 245 4 L st n sh d u Q ↔ zB S D 245 zb_245_4 L st n sh d u Q := by unfold zJ; rw [zc_245_4]
theorem zc_245_5 : zcd 245 5 = zb_245_5 := by decide +kernel
theorem zj_245_5 {S : zSs} {D n u : Nat} {sh : zk_S} {d : zm_D} {Q : ((Option zv_V) ⊕ Nat) → Nat → zk_S → zm_D → Nat → Prop} {L : zN} {st : List zv_V} : zJ S D 245 5 L st n sh d u Q ↔ zB S D 245 zb_245_5 L st n sh d u Q := by unfold zJ; rw [zc_245_5]
theorem zc_245_6 : zcd 245 6 = zb_245_6 := by decide +kernel
theorem zj_245_6 {S : zSs} {D n u : Nat} {sh : zk_S} {d : zm_D} {Q : ((Option zv_V) ⊕ Nat) → Nat → zk_S → zm_D → Nat → Prop} {L : zN} {st : List zv_V} : zJ S D 245 6 L st n sh d u Q ↔ zB S D 245 zb_245_6 L st n sh d u Q := by unfold zJ; rw [zc_245_6]
theorem zc_245_7 : zcd 245 7 = zb_245_7 := by decide +kernel
theorem zj_245_7 {S : zSs} {D n u : Nat} {sh : zk_S} {d : zm_D} {Q : ((Option zv_V) ⊕ Nat) → Nat → zk_S → zm_D → Nat → Prop} {L : zN} {st : List zv_V} : zJ S D 245 7 L st n sh d u Q ↔ zB S D 245 zb_245_7 L st n sh d u Q := by unfold zJ; rw [zc_245_7]
theorem zc_245_8 : zcd 245 8 = zb_245_8 := by decide +kernel
theorem zj_245_8 {S : zSs} {D n u : Nat} {sh : zk_S} {d : zm_D} {Q : ((Option zv_V) ⊕ Nat) → Nat → zk_S → zm_D → Nat → Prop} {L : zN} {st : List zv_V} : zJ S D 245 8 L st n sh d u Q ↔ zB S D 245 zb_245_8 L st n sh d u Q := by unfold zJ; rw [zc_245_8]
theorem zc_245_9 : zcd 245 9 = zb_245_9 := by decide +kernel
theorem zj_245_9 {S : zSs} {D n u : Nat} {sh : zk_S} {d : zm_D} {Q : ((Option zv_V) ⊕ Nat) → Nat → zk_S → zm_D → Nat → Prop} {L : zN} {st : List zv_V} : zJ S D 245 9 L st n sh d u Q ↔ zB S D 245 zb_245_9 L st n sh d u Q := by unfold zJ; rw [zc_245_9]
theorem zc_245_10 : zcd 245 10 = zb_245_10 := by decide +kernel
theorem zj_245_10 {S : zSs} {D n u : Nat} {sh : zk_S} {d : zm_D} {Q : ((Option zv_V) ⊕ Nat) → Nat → zk_S → zm_D → Nat → Prop} {L : zN} {st : List zv_V} : zJ S D 245 10 L st n sh d u Q ↔ zB S D 245 zb_245_10 L st n sh d u Q := by unfold zJ; rw [zc_245_10]
theorem zc_245_11 : zcd 245 11 = zb_245_11 := by decide +kernel
theorem zj_245_11 {S : zSs} {D n u : Nat} {sh : zk_S} {d : zm_D} {Q : ((Option zv_V) ⊕ Nat) → Nat → zk_S → zm_D → Nat → Prop} {L : zN} {st : List zv_V} : zJ S D 245 11 L st n sh d u Q ↔ zB S D 245 zb_245_11 L st n sh d u Q := by unfold zJ; rw [zc_245_11]
theorem zc_245_12 : zcd 245 12 = zb_245_12 := by decide +kernel
theorem zj_245_12 {S : zSs} {D n u : Nat} {sh : zk_S} {d : zm_D} {Q : ((Option zv_V) ⊕ Nat) → Nat → zk_S → zm_D → Nat → Prop} {L : zN} {st : List zv_V} : zJ S D 245 12 L st n sh d u Q ↔ zB S D 245 zb_245_12 L st n sh d u Q := by unfold zJ; rw [zc_245_12]
theorem zc_245_13 : zcd 245 13 = zb_245_13 := by decide +kernel
theorem zj_245_13 {S : zSs} {D n u : Nat} {sh : zk_S} {d : zm_D} {Q : ((Option zv_V) ⊕ Nat) → Nat → zk_S → zm_D → Nat → Prop} {L : zN} {st : List zv_V} : zJ S D 245 13 L st n sh d u Q ↔ zB S D 245 zb_245_13 L st n sh d u Q := by unfold zJ; rw [zc_245_13]
theorem zc_245_14 : zcd 245 14 = zb_245_14 := by decide +kernel
theorem zj_245_14 {S : zSs} {D n u : Nat} {sh : zk_S} {d : zm_D} {Q : ((Option zv_V) ⊕ Nat) → Nat → zk_S → zm_D → Nat → Prop} {L : zN} {st : List zv_V} : zJ S D 245 14 L st n sh d u Q ↔ zB S D 245 zb_245_14 L st n sh d u Q := by unfold zJ; rw [zc_245_14]
theorem zc_245_15 : zcd 245 15 = zb_245_15 := by decide +kernel
theorem zj_245_15 {S : zSs} {D n u : Nat} {sh : zk_S} {d : zm_D} {Q : ((Option zv_V) ⊕ Nat) → Nat → zk_S → zm_D → Nat → Prop} {L : zN} {st : List zv_V} : zJ S D 245 15 L st n sh d u Q ↔ zB S D 245 zb_245_15 L st n sh d u Q := by unfold zJ; rw [zc_245_15]
theorem zc_245_16 : zcd 245 16 = zb_245_16 := by decide +kernel
theorem zj_245_16 {S : zSs} {D n u : Nat} {sh : zk_S} {d : zm_D} {Q : ((Option zv_V) ⊕ Nat) → Nat → zk_S → zm_D → Nat → Prop} {L : zN} {st : List zv_V} : zJ S D 245 16 L st n sh d u Q ↔ zB S D 245 zb_245_16 L st n sh d u Q := by unfold zJ; rw [zc_245_16]
theorem zc_245_17 : zcd 245 17 = zb_245_17 := by decide +kernel
theorem zj_245_17 {S : zSs} {D n u : Nat} {sh : zk_S} {d : zm_D} {Q : ((Option zv_V) ⊕ Nat) → Nat → zk_S → zm_D → Nat → Prop} {L : zN} {st : List zv_V} : zJ S D 245 17 L st n sh d u Q ↔ zB S D 245 zb_245_17 L st n sh d u Q := by unfold zJ; rw [zc_245_17]
theorem zc_245_18 : zcd 245 18 = zb_245_18 := by decide +kernel
theorem zj_245_18 {S : zSs} {D n u : Nat} {sh : zk_S} {d : zm_D} {Q : ((Option zv_V) ⊕ Nat) → Nat → zk_S → zm_D → Nat → Prop} {L : zN} {st : List zv_V} : zJ S D 245 18 L st n sh d u Q ↔ zB S D 245 zb_245_18 L st n sh d u Q := by unfold zJ; rw [zc_245_18]
theorem zc_245_19 : zcd 245 19 = zb_245_19 := by decide +kernel
theorem zj_245_19 {S : zSs} {D n u : Nat} {sh : zk_S} {d : zm_D} {Q : ((Option zv_V) ⊕ Nat) → Nat → zk_S → zm_D → Nat → Prop} {L : zN} {st : List zv_V} : zJ S D 245 19 L st n sh d u Q ↔ zB S D 245 zb_245_19 L st n sh d u Q := by unfold zJ; rw [zc_245_19]
theorem zc_245_20 : zcd 245 20 = zb_245_20 := by decide +kernel
theorem zj_245_20 {S : zSs} {D n u : Nat} {sh : zk_S} {d : zm_D} {Q : ((Option zv_V) ⊕ Nat) → Nat → zk_S → zm_D → Nat → Prop} {L : zN} {st : List zv_V} : zJ S D 245 20 L st n sh d u Q ↔ zB S D 245 zb_245_20 L st n sh d u Q := by unfold zJ; rw [zc_245_20]
theorem zc_245_21 : zcd 245 21 = zb_245_21 := by decide +kernel
theorem zj_245_21 {S : zSs} {D n u : Nat} {sh : zk_S} {d : zm_D} {Q : ((Option zv_V) ⊕ Nat) → Nat → zk_S → zm_D → Nat → Prop} {L : zN} {st : List zv_V} : zJ S D 245 21 L st n sh d u Q ↔ zB S D 245 zb_245_21 L st n sh d u Q := by unfold zJ; rw [zc_245_21]
theorem zc_245_22 : zcd 245 22 = zb_245_22 := by decide +kernel
theorem zj_245_22 {S : zSs} {D n u : Nat} {sh : zk_S} {d : zm_D} {Q : ((Option zv_V) ⊕ Nat) → Nat → zk_S → zm_D → Nat → Prop} {L : zN} {st : List zv_V} : zJ S D 245 22 L st n sh d u Q ↔ zB S D 245 zb_245_22 L st n sh d u Q := by unfold zJ; rw [zc_245_22]
theorem zn_245 : znl 245 = 4 := by decide +kernel
theorem ze_245 {S : zSs} {D n u : Nat} {sh : zk_S} {d : zm_D} {Q : ((Option zv_V) ⊕ Nat) → Nat → zk_S → zm_D → Nat → Prop} {x0 : Int} : zE S D 245 [zv_a x0] n sh d u Q ↔ zB S D 245 zb_245_0 [some (zv_a x0), none, none, none] [] n sh d u Q := by
  unfold zE; rw [zn_245, zc_245_0]; exact ⟨fun h => h.2, fun h => ⟨Nat.le_of_ble_eq_true rfl, h⟩⟩
theorem ze_245s {S : zSs} {D n u : Nat} {sh : zk_S} {d : zm_D} {Q : ((Option zv_V) ⊕ Nat) → Nat → zk_S → zm_D → Nat → Prop} : zE S D 245 [] n sh d u Q ↔ zB S D 245 zb_245_0 [none, none, none, none] [] n sh d u Q := by
  unfold zE; rw [zn_245, zc_245_0]; exact ⟨fun h => h.2, fun h => ⟨Nat.le_of_ble_eq_true rfl, h⟩⟩
theorem zh_245 : zhl 245 = [] := by decide +kernel
theorem zc_246_0 : zcd 246 0 = zb_246_0 := by decide +kernel
theorem zj_246_0 {S : zSs} {D n u : Nat} {sh : zk_S} {d : zm_D} {Q : ((Option zv_V) ⊕ Nat) → Nat → zk_S → zm_D → Nat → Prop} {L : zN} {st : List zv_V} : zJ S D 246 0 L st n sh d u Q ↔ zB S D 246 zb_246_0 L st n sh d u Q := by unfold zJ; rw [zc_246_0]
theorem zc_246_1 : zcd 246 1 = zb_246_1 := by decide +kernel
theorem zj_246_1 {S : zSs} {D n u : Nat} {sh : zk_S} {d : zm_D} {Q : ((Option zv_V) ⊕ Nat) → Nat → zk_S → zm_D → Nat → Prop} {L : zN} {st : List zv_V} : zJ S D 246 1 L st n sh d u Q ↔ zB S D 246 zb_246_1 L st n sh d u Q := by unfold zJ; rw [zc_246_1]
theorem zc_246_2 : zcd 246 2 = zb_246_2 := by decide +kernel
theorem zj_246_2 {S : zSs} {D n u : Nat} {sh : zk_S} {d : zm_D} {Q : ((Option zv_V) ⊕ Nat) → Nat → zk_S → zm_D → Nat → Prop} {L : zN} {st : List zv_V} : zJ S D 246 2 L st n sh d u Q ↔ zB S D 246 zb_246_2 L st n sh d u Q := by unfold zJ; rw [zc_246_2]
theorem zc_246_3 : zcd 246 3 = zb_246_3 := by decide +kernel
theorem zj_246_3 {S : zSs} {D n u : Nat} {sh : zk_S} {d : zm_D} {Q : ((Option zv_V) ⊕ Nat) → Nat → zk_S → zm_D → Nat → Prop} {L : zN} {st : List zv_V} : zJ S D 246 3 L st n sh d u Q ↔ zB S D 246 zb_246_3 L st n sh d u Q := by unfold zJ; rw [zc_246_3]
theorem zc_246_4 : zcd 246 4 = zb_246_4 := by decide +kernel
theorem zj_246_4 {S : zSs} {D n u : Nat} {sh : zk_S} {d : zm_D} {Q : ((Option zv_V) ⊕ Nat) → Nat → zk_S → zm_D → Nat → Prop} {L : zN} {st : List zv_V} : zJ S D 246 4 L st n sh d u Q ↔ zB S D 246 zb_246_4 L st n sh d u Q := by unfold zJ; rw [zc_246_4]
theorem zc_246_5 : zcd 246 5 = zb_246_5 := by decide +kernel
theorem zj_246_5 {S : zSs} {D n u : Nat} {sh : zk_S} {d : zm_D} {Q : ((Option zv_V) ⊕ Nat) → Nat → zk_S → zm_D → Nat → Prop} {L : zN} {st : List zv_V} : zJ S D 246 5 L st n sh d u Q ↔ zB S D 246 zb_246_5 L st n sh d u Q := by unfold zJ; rw [zc_246_5]
theorem zn_246 : znl 246 = 3 := by decide +kernel
theorem ze_246 {S : zSs} {D n u : Nat} {sh : zk_S} {d : zm_D} {Q : ((Option zv_V) ⊕ Nat) → Nat → zk_S → zm_D → Nat → Prop} {x0 : Int} : zE S D 246 [zv_a x0] n sh d u Q ↔ zB S D 246 zb_246_0 [some (zv_a x0), none, none] [] n sh d u Q := by
  unfold zE; rw [zn_246, zc_246_0]; exact ⟨fun h => h.2, fun h => ⟨Nat.le_of_ble_eq_true rfl, h⟩⟩
theorem ze_246s {S : zSs} {D n u : Nat} {sh : zk_S} {d : zm_D} {Q : ((Option zv_V) ⊕ Nat) → Nat → zk_S → zm_D → Nat → Prop} : zE S D 246 [] n sh d u Q ↔ zB S D 246 zb_246_0 [none, none, none] [] n sh d u Q := by
  unfold zE; rw [zn_246, zc_246_0]; exact ⟨fun h => h.2, fun h => ⟨Nat.le_of_ble_eq_true rfl, h⟩⟩
theorem zh_246 : zhl 246 = [] := by decide +kernel
theorem zc_247_0 : zcd 247 0 = zb_247_0 := by decide +kernel
theorem zj_247_0 {S : zSs} {D n u : Nat} {sh : zk_S} {d : zm_D} {Q : ((Option zv_V) ⊕ Nat) → Nat → zk_S → zm_D → Nat → Prop} {L : zN} {st : List zv_V} : zJ S D 247 0 L st n sh d u Q ↔ zB S D 247 zb_247_0 L st n sh d u Q := by unfold zJ; rw [zc_247_0]
theorem zn_247 : znl 247 = 3 := by decide +kernel
theorem ze_247 {S : zSs} {D n u : Nat} {sh : zk_S} {d : zm_D} {Q : ((Option zv_V) ⊕ Nat) → Nat → zk_S → zm_D → Nat → Prop} {x0 : Int} {x1 : Int} {x2 : Int} : zE S D 247 [zv_a x0, zv_i x1, zv_i x2] n sh d u Q ↔ zB S D 247 zb_247_0 [some (zv_a x0), some (zv_i x1), some (zv_i x2)] [] n sh d u Q := by
  unfold zE; rw [zn_247, zc_247_0]; exact ⟨fun h => h.2, fun h => ⟨Nat.le_of_ble_eq_true rfl, h⟩⟩
theorem ze_247s {S : zSs} {D n u : Nat} {sh : zk_S} {d : zm_D} {Q : ((Option zv_V) ⊕ Nat) → Nat → zk_S → zm_D → Nat → Prop} {x0 : Int} {x1 : Int} : zE S D 247 [zv_i x0, zv_i x1] n sh d u Q ↔ zB S D 247 zb_247_0 [some (zv_i x0), some (zv_i x1), none] [] n sh d u Q := by
  unfold zE; rw [zn_247, zc_247_0]; exact ⟨fun h => h.2, fun h => ⟨Nat.le_of_ble_eq_true rfl, h⟩⟩
theorem zh_247 : zhl 247 = [] := by decide +kernel
theorem zc_248_0 : zcd 248 0 = zb_248_0 := by decide +kernel
theorem zj_248_0 {S : zSs} {D n u : Nat} {sh : zk_S} {d : zm_D} {Q : ((Option zv_V) ⊕ Nat) → Nat → zk_S → zm_D → Nat → Prop} {L : zN} {st : List zv_V} : zJ S D 248 0 L st n sh d u Q ↔ zB S D 248 zb_248_0 L st n sh d u Q := by unfold zJ; rw [zc_248_0]
theorem zn_248 : znl 248 = 5 := by decide +kernel
theorem ze_248 {S : zSs} {D n u : Nat} {sh : zk_S} {d : zm_D} {Q : ((Option zv_V) ⊕ Nat) → Nat → zk_S → zm_D → Nat → Prop} {x0 : Int} {x1 : Int} {x2 : Int} {x3 : Int} : zE S D 248 [zv_a x0, zv_i x1, zv_i x2, zv_i x3] n sh d u Q ↔ zB S D 248 zb_248_0 [some (zv_a x0), some (zv_i x1), some (zv_i x2), some (zv_i x3), none] [] n sh d u Q := by
  unfold zE; rw [zn_248, zc_248_0]; exact ⟨fun h => h.2, fun h => ⟨Nat.le_of_ble_eq_true rfl, h⟩⟩
theorem ze_248s {S : zSs} {D n u : Nat} {sh : zk_S} {d : zm_D} {Q : ((Option zv_V) ⊕ Nat) → Nat → zk_S → zm_D → Nat → Prop} {x0 : Int} {x1 : Int} {x2 : Int} : zE S D 248 [zv_i x0, zv_i x1, zv_i x2] n sh d u Q ↔ zB S D 248 zb_248_0 [some (zv_i x0), some (zv_i x1), some (zv_i x2), none, none] [] n sh d u Q := by
  unfold zE; rw [zn_248, zc_248_0]; exact ⟨fun h => h.2, fun h => ⟨Nat.le_of_ble_eq_true rfl, h⟩⟩
theorem zh_248 : zhl 248 = [] := by decide +kernel
theorem zc_249_0 : zcd 249 0 = zb_249_0 := by decide +kernel
theorem zj_249_0 {S : zSs} {D n u : Nat} {sh : zk_S} {d : zm_D} {Q : ((Option zv_V) ⊕ Nat) → Nat → zk_S → zm_D → Nat → Prop} {L : zN} {st : List zv_V} : zJ S D 249 0 L st n sh d u Q ↔ zB S D 249 zb_249_0 L st n sh d u Q := by unfold zJ; rw [zc_249_0]
theorem zc_249_1 : zcd 249 1 = zb_249_1 := by decide +kernel
theorem zj_249_1 {S : zSs} {D n u : Nat} {sh : zk_S} {d : zm_D} {Q : ((Option zv_V) ⊕ Nat) → Nat → zk_S → zm_D → Nat → Prop} {L : zN} {st : List zv_V} : zJ S D 249 1 L st n sh d u Q ↔ zB S D 249 zb_249_1 L st n sh d u Q := by unfold zJ; rw [zc_249_1]
theorem zc_249_2 : zcd 249 2 = zb_249_2 := by decide +kernel
theorem zj_249_2 {S : zSs} {D n u : Nat} {sh : zk_S} {d : zm_D} {Q : ((Option zv_V) ⊕ Nat) → Nat → zk_S → zm_D → Nat → Prop} {L : zN} {st : List zv_V} : zJ S D 249 2 L st n sh d u Q ↔ zB S D 249 zb_249_2 L st n sh d u Q := by unfold zJ; rw [zc_249_2]
theorem zc_249_3 : zcd 249 3 = zb_249_3 := by decide +kernel
theorem zj_249_3 {S : zSs} {D n u : Nat} {sh : zk_S} {d : zm_D} {Q : ((Option zv_V) ⊕ Nat) → Nat → zk_S → zm_D → Nat → Prop} {L : zN} {st : List zv_V} : zJ S D 249 3 L st n sh d u Q ↔ zB S D 249 zb_249_3 L st n sh d u Q := by unfold zJ; rw [zc_249_3]
theorem zc_249_4 : zcd 249 4 = zb_249_4 := by decide +kernel
theorem zj_249_4 {S : zSs} {D n u : Nat} {sh : zk_S} {d : zm_D} {Q : ((Option zv_V) ⊕ Nat) → Nat → zk_S → zm_D → Nat → Prop} {L : zN} {st : List zv_V} : zJ S D 249 4 L st n sh d u Q ↔ zB S D 249 zb_249_4 L st n sh d u Q := by unfold zJ; rw [zc_249_4]
theorem zc_249_5 : zcd 249 5 = zb_249_5 := by decide +kernel
theorem zj_249_5 {S : zSs} {D n u : Nat} {sh : zk_S} {d : zm_D} {Q : ((Option zv_V) ⊕ Nat) → Nat → zk_S → zm_D → Nat → Prop} {L : zN} {st : List zv_V} : zJ S D 249 5 L st n sh d u Q ↔ zB S D 249 zb_249_5 L st n sh d u Q := by unfold zJ; rw [zc_249_5]
theorem zc_249_6 : zcd 249 6 = zb_249_6 := by decide +kernel
theorem zj_249_6 {S : zSs} {D n u : Nat} {sh : zk_S} {d : zm_D} {Q : ((Option zv_V) ⊕ Nat) → Nat → zk_S → zm_D → Nat → Prop} {L : zN} {st : List zv_V} : zJ S D 249 6 L st n sh d u Q ↔ zB S D 249 zb_249_6 L st n sh d u Q := by unfold zJ; rw [zc_249_6]
theorem zc_249_7 : zcd 249 7 = zb_249_7 := by decide +kernel
theorem zj_249_7 {S : zSs} {D n u : Nat} {sh : zk_S} {d : zm_D} {Q : ((Option zv_V) ⊕ Nat) → Nat → zk_S → zm_D → Nat → Prop} {L : zN} {st : List zv_V} : zJ S D 249 7 L st n sh d u Q ↔ zB S D 249 zb_249_7 L st n sh d u Q := by unfold zJ; rw [zc_249_7]
theorem zn_249 : znl 249 = 4 := by decide +kernel
theorem ze_249 {S : zSs} {D n u : Nat} {sh : zk_S} {d : zm_D} {Q : ((Option zv_V) ⊕ Nat) → Nat → zk_S → zm_D → Nat → Prop} {x0 : Int} : zE S D 249 [zv_a x0] n sh d u Q ↔ zB S D 249 zb_249_0 [some (zv_a x0), none, none, none] [] n sh d u Q := by
  unfold zE; rw [zn_249, zc_249_0]; exact ⟨fun h => h.2, fun h => ⟨Nat.le_of_ble_eq_true rfl, h⟩⟩
theorem ze_249s {S : zSs} {D n u : Nat} {sh : zk_S} {d : zm_D} {Q : ((Option zv_V) ⊕ Nat) → Nat → zk_S → zm_D → Nat → Prop} : zE S D 249 [] n sh d u Q ↔ zB S D 249 zb_249_0 [none, none, none, none] [] n sh d u Q := by
  unfold zE; rw [zn_249, zc_249_0]; exact ⟨fun h => h.2, fun h => ⟨Nat.le_of_ble_eq_true rfl, h⟩⟩
theorem zh_249 : zhl 249 = [] := by decide +kernel
theorem zc_250_0 : zcd 250 0 = zb_250_0 := by decide +kernel
theorem zj_250_0 {S : zSs} {D n u : Nat} {sh : zk_S} {d : zm_D} {Q : ((Option zv_V) ⊕ Nat) → Nat → zk_S → zm_D → Nat → Prop} {L : zN} {st : List zv_V} : zJ S D 250 0 L st n sh d u Q ↔ zB S D 250 zb_250_0 L st n sh d u Q := by unfold zJ; rw [zc_250_0]
theorem zc_250_1 : zcd 250 1 = zb_250_1 := by decide +kernel
theorem zj_250_1 {S : zSs} {D n u : Nat} {sh : zk_S} {d : zm_D} {Q : ((Option zv_V) ⊕ Nat) → Nat → zk_S → zm_D → Nat → Prop} {L : zN} {st : List zv_V} : zJ S D 250 1 L st n sh d u Q ↔ zB S D 250 zb_250_1 L st n sh d u Q := by unfold zJ; rw [zc_250_1]
theorem zc_250_2 : zcd 250 2 = zb_250_2 := by decide +kernel
theorem zj_250_2 {S : zSs} {D n u : Nat} {sh : zk_S} {d : zm_D} {Q : ((Option zv_V) ⊕ Nat) → Nat → zk_S → zm_D → Nat → Prop} {L : zN} {st : List zv_V} : zJ S D 250 2 L st n sh d u Q ↔ zB S D 250 zb_250_2 L st n sh d u Q := by unfold zJ; rw [zc_250_2]
theorem zc_250_3 : zcd 250 3 = zb_250_3 := by decide +kernel
theorem zj_250_3 {S : zSs} {D n u : Nat} {sh : zk_S} {d : zm_D} {Q : ((Option zv_V) ⊕ Nat) → Nat → zk_S → zm_D → Nat → Prop} {L : zN} {st : List zv_V} : zJ S D 250 3 L st n sh d u Q ↔ zB S D 250 zb_250_3 L st n sh d u Q := by unfold zJ; rw [zc_250_3]
theorem zn_250 : znl 250 = 3 := by decide +kernel
theorem ze_250 {S : zSs} {D n u : Nat} {sh : zk_S} {d : zm_D} {Q : ((Option zv_V) ⊕ Nat) → Nat → zk_S → zm_D → Nat → Prop} {x0 : Int} {x1 : Int} {x2 : Int} : zE S D 250 [zv_a x0, zv_i x1, zv_i x2] n sh d u Q ↔ zB S D 250 zb_250_0 [some (zv_a x0), some (zv_i x1), some (zv_i x2)] [] n sh d u Q := by
  unfold zE; rw [zn_250, zc_250_0]; exact ⟨fun h => h.2, fun h => ⟨Nat.le_of_ble_eq_true rfl, h⟩⟩
theorem ze_250s {S : zSs} {D n u : Nat} {sh : zk_S} {d : zm_D} {Q : ((Option zv_V) ⊕ Nat) → Nat → zk_S → zm_D → Nat → Prop} {x0 : Int} {x1 : Int} : zE S D 250 [zv_i x0, zv_i x1] n sh d u Q ↔ zB S D 250 zb_250_0 [some (zv_i x0), some (zv_i x1), none] [] n sh d u Q := by
  unfold zE; rw [zn_250, zc_250_0]; exact ⟨fun h => h.2, fun h => ⟨Nat.le_of_ble_eq_true rfl, h⟩⟩
theorem zh_250 : zhl 250 = [] := by decide +kernel
theorem zc_251_0 : zcd 251 0 = zb_251_0 := by decide +kernel
theorem zj_251_0 {S : zSs} {D n u : Nat} {sh : zk_S} {d : zm_D} {Q : ((Option zv_V) ⊕ Nat) → Nat → zk_S → zm_D → Nat → Prop} {L : zN} {st : List zv_V} : zJ S D 251 0 L st n sh d u Q ↔ zB S D 251 zb_251_0 L st n sh d u Q := by unfold zJ; rw [zc_251_0]
theorem zc_251_1 : zcd 251 1 = zb_251_1 := by decide +kernel
theorem zj_251_1 {S : zSs} {D n u : Nat} {sh : zk_S} {d : zm_D} {Q : ((Option zv_V) ⊕ Nat) → Nat → zk_S → zm_D → Nat → Prop} {L : zN} {st : List zv_V} : zJ S D 251 1 L st n sh d u Q ↔ zB S D 251 zb_251_1 L st n sh d u Q := by unfold zJ; rw [zc_251_1]
theorem zc_251_2 : zcd 251 2 = zb_251_2 := by decide +kernel
theorem zj_251_2 {S : zSs} {D n u : Nat} {sh : zk_S} {d : zm_D} {Q : ((Option zv_V) ⊕ Nat) → Nat → zk_S → zm_D → Nat → Prop} {L : zN} {st : List zv_V} : zJ S D 251 2 L st n sh d u Q ↔ zB S D 251 zb_251_2 L st n sh d u Q := by unfold zJ; rw [zc_251_2]
theorem zc_251_3 : zcd 251 3 = zb_251_3 := by decide +kernel
theorem zj_251_3 {S : zSs} {D n u : Nat} {sh : zk_S} {d : zm_D} {Q : ((Option zv_V) ⊕ Nat) → Nat → zk_S → zm_D → Nat → Prop} {L : zN} {st : List zv_V} : zJ S D 251 3 L st n sh d u Q ↔ zB S D 251 zb_251_3 L st n sh d u Q := by unfold zJ; rw [zc_251_3]
theorem zc_251_4 : zcd 251 4 = zb_251_4 := by decide +kernel
theorem zj_251_4 {S : zSs} {D n u : Nat} {sh : zk_S} {d : zm_D} {Q : ((Option zv_V) ⊕ Nat) → Nat → zk_S → zm_D → Nat → Prop} {L : zN} {st : List zv_V} : zJ S D 251 4 L st n sh d u Q ↔ zB S D 251 zb_251_4 L st n sh d u Q := by unfold zJ; rw [zc_251_4]
theorem zc_251_5 : zcd 251 5 = zb_251_5 := by decide +kernel
theorem zj_251_5 {S : zSs} {D n u : Nat} {sh : zk_S} {d : zm_D} {Q : ((Option zv_V) ⊕ Nat) → Nat → zk_S → zm_D → Nat → Prop} {L : zN} {st : List zv_V} : zJ S D 251 5 L st n sh d u Q ↔ zB S D 251 zb_251_5 L st n sh d u Q := by unfold zJ; rw [zc_251_5]
theorem zc_251_6 : zcd 251 6 = zb_251_6 := by decide +kernel
theorem zj_251_6 {S : zSs} {D n u : Nat} {sh : zk_S} {d : zm_D} {Q : ((Option zv_V) ⊕ Nat) → Nat → zk_S → zm_D → Nat → Prop} {L : zN} {st : List zv_V} : zJ S D 251 6 L st n sh d u Q ↔ zB S D 251 zb_251_6 L st n sh d u Q := by unfold zJ; rw [zc_251_6]
theorem zn_251 : znl 251 = 5 := by decide +kernel
theorem ze_251 {S : zSs} {D n u : Nat} {sh : zk_S} {d : zm_D} {Q : ((Option zv_V) ⊕ Nat) → Nat → zk_S → zm_D → Nat → Prop} {x0 : Int} {x1 : Int} : zE S D 251 [zv_a x0, zv_i x1] n sh d u Q ↔ zB S D 251 zb_251_0 [some (zv_a x0), some (zv_i x1), none, none, none] [] n sh d u Q := by
  unfold zE; rw [zn_251, zc_251_0]; exact ⟨fun h => h.2, fun h => ⟨Nat.le_of_ble_eq_true rfl, h⟩⟩
theorem ze_251s {S : zSs} {D n u : Nat} {sh : zk_S} {d : zm_D} {Q : ((Option zv_V) ⊕ Nat) → Nat → zk_S → zm_D → Nat → Prop} {x0 : Int} : zE S D 251 [zv_i x0] n sh d u Q ↔ zB S D 251 zb_251_0 [some (zv_i x0), none, none, none, none] [] n sh d u Q := by
  unfold zE; rw [zn_251, zc_251_0]; exact ⟨fun h => h.2, fun h => ⟨Nat.le_of_ble_eq_true rfl, h⟩⟩
theorem zh_251 : zhl 251 = [] := by decide +kernel
theorem zc_252_0 : zcd 252 0 = zb_252_0 := by decide +kernel
theorem zj_252_0 {S : zSs} {D n u : Nat} {sh : zk_S} {d : zm_D} {Q : ((Option zv_V) ⊕ Nat) → Nat → zk_S → zm_D → Nat → Prop} {L : zN} {st : List zv_V} : zJ S D 252 0 L st n sh d u Q ↔ zB S D 252 zb_252_0 L st n sh d u Q := by unfold zJ; rw [zc_252_0]
theorem zc_252_1 : zcd 252 1 = zb_252_1 := by decide +kernel
theorem zj_252_1 {S : zSs} {D n u : Nat} {sh : zk_S} {d : zm_D} {Q : ((Option zv_V) ⊕ Nat) → Nat → zk_S → zm_D → Nat → Prop} {L : zN} {st : List zv_V} : zJ S D 252 1 L st n sh d u Q ↔ zB S D 252 zb_252_1 L st n sh d u Q := by unfold zJ; rw [zc_252_1]
theorem zc_252_2 : zcd 252 2 = zb_252_2 := by decide +kernel
theorem zj_252_2 {S : zSs} {D n u : Nat} {sh : zk_S} {d : zm_D} {Q : ((Option zv_V) ⊕ Nat) → Nat → zk_S → zm_D → Nat → Prop} {L : zN} {st : List zv_V} : zJ S D 252 2 L st n sh d u Q ↔ zB S D 252 zb_252_2 L st n sh d u Q := by unfold zJ; rw [zc_252_2]
theorem zc_252_3 : zcd 252 3 = zb_252_3 := by decide +kernel
theorem zj_252_3 {S : zSs} {D n u : Nat} {sh : zk_S} {d : zm_D} {Q : ((Option zv_V) ⊕ Nat) → Nat → zk_S → zm_D → Nat → Prop} {L : zN} {st : List zv_V} : zJ S D 252 3 L st n sh d u Q ↔ zB S D 252 zb_252_3 L st n sh d u Q := by unfold zJ; rw [zc_252_3]
theorem zc_252_4 : zcd 252 4 = zb_252_4 := by decide +kernel
theorem zj_252_4 {S : zSs} {D n u : Nat} {sh : zk_S} {d : zm_D} {Q : ((Option zv_V) ⊕ Nat) → Nat → zk_S → zm_D → Nat → Prop} {L : zN} {st : List zv_V} : zJ S D 252 4 L st n sh d u Q ↔ zB S D 252 zb_252_4 L st n sh d u Q := by unfold zJ; rw [zc_252_4]
theorem zc_252_5 : zcd 252 5 = zb_252_5 := by decide +kernel
theorem zj_252_5 {S : zSs} {D n u : Nat} {sh : zk_S} {d : zm_D} {Q : ((Option zv_V) ⊕ Nat) → Nat → zk_S → zm_D → Nat → Prop} {L : zN} {st : List zv_V} : zJ S D 252 5 L st n sh d u Q ↔ zB S D 252 zb_252_5 L st n sh d u Q := by unfold zJ; rw [zc_252_5]
theorem zc_252_6 : zcd 252 6 = zb_252_6 := by decide +kernel
theorem zj_252_6 {S : zSs} {D n u : Nat} {sh : zk_S} {d : zm_D} {Q : ((Option zv_V) ⊕ Nat) → Nat → zk_S → zm_D → Nat → Prop} {L : zN} {st : List zv_V} : zJ S D 252 6 L st n sh d u Q ↔ zB S D 252 zb_252_6 L st n sh d u Q := by unfold zJ; rw [zc_252_6]
theorem zc_252_7 : zcd 252 7 = zb_252_7 := by decide +kernel
theorem zj_252_7 {S : zSs} {D n u : Nat} {sh : zk_S} {d : zm_D} {Q : ((Option zv_V) ⊕ Nat) → Nat → zk_S → zm_D → Nat → Prop} {L : zN} {st : List zv_V} : zJ S D 252 7 L st n sh d u Q ↔ zB S D 252 zb_252_7 L st n sh d u Q := by unfold zJ; rw [zc_252_7]
theorem zc_252_8 : zcd 252 8 = zb_252_8 := by decide +kernel
theorem zj_252_8 {S : zSs} {D n u : Nat} {sh : zk_S} {d : zm_D} {Q : ((Option zv_V) ⊕ Nat) → Nat → zk_S → zm_D → Nat → Prop} {L : zN} {st : List zv_V} : zJ S D 252 8 L st n sh d u Q ↔ zB S D 252 zb_252_8 L st n sh d u Q := by unfold zJ; rw [zc_252_8]
theorem zc_252_9 : zcd 252 9 = zb_252_9 := by decide +kernel
theorem zj_252_9 {S : zSs} {D n u : Nat} {sh : zk_S} {d : zm_D} {Q : ((Option zv_V) ⊕ Nat) → Nat → zk_S → zm_D → Nat → Prop} {L : zN} {st : List zv_V} : zJ S D 252 9 L st n sh d u Q ↔ zB S D 252 zb_252_9 L st n sh d u Q := by unfold zJ; rw [zc_252_9]
theorem zc_252_10 : zcd 252 10 = zb_252_10 := by decide +kernel
theorem zj_252_10 {S : zSs} {D n u : Nat} {sh : zk_S} {d : zm_D} {Q : ((Option zv_V) ⊕ Nat) → Nat → zk_S → zm_D → Nat → Prop} {L : zN} {st : List zv_V} : zJ S D 252 10 L st n sh d u Q ↔ zB S D 252 zb_252_10 L st n sh d u Q := by unfold zJ; rw [zc_252_10]
theorem zc_252_11 : zcd 252 11 = zb_252_11 := by decide +kernel
theorem zj_252_11 {S : zSs} {D n u : Nat} {sh : zk_S} {d : zm_D} {Q : ((Option zv_V) ⊕ Nat) → Nat → zk_S → zm_D → Nat → Prop} {L : zN} {st : List zv_V} : zJ S D 252 11 L st n sh d u Q ↔ zB S D 252 zb_252_11 L st n sh d u Q := by unfold zJ; rw [zc_252_11]
theorem zn_252 : znl 252 = 8 := by decide +kernel
theorem ze_252 {S : zSs} {D n u : Nat} {sh : zk_S} {d : zm_D} {Q : ((Option zv_V) ⊕ Nat) → Nat → zk_S → zm_D → Nat → Prop} {x0 : Int} {x1 : Int} {x2 : Int} {x3 : Int} {x4 : Int} : zE S D 252 [zv_a x0, zv_i x1, zv_i x2, zv_i x3, zv_i x4] n sh d u Q ↔ zB S D 252 zb_252_0 [some (zv_a x0), some (zv_i x1), some (zv_i x2), some (zv_i x3), some (zv_i x4), none, none, none] [] n sh d u Q := by
  unfold zE; rw [zn_252, zc_252_0]; exact ⟨fun h => h.2, fun h => ⟨Nat.le_of_ble_eq_true rfl, h⟩⟩
theorem ze_252s {S : zSs} {D n u : Nat} {sh : zk_S} {d : zm_D} {Q : ((Option zv_V) ⊕ Nat) → Nat → zk_S → zm_D → Nat → Prop} {x0 : Int} {x1 : Int} {x2 : Int} {x3 : Int} : zE S D 252 [zv_i x0, zv_i x1, zv_i x2, zv_i x3] n sh d u Q ↔ zB S D 252 zb_252_0 [some (zv_i x0), some (zv_i x1), some (zv_i x2), some (zv_i x3), none, none, none, none] [] n sh d u Q := by
  unfold zE; rw [zn_252, zc_252_0]; exact ⟨fun h => h.2, fun h => ⟨Nat.le_of_ble_eq_true rfl, h⟩⟩
theorem zh_252 : zhl 252 = [] := by decide +kernel
theorem zc_253_0 : zcd 253 0 = zb_253_0 := by decide +kernel
theorem zj_253_0 {S : zSs} {D n u : Nat} {sh : zk_S} {d : zm_D} {Q : ((Option zv_V) ⊕ Nat) → Nat → zk_S → zm_D → Nat → Prop} {L : zN} {st : List zv_V} : zJ S D 253 0 L st n sh d u Q ↔ zB S D 253 zb_253_0 L st n sh d u Q := by unfold zJ; rw [zc_253_0]
theorem zc_253_1 : zcd 253 1 = zb_253_1 := by decide +kernel
theorem zj_253_1 {S : zSs} {D n u : Nat} {sh : zk_S} {d : zm_D} {Q : ((Option zv_V) ⊕ Nat) → Nat → zk_S → zm_D → Nat → Prop} {L : zN} {st : List zv_V} : zJ S D 253 1 L st n sh d u Q ↔ zB S D 253 zb_253_1 L st n sh d u Q := by unfold zJ; rw [zc_253_1]
theorem zc_253_2 : zcd 253 2 = zb_253_2 := by decide +kernel
theorem zj_253_2 {S : zSs} {D n u : Nat} {sh : zk_S} {d : zm_D} {Q : ((Option zv_V) ⊕ Nat) → Nat → zk_S → zm_D → Nat → Prop} {L : zN} {st : List zv_V} : zJ S D 253 2 L st n sh d u Q ↔ zB S D 253 zb_253_2 L st n sh d u Q := by unfold zJ; rw [zc_253_2]
theorem zc_253_3 : zcd 253 3 = zb_253_3 := by decide +kernel
theorem zj_253_3 {S : zSs} {D n u : Nat} {sh : zk_S} {d : zm_D} {Q : ((Option zv_V) ⊕ Nat) → Nat → zk_S → zm_D → Nat → Prop} {L : zN} {st : List zv_V} : zJ S D 253 3 L st n sh d u Q ↔ zB S D 253 zb_253_3 L st n sh d u Q := by unfold zJ; rw [zc_253_3]
theorem zc_253_4 : zcd 253 4 = zb_253_4 := by decide +kernel
theorem zj_253_4 {S : zSs} {D n u : Nat} {sh : zk_S} {d : zm_D} {Q : ((Option zv_V) ⊕ Nat) → Nat → zk_S → zm_D → Nat → Prop} {L : zN} {st : List zv_V} : zJ S D 253 4 L st n sh d u Q ↔ zB S D 253 zb_253_4 L st n sh d u Q := by unfold zJ; rw [zc_253_4]
theorem zc_253_5 : zcd 253 5 = zb_253_5 := by decide +kernel
theorem zj_253_5 {S : zSs} {D n u : Nat} {sh : zk_S} {d : zm_D} {Q : ((Option zv_V) ⊕ Nat) → Nat → zk_S → zm_D → Nat → Prop} {L : zN} {st : List zv_V} : zJ S D 253 5 L st n sh d u Q ↔ zB S D 253 zb_253_5 L st n sh d u Q := by unfold zJ; rw [zc_253_5]
theorem zc_253_6 : zcd 253 6 = zb_253_6 := by decide +kernel
theorem zj_253_6 {S : zSs} {D n u : Nat} {sh : zk_S} {d : zm_D} {Q : ((Option zv_V) ⊕ Nat) → Nat → zk_S → zm_D → Nat → Prop} {L : zN} {st : List zv_V} : zJ S D 253 6 L st n sh d u Q ↔ zB S D 253 zb_253_6 L st n sh d u Q := by unfold zJ; rw [zc_253_6]
theorem zc_253_7 : zcd 253 7 = zb_253_7 := by decide +kernel
theorem zj_253_7 {S : zSs} {D n u : Nat} {sh : zk_S} {d : zm_D} {Q : ((Option zv_V) ⊕ Nat) → Nat → zk_S → zm_D → Nat → Prop} {L : zN} {st : List zv_V} : zJ S D 253 7 L st n sh d u Q ↔ zB S D 253 zb_253_7 L st n sh d u Q := by unfold zJ; rw [zc_253_7]
theorem zc_253_8 : zcd 253 8 = zb_253_8 := by decide +kernel
theorem zj_253_8 {S : zSs} {D n u : Nat} {sh : zk_S} {d : zm_D} {Q : ((Option zv_V) ⊕ Nat) → Nat → zk_S → zm_D → Nat → Prop} {L : zN} {st : List zv_V} : zJ S D 253 8 L st n sh d u Q ↔ zB S D 253 zb_253_8 L st n sh d u Q := by unfold zJ; rw [zc_253_8]
theorem zc_253_9 : zcd 253 9 = zb_253_9 := by decide +kernel
theorem zj_253_9 {S : zSs} {D n u : Nat} {sh : zk_S} {d : zm_D} {Q : ((Option zv_V) ⊕ Nat) → Nat → zk_S → zm_D → Nat → Prop} {L : zN} {st : List zv_V} : zJ S D 253 9 L st n sh d u Q ↔ zB S D 253 zb_253_9 L st n sh d u Q := by unfold zJ; rw [zc_253_9]
theorem zn_253 : znl 253 = 2 := by decide +kernel
theorem ze_253 {S : zSs} {D n u : Nat} {sh : zk_S} {d : zm_D} {Q : ((Option zv_V) ⊕ Nat) → Nat → zk_S → zm_D → Nat → Prop} {x0 : Int} {x1 : Int} : zE S D 253 [zv_a x0, zv_i x1] n sh d u Q ↔ zB S D 253 zb_253_0 [some (zv_a x0), some (zv_i x1)] [] n sh d u Q := by
  unfold zE; rw [zn_253, zc_253_0]; exact ⟨fun h => h.2, fun h => ⟨Nat.le_of_ble_eq_true rfl, h⟩⟩
theorem ze_253s {S : zSs} {D n u : Nat} {sh : zk_S} {d : zm_D} {Q : ((Option zv_V) ⊕ Nat) → Nat → zk_S → zm_D → Nat → Prop} {x0 : Int} : zE S D 253 [zv_i x0] n sh d u Q ↔ zB S D 253 zb_253_0 [some (zv_i x0), none] [] n sh d u Q := by
  unfold zE; rw [zn_253, zc_253_0]; exact ⟨fun h => h.2, fun h => ⟨Nat.le_of_ble_eq_true rfl, h⟩⟩
theorem zh_253 : zhl 253 = [] := by decide +kernel
theorem zc_254_0 : zcd 254 0 = zb_254_0 := by decide +kernel
theorem zj_254_0 {S : zSs} {D n u : Nat} {sh : zk_S} {d : zm_D} {Q : ((Option zv_V) ⊕ Nat) → Nat → zk_S → zm_D → Nat → Prop} {L : zN} {st : List zv_V} : zJ S D 254 0 L st n sh d u Q ↔ zB S D 254 zb_254_0 L st n sh d u Q := by unfold zJ; rw [zc_254_0]
theorem zc_254_1 : zcd 254 1 = zb_254_1 := by decide +kernel
theorem zj_254_1 {S : zSs} {D n u : Nat} {sh : zk_S} {d : zm_D} {Q : ((Option zv_V) ⊕ Nat) → Nat → zk_S → zm_D → Nat → Prop} {L : zN} {st : List zv_V} : zJ S D 254 1 L st n sh d u Q ↔ zB S D 254 zb_254_1 L st n sh d u Q := by unfold zJ; rw [zc_254_1]
theorem zn_254 : znl 254 = 1 := by decide +kernel
theorem ze_254 {S : zSs} {D n u : Nat} {sh : zk_S} {d : zm_D} {Q : ((Option zv_V) ⊕ Nat) → Nat → zk_S → zm_D → Nat → Prop} {x0 : Int} : zE S D 254 [zv_a x0] n sh d u Q ↔ zB S D 254 zb_254_0 [some (zv_a x0)] [] n sh d u Q := by
  unfold zE; rw [zn_254, zc_254_0]; exact ⟨fun h => h.2, fun h => ⟨Nat.le_of_ble_eq_true rfl, h⟩⟩
theorem ze_254s {S : zSs} {D n u : Nat} {sh : zk_S} {d : zm_D} {Q : ((Option zv_V) ⊕ Nat) → Nat → zk_S → zm_D → Nat → Prop} : zE S D 254 [] n sh d u Q ↔ zB S D 254 zb_254_0 [none] [] n sh d u Q := by
  unfold zE; rw [zn_254, zc_254_0]; exact ⟨fun h => h.2, fun h => ⟨Nat.le_of_ble_eq_true rfl, h⟩⟩
theorem zh_254 : zhl 254 = [] := by decide +kernel
theorem zc_255_0 : zcd 255 0 = zb_255_0 := by decide +kernel
theorem zj_255_0 {S : zSs} {D n u : Nat} {sh : zk_S} {d : zm_D} {Q : ((Option zv_V) ⊕ Nat) → Nat → zk_S → zm_D → Nat → Prop} {L : zN} {st : List zv_V} : zJ S D 255 0 L st n sh d u Q ↔ zB S D 255 zb_255_0 L st n sh d u Q := by unfold zJ; rw [zc_255_0]
theorem zc_255_1 : zcd 255 1 = zb_255_1 := by decide +kernel
theorem zj_255_1 {S : zSs} {D n u : Nat} {sh : zk_S} {d : zm_D} {Q : ((Option zv_V) ⊕ Nat) → Nat → zk_S → zm_D → Nat → Prop} {L : zN} {st : List zv_V} : zJ S D 255 1 L st n sh d u Q ↔ zB S D 255 zb_255_1 L st n sh d u Q := by unfold zJ; rw [zc_255_1]
theorem zc_255_2 : zcd 255 2 = zb_255_2 := by decide +kernel
theorem zj_255_2 {S : zSs} {D n u : Nat} {sh : zk_S} {d : zm_D} {Q : ((Option zv_V) ⊕ Nat) → Nat → zk_S → zm_D → Nat → Prop} {L : zN} {st : List zv_V} : zJ S D 255 2 L st n sh d u Q ↔ zB S D 255 zb_255_2 L st n sh d u Q := by unfold zJ; rw [zc_255_2]
theorem zc_255_3 : zcd 255 3 = zb_255_3 := by decide +kernel
theorem zj_255_3 {S : zSs} {D n u : Nat} {sh : zk_S} {d : zm_D} {Q : ((Option zv_V) ⊕ Nat) → Nat → zk_S → zm_D → Nat → Prop} {L : zN} {st : List zv_V} : zJ S D 255 3 L st n sh d u Q ↔ zB S D 255 zb_255_3 L st n sh d u Q := by unfold zJ; rw [zc_255_3]
theorem zn_255 : znl 255 = 4 := by decide +kernel
theorem ze_255 {S : zSs} {D n u : Nat} {sh : zk_S} {d : zm_D} {Q : ((Option zv_V) ⊕ Nat) → Nat → zk_S → zm_D → Nat → Prop} {x0 : Int} {x1 : Int} {x2 : Int} : zE S D 255 [zv_a x0, zv_i x1, zv_i x2] n sh d u Q ↔ zB S D 255 zb_255_0 [some (zv_a x0), some (zv_i x1), some (zv_i x2), none] [] n sh d u Q := by
  unfold zE; rw [zn_255, zc_255_0]; exact ⟨fun h => h.2, fun h => ⟨Nat.le_of_ble_eq_true rfl, h⟩⟩
theorem ze_255s {S : zSs} {D n u : Nat} {sh : zk_S} {d : zm_D} {Q : ((Option zv_V) ⊕ Nat) → Nat → zk_S → zm_D → Nat → Prop} {x0 : Int} {x1 : Int} : zE S D 255 [zv_i x0, zv_i x1] n sh d u Q ↔ zB S D 255 zb_255_0 [some (zv_i x0), some (zv_i x1), none, none] [] n sh d u Q := by
  unfold zE; rw [zn_255, zc_255_0]; exact ⟨fun h => h.2, fun h => ⟨Nat.le_of_ble_eq_true rfl, h⟩⟩
theorem zh_255 : zhl 255 = [] := by decide +kernel
theorem zc_256_0 : zcd 256 0 = zb_256_0 := by decide +kernel
theorem zj_256_0 {S : zSs} {D n u : Nat} {sh : zk_S} {d : zm_D} {Q : ((Option zv_V) ⊕ Nat) → Nat → zk_S → zm_D → Nat → Prop} {L : zN} {st : List zv_V} : zJ S D 256 0 L st n sh d u Q ↔ zB S D 256 zb_256_0 L st n sh d u Q := by unfold zJ; rw [zc_256_0]
theorem zc_256_1 : zcd 256 1 = zb_256_1 := by decide +kernel
theorem zj_256_1 {S : zSs} {D n u : Nat} {sh : zk_S} {d : zm_D} {Q : ((Option zv_V) ⊕ Nat) → Nat → zk_S → zm_D → Nat → Prop} {L : zN} {st : List zv_V} : zJ S D 256 1 L st n sh d u Q ↔ zB S D 256 zb_256_1 L st n sh d u Q := by unfold zJ; rw [zc_256_1]
theorem zc_256_2 : zcd 256 2 = zb_256_2 := by decide +kernel
theorem zj_256_2 {S : zSs} {D n u : Nat} {sh : zk_S} {d : zm_D} {Q : ((Option zv_V) ⊕ Nat) → Nat → zk_S → zm_D → Nat → Prop} {L : zN} {st : List zv_V} : zJ S D 256 2 L st n sh d u Q ↔ zB S D 256 zb_256_2 L st n sh d u Q := by unfold zJ; rw [zc_256_2]
theorem zc_256_3 : zcd 256 3 = zb_256_3 := by decide +kernel
theorem zj_256_3 {S : zSs} {D n u : Nat} {sh : zk_S} {d : zm_D} {Q : ((Option zv_V) ⊕ Nat) → Nat → zk_S → zm_D → Nat → Prop} {L : zN} {st : List zv_V} : zJ S D 256 3 L st n sh d u Q ↔ zB S D 256 zb_256_3 L st n sh d u Q := by unfold zJ; rw [zc_256_3]
theorem zc_256_4 : zcd 256 4 = zb_256_4 := by decide +kernel
theorem zj_256_4 {S : zSs} {D n u : Nat} {sh : zk_S} {d : zm_D} {Q : ((Option zv_V) ⊕ Nat) → Nat → zk_S → zm_D → Nat → Prop} {L : zN} {st : List zv_V} : zJ S D 256 4 L st n sh d u Q ↔ zB S D 256 zb_256_4 L st n sh d u Q := by unfold zJ; rw [zc_256_4]
theorem zn_256 : znl 256 = 4 := by decide +kernel
theorem ze_256 {S : zSs} {D n u : Nat} {sh : zk_S} {d : zm_D} {Q : ((Option zv_V) ⊕ Nat) → Nat → zk_S → zm_D → Nat → Prop} {x0 : Int} {x1 : Int} : zE S D 256 [zv_a x0, zv_i x1] n sh d u Q ↔ zB S D 256 zb_256_0 [some (zv_a x0), some (zv_i x1), none, none] [] n sh d u Q := by
  unfold zE; rw [zn_256, zc_256_0]; exact ⟨fun h => h.2, fun h => ⟨Nat.le_of_ble_eq_true rfl, h⟩⟩
theorem ze_256s {S : zSs} {D n u : Nat} {sh : zk_S} {d : zm_D} {Q : ((Option zv_V) ⊕ Nat) → Nat → zk_S → zm_D → Nat → Prop} {x0 : Int} : zE S D 256 [zv_i x0] n sh d u Q ↔ zB S D 256 zb_256_0 [some (zv_i x0), none, none, none] [] n sh d u Q := by
  unfold zE; rw [zn_256, zc_256_0]; exact ⟨fun h => h.2, fun h => ⟨Nat.le_of_ble_eq_true rfl, h⟩⟩
theorem zh_256 : zhl 256 = [] := by decide +kernel
theorem zc_257_0 : zcd 257 0 = zb_257_0 := by decide +kernel
theorem zj_257_0 {S : zSs} {D n u : Nat} {sh : zk_S} {d : zm_D} {Q : ((Option zv_V) ⊕ Nat) → Nat → zk_S → zm_D → Nat → Prop} {L : zN} {st : List zv_V} : zJ S D 257 0 L st n sh d u Q ↔ zB S D 257 zb_257_0 L st n sh d u Q := by unfold zJ; rw [zc_257_0]
theorem zc_257_1 : zcd 257 1 = zb_257_1 := by decide +kernel
theorem zj_257_1 {S : zSs} {D n u : Nat} {sh : zk_S} {d : zm_D} {Q : ((Option zv_V) ⊕ Nat) → Nat → zk_S → zm_D → Nat → Prop} {L : zN} {st : List zv_V} : zJ S D 257 1 L st n sh d u Q ↔ zB S D 257 zb_257_1 L st n sh d u Q := by unfold zJ; rw [zc_257_1]
theorem zc_257_2 : zcd 257 2 = zb_257_2 := by decide +kernel
theorem zj_257_2 {S : zSs} {D n u : Nat} {sh : zk_S} {d : zm_D} {Q : ((Option zv_V) ⊕ Nat) → Nat → zk_S → zm_D → Nat → Prop} {L : zN} {st : List zv_V} : zJ S D 257 2 L st n sh d u Q ↔ zB S D 257 zb_257_2 L st n sh d u Q := by unfold zJ; rw [zc_257_2]
theorem zc_257_3 : zcd 257 3 = zb_257_3 := by decide +kernel
theorem zj_257_3 {S : zSs} {D n u : Nat} {sh : zk_S} {d : zm_D} {Q : ((Option zv_V) ⊕ Nat) → Nat → zk_S → zm_D → Nat → Prop} {L : zN} {st : List zv_V} : zJ S D 257 3 L st n sh d u Q ↔ zB S D 257 zb_257_3 L st n sh d u Q := by unfold zJ; rw [zc_257_3]
theorem zn_257 : znl 257 = 3 := by decide +kernel
theorem ze_257 {S : zSs} {D n u : Nat} {sh : zk_S} {d : zm_D} {Q : ((Option zv_V) ⊕ Nat) → Nat → zk_S → zm_D → Nat → Prop} {x0 : Int} {x1 : Int} : zE S D 257 [zv_a x0, zv_i x1] n sh d u Q ↔ zB S D 257 zb_257_0 [some (zv_a x0), some (zv_i x1), none] [] n sh d u Q := by
  unfold zE; rw [zn_257, zc_257_0]; exact ⟨fun h => h.2, fun h => ⟨Nat.le_of_ble_eq_true rfl, h⟩⟩
theorem ze_257s {S : zSs} {D n u : Nat} {sh : zk_S} {d : zm_D} {Q : ((Option zv_V) ⊕ Nat) → Nat → zk_S → zm_D → Nat → Prop} {x0 : Int} : zE S D 257 [zv_i x0] n sh d u Q ↔ zB S D 257 zb_257_0 [some (zv_i x0), none, none] [] n sh d u Q := by
  unfold zE; rw [zn_257, zc_257_0]; exact ⟨fun h => h.2, fun h => ⟨Nat.le_of_ble_eq_true rfl, h⟩⟩
theorem zh_257 : zhl 257 = [] := by decide +kernel
theorem zc_258_0 : zcd 258 0 = zb_258_0 := by decide +kernel
theorem zj_258_0 {S : zSs} {D n u : Nat} {sh : zk_S} {d : zm_D} {Q : ((Option zv_V) ⊕ Nat) → Nat → zk_S → zm_D → Nat → Prop} {L : zN} {st : List zv_V} : zJ S D 258 0 L st n sh d u Q ↔ zB S D 258 zb_258_0 L st n sh d u Q := by unfold zJ; rw [zc_258_0]
theorem zc_258_1 : zcd 258 1 = zb_258_1 := by decide +kernel
theorem zj_258_1 {S : zSs} {D n u : Nat} {sh : zk_S} {d : zm_D} {Q : ((Option zv_V) ⊕ Nat) → Nat → zk_S → zm_D → Nat → Prop} {L : zN} {st : List zv_V} : zJ S D 258 1 L st n sh d u Q ↔ zB S D 258 zb_258_1 L st n sh d u Q := by unfold zJ; rw [zc_258_1]
theorem zc_258_2 : zcd 258 2 = zb_258_2 := by decide +kernel
theorem zj_258_2 {S : zSs} {D n u : Nat} {sh : zk_S} {d : zm_D} {Q : ((Option zv_V) ⊕ Nat) → Nat → zk_S → zm_D → Nat → Prop} {L : zN} {st : List zv_V} : zJ S D 258 2 L st n sh d u Q ↔ zB S D 258 zb_258_2 L st n sh d u Q := by unfold zJ; rw [zc_258_2]
theorem zc_258_3 : zcd 258 3 = zb_258_3 := by decide +kernel
theorem zj_258_3 {S : zSs} {D n u : Nat} {sh : zk_S} {d : zm_D} {Q : ((Option zv_V) ⊕ Nat) → Nat → zk_S → zm_D → Nat → Prop} {L : zN} {st : List zv_V} : zJ S D 258 3 L st n sh d u Q ↔ zB S D 258 zb_258_3 L st n sh d u Q := by unfold zJ; rw [zc_258_3]
theorem zc_258_4 : zcd 258 4 = zb_258_4 := by decide +kernel
theorem zj_258_4 {S : zSs} {D n u : Nat} {sh : zk_S} {d : zm_D} {Q : ((Option zv_V) ⊕ Nat) → Nat → zk_S → zm_D → Nat → Prop} {L : zN} {st : List zv_V} : zJ S D 258 4 L st n sh d u Q ↔ zB S D 258 zb_258_4 L st n sh d u Q := by unfold zJ; rw [zc_258_4]
theorem zc_258_5 : zcd 258 5 = zb_258_5 := by decide +kernel
theorem zj_258_5 {S : zSs} {D n u : Nat} {sh : zk_S} {d : zm_D} {Q : ((Option zv_V) ⊕ Nat) → Nat → zk_S → zm_D → Nat → Prop} {L : zN} {st : List zv_V} : zJ S D 258 5 L st n sh d u Q ↔ zB S D 258 zb_258_5 L st n sh d u Q := by unfold zJ; rw [zc_258_5]
theorem zc_258_6 : zcd 258 6 = zb_258_6 := by decide +kernel
theorem zj_258_6 {S : zSs} {D n u : Nat} {sh : zk_S} {d : zm_D} {Q : ((Option zv_V) ⊕ Nat) → Nat → zk_S → zm_D → Nat → Prop} {L : zN} {st : List zv_V} : zJ S D 258 6 L st n sh d u Q ↔ zB S D 258 zb_258_6 L st n sh d u Q := by unfold zJ; rw [zc_258_6]
theorem zc_258_7 : zcd 258 7 = zb_258_7 := by decide +kernel
theorem zj_258_7 {S : zSs} {D n u : Nat} {sh : zk_S} {d : zm_D} {Q : ((Option zv_V) ⊕ Nat) → Nat → zk_S → zm_D → Nat → Prop} {L : zN} {st : List zv_V} : zJ S D 258 7 L st n sh d u Q ↔ zB S D 258 zb_258_7 L st n sh d u Q := by unfold zJ; rw [zc_258_7]
theorem zc_258_8 : zcd 258 8 = zb_258_8 := by decide +kernel
theorem zj_258_8 {S : zSs} {D n u : Nat} {sh : zk_S} {d : zm_D} {Q : ((Option zv_V) ⊕ Nat) → Nat → zk_S → zm_D → Nat → Prop} {L : zN} {st : List zv_V} : zJ S D 258 8 L st n sh d u Q ↔ zB S D 258 zb_258_8 L st n sh d u Q := by unfold zJ; rw [zc_258_8]
theorem zn_258 : znl 258 = 6 := by decide +kernel
theorem ze_258 {S : zSs} {D n u : Nat} {sh : zk_S} {d : zm_D} {Q : ((Option zv_V) ⊕ Nat) → Nat → zk_S → zm_D → Nat → Prop} {x0 : Int} {x1 : Int} : zE S D 258 [zv_a x0, zv_i x1] n sh d u Q ↔ zB S D 258 zb_258_0 [some (zv_a x0), some (zv_i x1), none, none, none, none] [] n sh d u Q := by
  unfold zE; rw [zn_258, zc_258_0]; exact ⟨fun h => h.2, fun h => ⟨Nat.le_of_ble_eq_true rfl, h⟩⟩
theorem ze_258s {S : zSs} {D n u : Nat} {sh : zk_S} {d : zm_D} {Q : ((Option zv_V) ⊕ Nat) → Nat → zk_S → zm_D → Nat → Prop} {x0 : Int} : zE S D 258 [zv_i x0] n sh d u Q ↔ zB S D 258 zb_258_0 [some (zv_i x0), none, none, none, none, none] [] n sh d u Q := by
  unfold zE; rw [zn_258, zc_258_0]; exact ⟨fun h => h.2, fun h => ⟨Nat.le_of_ble_eq_true rfl, h⟩⟩
theorem zh_258 : zhl 258 = [] := by decide +kernel
theorem zc_259_0 : zcd 259 0 = zb_259_0 := by decide +kernel
theorem zj_259_0 {S : zSs} {D n u : Nat} {sh : zk_S} {d : zm_D} {Q : ((Option zv_V) ⊕ Nat) → Nat → zk_S → zm_D → Nat → Prop} {L : zN} {st : List zv_V} : zJ S D 259 0 L st n sh d u Q ↔ zB S D 259 zb_259_0 L st n sh d u Q := by unfold zJ; rw [zc_259_0]
theorem zc_259_1 : zcd 259 1 = zb_259_1 := by decide +kernel
theorem zj_259_1 {S : zSs} {D n u : Nat} {sh : zk_S} {d : zm_D} {Q : ((Option zv_V) ⊕ Nat) → Nat → zk_S → zm_D → Nat → Prop} {L : zN} {st : List zv_V} : zJ S D 259 1 L st n sh d u Q ↔ zB S D 259 zb_259_1 L st n sh d u Q := by unfold zJ; rw [zc_259_1]
theorem zc_259_2 : zcd 259 2 = zb_259_2 := by decide +kernel
theorem zj_259_2 {S : zSs} {D n u : Nat} {sh : zk_S} {d : zm_D} {Q : ((Option zv_V) ⊕ Nat) → Nat → zk_S → zm_D → Nat → Prop} {L : zN} {st : List zv_V} : zJ S D 259 2 L st n sh d u Q ↔ zB S D 259 zb_259_2 L st n sh d u Q := by unfold zJ; rw [zc_259_2]
theorem zc_259_3 : zcd 259 3 = zb_259_3 := by decide +kernel
theorem zj_259_3 {S : zSs} {D n u : Nat} {sh : zk_S} {d : zm_D} {Q : ((Option zv_V) ⊕ Nat) → Nat → zk_S → zm_D → Nat → Prop} {L : zN} {st : List zv_V} : zJ S D 259 3 L st n sh d u Q ↔ zB S D 259 zb_259_3 L st n sh d u Q := by unfold zJ; rw [zc_259_3]
theorem zc_259_4 : zcd 259 4 = zb_259_4 := by decide +kernel
theorem zj_259_4 {S : zSs} {D n u : Nat} {sh : zk_S} {d : zm_D} {Q : ((Option zv_V) ⊕ Nat) → Nat → zk_S → zm_D → Nat → Prop} {L : zN} {st : List zv_V} : zJ S D 259 4 L st n sh d u Q ↔ zB S D 259 zb_259_4 L st n sh d u Q := by unfold zJ; rw [zc_259_4]
theorem zc_259_5 : zcd 259 5 = zb_259_5 := by decide +kernel
theorem zj_259_5 {S : zSs} {D n u : Nat} {sh : zk_S} {d : zm_D} {Q : ((Option zv_V) ⊕ Nat) → Nat → zk_S → zm_D → Nat → Prop} {L : zN} {st : List zv_V} : zJ S D 259 5 L st n sh d u Q ↔ zB S D 259 zb_259_5 L st n sh d u Q := by unfold zJ; rw [zc_259_5]
theorem zc_259_6 : zcd 259 6 = zb_259_6 := by decide +kernel
theorem zj_259_6 {S : zSs} {D n u : Nat} {sh : zk_S} {d : zm_D} {Q : ((Option zv_V) ⊕ Nat) → Nat → zk_S → zm_D → Nat → Prop} {L : zN} {st : List zv_V} : zJ S D 259 6 L st n sh d u Q ↔ zB S D 259 zb_259_6 L st n sh d u Q := by unfold zJ; rw [zc_259_6]
theorem zc_259_7 : zcd 259 7 = zb_259_7 := by decide +kernel
theorem zj_259_7 {S : zSs} {D n u : Nat} {sh : zk_S} {d : zm_D} {Q : ((Option zv_V) ⊕ Nat) → Nat → zk_S → zm_D → Nat → Prop} {L : zN} {st : List zv_V} : zJ S D 259 7 L st n sh d u Q ↔ zB S D 259 zb_259_7 L st n sh d u Q := by unfold zJ; rw [zc_259_7]
theorem zc_259_8 : zcd 259 8 = zb_259_8 := by decide +kernel
theorem zj_259_8 {S : zSs} {D n u : Nat} {sh : zk_S} {d : zm_D} {Q : ((Option zv_V) ⊕ Nat) → Nat → zk_S → zm_D → Nat → Prop} {L : zN} {st : List zv_V} : zJ S D 259 8 L st n sh d u Q ↔ zB S D 259 zb_259_8 L st n sh d u Q := by unfold zJ; rw [zc_259_8]
theorem zc_259_9 : zcd 259 9 = zb_259_9 := by decide +kernel
theorem zj_259_9 {S : zSs} {D n u : Nat} {sh : zk_S} {d : zm_D} {Q : ((Option zv_V) ⊕ Nat) → Nat → zk_S → zm_D → Nat → Prop} {L : zN} {st : List zv_V} : zJ S D 259 9 L st n sh d u Q ↔ zB S D 259 zb_259_9 L st n sh d u Q := by unfold zJ; rw [zc_259_9]
theorem zn_259 : znl 259 = 5 := by decide +kernel
theorem ze_259 {S : zSs} {D n u : Nat} {sh : zk_S} {d : zm_D} {Q : ((Option zv_V) ⊕ Nat) → Nat → zk_S → zm_D → Nat → Prop} {x0 : Int} {x1 : Int} : zE S D 259 [zv_a x0, zv_i x1] n sh d u Q ↔ zB S D 259 zb_259_0 [some (zv_a x0), some (zv_i x1), none, none, none] [] n sh d u Q := by
  unfold zE; rw [zn_259, zc_259_0]; exact ⟨fun h => h.2, fun h => ⟨Nat.le_of_ble_eq_true rfl, h⟩⟩
theorem ze_259s {S : zSs} {D n u : Nat} {sh : zk_S} {d : zm_D} {Q : ((Option zv_V) ⊕ Nat) → Nat → zk_S → zm_D → Nat → Prop} {x0 : Int} : zE S D 259 [zv_i x0] n sh d u Q ↔ zB S D 259 zb_259_0 [some (zv_i x0), none, none, none, none] [] n sh d u Q := by
  unfold zE; rw [zn_259, zc_259_0]; exact ⟨fun h => h.2, fun h => ⟨Nat.le_of_ble_eq_true rfl, h⟩⟩
theorem zh_259 : zhl 259 = [] := by decide +kernel
theorem zc_260_0 : zcd 260 0 = zb_260_0 := by decide +kernel
theorem zj_260_0 {S : zSs} {D n u : Nat} {sh : zk_S} {d : zm_D} {Q : ((Option zv_V) ⊕ Nat) → Nat → zk_S → zm_D → Nat → Prop} {L : zN} {st : List zv_V} : zJ S D 260 0 L st n sh d u Q ↔ zB S D 260 zb_260_0 L st n sh d u Q := by unfold zJ; rw [zc_260_0]
theorem zc_260_1 : zcd 260 1 = zb_260_1 := by decide +kernel
theorem zj_260_1 {S : zSs} {D n u : Nat} {sh : zk_S} {d : zm_D} {Q : ((Option zv_V) ⊕ Nat) → Nat → zk_S → zm_D → Nat → Prop} {L : zN} {st : List zv_V} : zJ S D 260 1 L st n sh d u Q ↔ zB S D 260 zb_260_1 L st n sh d u Q := by unfold zJ; rw [zc_260_1]
theorem zc_260_2 : zcd 260 2 = zb_260_2 := by decide +kernel
theorem zj_260_2 {S : zSs} {D n u : Nat} {sh : zk_S} {d : zm_D} {Q : ((Option zv_V) ⊕ Nat) → Nat → zk_S → zm_D → Nat → Prop} {L : zN} {st : List zv_V} : zJ S D 260 2 L st n sh d u Q ↔ zB S D 260 zb_260_2 L st n sh d u Q := by unfold zJ; rw [zc_260_2]
theorem zc_260_3 : zcd 260 3 = zb_260_3 := by decide +kernel
theorem zj_260_3 {S : zSs} {D n u : Nat} {sh : zk_S} {d : zm_D} {Q : ((Option zv_V) ⊕ Nat) → Nat → zk_S → zm_D → Nat → Prop} {L : zN} {st : List zv_V} : zJ S D 260 3 L st n sh d u Q ↔ zB S D 260 zb_260_3 L st n sh d u Q := by unfold zJ; rw [zc_260_3]
theorem zc_260_4 : zcd 260 4 = zb_260_4 := by decide +kernel
theorem zj_260_4 {S : zSs} {D n u : Nat} {sh : zk_S} {d : zm_D} {Q : ((Option zv_V) ⊕ Nat) → Nat → zk_S → zm_D → Nat → Prop} {L : zN} {st : List zv_V} : zJ S D 260 4 L st n sh d u Q ↔ zB S D 260 zb_260_4 L st n sh d u Q := by unfold zJ; rw [zc_260_4]
theorem zc_260_5 : zcd 260 5 = zb_260_5 := by decide +kernel
theorem zj_260_5 {S : zSs} {D n u : Nat} {sh : zk_S} {d : zm_D} {Q : ((Option zv_V) ⊕ Nat) → Nat → zk_S → zm_D → Nat → Prop} {L : zN} {st : List zv_V} : zJ S D 260 5 L st n sh d u Q ↔ zB S D 260 zb_260_5 L st n sh d u Q := by unfold zJ; rw [zc_260_5]
theorem zn_260 : znl 260 = 3 := by decide +kernel
theorem ze_260 {S : zSs} {D n u : Nat} {sh : zk_S} {d : zm_D} {Q : ((Option zv_V) ⊕ Nat) → Nat → zk_S → zm_D → Nat → Prop} {x0 : Int} {x1 : Int} : zE S D 260 [zv_a x0, zv_i x1] n sh d u Q ↔ zB S D 260 zb_260_0 [some (zv_a x0), some (zv_i x1), none] [] n sh d u Q := by
  unfold zE; rw [zn_260, zc_260_0]; exact ⟨fun h => h.2, fun h => ⟨Nat.le_of_ble_eq_true rfl, h⟩⟩
theorem ze_260s {S : zSs} {D n u : Nat} {sh : zk_S} {d : zm_D} {Q : ((Option zv_V) ⊕ Nat) → Nat → zk_S → zm_D → Nat → Prop} {x0 : Int} : zE S D 260 [zv_i x0] n sh d u Q ↔ zB S D 260 zb_260_0 [some (zv_i x0), none, none] [] n sh d u Q := by
  unfold zE; rw [zn_260, zc_260_0]; exact ⟨fun h => h.2, fun h => ⟨Nat.le_of_ble_eq_true rfl, h⟩⟩
theorem zh_260 : zhl 260 = [] := by decide +kernel
theorem zc_261_0 : zcd 261 0 = zb_261_0 := by decide +kernel
theorem zj_261_0 {S : zSs} {D n u : Nat} {sh : zk_S} {d : zm_D} {Q : ((Option zv_V) ⊕ Nat) → Nat → zk_S → zm_D → Nat → Prop} {L : zN} {st : List zv_V} : zJ S D 261 0 L st n sh d u Q ↔ zB S D 261 zb_261_0 L st n sh d u Q := by unfold zJ; rw [zc_261_0]
theorem zc_261_1 : zcd 261 1 = zb_261_1 := by decide +kernel
theorem zj_261_1 {S : zSs} {D n u : Nat} {sh : zk_S} {d : zm_D} {Q : ((Option zv_V) ⊕ Nat) → Nat → zk_S → zm_D → Nat → Prop} {L : zN} {st : List zv_V} : zJ S D 261 1 L st n sh d u Q ↔ zB S D 261 zb_261_1 L st n sh d u Q := by unfold zJ; rw [zc_261_1]
theorem zc_261_2 : zcd 261 2 = zb_261_2 := by decide +kernel
theorem zj_261_2 {S : zSs} {D n u : Nat} {sh : zk_S} {d : zm_D} {Q : ((Option zv_V) ⊕ Nat) → Nat → zk_S → zm_D → Nat → Prop} {L : zN} {st : List zv_V} : zJ S D 261 2 L st n sh d u Q ↔ zB S D 261 zb_261_2 L st n sh d u Q := by unfold zJ; rw [zc_261_2]
theorem zc_261_3 : zcd 261 3 = zb_261_3 := by decide +kernel
theorem zj_261_3 {S : zSs} {D n u : Nat} {sh : zk_S} {d : zm_D} {Q : ((Option zv_V) ⊕ Nat) → Nat → zk_S → zm_D → Nat → Prop} {L : zN} {st : List zv_V} : zJ S D 261 3 L st n sh d u Q ↔ zB S D 261 zb_261_3 L st n sh d u Q := by unfold zJ; rw [zc_261_3]
theorem zc_261_4 : zcd 261 4 = zb_261_4 := by decide +kernel
theorem zj_261_4 {S : zSs} {D n u : Nat} {sh : zk_S} {d : zm_D} {Q : ((Option zv_V) ⊕ Nat) → Nat → zk_S → zm_D → Nat → Prop} {L : zN} {st : List zv_V} : zJ S D 261 4 L st n sh d u Q ↔ zB S D 261 zb_261_4 L st n sh d u Q := by unfold zJ; rw [zc_261_4]
theorem zc_261_5 : zcd 261 5 = zb_261_5 := by decide +kernel
theorem zj_261_5 {S : zSs} {D n u : Nat} {sh : zk_S} {d : zm_D} {Q : ((Option zv_V) ⊕ Nat) → Nat → zk_S → zm_D → Nat → Prop} {L : zN} {st : List zv_V} : zJ S D 261 5 L st n sh d u Q ↔ zB S D 261 zb_261_5 L st n sh d u Q := by unfold zJ; rw [zc_261_5]
theorem zc_261_6 : zcd 261 6 = zb_261_6 := by decide +kernel
theorem zj_261_6 {S : zSs} {D n u : Nat} {sh : zk_S} {d : zm_D} {Q : ((Option zv_V) ⊕ Nat) → Nat → zk_S → zm_D → Nat → Prop} {L : zN} {st : List zv_V} : zJ S D 261 6 L st n sh d u Q ↔ zB S D 261 zb_261_6 L st n sh d u Q := by unfold zJ; rw [zc_261_6]
theorem zc_261_7 : zcd 261 7 = zb_261_7 := by decide +kernel
theorem zj_261_7 {S : zSs} {D n u : Nat} {sh : zk_S} {d : zm_D} {Q : ((Option zv_V) ⊕ Nat) → Nat → zk_S → zm_D → Nat → Prop} {L : zN} {st : List zv_V} : zJ S D 261 7 L st n sh d u Q ↔ zB S D 261 zb_261_7 L st n sh d u Q := by unfold zJ; rw [zc_261_7]
theorem zn_261 : znl 261 = 4 := by decide +kernel
theorem ze_261 {S : zSs} {D n u : Nat} {sh : zk_S} {d : zm_D} {Q : ((Option zv_V) ⊕ Nat) → Nat → zk_S → zm_D → Nat → Prop} {x0 : Int} {x1 : Int} {x2 : Int} {x3 : Int} : zE S D 261 [zv_a x0, zv_i x1, zv_i x2, zv_i x3] n sh d u Q ↔ zB S D 261 zb_261_0 [some (zv_a x0), some (zv_i x1), some (zv_i x2), some (zv_i x3)] [] n sh d u Q := by
  unfold zE; rw [zn_261, zc_261_0]; exact ⟨fun h => h.2, fun h => ⟨Nat.le_of_ble_eq_true rfl, h⟩⟩
theorem ze_261s {S : zSs} {D n u : Nat} {sh : zk_S} {d : zm_D} {Q : ((Option zv_V) ⊕ Nat) → Nat → zk_S → zm_D → Nat → Prop} {x0 : Int} {x1 : Int} {x2 : Int} : zE S D 261 [zv_i x0, zv_i x1, zv_i x2] n sh d u Q ↔ zB S D 261 zb_261_0 [some (zv_i x0), some (zv_i x1), some (zv_i x2), none] [] n sh d u Q := by
  unfold zE; rw [zn_261, zc_261_0]; exact ⟨fun h => h.2, fun h => ⟨Nat.le_of_ble_eq_true rfl, h⟩⟩
theorem zh_261 : zhl 261 = [] := by decide +kernel
theorem zc_262_0 : zcd 262 0 = zb_262_0 := by decide +kernel
theorem zj_262_0 {S : zSs} {D n u : Nat} {sh : zk_S} {d : zm_D} {Q : ((Option zv_V) ⊕ Nat) → Nat → zk_S → zm_D → Nat → Prop} {L : zN} {st : List zv_V} : zJ S D 262 0 L st n sh d u Q ↔ zB S D 262 zb_262_0 L st n sh d u Q := by unfold zJ; rw [zc_262_0]
theorem zc_262_1 : zcd 262 1 = zb_262_1 := by decide +kernel
theorem zj_262_1 {S : zSs} {D n u : Nat} {sh : zk_S} {d : zm_D} {Q : ((Option zv_V) ⊕ Nat) → Nat → zk_S → zm_D → Nat → Prop} {L : zN} {st : List zv_V} : zJ S D 262 1 L st n sh d u Q ↔ zB S D 262 zb_262_1 L st n sh d u Q := by unfold zJ; rw [zc_262_1]
theorem zc_262_2 : zcd 262 2 = zb_262_2 := by decide +kernel
theorem zj_262_2 {S : zSs} {D n u : Nat} {sh : zk_S} {d : zm_D} {Q : ((Option zv_V) ⊕ Nat) → Nat → zk_S → zm_D → Nat → Prop} {L : zN} {st : List zv_V} : zJ S D 262 2 L st n sh d u Q ↔ zB S D 262 zb_262_2 L st n sh d u Q := by unfold zJ; rw [zc_262_2]
theorem zc_262_3 : zcd 262 3 = zb_262_3 := by decide +kernel
theorem zj_262_3 {S : zSs} {D n u : Nat} {sh : zk_S} {d : zm_D} {Q : ((Option zv_V) ⊕ Nat) → Nat → zk_S → zm_D → Nat → Prop} {L : zN} {st : List zv_V} : zJ S D 262 3 L st n sh d u Q ↔ zB S D 262 zb_262_3 L st n sh d u Q := by unfold zJ; rw [zc_262_3]
theorem zc_262_4 : zcd 262 4 = zb_262_4 := by decide +kernel
theorem zj_262_4 {S : zSs} {D n u : Nat} {sh : zk_S} {d : zm_D} {Q : ((Option zv_V) ⊕ Nat) → Nat → zk_S → zm_D → Nat → Prop} {L : zN} {st : List zv_V} : zJ S D 262 4 L st n sh d u Q ↔ zB S D 262 zb_262_4 L st n sh d u Q := by unfold zJ; rw [zc_262_4]
theorem zc_262_5 : zcd 262 5 = zb_262_5 := by decide +kernel
theorem zj_262_5 {S : zSs} {D n u : Nat} {sh : zk_S} {d : zm_D} {Q : ((Option zv_V) ⊕ Nat) → Nat → zk_S → zm_D → Nat → Prop} {L : zN} {st : List zv_V} : zJ S D 262 5 L st n sh d u Q ↔ zB S D 262 zb_262_5 L st n sh d u Q := by unfold zJ; rw [zc_262_5]
theorem zc_262_6 : zcd 262 6 = zb_262_6 := by decide +kernel
theorem zj_262_6 {S : zSs} {D n u : Nat} {sh : zk_S} {d : zm_D} {Q : ((Option zv_V) ⊕ Nat) → Nat → zk_S → zm_D → Nat → Prop} {L : zN} {st : List zv_V} : zJ S D 262 6 L st n sh d u Q ↔ zB S D 262 zb_262_6 L st n sh d u Q := by unfold zJ; rw [zc_262_6]
theorem zn_262 : znl 262 = 2 := by decide +kernel
theorem ze_262 {S : zSs} {D n u : Nat} {sh : zk_S} {d : zm_D} {Q : ((Option zv_V) ⊕ Nat) → Nat → zk_S → zm_D → Nat → Prop} {x0 : Int} {x1 : Int} : zE S D 262 [zv_a x0, zv_i x1] n sh d u Q ↔ zB S D 262 zb_262_0 [some (zv_a x0), some (zv_i x1)] [] n sh d u Q := by
  unfold zE; rw [zn_262, zc_262_0]; exact ⟨fun h => h.2, fun h => ⟨Nat.le_of_ble_eq_true rfl, h⟩⟩
theorem ze_262s {S : zSs} {D n u : Nat} {sh : zk_S} {d : zm_D} {Q : ((Option zv_V) ⊕ Nat) → Nat → zk_S → zm_D → Nat → Prop} {x0 : Int} : zE S D 262 [zv_i x0] n sh d u Q ↔ zB S D 262 zb_262_0 [some (zv_i x0), none] [] n sh d u Q := by
  unfold zE; rw [zn_262, zc_262_0]; exact ⟨fun h => h.2, fun h => ⟨Nat.le_of_ble_eq_true rfl, h⟩⟩
theorem zh_262 : zhl 262 = [] := by decide +kernel
theorem zc_263_0 : zcd 263 0 = zb_263_0 := by decide +kernel
theorem zj_263_0 {S : zSs} {D n u : Nat} {sh : zk_S} {d : zm_D} {Q : ((Option zv_V) ⊕ Nat) → Nat → zk_S → zm_D → Nat → Prop} {L : zN} {st : List zv_V} : zJ S D 263 0 L st n sh d u Q ↔ zB S D 263 zb_263_0 L st n sh d u Q := by unfold zJ; rw [zc_263_0]
theorem zc_263_1 : zcd 263 1 = zb_263_1 := by decide +kernel
theorem zj_263_1 {S : zSs} {D n u : Nat} {sh : zk_S} {d : zm_D} {Q : ((Option zv_V) ⊕ Nat) → Nat → zk_S → zm_D → Nat → Prop} {L : zN} {st : List zv_V} : zJ S D 263 1 L st n sh d u Q ↔ zB S D 263 zb_263_1 L st n sh d u Q := by unfold zJ; rw [zc_263_1]
theorem zc_263_2 : zcd 263 2 = zb_263_2 := by decide +kernel
theorem zj_263_2 {S : zSs} {D n u : Nat} {sh : zk_S} {d : zm_D} {Q : ((Option zv_V) ⊕ Nat) → Nat → zk_S → zm_D → Nat → Prop} {L : zN} {st : List zv_V} : zJ S D 263 2 L st n sh d u Q ↔ zB S D 263 zb_263_2 L st n sh d u Q := by unfold zJ; rw [zc_263_2]
theorem zc_263_3 : zcd 263 3 = zb_263_3 := by decide +kernel
theorem zj_263_3 {S : zSs} {D n u : Nat} {sh : zk_S} {d : zm_D} {Q : ((Option zv_V) ⊕ Nat) → Nat → zk_S → zm_D → Nat → Prop} {L : zN} {st : List zv_V} : zJ S D 263 3 L st n sh d u Q ↔ zB S D 263 zb_263_3 L st n sh d u Q := by unfold zJ; rw [zc_263_3]
theorem zc_263_4 : zcd 263 4 = zb_263_4 := by decide +kernel
theorem zj_263_4 {S : zSs} {D n u : Nat} {sh : zk_S} {d : zm_D} {Q : ((Option zv_V) ⊕ Nat) → Nat → zk_S → zm_D → Nat → Prop} {L : zN} {st : List zv_V} : zJ S D 263 4 L st n sh d u Q ↔ zB S D 263 zb_263_4 L st n sh d u Q := by unfold zJ; rw [zc_263_4]
theorem zn_263 : znl 263 = 1 := by decide +kernel
theorem ze_263 {S : zSs} {D n u : Nat} {sh : zk_S} {d : zm_D} {Q : ((Option zv_V) ⊕ Nat) → Nat → zk_S → zm_D → Nat → Prop} {x0 : Int} : zE S D 263 [zv_a x0] n sh d u Q ↔ zB S D 263 zb_263_0 [some (zv_a x0)] [] n sh d u Q := by
  unfold zE; rw [zn_263, zc_263_0]; exact ⟨fun h => h.2, fun h => ⟨Nat.le_of_ble_eq_true rfl, h⟩⟩
theorem ze_263s {S : zSs} {D n u : Nat} {sh : zk_S} {d : zm_D} {Q : ((Option zv_V) ⊕ Nat) → Nat → zk_S → zm_D → Nat → Prop} : zE S D 263 [] n sh d u Q ↔ zB S D 263 zb_263_0 [none] [] n sh d u Q := by
  unfold zE; rw [zn_263, zc_263_0]; exact ⟨fun h => h.2, fun h => ⟨Nat.le_of_ble_eq_true rfl, h⟩⟩
theorem zh_263 : zhl 263 = [] := by decide +kernel
theorem zc_264_0 : zcd 264 0 = zb_264_0 := by decide +kernel
theorem zj_264_0 {S : zSs} {D n u : Nat} {sh : zk_S} {d : zm_D} {Q : ((Option zv_V) ⊕ Nat) → Nat → zk_S → zm_D → Nat → Prop} {L : zN} {st : List zv_V} : zJ S D 264 0 L st n sh d u Q ↔ zB S D 264 zb_264_0 L st n sh d u Q := by unfold zJ; rw [zc_264_0]
theorem zc_264_1 : zcd 264 1 = zb_264_1 := by decide +kernel
theorem zj_264_1 {S : zSs} {D n u : Nat} {sh : zk_S} {d : zm_D} {Q : ((Option zv_V) ⊕ Nat) → Nat → zk_S → zm_D → Nat → Prop} {L : zN} {st : List zv_V} : zJ S D 264 1 L st n sh d u Q ↔ zB S D 264 zb_264_1 L st n sh d u Q := by unfold zJ; rw [zc_264_1]
theorem zc_264_2 : zcd 264 2 = zb_264_2 := by decide +kernel
theorem zj_264_2 {S : zSs} {D n u : Nat} {sh : zk_S} {d : zm_D} {Q : ((Option zv_V) ⊕ Nat) → Nat → zk_S → zm_D → Nat → Prop} {L : zN} {st : List zv_V} : zJ S D 264 2 L st n sh d u Q ↔ zB S D 264 zb_264_2 L st n sh d u Q := by unfold zJ; rw [zc_264_2]
theorem zc_264_3 : zcd 264 3 = zb_264_3 := by decide +kernel
theorem zj_264_3 {S : zSs} {D n u : Nat} {sh : zk_S} {d : zm_D} {Q : ((Option zv_V) ⊕ Nat) → Nat → zk_S → zm_D → Nat → Prop} {L : zN} {st : List zv_V} : zJ S D 264 3 L st n sh d u Q ↔ zB S D 264 zb_264_3 L st n sh d u Q := by unfold zJ; rw [zc_264_3]
theorem zc_264_4 : zcd 264 4 = zb_264_4 := by decide +kernel
theorem zj_264_4 {S : zSs} {D n u : Nat} {sh : zk_S} {d : zm_D} {Q : ((Option zv_V) ⊕ Nat) → Nat → zk_S → zm_D → Nat → Prop} {L : zN} {st : List zv_V} : zJ S D 264 4 L st n sh d u Q ↔ zB S D 264 zb_264_4 L st n sh d u Q := by unfold zJ; rw [zc_264_4]
theorem zc_264_5 : zcd 264 5 = zb_264_5 := by decide +kernel
theorem zj_264_5 {S : zSs} {D n u : Nat} {sh : zk_S} {d : zm_D} {Q : ((Option zv_V) ⊕ Nat) → Nat → zk_S → zm_D → Nat → Prop} {L : zN} {st : List zv_V} : zJ S D 264 5 L st n sh d u Q ↔ zB S D 264 zb_264_5 L st n sh d u Q := by unfold zJ; rw [zc_264_5]
theorem zc_264_6 : zcd 264 6 = zb_264_6 := by decide +kernel
theorem zj_264_6 {S : zSs} {D n u : Nat} {sh : zk_S} {d : zm_D} {Q : ((Option zv_V) ⊕ Nat) → Nat → zk_S → zm_D → Nat → Prop} {L : zN} {st : List zv_V} : zJ S D 264 6 L st n sh d u Q ↔ zB S D 264 zb_264_6 L st n sh d u Q := by unfold zJ; rw [zc_264_6]
theorem zn_264 : znl 264 = 4 := by decide +kernel
theorem ze_264 {S : zSs} {D n u : Nat} {sh : zk_S} {d : zm_D} {Q : ((Option zv_V) ⊕ Nat) → Nat → zk_S → zm_D → Nat → Prop} {x0 : Int} {x1 : Int} : zE S D 264 [zv_a x0, zv_i x1] n sh d u Q ↔ zB S D 264 zb_264_0 [some (zv_a x0), some (zv_i x1), none, none] [] n sh d u Q := by
  unfold zE; rw [zn_264, zc_264_0]; exact ⟨fun h => h.2, fun h => ⟨Nat.le_of_ble_eq_true rfl, h⟩⟩
theorem ze_264s {S : zSs} {D n u : Nat} {sh : zk_S} {d : zm_D} {Q : ((Option zv_V) ⊕ Nat) → Nat → zk_S → zm_D → Nat → Prop} {x0 : Int} : zE S D 264 [zv_i x0] n sh d u Q ↔ zB S D 264 zb_264_0 [some (zv_i x0), none, none, none] [] n sh d u Q := by
  unfold zE; rw [zn_264, zc_264_0]; exact ⟨fun h => h.2, fun h => ⟨Nat.le_of_ble_eq_true rfl, h⟩⟩
theorem zh_264 : zhl 264 = [] := by decide +kernel
theorem zc_265_0 : zcd 265 0 = zb_265_0 := by decide +kernel
theorem zj_265_0 {S : zSs} {D n u : Nat} {sh : zk_S} {d : zm_D} {Q : ((Option zv_V) ⊕ Nat) → Nat → zk_S → zm_D → Nat → Prop} {L : zN} {st : List zv_V} : zJ S D 265 0 L st n sh d u Q ↔ zB S D 265 zb_265_0 L st n sh d u Q := by unfold zJ; rw [zc_265_0]
theorem zc_265_1 : zcd 265 1 = zb_265_1 := by decide +kernel
theorem zj_265_1 {S : zSs} {D n u : Nat} {sh : zk_S} {d : zm_D} {Q : ((Option zv_V) ⊕ Nat) → Nat → zk_S → zm_D → Nat → Prop} {L : zN} {st : List zv_V} : zJ S D 265 1 L st n sh d u Q ↔ zB S D 265 zb_265_1 L st n sh d u Q := by unfold zJ; rw [zc_265_1]
theorem zc_265_2 : zcd 265 2 = zb_265_2 := by decide +kernel
theorem zj_265_2 {S : zSs} {D n u : Nat} {sh : zk_S} {d : zm_D} {Q : ((Option zv_V) ⊕ Nat) → Nat → zk_S → zm_D → Nat → Prop} {L : zN} {st : List zv_V} : zJ S D 265 2 L st n sh d u Q ↔ zB S D 265 zb_265_2 L st n sh d u Q := by unfold zJ; rw [zc_265_2]
theorem zn_265 : znl 265 = 1 := by decide +kernel
theorem ze_265 {S : zSs} {D n u : Nat} {sh : zk_S} {d : zm_D} {Q : ((Option zv_V) ⊕ Nat) → Nat → zk_S → zm_D → Nat → Prop} {x0 : Int} : zE S D 265 [zv_a x0] n sh d u Q ↔ zB S D 265 zb_265_0 [some (zv_a x0)] [] n sh d u Q := by
  unfold zE; rw [zn_265, zc_265_0]; exact ⟨fun h => h.2, fun h => ⟨Nat.le_of_ble_eq_true rfl, h⟩⟩
theorem ze_265s {S : zSs} {D n u : Nat} {sh : zk_S} {d : zm_D} {Q : ((Option zv_V) ⊕ Nat) → Nat → zk_S → zm_D → Nat → Prop} : zE S D 265 [] n sh d u Q ↔ zB S D 265 zb_265_0 [none] [] n sh d u Q := by
  unfold zE; rw [zn_265, zc_265_0]; exact ⟨fun h => h.2, fun h => ⟨Nat.le_of_ble_eq_true rfl, h⟩⟩
theorem zh_265 : zhl 265 = [] := by decide +kernel
theorem zc_266_0 : zcd 266 0 = zb_266_0 := by decide +kernel
theorem zj_266_0 {S : zSs} {D n u : Nat} {sh : zk_S} {d : zm_D} {Q : ((Option zv_V) ⊕ Nat) → Nat → zk_S → zm_D → Nat → Prop} {L : zN} {st : List zv_V} : zJ S D 266 0 L st n sh d u Q ↔ zB S D 266 zb_266_0 L st n sh d u Q := by unfold zJ; rw [zc_266_0]
theorem zc_266_1 : zcd 266 1 = zb_266_1 := by decide +kernel
theorem zj_266_1 {S : zSs} {D n u : Nat} {sh : zk_S} {d : zm_D} {Q : ((Option zv_V) ⊕ Nat) → Nat → zk_S → zm_D → Nat → Prop} {L : zN} {st : List zv_V} : zJ S D 266 1 L st n sh d u Q ↔ zB S D 266 zb_266_1 L st n sh d u Q := by unfold zJ; rw [zc_266_1]
theorem zc_266_2 : zcd 266 2 = zb_266_2 := by decide +kernel
theorem zj_266_2 {S : zSs} {D n u : Nat} {sh : zk_S} {d : zm_D} {Q : ((Option zv_V) ⊕ Nat) → Nat → zk_S → zm_D → Nat → Prop} {L : zN} {st : List zv_V} : zJ S D 266 2 L st n sh d u Q ↔ zB S D 266 zb_266_2 L st n sh d u Q := by unfold zJ; rw [zc_266_2]
theorem zc_266_3 : zcd 266 3 = zb_266_3 := by decide +kernel
theorem zj_266_3 {S : zSs} {D n u : Nat} {sh : zk_S} {d : zm_D} {Q : ((Option zv_V) ⊕ Nat) → Nat → zk_S → zm_D → Nat → Prop} {L : zN} {st : List zv_V} : zJ S D 266 3 L st n sh d u Q ↔ zB S D 266 zb_266_3 L st n sh d u Q := by unfold zJ; rw [zc_266_3]
theorem zc_266_4 : zcd 266 4 = zb_266_4 := by decide +kernel
theorem zj_266_4 {S : zSs} {D n u : Nat} {sh : zk_S} {d : zm_D} {Q : ((Option zv_V) ⊕ Nat) → Nat → zk_S → zm_D → Nat → Prop} {L : zN} {st : List zv_V} : zJ S D 266 4 L st n sh d u Q ↔ zB S D 266 zb_266_4 L st n sh d u Q := by unfold zJ; rw [zc_266_4]
theorem zn_266 : znl 266 = 2 := by decide +kernel
theorem ze_266 {S : zSs} {D n u : Nat} {sh : zk_S} {d : zm_D} {Q : ((Option zv_V) ⊕ Nat) → Nat → zk_S → zm_D → Nat → Prop} {x0 : Int} {x1 : Int} : zE S D 266 [zv_a x0, zv_i x1] n sh d u Q ↔ zB S D 266 zb_266_0 [some (zv_a x0), some (zv_i x1)] [] n sh d u Q := by
  unfold zE; rw [zn_266, zc_266_0]; exact ⟨fun h => h.2, fun h => ⟨Nat.le_of_ble_eq_true rfl, h⟩⟩
theorem ze_266s {S : zSs} {D n u : Nat} {sh : zk_S} {d : zm_D} {Q : ((Option zv_V) ⊕ Nat) → Nat → zk_S → zm_D → Nat → Prop} {x0 : Int} : zE S D 266 [zv_i x0] n sh d u Q ↔ zB S D 266 zb_266_0 [some (zv_i x0), none] [] n sh d u Q := by
  unfold zE; rw [zn_266, zc_266_0]; exact ⟨fun h => h.2, fun h => ⟨Nat.le_of_ble_eq_true rfl, h⟩⟩
theorem zh_266 : zhl 266 = [] := by decide +kernel
theorem zc_267_0 : zcd 267 0 = zb_267_0 := by decide +kernel
theorem zj_267_0 {S : zSs} {D n u : Nat} {sh : zk_S} {d : zm_D} {Q : ((Option zv_V) ⊕ Nat) → Nat → zk_S → zm_D → Nat → Prop} {L : zN} {st : List zv_V} : zJ S D 267 0 L st n sh d u Q ↔ zB S D 267 zb_267_0 L st n sh d u Q := by unfold zJ; rw [zc_267_0]
theorem zc_267_1 : zcd 267 1 = zb_267_1 := by decide +kernel
theorem zj_267_1 {S : zSs} {D n u : Nat} {sh : zk_S} {d : zm_D} {Q : ((Option zv_V) ⊕ Nat) → Nat → zk_S → zm_D → Nat → Prop} {L : zN} {st : List zv_V} : zJ S D 267 1 L st n sh d u Q ↔ zB S D 267 zb_267_1 L st n sh d u Q := by unfold zJ; rw [zc_267_1]
theorem zc_267_2 : zcd 267 2 = zb_267_2 := by decide +kernel
theorem zj_267_2 {S : zSs} {D n u : Nat} {sh : zk_S} {d : zm_D} {Q : ((Option zv_V) ⊕ Nat) → Nat → zk_S → zm_D → Nat → Prop} {L : zN} {st : List zv_V} : zJ S D 267 2 L st n sh d u Q ↔ zB S D 267 zb_267_2 L st n sh d u Q := by unfold zJ; rw [zc_267_2]
theorem zn_267 : znl 267 = 10 := by decide +kernel
theorem ze_267 {S : zSs} {D n u : Nat} {sh : zk_S} {d : zm_D} {Q : ((Option zv_V) ⊕ Nat) → Nat → zk_S → zm_D → Nat → Prop} {x0 : Int} {x1 : Int} {x2 : Int} : zE S D 267 [zv_a x0, zv_l x1, zv_l x2] n sh d u Q ↔ zB S D 267 zb_267_0 [some (zv_a x0), some (zv_l x1), none, some (zv_l x2), none, none, none, none, none, none] [] n sh d u Q := by
  unfold zE; rw [zn_267, zc_267_0]; exact ⟨fun h => h.2, fun h => ⟨Nat.le_of_ble_eq_true rfl, h⟩⟩
theorem ze_267s {S : zSs} {D n u : Nat} {sh : zk_S} {d : zm_D} {Q : ((Option zv_V) ⊕ Nat) → Nat → zk_S → zm_D → Nat → Prop} {x0 : Int} {x1 : Int} : zE S D 267 [zv_l x0, zv_l x1] n sh d u Q ↔ zB S D 267 zb_267_0 [some (zv_l x0), none, some (zv_l x1), none, none, none, none, none, none, none] [] n sh d u Q := by
  unfold zE; rw [zn_267, zc_267_0]; exact ⟨fun h => h.2, fun h => ⟨Nat.le_of_ble_eq_true rfl, h⟩⟩
theorem zh_267 : zhl 267 = [] := by decide +kernel
theorem zc_268_0 : zcd 268 0 = zb_268_0 := by decide +kernel
theorem zj_268_0 {S : zSs} {D n u : Nat} {sh : zk_S} {d : zm_D} {Q : ((Option zv_V) ⊕ Nat) → Nat → zk_S → zm_D → Nat → Prop} {L : zN} {st : List zv_V} : zJ S D 268 0 L st n sh d u Q ↔ zB S D 268 zb_268_0 L st n sh d u Q := by unfold zJ; rw [zc_268_0]
theorem zc_268_1 : zcd 268 1 = zb_268_1 := by decide +kernel
theorem zj_268_1 {S : zSs} {D n u : Nat} {sh : zk_S} {d : zm_D} {Q : ((Option zv_V) ⊕ Nat) → Nat → zk_S → zm_D → Nat → Prop} {L : zN} {st : List zv_V} : zJ S D 268 1 L st n sh d u Q ↔ zB S D 268 zb_268_1 L st n sh d u Q := by unfold zJ; rw [zc_268_1]
theorem zc_268_2 : zcd 268 2 = zb_268_2 := by decide +kernel
theorem zj_268_2 {S : zSs} {D n u : Nat} {sh : zk_S} {d : zm_D} {Q : ((Option zv_V) ⊕ Nat) → Nat → zk_S → zm_D → Nat → Prop} {L : zN} {st : List zv_V} : zJ S D 268 2 L st n sh d u Q ↔ zB S D 268 zb_268_2 L st n sh d u Q := by unfold zJ; rw [zc_268_2]
theorem zc_268_3 : zcd 268 3 = zb_268_3 := by decide +kernel
theorem zj_268_3 {S : zSs} {D n u : Nat} {sh : zk_S} {d : zm_D} {Q : ((Option zv_V) ⊕ Nat) → Nat → zk_S → zm_D → Nat → Prop} {L : zN} {st : List zv_V} : zJ S D 268 3 L st n sh d u Q ↔ zB S D 268 zb_268_3 L st n sh d u Q := by unfold zJ; rw [zc_268_3]
theorem zc_268_4 : zcd 268 4 = zb_268_4 := by decide +kernel
theorem zj_268_4 {S : zSs} {D n u : Nat} {sh : zk_S} {d : zm_D} {Q : ((Option zv_V) ⊕ Nat) → Nat → zk_S → zm_D → Nat → Prop} {L : zN} {st : List zv_V} : zJ S D 268 4 L st n sh d u Q ↔ zB S D 268 zb_268_4 L st n sh d u Q := by unfold zJ; rw [zc_268_4]
theorem zn_268 : znl 268 = 4 := by decide +kernel
theorem ze_268 {S : zSs} {D n u : Nat} {sh : zk_S} {d : zm_D} {Q : ((Option zv_V) ⊕ Nat) → Nat → zk_S → zm_D → Nat → Prop} {x0 : Int} {x1 : Int} : zE S D 268 [zv_a x0, zv_i x1] n sh d u Q ↔ zB S D 268 zb_268_0 [some (zv_a x0), some (zv_i x1), none, none] [] n sh d u Q := by
  unfold zE; rw [zn_268, zc_268_0]; exact ⟨fun h => h.2, fun h => ⟨Nat.le_of_ble_eq_true rfl, h⟩⟩
theorem ze_268s {S : zSs} {D n u : Nat} {sh : zk_S} {d : zm_D} {Q : ((Option zv_V) ⊕ Nat) → Nat → zk_S → zm_D → Nat → Prop} {x0 : Int} : zE S D 268 [zv_i x0] n sh d u Q ↔ zB S D 268 zb_268_0 [some (zv_i x0), none, none, none] [] n sh d u Q := by
  unfold zE; rw [zn_268, zc_268_0]; exact ⟨fun h => h.2, fun h => ⟨Nat.le_of_ble_eq_true rfl, h⟩⟩
theorem zh_268 : zhl 268 = [] := by decide +kernel
theorem zc_269_0 : zcd 269 0 = zb_269_0 := by decide +kernel
theorem zj_269_0 {S : zSs} {D n u : Nat} {sh : zk_S} {d : zm_D} {Q : ((Option zv_V) ⊕ Nat) → Nat → zk_S → zm_D → Nat → Prop} {L : zN} {st : List zv_V} : zJ S D 269 0 L st n sh d u Q ↔ zB S D 269 zb_269_0 L st n sh d u Q := by unfold zJ; rw [zc_269_0]
theorem zc_269_1 : zcd 269 1 = zb_269_1 := by decide +kernel
theorem zj_269_1 {S : zSs} {D n u : Nat} {sh : zk_S} {d : zm_D} {Q : ((Option zv_V) ⊕ Nat) → Nat → zk_S → zm_D → Nat → Prop} {L : zN} {st : List zv_V} : zJ S D 269 1 L st n sh d u Q ↔ zB S D 269 zb_269_1 L st n sh d u Q := by unfold zJ; rw [zc_269_1]
theorem zc_269_2 : zcd 269 2 = zb_269_2 := by decide +kernel
theorem zj_269_2 {S : zSs} {D n u : Nat} {sh : zk_S} {d : zm_D} {Q : ((Option zv_V) ⊕ Nat) → Nat → zk_S → zm_D → Nat → Prop} {L : zN} {st : List zv_V} : zJ S D 269 2 L st n sh d u Q ↔ zB S D 269 zb_269_2 L st n sh d u Q := by unfold zJ; rw [zc_269_2]
theorem zc_269_3 : zcd 269 3 = zb_269_3 := by decide +kernel
theorem zj_269_3 {S : zSs} {D n u : Nat} {sh : zk_S} {d : zm_D} {Q : ((Option zv_V) ⊕ Nat) → Nat → zk_S → zm_D → Nat → Prop} {L : zN} {st : List zv_V} : zJ S D 269 3 L st n sh d u Q ↔ zB S D 269 zb_269_3 L st n sh d u Q := by unfold zJ; rw [zc_269_3]
theorem zc_269_4 : zcd 269 4 = zb_269_4 := by decide +kernel
theorem zj_269_4 {S : zSs} {D n u : Nat} {sh : zk_S} {d : zm_D} {Q : ((Option zv_V) ⊕ Nat) → Nat → zk_S → zm_D → Nat → Prop} {L : zN} {st : List zv_V} : zJ S D 269 4 L st n sh d u Q ↔ zB S D 269 zb_269_4 L st n sh d u Q := by unfold zJ; rw [zc_269_4]
theorem zc_269_5 : zcd 269 5 = zb_269_5 := by decide +kernel
theorem zj_269_5 {S : zSs} {D n u : Nat} {sh : zk_S} {d : zm_D} {Q : ((Option zv_V) ⊕ Nat) → Nat → zk_S → zm_D → Nat → Prop} {L : zN} {st : List zv_V} : zJ S D 269 5 L st n sh d u Q ↔ zB S D 269 zb_269_5 L st n sh d u Q := by unfold zJ; rw [zc_269_5]
theorem zc_269_6 : zcd 269 6 = zb_269_6 := by decide +kernel
theorem zj_269_6 {S : zSs} {D n u : Nat} {sh : zk_S} {d : zm_D} {Q : ((Option zv_V) ⊕ Nat) → Nat → zk_S → zm_D → Nat → Prop} {L : zN} {st : List zv_V} : zJ S D 269 6 L st n sh d u Q ↔ zB S D 269 zb_269_6 L st n sh d u Q := by unfold zJ; rw [zc_269_6]
theorem zc_269_7 : zcd 269 7 = zb_269_7 := by decide +kernel
theorem zj_269_7 {S : zSs} {D n u : Nat} {sh : zk_S} {d : zm_D} {Q : ((Option zv_V) ⊕ Nat) → Nat → zk_S → zm_D → Nat → Prop} {L : zN} {st : List zv_V} : zJ S D 269 7 L st n sh d u Q ↔ zB S D 269 zb_269_7 L st n sh d u Q := by unfold zJ; rw [zc_269_7]
theorem zc_269_8 : zcd 269 8 = zb_269_8 := by decide +kernel
theorem zj_269_8 {S : zSs} {D n u : Nat} {sh : zk_S} {d : zm_D} {Q : ((Option zv_V) ⊕ Nat) → Nat → zk_S → zm_D → Nat → Prop} {L : zN} {st : List zv_V} : zJ S D 269 8 L st n sh d u Q ↔ zB S D 269 zb_269_8 L st n sh d u Q := by unfold zJ; rw [zc_269_8]
theorem zn_269 : znl 269 = 4 := by decide +kernel
theorem ze_269 {S : zSs} {D n u : Nat} {sh : zk_S} {d : zm_D} {Q : ((Option zv_V) ⊕ Nat) → Nat → zk_S → zm_D → Nat → Prop} {x0 : Int} {x1 : Int} {x2 : Int} : zE S D 269 [zv_a x0, zv_i x1, zv_i x2] n sh d u Q ↔ zB S D 269 zb_269_0 [some (zv_a x0), some (zv_i x1), some (zv_i x2), none] [] n sh d u Q := by
  unfold zE; rw [zn_269, zc_269_0]; exact ⟨fun h => h.2, fun h => ⟨Nat.le_of_ble_eq_true rfl, h⟩⟩
theorem ze_269s {S : zSs} {D n u : Nat} {sh : zk_S} {d : zm_D} {Q : ((Option zv_V) ⊕ Nat) → Nat → zk_S → zm_D → Nat → Prop} {x0 : Int} {x1 : Int} : zE S D 269 [zv_i x0, zv_i x1] n sh d u Q ↔ zB S D 269 zb_269_0 [some (zv_i x0), some (zv_i x1), none, none] [] n sh d u Q := by
  unfold zE; rw [zn_269, zc_269_0]; exact ⟨fun h => h.2, fun h => ⟨Nat.le_of_ble_eq_true rfl, h⟩⟩
theorem zh_269 : zhl 269 = [] := by decide +kernel
theorem zc_270_0 : zcd 270 0 = zb_270_0 := by decide +kernel
theorem zj_270_0 {S : zSs} {D n u : Nat} {sh : zk_S} {d : zm_D} {Q : ((Option zv_V) ⊕ Nat) → Nat → zk_S → zm_D → Nat → Prop} {L : zN} {st : List zv_V} : zJ S D 270 0 L st n sh d u Q ↔ zB S D 270 zb_270_0 L st n sh d u Q := by unfold zJ; rw [zc_270_0]
theorem zn_270 : znl 270 = 2 := by decide +kernel
theorem ze_270 {S : zSs} {D n u : Nat} {sh : zk_S} {d : zm_D} {Q : ((Option zv_V) ⊕ Nat) → Nat → zk_S → zm_D → Nat → Prop} {x0 : Int} {x1 : Int} : zE S D 270 [zv_a x0, zv_i x1] n sh d u Q ↔ zB S D 270 zb_270_0 [some (zv_a x0), some (zv_i x1)] [] n sh d u Q := by
  unfold zE; rw [zn_270, zc_270_0]; exact ⟨fun h => h.2, fun h => ⟨Nat.le_of_ble_eq_true rfl, h⟩⟩
theorem ze_270s {S : zSs} {D n u : Nat} {sh : zk_S} {d : zm_D} {Q : ((Option zv_V) ⊕ Nat) → Nat → zk_S → zm_D → Nat → Prop} {x0 : Int} : zE S D 270 [zv_i x0] n sh d u Q ↔ zB S D 270 zb_270_0 [some (zv_i x0), none] [] n sh d u Q := by
  unfold zE; rw [zn_270, zc_270_0]; exact ⟨fun h => h.2, fun h => ⟨Nat.le_of_ble_eq_true rfl, h⟩⟩
theorem zh_270 : zhl 270 = [] := by decide +kernel
theorem zc_271_0 : zcd 271 0 = zb_271_0 := by decide +kernel
theorem zj_271_0 {S : zSs} {D n u : Nat} {sh : zk_S} {d : zm_D} {Q : ((Option zv_V) ⊕ Nat) → Nat → zk_S → zm_D → Nat → Prop} {L : zN} {st : List zv_V} : zJ S D 271 0 L st n sh d u Q ↔ zB S D 271 zb_271_0 L st n sh d u Q := by unfold zJ; rw [zc_271_0]
theorem zn_271 : znl 271 = 2 := by decide +kernel
theorem ze_271 {S : zSs} {D n u : Nat} {sh : zk_S} {d : zm_D} {Q : ((Option zv_V) ⊕ Nat) → Nat → zk_S → zm_D → Nat → Prop} {x0 : Int} {x1 : Int} : zE S D 271 [zv_a x0, zv_i x1] n sh d u Q ↔ zB S D 271 zb_271_0 [some (zv_a x0), some (zv_i x1)] [] n sh d u Q := by
  unfold zE; rw [zn_271, zc_271_0]; exact ⟨fun h => h.2, fun h => ⟨Nat.le_of_ble_eq_true rfl, h⟩⟩
theorem ze_271s {S : zSs} {D n u : Nat} {sh : zk_S} {d : zm_D} {Q : ((Option zv_V) ⊕ Nat) → Nat → zk_S → zm_D → Nat → Prop} {x0 : Int} : zE S D 271 [zv_i x0] n sh d u Q ↔ zB S D 271 zb_271_0 [some (zv_i x0), none] [] n sh d u Q := by
  unfold zE; rw [zn_271, zc_271_0]; exact ⟨fun h => h.2, fun h => ⟨Nat.le_of_ble_eq_true rfl, h⟩⟩
theorem zh_271 : zhl 271 = [] := by decide +kernel
theorem zc_272_0 : zcd 272 0 = zb_272_0 := by decide +kernel
theorem zj_272_0 {S : zSs} {D n u : Nat} {sh : zk_S} {d : zm_D} {Q : ((Option zv_V) ⊕ Nat) → Nat → zk_S → zm_D → Nat → Prop} {L : zN} {st : List zv_V} : zJ S D 272 0 L st n sh d u Q ↔ zB S D 272 zb_272_0 L st n sh d u Q := by unfold zJ; rw [zc_272_0]
theorem zc_272_1 : zcd 272 1 = zb_272_1 := by decide +kernel
theorem zj_272_1 {S : zSs} {D n u : Nat} {sh : zk_S} {d : zm_D} {Q : ((Option zv_V) ⊕ Nat) → Nat → zk_S → zm_D → Nat → Prop} {L : zN} {st : List zv_V} : zJ S D 272 1 L st n sh d u Q ↔ zB S D 272 zb_272_1 L st n sh d u Q := by unfold zJ; rw [zc_272_1]
theorem zc_272_2 : zcd 272 2 = zb_272_2 := by decide +kernel
theorem zj_272_2 {S : zSs} {D n u : Nat} {sh : zk_S} {d : zm_D} {Q : ((Option zv_V) ⊕ Nat) → Nat → zk_S → zm_D → Nat → Prop} {L : zN} {st : List zv_V} : zJ S D 272 2 L st n sh d u Q ↔ zB S D 272 zb_272_2 L st n sh d u Q := by unfold zJ; rw [zc_272_2]
theorem zc_272_3 : zcd 272 3 = zb_272_3 := by decide +kernel
theorem zj_272_3 {S : zSs} {D n u : Nat} {sh : zk_S} {d : zm_D} {Q : ((Option zv_V) ⊕ Nat) → Nat → zk_S → zm_D → Nat → Prop} {L : zN} {st : List zv_V} : zJ S D 272 3 L st n sh d u Q ↔ zB S D 272 zb_272_3 L st n sh d u Q := by unfold zJ; rw [zc_272_3]
theorem zc_272_4 : zcd 272 4 = zb_272_4 := by decide +kernel
theorem zj_272_4 {S : zSs} {D n u : Nat} {sh : zk_S} {d : zm_D} {Q : ((Option zv_V) ⊕ Nat) → Nat → zk_S → zm_D → Nat → Prop} {L : zN} {st : List zv_V} : zJ S D 272 4 L st n sh d u Q ↔ zB S D 272 zb_272_4 L st n sh d u Q := by unfold zJ; rw [zc_272_4]
theorem zc_272_5 : zcd 272 5 = zb_272_5 := by decide +kernel
theorem zj_272_5 {S : zSs} {D n u : Nat} {sh : zk_S} {d : zm_D} {Q : ((Option zv_V) ⊕ Nat) → Nat → zk_S → zm_D → Nat → Prop} {L : zN} {st : List zv_V} : zJ S D 272 5 L st n sh d u Q ↔ zB S D 272 zb_272_5 L st n sh d u Q := by unfold zJ; rw [zc_272_5]
theorem zc_272_6 : zcd 272 6 = zb_272_6 := by decide +kernel
theorem zj_272_6 {S : zSs} {D n u : Nat} {sh : zk_S} {d : zm_D} {Q : ((Option zv_V) ⊕ Nat) → Nat → zk_S → zm_D → Nat → Prop} {L : zN} {st : List zv_V} : zJ S D 272 6 L st n sh d u Q ↔ zB S D 272 zb_272_6 L st n sh d u Q := by unfold zJ; rw [zc_272_6]
theorem zc_272_7 : zcd 272 7 = zb_272_7 := by decide +kernel
theorem zj_272_7 {S : zSs} {D n u : Nat} {sh : zk_S} {d : zm_D} {Q : ((Option zv_V) ⊕ Nat) → Nat → zk_S → zm_D → Nat → Prop} {L : zN} {st : List zv_V} : zJ S D 272 7 L st n sh d u Q ↔ zB S D 272 zb_272_7 L st n sh d u Q := by unfold zJ; rw [zc_272_7]
theorem zc_272_8 : zcd 272 8 = zb_272_8 := by decide +kernel
theorem zj_272_8 {S : zSs} {D n u : Nat} {sh : zk_S} {d : zm_D} {Q : ((Option zv_V) ⊕ Nat) → Nat → zk_S → zm_D → Nat → Prop} {L : zN} {st : List zv_V} : zJ S D 272 8 L st n sh d u Q ↔ zB S D 272 zb_272_8 L st n sh d u Q := by unfold zJ; rw [zc_272_8]
theorem zc_272_9 : zcd 272 9 = zb_272_9 := by decide +kernel
theorem zj_272_9 {S : zSs} {D n u : Nat} {sh : zk_S} {d : zm_D} {Q : ((Option zv_V) ⊕ Nat) → Nat → zk_S → zm_D → Nat → Prop} {L : zN} {st : List zv_V} : zJ S D 272 9 L st n sh d u Q ↔ zB S D 272 zb_272_9 L st n sh d u Q := by unfold zJ; rw [zc_272_9]
theorem zc_272_10 : zcd 272 10 = zb_272_10 := by decide +kernel
theorem zj_272_10 {S : zSs} {D n u : Nat} {sh : zk_S} {d : zm_D} {Q : ((Option zv_V) ⊕ Nat) → Nat → zk_S → zm_D → Nat → Prop} {L : zN} {st : List zv_V} : zJ S D 272 10 L st n sh d u Q ↔ zB S D 272 zb_272_10 L st n sh d u Q := by unfold zJ; rw [zc_272_10]
theorem zc_272_11 : zcd 272 11 = zb_272_11 := by decide +kernel
theorem zj_272_11 {S : zSs} {D n u : Nat} {sh : zk_S} {d : zm_D} {Q : ((Option zv_V) ⊕ Nat) → Nat → zk_S → zm_D → Nat → Prop} {L : zN} {st : List zv_V} : zJ S D 272 11 L st n sh d u Q ↔ zB S D 272 zb_272_11 L st n sh d u Q := by unfold zJ; rw [zc_272_11]
theorem zc_272_12 : zcd 272 12 = zb_272_12 := by decide +kernel
theorem zj_272_12 {S : zSs} {D n u : Nat} {sh : zk_S} {d : zm_D} {Q : ((Option zv_V) ⊕ Nat) → Nat → zk_S → zm_D → Nat → Prop} {L : zN} {st : List zv_V} : zJ S D 272 12 L st n sh d u Q ↔ zB S D 272 zb_272_12 L st n sh d u Q := by unfold zJ; rw [zc_272_12]
theorem zc_272_13 : zcd 272 13 = zb_272_13 := by decide +kernel
theorem zj_272_13 {S : zSs} {D n u : Nat} {sh : zk_S} {d : zm_D} {Q : ((Option zv_V) ⊕ Nat) → Nat → zk_S → zm_D → Nat → Prop} {L : zN} {st : List zv_V} : zJ S D 272 13 L st n sh d u Q ↔ zB S D 272 zb_272_13 L st n sh d u Q := by unfold zJ; rw [zc_272_13]
theorem zn_272 : znl 272 = 12 := by decide +kernel
theorem ze_272 {S : zSs} {D n u : Nat} {sh : zk_S} {d : zm_D} {Q : ((Option zv_V) ⊕ Nat) → Nat → zk_S → zm_D → Nat → Prop} {x0 : Int} {x1 : Int} {x2 : Int} {x3 : Int} {x4 : Int} : zE S D 272 [zv_a x0, zv_i x1, zv_i x2, zv_i x3, zv_i x4] n sh d u Q ↔ zB S D 272 zb_272_0 [some (zv_a x0), some (zv_i x1), some (zv_i x2), some (zv_i x3), some (zv_i x4), none, none, none, none, none, none, none] [] n sh d u Q := by
  unfold zE; rw [zn_272, zc_272_0]; exact ⟨fun h => h.2, fun h => ⟨Nat.le_of_ble_eq_true rfl, h⟩⟩
theorem ze_272s {S : zSs} {D n u : Nat} {sh : zk_S} {d : zm_D} {Q : ((Option zv_V) ⊕ Nat) → Nat → zk_S → zm_D → Nat → Prop} {x0 : Int} {x1 : Int} {x2 : Int} {x3 : Int} : zE S D 272 [zv_i x0, zv_i x1, zv_i x2, zv_i x3] n sh d u Q ↔ zB S D 272 zb_272_0 [some (zv_i x0), some (zv_i x1), some (zv_i x2), some (zv_i x3), none, none, none, none, none, none, none, none] [] n sh d u Q := by
  unfold zE; rw [zn_272, zc_272_0]; exact ⟨fun h => h.2, fun h => ⟨Nat.le_of_ble_eq_true rfl, h⟩⟩
theorem zh_272 : zhl 272 = [] := by decide +kernel
theorem zc_273_0 : zcd 273 0 = zb_273_0 := by decide +kernel
theorem zj_273_0 {S : zSs} {D n u : Nat} {sh : zk_S} {d : zm_D} {Q : ((Option zv_V) ⊕ Nat) → Nat → zk_S → zm_D → Nat → Prop} {L : zN} {st : List zv_V} : zJ S D 273 0 L st n sh d u Q ↔ zB S D 273 zb_273_0 L st n sh d u Q := by unfold zJ; rw [zc_273_0]
theorem zc_273_1 : zcd 273 1 = zb_273_1 := by decide +kernel
theorem zj_273_1 {S : zSs} {D n u : Nat} {sh : zk_S} {d : zm_D} {Q : ((Option zv_V) ⊕ Nat) → Nat → zk_S → zm_D → Nat → Prop} {L : zN} {st : List zv_V} : zJ S D 273 1 L st n sh d u Q ↔ zB S D 273 zb_273_1 L st n sh d u Q := by unfold zJ; rw [zc_273_1]
theorem zc_273_2 : zcd 273 2 = zb_273_2 := by decide +kernel
theorem zj_273_2 {S : zSs} {D n u : Nat} {sh : zk_S} {d : zm_D} {Q : ((Option zv_V) ⊕ Nat) → Nat → zk_S → zm_D → Nat → Prop} {L : zN} {st : List zv_V} : zJ S D 273 2 L st n sh d u Q ↔ zB S D 273 zb_273_2 L st n sh d u Q := by unfold zJ; rw [zc_273_2]
theorem zc_273_3 : zcd 273 3 = zb_273_3 := by decide +kernel
theorem zj_273_3 {S : zSs} {D n u : Nat} {sh : zk_S} {d : zm_D} {Q : ((Option zv_V) ⊕ Nat) → Nat → zk_S → zm_D → Nat → Prop} {L : zN} {st : List zv_V} : zJ S D 273 3 L st n sh d u Q ↔ zB S D 273 zb_273_3 L st n sh d u Q := by unfold zJ; rw [zc_273_3]
theorem zc_273_4 : zcd 273 4 = zb_273_4 := by decide +kernel
theorem zj_273_4 {S : zSs} {D n u : Nat} {sh : zk_S} {d : zm_D} {Q : ((Option zv_V) ⊕ Nat) → Nat → zk_S → zm_D → Nat → Prop} {L : zN} {st : List zv_V} : zJ S D 273 4 L st n sh d u Q ↔ zB S D 273 zb_273_4 L st n sh d u Q := by unfold zJ; rw [zc_273_4]
theorem zc_273_5 : zcd 273 5 = zb_273_5 := by decide +kernel
theorem zj_273_5 {S : zSs} {D n u : Nat} {sh : zk_S} {d : zm_D} {Q : ((Option zv_V) ⊕ Nat) → Nat → zk_S → zm_D → Nat → Prop} {L : zN} {st : List zv_V} : zJ S D 273 5 L st n sh d u Q ↔ zB S D 273 zb_273_5 L st n sh d u Q := by unfold zJ; rw [zc_273_5]
theorem zc_273_6 : zcd 273 6 = zb_273_6 := by decide +kernel
theorem zj_273_6 {S : zSs} {D n u : Nat} {sh : zk_S} {d : zm_D} {Q : ((Option zv_V) ⊕ Nat) → Nat → zk_S → zm_D → Nat → Prop} {L : zN} {st : List zv_V} : zJ S D 273 6 L st n sh d u Q ↔ zB S D 273 zb_273_6 L st n sh d u Q := by unfold zJ; rw [zc_273_6]
theorem zc_273_7 : zcd 273 7 = zb_273_7 := by decide +kernel
theorem zj_273_7 {S : zSs} {D n u : Nat} {sh : zk_S} {d : zm_D} {Q : ((Option zv_V) ⊕ Nat) → Nat → zk_S → zm_D → Nat → Prop} {L : zN} {st : List zv_V} : zJ S D 273 7 L st n sh d u Q ↔ zB S D 273 zb_273_7 L st n sh d u Q := by unfold zJ; rw [zc_273_7]
theorem zc_273_8 : zcd 273 8 = zb_273_8 := by decide +kernel
theorem zj_273_8 {S : zSs} {D n u : Nat} {sh : zk_S} {d : zm_D} {Q : ((Option zv_V) ⊕ Nat) → Nat → zk_S → zm_D → Nat → Prop} {L : zN} {st : List zv_V} : zJ S D 273 8 L st n sh d u Q ↔ zB S D 273 zb_273_8 L st n sh d u Q := by unfold zJ; rw [zc_273_8]
theorem zc_273_9 : zcd 273 9 = zb_273_9 := by decide +kernel
theorem zj_273_9 {S : zSs} {D n u : Nat} {sh : zk_S} {d : zm_D} {Q : ((Option zv_V) ⊕ Nat) → Nat → zk_S → zm_D → Nat → Prop} {L : zN} {st : List zv_V} : zJ S D 273 9 L st n sh d u Q ↔ zB S D 273 zb_273_9 L st n sh d u Q := by unfold zJ; rw [zc_273_9]
theorem zc_273_10 : zcd 273 10 = zb_273_10 := by decide +kernel
theorem zj_273_10 {S : zSs} {D n u : Nat} {sh : zk_S} {d : zm_D} {Q : ((Option zv_V) ⊕ Nat) → Nat → zk_S → zm_D → Nat → Prop} {L : zN} {st : List zv_V} : zJ S D 273 10 L st n sh d u Q ↔ zB S D 273 zb_273_10 L st n sh d u Q := by unfold zJ; rw [zc_273_10]
theorem zn_273 : znl 273 = 3 := by decide +kernel
theorem ze_273 {S : zSs} {D n u : Nat} {sh : zk_S} {d : zm_D} {Q : ((Option zv_V) ⊕ Nat) → Nat → zk_S → zm_D → Nat → Prop} {x0 : Int} {x1 : Int} : zE S D 273 [zv_a x0, zv_i x1] n sh d u Q ↔ zB S D 273 zb_273_0 [some (zv_a x0), some (zv_i x1), none] [] n sh d u Q := by
  unfold zE; rw [zn_273, zc_273_0]; exact ⟨fun h => h.2, fun h => ⟨Nat.le_of_ble_eq_true rfl, h⟩⟩
theorem ze_273s {S : zSs} {D n u : Nat} {sh : zk_S} {d : zm_D} {Q : ((Option zv_V) ⊕ Nat) → Nat → zk_S → zm_D → Nat → Prop} {x0 : Int} : zE S D 273 [zv_i x0] n sh d u Q ↔ zB S D 273 zb_273_0 [some (zv_i x0), none, none] [] n sh d u Q := by
  unfold zE; rw [zn_273, zc_273_0]; exact ⟨fun h => h.2, fun h => ⟨Nat.le_of_ble_eq_true rfl, h⟩⟩
theorem zh_273 : zhl 273 = [] := by decide +kernel
theorem zc_274_0 : zcd 274 0 = zb_274_0 := by decide +kernel
theorem zj_274_0 {S : zSs} {D n u : Nat} {sh : zk_S} {d : zm_D} {Q : ((Option zv_V) ⊕ Nat) → Nat → zk_S → zm_D → Nat → Prop} {L : zN} {st : List zv_V} : zJ S D 274 0 L st n sh d u Q ↔ zB S D 274 zb_274_0 L st n sh d u Q := by unfold zJ; rw [zc_274_0]
theorem zc_274_1 : zcd 274 1 = zb_274_1 := by decide +kernel
theorem zj_274_1 {S : zSs} {D n u : Nat} {sh : zk_S} {d : zm_D} {Q : ((Option zv_V) ⊕ Nat) → Nat → zk_S → zm_D → Nat → Prop} {L : zN} {st : List zv_V} : zJ S D 274 1 L st n sh d u Q ↔ zB S D 274 zb_274_1 L st n sh d u Q := by unfold zJ; rw [zc_274_1]
theorem zc_274_2 : zcd 274 2 = zb_274_2 := by decide +kernel
theorem zj_274_2 {S : zSs} {D n u : Nat} {sh : zk_S} {d : zm_D} {Q : ((Option zv_V) ⊕ Nat) → Nat → zk_S → zm_D → Nat → Prop} {L : zN} {st : List zv_V} : zJ S D 274 2 L st n sh d u Q ↔ zB S D 274 zb_274_2 L st n sh d u Q := by unfold zJ; rw [zc_274_2]
theorem zc_274_3 : zcd 274 3 = zb_274_3 := by decide +kernel
theorem zj_274_3 {S : zSs} {D n u : Nat} {sh : zk_S} {d : zm_D} {Q : ((Option zv_V) ⊕ Nat) → Nat → zk_S → zm_D → Nat → Prop} {L : zN} {st : List zv_V} : zJ S D 274 3 L st n sh d u Q ↔ zB S D 274 zb_274_3 L st n sh d u Q := by unfold zJ; rw [zc_274_3]
theorem zc_274_4 : zcd 274 4 = zb_274_4 := by decide +kernel
theorem zj_274_4 {S : zSs} {D n u : Nat} {sh : zk_S} {d : zm_D} {Q : ((Option zv_V) ⊕ Nat) → Nat → zk_S → zm_D → Nat → Prop} {L : zN} {st : List zv_V} : zJ S D 274 4 L st n sh d u Q ↔ zB S D 274 zb_274_4 L st n sh d u Q := by unfold zJ; rw [zc_274_4]
theorem zn_274 : znl 274 = 4 := by decide +kernel
theorem ze_274 {S : zSs} {D n u : Nat} {sh : zk_S} {d : zm_D} {Q : ((Option zv_V) ⊕ Nat) → Nat → zk_S → zm_D → Nat → Prop} {x0 : Int} {x1 : Int} {x2 : Int} : zE S D 274 [zv_a x0, zv_i x1, zv_i x2] n sh d u Q ↔ zB S D 274 zb_274_0 [some (zv_a x0), some (zv_i x1), some (zv_i x2), none] [] n sh d u Q := by
  unfold zE; rw [zn_274, zc_274_0]; exact ⟨fun h => h.2, fun h => ⟨Nat.le_of_ble_eq_true rfl, h⟩⟩
theorem ze_274s {S : zSs} {D n u : Nat} {sh : zk_S} {d : zm_D} {Q : ((Option zv_V) ⊕ Nat) → Nat → zk_S → zm_D → Nat → Prop} {x0 : Int} {x1 : Int} : zE S D 274 [zv_i x0, zv_i x1] n sh d u Q ↔ zB S D 274 zb_274_0 [some (zv_i x0), some (zv_i x1), none, none] [] n sh d u Q := by
  unfold zE; rw [zn_274, zc_274_0]; exact ⟨fun h => h.2, fun h => ⟨Nat.le_of_ble_eq_true rfl, h⟩⟩
theorem zh_274 : zhl 274 = [] := by decide +kernel
theorem zc_275_0 : zcd 275 0 = zb_275_0 := by decide +kernel
theorem zj_275_0 {S : zSs} {D n u : Nat} {sh : zk_S} {d : zm_D} {Q : ((Option zv_V) ⊕ Nat) → Nat → zk_S → zm_D → Nat → Prop} {L : zN} {st : List zv_V} : zJ S D 275 0 L st n sh d u Q ↔ zB S D 275 zb_275_0 L st n sh d u Q := by unfold zJ; rw [zc_275_0]
theorem zc_275_1 : zcd 275 1 = zb_275_1 := by decide +kernel
theorem zj_275_1 {S : zSs} {D n u : Nat} {sh : zk_S} {d : zm_D} {Q : ((Option zv_V) ⊕ Nat) → Nat → zk_S → zm_D → Nat → Prop} {L : zN} {st : List zv_V} : zJ S D 275 1 L st n sh d u Q ↔ zB S D 275 zb_275_1 L st n sh d u Q := by unfold zJ; rw [zc_275_1]
theorem zc_275_2 : zcd 275 2 = zb_275_2 := by decide +kernel
theorem zj_275_2 {S : zSs} {D n u : Nat} {sh : zk_S} {d : zm_D} {Q : ((Option zv_V) ⊕ Nat) → Nat → zk_S → zm_D → Nat → Prop} {L : zN} {st : List zv_V} : zJ S D 275 2 L st n sh d u Q ↔ zB S D 275 zb_275_2 L st n sh d u Q := by unfold zJ; rw [zc_275_2]
theorem zn_275 : znl 275 = 3 := by decide +kernel
theorem ze_275 {S : zSs} {D n u : Nat} {sh : zk_S} {d : zm_D} {Q : ((Option zv_V) ⊕ Nat) → Nat → zk_S → zm_D → Nat → Prop} {x0 : Int} : zE S D 275 [zv_a x0] n sh d u Q ↔ zB S D 275 zb_275_0 [some (zv_a x0), none, none] [] n sh d u Q := by
  unfold zE; rw [zn_275, zc_275_0]; exact ⟨fun h => h.2, fun h => ⟨Nat.le_of_ble_eq_true rfl, h⟩⟩
theorem ze_275s {S : zSs} {D n u : Nat} {sh : zk_S} {d : zm_D} {Q : ((Option zv_V) ⊕ Nat) → Nat → zk_S → zm_D → Nat → Prop} : zE S D 275 [] n sh d u Q ↔ zB S D 275 zb_275_0 [none, none, none] [] n sh d u Q := by
  unfold zE; rw [zn_275, zc_275_0]; exact ⟨fun h => h.2, fun h => ⟨Nat.le_of_ble_eq_true rfl, h⟩⟩
theorem zh_275 : zhl 275 = [] := by decide +kernel
theorem zc_276_0 : zcd 276 0 = zb_276_0 := by decide +kernel
theorem zj_276_0 {S : zSs} {D n u : Nat} {sh : zk_S} {d : zm_D} {Q : ((Option zv_V) ⊕ Nat) → Nat → zk_S → zm_D → Nat → Prop} {L : zN} {st : List zv_V} : zJ S D 276 0 L st n sh d u Q ↔ zB S D 276 zb_276_0 L st n sh d u Q := by unfold zJ; rw [zc_276_0]
theorem zn_276 : znl 276 = 1 := by decide +kernel
theorem ze_276 {S : zSs} {D n u : Nat} {sh : zk_S} {d : zm_D} {Q : ((Option zv_V) ⊕ Nat) → Nat → zk_S → zm_D → Nat → Prop} {x0 : Int} : zE S D 276 [zv_a x0] n sh d u Q ↔ zB S D 276 zb_276_0 [some (zv_a x0)] [] n sh d u Q := by
  unfold zE; rw [zn_276, zc_276_0]; exact ⟨fun h => h.2, fun h => ⟨Nat.le_of_ble_eq_true rfl, h⟩⟩
theorem ze_276s {S : zSs} {D n u : Nat} {sh : zk_S} {d : zm_D} {Q : ((Option zv_V) ⊕ Nat) → Nat → zk_S → zm_D → Nat → Prop} : zE S D 276 [] n sh d u Q ↔ zB S D 276 zb_276_0 [none] [] n sh d u Q := by
  unfold zE; rw [zn_276, zc_276_0]; exact ⟨fun h => h.2, fun h => ⟨Nat.le_of_ble_eq_true rfl, h⟩⟩
theorem zh_276 : zhl 276 = [] := by decide +kernel
theorem zc_277_0 : zcd 277 0 = zb_277_0 := by decide +kernel
theorem zj_277_0 {S : zSs} {D n u : Nat} {sh : zk_S} {d : zm_D} {Q : ((Option zv_V) ⊕ Nat) → Nat → zk_S → zm_D → Nat → Prop} {L : zN} {st : List zv_V} : zJ S D 277 0 L st n sh d u Q ↔ zB S D 277 zb_277_0 L st n sh d u Q := by unfold zJ; rw [zc_277_0]
theorem zc_277_1 : zcd 277 1 = zb_277_1 := by decide +kernel
theorem zj_277_1 {S : zSs} {D n u : Nat} {sh : zk_S} {d : zm_D} {Q : ((Option zv_V) ⊕ Nat) → Nat → zk_S → zm_D → Nat → Prop} {L : zN} {st : List zv_V} : zJ S D 277 1 L st n sh d u Q ↔ zB S D 277 zb_277_1 L st n sh d u Q := by unfold zJ; rw [zc_277_1]
theorem zc_277_2 : zcd 277 2 = zb_277_2 := by decide +kernel
theorem zj_277_2 {S : zSs} {D n u : Nat} {sh : zk_S} {d : zm_D} {Q : ((Option zv_V) ⊕ Nat) → Nat → zk_S → zm_D → Nat → Prop} {L : zN} {st : List zv_V} : zJ S D 277 2 L st n sh d u Q ↔ zB S D 277 zb_277_2 L st n sh d u Q := by unfold zJ; rw [zc_277_2]
theorem zc_277_3 : zcd 277 3 = zb_277_3 := by decide +kernel
theorem zj_277_3 {S : zSs} {D n u : Nat} {sh : zk_S} {d : zm_D} {Q : ((Option zv_V) ⊕ Nat) → Nat → zk_S → zm_D → Nat → Prop} {L : zN} {st : List zv_V} : zJ S D 277 3 L st n sh d u Q ↔ zB S D 277 zb_277_3 L st n sh d u Q := by unfold zJ; rw [zc_277_3]
theorem zc_277_4 : zcd 277 4 = zb_277_4 := by decide +kernel
theorem zj_277_4 {S : zSs} {D n u : Nat} {sh : zk_S} {d : zm_D} {Q : ((Option zv_V) ⊕ Nat) → Nat → zk_S → zm_D → Nat → Prop} {L : zN} {st : List zv_V} : zJ S D 277 4 L st n sh d u Q ↔ zB S D 277 zb_277_4 L st n sh d u Q := by unfold zJ; rw [zc_277_4]
theorem zn_277 : znl 277 = 1 := by decide +kernel
theorem ze_277 {S : zSs} {D n u : Nat} {sh : zk_S} {d : zm_D} {Q : ((Option zv_V) ⊕ Nat) → Nat → zk_S → zm_D → Nat → Prop} {x0 : Int} : zE S D 277 [zv_a x0] n sh d u Q ↔ zB S D 277 zb_277_0 [some (zv_a x0)] [] n sh d u Q := by
  unfold zE; rw [zn_277, zc_277_0]; exact ⟨fun h => h.2, fun h => ⟨Nat.le_of_ble_eq_true rfl, h⟩⟩
theorem ze_277s {S : zSs} {D n u : Nat} {sh : zk_S} {d : zm_D} {Q : ((Option zv_V) ⊕ Nat) → Nat → zk_S → zm_D → Nat → Prop} : zE S D 277 [] n sh d u Q ↔ zB S D 277 zb_277_0 [none] [] n sh d u Q := by
  unfold zE; rw [zn_277, zc_277_0]; exact ⟨fun h => h.2, fun h => ⟨Nat.le_of_ble_eq_true rfl, h⟩⟩
theorem zh_277 : zhl 277 = [] := by decide +kernel
theorem zc_278_0 : zcd 278 0 = zb_278_0 := by decide +kernel
theorem zj_278_0 {S : zSs} {D n u : Nat} {sh : zk_S} {d : zm_D} {Q : ((Option zv_V) ⊕ Nat) → Nat → zk_S → zm_D → Nat → Prop} {L : zN} {st : List zv_V} : zJ S D 278 0 L st n sh d u Q ↔ zB S D 278 zb_278_0 L st n sh d u Q := by unfold zJ; rw [zc_278_0]
theorem zc_278_1 : zcd 278 1 = zb_278_1 := by decide +kernel
theorem zj_278_1 {S : zSs} {D n u : Nat} {sh : zk_S} {d : zm_D} {Q : ((Option zv_V) ⊕ Nat) → Nat → zk_S → zm_D → Nat → Prop} {L : zN} {st : List zv_V} : zJ S D 278 1 L st n sh d u Q ↔ zB S D 278 zb_278_1 L st n sh d u Q := by unfold zJ; rw [zc_278_1]
theorem zc_278_2 : zcd 278 2 = zb_278_2 := by decide +kernel
theorem zj_278_2 {S : zSs} {D n u : Nat} {sh : zk_S} {d : zm_D} {Q : ((Option zv_V) ⊕ Nat) → Nat → zk_S → zm_D → Nat → Prop} {L : zN} {st : List zv_V} : zJ S D 278 2 L st n sh d u Q ↔ zB S D 278 zb_278_2 L st n sh d u Q := by unfold zJ; rw [zc_278_2]
theorem zc_278_3 : zcd 278 3 = zb_278_3 := by decide +kernel
theorem zj_278_3 {S : zSs} {D n u : Nat} {sh : zk_S} {d : zm_D} {Q : ((Option zv_V) ⊕ Nat) → Nat → zk_S → zm_D → Nat → Prop} {L : zN} {st : List zv_V} : zJ S D 278 3 L st n sh d u Q ↔ zB S D 278 zb_278_3 L st n sh d u Q := by unfold zJ; rw [zc_278_3]
theorem zn_278 : znl 278 = 4 := by decide +kernel
theorem ze_278 {S : zSs} {D n u : Nat} {sh : zk_S} {d : zm_D} {Q : ((Option zv_V) ⊕ Nat) → Nat → zk_S → zm_D → Nat → Prop} {x0 : Int} {x1 : Int} : zE S D 278 [zv_a x0, zv_i x1] n sh d u Q ↔ zB S D 278 zb_278_0 [some (zv_a x0), some (zv_i x1), none, none] [] n sh d u Q := by
  unfold zE; rw [zn_278, zc_278_0]; exact ⟨fun h => h.2, fun h => ⟨Nat.le_of_ble_eq_true rfl, h⟩⟩
theorem ze_278s {S : zSs} {D n u : Nat} {sh : zk_S} {d : zm_D} {Q : ((Option zv_V) ⊕ Nat) → Nat → zk_S → zm_D → Nat → Prop} {x0 : Int} : zE S D 278 [zv_i x0] n sh d u Q ↔ zB S D 278 zb_278_0 [some (zv_i x0), none, none, none] [] n sh d u Q := by
  unfold zE; rw [zn_278, zc_278_0]; exact ⟨fun h => h.2, fun h => ⟨Nat.le_of_ble_eq_true rfl, h⟩⟩
theorem zh_278 : zhl 278 = [] := by decide +kernel
theorem zc_279_0 : zcd 279 0 = zb_279_0 := by decide +kernel
theorem zj_279_0 {S : zSs} {D n u : Nat} {sh : zk_S} {d : zm_D} {Q : ((Option zv_V) ⊕ Nat) → Nat → zk_S → zm_D → Nat → Prop} {L : zN} {st : List zv_V} : zJ S D 279 0 L st n sh d u Q ↔ zB S D 279 zb_279_0 L st n sh d u Q := by unfold zJ; rw [zc_279_0]
theorem zn_279 : znl 279 = 1 := by decide +kernel
theorem ze_279 {S : zSs} {D n u : Nat} {sh : zk_S} {d : zm_D} {Q : ((Option zv_V) ⊕ Nat) → Nat → zk_S → zm_D → Nat → Prop} {x0 : Int} : zE S D 279 [zv_a x0] n sh d u Q ↔ zB S D 279 zb_279_0 [some (zv_a x0)] [] n sh d u Q := by
  unfold zE; rw [zn_279, zc_279_0]; exact ⟨fun h => h.2, fun h => ⟨Nat.le_of_ble_eq_true rfl, h⟩⟩
theorem ze_279s {S : zSs} {D n u : Nat} {sh : zk_S} {d : zm_D} {Q : ((Option zv_V) ⊕ Nat) → Nat → zk_S → zm_D → Nat → Prop} : zE S D 279 [] n sh d u Q ↔ zB S D 279 zb_279_0 [none] [] n sh d u Q := by
  unfold zE; rw [zn_279, zc_279_0]; exact ⟨fun h => h.2, fun h => ⟨Nat.le_of_ble_eq_true rfl, h⟩⟩
theorem zh_279 : zhl 279 = [] := by decide +kernel
theorem zc_280_0 : zcd 280 0 = zb_280_0 := by decide +kernel
theorem zj_280_0 {S : zSs} {D n u : Nat} {sh : zk_S} {d : zm_D} {Q : ((Option zv_V) ⊕ Nat) → Nat → zk_S → zm_D → Nat → Prop} {L : zN} {st : List zv_V} : zJ S D 280 0 L st n sh d u Q ↔ zB S D 280 zb_280_0 L st n sh d u Q := by unfold zJ; rw [zc_280_0]
theorem zc_280_1 : zcd 280 1 = zb_280_1 := by decide +kernel
theorem zj_280_1 {S : zSs} {D n u : Nat} {sh : zk_S} {d : zm_D} {Q : ((Option zv_V) ⊕ Nat) → Nat → zk_S → zm_D → Nat → Prop} {L : zN} {st : List zv_V} : zJ S D 280 1 L st n sh d u Q ↔ zB S D 280 zb_280_1 L st n sh d u Q := by unfold zJ; rw [zc_280_1]
theorem zc_280_2 : zcd 280 2 = zb_280_2 := by decide +kernel
theorem zj_280_2 {S : zSs} {D n u : Nat} {sh : zk_S} {d : zm_D} {Q : ((Option zv_V) ⊕ Nat) → Nat → zk_S → zm_D → Nat → Prop} {L : zN} {st : List zv_V} : zJ S D 280 2 L st n sh d u Q ↔ zB S D 280 zb_280_2 L st n sh d u Q := by unfold zJ; rw [zc_280_2]
theorem zc_280_3 : zcd 280 3 = zb_280_3 := by decide +kernel
theorem zj_280_3 {S : zSs} {D n u : Nat} {sh : zk_S} {d : zm_D} {Q : ((Option zv_V) ⊕ Nat) → Nat → zk_S → zm_D → Nat → Prop} {L : zN} {st : List zv_V} : zJ S D 280 3 L st n sh d u Q ↔ zB S D 280 zb_280_3 L st n sh d u Q := by unfold zJ; rw [zc_280_3]
theorem zc_280_4 : zcd 280 4 = zb_280_4 := by decide +kernel
theorem zj_280_4 {S : zSs} {D n u : Nat} {sh : zk_S} {d : zm_D} {Q : ((Option zv_V) ⊕ Nat) → Nat → zk_S → zm_D → Nat → Prop} {L : zN} {st : List zv_V} : zJ S D 280 4 L st n sh d u Q ↔ zB S D 280 zb_280_4 L st n sh d u Q := by unfold zJ; rw [zc_280_4]
theorem zc_280_5 : zcd 280 5 = zb_280_5 := by decide +kernel
theorem zj_280_5 {S : zSs} {D n u : Nat} {sh : zk_S} {d : zm_D} {Q : ((Option zv_V) ⊕ Nat) → Nat → zk_S → zm_D → Nat → Prop} {L : zN} {st : List zv_V} : zJ S D 280 5 L st n sh d u Q ↔ zB S D 280 zb_280_5 L st n sh d u Q := by unfold zJ; rw [zc_280_5]
theorem zc_280_6 : zcd 280 6 = zb_280_6 := by decide +kernel
theorem zj_280_6 {S : zSs} {D n u : Nat} {sh : zk_S} {d : zm_D} {Q : ((Option zv_V) ⊕ Nat) → Nat → zk_S → zm_D → Nat → Prop} {L : zN} {st : List zv_V} : zJ S D 280 6 L st n sh d u Q ↔ zB S D 280 zb_280_6 L st n sh d u Q := by unfold zJ; rw [zc_280_6]
theorem zc_280_7 : zcd 280 7 = zb_280_7 := by decide +kernel
theorem zj_280_7 {S : zSs} {D n u : Nat} {sh : zk_S} {d : zm_D} {Q : ((Option zv_V) ⊕ Nat) → Nat → zk_S → zm_D → Nat → Prop} {L : zN} {st : List zv_V} : zJ S D 280 7 L st n sh d u Q ↔ zB S D 280 zb_280_7 L st n sh d u Q := by unfold zJ; rw [zc_280_7]
theorem zc_280_8 : zcd 280 8 = zb_280_8 := by decide +kernel
theorem zj_280_8 {S : zSs} {D n u : Nat} {sh : zk_S} {d : zm_D} {Q : ((Option zv_V) ⊕ Nat) → Nat → zk_S → zm_D → Nat → Prop} {L : zN} {st : List zv_V} : zJ S D 280 8 L st n sh d u Q ↔ zB S D 280 zb_280_8 L st n sh d u Q := by unfold zJ; rw [zc_280_8]
theorem zc_280_9 : zcd 280 9 = zb_280_9 := by decide +kernel
theorem zj_280_9 {S : zSs} {D n u : Nat} {sh : zk_S} {d : zm_D} {Q : ((Option zv_V) ⊕ Nat) → Nat → zk_S → zm_D → Nat → Prop} {L : zN} {st : List zv_V} : zJ S D 280 9 L st n sh d u Q ↔ zB S D 280 zb_280_9 L st n sh d u Q := by unfold zJ; rw [zc_280_9]
theorem zc_280_10 : zcd 280 10 = zb_280_10 := by decide +kernel
theorem zj_280_10 {S : zSs} {D n u : Nat} {sh : zk_S} {d : zm_D} {Q : ((Option zv_V) ⊕ Nat) → Nat → zk_S → zm_D → Nat → Prop} {L : zN} {st : List zv_V} : zJ S D 280 10 L st n sh d u Q ↔ zB S D 280 zb_280_10 L st n sh d u Q := by unfold zJ; rw [zc_280_10]
theorem zc_280_11 : zcd 280 11 = zb_280_11 := by decide +kernel
theorem zj_280_11 {S : zSs} {D n u : Nat} {sh : zk_S} {d : zm_D} {Q : ((Option zv_V) ⊕ Nat) → Nat → zk_S → zm_D → Nat → Prop} {L : zN} {st : List zv_V} : zJ S D 280 11 L st n sh d u Q ↔ zB S D 280 zb_280_11 L st n sh d u Q := by unfold zJ; rw [zc_280_11]
theorem zc_280_12 : zcd 280 12 = zb_280_12 := by decide +kernel
theorem zj_280_12 {S : zSs} {D n u : Nat} {sh : zk_S} {d : zm_D} {Q : ((Option zv_V) ⊕ Nat) → Nat → zk_S → zm_D → Nat → Prop} {L : zN} {st : List zv_V} : zJ S D 280 12 L st n sh d u Q ↔ zB S D 280 zb_280_12 L st n sh d u Q := by unfold zJ; rw [zc_280_12]
theorem zc_280_13 : zcd 280 13 = zb_280_13 := by decide +kernel
theorem zj_280_13 {S : zSs} {D n u : Nat} {sh : zk_S} {d : zm_D} {Q : ((Option zv_V) ⊕ Nat) → Nat → zk_S → zm_D → Nat → Prop} {L : zN} {st : List zv_V} : zJ S D 280 13 L st n sh d u Q ↔ zB S D 280 zb_280_13 L st n sh d u Q := by unfold zJ; rw [zc_280_13]
theorem zn_280 : znl 280 = 7 := by decide +kernel
theorem ze_280 {S : zSs} {D n u : Nat} {sh : zk_S} {d : zm_D} {Q : ((Option zv_V) ⊕ Nat) → Nat → zk_S → zm_D → Nat → Prop} {x0 : Int} {x1 : Int} {x2 : Int} {x3 : Int} {x4 : Int} : zE S D 280 [zv_a x0, zv_i x1, zv_i x2, zv_i x3, zv_i x4] n sh d u Q ↔ zB S D 280 zb_280_0 [some (zv_a x0), some (zv_i x1), some (zv_i x2), some (zv_i x3), some (zv_i x4), none, none] [] n sh d u Q := by
  unfold zE; rw [zn_280, zc_280_0]; exact ⟨fun h => h.2, fun h => ⟨Nat.le_of_ble_eq_true rfl, h⟩⟩
theorem ze_280s {S : zSs} {D n u : Nat} {sh : zk_S} {d : zm_D} {Q : ((Option zv_V) ⊕ Nat) → Nat → zk_S → zm_D → Nat → Prop} {x0 : Int} {x1 : Int} {x2 : Int} {x3 : Int} : zE S D 280 [zv_i x0, zv_i x1, zv_i x2, zv_i x3] n sh d u Q ↔ zB S D 280 zb_280_0 [some (zv_i x0), some (zv_i x1), some (zv_i x2), some (zv_i x3), none, none, none] [] n sh d u Q := by
  unfold zE; rw [zn_280, zc_280_0]; exact ⟨fun h => h.2, fun h => ⟨Nat.le_of_ble_eq_true rfl, h⟩⟩
theorem zh_280 : zhl 280 = [] := by decide +kernel
theorem zc_281_0 : zcd 281 0 = zb_281_0 := by decide +kernel
theorem zj_281_0 {S : zSs} {D n u : Nat} {sh : zk_S} {d : zm_D} {Q : ((Option zv_V) ⊕ Nat) → Nat → zk_S → zm_D → Nat → Prop} {L : zN} {st : List zv_V} : zJ S D 281 0 L st n sh d u Q ↔ zB S D 281 zb_281_0 L st n sh d u Q := by unfold zJ; rw [zc_281_0]
theorem zc_281_1 : zcd 281 1 = zb_281_1 := by decide +kernel
theorem zj_281_1 {S : zSs} {D n u : Nat} {sh : zk_S} {d : zm_D} {Q : ((Option zv_V) ⊕ Nat) → Nat → zk_S → zm_D → Nat → Prop} {L : zN} {st : List zv_V} : zJ S D 281 1 L st n sh d u Q ↔ zB S D 281 zb_281_1 L st n sh d u Q := by unfold zJ; rw [zc_281_1]
theorem zc_281_2 : zcd 281 2 = zb_281_2 := by decide +kernel
theorem zj_281_2 {S : zSs} {D n u : Nat} {sh : zk_S} {d : zm_D} {Q : ((Option zv_V) ⊕ Nat) → Nat → zk_S → zm_D → Nat → Prop} {L : zN} {st : List zv_V} : zJ S D 281 2 L st n sh d u Q ↔ zB S D 281 zb_281_2 L st n sh d u Q := by unfold zJ; rw [zc_281_2]
theorem zc_281_3 : zcd 281 3 = zb_281_3 := by decide +kernel
theorem zj_281_3 {S : zSs} {D n u : Nat} {sh : zk_S} {d : zm_D} {Q : ((Option zv_V) ⊕ Nat) → Nat → zk_S → zm_D → Nat → Prop} {L : zN} {st : List zv_V} : zJ S D 281 3 L st n sh d u Q ↔ zB S D 281 zb_281_3 L st n sh d u Q := by unfold zJ; rw [zc_281_3]
theorem zc_281_4 : zcd 281 4 = zb_281_4 := by decide +kernel
theorem zj_281_4 {S : zSs} {D n u : Nat} {sh : zk_S} {d : zm_D} {Q : ((Option zv_V) ⊕ Nat) → Nat → zk_S → zm_D → Nat → Prop} {L : zN} {st : List zv_V} : zJ S D 281 4 L st n sh d u Q ↔ zB S D 281 zb_281_4 L st n sh d u Q := by unfold zJ; rw [zc_281_4]
theorem zc_281_5 : zcd 281 5 = zb_281_5 := by decide +kernel
theorem zj_281_5 {S : zSs} {D n u : Nat} {sh : zk_S} {d : zm_D} {Q : ((Option zv_V) ⊕ Nat) → Nat → zk_S → zm_D → Nat → Prop} {L : zN} {st : List zv_V} : zJ S D 281 5 L st n sh d u Q ↔ zB S D 281 zb_281_5 L st n sh d u Q := by unfold zJ; rw [zc_281_5]
theorem zc_281_6 : zcd 281 6 = zb_281_6 := by decide +kernel
theorem zj_281_6 {S : zSs} {D n u : Nat} {sh : zk_S} {d : zm_D} {Q : ((Option zv_V) ⊕ Nat) → Nat → zk_S → zm_D → Nat → Prop} {L : zN} {st : List zv_V} : zJ S D 281 6 L st n sh d u Q ↔ zB S D 281 zb_281_6 L st n sh d u Q := by unfold zJ; rw [zc_281_6]
theorem zc_281_7 : zcd 281 7 = zb_281_7 := by decide +kernel
theorem zj_281_7 {S : zSs} {D n u : Nat} {sh : zk_S} {d : zm_D} {Q : ((Option zv_V) ⊕ Nat) → Nat → zk_S → zm_D → Nat → Prop} {L : zN} {st : List zv_V} : zJ S D 281 7 L st n sh d u Q ↔ zB S D 281 zb_281_7 L st n sh d u Q := by unfold zJ; rw [zc_281_7]
theorem zn_281 : znl 281 = 3 := by decide +kernel
theorem ze_281 {S : zSs} {D n u : Nat} {sh : zk_S} {d : zm_D} {Q : ((Option zv_V) ⊕ Nat) → Nat → zk_S → zm_D → Nat → Prop} {x0 : Int} {x1 : Int} : zE S D 281 [zv_a x0, zv_i x1] n sh d u Q ↔ zB S D 281 zb_281_0 [some (zv_a x0), some (zv_i x1), none] [] n sh d u Q := by
  unfold zE; rw [zn_281, zc_281_0]; exact ⟨fun h => h.2, fun h => ⟨Nat.le_of_ble_eq_true rfl, h⟩⟩
theorem ze_281s {S : zSs} {D n u : Nat} {sh : zk_S} {d : zm_D} {Q : ((Option zv_V) ⊕ Nat) → Nat → zk_S → zm_D → Nat → Prop} {x0 : Int} : zE S D 281 [zv_i x0] n sh d u Q ↔ zB S D 281 zb_281_0 [some (zv_i x0), none, none] [] n sh d u Q := by
  unfold zE; rw [zn_281, zc_281_0]; exact ⟨fun h => h.2, fun h => ⟨Nat.le_of_ble_eq_true rfl, h⟩⟩
theorem zh_281 : zhl 281 = [] := by decide +kernel
theorem zc_282_0 : zcd 282 0 = zb_282_0 := by decide +kernel
theorem zj_282_0 {S : zSs} {D n u : Nat} {sh : zk_S} {d : zm_D} {Q : ((Option zv_V) ⊕ Nat) → Nat → zk_S → zm_D → Nat → Prop} {L : zN} {st : List zv_V} : zJ S D 282 0 L st n sh d u Q ↔ zB S D 282 zb_282_0 L st n sh d u Q := by unfold zJ; rw [zc_282_0]
theorem zc_282_1 : zcd 282 1 = zb_282_1 := by decide +kernel
theorem zj_282_1 {S : zSs} {D n u : Nat} {sh : zk_S} {d : zm_D} {Q : ((Option zv_V) ⊕ Nat) → Nat → zk_S → zm_D → Nat → Prop} {L : zN} {st : List zv_V} : zJ S D 282 1 L st n sh d u Q ↔ zB S D 282 zb_282_1 L st n sh d u Q := by unfold zJ; rw [zc_282_1]
theorem zc_282_2 : zcd 282 2 = zb_282_2 := by decide +kernel
theorem zj_282_2 {S : zSs} {D n u : Nat} {sh : zk_S} {d : zm_D} {Q : ((Option zv_V) ⊕ Nat) → Nat → zk_S → zm_D → Nat → Prop} {L : zN} {st : List zv_V} : zJ S D 282 2 L st n sh d u Q ↔ zB S D 282 zb_282_2 L st n sh d u Q := by unfold zJ; rw [zc_282_2]
theorem zc_282_3 : zcd 282 3 = zb_282_3 := by decide +kernel
theorem zj_282_3 {S : zSs} {D n u : Nat} {sh : zk_S} {d : zm_D} {Q : ((Option zv_V) ⊕ Nat) → Nat → zk_S → zm_D → Nat → Prop} {L : zN} {st : List zv_V} : zJ S D 282 3 L st n sh d u Q ↔ zB S D 282 zb_282_3 L st n sh d u Q := by unfold zJ; rw [zc_282_3]
theorem zc_282_4 : zcd 282 4 = zb_282_4 := by decide +kernel
theorem zj_282_4 {S : zSs} {D n u : Nat} {sh : zk_S} {d : zm_D} {Q : ((Option zv_V) ⊕ Nat) → Nat → zk_S → zm_D → Nat → Prop} {L : zN} {st : List zv_V} : zJ S D 282 4 L st n sh d u Q ↔ zB S D 282 zb_282_4 L st n sh d u Q := by unfold zJ; rw [zc_282_4]
theorem zc_282_5 : zcd 282 5 = zb_282_5 := by decide +kernel
theorem zj_282_5 {S : zSs} {D n u : Nat} {sh : zk_S} {d : zm_D} {Q : ((Option zv_V) ⊕ Nat) → Nat → zk_S → zm_D → Nat → Prop} {L : zN} {st : List zv_V} : zJ S D 282 5 L st n sh d u Q ↔ zB S D 282 zb_282_5 L st n sh d u Q := by unfold zJ; rw [zc_282_5]
theorem zc_282_6 : zcd 282 6 = zb_282_6 := by decide +kernel
theorem zj_282_6 {S : zSs} {D n u : Nat} {sh : zk_S} {d : zm_D} {Q : ((Option zv_V) ⊕ Nat) → Nat → zk_S → zm_D → Nat → Prop} {L : zN} {st : List zv_V} : zJ S D 282 6 L st n sh d u Q ↔ zB S D 282 zb_282_6 L st n sh d u Q := by unfold zJ; rw [zc_282_6]
theorem zc_282_7 : zcd 282 7 = zb_282_7 := by decide +kernel
theorem zj_282_7 {S : zSs} {D n u : Nat} {sh : zk_S} {d : zm_D} {Q : ((Option zv_V) ⊕ Nat) → Nat → zk_S → zm_D → Nat → Prop} {L : zN} {st : List zv_V} : zJ S D 282 7 L st n sh d u Q ↔ zB S D 282 zb_282_7 L st n sh d u Q := by unfold zJ; rw [zc_282_7]
theorem zc_282_8 : zcd 282 8 = zb_282_8 := by decide +kernel
theorem zj_282_8 {S : zSs} {D n u : Nat} {sh : zk_S} {d : zm_D} {Q : ((Option zv_V) ⊕ Nat) → Nat → zk_S → zm_D → Nat → Prop} {L : zN} {st : List zv_V} : zJ S D 282 8 L st n sh d u Q ↔ zB S D 282 zb_282_8 L st n sh d u Q := by unfold zJ; rw [zc_282_8]
theorem zc_282_9 : zcd 282 9 = zb_282_9 := by decide +kernel
theorem zj_282_9 {S : zSs} {D n u : Nat} {sh : zk_S} {d : zm_D} {Q : ((Option zv_V) ⊕ Nat) → Nat → zk_S → zm_D → Nat → Prop} {L : zN} {st : List zv_V} : zJ S D 282 9 L st n sh d u Q ↔ zB S D 282 zb_282_9 L st n sh d u Q := by unfold zJ; rw [zc_282_9]
theorem zc_282_10 : zcd 282 10 = zb_282_10 := by decide +kernel
theorem zj_282_10 {S : zSs} {D n u : Nat} {sh : zk_S} {d : zm_D} {Q : ((Option zv_V) ⊕ Nat) → Nat → zk_S → zm_D → Nat → Prop} {L : zN} {st : List zv_V} : zJ S D 282 10 L st n sh d u Q ↔ zB S D 282 zb_282_10 L st n sh d u Q := by unfold zJ; rw [zc_282_10]
theorem zn_282 : znl 282 = 3 := by decide +kernel
theorem ze_282s {S : zSs} {D n u : Nat} {sh : zk_S} {d : zm_D} {Q : ((Option zv_V) ⊕ Nat) → Nat → zk_S → zm_D → Nat → Prop} {x0 : Int} {x1 : Int} {x2 : Int} : zE S D 282 [zv_i x0, zv_i x1, zv_i x2] n sh d u Q ↔ zB S D 282 zb_282_0 [some (zv_i x0), some (zv_i x1), some (zv_i x2)] [] n sh d u Q := by
  unfold zE; rw [zn_282, zc_282_0]; exact ⟨fun h => h.2, fun h => ⟨Nat.le_of_ble_eq_true rfl, h⟩⟩
theorem zh_282 : zhl 282 = [] := by decide +kernel
theorem zc_283_0 : zcd 283 0 = zb_283_0 := by decide +kernel
theorem zj_283_0 {S : zSs} {D n u : Nat} {sh : zk_S} {d : zm_D} {Q : ((Option zv_V) ⊕ Nat) → Nat → zk_S → zm_D → Nat → Prop} {L : zN} {st : List zv_V} : zJ S D 283 0 L st n sh d u Q ↔ zB S D 283 zb_283_0 L st n sh d u Q := by unfold zJ; rw [zc_283_0]
theorem zc_283_1 : zcd 283 1 = zb_283_1 := by decide +kernel
theorem zj_283_1 {S : zSs} {D n u : Nat} {sh : zk_S} {d : zm_D} {Q : ((Option zv_V) ⊕ Nat) → Nat → zk_S → zm_D → Nat → Prop} {L : zN} {st : List zv_V} : zJ S D 283 1 L st n sh d u Q ↔ zB S D 283 zb_283_1 L st n sh d u Q := by unfold zJ; rw [zc_283_1]
theorem zc_283_2 : zcd 283 2 = zb_283_2 := by decide +kernel
theorem zj_283_2 {S : zSs} {D n u : Nat} {sh : zk_S} {d : zm_D} {Q : ((Option zv_V) ⊕ Nat) → Nat → zk_S → zm_D → Nat → Prop} {L : zN} {st : List zv_V} : zJ S D 283 2 L st n sh d u Q ↔ zB S D 283 zb_283_2 L st n sh d u Q := by unfold zJ; rw [zc_283_2]
theorem zc_283_3 : zcd 283 3 = zb_283_3 := by decide +kernel
theorem zj_283_3 {S : zSs} {D n u : Nat} {sh : zk_S} {d : zm_D} {Q : ((Option zv_V) ⊕ Nat) → Nat → zk_S → zm_D → Nat → Prop} {L : zN} {st : List zv_V} : zJ S D 283 3 L st n sh d u Q ↔ zB S D 283 zb_283_3 L st n sh d u Q := by unfold zJ; rw [zc_283_3]
theorem zc_283_4 : zcd 283 4 = zb_283_4 := by decide +kernel
theorem zj_283_4 {S : zSs} {D n u : Nat} {sh : zk_S} {d : zm_D} {Q : ((Option zv_V) ⊕ Nat) → Nat → zk_S → zm_D → Nat → Prop} {L : zN} {st : List zv_V} : zJ S D 283 4 L st n sh d u Q ↔ zB S D 283 zb_283_4 L st n sh d u Q := by unfold zJ; rw [zc_283_4]
theorem zc_283_5 : zcd 283 5 = zb_283_5 := by decide +kernel
theorem zj_283_5 {S : zSs} {D n u : Nat} {sh : zk_S} {d : zm_D} {Q : ((Option zv_V) ⊕ Nat) → Nat → zk_S → zm_D → Nat → Prop} {L : zN} {st : List zv_V} : zJ S D 283 5 L st n sh d u Q ↔ zB S D 283 zb_283_5 L st n sh d u Q := by unfold zJ; rw [zc_283_5]
theorem zc_283_6 : zcd 283 6 = zb_283_6 := by decide +kernel
theorem zj_283_6 {S : zSs} {D n u : Nat} {sh : zk_S} {d : zm_D} {Q : ((Option zv_V) ⊕ Nat) → Nat → zk_S → zm_D → Nat → Prop} {L : zN} {st : List zv_V} : zJ S D 283 6 L st n sh d u Q ↔ zB S D 283 zb_283_6 L st n sh d u Q := by unfold zJ; rw [zc_283_6]
theorem zc_283_7 : zcd 283 7 = zb_283_7 := by decide +kernel
theorem zj_283_7 {S : zSs} {D n u : Nat} {sh : zk_S} {d : zm_D} {Q : ((Option zv_V) ⊕ Nat) → Nat → zk_S → zm_D → Nat → Prop} {L : zN} {st : List zv_V} : zJ S D 283 7 L st n sh d u Q ↔ zB S D 283 zb_283_7 L st n sh d u Q := by unfold zJ; rw [zc_283_7]
theorem zc_283_8 : zcd 283 8 = zb_283_8 := by decide +kernel
theorem zj_283_8 {S : zSs} {D n u : Nat} {sh : zk_S} {d : zm_D} {Q : ((Option zv_V) ⊕ Nat) → Nat → zk_S → zm_D → Nat → Prop} {L : zN} {st : List zv_V} : zJ S D 283 8 L st n sh d u Q ↔ zB S D 283 zb_283_8 L st n sh d u Q := by unfold zJ; rw [zc_283_8]
theorem zc_283_9 : zcd 283 9 = zb_283_9 := by decide +kernel
theorem zj_283_9 {S : zSs} {D n u : Nat} {sh : zk_S} {d : zm_D} {Q : ((Option zv_V) ⊕ Nat) → Nat → zk_S → zm_D → Nat → Prop} {L : zN} {st : List zv_V} : zJ S D 283 9 L st n sh d u Q ↔ zB S D 283 zb_283_9 L st n sh d u Q := by unfold zJ; rw [zc_283_9]
theorem zc_283_10 : zcd 283 10 = zb_283_10 := by decide +kernel
theorem zj_283_10 {S : zSs} {D n u : Nat} {sh : zk_S} {d : zm_D} {Q : ((Option zv_V) ⊕ Nat) → Nat → zk_S → zm_D → Nat → Prop} {L : zN} {st : List zv_V} : zJ S D 283 10 L st n sh d u Q ↔ zB S D 283 zb_283_10 L st n sh d u Q := by unfold zJ; rw [zc_283_10]
theorem zc_283_11 : zcd 283 11 = zb_283_11 := by decide +kernel
theorem zj_283_11 {S : zSs} {D n u : Nat} {sh : zk_S} {d : zm_D} {Q : ((Option zv_V) ⊕ Nat) → Nat → zk_S → zm_D → Nat → Prop} {L : zN} {st : List zv_V} : zJ S D 283 11 L st n sh d u Q ↔ zB S D 283 zb_283_11 L st n sh d u Q := by unfold zJ; rw [zc_283_11]
theorem zc_283_12 : zcd 283 12 = zb_283_12 := by decide +kernel
theorem zj_283_12 {S : zSs} {D n u : Nat} {sh : zk_S} {d : zm_D} {Q : ((Option zv_V) ⊕ Nat) → Nat → zk_S → zm_D → Nat → Prop} {L : zN} {st : List zv_V} : zJ S D 283 12 L st n sh d u Q ↔ zB S D 283 zb_283_12 L st n sh d u Q := by unfold zJ; rw [zc_283_12]
theorem zc_283_13 : zcd 283 13 = zb_283_13 := by decide +kernel
theorem zj_283_13 {S : zSs} {D n u : Nat} {sh : zk_S} {d : zm_D} {Q : ((Option zv_V) ⊕ Nat) → Nat → zk_S → zm_D → Nat → Prop} {L : zN} {st : List zv_V} : zJ S D 283 13 L st n sh d u Q ↔ zB S D 283 zb_283_13 L st n sh d u Q := by unfold zJ; rw [zc_283_13]
theorem zn_283 : znl 283 = 6 := by decide +kernel
theorem ze_283 {S : zSs} {D n u : Nat} {sh : zk_S} {d : zm_D} {Q : ((Option zv_V) ⊕ Nat) → Nat → zk_S → zm_D → Nat → Prop} {x0 : Int} {x1 : Int} : zE S D 283 [zv_a x0, zv_i x1] n sh d u Q ↔ zB S D 283 zb_283_0 [some (zv_a x0), some (zv_i x1), none, none, none, none] [] n sh d u Q := by
  unfold zE; rw [zn_283, zc_283_0]; exact ⟨fun h => h.2, fun h => ⟨Nat.le_of_ble_eq_true rfl, h⟩⟩
theorem ze_283s {S : zSs} {D n u : Nat} {sh : zk_S} {d : zm_D} {Q : ((Option zv_V) ⊕ Nat) → Nat → zk_S → zm_D → Nat → Prop} {x0 : Int} : zE S D 283 [zv_i x0] n sh d u Q ↔ zB S D 283 zb_283_0 [some (zv_i x0), none, none, none, none, none] [] n sh d u Q := by
  unfold zE; rw [zn_283, zc_283_0]; exact ⟨fun h => h.2, fun h => ⟨Nat.le_of_ble_eq_true rfl, h⟩⟩
theorem zh_283 : zhl 283 = [] := by decide +kernel
theorem zc_284_0 : zcd 284 0 = zb_284_0 := by decide +kernel
theorem zj_284_0 {S : zSs} {D n u : Nat} {sh : zk_S} {d : zm_D} {Q : ((Option zv_V) ⊕ Nat) → Nat → zk_S → zm_D → Nat → Prop} {L : zN} {st : List zv_V} : zJ S D 284 0 L st n sh d u Q ↔ zB S D 284 zb_284_0 L st n sh d u Q := by unfold zJ; rw [zc_284_0]
theorem zc_284_1 : zcd 284 1 = zb_284_1 := by decide +kernel
theorem zj_284_1 {S : zSs} {D n u : Nat} {sh : zk_S} {d : zm_D} {Q : ((Option zv_V) ⊕ Nat) → Nat → zk_S → zm_D → Nat → Prop} {L : zN} {st : List zv_V} : zJ S D 284 1 L st n sh d u Q ↔ zB S D 284 zb_284_1 L st n sh d u Q := by unfold zJ; rw [zc_284_1]
theorem zc_284_2 : zcd 284 2 = zb_284_2 := by decide +kernel
theorem zj_284_2 {S : zSs} {D n u : Nat} {sh : zk_S} {d : zm_D} {Q : ((Option zv_V) ⊕ Nat) → Nat → zk_S → zm_D → Nat → Prop} {L : zN} {st : List zv_V} : zJ S D 284 2 L st n sh d u Q ↔ zB S D 284 zb_284_2 L st n sh d u Q := by unfold zJ; rw [zc_284_2]
theorem zn_284 : znl 284 = 1 := by decide +kernel
theorem ze_284 {S : zSs} {D n u : Nat} {sh : zk_S} {d : zm_D} {Q : ((Option zv_V) ⊕ Nat) → Nat → zk_S → zm_D → Nat → Prop} {x0 : Int} : zE S D 284 [zv_a x0] n sh d u Q ↔ zB S D 284 zb_284_0 [some (zv_a x0)] [] n sh d u Q := by
  unfold zE; rw [zn_284, zc_284_0]; exact ⟨fun h => h.2, fun h => ⟨Nat.le_of_ble_eq_true rfl, h⟩⟩
theorem ze_284s {S : zSs} {D n u : Nat} {sh : zk_S} {d : zm_D} {Q : ((Option zv_V) ⊕ Nat) → Nat → zk_S → zm_D → Nat → Prop} : zE S D 284 [] n sh d u Q ↔ zB S D 284 zb_284_0 [none] [] n sh d u Q := by
  unfold zE; rw [zn_284, zc_284_0]; exact ⟨fun h => h.2, fun h => ⟨Nat.le_of_ble_eq_true rfl, h⟩⟩
theorem zh_284 : zhl 284 = [] := by decide +kernel
theorem zc_285_0 : zcd 285 0 = zb_285_0 := by decide +kernel
theorem zj_285_0 {S : zSs} {D n u : Nat} {sh : zk_S} {d : zm_D} {Q : ((Option zv_V) ⊕ Nat) → Nat → zk_S → zm_D → Nat → Prop} {L : zN} {st : List zv_V} : zJ S D 285 0 L st n sh d u Q ↔ zB S D 285 zb_285_0 L st n sh d u Q := by unfold zJ; rw [zc_285_0]
theorem zc_285_1 : zcd 285 1 = zb_285_1 := by decide +kernel
theorem zj_285_1 {S : zSs} {D n u : Nat} {sh : zk_S} {d : zm_D} {Q : ((Option zv_V) ⊕ Nat) → Nat → zk_S → zm_D → Nat → Prop} {L : zN} {st : List zv_V} : zJ S D 285 1 L st n sh d u Q ↔ zB S D 285 zb_285_1 L st n sh d u Q := by unfold zJ; rw [zc_285_1]
theorem zc_285_2 : zcd 285 2 = zb_285_2 := by decide +kernel
theorem zj_285_2 {S : zSs} {D n u : Nat} {sh : zk_S} {d : zm_D} {Q : ((Option zv_V) ⊕ Nat) → Nat → zk_S → zm_D → Nat → Prop} {L : zN} {st : List zv_V} : zJ S D 285 2 L st n sh d u Q ↔ zB S D 285 zb_285_2 L st n sh d u Q := by unfold zJ; rw [zc_285_2]
theorem zn_285 : znl 285 = 4 := by decide +kernel
theorem ze_285 {S : zSs} {D n u : Nat} {sh : zk_S} {d : zm_D} {Q : ((Option zv_V) ⊕ Nat) → Nat → zk_S → zm_D → Nat → Prop} {x0 : Int} {x1 : Int} {x2 : Int} : zE S D 285 [zv_a x0, zv_i x1, zv_i x2] n sh d u Q ↔ zB S D 285 zb_285_0 [some (zv_a x0), some (zv_i x1), some (zv_i x2), none] [] n sh d u Q := by
  unfold zE; rw [zn_285, zc_285_0]; exact ⟨fun h => h.2, fun h => ⟨Nat.le_of_ble_eq_true rfl, h⟩⟩
theorem ze_285s {S : zSs} {D n u : Nat} {sh : zk_S} {d : zm_D} {Q : ((Option zv_V) ⊕ Nat) → Nat → zk_S → zm_D → Nat → Prop} {x0 : Int} {x1 : Int} : zE S D 285 [zv_i x0, zv_i x1] n sh d u Q ↔ zB S D 285 zb_285_0 [some (zv_i x0), some (zv_i x1), none, none] [] n sh d u Q := by
  unfold zE; rw [zn_285, zc_285_0]; exact ⟨fun h => h.2, fun h => ⟨Nat.le_of_ble_eq_true rfl, h⟩⟩
theorem zh_285 : zhl 285 = [] := by decide +kernel
theorem zc_286_0 : zcd 286 0 = zb_286_0 := by decide +kernel
theorem zj_286_0 {S : zSs} {D n u : Nat} {sh : zk_S} {d : zm_D} {Q : ((Option zv_V) ⊕ Nat) → Nat → zk_S → zm_D → Nat → Prop} {L : zN} {st : List zv_V} : zJ S D 286 0 L st n sh d u Q ↔ zB S D 286 zb_286_0 L st n sh d u Q := by unfold zJ; rw [zc_286_0]
theorem zc_286_1 : zcd 286 1 = zb_286_1 := by decide +kernel
theorem zj_286_1 {S : zSs} {D n u : Nat} {sh : zk_S} {d : zm_D} {Q : ((Option zv_V) ⊕ Nat) → Nat → zk_S → zm_D → Nat → Prop} {L : zN} {st : List zv_V} : zJ S D 286 1 L st n sh d u Q ↔ zB S D 286 zb_286_1 L st n sh d u Q := by unfold zJ; rw [zc_286_1]
theorem zc_286_2 : zcd 286 2 = zb_286_2 := by decide +kernel
theorem zj_286_2 {S : zSs} {D n u : Nat} {sh : zk_S} {d : zm_D} {Q : ((Option zv_V) ⊕ Nat) → Nat → zk_S → zm_D → Nat → Prop} {L : zN} {st : List zv_V} : zJ S D 286 2 L st n sh d u Q ↔ zB S D 286 zb_286_2 L st n sh d u Q := by unfold zJ; rw [zc_286_2]
theorem zc_286_3 : zcd 286 3 = zb_286_3 := by decide +kernel
theorem zj_286_3 {S : zSs} {D n u : Nat} {sh : zk_S} {d : zm_D} {Q : ((Option zv_V) ⊕ Nat) → Nat → zk_S → zm_D → Nat → Prop} {L : zN} {st : List zv_V} : zJ S D 286 3 L st n sh d u Q ↔ zB S D 286 zb_286_3 L st n sh d u Q := by unfold zJ; rw [zc_286_3]
theorem zc_286_4 : zcd 286 4 = zb_286_4 := by decide +kernel
theorem zj_286_4 {S : zSs} {D n u : Nat} {sh : zk_S} {d : zm_D} {Q : ((Option zv_V) ⊕ Nat) → Nat → zk_S → zm_D → Nat → Prop} {L : zN} {st : List zv_V} : zJ S D 286 4 L st n sh d u Q ↔ zB S D 286 zb_286_4 L st n sh d u Q := by unfold zJ; rw [zc_286_4]
theorem zc_286_5 : zcd 286 5 = zb_286_5 := by decide +kernel
theorem zj_286_5 {S : zSs} {D n u : Nat} {sh : zk_S} {d : zm_D} {Q : ((Option zv_V) ⊕ Nat) → Nat → zk_S → zm_D → Nat → Prop} {L : zN} {st : List zv_V} : zJ S D 286 5 L st n sh d u Q ↔ zB S D 286 zb_286_5 L st n sh d u Q := by unfold zJ; rw [zc_286_5]
theorem zc_286_6 : zcd 286 6 = zb_286_6 := by decide +kernel
theorem zj_286_6 {S : zSs} {D n u : Nat} {sh : zk_S} {d : zm_D} {Q : ((Option zv_V) ⊕ Nat) → Nat → zk_S → zm_D → Nat → Prop} {L : zN} {st : List zv_V} : zJ S D 286 6 L st n sh d u Q ↔ zB S D 286 zb_286_6 L st n sh d u Q := by unfold zJ; rw [zc_286_6]
theorem zc_286_7 : zcd 286 7 = zb_286_7 := by decide +kernel
theorem zj_286_7 {S : zSs} {D n u : Nat} {sh : zk_S} {d : zm_D} {Q : ((Option zv_V) ⊕ Nat) → Nat → zk_S → zm_D → Nat → Prop} {L : zN} {st : List zv_V} : zJ S D 286 7 L st n sh d u Q ↔ zB S D 286 zb_286_7 L st n sh d u Q := by unfold zJ; rw [zc_286_7]
theorem zc_286_8 : zcd 286 8 = zb_286_8 := by decide +kernel
theorem zj_286_8 {S : zSs} {D n u : Nat} {sh : zk_S} {d : zm_D} {Q : ((Option zv_V) ⊕ Nat) → Nat → zk_S → zm_D → Nat → Prop} {L : zN} {st : List zv_V} : zJ S D 286 8 L st n sh d u Q ↔ zB S D 286 zb_286_8 L st n sh d u Q := by unfold zJ; rw [zc_286_8]
theorem zn_286 : znl 286 = 5 := by decide +kernel
theorem ze_286 {S : zSs} {D n u : Nat} {sh : zk_S} {d : zm_D} {Q : ((Option zv_V) ⊕ Nat) → Nat → zk_S → zm_D → Nat → Prop} {x0 : Int} {x1 : Int} {x2 : Int} {x3 : Int} : zE S D 286 [zv_a x0, zv_i x1, zv_i x2, zv_i x3] n sh d u Q ↔ zB S D 286 zb_286_0 [some (zv_a x0), some (zv_i x1), some (zv_i x2), some (zv_i x3), none] [] n sh d u Q := by
  unfold zE; rw [zn_286, zc_286_0]; exact ⟨fun h => h.2, fun h => ⟨Nat.le_of_ble_eq_true rfl, h⟩⟩
theorem ze_286s {S : zSs} {D n u : Nat} {sh : zk_S} {d : zm_D} {Q : ((Option zv_V) ⊕ Nat) → Nat → zk_S → zm_D → Nat → Prop} {x0 : Int} {x1 : Int} {x2 : Int} : zE S D 286 [zv_i x0, zv_i x1, zv_i x2] n sh d u Q ↔ zB S D 286 zb_286_0 [some (zv_i x0), some (zv_i x1), some (zv_i x2), none, none] [] n sh d u Q := by
  unfold zE; rw [zn_286, zc_286_0]; exact ⟨fun h => h.2, fun h => ⟨Nat.le_of_ble_eq_true rfl, h⟩⟩
theorem zh_286 : zhl 286 = [] := by decide +kernel
theorem zc_287_0 : zcd 287 0 = zb_287_0 := by decide +kernel
theorem zj_287_0 {S : zSs} {D n u : Nat} {sh : zk_S} {d : zm_D} {Q : ((Option zv_V) ⊕ Nat) → Nat → zk_S → zm_D → Nat → Prop} {L : zN} {st : List zv_V} : zJ S D 287 0 L st n sh d u Q ↔ zB S D 287 zb_287_0 L st n sh d u Q := by unfold zJ; rw [zc_287_0]
theorem zc_287_1 : zcd 287 1 = zb_287_1 := by decide +kernel
theorem zj_287_1 {S : zSs} {D n u : Nat} {sh : zk_S} {d : zm_D} {Q : ((Option zv_V) ⊕ Nat) → Nat → zk_S → zm_D → Nat → Prop} {L : zN} {st : List zv_V} : zJ S D 287 1 L st n sh d u Q ↔ zB S D 287 zb_287_1 L st n sh d u Q := by unfold zJ; rw [zc_287_1]
theorem zc_287_2 : zcd 287 2 = zb_287_2 := by decide +kernel
theorem zj_287_2 {S : zSs} {D n u : Nat} {sh : zk_S} {d : zm_D} {Q : ((Option zv_V) ⊕ Nat) → Nat → zk_S → zm_D → Nat → Prop} {L : zN} {st : List zv_V} : zJ S D 287 2 L st n sh d u Q ↔ zB S D 287 zb_287_2 L st n sh d u Q := by unfold zJ; rw [zc_287_2]
theorem zc_287_3 : zcd 287 3 = zb_287_3 := by decide +kernel
theorem zj_287_3 {S : zSs} {D n u : Nat} {sh : zk_S} {d : zm_D} {Q : ((Option zv_V) ⊕ Nat) → Nat → zk_S → zm_D → Nat → Prop} {L : zN} {st : List zv_V} : zJ S D 287 3 L st n sh d u Q ↔ zB S D 287 zb_287_3 L st n sh d u Q := by unfold zJ; rw [zc_287_3]
theorem zc_287_4 : zcd 287 4 = zb_287_4 := by decide +kernel
theorem zj_287_4 {S : zSs} {D n u : Nat} {sh : zk_S} {d : zm_D} {Q : ((Option zv_V) ⊕ Nat) → Nat → zk_S → zm_D → Nat → Prop} {L : zN} {st : List zv_V} : zJ S D 287 4 L st n sh d u Q ↔ zB S D 287 zb_287_4 L st n sh d u Q := by unfold zJ; rw [zc_287_4]
theorem zc_287_5 : zcd 287 5 = zb_287_5 := by decide +kernel
theorem zj_287_5 {S : zSs} {D n u : Nat} {sh : zk_S} {d : zm_D} {Q : ((Option zv_V) ⊕ Nat) → Nat → zk_S → zm_D → Nat → Prop} {L : zN} {st : List zv_V} : zJ S D 287 5 L st n sh d u Q ↔ zB S D 287 zb_287_5 L st n sh d u Q := by unfold zJ; rw [zc_287_5]
theorem zc_287_6 : zcd 287 6 = zb_287_6 := by decide +kernel
theorem zj_287_6 {S : zSs} {D n u : Nat} {sh : zk_S} {d : zm_D} {Q : ((Option zv_V) ⊕ Nat) → Nat → zk_S → zm_D → Nat → Prop} {L : zN} {st : List zv_V} : zJ S D 287 6 L st n sh d u Q ↔ zB S D 287 zb_287_6 L st n sh d u Q := by unfold zJ; rw [zc_287_6]
theorem zc_287_7 : zcd 287 7 = zb_287_7 := by decide +kernel
theorem zj_287_7 {S : zSs} {D n u : Nat} {sh : zk_S} {d : zm_D} {Q : ((Option zv_V) ⊕ Nat) → Nat → zk_S → zm_D → Nat → Prop} {L : zN} {st : List zv_V} : zJ S D 287 7 L st n sh d u Q ↔ zB S D 287 zb_287_7 L st n sh d u Q := by unfold zJ; rw [zc_287_7]
theorem zc_287_8 : zcd 287 8 = zb_287_8 := by decide +kernel
theorem zj_287_8 {S : zSs} {D n u : Nat} {sh : zk_S} {d : zm_D} {Q : ((Option zv_V) ⊕ Nat) → Nat → zk_S → zm_D → Nat → Prop} {L : zN} {st : List zv_V} : zJ S D 287 8 L st n sh d u Q ↔ zB S D 287 zb_287_8 L st n sh d u Q := by unfold zJ; rw [zc_287_8]
theorem zc_287_9 : zcd 287 9 = zb_287_9 := by decide +kernel
theorem zj_287_9 {S : zSs} {D n u : Nat} {sh : zk_S} {d : zm_D} {Q : ((Option zv_V) ⊕ Nat) → Nat → zk_S → zm_D → Nat → Prop} {L : zN} {st : List zv_V} : zJ S D 287 9 L st n sh d u Q ↔ zB S D 287 zb_287_9 L st n sh d u Q := by unfold zJ; rw [zc_287_9]
theorem zc_287_10 : zcd 287 10 = zb_287_10 := by decide +kernel
theorem zj_287_10 {S : zSs} {D n u : Nat} {sh : zk_S} {d : zm_D} {Q : ((Option zv_V) ⊕ Nat) → Nat → zk_S → zm_D → Nat → Prop} {L : zN} {st : List zv_V} : zJ S D 287 10 L st n sh d u Q ↔ zB S D 287 zb_287_10 L st n sh d u Q := by unfold zJ; rw [zc_287_10]
theorem zn_287 : znl 287 = 6 := by decide +kernel
theorem ze_287 {S : zSs} {D n u : Nat} {sh : zk_S} {d : zm_D} {Q : ((Option zv_V) ⊕ Nat) → Nat → zk_S → zm_D → Nat → Prop} {x0 : Int} {x1 : Int} {x2 : Int} : zE S D 287 [zv_a x0, zv_i x1, zv_i x2] n sh d u Q ↔ zB S D 287 zb_287_0 [some (zv_a x0), some (zv_i x1), some (zv_i x2), none, none, none] [] n sh d u Q := by
  unfold zE; rw [zn_287, zc_287_0]; exact ⟨fun h => h.2, fun h => ⟨Nat.le_of_ble_eq_true rfl, h⟩⟩
theorem ze_287s {S : zSs} {D n u : Nat} {sh : zk_S} {d : zm_D} {Q : ((Option zv_V) ⊕ Nat) → Nat → zk_S → zm_D → Nat → Prop} {x0 : Int} {x1 : Int} : zE S D 287 [zv_i x0, zv_i x1] n sh d u Q ↔ zB S D 287 zb_287_0 [some (zv_i x0), some (zv_i x1), none, none, none, none] [] n sh d u Q := by
  unfold zE; rw [zn_287, zc_287_0]; exact ⟨fun h => h.2, fun h => ⟨Nat.le_of_ble_eq_true rfl, h⟩⟩
theorem zh_287 : zhl 287 = [] := by decide +kernel
theorem zc_288_0 : zcd 288 0 = zb_288_0 := by decide +kernel
theorem zj_288_0 {S : zSs} {D n u : Nat} {sh : zk_S} {d : zm_D} {Q : ((Option zv_V) ⊕ Nat) → Nat → zk_S → zm_D → Nat → Prop} {L : zN} {st : List zv_V} : zJ S D 288 0 L st n sh d u Q ↔ zB S D 288 zb_288_0 L st n sh d u Q := by unfold zJ; rw [zc_288_0]
theorem zc_288_1 : zcd 288 1 = zb_288_1 := by decide +kernel
theorem zj_288_1 {S : zSs} {D n u : Nat} {sh : zk_S} {d : zm_D} {Q : ((Option zv_V) ⊕ Nat) → Nat → zk_S → zm_D → Nat → Prop} {L : zN} {st : List zv_V} : zJ S D 288 1 L st n sh d u Q ↔ zB S D 288 zb_288_1 L st n sh d u Q := by unfold zJ; rw [zc_288_1]
theorem zc_288_2 : zcd 288 2 = zb_288_2 := by decide +kernel
theorem zj_288_2 {S : zSs} {D n u : Nat} {sh : zk_S} {d : zm_D} {Q : ((Option zv_V) ⊕ Nat) → Nat → zk_S → zm_D → Nat → Prop} {L : zN} {st : List zv_V} : zJ S D 288 2 L st n sh d u Q ↔ zB S D 288 zb_288_2 L st n sh d u Q := by unfold zJ; rw [zc_288_2]
theorem zc_288_3 : zcd 288 3 = zb_288_3 := by decide +kernel
theorem zj_288_3 {S : zSs} {D n u : Nat} {sh : zk_S} {d : zm_D} {Q : ((Option zv_V) ⊕ Nat) → Nat → zk_S → zm_D → Nat → Prop} {L : zN} {st : List zv_V} : zJ S D 288 3 L st n sh d u Q ↔ zB S D 288 zb_288_3 L st n sh d u Q := by unfold zJ; rw [zc_288_3]
theorem zc_288_4 : zcd 288 4 = zb_288_4 := by decide +kernel
theorem zj_288_4 {S : zSs} {D n u : Nat} {sh : zk_S} {d : zm_D} {Q : ((Option zv_V) ⊕ Nat) → Nat → zk_S → zm_D → Nat → Prop} {L : zN} {st : List zv_V} : zJ S D 288 4 L st n sh d u Q ↔ zB S D 288 zb_288_4 L st n sh d u Q := by unfold zJ; rw [zc_288_4]
theorem zc_288_5 : zcd 288 5 = zb_288_5 := by decide +kernel
theorem zj_288_5 {S : zSs} {D n u : Nat} {sh : zk_S} {d : zm_D} {Q : ((Option zv_V) ⊕ Nat) → Nat → zk_S → zm_D → Nat → Prop} {L : zN} {st : List zv_V} : zJ S D 288 5 L st n sh d u Q ↔ zB S D 288 zb_288_5 L st n sh d u Q := by unfold zJ; rw [zc_288_5]
theorem zn_288 : znl 288 = 4 := by decide +kernel
theorem ze_288 {S : zSs} {D n u : Nat} {sh : zk_S} {d : zm_D} {Q : ((Option zv_V) ⊕ Nat) → Nat → zk_S → zm_D → Nat → Prop} {x0 : Int} {x1 : Int} {x2 : Int} : zE S D 288 [zv_a x0, zv_i x1, zv_i x2] n sh d u Q ↔ zB S D 288 zb_288_0 [some (zv_a x0), some (zv_i x1), some (zv_i x2), none] [] n sh d u Q := by
  unfold zE; rw [zn_288, zc_288_0]; exact ⟨fun h => h.2, fun h => ⟨Nat.le_of_ble_eq_true rfl, h⟩⟩
theorem ze_288s {S : zSs} {D n u : Nat} {sh : zk_S} {d : zm_D} {Q : ((Option zv_V) ⊕ Nat) → Nat → zk_S → zm_D → Nat → Prop} {x0 : Int} {x1 : Int} : zE S D 288 [zv_i x0, zv_i x1] n sh d u Q ↔ zB S D 288 zb_288_0 [some (zv_i x0), some (zv_i x1), none, none] [] n sh d u Q := by
  unfold zE; rw [zn_288, zc_288_0]; exact ⟨fun h => h.2, fun h => ⟨Nat.le_of_ble_eq_true rfl, h⟩⟩
theorem zh_288 : zhl 288 = [] := by decide +kernel
theorem zc_289_0 : zcd 289 0 = zb_289_0 := by decide +kernel
theorem zj_289_0 {S : zSs} {D n u : Nat} {sh : zk_S} {d : zm_D} {Q : ((Option zv_V) ⊕ Nat) → Nat → zk_S → zm_D → Nat → Prop} {L : zN} {st : List zv_V} : zJ S D 289 0 L st n sh d u Q ↔ zB S D 289 zb_289_0 L st n sh d u Q := by unfold zJ; rw [zc_289_0]
theorem zc_289_1 : zcd 289 1 = zb_289_1 := by decide +kernel
theorem zj_289_1 {S : zSs} {D n u : Nat} {sh : zk_S} {d : zm_D} {Q : ((Option zv_V) ⊕ Nat) → Nat → zk_S → zm_D → Nat → Prop} {L : zN} {st : List zv_V} : zJ S D 289 1 L st n sh d u Q ↔ zB S D 289 zb_289_1 L st n sh d u Q := by unfold zJ; rw [zc_289_1]
theorem zc_289_2 : zcd 289 2 = zb_289_2 := by decide +kernel
theorem zj_289_2 {S : zSs} {D n u : Nat} {sh : zk_S} {d : zm_D} {Q : ((Option zv_V) ⊕ Nat) → Nat → zk_S → zm_D → Nat → Prop} {L : zN} {st : List zv_V} : zJ S D 289 2 L st n sh d u Q ↔ zB S D 289 zb_289_2 L st n sh d u Q := by unfold zJ; rw [zc_289_2]
theorem zc_289_3 : zcd 289 3 = zb_289_3 := by decide +kernel
theorem zj_289_3 {S : zSs} {D n u : Nat} {sh : zk_S} {d : zm_D} {Q : ((Option zv_V) ⊕ Nat) → Nat → zk_S → zm_D → Nat → Prop} {L : zN} {st : List zv_V} : zJ S D 289 3 L st n sh d u Q ↔ zB S D 289 zb_289_3 L st n sh d u Q := by unfold zJ; rw [zc_289_3]
theorem zc_289_4 : zcd 289 4 = zb_289_4 := by decide +kernel
theorem zj_289_4 {S : zSs} {D n u : Nat} {sh : zk_S} {d : zm_D} {Q : ((Option zv_V) ⊕ Nat) → Nat → zk_S → zm_D → Nat → Prop} {L : zN} {st : List zv_V} : zJ S D 289 4 L st n sh d u Q ↔ zB S D 289 zb_289_4 L st n sh d u Q := by unfold zJ; rw [zc_289_4]
theorem zn_289 : znl 289 = 3 := by decide +kernel
theorem ze_289 {S : zSs} {D n u : Nat} {sh : zk_S} {d : zm_D} {Q : ((Option zv_V) ⊕ Nat) → Nat → zk_S → zm_D → Nat → Prop} {x0 : Int} {x1 : Int} : zE S D 289 [zv_a x0, zv_i x1] n sh d u Q ↔ zB S D 289 zb_289_0 [some (zv_a x0), some (zv_i x1), none] [] n sh d u Q := by
  unfold zE; rw [zn_289, zc_289_0]; exact ⟨fun h => h.2, fun h => ⟨Nat.le_of_ble_eq_true rfl, h⟩⟩
theorem ze_289s {S : zSs} {D n u : Nat} {sh : zk_S} {d : zm_D} {Q : ((Option zv_V) ⊕ Nat) → Nat → zk_S → zm_D → Nat → Prop} {x0 : Int} : zE S D 289 [zv_i x0] n sh d u Q ↔ zB S D 289 zb_289_0 [some (zv_i x0), none, none] [] n sh d u Q := by
  unfold zE; rw [zn_289, zc_289_0]; exact ⟨fun h => h.2, fun h => ⟨Nat.le_of_ble_eq_true rfl, h⟩⟩
theorem zh_289 : zhl 289 = [] := by decide +kernel
theorem zc_290_0 : zcd 290 0 = zb_290_0 := by decide +kernel
theorem zj_290_0 {S : zSs} {D n u : Nat} {sh : zk_S} {d : zm_D} {Q : ((Option zv_V) ⊕ Nat) → Nat → zk_S → zm_D → Nat → Prop} {L : zN} {st : List zv_V} : zJ S D 290 0 L st n sh d u Q ↔ zB S D 290 zb_290_0 L st n sh d u Q := by unfold zJ; rw [zc_290_0]
theorem zc_290_1 : zcd 290 1 = zb_290_1 := by decide +kernel
theorem zj_290_1 {S : zSs} {D n u : Nat} {sh : zk_S} {d : zm_D} {Q : ((Option zv_V) ⊕ Nat) → Nat → zk_S → zm_D → Nat → Prop} {L : zN} {st : List zv_V} : zJ S D 290 1 L st n sh d u Q ↔ zB S D 290 zb_290_1 L st n sh d u Q := by unfold zJ; rw [zc_290_1]
theorem zc_290_2 : zcd 290 2 = zb_290_2 := by decide +kernel
theorem zj_290_2 {S : zSs} {D n u : Nat} {sh : zk_S} {d : zm_D} {Q : ((Option zv_V) ⊕ Nat) → Nat → zk_S → zm_D → Nat → Prop} {L : zN} {st : List zv_V} : zJ S D 290 2 L st n sh d u Q ↔ zB S D 290 zb_290_2 L st n sh d u Q := by unfold zJ; rw [zc_290_2]
theorem zc_290_3 : zcd 290 3 = zb_290_3 := by decide +kernel
theorem zj_290_3 {S : zSs} {D n u : Nat} {sh : zk_S} {d : zm_D} {Q : ((Option zv_V) ⊕ Nat) → Nat → zk_S → zm_D → Nat → Prop} {L : zN} {st : List zv_V} : zJ S D 290 3 L st n sh d u Q ↔ zB S D 290 zb_290_3 L st n sh d u Q := by unfold zJ; rw [zc_290_3]
theorem zc_290_4 : zcd 290 4 = zb_290_4 := by decide +kernel
theorem zj_290_4 {S : zSs} {D n u : Nat} {sh : zk_S} {d : zm_D} {Q : ((Option zv_V) ⊕ Nat) → Nat → zk_S → zm_D → Nat → Prop} {L : zN} {st : List zv_V} : zJ S D 290 4 L st n sh d u Q ↔ zB S D 290 zb_290_4 L st n sh d u Q := by unfold zJ; rw [zc_290_4]
theorem zc_290_5 : zcd 290 5 = zb_290_5 := by decide +kernel
theorem zj_290_5 {S : zSs} {D n u : Nat} {sh : zk_S} {d : zm_D} {Q : ((Option zv_V) ⊕ Nat) → Nat → zk_S → zm_D → Nat → Prop} {L : zN} {st : List zv_V} : zJ S D 290 5 L st n sh d u Q ↔ zB S D 290 zb_290_5 L st n sh d u Q := by unfold zJ; rw [zc_290_5]
theorem zc_290_6 : zcd 290 6 = zb_290_6 := by decide +kernel
theorem zj_290_6 {S : zSs} {D n u : Nat} {sh : zk_S} {d : zm_D} {Q : ((Option zv_V) ⊕ Nat) → Nat → zk_S → zm_D → Nat → Prop} {L : zN} {st : List zv_V} : zJ S D 290 6 L st n sh d u Q ↔ zB S D 290 zb_290_6 L st n sh d u Q := by unfold zJ; rw [zc_290_6]
theorem zc_290_7 : zcd 290 7 = zb_290_7 := by decide +kernel
theorem zj_290_7 {S : zSs} {D n u : Nat} {sh : zk_S} {d : zm_D} {Q : ((Option zv_V) ⊕ Nat) → Nat → zk_S → zm_D → Nat → Prop} {L : zN} {st : List zv_V} : zJ S D 290 7 L st n sh d u Q ↔ zB S D 290 zb_290_7 L st n sh d u Q := by unfold zJ; rw [zc_290_7]
theorem zc_290_8 : zcd 290 8 = zb_290_8 := by decide +kernel
theorem zj_290_8 {S : zSs} {D n u : Nat} {sh : zk_S} {d : zm_D} {Q : ((Option zv_V) ⊕ Nat) → Nat → zk_S → zm_D → Nat → Prop} {L : zN} {st : List zv_V} : zJ S D 290 8 L st n sh d u Q ↔ zB S D 290 zb_290_8 L st n sh d u Q := by unfold zJ; rw [zc_290_8]
theorem zc_290_9 : zcd 290 9 = zb_290_9 := by decide +kernel
theorem zj_290_9 {S : zSs} {D n u : Nat} {sh : zk_S} {d : zm_D} {Q : ((Option zv_V) ⊕ Nat) → Nat → zk_S → zm_D → Nat → Prop} {L : zN} {st : List zv_V} : zJ S D 290 9 L st n sh d u Q ↔ zB S D 290 zb_290_9 L st n sh d u Q := by unfold zJ; rw [zc_290_9]
theorem zc_290_10 : zcd 290 10 = zb_290_10 := by decide +kernel
theorem zj_290_10 {S : zSs} {D n u : Nat} {sh : zk_S} {d : zm_D} {Q : ((Option zv_V) ⊕ Nat) → Nat → zk_S → zm_D → Nat → Prop} {L : zN} {st : List zv_V} : zJ S D 290 10 L st n sh d u Q ↔ zB S D 290 zb_290_10 L st n sh d u Q := by unfold zJ; rw [zc_290_10]
theorem zn_290 : znl 290 = 3 := by decide +kernel
theorem ze_290 {S : zSs} {D n u : Nat} {sh : zk_S} {d : zm_D} {Q : ((Option zv_V) ⊕ Nat) → Nat → zk_S → zm_D → Nat → Prop} {x0 : Int} {x1 : Int} {x2 : Int} : zE S D 290 [zv_a x0, zv_i x1, zv_i x2] n sh d u Q ↔ zB S D 290 zb_290_0 [some (zv_a x0), some (zv_i x1), some (zv_i x2)] [] n sh d u Q := by
  unfold zE; rw [zn_290, zc_290_0]; exact ⟨fun h => h.2, fun h => ⟨Nat.le_of_ble_eq_true rfl, h⟩⟩
theorem ze_290s {S : zSs} {D n u : Nat} {sh : zk_S} {d : zm_D} {Q : ((Option zv_V) ⊕ Nat) → Nat → zk_S → zm_D → Nat → Prop} {x0 : Int} {x1 : Int} : zE S D 290 [zv_i x0, zv_i x1] n sh d u Q ↔ zB S D 290 zb_290_0 [some (zv_i x0), some (zv_i x1), none] [] n sh d u Q := by
  unfold zE; rw [zn_290, zc_290_0]; exact ⟨fun h => h.2, fun h => ⟨Nat.le_of_ble_eq_true rfl, h⟩⟩
theorem zh_290 : zhl 290 = [] := by decide +kernel
theorem zc_291_0 : zcd 291 0 = zb_291_0 := by decide +kernel
theorem zj_291_0 {S : zSs} {D n u : Nat} {sh : zk_S} {d : zm_D} {Q : ((Option zv_V) ⊕ Nat) → Nat → zk_S → zm_D → Nat → Prop} {L : zN} {st : List zv_V} : zJ S D 291 0 L st n sh d u Q ↔ zB S D 291 zb_291_0 L st n sh d u Q := by unfold zJ; rw [zc_291_0]
theorem zc_291_1 : zcd 291 1 = zb_291_1 := by decide +kernel
theorem zj_291_1 {S : zSs} {D n u : Nat} {sh : zk_S} {d : zm_D} {Q : ((Option zv_V) ⊕ Nat) → Nat → zk_S → zm_D → Nat → Prop} {L : zN} {st : List zv_V} : zJ S D 291 1 L st n sh d u Q ↔ zB S D 291 zb_291_1 L st n sh d u Q := by unfold zJ; rw [zc_291_1]
theorem zc_291_2 : zcd 291 2 = zb_291_2 := by decide +kernel
theorem zj_291_2 {S : zSs} {D n u : Nat} {sh : zk_S} {d : zm_D} {Q : ((Option zv_V) ⊕ Nat) → Nat → zk_S → zm_D → Nat → Prop} {L : zN} {st : List zv_V} : zJ S D 291 2 L st n sh d u Q ↔ zB S D 291 zb_291_2 L st n sh d u Q := by unfold zJ; rw [zc_291_2]
theorem zc_291_3 : zcd 291 3 = zb_291_3 := by decide +kernel
theorem zj_291_3 {S : zSs} {D n u : Nat} {sh : zk_S} {d : zm_D} {Q : ((Option zv_V) ⊕ Nat) → Nat → zk_S → zm_D → Nat → Prop} {L : zN} {st : List zv_V} : zJ S D 291 3 L st n sh d u Q ↔ zB S D 291 zb_291_3 L st n sh d u Q := by unfold zJ; rw [zc_291_3]
theorem zc_291_4 : zcd 291 4 = zb_291_4 := by decide +kernel
theorem zj_291_4 {S : zSs} {D n u : Nat} {sh : zk_S} {d : zm_D} {Q : ((Option zv_V) ⊕ Nat) → Nat → zk_S → zm_D → Nat → Prop} {L : zN} {st : List zv_V} : zJ S D 291 4 L st n sh d u Q ↔ zB S D 291 zb_291_4 L st n sh d u Q := by unfold zJ; rw [zc_291_4]
theorem zc_291_5 : zcd 291 5 = zb_291_5 := by decide +kernel
theorem zj_291_5 {S : zSs} {D n u : Nat} {sh : zk_S} {d : zm_D} {Q : ((Option zv_V) ⊕ Nat) → Nat → zk_S → zm_D → Nat → Prop} {L : zN} {st : List zv_V} : zJ S D 291 5 L st n sh d u Q ↔ zB S D 291 zb_291_5 L st n sh d u Q := by unfold zJ; rw [zc_291_5]
theorem zc_291_6 : zcd 291 6 = zb_291_6 := by decide +kernel
theorem zj_291_6 {S : zSs} {D n u : Nat} {sh : zk_S} {d : zm_D} {Q : ((Option zv_V) ⊕ Nat) → Nat → zk_S → zm_D → Nat → Prop} {L : zN} {st : List zv_V} : zJ S D 291 6 L st n sh d u Q ↔ zB S D 291 zb_291_6 L st n sh d u Q := by unfold zJ; rw [zc_291_6]
theorem zc_291_7 : zcd 291 7 = zb_291_7 := by decide +kernel
theorem zj_291_7 {S : zSs} {D n u : Nat} {sh : zk_S} {d : zm_D} {Q : ((Option zv_V) ⊕ Nat) → Nat → zk_S → zm_D → Nat → Prop} {L : zN} {st : List zv_V} : zJ S D 291 7 L st n sh d u Q ↔ zB S D 291 zb_291_7 L st n sh d u Q := by unfold zJ; rw [zc_291_7]
theorem zc_291_8 : zcd 291 8 = zb_291_8 := by decide +kernel
theorem zj_291_8 {S : zSs} {D n u : Nat} {sh : zk_S} {d : zm_D} {Q : ((Option zv_V) ⊕ Nat) → Nat → zk_S → zm_D → Nat → Prop} {L : zN} {st : List zv_V} : zJ S D 291 8 L st n sh d u Q ↔ zB S D 291 zb_291_8 L st n sh d u Q := by unfold zJ; rw [zc_291_8]
theorem zc_291_9 : zcd 291 9 = zb_291_9 := by decide +kernel
theorem zj_291_9 {S : zSs} {D n u : Nat} {sh : zk_S} {d : zm_D} {Q : ((Option zv_V) ⊕ Nat) → Nat → zk_S → zm_D → Nat → Prop} {L : zN} {st : List zv_V} : zJ S D 291 9 L st n sh d u Q ↔ zB S D 291 zb_291_9 L st n sh d u Q := by unfold zJ; rw [zc_291_9]
theorem zc_291_10 : zcd 291 10 = zb_291_10 := by decide +kernel
theorem zj_291_10 {S : zSs} {D n u : Nat} {sh : zk_S} {d : zm_D} {Q : ((Option zv_V) ⊕ Nat) → Nat → zk_S → zm_D → Nat → Prop} {L : zN} {st : List zv_V} : zJ S D 291 10 L st n sh d u Q ↔ zB S D 291 zb_291_10 L st n sh d u Q := by unfold zJ; rw [zc_291_10]
theorem zc_291_11 : zcd 291 11 = zb_291_11 := by decide +kernel
theorem zj_291_11 {S : zSs} {D n u : Nat} {sh : zk_S} {d : zm_D} {Q : ((Option zv_V) ⊕ Nat) → Nat → zk_S → zm_D → Nat → Prop} {L : zN} {st : List zv_V} : zJ S D 291 11 L st n sh d u Q ↔ zB S D 291 zb_291_11 L st n sh d u Q := by unfold zJ; rw [zc_291_11]
theorem zc_291_12 : zcd 291 12 = zb_291_12 := by decide +kernel
theorem zj_291_12 {S : zSs} {D n u : Nat} {sh : zk_S} {d : zm_D} {Q : ((Option zv_V) ⊕ Nat) → Nat → zk_S → zm_D → Nat → Prop} {L : zN} {st : List zv_V} : zJ S D 291 12 L st n sh d u Q ↔ zB S D 291 zb_291_12 L st n sh d u Q := by unfold zJ; rw [zc_291_12]
theorem zn_291 : znl 291 = 5 := by decide +kernel
theorem ze_291 {S : zSs} {D n u : Nat} {sh : zk_S} {d : zm_D} {Q : ((Option zv_V) ⊕ Nat) → Nat → zk_S → zm_D → Nat → Prop} {x0 : Int} {x1 : Int} : zE S D 291 [zv_a x0, zv_i x1] n sh d u Q ↔ zB S D 291 zb_291_0 [some (zv_a x0), some (zv_i x1), none, none, none] [] n sh d u Q := by
  unfold zE; rw [zn_291, zc_291_0]; exact ⟨fun h => h.2, fun h => ⟨Nat.le_of_ble_eq_true rfl, h⟩⟩
theorem ze_291s {S : zSs} {D n u : Nat} {sh : zk_S} {d : zm_D} {Q : ((Option zv_V) ⊕ Nat) → Nat → zk_S → zm_D → Nat → Prop} {x0 : Int} : zE S D 291 [zv_i x0] n sh d u Q ↔ zB S D 291 zb_291_0 [some (zv_i x0), none, none, none, none] [] n sh d u Q := by
  unfold zE; rw [zn_291, zc_291_0]; exact ⟨fun h => h.2, fun h => ⟨Nat.le_of_ble_eq_true rfl, h⟩⟩
theorem zh_291 : zhl 291 = [] := by decide +kernel
theorem zc_292_0 : zcd 292 0 = zb_292_0 := by decide +kernel
theorem zj_292_0 {S : zSs} {D n u : Nat} {sh : zk_S} {d : zm_D} {Q : ((Option zv_V) ⊕ Nat) → Nat → zk_S → zm_D → Nat → Prop} {L : zN} {st : List zv_V} : zJ S D 292 0 L st n sh d u Q ↔ zB S D 292 zb_292_0 L st n sh d u Q := by unfold zJ; rw [zc_292_0]
theorem zc_292_1 : zcd 292 1 = zb_292_1 := by decide +kernel
theorem zj_292_1 {S : zSs} {D n u : Nat} {sh : zk_S} {d : zm_D} {Q : ((Option zv_V) ⊕ Nat) → Nat → zk_S → zm_D → Nat → Prop} {L : zN} {st : List zv_V} : zJ S D 292 1 L st n sh d u Q ↔ zB S D 292 zb_292_1 L st n sh d u Q := by unfold zJ; rw [zc_292_1]
theorem zc_292_2 : zcd 292 2 = zb_292_2 := by decide +kernel
theorem zj_292_2 {S : zSs} {D n u : Nat} {sh : zk_S} {d : zm_D} {Q : ((Option zv_V) ⊕ Nat) → Nat → zk_S → zm_D → Nat → Prop} {L : zN} {st : List zv_V} : zJ S D 292 2 L st n sh d u Q ↔ zB S D 292 zb_292_2 L st n sh d u Q := by unfold zJ; rw [zc_292_2]
theorem zc_292_3 : zcd 292 3 = zb_292_3 := by decide +kernel
theorem zj_292_3 {S : zSs} {D n u : Nat} {sh : zk_S} {d : zm_D} {Q : ((Option zv_V) ⊕ Nat) → Nat → zk_S → zm_D → Nat → Prop} {L : zN} {st : List zv_V} : zJ S D 292 3 L st n sh d u Q ↔ zB S D 292 zb_292_3 L st n sh d u Q := by unfold zJ; rw [zc_292_3]
theorem zn_292 : znl 292 = 1 := by decide +kernel
theorem ze_292 {S : zSs} {D n u : Nat} {sh : zk_S} {d : zm_D} {Q : ((Option zv_V) ⊕ Nat) → Nat → zk_S → zm_D → Nat → Prop} {x0 : Int} : zE S D 292 [zv_a x0] n sh d u Q ↔ zB S D 292 zb_292_0 [some (zv_a x0)] [] n sh d u Q := by
  unfold zE; rw [zn_292, zc_292_0]; exact ⟨fun h => h.2, fun h => ⟨Nat.le_of_ble_eq_true rfl, h⟩⟩
theorem ze_292s {S : zSs} {D n u : Nat} {sh : zk_S} {d : zm_D} {Q : ((Option zv_V) ⊕ Nat) → Nat → zk_S → zm_D → Nat → Prop} : zE S D 292 [] n sh d u Q ↔ zB S D 292 zb_292_0 [none] [] n sh d u Q := by
  unfold zE; rw [zn_292, zc_292_0]; exact ⟨fun h => h.2, fun h => ⟨Nat.le_of_ble_eq_true rfl, h⟩⟩
theorem zh_292 : zhl 292 = [] := by decide +kernel
theorem zc_293_0 : zcd 293 0 = zb_293_0 := by decide +kernel
theorem zj_293_0 {S : zSs} {D n u : Nat} {sh : zk_S} {d : zm_D} {Q : ((Option zv_V) ⊕ Nat) → Nat → zk_S → zm_D → Nat → Prop} {L : zN} {st : List zv_V} : zJ S D 293 0 L st n sh d u Q ↔ zB S D 293 zb_293_0 L st n sh d u Q := by unfold zJ; rw [zc_293_0]
theorem zc_293_1 : zcd 293 1 = zb_293_1 := by decide +kernel
theorem zj_293_1 {S : zSs} {D n u : Nat} {sh : zk_S} {d : zm_D} {Q : ((Option zv_V) ⊕ Nat) → Nat → zk_S → zm_D → Nat → Prop} {L : zN} {st : List zv_V} : zJ S D 293 1 L st n sh d u Q ↔ zB S D 293 zb_293_1 L st n sh d u Q := by unfold zJ; rw [zc_293_1]
theorem zc_293_2 : zcd 293 2 = zb_293_2 := by decide +kernel
theorem zj_293_2 {S : zSs} {D n u : Nat} {sh : zk_S} {d : zm_D} {Q : ((Option zv_V) ⊕ Nat) → Nat → zk_S → zm_D → Nat → Prop} {L : zN} {st : List zv_V} : zJ S D 293 2 L st n sh d u Q ↔ zB S D 293 zb_293_2 L st n sh d u Q := by unfold zJ; rw [zc_293_2]
theorem zc_293_3 : zcd 293 3 = zb_293_3 := by decide +kernel
theorem zj_293_3 {S : zSs} {D n u : Nat} {sh : zk_S} {d : zm_D} {Q : ((Option zv_V) ⊕ Nat) → Nat → zk_S → zm_D → Nat → Prop} {L : zN} {st : List zv_V} : zJ S D 293 3 L st n sh d u Q ↔ zB S D 293 zb_293_3 L st n sh d u Q := by unfold zJ; rw [zc_293_3]
theorem zc_293_4 : zcd 293 4 = zb_293_4 := by decide +kernel
theorem zj_293_4 {S : zSs} {D n u : Nat} {sh : zk_S} {d : zm_D} {Q : ((Option zv_V) ⊕ Nat) → Nat → zk_S → zm_D → Nat → Prop} {L : zN} {st : List zv_V} : zJ S D 293 4 L st n sh d u Q ↔ zB S D 293 zb_293_4 L st n sh d u Q := by unfold zJ; rw [zc_293_4]
theorem zn_293 : znl 293 = 2 := by decide +kernel
theorem ze_293 {S : zSs} {D n u : Nat} {sh : zk_S} {d : zm_D} {Q : ((Option zv_V) ⊕ Nat) → Nat → zk_S → zm_D → Nat → Prop} {x0 : Int} : zE S D 293 [zv_a x0] n sh d u Q ↔ zB S D 293 zb_293_0 [some (zv_a x0), none] [] n sh d u Q := by
  unfold zE; rw [zn_293, zc_293_0]; exact ⟨fun h => h.2, fun h => ⟨Nat.le_of_ble_eq_true rfl, h⟩⟩
theorem ze_293s {S : zSs} {D n u : Nat} {sh : zk_S} {d : zm_D} {Q : ((Option zv_V) ⊕ Nat) → Nat → zk_S → zm_D → Nat → Prop} : zE S D 293 [] n sh d u Q ↔ zB S D 293 zb_293_0 [none, none] [] n sh d u Q := by
  unfold zE; rw [zn_293, zc_293_0]; exact ⟨fun h => h.2, fun h => ⟨Nat.le_of_ble_eq_true rfl, h⟩⟩
theorem zh_293 : zhl 293 = [] := by decide +kernel
theorem zc_294_0 : zcd 294 0 = zb_294_0 := by decide +kernel
theorem zj_294_0 {S : zSs} {D n u : Nat} {sh : zk_S} {d : zm_D} {Q : ((Option zv_V) ⊕ Nat) → Nat → zk_S → zm_D → Nat → Prop} {L : zN} {st : List zv_V} : zJ S D 294 0 L st n sh d u Q ↔ zB S D 294 zb_294_0 L st n sh d u Q := by unfold zJ; rw [zc_294_0]
theorem zn_294 : znl 294 = 1 := by decide +kernel
theorem ze_294 {S : zSs} {D n u : Nat} {sh : zk_S} {d : zm_D} {Q : ((Option zv_V) ⊕ Nat) → Nat → zk_S → zm_D → Nat → Prop} {x0 : Int} : zE S D 294 [zv_a x0] n sh d u Q ↔ zB S D 294 zb_294_0 [some (zv_a x0)] [] n sh d u Q := by
  unfold zE; rw [zn_294, zc_294_0]; exact ⟨fun h => h.2, fun h => ⟨Nat.le_of_ble_eq_true rfl, h⟩⟩
theorem ze_294s {S : zSs} {D n u : Nat} {sh : zk_S} {d : zm_D} {Q : ((Option zv_V) ⊕ Nat) → Nat → zk_S → zm_D → Nat → Prop} : zE S D 294 [] n sh d u Q ↔ zB S D 294 zb_294_0 [none] [] n sh d u Q := by
  unfold zE; rw [zn_294, zc_294_0]; exact ⟨fun h => h.2, fun h => ⟨Nat.le_of_ble_eq_true rfl, h⟩⟩
theorem zh_294 : zhl 294 = [] := by decide +kernel
theorem zc_295_0 : zcd 295 0 = zb_295_0 := by decide +kernel
theorem zj_295_0 {S : zSs} {D n u : Nat} {sh : zk_S} {d : zm_D} {Q : ((Option zv_V) ⊕ Nat) → Nat → zk_S → zm_D → Nat → Prop} {L : zN} {st : List zv_V} : zJ S D 295 0 L st n sh d u Q ↔ zB S D 295 zb_295_0 L st n sh d u Q := by unfold zJ; rw [zc_295_0]
theorem zc_295_1 : zcd 295 1 = zb_295_1 := by decide +kernel
theorem zj_295_1 {S : zSs} {D n u : Nat} {sh : zk_S} {d : zm_D} {Q : ((Option zv_V) ⊕ Nat) → Nat → zk_S → zm_D → Nat → Prop} {L : zN} {st : List zv_V} : zJ S D 295 1 L st n sh d u Q ↔ zB S D 295 zb_295_1 L st n sh d u Q := by unfold zJ; rw [zc_295_1]
theorem zc_295_2 : zcd 295 2 = zb_295_2 := by decide +kernel
theorem zj_295_2 {S : zSs} {D n u : Nat} {sh : zk_S} {d : zm_D} {Q : ((Option zv_V) ⊕ Nat) → Nat → zk_S → zm_D → Nat → Prop} {L : zN} {st : List zv_V} : zJ S D 295 2 L st n sh d u Q ↔ zB S D 295 zb_295_2 L st n sh d u Q := by unfold zJ; rw [zc_295_2]
theorem zc_295_3 : zcd 295 3 = zb_295_3 := by decide +kernel
theorem zj_295_3 {S : zSs} {D n u : Nat} {sh : zk_S} {d : zm_D} {Q : ((Option zv_V) ⊕ Nat) → Nat → zk_S → zm_D → Nat → Prop} {L : zN} {st : List zv_V} : zJ S D 295 3 L st n sh d u Q ↔ zB S D 295 zb_295_3 L st n sh d u Q := by unfold zJ; rw [zc_295_3]
theorem zc_295_4 : zcd 295 4 = zb_295_4 := by decide +kernel
theorem zj_295_4 {S : zSs} {D n u : Nat} {sh : zk_S} {d : zm_D} {Q : ((Option zv_V) ⊕ Nat) → Nat → zk_S → zm_D → Nat → Prop} {L : zN} {st : List zv_V} : zJ S D 295 4 L st n sh d u Q ↔ zB S D 295 zb_295_4 L st n sh d u Q := by unfold zJ; rw [zc_295_4]
theorem zc_295_5 : zcd 295 5 = zb_295_5 := by decide +kernel
theorem zj_295_5 {S : zSs} {D n u : Nat} {sh : zk_S} {d : zm_D} {Q : ((Option zv_V) ⊕ Nat) → Nat → zk_S → zm_D → Nat → Prop} {L : zN} {st : List zv_V} : zJ S D 295 5 L st n sh d u Q ↔ zB S D 295 zb_295_5 L st n sh d u Q := by unfold zJ; rw [zc_295_5]
theorem zc_295_6 : zcd 295 6 = zb_295_6 := by decide +kernel
theorem zj_295_6 {S : zSs} {D n u : Nat} {sh : zk_S} {d : zm_D} {Q : ((Option zv_V) ⊕ Nat) → Nat → zk_S → zm_D → Nat → Prop} {L : zN} {st : List zv_V} : zJ S D 295 6 L st n sh d u Q ↔ zB S D 295 zb_295_6 L st n sh d u Q := by unfold zJ; rw [zc_295_6]
theorem zc_295_7 : zcd 295 7 = zb_295_7 := by decide +kernel
theorem zj_295_7 {S : zSs} {D n u : Nat} {sh : zk_S} {d : zm_D} {Q : ((Option zv_V) ⊕ Nat) → Nat → zk_S → zm_D → Nat → Prop} {L : zN} {st : List zv_V} : zJ S D 295 7 L st n sh d u Q ↔ zB S D 295 zb_295_7 L st n sh d u Q := by unfold zJ; rw [zc_295_7]
theorem zc_295_8 : zcd 295 8 = zb_295_8 := by decide +kernel
theorem zj_295_8 {S : zSs} {D n u : Nat} {sh : zk_S} {d : zm_D} {Q : ((Option zv_V) ⊕ Nat) → Nat → zk_S → zm_D → Nat → Prop} {L : zN} {st : List zv_V} : zJ S D 295 8 L st n sh d u Q ↔ zB S D 295 zb_295_8 L st n sh d u Q := by unfold zJ; rw [zc_295_8]
theorem zc_295_9 : zcd 295 9 = zb_295_9 := by decide +kernel
theorem zj_295_9 {S : zSs} {D n u : Nat} {sh : zk_S} {d : zm_D} {Q : ((Option zv_V) ⊕ Nat) → Nat → zk_S → zm_D → Nat → Prop} {L : zN} {st : List zv_V} : zJ S D 295 9 L st n sh d u Q ↔ zB S D 295 zb_295_9 L st n sh d u Q := by unfold zJ; rw [zc_295_9]
theorem zc_295_10 : zcd 295 10 = zb_295_10 := by decide +kernel
theorem zj_295_10 {S : zSs} {D n u : Nat} {sh : zk_S} {d : zm_D} {Q : ((Option zv_V) ⊕ Nat) → Nat → zk_S → zm_D → Nat → Prop} {L : zN} {st : List zv_V} : zJ S D 295 10 L st n sh d u Q ↔ zB S D 295 zb_295_10 L st n sh d u Q := by unfold zJ; rw [zc_295_10]
theorem zn_295 : znl 295 = 16 := by decide +kernel
theorem ze_295 {S : zSs} {D n u : Nat} {sh : zk_S} {d : zm_D} {Q : ((Option zv_V) ⊕ Nat) → Nat → zk_S → zm_D → Nat → Prop} {x0 : Int} {x1 : Int} : zE S D 295 [zv_a x0, zv_i x1] n sh d u Q ↔ zB S D 295 zb_295_0 [some (zv_a x0), some (zv_i x1), none, none, none, none, none, none, none, none, none, none, none, none, none, none] [] n sh d u Q := by
  unfold zE; rw [zn_295, zc_295_0]; exact ⟨fun h => h.2, fun h => ⟨Nat.le_of_ble_eq_true rfl, h⟩⟩
theorem ze_295s {S : zSs} {D n u : Nat} {sh : zk_S} {d : zm_D} {Q : ((Option zv_V) ⊕ Nat) → Nat → zk_S → zm_D → Nat → Prop} {x0 : Int} : zE S D 295 [zv_i x0] n sh d u Q ↔ zB S D 295 zb_295_0 [some (zv_i x0), none, none, none, none, none, none, none, none, none, none, none, none, none, none, none] [] n sh d u Q := by
  unfold zE; rw [zn_295, zc_295_0]; exact ⟨fun h => h.2, fun h => ⟨Nat.le_of_ble_eq_true rfl, h⟩⟩
theorem zh_295 : zhl 295 = [] := by decide +kernel
theorem zc_296_0 : zcd 296 0 = zb_296_0 := by decide +kernel
theorem zj_296_0 {S : zSs} {D n u : Nat} {sh : zk_S} {d : zm_D} {Q : ((Option zv_V) ⊕ Nat) → Nat → zk_S → zm_D → Nat → Prop} {L : zN} {st : List zv_V} : zJ S D 296 0 L st n sh d u Q ↔ zB S D 296 zb_296_0 L st n sh d u Q := by unfold zJ; rw [zc_296_0]
theorem zn_296 : znl 296 = 1 := by decide +kernel
theorem ze_296 {S : zSs} {D n u : Nat} {sh : zk_S} {d : zm_D} {Q : ((Option zv_V) ⊕ Nat) → Nat → zk_S → zm_D → Nat → Prop} {x0 : Int} : zE S D 296 [zv_a x0] n sh d u Q ↔ zB S D 296 zb_296_0 [some (zv_a x0)] [] n sh d u Q := by
  unfold zE; rw [zn_296, zc_296_0]; exact ⟨fun h => h.2, fun h => ⟨Nat.le_of_ble_eq_true rfl, h⟩⟩
theorem ze_296s {S : zSs} {D n u : Nat} {sh : zk_S} {d : zm_D} {Q : ((Option zv_V) ⊕ Nat) → Nat → zk_S → zm_D → Nat → Prop} : zE S D 296 [] n sh d u Q ↔ zB S D 296 zb_296_0 [none] [] n sh d u Q := by
  unfold zE; rw [zn_296, zc_296_0]; exact ⟨fun h => h.2, fun h => ⟨Nat.le_of_ble_eq_true rfl, h⟩⟩
theorem zh_296 : zhl 296 = [] := by decide +kernel
theorem zc_297_0 : zcd 297 0 = zb_297_0 := by decide +kernel
theorem zj_297_0 {S : zSs} {D n u : Nat} {sh : zk_S} {d : zm_D} {Q : ((Option zv_V) ⊕ Nat) → Nat → zk_S → zm_D → Nat → Prop} {L : zN} {st : List zv_V} : zJ S D 297 0 L st n sh d u Q ↔ zB S D 297 zb_297_0 L st n sh d u Q := by unfold zJ; rw [zc_297_0]
theorem zn_297 : znl 297 = 1 := by decide +kernel
theorem ze_297 {S : zSs} {D n u : Nat} {sh : zk_S} {d : zm_D} {Q : ((Option zv_V) ⊕ Nat) → Nat → zk_S → zm_D → Nat → Prop} {x0 : Int} : zE S D 297 [zv_a x0] n sh d u Q ↔ zB S D 297 zb_297_0 [some (zv_a x0)] [] n sh d u Q := by
  unfold zE; rw [zn_297, zc_297_0]; exact ⟨fun h => h.2, fun h => ⟨Nat.le_of_ble_eq_true rfl, h⟩⟩
theorem ze_297s {S : zSs} {D n u : Nat} {sh : zk_S} {d : zm_D} {Q : ((Option zv_V) ⊕ Nat) → Nat → zk_S → zm_D → Nat → Prop} : zE S D 297 [] n sh d u Q ↔ zB S D 297 zb_297_0 [none] [] n sh d u Q := by
  unfold zE; rw [zn_297, zc_297_0]; exact ⟨fun h => h.2, fun h => ⟨Nat.le_of_ble_eq_true rfl, h⟩⟩
theorem zh_297 : zhl 297 = [] := by decide +kernel
theorem zc_298_0 : zcd 298 0 = zb_298_0 := by decide +kernel
theorem zj_298_0 {S : zSs} {D n u : Nat} {sh : zk_S} {d : zm_D} {Q : ((Option zv_V) ⊕ Nat) → Nat → zk_S → zm_D → Nat → Prop} {L : zN} {st : List zv_V} : zJ S D 298 0 L st n sh d u Q ↔ zB S D 298 zb_298_0 L st n sh d u Q := by unfold zJ; rw [zc_298_0]
theorem zc_298_1 : zcd 298 1 = zb_298_1 := by decide +kernel
theorem zj_298_1 {S : zSs} {D n u : Nat} {sh : zk_S} {d : zm_D} {Q : ((Option zv_V) ⊕ Nat) → Nat → zk_S → zm_D → Nat → Prop} {L : zN} {st : List zv_V} : zJ S D 298 1 L st n sh d u Q ↔ zB S D 298 zb_298_1 L st n sh d u Q := by unfold zJ; rw [zc_298_1]
theorem zc_298_2 : zcd 298 2 = zb_298_2 := by decide +kernel
theorem zj_298_2 {S : zSs} {D n u : Nat} {sh : zk_S} {d : zm_D} {Q : ((Option zv_V) ⊕ Nat) → Nat → zk_S → zm_D → Nat → Prop} {L : zN} {st : List zv_V} : zJ S D 298 2 L st n sh d u Q ↔ zB S D 298 zb_298_2 L st n sh d u Q := by unfold zJ; rw [zc_298_2]
theorem zc_298_3 : zcd 298 3 = zb_298_3 := by decide +kernel
theorem zj_298_3 {S : zSs} {D n u : Nat} {sh : zk_S} {d : zm_D} {Q : ((Option zv_V) ⊕ Nat) → Nat → zk_S → zm_D → Nat → Prop} {L : zN} {st : List zv_V} : zJ S D 298 3 L st n sh d u Q ↔ zB S D 298 zb_298_3 L st n sh d u Q := by unfold zJ; rw [zc_298_3]
theorem zn_298 : znl 298 = 2 := by decide +kernel
theorem ze_298 {S : zSs} {D n u : Nat} {sh : zk_S} {d : zm_D} {Q : ((Option zv_V) ⊕ Nat) → Nat → zk_S → zm_D → Nat → Prop} {x0 : Int} {x1 : Int} : zE S D 298 [zv_a x0, zv_i x1] n sh d u Q ↔ zB S D 298 zb_298_0 [some (zv_a x0), some (zv_i x1)] [] n sh d u Q := by
  unfold zE; rw [zn_298, zc_298_0]; exact ⟨fun h => h.2, fun h => ⟨Nat.le_of_ble_eq_true rfl, h⟩⟩
theorem ze_298s {S : zSs} {D n u : Nat} {sh : zk_S} {d : zm_D} {Q : ((Option zv_V) ⊕ Nat) → Nat → zk_S → zm_D → Nat → Prop} {x0 : Int} : zE S D 298 [zv_i x0] n sh d u Q ↔ zB S D 298 zb_298_0 [some (zv_i x0), none] [] n sh d u Q := by
  unfold zE; rw [zn_298, zc_298_0]; exact ⟨fun h => h.2, fun h => ⟨Nat.le_of_ble_eq_true rfl, h⟩⟩
theorem zh_298 : zhl 298 = [] := by decide +kernel
theorem zc_299_0 : zcd 299 0 = zb_299_0 := by decide +kernel
theorem zj_299_0 {S : zSs} {D n u : Nat} {sh : zk_S} {d : zm_D} {Q : ((Option zv_V) ⊕ Nat) → Nat → zk_S → zm_D → Nat → Prop} {L : zN} {st : List zv_V} : zJ S D 299 0 L st n sh d u Q ↔ zB S D 299 zb_299_0 L st n sh d u Q := by unfold zJ; rw [zc_299_0]
theorem zc_299_1 : zcd 299 1 = zb_299_1 := by decide +kernel
theorem zj_299_1 {S : zSs} {D n u : Nat} {sh : zk_S} {d : zm_D} {Q : ((Option zv_V) ⊕ Nat) → Nat → zk_S → zm_D → Nat → Prop} {L : zN} {st : List zv_V} : zJ S D 299 1 L st n sh d u Q ↔ zB S D 299 zb_299_1 L st n sh d u Q := by unfold zJ; rw [zc_299_1]
theorem zc_299_2 : zcd 299 2 = zb_299_2 := by decide +kernel
theorem zj_299_2 {S : zSs} {D n u : Nat} {sh : zk_S} {d : zm_D} {Q : ((Option zv_V) ⊕ Nat) → Nat → zk_S → zm_D → Nat → Prop} {L : zN} {st : List zv_V} : zJ S D 299 2 L st n sh d u Q ↔ zB S D 299 zb_299_2 L st n sh d u Q := by unfold zJ; rw [zc_299_2]
theorem zc_299_3 : zcd 299 3 = zb_299_3 := by decide +kernel
theorem zj_299_3 {S : zSs} {D n u : Nat} {sh : zk_S} {d : zm_D} {Q : ((Option zv_V) ⊕ Nat) → Nat → zk_S → zm_D → Nat → Prop} {L : zN} {st : List zv_V} : zJ S D 299 3 L st n sh d u Q ↔ zB S D 299 zb_299_3 L st n sh d u Q := by unfold zJ; rw [zc_299_3]
theorem zc_299_4 : zcd 299 4 = zb_299_4 := by decide +kernel
theorem zj_299_4 {S : zSs} {D n u : Nat} {sh : zk_S} {d : zm_D} {Q : ((Option zv_V) ⊕ Nat) → Nat → zk_S → zm_D → Nat → Prop} {L : zN} {st : List zv_V} : zJ S D 299 4 L st n sh d u Q ↔ zB S D 299 zb_299_4 L st n sh d u Q := by unfold zJ; rw [zc_299_4]
theorem zc_299_5 : zcd 299 5 = zb_299_5 := by decide +kernel
theorem zj_299_5 {S : zSs} {D n u : Nat} {sh : zk_S} {d : zm_D} {Q : ((Option zv_V) ⊕ Nat) → Nat → zk_S → zm_D → Nat → Prop} {L : zN} {st : List zv_V} : zJ S D 299 5 L st n sh d u Q ↔ zB S D 299 zb_299_5 L st n sh d u Q := by unfold zJ; rw [zc_299_5]
theorem zc_299_6 : zcd 299 6 = zb_299_6 := by decide +kernel
theorem zj_299_6 {S : zSs} {D n u : Nat} {sh : zk_S} {d : zm_D} {Q : ((Option zv_V) ⊕ Nat) → Nat → zk_S → zm_D → Nat → Prop} {L : zN} {st : List zv_V} : zJ S D 299 6 L st n sh d u Q ↔ zB S D 299 zb_299_6 L st n sh d u Q := by unfold zJ; rw [zc_299_6]
theorem zc_299_7 : zcd 299 7 = zb_299_7 := by decide +kernel
theorem zj_299_7 {S : zSs} {D n u : Nat} {sh : zk_S} {d : zm_D} {Q : ((Option zv_V) ⊕ Nat) → Nat → zk_S → zm_D → Nat → Prop} {L : zN} {st : List zv_V} : zJ S D 299 7 L st n sh d u Q ↔ zB S D 299 zb_299_7 L st n sh d u Q := by unfold zJ; rw [zc_299_7]
theorem zc_299_8 : zcd 299 8 = zb_299_8 := by decide +kernel
theorem zj_299_8 {S : zSs} {D n u : Nat} {sh : zk_S} {d : zm_D} {Q : ((Option zv_V) ⊕ Nat) → Nat → zk_S → zm_D → Nat → Prop} {L : zN} {st : List zv_V} : zJ S D 299 8 L st n sh d u Q ↔ zB S D 299 zb_299_8 L st n sh d u Q := by unfold zJ; rw [zc_299_8]
theorem zc_299_9 : zcd 299 9 = zb_299_9 := by decide +kernel
theorem zj_299_9 {S : zSs} {D n u : Nat} {sh : zk_S} {d : zm_D} {Q : ((Option zv_V) ⊕ Nat) → Nat → zk_S → zm_D → Nat → Prop} {L : zN} {st : List zv_V} : zJ S D 299 9 L st n sh d u Q ↔ zB S D 299 zb_299_9 L st n sh d u Q := by unfold zJ; rw [zc_299_9]
theorem zn_299 : znl 299 = 3 := by decide +kernel
theorem ze_299 {S : zSs} {D n u : Nat} {sh : zk_S} {d : zm_D} {Q : ((Option zv_V) ⊕ Nat) → Nat → zk_S → zm_D → Nat → Prop} {x0 : Int} {x1 : Int} {x2 : Int} : zE S D 299 [zv_a x0, zv_i x1, zv_i x2] n sh d u Q ↔ zB S D 299 zb_299_0 [some (zv_a x0), some (zv_i x1), some (zv_i x2)] [] n sh d u Q := by
  unfold zE; rw [zn_299, zc_299_0]; exact ⟨fun h => h.2, fun h => ⟨Nat.le_of_ble_eq_true rfl, h⟩⟩
theorem ze_299s {S : zSs} {D n u : Nat} {sh : zk_S} {d : zm_D} {Q : ((Option zv_V) ⊕ Nat) → Nat → zk_S → zm_D → Nat → Prop} {x0 : Int} {x1 : Int} : zE S D 299 [zv_i x0, zv_i x1] n sh d u Q ↔ zB S D 299 zb_299_0 [some (zv_i x0), some (zv_i x1), none] [] n sh d u Q := by
  unfold zE; rw [zn_299, zc_299_0]; exact ⟨fun h => h.2, fun h => ⟨Nat.le_of_ble_eq_true rfl, h⟩⟩
theorem zh_299 : zhl 299 = [] := by decide +kernel
theorem zc_300_0 : zcd 300 0 = zb_300_0 := by decide +kernel
theorem zj_300_0 {S : zSs} {D n u : Nat} {sh : zk_S} {d : zm_D} {Q : ((Option zv_V) ⊕ Nat) → Nat → zk_S → zm_D → Nat → Prop} {L : zN} {st : List zv_V} : zJ S D 300 0 L st n sh d u Q ↔ zB S D 300 zb_300_0 L st n sh d u Q := by unfold zJ; rw [zc_300_0]
theorem zc_300_1 : zcd 300 1 = zb_300_1 := by decide +kernel
theorem zj_300_1 {S : zSs} {D n u : Nat} {sh : zk_S} {d : zm_D} {Q : ((Option zv_V) ⊕ Nat) → Nat → zk_S → zm_D → Nat → Prop} {L : zN} {st : List zv_V} : zJ S D 300 1 L st n sh d u Q ↔ zB S D 300 zb_300_1 L st n sh d u Q := by unfold zJ; rw [zc_300_1]
theorem zc_300_2 : zcd 300 2 = zb_300_2 := by decide +kernel
theorem zj_300_2 {S : zSs} {D n u : Nat} {sh : zk_S} {d : zm_D} {Q : ((Option zv_V) ⊕ Nat) → Nat → zk_S → zm_D → Nat → Prop} {L : zN} {st : List zv_V} : zJ S D 300 2 L st n sh d u Q ↔ zB S D 300 zb_300_2 L st n sh d u Q := by unfold zJ; rw [zc_300_2]
theorem zc_300_3 : zcd 300 3 = zb_300_3 := by decide +kernel
theorem zj_300_3 {S : zSs} {D n u : Nat} {sh : zk_S} {d : zm_D} {Q : ((Option zv_V) ⊕ Nat) → Nat → zk_S → zm_D → Nat → Prop} {L : zN} {st : List zv_V} : zJ S D 300 3 L st n sh d u Q ↔ zB S D 300 zb_300_3 L st n sh d u Q := by unfold zJ; rw [zc_300_3]
theorem zc_300_4 : zcd 300 4 = zb_300_4 := by decide +kernel
theorem zj_300_4 {S : zSs} {D n u : Nat} {sh : zk_S} {d : zm_D} {Q : ((Option zv_V) ⊕ Nat) → Nat → zk_S → zm_D → Nat → Prop} {L : zN} {st : List zv_V} : zJ S D 300 4 L st n sh d u Q ↔ zB S D 300 zb_300_4 L st n sh d u Q := by unfold zJ; rw [zc_300_4]
theorem zn_300 : znl 300 = 4 := by decide +kernel
theorem ze_300 {S : zSs} {D n u : Nat} {sh : zk_S} {d : zm_D} {Q : ((Option zv_V) ⊕ Nat) → Nat → zk_S → zm_D → Nat → Prop} {x0 : Int} {x1 : Int} : zE S D 300 [zv_a x0, zv_i x1] n sh d u Q ↔ zB S D 300 zb_300_0 [some (zv_a x0), some (zv_i x1), none, none] [] n sh d u Q := by
  unfold zE; rw [zn_300, zc_300_0]; exact ⟨fun h => h.2, fun h => ⟨Nat.le_of_ble_eq_true rfl, h⟩⟩
theorem ze_300s {S : zSs} {D n u : Nat} {sh : zk_S} {d : zm_D} {Q : ((Option zv_V) ⊕ Nat) → Nat → zk_S → zm_D → Nat → Prop} {x0 : Int} : zE S D 300 [zv_i x0] n sh d u Q ↔ zB S D 300 zb_300_0 [some (zv_i x0), none, none, none] [] n sh d u Q := by
  unfold zE; rw [zn_300, zc_300_0]; exact ⟨fun h => h.2, fun h => ⟨Nat.le_of_ble_eq_true rfl, h⟩⟩
theorem zh_300 : zhl 300 = [] := by decide +kernel
theorem zc_301_0 : zcd 301 0 = zb_301_0 := by decide +kernel
theorem zj_301_0 {S : zSs} {D n u : Nat} {sh : zk_S} {d : zm_D} {Q : ((Option zv_V) ⊕ Nat) → Nat → zk_S → zm_D → Nat → Prop} {L : zN} {st : List zv_V} : zJ S D 301 0 L st n sh d u Q ↔ zB S D 301 zb_301_0 L st n sh d u Q := by unfold zJ; rw [zc_301_0]
theorem zc_301_1 : zcd 301 1 = zb_301_1 := by decide +kernel
theorem zj_301_1 {S : zSs} {D n u : Nat} {sh : zk_S} {d : zm_D} {Q : ((Option zv_V) ⊕ Nat) → Nat → zk_S → zm_D → Nat → Prop} {L : zN} {st : List zv_V} : zJ S D 301 1 L st n sh d u Q ↔ zB S D 301 zb_301_1 L st n sh d u Q := by unfold zJ; rw [zc_301_1]
theorem zc_301_2 : zcd 301 2 = zb_301_2 := by decide +kernel
theorem zj_301_2 {S : zSs} {D n u : Nat} {sh : zk_S} {d : zm_D} {Q : ((Option zv_V) ⊕ Nat) → Nat → zk_S → zm_D → Nat → Prop} {L : zN} {st : List zv_V} : zJ S D 301 2 L st n sh d u Q ↔ zB S D 301 zb_301_2 L st n sh d u Q := by unfold zJ; rw [zc_301_2]
theorem zc_301_3 : zcd 301 3 = zb_301_3 := by decide +kernel
theorem zj_301_3 {S : zSs} {D n u : Nat} {sh : zk_S} {d : zm_D} {Q : ((Option zv_V) ⊕ Nat) → Nat → zk_S → zm_D → Nat → Prop} {L : zN} {st : List zv_V} : zJ S D 301 3 L st n sh d u Q ↔ zB S D 301 zb_301_3 L st n sh d u Q := by unfold zJ; rw [zc_301_3]
theorem zn_301 : znl 301 = 2 := by decide +kernel
theorem ze_301 {S : zSs} {D n u : Nat} {sh : zk_S} {d : zm_D} {Q : ((Option zv_V) ⊕ Nat) → Nat → zk_S → zm_D → Nat → Prop} {x0 : Int} {x1 : Int} : zE S D 301 [zv_a x0, zv_i x1] n sh d u Q ↔ zB S D 301 zb_301_0 [some (zv_a x0), some (zv_i x1)] [] n sh d u Q := by
  unfold zE; rw [zn_301, zc_301_0]; exact ⟨fun h => h.2, fun h => ⟨Nat.le_of_ble_eq_true rfl, h⟩⟩
theorem ze_301s {S : zSs} {D n u : Nat} {sh : zk_S} {d : zm_D} {Q : ((Option zv_V) ⊕ Nat) → Nat → zk_S → zm_D → Nat → Prop} {x0 : Int} : zE S D 301 [zv_i x0] n sh d u Q ↔ zB S D 301 zb_301_0 [some (zv_i x0), none] [] n sh d u Q := by
  unfold zE; rw [zn_301, zc_301_0]; exact ⟨fun h => h.2, fun h => ⟨Nat.le_of_ble_eq_true rfl, h⟩⟩
theorem zh_301 : zhl 301 = [] := by decide +kernel
theorem zc_302_0 : zcd 302 0 = zb_302_0 := by decide +kernel
theorem zj_302_0 {S : zSs} {D n u : Nat} {sh : zk_S} {d : zm_D} {Q : ((Option zv_V) ⊕ Nat) → Nat → zk_S → zm_D → Nat → Prop} {L : zN} {st : List zv_V} : zJ S D 302 0 L st n sh d u Q ↔ zB S D 302 zb_302_0 L st n sh d u Q := by unfold zJ; rw [zc_302_0]
theorem zc_302_1 : zcd 302 1 = zb_302_1 := by decide +kernel
theorem zj_302_1 {S : zSs} {D n u : Nat} {sh : zk_S} {d : zm_D} {Q : ((Option zv_V) ⊕ Nat) → Nat → zk_S → zm_D → Nat → Prop} {L : zN} {st : List zv_V} : zJ S D 302 1 L st n sh d u Q ↔ zB S D 302 zb_302_1 L st n sh d u Q := by unfold zJ; rw [zc_302_1]
theorem zc_302_2 : zcd 302 2 = zb_302_2 := by decide +kernel
theorem zj_302_2 {S : zSs} {D n u : Nat} {sh : zk_S} {d : zm_D} {Q : ((Option zv_V) ⊕ Nat) → Nat → zk_S → zm_D → Nat → Prop} {L : zN} {st : List zv_V} : zJ S D 302 2 L st n sh d u Q ↔ zB S D 302 zb_302_2 L st n sh d u Q := by unfold zJ; rw [zc_302_2]
theorem zc_302_3 : zcd 302 3 = zb_302_3 := by decide +kernel
theorem zj_302_3 {S : zSs} {D n u : Nat} {sh : zk_S} {d : zm_D} {Q : ((Option zv_V) ⊕ Nat) → Nat → zk_S → zm_D → Nat → Prop} {L : zN} {st : List zv_V} : zJ S D 302 3 L st n sh d u Q ↔ zB S D 302 zb_302_3 L st n sh d u Q := by unfold zJ; rw [zc_302_3]
theorem zc_302_4 : zcd 302 4 = zb_302_4 := by decide +kernel
theorem zj_302_4 {S : zSs} {D n u : Nat} {sh : zk_S} {d : zm_D} {Q : ((Option zv_V) ⊕ Nat) → Nat → zk_S → zm_D → Nat → Prop} {L : zN} {st : List zv_V} : zJ S D 302 4 L st n sh d u Q ↔ zB S D 302 zb_302_4 L st n sh d u Q := by unfold zJ; rw [zc_302_4]
theorem zc_302_5 : zcd 302 5 = zb_302_5 := by decide +kernel
theorem zj_302_5 {S : zSs} {D n u : Nat} {sh : zk_S} {d : zm_D} {Q : ((Option zv_V) ⊕ Nat) → Nat → zk_S → zm_D → Nat → Prop} {L : zN} {st : List zv_V} : zJ S D 302 5 L st n sh d u Q ↔ zB S D 302 zb_302_5 L st n sh d u Q := by unfold zJ; rw [zc_302_5]
theorem zc_302_6 : zcd 302 6 = zb_302_6 := by decide +kernel
theorem zj_302_6 {S : zSs} {D n u : Nat} {sh : zk_S} {d : zm_D} {Q : ((Option zv_V) ⊕ Nat) → Nat → zk_S → zm_D → Nat → Prop} {L : zN} {st : List zv_V} : zJ S D 302 6 L st n sh d u Q ↔ zB S D 302 zb_302_6 L st n sh d u Q := by unfold zJ; rw [zc_302_6]
theorem zc_302_7 : zcd 302 7 = zb_302_7 := by decide +kernel
theorem zj_302_7 {S : zSs} {D n u : Nat} {sh : zk_S} {d : zm_D} {Q : ((Option zv_V) ⊕ Nat) → Nat → zk_S → zm_D → Nat → Prop} {L : zN} {st : List zv_V} : zJ S D 302 7 L st n sh d u Q ↔ zB S D 302 zb_302_7 L st n sh d u Q := by unfold zJ; rw [zc_302_7]
theorem zc_302_8 : zcd 302 8 = zb_302_8 := by decide +kernel
theorem zj_302_8 {S : zSs} {D n u : Nat} {sh : zk_S} {d : zm_D} {Q : ((Option zv_V) ⊕ Nat) → Nat → zk_S → zm_D → Nat → Prop} {L : zN} {st : List zv_V} : zJ S D 302 8 L st n sh d u Q ↔ zB S D 302 zb_302_8 L st n sh d u Q := by unfold zJ; rw [zc_302_8]
theorem zc_302_9 : zcd 302 9 = zb_302_9 := by decide +kernel
theorem zj_302_9 {S : zSs} {D n u : Nat} {sh : zk_S} {d : zm_D} {Q : ((Option zv_V) ⊕ Nat) → Nat → zk_S → zm_D → Nat → Prop} {L : zN} {st : List zv_V} : zJ S D 302 9 L st n sh d u Q ↔ zB S D 302 zb_302_9 L st n sh d u Q := by unfold zJ; rw [zc_302_9]
theorem zc_302_10 : zcd 302 10 = zb_302_10 := by decide +kernel
theorem zj_302_10 {S : zSs} {D n u : Nat} {sh : zk_S} {d : zm_D} {Q : ((Option zv_V) ⊕ Nat) → Nat → zk_S → zm_D → Nat → Prop} {L : zN} {st : List zv_V} : zJ S D 302 10 L st n sh d u Q ↔ zB S D 302 zb_302_10 L st n sh d u Q := by unfold zJ; rw [zc_302_10]
theorem zc_302_11 : zcd 302 11 = zb_302_11 := by decide +kernel
theorem zj_302_11 {S : zSs} {D n u : Nat} {sh : zk_S} {d : zm_D} {Q : ((Option zv_V) ⊕ Nat) → Nat → zk_S → zm_D → Nat → Prop} {L : zN} {st : List zv_V} : zJ S D 302 11 L st n sh d u Q ↔ zB S D 302 zb_302_11 L st n sh d u Q := by unfold zJ; rw [zc_302_11]
theorem zc_302_12 : zcd 302 12 = zb_302_12 := by decide +kernel
theorem zj_302_12 {S : zSs} {D n u : Nat} {sh : zk_S} {d : zm_D} {Q : ((Option zv_V) ⊕ Nat) → Nat → zk_S → zm_D → Nat → Prop} {L : zN} {st : List zv_V} : zJ S D 302 12 L st n sh d u Q ↔ zB S D 302 zb_302_12 L st n sh d u Q := by unfold zJ; rw [zc_302_12]
theorem zc_302_13 : zcd 302 13 = zb_302_13 := by decide +kernel
theorem zj_302_13 {S : zSs} {D n u : Nat} {sh : zk_S} {d : zm_D} {Q : ((Option zv_V) ⊕ Nat) → Nat → zk_S → zm_D → Nat → Prop} {L : zN} {st : List zv_V} : zJ S D 302 13 L st n sh d u Q ↔ zB S D 302 zb_302_13 L st n sh d u Q := by unfold zJ; rw [zc_302_13]
theorem zc_302_14 : zcd 302 14 = zb_302_14 := by decide +kernel
theorem zj_302_14 {S : zSs} {D n u : Nat} {sh : zk_S} {d : zm_D} {Q : ((Option zv_V) ⊕ Nat) → Nat → zk_S → zm_D → Nat → Prop} {L : zN} {st : List zv_V} : zJ S D 302 14 L st n sh d u Q ↔ zB S D 302 zb_302_14 L st n sh d u Q := by unfold zJ; rw [zc_302_14]
theorem zn_302 : znl 302 = 7 := by decide +kernel
theorem ze_302 {S : zSs} {D n u : Nat} {sh : zk_S} {d : zm_D} {Q : ((Option zv_V) ⊕ Nat) → Nat → zk_S → zm_D → Nat → Prop} {x0 : Int} : zE S D 302 [zv_a x0] n sh d u Q ↔ zB S D 302 zb_302_0 [some (zv_a x0), none, none, none, none, none, none] [] n sh d u Q := by
  unfold zE; rw [zn_302, zc_302_0]; exact ⟨fun h => h.2, fun h => ⟨Nat.le_of_ble_eq_true rfl, h⟩⟩
theorem ze_302s {S : zSs} {D n u : Nat} {sh : zk_S} {d : zm_D} {Q : ((Option zv_V) ⊕ Nat) → Nat → zk_S → zm_D → Nat → Prop} : zE S D 302 [] n sh d u Q ↔ zB S D 302 zb_302_0 [none, none, none, none, none, none, none] [] n sh d u Q := by
  unfold zE; rw [zn_302, zc_302_0]; exact ⟨fun h => h.2, fun h => ⟨Nat.le_of_ble_eq_true rfl, h⟩⟩
theorem zh_302 : zhl 302 = [] := by decide +kernel
theorem zc_303_0 : zcd 303 0 = zb_303_0 := by decide +kernel
theorem zj_303_0 {S : zSs} {D n u : Nat} {sh : zk_S} {d : zm_D} {Q : ((Option zv_V) ⊕ Nat) → Nat → zk_S → zm_D → Nat → Prop} {L : zN} {st : List zv_V} : zJ S D 303 0 L st n sh d u Q ↔ zB S D 303 zb_303_0 L st n sh d u Q := by unfold zJ; rw [zc_303_0]
theorem zc_303_1 : zcd 303 1 = zb_303_1 := by decide +kernel
theorem zj_303_1 {S : zSs} {D n u : Nat} {sh : zk_S} {d : zm_D} {Q : ((Option zv_V) ⊕ Nat) → Nat → zk_S → zm_D → Nat → Prop} {L : zN} {st : List zv_V} : zJ S D 303 1 L st n sh d u Q ↔ zB S D 303 zb_303_1 L st n sh d u Q := by unfold zJ; rw [zc_303_1]
theorem zc_303_2 : zcd 303 2 = zb_303_2 := by decide +kernel
theorem zj_303_2 {S : zSs} {D n u : Nat} {sh : zk_S} {d : zm_D} {Q : ((Option zv_V) ⊕ Nat) → Nat → zk_S → zm_D → Nat → Prop} {L : zN} {st : List zv_V} : zJ S D 303 2 L st n sh d u Q ↔ zB S D 303 zb_303_2 L st n sh d u Q := by unfold zJ; rw [zc_303_2]
theorem zc_303_3 : zcd 303 3 = zb_303_3 := by decide +kernel
theorem zj_303_3 {S : zSs} {D n u : Nat} {sh : zk_S} {d : zm_D} {Q : ((Option zv_V) ⊕ Nat) → Nat → zk_S → zm_D → Nat → Prop} {L : zN} {st : List zv_V} : zJ S D 303 3 L st n sh d u Q ↔ zB S D 303 zb_303_3 L st n sh d u Q := by unfold zJ; rw [zc_303_3]
theorem zc_303_4 : zcd 303 4 = zb_303_4 := by decide +kernel
theorem zj_303_4 {S : zSs} {D n u : Nat} {sh : zk_S} {d : zm_D} {Q : ((Option zv_V) ⊕ Nat) → Nat → zk_S → zm_D → Nat → Prop} {L : zN} {st : List zv_V} : zJ S D 303 4 L st n sh d u Q ↔ zB S D 303 zb_303_4 L st n sh d u Q := by unfold zJ; rw [zc_303_4]
theorem zc_303_5 : zcd 303 5 = zb_303_5 := by decide +kernel
theorem zj_303_5 {S : zSs} {D n u : Nat} {sh : zk_S} {d : zm_D} {Q : ((Option zv_V) ⊕ Nat) → Nat → zk_S → zm_D → Nat → Prop} {L : zN} {st : List zv_V} : zJ S D 303 5 L st n sh d u Q ↔ zB S D 303 zb_303_5 L st n sh d u Q := by unfold zJ; rw [zc_303_5]
theorem zc_303_6 : zcd 303 6 = zb_303_6 := by decide +kernel
theorem zj_303_6 {S : zSs} {D n u : Nat} {sh : zk_S} {d : zm_D} {Q : ((Option zv_V) ⊕ Nat) → Nat → zk_S → zm_D → Nat → Prop} {L : zN} {st : List zv_V} : zJ S D 303 6 L st n sh d u Q ↔ zB S D 303 zb_303_6 L st n sh d u Q := by unfold zJ; rw [zc_303_6]
theorem zc_303_7 : zcd 303 7 = zb_303_7 := by decide +kernel
theorem zj_303_7 {S : zSs} {D n u : Nat} {sh : zk_S} {d : zm_D} {Q : ((Option zv_V) ⊕ Nat) → Nat → zk_S → zm_D → Nat → Prop} {L : zN} {st : List zv_V} : zJ S D 303 7 L st n sh d u Q ↔ zB S D 303 zb_303_7 L st n sh d u Q := by unfold zJ; rw [zc_303_7]
theorem zc_303_8 : zcd 303 8 = zb_303_8 := by decide +kernel
theorem zj_303_8 {S : zSs} {D n u : Nat} {sh : zk_S} {d : zm_D} {Q : ((Option zv_V) ⊕ Nat) → Nat → zk_S → zm_D → Nat → Prop} {L : zN} {st : List zv_V} : zJ S D 303 8 L st n sh d u Q ↔ zB S D 303 zb_303_8 L st n sh d u Q := by unfold zJ; rw [zc_303_8]
theorem zn_303 : znl 303 = 4 := by decide +kernel
theorem ze_303 {S : zSs} {D n u : Nat} {sh : zk_S} {d : zm_D} {Q : ((Option zv_V) ⊕ Nat) → Nat → zk_S → zm_D → Nat → Prop} {x0 : Int} {x1 : Int} : zE S D 303 [zv_a x0, zv_i x1] n sh d u Q ↔ zB S D 303 zb_303_0 [some (zv_a x0), some (zv_i x1), none, none] [] n sh d u Q := by
  unfold zE; rw [zn_303, zc_303_0]; exact ⟨fun h => h.2, fun h => ⟨Nat.le_of_ble_eq_true rfl, h⟩⟩
theorem ze_303s {S : zSs} {D n u : Nat} {sh : zk_S} {d : zm_D} {Q : ((Option zv_V) ⊕ Nat) → Nat → zk_S → zm_D → Nat → Prop} {x0 : Int} : zE S D 303 [zv_i x0] n sh d u Q ↔ zB S D 303 zb_303_0 [some (zv_i x0), none, none, none] [] n sh d u Q := by
  unfold zE; rw [zn_303, zc_303_0]; exact ⟨fun h => h.2, fun h => ⟨Nat.le_of_ble_eq_true rfl, h⟩⟩
theorem zh_303 : zhl 303 = [] := by decide +kernel
theorem zc_304_0 : zcd 304 0 = zb_304_0 := by decide +kernel
theorem zj_304_0 {S : zSs} {D n u : Nat} {sh : zk_S} {d : zm_D} {Q : ((Option zv_V) ⊕ Nat) → Nat → zk_S → zm_D → Nat → Prop} {L : zN} {st : List zv_V} : zJ S D 304 0 L st n sh d u Q ↔ zB S D 304 zb_304_0 L st n sh d u Q := by unfold zJ; rw [zc_304_0]
theorem zn_304 : znl 304 = 1 := by decide +kernel
theorem ze_304 {S : zSs} {D n u : Nat} {sh : zk_S} {d : zm_D} {Q : ((Option zv_V) ⊕ Nat) → Nat → zk_S → zm_D → Nat → Prop} {x0 : Int} : zE S D 304 [zv_a x0] n sh d u Q ↔ zB S D 304 zb_304_0 [some (zv_a x0)] [] n sh d u Q := by
  unfold zE; rw [zn_304, zc_304_0]; exact ⟨fun h => h.2, fun h => ⟨Nat.le_of_ble_eq_true rfl, h⟩⟩
theorem ze_304s {S : zSs} {D n u : Nat} {sh : zk_S} {d : zm_D} {Q : ((Option zv_V) ⊕ Nat) → Nat → zk_S → zm_D → Nat → Prop} : zE S D 304 [] n sh d u Q ↔ zB S D 304 zb_304_0 [none] [] n sh d u Q := by
  unfold zE; rw [zn_304, zc_304_0]; exact ⟨fun h => h.2, fun h => ⟨Nat.le_of_ble_eq_true rfl, h⟩⟩
theorem zh_304 : zhl 304 = [] := by decide +kernel
theorem zc_305_0 : zcd 305 0 = zb_305_0 := by decide +kernel
theorem zj_305_0 {S : zSs} {D n u : Nat} {sh : zk_S} {d : zm_D} {Q : ((Option zv_V) ⊕ Nat) → Nat → zk_S → zm_D → Nat → Prop} {L : zN} {st : List zv_V} : zJ S D 305 0 L st n sh d u Q ↔ zB S D 305 zb_305_0 L st n sh d u Q := by unfold zJ; rw [zc_305_0]
theorem zn_305 : znl 305 = 1 := by decide +kernel
theorem ze_305 {S : zSs} {D n u : Nat} {sh : zk_S} {d : zm_D} {Q : ((Option zv_V) ⊕ Nat) → Nat → zk_S → zm_D → Nat → Prop} {x0 : Int} : zE S D 305 [zv_a x0] n sh d u Q ↔ zB S D 305 zb_305_0 [some (zv_a x0)] [] n sh d u Q := by
  unfold zE; rw [zn_305, zc_305_0]; exact ⟨fun h => h.2, fun h => ⟨Nat.le_of_ble_eq_true rfl, h⟩⟩
theorem ze_305s {S : zSs} {D n u : Nat} {sh : zk_S} {d : zm_D} {Q : ((Option zv_V) ⊕ Nat) → Nat → zk_S → zm_D → Nat → Prop} : zE S D 305 [] n sh d u Q ↔ zB S D 305 zb_305_0 [none] [] n sh d u Q := by
  unfold zE; rw [zn_305, zc_305_0]; exact ⟨fun h => h.2, fun h => ⟨Nat.le_of_ble_eq_true rfl, h⟩⟩
theorem zh_305 : zhl 305 = [] := by decide +kernel
theorem zc_306_0 : zcd 306 0 = zb_306_0 := by decide +kernel
theorem zj_306_0 {S : zSs} {D n u : Nat} {sh : zk_S} {d : zm_D} {Q : ((Option zv_V) ⊕ Nat) → Nat → zk_S → zm_D → Nat → Prop} {L : zN} {st : List zv_V} : zJ S D 306 0 L st n sh d u Q ↔ zB S D 306 zb_306_0 L st n sh d u Q := by unfold zJ; rw [zc_306_0]
theorem zc_306_1 : zcd 306 1 = zb_306_1 := by decide +kernel
theorem zj_306_1 {S : zSs} {D n u : Nat} {sh : zk_S} {d : zm_D} {Q : ((Option zv_V) ⊕ Nat) → Nat → zk_S → zm_D → Nat → Prop} {L : zN} {st : List zv_V} : zJ S D 306 1 L st n sh d u Q ↔ zB S D 306 zb_306_1 L st n sh d u Q := by unfold zJ; rw [zc_306_1]
theorem zc_306_2 : zcd 306 2 = zb_306_2 := by decide +kernel
theorem zj_306_2 {S : zSs} {D n u : Nat} {sh : zk_S} {d : zm_D} {Q : ((Option zv_V) ⊕ Nat) → Nat → zk_S → zm_D → Nat → Prop} {L : zN} {st : List zv_V} : zJ S D 306 2 L st n sh d u Q ↔ zB S D 306 zb_306_2 L st n sh d u Q := by unfold zJ; rw [zc_306_2]
theorem zn_306 : znl 306 = 2 := by decide +kernel
theorem ze_306 {S : zSs} {D n u : Nat} {sh : zk_S} {d : zm_D} {Q : ((Option zv_V) ⊕ Nat) → Nat → zk_S → zm_D → Nat → Prop} {x0 : Int} {x1 : Int} : zE S D 306 [zv_a x0, zv_i x1] n sh d u Q ↔ zB S D 306 zb_306_0 [some (zv_a x0), some (zv_i x1)] [] n sh d u Q := by
  unfold zE; rw [zn_306, zc_306_0]; exact ⟨fun h => h.2, fun h => ⟨Nat.le_of_ble_eq_true rfl, h⟩⟩
theorem ze_306s {S : zSs} {D n u : Nat} {sh : zk_S} {d : zm_D} {Q : ((Option zv_V) ⊕ Nat) → Nat → zk_S → zm_D → Nat → Prop} {x0 : Int} : zE S D 306 [zv_i x0] n sh d u Q ↔ zB S D 306 zb_306_0 [some (zv_i x0), none] [] n sh d u Q := by
  unfold zE; rw [zn_306, zc_306_0]; exact ⟨fun h => h.2, fun h => ⟨Nat.le_of_ble_eq_true rfl, h⟩⟩
theorem zh_306 : zhl 306 = [] := by decide +kernel
theorem zc_307_0 : zcd 307 0 = zb_307_0 := by decide +kernel
theorem zj_307_0 {S : zSs} {D n u : Nat} {sh : zk_S} {d : zm_D} {Q : ((Option zv_V) ⊕ Nat) → Nat → zk_S → zm_D → Nat → Prop} {L : zN} {st : List zv_V} : zJ S D 307 0 L st n sh d u Q ↔ zB S D 307 zb_307_0 L st n sh d u Q := by unfold zJ; rw [zc_307_0]
theorem zc_307_1 : zcd 307 1 = zb_307_1 := by decide +kernel
theorem zj_307_1 {S : zSs} {D n u : Nat} {sh : zk_S} {d : zm_D} {Q : ((Option zv_V) ⊕ Nat) → Nat → zk_S → zm_D → Nat → Prop} {L : zN} {st : List zv_V} : zJ S D 307 1 L st n sh d u Q ↔ zB S D 307 zb_307_1 L st n sh d u Q := by unfold zJ; rw [zc_307_1]
theorem zc_307_2 : zcd 307 2 = zb_307_2 := by decide +kernel
theorem zj_307_2 {S : zSs} {D n u : Nat} {sh : zk_S} {d : zm_D} {Q : ((Option zv_V) ⊕ Nat) → Nat → zk_S → zm_D → Nat → Prop} {L : zN} {st : List zv_V} : zJ S D 307 2 L st n sh d u Q ↔ zB S D 307 zb_307_2 L st n sh d u Q := by unfold zJ; rw [zc_307_2]
theorem zn_307 : znl 307 = 2 := by decide +kernel
theorem ze_307 {S : zSs} {D n u : Nat} {sh : zk_S} {d : zm_D} {Q : ((Option zv_V) ⊕ Nat) → Nat → zk_S → zm_D → Nat → Prop} {x0 : Int} {x1 : Int} : zE S D 307 [zv_a x0, zv_i x1] n sh d u Q ↔ zB S D 307 zb_307_0 [some (zv_a x0), some (zv_i x1)] [] n sh d u Q := by
  unfold zE; rw [zn_307, zc_307_0]; exact ⟨fun h => h.2, fun h => ⟨Nat.le_of_ble_eq_true rfl, h⟩⟩
theorem ze_307s {S : zSs} {D n u : Nat} {sh : zk_S} {d : zm_D} {Q : ((Option zv_V) ⊕ Nat) → Nat → zk_S → zm_D → Nat → Prop} {x0 : Int} : zE S D 307 [zv_i x0] n sh d u Q ↔ zB S D 307 zb_307_0 [some (zv_i x0), none] [] n sh d u Q := by
  unfold zE; rw [zn_307, zc_307_0]; exact ⟨fun h => h.2, fun h => ⟨Nat.le_of_ble_eq_true rfl, h⟩⟩
theorem zh_307 : zhl 307 = [] := by decide +kernel
theorem zc_308_0 : zcd 308 0 = zb_308_0 := by decide +kernel
theorem zj_308_0 {S : zSs} {D n u : Nat} {sh : zk_S} {d : zm_D} {Q : ((Option zv_V) ⊕ Nat) → Nat → zk_S → zm_D → Nat → Prop} {L : zN} {st : List zv_V} : zJ S D 308 0 L st n sh d u Q ↔ zB S D 308 zb_308_0 L st n sh d u Q := by unfold zJ; rw [zc_308_0]
theorem zc_308_1 : zcd 308 1 = zb_308_1 := by decide +kernel
theorem zj_308_1 {S : zSs} {D n u : Nat} {sh : zk_S} {d : zm_D} {Q : ((Option zv_V) ⊕ Nat) → Nat → zk_S → zm_D → Nat → Prop} {L : zN} {st : List zv_V} : zJ S D 308 1 L st n sh d u Q ↔ zB S D 308 zb_308_1 L st n sh d u Q := by unfold zJ; rw [zc_308_1]
theorem zc_308_2 : zcd 308 2 = zb_308_2 := by decide +kernel
theorem zj_308_2 {S : zSs} {D n u : Nat} {sh : zk_S} {d : zm_D} {Q : ((Option zv_V) ⊕ Nat) → Nat → zk_S → zm_D → Nat → Prop} {L : zN} {st : List zv_V} : zJ S D 308 2 L st n sh d u Q ↔ zB S D 308 zb_308_2 L st n sh d u Q := by unfold zJ; rw [zc_308_2]
theorem zn_308 : znl 308 = 2 := by decide +kernel
theorem ze_308 {S : zSs} {D n u : Nat} {sh : zk_S} {d : zm_D} {Q : ((Option zv_V) ⊕ Nat) → Nat → zk_S → zm_D → Nat → Prop} {x0 : Int} {x1 : Int} : zE S D 308 [zv_a x0, zv_i x1] n sh d u Q ↔ zB S D 308 zb_308_0 [some (zv_a x0), some (zv_i x1)] [] n sh d u Q := by
  unfold zE; rw [zn_308, zc_308_0]; exact ⟨fun h => h.2, fun h => ⟨Nat.le_of_ble_eq_true rfl, h⟩⟩
theorem ze_308s {S : zSs} {D n u : Nat} {sh : zk_S} {d : zm_D} {Q : ((Option zv_V) ⊕ Nat) → Nat → zk_S → zm_D → Nat → Prop} {x0 : Int} : zE S D 308 [zv_i x0] n sh d u Q ↔ zB S D 308 zb_308_0 [some (zv_i x0), none] [] n sh d u Q := by
  unfold zE; rw [zn_308, zc_308_0]; exact ⟨fun h => h.2, fun h => ⟨Nat.le_of_ble_eq_true rfl, h⟩⟩
theorem zh_308 : zhl 308 = [] := by decide +kernel
theorem zc_309_0 : zcd 309 0 = zb_309_0 := by decide +kernel
theorem zj_309_0 {S : zSs} {D n u : Nat} {sh : zk_S} {d : zm_D} {Q : ((Option zv_V) ⊕ Nat) → Nat → zk_S → zm_D → Nat → Prop} {L : zN} {st : List zv_V} : zJ S D 309 0 L st n sh d u Q ↔ zB S D 309 zb_309_0 L st n sh d u Q := by unfold zJ; rw [zc_309_0]
theorem zc_309_1 : zcd 309 1 = zb_309_1 := by decide +kernel
theorem zj_309_1 {S : zSs} {D n u : Nat} {sh : zk_S} {d : zm_D} {Q : ((Option zv_V) ⊕ Nat) → Nat → zk_S → zm_D → Nat → Prop} {L : zN} {st : List zv_V} : zJ S D 309 1 L st n sh d u Q ↔ zB S D 309 zb_309_1 L st n sh d u Q := by unfold zJ; rw [zc_309_1]
theorem zc_309_2 : zcd 309 2 = zb_309_2 := by decide +kernel
theorem zj_309_2 {S : zSs} {D n u : Nat} {sh : zk_S} {d : zm_D} {Q : ((Option zv_V) ⊕ Nat) → Nat → zk_S → zm_D → Nat → Prop} {L : zN} {st : List zv_V} : zJ S D 309 2 L st n sh d u Q ↔ zB S D 309 zb_309_2 L st n sh d u Q := by unfold zJ; rw [zc_309_2]
theorem zn_309 : znl 309 = 2 := by decide +kernel
theorem ze_309 {S : zSs} {D n u : Nat} {sh : zk_S} {d : zm_D} {Q : ((Option zv_V) ⊕ Nat) → Nat → zk_S → zm_D → Nat → Prop} {x0 : Int} {x1 : Int} : zE S D 309 [zv_a x0, zv_i x1] n sh d u Q ↔ zB S D 309 zb_309_0 [some (zv_a x0), some (zv_i x1)] [] n sh d u Q := by
  unfold zE; rw [zn_309, zc_309_0]; exact ⟨fun h => h.2, fun h => ⟨Nat.le_of_ble_eq_true rfl, h⟩⟩
theorem ze_309s {S : zSs} {D n u : Nat} {sh : zk_S} {d : zm_D} {Q : ((Option zv_V) ⊕ Nat) → Nat → zk_S → zm_D → Nat → Prop} {x0 : Int} : zE S D 309 [zv_i x0] n sh d u Q ↔ zB S D 309 zb_309_0 [some (zv_i x0), none] [] n sh d u Q := by
  unfold zE; rw [zn_309, zc_309_0]; exact ⟨fun h => h.2, fun h => ⟨Nat.le_of_ble_eq_true rfl, h⟩⟩
theorem zh_309 : zhl 309 = [] := by decide +kernel
theorem zc_310_0 : zcd 310 0 = zb_310_0 := by decide +kernel
theorem zj_310_0 {S : zSs} {D n u : Nat} {sh : zk_S} {d : zm_D} {Q : ((Option zv_V) ⊕ Nat) → Nat → zk_S → zm_D → Nat → Prop} {L : zN} {st : List zv_V} : zJ S D 310 0 L st n sh d u Q ↔ zB S D 310 zb_310_0 L st n sh d u Q := by unfold zJ; rw [zc_310_0]
theorem zc_310_1 : zcd 310 1 = zb_310_1 := by decide +kernel
theorem zj_310_1 {S : zSs} {D n u : Nat} {sh : zk_S} {d : zm_D} {Q : ((Option zv_V) ⊕ Nat) → Nat → zk_S → zm_D → Nat → Prop} {L : zN} {st : List zv_V} : zJ S D 310 1 L st n sh d u Q ↔ zB S D 310 zb_310_1 L st n sh d u Q := by unfold zJ; rw [zc_310_1]
theorem zc_310_2 : zcd 310 2 = zb_310_2 := by decide +kernel
theorem zj_310_2 {S : zSs} {D n u : Nat} {sh : zk_S} {d : zm_D} {Q : ((Option zv_V) ⊕ Nat) → Nat → zk_S → zm_D → Nat → Prop} {L : zN} {st : List zv_V} : zJ S D 310 2 L st n sh d u Q ↔ zB S D 310 zb_310_2 L st n sh d u Q := by unfold zJ; rw [zc_310_2]
theorem zn_310 : znl 310 = 2 := by decide +kernel
theorem ze_310 {S : zSs} {D n u : Nat} {sh : zk_S} {d : zm_D} {Q : ((Option zv_V) ⊕ Nat) → Nat → zk_S → zm_D → Nat → Prop} {x0 : Int} {x1 : Int} : zE S D 310 [zv_a x0, zv_i x1] n sh d u Q ↔ zB S D 310 zb_310_0 [some (zv_a x0), some (zv_i x1)] [] n sh d u Q := by
  unfold zE; rw [zn_310, zc_310_0]; exact ⟨fun h => h.2, fun h => ⟨Nat.le_of_ble_eq_true rfl, h⟩⟩
theorem ze_310s {S : zSs} {D n u : Nat} {sh : zk_S} {d : zm_D} {Q : ((Option zv_V) ⊕ Nat) → Nat → zk_S → zm_D → Nat → Prop} {x0 : Int} : zE S D 310 [zv_i x0] n sh d u Q ↔ zB S D 310 zb_310_0 [some (zv_i x0), none] [] n sh d u Q := by
  unfold zE; rw [zn_310, zc_310_0]; exact ⟨fun h => h.2, fun h => ⟨Nat.le_of_ble_eq_true rfl, h⟩⟩
theorem zh_310 : zhl 310 = [] := by decide +kernel
theorem zc_311_0 : zcd 311 0 = zb_311_0 := by decide +kernel
theorem zj_311_0 {S : zSs} {D n u : Nat} {sh : zk_S} {d : zm_D} {Q : ((Option zv_V) ⊕ Nat) → Nat → zk_S → zm_D → Nat → Prop} {L : zN} {st : List zv_V} : zJ S D 311 0 L st n sh d u Q ↔ zB S D 311 zb_311_0 L st n sh d u Q := by unfold zJ; rw [zc_311_0]
theorem zc_311_1 : zcd 311 1 = zb_311_1 := by decide +kernel
theorem zj_311_1 {S : zSs} {D n u : Nat} {sh : zk_S} {d : zm_D} {Q : ((Option zv_V) ⊕ Nat) → Nat → zk_S → zm_D → Nat → Prop} {L : zN} {st : List zv_V} : zJ S D 311 1 L st n sh d u Q ↔ zB S D 311 zb_311_1 L st n sh d u Q := by unfold zJ; rw [zc_311_1]
theorem zc_311_2 : zcd 311 2 = zb_311_2 := by decide +kernel
theorem zj_311_2 {S : zSs} {D n u : Nat} {sh : zk_S} {d : zm_D} {Q : ((Option zv_V) ⊕ Nat) → Nat → zk_S → zm_D → Nat → Prop} {L : zN} {st : List zv_V} : zJ S D 311 2 L st n sh d u Q ↔ zB S D 311 zb_311_2 L st n sh d u Q := by unfold zJ; rw [zc_311_2]
theorem zn_311 : znl 311 = 2 := by decide +kernel
theorem ze_311 {S : zSs} {D n u : Nat} {sh : zk_S} {d : zm_D} {Q : ((Option zv_V) ⊕ Nat) → Nat → zk_S → zm_D → Nat → Prop} {x0 : Int} {x1 : Int} : zE S D 311 [zv_a x0, zv_i x1] n sh d u Q ↔ zB S D 311 zb_311_0 [some (zv_a x0), some (zv_i x1)] [] n sh d u Q := by
  unfold zE; rw [zn_311, zc_311_0]; exact ⟨fun h => h.2, fun h => ⟨Nat.le_of_ble_eq_true rfl, h⟩⟩
theorem ze_311s {S : zSs} {D n u : Nat} {sh : zk_S} {d : zm_D} {Q : ((Option zv_V) ⊕ Nat) → Nat → zk_S → zm_D → Nat → Prop} {x0 : Int} : zE S D 311 [zv_i x0] n sh d u Q ↔ zB S D 311 zb_311_0 [some (zv_i x0), none] [] n sh d u Q := by
  unfold zE; rw [zn_311, zc_311_0]; exact ⟨fun h => h.2, fun h => ⟨Nat.le_of_ble_eq_true rfl, h⟩⟩
theorem zh_311 : zhl 311 = [] := by decide +kernel
theorem zc_312_0 : zcd 312 0 = zb_312_0 := by decide +kernel
theorem zj_312_0 {S : zSs} {D n u : Nat} {sh : zk_S} {d : zm_D} {Q : ((Option zv_V) ⊕ Nat) → Nat → zk_S → zm_D → Nat → Prop} {L : zN} {st : List zv_V} : zJ S D 312 0 L st n sh d u Q ↔ zB S D 312 zb_312_0 L st n sh d u Q := by unfold zJ; rw [zc_312_0]
theorem zn_312 : znl 312 = 1 := by decide +kernel
theorem ze_312 {S : zSs} {D n u : Nat} {sh : zk_S} {d : zm_D} {Q : ((Option zv_V) ⊕ Nat) → Nat → zk_S → zm_D → Nat → Prop} {x0 : Int} : zE S D 312 [zv_a x0] n sh d u Q ↔ zB S D 312 zb_312_0 [some (zv_a x0)] [] n sh d u Q := by
  unfold zE; rw [zn_312, zc_312_0]; exact ⟨fun h => h.2, fun h => ⟨Nat.le_of_ble_eq_true rfl, h⟩⟩
theorem ze_312s {S : zSs} {D n u : Nat} {sh : zk_S} {d : zm_D} {Q : ((Option zv_V) ⊕ Nat) → Nat → zk_S → zm_D → Nat → Prop} : zE S D 312 [] n sh d u Q ↔ zB S D 312 zb_312_0 [none] [] n sh d u Q := by
  unfold zE; rw [zn_312, zc_312_0]; exact ⟨fun h => h.2, fun h => ⟨Nat.le_of_ble_eq_true rfl, h⟩⟩
theorem zh_312 : zhl 312 = [] := by decide +kernel
theorem zc_313_0 : zcd 313 0 = zb_313_0 := by decide +kernel
theorem zj_313_0 {S : zSs} {D n u : Nat} {sh : zk_S} {d : zm_D} {Q : ((Option zv_V) ⊕ Nat) → Nat → zk_S → zm_D → Nat → Prop} {L : zN} {st : List zv_V} : zJ S D 313 0 L st n sh d u Q ↔ zB S D 313 zb_313_0 L st n sh d u Q := by unfold zJ; rw [zc_313_0]
theorem zc_313_1 : zcd 313 1 = zb_313_1 := by decide +kernel
theorem zj_313_1 {S : zSs} {D n u : Nat} {sh : zk_S} {d : zm_D} {Q : ((Option zv_V) ⊕ Nat) → Nat → zk_S → zm_D → Nat → Prop} {L : zN} {st : List zv_V} : zJ S D 313 1 L st n sh d u Q ↔ zB S D 313 zb_313_1 L st n sh d u Q := by unfold zJ; rw [zc_313_1]
theorem zc_313_2 : zcd 313 2 = zb_313_2 := by decide +kernel
theorem zj_313_2 {S : zSs} {D n u : Nat} {sh : zk_S} {d : zm_D} {Q : ((Option zv_V) ⊕ Nat) → Nat → zk_S → zm_D → Nat → Prop} {L : zN} {st : List zv_V} : zJ S D 313 2 L st n sh d u Q ↔ zB S D 313 zb_313_2 L st n sh d u Q := by unfold zJ; rw [zc_313_2]
theorem zn_313 : znl 313 = 6 := by decide +kernel
theorem ze_313 {S : zSs} {D n u : Nat} {sh : zk_S} {d : zm_D} {Q : ((Option zv_V) ⊕ Nat) → Nat → zk_S → zm_D → Nat → Prop} {x0 : Int} {x1 : Int} {x2 : Int} : zE S D 313 [zv_a x0, zv_l x1, zv_i x2] n sh d u Q ↔ zB S D 313 zb_313_0 [some (zv_a x0), some (zv_l x1), none, some (zv_i x2), none, none] [] n sh d u Q := by
  unfold zE; rw [zn_313, zc_313_0]; exact ⟨fun h => h.2, fun h => ⟨Nat.le_of_ble_eq_true rfl, h⟩⟩
theorem ze_313s {S : zSs} {D n u : Nat} {sh : zk_S} {d : zm_D} {Q : ((Option zv_V) ⊕ Nat) → Nat → zk_S → zm_D → Nat → Prop} {x0 : Int} {x1 : Int} : zE S D 313 [zv_l x0, zv_i x1] n sh d u Q ↔ zB S D 313 zb_313_0 [some (zv_l x0), none, some (zv_i x1), none, none, none] [] n sh d u Q := by
  unfold zE; rw [zn_313, zc_313_0]; exact ⟨fun h => h.2, fun h => ⟨Nat.le_of_ble_eq_true rfl, h⟩⟩
theorem zh_313 : zhl 313 = [] := by decide +kernel
theorem zc_314_0 : zcd 314 0 = zb_314_0 := by decide +kernel
theorem zj_314_0 {S : zSs} {D n u : Nat} {sh : zk_S} {d : zm_D} {Q : ((Option zv_V) ⊕ Nat) → Nat → zk_S → zm_D → Nat → Prop} {L : zN} {st : List zv_V} : zJ S D 314 0 L st n sh d u Q ↔ zB S D 314 zb_314_0 L st n sh d u Q := by unfold zJ; rw [zc_314_0]
theorem zc_314_1 : zcd 314 1 = zb_314_1 := by decide +kernel
theorem zj_314_1 {S : zSs} {D n u : Nat} {sh : zk_S} {d : zm_D} {Q : ((Option zv_V) ⊕ Nat) → Nat → zk_S → zm_D → Nat → Prop} {L : zN} {st : List zv_V} : zJ S D 314 1 L st n sh d u Q ↔ zB S D 314 zb_314_1 L st n sh d u Q := by unfold zJ; rw [zc_314_1]
theorem zc_314_2 : zcd 314 2 = zb_314_2 := by decide +kernel
theorem zj_314_2 {S : zSs} {D n u : Nat} {sh : zk_S} {d : zm_D} {Q : ((Option zv_V) ⊕ Nat) → Nat → zk_S → zm_D → Nat → Prop} {L : zN} {st : List zv_V} : zJ S D 314 2 L st n sh d u Q ↔ zB S D 314 zb_314_2 L st n sh d u Q := by unfold zJ; rw [zc_314_2]
theorem zc_314_3 : zcd 314 3 = zb_314_3 := by decide +kernel
theorem zj_314_3 {S : zSs} {D n u : Nat} {sh : zk_S} {d : zm_D} {Q : ((Option zv_V) ⊕ Nat) → Nat → zk_S → zm_D → Nat → Prop} {L : zN} {st : List zv_V} : zJ S D 314 3 L st n sh d u Q ↔ zB S D 314 zb_314_3 L st n sh d u Q := by unfold zJ; rw [zc_314_3]
theorem zc_314_4 : zcd 314 4 = zb_314_4 := by decide +kernel
theorem zj_314_4 {S : zSs} {D n u : Nat} {sh : zk_S} {d : zm_D} {Q : ((Option zv_V) ⊕ Nat) → Nat → zk_S → zm_D → Nat → Prop} {L : zN} {st : List zv_V} : zJ S D 314 4 L st n sh d u Q ↔ zB S D 314 zb_314_4 L st n sh d u Q := by unfold zJ; rw [zc_314_4]
theorem zc_314_5 : zcd 314 5 = zb_314_5 := by decide +kernel
theorem zj_314_5 {S : zSs} {D n u : Nat} {sh : zk_S} {d : zm_D} {Q : ((Option zv_V) ⊕ Nat) → Nat → zk_S → zm_D → Nat → Prop} {L : zN} {st : List zv_V} : zJ S D 314 5 L st n sh d u Q ↔ zB S D 314 zb_314_5 L st n sh d u Q := by unfold zJ; rw [zc_314_5]
theorem zc_314_6 : zcd 314 6 = zb_314_6 := by decide +kernel
theorem zj_314_6 {S : zSs} {D n u : Nat} {sh : zk_S} {d : zm_D} {Q : ((Option zv_V) ⊕ Nat) → Nat → zk_S → zm_D → Nat → Prop} {L : zN} {st : List zv_V} : zJ S D 314 6 L st n sh d u Q ↔ zB S D 314 zb_314_6 L st n sh d u Q := by unfold zJ; rw [zc_314_6]
theorem zn_314 : znl 314 = 8 := by decide +kernel
theorem ze_314 {S : zSs} {D n u : Nat} {sh : zk_S} {d : zm_D} {Q : ((Option zv_V) ⊕ Nat) → Nat → zk_S → zm_D → Nat → Prop} {x0 : Int} {x1 : Int} {x2 : Int} {x3 : Int} : zE S D 314 [zv_a x0, zv_i x1, zv_i x2, zv_i x3] n sh d u Q ↔ zB S D 314 zb_314_0 [some (zv_a x0), some (zv_i x1), some (zv_i x2), some (zv_i x3), none, none, none, none] [] n sh d u Q := by
  unfold zE; rw [zn_314, zc_314_0]; exact ⟨fun h => h.2, fun h => ⟨Nat.le_of_ble_eq_true rfl, h⟩⟩
theorem ze_314s {S : zSs} {D n u : Nat} {sh : zk_S} {d : zm_D} {Q : ((Option zv_V) ⊕ Nat) → Nat → zk_S → zm_D → Nat → Prop} {x0 : Int} {x1 : Int} {x2 : Int} : zE S D 314 [zv_i x0, zv_i x1, zv_i x2] n sh d u Q ↔ zB S D 314 zb_314_0 [some (zv_i x0), some (zv_i x1), some (zv_i x2), none, none, none, none, none] [] n sh d u Q := by
  unfold zE; rw [zn_314, zc_314_0]; exact ⟨fun h => h.2, fun h => ⟨Nat.le_of_ble_eq_true rfl, h⟩⟩
theorem zh_314 : zhl 314 = [] := by decide +kernel
theorem zc_315_0 : zcd 315 0 = zb_315_0 := by decide +kernel
theorem zj_315_0 {S : zSs} {D n u : Nat} {sh : zk_S} {d : zm_D} {Q : ((Option zv_V) ⊕ Nat) → Nat → zk_S → zm_D → Nat → Prop} {L : zN} {st : List zv_V} : zJ S D 315 0 L st n sh d u Q ↔ zB S D 315 zb_315_0 L st n sh d u Q := by unfold zJ; rw [zc_315_0]
theorem zn_315 : znl 315 = 3 := by decide +kernel
theorem ze_315 {S : zSs} {D n u : Nat} {sh : zk_S} {d : zm_D} {Q : ((Option zv_V) ⊕ Nat) → Nat → zk_S → zm_D → Nat → Prop} {x0 : Int} {x1 : Int} {x2 : Int} : zE S D 315 [zv_a x0, zv_i x1, zv_i x2] n sh d u Q ↔ zB S D 315 zb_315_0 [some (zv_a x0), some (zv_i x1), some (zv_i x2)] [] n sh d u Q := by
  unfold zE; rw [zn_315, zc_315_0]; exact ⟨fun h => h.2, fun h => ⟨Nat.le_of_ble_eq_true rfl, h⟩⟩
theorem ze_315s {S : zSs} {D n u : Nat} {sh : zk_S} {d : zm_D} {Q : ((Option zv_V) ⊕ Nat) → Nat → zk_S → zm_D → Nat → Prop} {x0 : Int} {x1 : Int} : zE S D 315 [zv_i x0, zv_i x1] n sh d u Q ↔ zB S D 315 zb_315_0 [some (zv_i x0), some (zv_i x1), none] [] n sh d u Q := by
  unfold zE; rw [zn_315, zc_315_0]; exact ⟨fun h => h.2, fun h => ⟨Nat.le_of_ble_eq_true rfl, h⟩⟩
theorem zh_315 : zhl 315 = [] := by decide +kernel
theorem zc_316_0 : zcd 316 0 = zb_316_0 := by decide +kernel
theorem zj_316_0 {S : zSs} {D n u : Nat} {sh : zk_S} {d : zm_D} {Q : ((Option zv_V) ⊕ Nat) → Nat → zk_S → zm_D → Nat → Prop} {L : zN} {st : List zv_V} : zJ S D 316 0 L st n sh d u Q ↔ zB S D 316 zb_316_0 L st n sh d u Q := by unfold zJ; rw [zc_316_0]
theorem zn_316 : znl 316 = 3 := by decide +kernel
theorem ze_316 {S : zSs} {D n u : Nat} {sh : zk_S} {d : zm_D} {Q : ((Option zv_V) ⊕ Nat) → Nat → zk_S → zm_D → Nat → Prop} {x0 : Int} {x1 : Int} {x2 : Int} : zE S D 316 [zv_a x0, zv_i x1, zv_i x2] n sh d u Q ↔ zB S D 316 zb_316_0 [some (zv_a x0), some (zv_i x1), some (zv_i x2)] [] n sh d u Q := by
  unfold zE; rw [zn_316, zc_316_0]; exact ⟨fun h => h.2, fun h => ⟨Nat.le_of_ble_eq_true rfl, h⟩⟩
theorem ze_316s {S : zSs} {D n u : Nat} {sh : zk_S} {d : zm_D} {Q : ((Option zv_V) ⊕ Nat) → Nat → zk_S → zm_D → Nat → Prop} {x0 : Int} {x1 : Int} : zE S D 316 [zv_i x0, zv_i x1] n sh d u Q ↔ zB S D 316 zb_316_0 [some (zv_i x0), some (zv_i x1), none] [] n sh d u Q := by
  unfold zE; rw [zn_316, zc_316_0]; exact ⟨fun h => h.2, fun h => ⟨Nat.le_of_ble_eq_true rfl, h⟩⟩
theorem zh_316 : zhl 316 = [] := by decide +kernel
theorem zc_317_0 : zcd 317 0 = zb_317_0 := by decide +kernel
theorem zj_317_0 {S : zSs} {D n u : Nat} {sh : zk_S} {d : zm_D} {Q : ((Option zv_V) ⊕ Nat) → Nat → zk_S → zm_D → Nat → Prop} {L : zN} {st : List zv_V} : zJ S D 317 0 L st n sh d u Q ↔ zB S D 317 zb_317_0 L st n sh d u Q := by unfold zJ; rw [zc_317_0]
theorem zc_317_1 : zcd 317 1 = zb_317_1 := by decide +kernel
theorem zj_317_1 {S : zSs} {D n u : Nat} {sh : zk_S} {d : zm_D} {Q : ((Option zv_V) ⊕ Nat) → Nat → zk_S → zm_D → Nat → Prop} {L : zN} {st : List zv_V} : zJ S D 317 1 L st n sh d u Q ↔ zB S D 317 zb_317_1 L st n sh d u Q := by unfold zJ; rw [zc_317_1]
theorem zc_317_2 : zcd 317 2 = zb_317_2 := by decide +kernel
theorem zj_317_2 {S : zSs} {D n u : Nat} {sh : zk_S} {d : zm_D} {Q : ((Option zv_V) ⊕ Nat) → Nat → zk_S → zm_D → Nat → Prop} {L : zN} {st : List zv_V} : zJ S D 317 2 L st n sh d u Q ↔ zB S D 317 zb_317_2 L st n sh d u Q := by unfold zJ; rw [zc_317_2]
theorem zc_317_3 : zcd 317 3 = zb_317_3 := by decide +kernel
theorem zj_317_3 {S : zSs} {D n u : Nat} {sh : zk_S} {d : zm_D} {Q : ((Option zv_V) ⊕ Nat) → Nat → zk_S → zm_D → Nat → Prop} {L : zN} {st : List zv_V} : zJ S D 317 3 L st n sh d u Q ↔ zB S D 317 zb_317_3 L st n sh d u Q := by unfold zJ; rw [zc_317_3]
theorem zc_317_4 : zcd 317 4 = zb_317_4 := by decide +kernel
theorem zj_317_4 {S : zSs} {D n u : Nat} {sh : zk_S} {d : zm_D} {Q : ((Option zv_V) ⊕ Nat) → Nat → zk_S → zm_D → Nat → Prop} {L : zN} {st : List zv_V} : zJ S D 317 4 L st n sh d u Q ↔ zB S D 317 zb_317_4 L st n sh d u Q := by unfold zJ; rw [zc_317_4]
theorem zn_317 : znl 317 = 7 := by decide +kernel
theorem ze_317 {S : zSs} {D n u : Nat} {sh : zk_S} {d : zm_D} {Q : ((Option zv_V) ⊕ Nat) → Nat → zk_S → zm_D → Nat → Prop} {x0 : Int} : zE S D 317 [zv_a x0] n sh d u Q ↔ zB S D 317 zb_317_0 [some (zv_a x0), none, none, none, none, none, none] [] n sh d u Q := by
  unfold zE; rw [zn_317, zc_317_0]; exact ⟨fun h => h.2, fun h => ⟨Nat.le_of_ble_eq_true rfl, h⟩⟩
theorem ze_317s {S : zSs} {D n u : Nat} {sh : zk_S} {d : zm_D} {Q : ((Option zv_V) ⊕ Nat) → Nat → zk_S → zm_D → Nat → Prop} : zE S D 317 [] n sh d u Q ↔ zB S D 317 zb_317_0 [none, none, none, none, none, none, none] [] n sh d u Q := by
  unfold zE; rw [zn_317, zc_317_0]; exact ⟨fun h => h.2, fun h => ⟨Nat.le_of_ble_eq_true rfl, h⟩⟩
theorem zh_317 : zhl 317 = [] := by decide +kernel
theorem zc_318_0 : zcd 318 0 = zb_318_0 := by decide +kernel
theorem zj_318_0 {S : zSs} {D n u : Nat} {sh : zk_S} {d : zm_D} {Q : ((Option zv_V) ⊕ Nat) → Nat → zk_S → zm_D → Nat → Prop} {L : zN} {st : List zv_V} : zJ S D 318 0 L st n sh d u Q ↔ zB S D 318 zb_318_0 L st n sh d u Q := by unfold zJ; rw [zc_318_0]
theorem zn_318 : znl 318 = 1 := by decide +kernel
theorem ze_318 {S : zSs} {D n u : Nat} {sh : zk_S} {d : zm_D} {Q : ((Option zv_V) ⊕ Nat) → Nat → zk_S → zm_D → Nat → Prop} {x0 : Int} : zE S D 318 [zv_a x0] n sh d u Q ↔ zB S D 318 zb_318_0 [some (zv_a x0)] [] n sh d u Q := by
  unfold zE; rw [zn_318, zc_318_0]; exact ⟨fun h => h.2, fun h => ⟨Nat.le_of_ble_eq_true rfl, h⟩⟩
theorem ze_318s {S : zSs} {D n u : Nat} {sh : zk_S} {d : zm_D} {Q : ((Option zv_V) ⊕ Nat) → Nat → zk_S → zm_D → Nat → Prop} : zE S D 318 [] n sh d u Q ↔ zB S D 318 zb_318_0 [none] [] n sh d u Q := by
  unfold zE; rw [zn_318, zc_318_0]; exact ⟨fun h => h.2, fun h => ⟨Nat.le_of_ble_eq_true rfl, h⟩⟩
theorem zh_318 : zhl 318 = [] := by decide +kernel
theorem zc_319_0 : zcd 319 0 = zb_319_0 := by decide +kernel
theorem zj_319_0 {S : zSs} {D n u : Nat} {sh : zk_S} {d : zm_D} {Q : ((Option zv_V) ⊕ Nat) → Nat → zk_S → zm_D → Nat → Prop} {L : zN} {st : List zv_V} : zJ S D 319 0 L st n sh d u Q ↔ zB S D 319 zb_319_0 L st n sh d u Q := by unfold zJ; rw [zc_319_0]
theorem zc_319_1 : zcd 319 1 = zb_319_1 := by decide +kernel
theorem zj_319_1 {S : zSs} {D n u : Nat} {sh : zk_S} {d : zm_D} {Q : ((Option zv_V) ⊕ Nat) → Nat → zk_S → zm_D → Nat → Prop} {L : zN} {st : List zv_V} : zJ S D 319 1 L st n sh d u Q ↔ zB S D 319 zb_319_1 L st n sh d u Q := by unfold zJ; rw [zc_319_1]
theorem zc_319_2 : zcd 319 2 = zb_319_2 := by decide +kernel
theorem zj_319_2 {S : zSs} {D n u : Nat} {sh : zk_S} {d : zm_D} {Q : ((Option zv_V) ⊕ Nat) → Nat → zk_S → zm_D → Nat → Prop} {L : zN} {st : List zv_V} : zJ S D 319 2 L st n sh d u Q ↔ zB S D 319 zb_319_2 L st n sh d u Q := by unfold zJ; rw [zc_319_2]
theorem zc_319_3 : zcd 319 3 = zb_319_3 := by decide +kernel
theorem zj_319_3 {S : zSs} {D n u : Nat} {sh : zk_S} {d : zm_D} {Q : ((Option zv_V) ⊕ Nat) → Nat → zk_S → zm_D → Nat → Prop} {L : zN} {st : List zv_V} : zJ S D 319 3 L st n sh d u Q ↔ zB S D 319 zb_319_3 L st n sh d u Q := by unfold zJ; rw [zc_319_3]
theorem zc_319_4 : zcd 319 4 = zb_319_4 := by decide +kernel
theorem zj_319_4 {S : zSs} {D n u : Nat} {sh : zk_S} {d : zm_D} {Q : ((Option zv_V) ⊕ Nat) → Nat → zk_S → zm_D → Nat → Prop} {L : zN} {st : List zv_V} : zJ S D 319 4 L st n sh d u Q ↔ zB S D 319 zb_319_4 L st n sh d u Q := by unfold zJ; rw [zc_319_4]
theorem zc_319_5 : zcd 319 5 = zb_319_5 := by decide +kernel
theorem zj_319_5 {S : zSs} {D n u : Nat} {sh : zk_S} {d : zm_D} {Q : ((Option zv_V) ⊕ Nat) → Nat → zk_S → zm_D → Nat → Prop} {L : zN} {st : List zv_V} : zJ S D 319 5 L st n sh d u Q ↔ zB S D 319 zb_319_5 L st n sh d u Q := by unfold zJ; rw [zc_319_5]
theorem zc_319_6 : zcd 319 6 = zb_319_6 := by decide +kernel
theorem zj_319_6 {S : zSs} {D n u : Nat} {sh : zk_S} {d : zm_D} {Q : ((Option zv_V) ⊕ Nat) → Nat → zk_S → zm_D → Nat → Prop} {L : zN} {st : List zv_V} : zJ S D 319 6 L st n sh d u Q ↔ zB S D 319 zb_319_6 L st n sh d u Q := by unfold zJ; rw [zc_319_6]
theorem zc_319_7 : zcd 319 7 = zb_319_7 := by decide +kernel
theorem zj_319_7 {S : zSs} {D n u : Nat} {sh : zk_S} {d : zm_D} {Q : ((Option zv_V) ⊕ Nat) → Nat → zk_S → zm_D → Nat → Prop} {L : zN} {st : List zv_V} : zJ S D 319 7 L st n sh d u Q ↔ zB S D 319 zb_319_7 L st n sh d u Q := by unfold zJ; rw [zc_319_7]
theorem zn_319 : znl 319 = 3 := by decide +kernel
theorem ze_319 {S : zSs} {D n u : Nat} {sh : zk_S} {d : zm_D} {Q : ((Option zv_V) ⊕ Nat) → Nat → zk_S → zm_D → Nat → Prop} {x0 : Int} : zE S D 319 [zv_a x0] n sh d u Q ↔ zB S D 319 zb_319_0 [some (zv_a x0), none, none] [] n sh d u Q := by
  unfold zE; rw [zn_319, zc_319_0]; exact ⟨fun h => h.2, fun h => ⟨Nat.le_of_ble_eq_true rfl, h⟩⟩
theorem ze_319s {S : zSs} {D n u : Nat} {sh : zk_S} {d : zm_D} {Q : ((Option zv_V) ⊕ Nat) → Nat → zk_S → zm_D → Nat → Prop} : zE S D 319 [] n sh d u Q ↔ zB S D 319 zb_319_0 [none, none, none] [] n sh d u Q := by
  unfold zE; rw [zn_319, zc_319_0]; exact ⟨fun h => h.2, fun h => ⟨Nat.le_of_ble_eq_true rfl, h⟩⟩
theorem zh_319 : zhl 319 = [] := by decide +kernel
theorem zc_320_0 : zcd 320 0 = zb_320_0 := by decide +kernel
theorem zj_320_0 {S : zSs} {D n u : Nat} {sh : zk_S} {d : zm_D} {Q : ((Option zv_V) ⊕ Nat) → Nat → zk_S → zm_D → Nat → Prop} {L : zN} {st : List zv_V} : zJ S D 320 0 L st n sh d u Q ↔ zB S D 320 zb_320_0 L st n sh d u Q := by unfold zJ; rw [zc_320_0]
theorem zc_320_1 : zcd 320 1 = zb_320_1 := by decide +kernel
theorem zj_320_1 {S : zSs} {D n u : Nat} {sh : zk_S} {d : zm_D} {Q : ((Option zv_V) ⊕ Nat) → Nat → zk_S → zm_D → Nat → Prop} {L : zN} {st : List zv_V} : zJ S D 320 1 L st n sh d u Q ↔ zB S D 320 zb_320_1 L st n sh d u Q := by unfold zJ; rw [zc_320_1]
theorem zc_320_2 : zcd 320 2 = zb_320_2 := by decide +kernel
theorem zj_320_2 {S : zSs} {D n u : Nat} {sh : zk_S} {d : zm_D} {Q : ((Option zv_V) ⊕ Nat) → Nat → zk_S → zm_D → Nat → Prop} {L : zN} {st : List zv_V} : zJ S D 320 2 L st n sh d u Q ↔ zB S D 320 zb_320_2 L st n sh d u Q := by unfold zJ; rw [zc_320_2]
theorem zc_320_3 : zcd 320 3 = zb_320_3 := by decide +kernel
theorem zj_320_3 {S : zSs} {D n u : Nat} {sh : zk_S} {d : zm_D} {Q : ((Option zv_V) ⊕ Nat) → Nat → zk_S → zm_D → Nat → Prop} {L : zN} {st : List zv_V} : zJ S D 320 3 L st n sh d u Q ↔ zB S D 320 zb_320_3 L st n sh d u Q := by unfold zJ; rw [zc_320_3]
theorem zc_320_4 : zcd 320 4 = zb_320_4 := by decide +kernel
theorem zj_320_4 {S : zSs} {D n u : Nat} {sh : zk_S} {d : zm_D} {Q : ((Option zv_V) ⊕ Nat) → Nat → zk_S → zm_D → Nat → Prop} {L : zN} {st : List zv_V} : zJ S D 320 4 L st n sh d u Q ↔ zB S D 320 zb_320_4 L st n sh d u Q := by unfold zJ; rw [zc_320_4]
theorem zc_320_5 : zcd 320 5 = zb_320_5 := by decide +kernel
theorem zj_320_5 {S : zSs} {D n u : Nat} {sh : zk_S} {d : zm_D} {Q : ((Option zv_V) ⊕ Nat) → Nat → zk_S → zm_D → Nat → Prop} {L : zN} {st : List zv_V} : zJ S D 320 5 L st n sh d u Q ↔ zB S D 320 zb_320_5 L st n sh d u Q := by unfold zJ; rw [zc_320_5]
theorem zn_320 : znl 320 = 3 := by decide +kernel
theorem ze_320 {S : zSs} {D n u : Nat} {sh : zk_S} {d : zm_D} {Q : ((Option zv_V) ⊕ Nat) → Nat → zk_S → zm_D → Nat → Prop} {x0 : Int} : zE S D 320 [zv_a x0] n sh d u Q ↔ zB S D 320 zb_320_0 [some (zv_a x0), none, none] [] n sh d u Q := by
  unfold zE; rw [zn_320, zc_320_0]; exact ⟨fun h => h.2, fun h => ⟨Nat.le_of_ble_eq_true rfl, h⟩⟩
theorem ze_320s {S : zSs} {D n u : Nat} {sh : zk_S} {d : zm_D} {Q : ((Option zv_V) ⊕ Nat) → Nat → zk_S → zm_D → Nat → Prop} : zE S D 320 [] n sh d u Q ↔ zB S D 320 zb_320_0 [none, none, none] [] n sh d u Q := by
  unfold zE; rw [zn_320, zc_320_0]; exact ⟨fun h => h.2, fun h => ⟨Nat.le_of_ble_eq_true rfl, h⟩⟩
theorem zh_320 : zhl 320 = [] := by decide +kernel
theorem zc_321_0 : zcd 321 0 = zb_321_0 := by decide +kernel
theorem zj_321_0 {S : zSs} {D n u : Nat} {sh : zk_S} {d : zm_D} {Q : ((Option zv_V) ⊕ Nat) → Nat → zk_S → zm_D → Nat → Prop} {L : zN} {st : List zv_V} : zJ S D 321 0 L st n sh d u Q ↔ zB S D 321 zb_321_0 L st n sh d u Q := by unfold zJ; rw [zc_321_0]
theorem zn_321 : znl 321 = 1 := by decide +kernel
theorem ze_321 {S : zSs} {D n u : Nat} {sh : zk_S} {d : zm_D} {Q : ((Option zv_V) ⊕ Nat) → Nat → zk_S → zm_D → Nat → Prop} {x0 : Int} : zE S D 321 [zv_a x0] n sh d u Q ↔ zB S D 321 zb_321_0 [some (zv_a x0)] [] n sh d u Q := by
  unfold zE; rw [zn_321, zc_321_0]; exact ⟨fun h => h.2, fun h => ⟨Nat.le_of_ble_eq_true rfl, h⟩⟩
theorem ze_321s {S : zSs} {D n u : Nat} {sh : zk_S} {d : zm_D} {Q : ((Option zv_V) ⊕ Nat) → Nat → zk_S → zm_D → Nat → Prop} : zE S D 321 [] n sh d u Q ↔ zB S D 321 zb_321_0 [none] [] n sh d u Q := by
  unfold zE; rw [zn_321, zc_321_0]; exact ⟨fun h => h.2, fun h => ⟨Nat.le_of_ble_eq_true rfl, h⟩⟩
theorem zh_321 : zhl 321 = [] := by decide +kernel
theorem zc_322_0 : zcd 322 0 = zb_322_0 := by decide +kernel
theorem zj_322_0 {S : zSs} {D n u : Nat} {sh : zk_S} {d : zm_D} {Q : ((Option zv_V) ⊕ Nat) → Nat → zk_S → zm_D → Nat → Prop} {L : zN} {st : List zv_V} : zJ S D 322 0 L st n sh d u Q ↔ zB S D 322 zb_322_0 L st n sh d u Q := by unfold zJ; rw [zc_322_0]
theorem zc_322_1 : zcd 322 1 = zb_322_1 := by decide +kernel
theorem zj_322_1 {S : zSs} {D n u : Nat} {sh : zk_S} {d : zm_D} {Q : ((Option zv_V) ⊕ Nat) → Nat → zk_S → zm_D → Nat → Prop} {L : zN} {st : List zv_V} : zJ S D 322 1 L st n sh d u Q ↔ zB S D 322 zb_322_1 L st n sh d u Q := by unfold zJ; rw [zc_322_1]
theorem zc_322_2 : zcd 322 2 = zb_322_2 := by decide +kernel
theorem zj_322_2 {S : zSs} {D n u : Nat} {sh : zk_S} {d : zm_D} {Q : ((Option zv_V) ⊕ Nat) → Nat → zk_S → zm_D → Nat → Prop} {L : zN} {st : List zv_V} : zJ S D 322 2 L st n sh d u Q ↔ zB S D 322 zb_322_2 L st n sh d u Q := by unfold zJ; rw [zc_322_2]
theorem zn_322 : znl 322 = 1 := by decide +kernel
theorem ze_322s {S : zSs} {D n u : Nat} {sh : zk_S} {d : zm_D} {Q : ((Option zv_V) ⊕ Nat) → Nat → zk_S → zm_D → Nat → Prop} {x0 : UInt32} : zE S D 322 [zv_f x0] n sh d u Q ↔ zB S D 322 zb_322_0 [some (zv_f x0)] [] n sh d u Q := by
  unfold zE; rw [zn_322, zc_322_0]; exact ⟨fun h => h.2, fun h => ⟨Nat.le_of_ble_eq_true rfl, h⟩⟩
theorem zh_322 : zhl 322 = [] := by decide +kernel
theorem zc_323_0 : zcd 323 0 = zb_323_0 := by decide +kernel
theorem zj_323_0 {S : zSs} {D n u : Nat} {sh : zk_S} {d : zm_D} {Q : ((Option zv_V) ⊕ Nat) → Nat → zk_S → zm_D → Nat → Prop} {L : zN} {st : List zv_V} : zJ S D 323 0 L st n sh d u Q ↔ zB S D 323 zb_323_0 L st n sh d u Q := by unfold zJ; rw [zc_323_0]
theorem zc_323_1 : zcd 323 1 = zb_323_1 := by decide +kernel
theorem zj_323_1 {S : zSs} {D n u : Nat} {sh : zk_S} {d : zm_D} {Q : ((Option zv_V) ⊕ Nat) → Nat → zk_S → zm_D → Nat → Prop} {L : zN} {st : List zv_V} : zJ S D 323 1 L st n sh d u Q ↔ zB S D 323 zb_323_1 L st n sh d u Q := by unfold zJ; rw [zc_323_1]
theorem zn_323 : znl 323 = 1 := by decide +kernel
theorem ze_323s {S : zSs} {D n u : Nat} {sh : zk_S} {d : zm_D} {Q : ((Option zv_V) ⊕ Nat) → Nat → zk_S → zm_D → Nat → Prop} {x0 : UInt32} : zE S D 323 [zv_f x0] n sh d u Q ↔ zB S D 323 zb_323_0 [some (zv_f x0)] [] n sh d u Q := by
  unfold zE; rw [zn_323, zc_323_0]; exact ⟨fun h => h.2, fun h => ⟨Nat.le_of_ble_eq_true rfl, h⟩⟩
theorem zh_323 : zhl 323 = [] := by decide +kernel
theorem zc_324_0 : zcd 324 0 = zb_324_0 := by decide +kernel
theorem zj_324_0 {S : zSs} {D n u : Nat} {sh : zk_S} {d : zm_D} {Q : ((Option zv_V) ⊕ Nat) → Nat → zk_S → zm_D → Nat → Prop} {L : zN} {st : List zv_V} : zJ S D 324 0 L st n sh d u Q ↔ zB S D 324 zb_324_0 L st n sh d u Q := by unfold zJ; rw [zc_324_0]
theorem zn_324 : znl 324 = 1 := by decide +kernel
theorem ze_324s {S : zSs} {D n u : Nat} {sh : zk_S} {d : zm_D} {Q : ((Option zv_V) ⊕ Nat) → Nat → zk_S → zm_D → Nat → Prop} {x0 : Int} : zE S D 324 [zv_i x0] n sh d u Q ↔ zB S D 324 zb_324_0 [some (zv_i x0)] [] n sh d u Q := by
  unfold zE; rw [zn_324, zc_324_0]; exact ⟨fun h => h.2, fun h => ⟨Nat.le_of_ble_eq_true rfl, h⟩⟩
theorem zh_324 : zhl 324 = [] := by decide +kernel
theorem zc_325_0 : zcd 325 0 = zb_325_0 := by decide +kernel
theorem zj_325_0 {S : zSs} {D n u : Nat} {sh : zk_S} {d : zm_D} {Q : ((Option zv_V) ⊕ Nat) → Nat → zk_S → zm_D → Nat → Prop} {L : zN} {st : List zv_V} : zJ S D 325 0 L st n sh d u Q ↔ zB S D 325 zb_325_0 L st n sh d u Q := by unfold zJ; rw [zc_325_0]
theorem zc_325_1 : zcd 325 1 = zb_325_1 := by decide +kernel
theorem zj_325_1 {S : zSs} {D n u : Nat} {sh : zk_S} {d : zm_D} {Q : ((Option zv_V) ⊕ Nat) → Nat → zk_S → zm_D → Nat → Prop} {L : zN} {st : List zv_V} : zJ S D 325 1 L st n sh d u Q ↔ zB S D 325 zb_325_1 L st n sh d u Q := by unfold zJ; rw [zc_325_1]
theorem zn_325 : znl 325 = 3 := by decide +kernel
theorem ze_325 {S : zSs} {D n u : Nat} {sh : zk_S} {d : zm_D} {Q : ((Option zv_V) ⊕ Nat) → Nat → zk_S → zm_D → Nat → Prop} {x0 : Int} {x1 : Int} {x2 : Int} : zE S D 325 [zv_a x0, zv_i x1, zv_i x2] n sh d u Q ↔ zB S D 325 zb_325_0 [some (zv_a x0), some (zv_i x1), some (zv_i x2)] [] n sh d u Q := by
  unfold zE; rw [zn_325, zc_325_0]; exact ⟨fun h => h.2, fun h => ⟨Nat.le_of_ble_eq_true rfl, h⟩⟩
theorem ze_325s {S : zSs} {D n u : Nat} {sh : zk_S} {d : zm_D} {Q : ((Option zv_V) ⊕ Nat) → Nat → zk_S → zm_D → Nat → Prop} {x0 : Int} {x1 : Int} : zE S D 325 [zv_i x0, zv_i x1] n sh d u Q ↔ zB S D 325 zb_325_0 [some (zv_i x0), some (zv_i x1), none] [] n sh d u Q := by
  unfold zE; rw [zn_325, zc_325_0]; exact ⟨fun h => h.2, fun h => ⟨Nat.le_of_ble_eq_true rfl, h⟩⟩
theorem zh_325 : zhl 325 = [] := by decide +kernel
theorem zc_326_0 : zcd 326 0 = zb_326_0 := by decide +kernel
theorem zj_326_0 {S : zSs} {D n u : Nat} {sh : zk_S} {d : zm_D} {Q : ((Option zv_V) ⊕ Nat) → Nat → zk_S → zm_D → Nat → Prop} {L : zN} {st : List zv_V} : zJ S D 326 0 L st n sh d u Q ↔ zB S D 326 zb_326_0 L st n sh d u Q := by unfold zJ; rw [zc_326_0]
theorem zc_326_1 : zcd 326 1 = zb_326_1 := by decide +kernel
theorem zj_326_1 {S : zSs} {D n u : Nat} {sh : zk_S} {d : zm_D} {Q : ((Option zv_V) ⊕ Nat) → Nat → zk_S → zm_D → Nat → Prop} {L : zN} {st : List zv_V} : zJ S D 326 1 L st n sh d u Q ↔ zB S D 326 zb_326_1 L st n sh d u Q := by unfold zJ; rw [zc_326_1]
theorem zc_326_2 : zcd 326 2 = zb_326_2 := by decide +kernel
theorem zj_326_2 {S : zSs} {D n u : Nat} {sh : zk_S} {d : zm_D} {Q : ((Option zv_V) ⊕ Nat) → Nat → zk_S → zm_D → Nat → Prop} {L : zN} {st : List zv_V} : zJ S D 326 2 L st n sh d u Q ↔ zB S D 326 zb_326_2 L st n sh d u Q := by unfold zJ; rw [zc_326_2]
theorem zn_326 : znl 326 = 2 := by decide +kernel
theorem ze_326s {S : zSs} {D n u : Nat} {sh : zk_S} {d : zm_D} {Q : ((Option zv_V) ⊕ Nat) → Nat → zk_S → zm_D → Nat → Prop} {x0 : Int} {x1 : Int} : zE S D 326 [zv_i x0, zv_i x1] n sh d u Q ↔ zB S D 326 zb_326_0 [some (zv_i x0), some (zv_i x1)] [] n sh d u Q := by
  unfold zE; rw [zn_326, zc_326_0]; exact ⟨fun h => h.2, fun h => ⟨Nat.le_of_ble_eq_true rfl, h⟩⟩
theorem zh_326 : zhl 326 = [] := by decide +kernel
theorem zc_327_0 : zcd 327 0 = zb_327_0 := by decide +kernel
theorem zj_327_0 {S : zSs} {D n u : Nat} {sh : zk_S} {d : zm_D} {Q : ((Option zv_V) ⊕ Nat) → Nat → zk_S → zm_D → Nat → Prop} {L : zN} {st : List zv_V} : zJ S D 327 0 L st n sh d u Q ↔ zB S D 327 zb_327_0 L st n sh d u Q := by unfold zJ; rw [zc_327_0]
theorem zc_327_1 : zcd 327 1 = zb_327_1 := by decide +kernel
theorem zj_327_1 {S : zSs} {D n u : Nat} {sh : zk_S} {d : zm_D} {Q : ((Option zv_V) ⊕ Nat) → Nat → zk_S → zm_D → Nat → Prop} {L : zN} {st : List zv_V} : zJ S D 327 1 L st n sh d u Q ↔ zB S D 327 zb_327_1 L st n sh d u Q := by unfold zJ; rw [zc_327_1]
theorem zc_327_2 : zcd 327 2 = zb_327_2 := by decide +kernel
theorem zj_327_2 {S : zSs} {D n u : Nat} {sh : zk_S} {d : zm_D} {Q : ((Option zv_V) ⊕ Nat) → Nat → zk_S → zm_D → Nat → Prop} {L : zN} {st : List zv_V} : zJ S D 327 2 L st n sh d u Q ↔ zB S D 327 zb_327_2 L st n sh d u Q := by unfold zJ; rw [zc_327_2]
theorem zn_327 : znl 327 = 2 := by decide +kernel
theorem ze_327s {S : zSs} {D n u : Nat} {sh : zk_S} {d : zm_D} {Q : ((Option zv_V) ⊕ Nat) → Nat → zk_S → zm_D → Nat → Prop} {x0 : Int} {x1 : Int} : zE S D 327 [zv_i x0, zv_i x1] n sh d u Q ↔ zB S D 327 zb_327_0 [some (zv_i x0), some (zv_i x1)] [] n sh d u Q := by
  unfold zE; rw [zn_327, zc_327_0]; exact ⟨fun h => h.2, fun h => ⟨Nat.le_of_ble_eq_true rfl, h⟩⟩
theorem zh_327 : zhl 327 = [] := by decide +kernel
theorem zc_328_0 : zcd 328 0 = zb_328_0 := by decide +kernel
theorem zj_328_0 {S : zSs} {D n u : Nat} {sh : zk_S} {d : zm_D} {Q : ((Option zv_V) ⊕ Nat) → Nat → zk_S → zm_D → Nat → Prop} {L : zN} {st : List zv_V} : zJ S D 328 0 L st n sh d u Q ↔ zB S D 328 zb_328_0 L st n sh d u Q := by unfold zJ; rw [zc_328_0]
theorem zc_328_1 : zcd 328 1 = zb_328_1 := by decide +kernel
theorem zj_328_1 {S : zSs} {D n u : Nat} {sh : zk_S} {d : zm_D} {Q : ((Option zv_V) ⊕ Nat) → Nat → zk_S → zm_D → Nat → Prop} {L : zN} {st : List zv_V} : zJ S D 328 1 L st n sh d u Q ↔ zB S D 328 zb_328_1 L st n sh d u Q := by unfold zJ; rw [zc_328_1]
theorem zc_328_2 : zcd 328 2 = zb_328_2 := by decide +kernel
theorem zj_328_2 {S : zSs} {D n u : Nat} {sh : zk_S} {d : zm_D} {Q : ((Option zv_V) ⊕ Nat) → Nat → zk_S → zm_D → Nat → Prop} {L : zN} {st : List zv_V} : zJ S D 328 2 L st n sh d u Q ↔ zB S D 328 zb_328_2 L st n sh d u Q := by unfold zJ; rw [zc_328_2]
theorem zn_328 : znl 328 = 4 := by decide +kernel
theorem ze_328 {S : zSs} {D n u : Nat} {sh : zk_S} {d : zm_D} {Q : ((Option zv_V) ⊕ Nat) → Nat → zk_S → zm_D → Nat → Prop} {x0 : Int} {x1 : Int} {x2 : Int} : zE S D 328 [zv_a x0, zv_a x1, zv_i x2] n sh d u Q ↔ zB S D 328 zb_328_0 [some (zv_a x0), some (zv_a x1), some (zv_i x2), none] [] n sh d u Q := by
  unfold zE; rw [zn_328, zc_328_0]; exact ⟨fun h => h.2, fun h => ⟨Nat.le_of_ble_eq_true rfl, h⟩⟩
theorem ze_328s {S : zSs} {D n u : Nat} {sh : zk_S} {d : zm_D} {Q : ((Option zv_V) ⊕ Nat) → Nat → zk_S → zm_D → Nat → Prop} {x0 : Int} {x1 : Int} : zE S D 328 [zv_a x0, zv_i x1] n sh d u Q ↔ zB S D 328 zb_328_0 [some (zv_a x0), some (zv_i x1), none, none] [] n sh d u Q := by
  unfold zE; rw [zn_328, zc_328_0]; exact ⟨fun h => h.2, fun h => ⟨Nat.le_of_ble_eq_true rfl, h⟩⟩
theorem zh_328 : zhl 328 = [] := by decide +kernel
theorem zc_329_0 : zcd 329 0 = zb_329_0 := by decide +kernel
theorem zj_329_0 {S : zSs} {D n u : Nat} {sh : zk_S} {d : zm_D} {Q : ((Option zv_V) ⊕ Nat) → Nat → zk_S → zm_D → Nat → Prop} {L : zN} {st : List zv_V} : zJ S D 329 0 L st n sh d u Q ↔ zB S D 329 zb_329_0 L st n sh d u Q := by unfold zJ; rw [zc_329_0]
theorem zc_329_1 : zcd 329 1 = zb_329_1 := by decide +kernel
theorem zj_329_1 {S : zSs} {D n u : Nat} {sh : zk_S} {d : zm_D} {Q : ((Option zv_V) ⊕ Nat) → Nat → zk_S → zm_D → Nat → Prop} {L : zN} {st : List zv_V} : zJ S D 329 1 L st n sh d u Q ↔ zB S D 329 zb_329_1 L st n sh d u Q := by unfold zJ; rw [zc_329_1]
theorem zc_329_2 : zcd 329 2 = zb_329_2 := by decide +kernel
theorem zj_329_2 {S : zSs} {D n u : Nat} {sh : zk_S} {d : zm_D} {Q : ((Option zv_V) ⊕ Nat) → Nat → zk_S → zm_D → Nat → Prop} {L : zN} {st : List zv_V} : zJ S D 329 2 L st n sh d u Q ↔ zB S D 329 zb_329_2 L st n sh d u Q := by unfold zJ; rw [zc_329_2]
theorem zc_329_3 : zcd 329 3 = zb_329_3 := by decide +kernel
theorem zj_329_3 {S : zSs} {D n u : Nat} {sh : zk_S} {d : zm_D} {Q : ((Option zv_V) ⊕ Nat) → Nat → zk_S → zm_D → Nat → Prop} {L : zN} {st : List zv_V} : zJ S D 329 3 L st n sh d u Q ↔ zB S D 329 zb_329_3 L st n sh d u Q := by unfold zJ; rw [zc_329_3]
theorem zn_329 : znl 329 = 4 := by decide +kernel
theorem ze_329 {S : zSs} {D n u : Nat} {sh : zk_S} {d : zm_D} {Q : ((Option zv_V) ⊕ Nat) → Nat → zk_S → zm_D → Nat → Prop} {x0 : Int} {x1 : Int} {x2 : Int} {x3 : Int} : zE S D 329 [zv_a x0, zv_a x1, zv_i x2, zv_a x3] n sh d u Q ↔ zB S D 329 zb_329_0 [some (zv_a x0), some (zv_a x1), some (zv_i x2), some (zv_a x3)] [] n sh d u Q := by
  unfold zE; rw [zn_329, zc_329_0]; exact ⟨fun h => h.2, fun h => ⟨Nat.le_of_ble_eq_true rfl, h⟩⟩
theorem ze_329s {S : zSs} {D n u : Nat} {sh : zk_S} {d : zm_D} {Q : ((Option zv_V) ⊕ Nat) → Nat → zk_S → zm_D → Nat → Prop} {x0 : Int} {x1 : Int} {x2 : Int} : zE S D 329 [zv_a x0, zv_i x1, zv_a x2] n sh d u Q ↔ zB S D 329 zb_329_0 [some (zv_a x0), some (zv_i x1), some (zv_a x2), none] [] n sh d u Q := by
  unfold zE; rw [zn_329, zc_329_0]; exact ⟨fun h => h.2, fun h => ⟨Nat.le_of_ble_eq_true rfl, h⟩⟩
theorem zh_329 : zhl 329 = [(0, (1, 3)), (1, (2, 3))] := by decide +kernel
theorem zx_329_0 {S : zSs} {D n u : Nat} {sh : zk_S} {d : zm_D} {Q : ((Option zv_V) ⊕ Nat) → Nat → zk_S → zm_D → Nat → Prop} {is : List zI} {L : zN} {rest : List zv_V} : zA S D 329 is L rest Q (.inr 0) n sh d u ↔ zJ S D 329 1 (zclr L 3) [] n sh d u Q := by
  unfold zA; simp only [zh_329]; rfl
theorem zx_329_1 {S : zSs} {D n u : Nat} {sh : zk_S} {d : zm_D} {Q : ((Option zv_V) ⊕ Nat) → Nat → zk_S → zm_D → Nat → Prop} {is : List zI} {L : zN} {rest : List zv_V} : zA S D 329 is L rest Q (.inr 1) n sh d u ↔ zJ S D 329 2 (zclr L 3) [] n sh d u Q := by
  unfold zA; simp only [zh_329]; rfl
theorem zc_330_0 : zcd 330 0 = zb_330_0 := by decide +kernel
theorem zj_330_0 {S : zSs} {D n u : Nat} {sh : zk_S} {d : zm_D} {Q : ((Option zv_V) ⊕ Nat) → Nat → zk_S → zm_D → Nat → Prop} {L : zN} {st : List zv_V} : zJ S D 330 0 L st n sh d u Q ↔ zB S D 330 zb_330_0 L st n sh d u Q := by unfold zJ; rw [zc_330_0]
theorem zc_330_1 : zcd 330 1 = zb_330_1 := by decide +kernel
theorem zj_330_1 {S : zSs} {D n u : Nat} {sh : zk_S} {d : zm_D} {Q : ((Option zv_V) ⊕ Nat) → Nat → zk_S → zm_D → Nat → Prop} {L : zN} {st : List zv_V} : zJ S D 330 1 L st n sh d u Q ↔ zB S D 330 zb_330_1 L st n sh d u Q := by unfold zJ; rw [zc_330_1]
theorem zc_330_2 : zcd 330 2 = zb_330_2 := by decide +kernel
theorem zj_330_2 {S : zSs} {D n u : Nat} {sh : zk_S} {d : zm_D} {Q : ((Option zv_V) ⊕ Nat) → Nat → zk_S → zm_D → Nat → Prop} {L : zN} {st : List zv_V} : zJ S D 330 2 L st n sh d u Q ↔ zB S D 330 zb_330_2 L st n sh d u Q := by unfold zJ; rw [zc_330_2]
theorem zc_330_3 : zcd 330 3 = zb_330_3 := by decide +kernel
theorem zj_330_3 {S : zSs} {D n u : Nat} {sh : zk_S} {d : zm_D} {Q : ((Option zv_V) ⊕ Nat) → Nat → zk_S → zm_D → Nat → Prop} {L : zN} {st : List zv_V} : zJ S D 330 3 L st n sh d u Q ↔ zB S D 330 zb_330_3 L st n sh d u Q := by unfold zJ; rw [zc_330_3]
theorem zc_330_4 : zcd 330 4 = zb_330_4 := by decide +kernel
theorem zj_330_4 {S : zSs} {D n u : Nat} {sh : zk_S} {d : zm_D} {Q : ((Option zv_V) ⊕ Nat) → Nat → zk_S → zm_D → Nat → Prop} {L : zN} {st : List zv_V} : zJ S D 330 4 L st n sh d u Q ↔ zB S D 330 zb_330_4 L st n sh d u Q := by unfold zJ; rw [zc_330_4]
theorem zn_330 : znl 330 = 5 := by decide +kernel
theorem ze_330 {S : zSs} {D n u : Nat} {sh : zk_S} {d : zm_D} {Q : ((Option zv_V) ⊕ Nat) → Nat → zk_S → zm_D → Nat → Prop} {x0 : Int} {x1 : Int} {x2 : Int} {x3 : Int} {x4 : Int} : zE S D 330 [zv_a x0, zv_a x1, zv_i x2, zv_i x3, zv_a x4] n sh d u Q ↔ zB S D 330 zb_330_0 [some (zv_a x0), some (zv_a x1), some (zv_i x2), some (zv_i x3), some (zv_a x4)] [] n sh d u Q := by
  unfold zE; rw [zn_330, zc_330_0]; exact ⟨fun h => h.2, fun h => ⟨Nat.le_of_ble_eq_true rfl, h⟩⟩
theorem ze_330s {S : zSs} {D n u : Nat} {sh : zk_S} {d : zm_D} {Q : ((Option zv_V) ⊕ Nat) → Nat → zk_S → zm_D → Nat → Prop} {x0 : Int} {x1 : Int} {x2 : Int} {x3 : Int} : zE S D 330 [zv_a x0, zv_i x1, zv_i x2, zv_a x3] n sh d u Q ↔ zB S D 330 zb_330_0 [some (zv_a x0), some (zv_i x1), some (zv_i x2), some (zv_a x3), none] [] n sh d u Q := by
  unfold zE; rw [zn_330, zc_330_0]; exact ⟨fun h => h.2, fun h => ⟨Nat.le_of_ble_eq_true rfl, h⟩⟩
theorem zh_330 : zhl 330 = [(2, (1, 4)), (0, (2, 4)), (3, (3, 4))] := by decide +kernel
theorem zx_330_2 {S : zSs} {D n u : Nat} {sh : zk_S} {d : zm_D} {Q : ((Option zv_V) ⊕ Nat) → Nat → zk_S → zm_D → Nat → Prop} {is : List zI} {L : zN} {rest : List zv_V} : zA S D 330 is L rest Q (.inr 2) n sh d u ↔ zJ S D 330 1 (zclr L 4) [] n sh d u Q := by
  unfold zA; simp only [zh_330]; rfl
theorem zx_330_0 {S : zSs} {D n u : Nat} {sh : zk_S} {d : zm_D} {Q : ((Option zv_V) ⊕ Nat) → Nat → zk_S → zm_D → Nat → Prop} {is : List zI} {L : zN} {rest : List zv_V} : zA S D 330 is L rest Q (.inr 0) n sh d u ↔ zJ S D 330 2 (zclr L 4) [] n sh d u Q := by
  unfold zA; simp only [zh_330]; rfl
theorem zx_330_3 {S : zSs} {D n u : Nat} {sh : zk_S} {d : zm_D} {Q : ((Option zv_V) ⊕ Nat) → Nat → zk_S → zm_D → Nat → Prop} {is : List zI} {L : zN} {rest : List zv_V} : zA S D 330 is L rest Q (.inr 3) n sh d u ↔ zJ S D 330 3 (zclr L 4) [] n sh d u Q := by
  unfold zA; simp only [zh_330]; rfl
theorem zc_331_0 : zcd 331 0 = zb_331_0 := by decide +kernel
theorem zj_331_0 {S : zSs} {D n u : Nat} {sh : zk_S} {d : zm_D} {Q : ((Option zv_V) ⊕ Nat) → Nat → zk_S → zm_D → Nat → Prop} {L : zN} {st : List zv_V} : zJ S D 331 0 L st n sh d u Q ↔ zB S D 331 zb_331_0 L st n sh d u Q := by unfold zJ; rw [zc_331_0]
theorem zc_331_1 : zcd 331 1 = zb_331_1 := by decide +kernel
theorem zj_331_1 {S : zSs} {D n u : Nat} {sh : zk_S} {d : zm_D} {Q : ((Option zv_V) ⊕ Nat) → Nat → zk_S → zm_D → Nat → Prop} {L : zN} {st : List zv_V} : zJ S D 331 1 L st n sh d u Q ↔ zB S D 331 zb_331_1 L st n sh d u Q := by unfold zJ; rw [zc_331_1]
theorem zc_331_2 : zcd 331 2 = zb_331_2 := by decide +kernel
theorem zj_331_2 {S : zSs} {D n u : Nat} {sh : zk_S} {d : zm_D} {Q : ((Option zv_V) ⊕ Nat) → Nat → zk_S → zm_D → Nat → Prop} {L : zN} {st : List zv_V} : zJ S D 331 2 L st n sh d u Q ↔ zB S D 331 zb_331_2 L st n sh d u Q := by unfold zJ; rw [zc_331_2]
theorem zc_331_3 : zcd 331 3 = zb_331_3 := by decide +kernel
theorem zj_331_3 {S : zSs} {D n u : Nat} {sh : zk_S} {d : zm_D} {Q : ((Option zv_V) ⊕ Nat) → Nat → zk_S → zm_D → Nat → Prop} {L : zN} {st : List zv_V} : zJ S D 331 3 L st n sh d u Q ↔ zB S D 331 zb_331_3 L st n sh d u Q := by unfold zJ; rw [zc_331_3]
theorem zc_331_4 : zcd 331 4 = zb_331_4 := by decide +kernel
theorem zj_331_4 {S : zSs} {D n u : Nat} {sh : zk_S} {d : zm_D} {Q : ((Option zv_V) ⊕ Nat) → Nat → zk_S → zm_D → Nat → Prop} {L : zN} {st : List zv_V} : zJ S D 331 4 L st n sh d u Q ↔ zB S D 331 zb_331_4 L st n sh d u Q := by unfold zJ; rw [zc_331_4]
theorem zn_331 : znl 331 = 5 := by decide +kernel
theorem ze_331 {S : zSs} {D n u : Nat} {sh : zk_S} {d : zm_D} {Q : ((Option zv_V) ⊕ Nat) → Nat → zk_S → zm_D → Nat → Prop} {x0 : Int} {x1 : Int} {x2 : Int} {x3 : Int} {x4 : Int} : zE S D 331 [zv_a x0, zv_a x1, zv_i x2, zv_i x3, zv_a x4] n sh d u Q ↔ zB S D 331 zb_331_0 [some (zv_a x0), some (zv_a x1), some (zv_i x2), some (zv_i x3), some (zv_a x4)] [] n sh d u Q := by
  unfold zE; rw [zn_331, zc_331_0]; exact ⟨fun h => h.2, fun h => ⟨Nat.le_of_ble_eq_true rfl, h⟩⟩
theorem ze_331s {S : zSs} {D n u : Nat} {sh : zk_S} {d : zm_D} {Q : ((Option zv_V) ⊕ Nat) → Nat → zk_S → zm_D → Nat → Prop} {x0 : Int} {x1 : Int} {x2 : Int} {x3 : Int} : zE S D 331 [zv_a x0, zv_i x1, zv_i x2, zv_a x3] n sh d u Q ↔ zB S D 331 zb_331_0 [some (zv_a x0), some (zv_i x1), some (zv_i x2), some (zv_a x3), none] [] n sh d u Q := by
  unfold zE; rw [zn_331, zc_331_0]; exact ⟨fun h => h.2, fun h => ⟨Nat.le_of_ble_eq_true rfl, h⟩⟩
theorem zh_331 : zhl 331 = [(2, (1, 4)), (0, (2, 4)), (3, (3, 4))] := by decide +kernel
theorem zx_331_2 {S : zSs} {D n u : Nat} {sh : zk_S} {d : zm_D} {Q : ((Option zv_V) ⊕ Nat) → Nat → zk_S → zm_D → Nat → Prop} {is : List zI} {L : zN} {rest : List zv_V} : zA S D 331 is L rest Q (.inr 2) n sh d u ↔ zJ S D 331 1 (zclr L 4) [] n sh d u Q := by
  unfold zA; simp only [zh_331]; rfl
theorem zx_331_0 {S : zSs} {D n u : Nat} {sh : zk_S} {d : zm_D} {Q : ((Option zv_V) ⊕ Nat) → Nat → zk_S → zm_D → Nat → Prop} {is : List zI} {L : zN} {rest : List zv_V} : zA S D 331 is L rest Q (.inr 0) n sh d u ↔ zJ S D 331 2 (zclr L 4) [] n sh d u Q := by
  unfold zA; simp only [zh_331]; rfl
theorem zx_331_3 {S : zSs} {D n u : Nat} {sh : zk_S} {d : zm_D} {Q : ((Option zv_V) ⊕ Nat) → Nat → zk_S → zm_D → Nat → Prop} {is : List zI} {L : zN} {rest : List zv_V} : zA S D 331 is L rest Q (.inr 3) n sh d u ↔ zJ S D 331 3 (zclr L 4) [] n sh d u Q := by
  unfold zA; simp only [zh_331]; rfl
theorem zc_332_0 : zcd 332 0 = zb_332_0 := by decide +kernel
theorem zj_332_0 {S : zSs} {D n u : Nat} {sh : zk_S} {d : zm_D} {Q : ((Option zv_V) ⊕ Nat) → Nat → zk_S → zm_D → Nat → Prop} {L : zN} {st : List zv_V} : zJ S D 332 0 L st n sh d u Q ↔ zB S D 332 zb_332_0 L st n sh d u Q := by unfold zJ; rw [zc_332_0]
theorem zc_332_1 : zcd 332 1 = zb_332_1 := by decide +kernel
theorem zj_332_1 {S : zSs} {D n u : Nat} {sh : zk_S} {d : zm_D} {Q : ((Option zv_V) ⊕ Nat) → Nat → zk_S → zm_D → Nat → Prop} {L : zN} {st : List zv_V} : zJ S D 332 1 L st n sh d u Q ↔ zB S D 332 zb_332_1 L st n sh d u Q := by unfold zJ; rw [zc_332_1]
theorem zc_332_2 : zcd 332 2 = zb_332_2 := by decide +kernel
theorem zj_332_2 {S : zSs} {D n u : Nat} {sh : zk_S} {d : zm_D} {Q : ((Option zv_V) ⊕ Nat) → Nat → zk_S → zm_D → Nat → Prop} {L : zN} {st : List zv_V} : zJ S D 332 2 L st n sh d u Q ↔ zB S D 332 zb_332_2 L st n sh d u Q := by unfold zJ; rw [zc_332_2]
theorem zc_332_3 : zcd 332 3 = zb_332_3 := by decide +kernel
theorem zj_332_3 {S : zSs} {D n u : Nat} {sh : zk_S} {d : zm_D} {Q : ((Option zv_V) ⊕ Nat) → Nat → zk_S → zm_D → Nat → Prop} {L : zN} {st : List zv_V} : zJ S D 332 3 L st n sh d u Q ↔ zB S D 332 zb_332_3 L st n sh d u Q := by unfold zJ; rw [zc_332_3]
theorem zn_332 : znl 332 = 5 := by decide +kernel
theorem ze_332 {S : zSs} {D n u : Nat} {sh : zk_S} {d : zm_D} {Q : ((Option zv_V) ⊕ Nat) → Nat → zk_S → zm_D → Nat → Prop} {x0 : Int} {x1 : Int} {x2 : Int} {x3 : Int} {x4 : Int} : zE S D 332 [zv_a x0, zv_a x1, zv_i x2, zv_i x3, zv_a x4] n sh d u Q ↔ zB S D 332 zb_332_0 [some (zv_a x0), some (zv_a x1), some (zv_i x2), some (zv_i x3), some (zv_a x4)] [] n sh d u Q := by
  unfold zE; rw [zn_332, zc_332_0]; exact ⟨fun h => h.2, fun h => ⟨Nat.le_of_ble_eq_true rfl, h⟩⟩
theorem ze_332s {S : zSs} {D n u : Nat} {sh : zk_S} {d : zm_D} {Q : ((Option zv_V) ⊕ Nat) → Nat → zk_S → zm_D → Nat → Prop} {x0 : Int} {x1 : Int} {x2 : Int} {x3 : Int} : zE S D 332 [zv_a x0, zv_i x1, zv_i x2, zv_a x3] n sh d u Q ↔ zB S D 332 zb_332_0 [some (zv_a x0), some (zv_i x1), some (zv_i x2), some (zv_a x3), none] [] n sh d u Q := by
  unfold zE; rw [zn_332, zc_332_0]; exact ⟨fun h => h.2, fun h => ⟨Nat.le_of_ble_eq_true rfl, h⟩⟩
theorem zh_332 : zhl 332 = [(2, (1, 4)), (0, (2, 4))] := by decide +kernel
theorem zx_332_2 {S : zSs} {D n u : Nat} {sh : zk_S} {d : zm_D} {Q : ((Option zv_V) ⊕ Nat) → Nat → zk_S → zm_D → Nat → Prop} {is : List zI} {L : zN} {rest : List zv_V} : zA S D 332 is L rest Q (.inr 2) n sh d u ↔ zJ S D 332 1 (zclr L 4) [] n sh d u Q := by
  unfold zA; simp only [zh_332]; rfl
theorem zx_332_0 {S : zSs} {D n u : Nat} {sh : zk_S} {d : zm_D} {Q : ((Option zv_V) ⊕ Nat) → Nat → zk_S → zm_D → Nat → Prop} {is : List zI} {L : zN} {rest : List zv_V} : zA S D 332 is L rest Q (.inr 0) n sh d u ↔ zJ S D 332 2 (zclr L 4) [] n sh d u Q := by
  unfold zA; simp only [zh_332]; rfl
theorem zc_333_0 : zcd 333 0 = zb_333_0 := by decide +kernel
theorem zj_333_0 {S : zSs} {D n u : Nat} {sh : zk_S} {d : zm_D} {Q : ((Option zv_V) ⊕ Nat) → Nat → zk_S → zm_D → Nat → Prop} {L : zN} {st : List zv_V} : zJ S D 333 0 L st n sh d u Q ↔ zB S D 333 zb_333_0 L st n sh d u Q := by unfold zJ; rw [zc_333_0]
theorem zc_333_1 : zcd 333 1 = zb_333_1 := by decide +kernel
theorem zj_333_1 {S : zSs} {D n u : Nat} {sh : zk_S} {d : zm_D} {Q : ((Option zv_V) ⊕ Nat) → Nat → zk_S → zm_D → Nat → Prop} {L : zN} {st : List zv_V} : zJ S D 333 1 L st n sh d u Q ↔ zB S D 333 zb_333_1 L st n sh d u Q := by unfold zJ; rw [zc_333_1]
theorem zc_333_2 : zcd 333 2 = zb_333_2 := by decide +kernel
theorem zj_333_2 {S : zSs} {D n u : Nat} {sh : zk_S} {d : zm_D} {Q : ((Option zv_V) ⊕ Nat) → Nat → zk_S → zm_D → Nat → Prop} {L : zN} {st : List zv_V} : zJ S D 333 2 L st n sh d u Q ↔ zB S D 333 zb_333_2 L st n sh d u Q := by unfold zJ; rw [zc_333_2]
theorem zc_333_3 : zcd 333 3 = zb_333_3 := by decide +kernel
theorem zj_333_3 {S : zSs} {D n u : Nat} {sh : zk_S} {d : zm_D} {Q : ((Option zv_V) ⊕ Nat) → Nat → zk_S → zm_D → Nat → Prop} {L : zN} {st : List zv_V} : zJ S D 333 3 L st n sh d u Q ↔ zB S D 333 zb_333_3 L st n sh d u Q := by unfold zJ; rw [zc_333_3]
theorem zn_333 : znl 333 = 5 := by decide +kernel
theorem ze_333 {S : zSs} {D n u : Nat} {sh : zk_S} {d : zm_D} {Q : ((Option zv_V) ⊕ Nat) → Nat → zk_S → zm_D → Nat → Prop} {x0 : Int} {x1 : Int} {x2 : Int} {x3 : Int} {x4 : Int} : zE S D 333 [zv_a x0, zv_a x1, zv_i x2, zv_i x3, zv_a x4] n sh d u Q ↔ zB S D 333 zb_333_0 [some (zv_a x0), some (zv_a x1), some (zv_i x2), some (zv_i x3), some (zv_a x4)] [] n sh d u Q := by
  unfold zE; rw [zn_333, zc_333_0]; exact ⟨fun h => h.2, fun h => ⟨Nat.le_of_ble_eq_true rfl, h⟩⟩
theorem ze_333s {S : zSs} {D n u : Nat} {sh : zk_S} {d : zm_D} {Q : ((Option zv_V) ⊕ Nat) → Nat → zk_S → zm_D → Nat → Prop} {x0 : Int} {x1 : Int} {x2 : Int} {x3 : Int} : zE S D 333 [zv_a x0, zv_i x1, zv_i x2, zv_a x3] n sh d u Q ↔ zB S D 333 zb_333_0 [some (zv_a x0), some (zv_i x1), some (zv_i x2), some (zv_a x3), none] [] n sh d u Q := by
  unfold zE; rw [zn_333, zc_333_0]; exact ⟨fun h => h.2, fun h => ⟨Nat.le_of_ble_eq_true rfl, h⟩⟩
theorem zh_333 : zhl 333 = [(2, (1, 4)), (0, (2, 4))] := by decide +kernel
theorem zx_333_2 {S : zSs} {D n u : Nat} {sh : zk_S} {d : zm_D} {Q : ((Option zv_V) ⊕ Nat) → Nat → zk_S → zm_D → Nat → Prop} {is : List zI} {L : zN} {rest : List zv_V} : zA S D 333 is L rest Q (.inr 2) n sh d u ↔ zJ S D 333 1 (zclr L 4) [] n sh d u Q := by
  unfold zA; simp only [zh_333]; rfl
theorem zx_333_0 {S : zSs} {D n u : Nat} {sh : zk_S} {d : zm_D} {Q : ((Option zv_V) ⊕ Nat) → Nat → zk_S → zm_D → Nat → Prop} {is : List zI} {L : zN} {rest : List zv_V} : zA S D 333 is L rest Q (.inr 0) n sh d u ↔ zJ S D 333 2 (zclr L 4) [] n sh d u Q := by
  unfold zA; simp only [zh_333]; rfl
theorem zc_334_0 : zcd 334 0 = zb_334_0 := by decide +kernel
theorem zj_334_0 {S : zSs} {D n u : Nat} {sh : zk_S} {d : zm_D} {Q : ((Option zv_V) ⊕ Nat) → Nat → zk_S → zm_D → Nat → Prop} {L : zN} {st : List zv_V} : zJ S D 334 0 L st n sh d u Q ↔ zB S D 334 zb_334_0 L st n sh d u Q := by unfold zJ; rw [zc_334_0]
theorem zc_334_1 : zcd 334 1 = zb_334_1 := by decide +kernel
theorem zj_334_1 {S : zSs} {D n u : Nat} {sh : zk_S} {d : zm_D} {Q : ((Option zv_V) ⊕ Nat) → Nat → zk_S → zm_D → Nat → Prop} {L : zN} {st : List zv_V} : zJ S D 334 1 L st n sh d u Q ↔ zB S D 334 zb_334_1 L st n sh d u Q := by unfold zJ; rw [zc_334_1]
theorem zc_334_2 : zcd 334 2 = zb_334_2 := by decide +kernel
theorem zj_334_2 {S : zSs} {D n u : Nat} {sh : zk_S} {d : zm_D} {Q : ((Option zv_V) ⊕ Nat) → Nat → zk_S → zm_D → Nat → Prop} {L : zN} {st : List zv_V} : zJ S D 334 2 L st n sh d u Q ↔ zB S D 334 zb_334_2 L st n sh d u Q := by unfold zJ; rw [zc_334_2]
theorem zc_334_3 : zcd 334 3 = zb_334_3 := by decide +kernel
theorem zj_334_3 {S : zSs} {D n u : Nat} {sh : zk_S} {d : zm_D} {Q : ((Option zv_V) ⊕ Nat) → Nat → zk_S → zm_D → Nat → Prop} {L : zN} {st : List zv_V} : zJ S D 334 3 L st n sh d u Q ↔ zB S D 334 zb_334_3 L st n sh d u Q := by unfold zJ; rw [zc_334_3]
theorem zn_334 : znl 334 = 4 := by decide +kernel
theorem ze_334 {S : zSs} {D n u : Nat} {sh : zk_S} {d : zm_D} {Q : ((Option zv_V) ⊕ Nat) → Nat → zk_S → zm_D → Nat → Prop} {x0 : Int} {x1 : Int} {x2 : Int} {x3 : Int} : zE S D 334 [zv_a x0, zv_a x1, zv_i x2, zv_a x3] n sh d u Q ↔ zB S D 334 zb_334_0 [some (zv_a x0), some (zv_a x1), some (zv_i x2), some (zv_a x3)] [] n sh d u Q := by
  unfold zE; rw [zn_334, zc_334_0]; exact ⟨fun h => h.2, fun h => ⟨Nat.le_of_ble_eq_true rfl, h⟩⟩
theorem ze_334s {S : zSs} {D n u : Nat} {sh : zk_S} {d : zm_D} {Q : ((Option zv_V) ⊕ Nat) → Nat → zk_S → zm_D → Nat → Prop} {x0 : Int} {x1 : Int} {x2 : Int} : zE S D 334 [zv_a x0, zv_i x1, zv_a x2] n sh d u Q ↔ zB S D 334 zb_334_0 [some (zv_a x0), some (zv_i x1), some (zv_a x2), none] [] n sh d u Q := by
  unfold zE; rw [zn_334, zc_334_0]; exact ⟨fun h => h.2, fun h => ⟨Nat.le_of_ble_eq_true rfl, h⟩⟩
theorem zh_334 : zhl 334 = [(0, (1, 3)), (1, (2, 3))] := by decide +kernel
theorem zx_334_0 {S : zSs} {D n u : Nat} {sh : zk_S} {d : zm_D} {Q : ((Option zv_V) ⊕ Nat) → Nat → zk_S → zm_D → Nat → Prop} {is : List zI} {L : zN} {rest : List zv_V} : zA S D 334 is L rest Q (.inr 0) n sh d u ↔ zJ S D 334 1 (zclr L 3) [] n sh d u Q := by
  unfold zA; simp only [zh_334]; rfl
theorem zx_334_1 {S : zSs} {D n u : Nat} {sh : zk_S} {d : zm_D} {Q : ((Option zv_V) ⊕ Nat) → Nat → zk_S → zm_D → Nat → Prop} {is : List zI} {L : zN} {rest : List zv_V} : zA S D 334 is L rest Q (.inr 1) n sh d u ↔ zJ S D 334 2 (zclr L 3) [] n sh d u Q := by
  unfold zA; simp only [zh_334]; rfl
theorem zc_335_0 : zcd 335 0 = zb_335_0 := by decide +kernel
theorem zj_335_0 {S : zSs} {D n u : Nat} {sh : zk_S} {d : zm_D} {Q : ((Option zv_V) ⊕ Nat) → Nat → zk_S → zm_D → Nat → Prop} {L : zN} {st : List zv_V} : zJ S D 335 0 L st n sh d u Q ↔ zB S D 335 zb_335_0 L st n sh d u Q := by unfold zJ; rw [zc_335_0]
theorem zc_335_1 : zcd 335 1 = zb_335_1 := by decide +kernel
theorem zj_335_1 {S : zSs} {D n u : Nat} {sh : zk_S} {d : zm_D} {Q : ((Option zv_V) ⊕ Nat) → Nat → zk_S → zm_D → Nat → Prop} {L : zN} {st : List zv_V} : zJ S D 335 1 L st n sh d u Q ↔ zB S D 335 zb_335_1 L st n sh d u Q := by unfold zJ; rw [zc_335_1]
theorem zc_335_2 : zcd 335 2 = zb_335_2 := by decide +kernel
theorem zj_335_2 {S : zSs} {D n u : Nat} {sh : zk_S} {d : zm_D} {Q : ((Option zv_V) ⊕ Nat) → Nat → zk_S → zm_D → Nat → Prop} {L : zN} {st : List zv_V} : zJ S D 335 2 L st n sh d u Q ↔ zB S D 335 zb_335_2 L st n sh d u Q := by unfold zJ; rw [zc_335_2]
theorem zc_335_3 : zcd 335 3 = zb_335_3 := by decide +kernel
theorem zj_335_3 {S : zSs} {D n u : Nat} {sh : zk_S} {d : zm_D} {Q : ((Option zv_V) ⊕ Nat) → Nat → zk_S → zm_D → Nat → Prop} {L : zN} {st : List zv_V} : zJ S D 335 3 L st n sh d u Q ↔ zB S D 335 zb_335_3 L st n sh d u Q := by unfold zJ; rw [zc_335_3]
theorem zc_335_4 : zcd 335 4 = zb_335_4 := by decide +kernel
theorem zj_335_4 {S : zSs} {D n u : Nat} {sh : zk_S} {d : zm_D} {Q : ((Option zv_V) ⊕ Nat) → Nat → zk_S → zm_D → Nat → Prop} {L : zN} {st : List zv_V} : zJ S D 335 4 L st n sh d u Q ↔ zB S D 335 zb_335_4 L st n sh d u Q := by unfold zJ; rw [zc_335_4]
theorem zn_335 : znl 335 = 5 := by decide +kernel
theorem ze_335 {S : zSs} {D n u : Nat} {sh : zk_S} {d : zm_D} {Q : ((Option zv_V) ⊕ Nat) → Nat → zk_S → zm_D → Nat → Prop} {x0 : Int} {x1 : Int} {x2 : Int} {x3 : Int} {x4 : Int} : zE S D 335 [zv_a x0, zv_a x1, zv_i x2, zv_i x3, zv_a x4] n sh d u Q ↔ zB S D 335 zb_335_0 [some (zv_a x0), some (zv_a x1), some (zv_i x2), some (zv_i x3), some (zv_a x4)] [] n sh d u Q := by
  unfold zE; rw [zn_335, zc_335_0]; exact ⟨fun h => h.2, fun h => ⟨Nat.le_of_ble_eq_true rfl, h⟩⟩
theorem ze_335s {S : zSs} {D n u : Nat} {sh : zk_S} {d : zm_D} {Q : ((Option zv_V) ⊕ Nat) → Nat → zk_S → zm_D → Nat → Prop} {x0 : Int} {x1 : Int} {x2 : Int} {x3 : Int} : zE S D 335 [zv_a x0, zv_i x1, zv_i x2, zv_a x3] n sh d u Q ↔ zB S D 335 zb_335_0 [some (zv_a x0), some (zv_i x1), some (zv_i x2), some (zv_a x3), none] [] n sh d u Q := by
  unfold zE; rw [zn_335, zc_335_0]; exact ⟨fun h => h.2, fun h => ⟨Nat.le_of_ble_eq_true rfl, h⟩⟩
theorem zh_335 : zhl 335 = [(2, (1, 4)), (0, (2, 4)), (3, (3, 4))] := by decide +kernel
theorem zx_335_2 {S : zSs} {D n u : Nat} {sh : zk_S} {d : zm_D} {Q : ((Option zv_V) ⊕ Nat) → Nat → zk_S → zm_D → Nat → Prop} {is : List zI} {L : zN} {rest : List zv_V} : zA S D 335 is L rest Q (.inr 2) n sh d u ↔ zJ S D 335 1 (zclr L 4) [] n sh d u Q := by
  unfold zA; simp only [zh_335]; rfl
theorem zx_335_0 {S : zSs} {D n u : Nat} {sh : zk_S} {d : zm_D} {Q : ((Option zv_V) ⊕ Nat) → Nat → zk_S → zm_D → Nat → Prop} {is : List zI} {L : zN} {rest : List zv_V} : zA S D 335 is L rest Q (.inr 0) n sh d u ↔ zJ S D 335 2 (zclr L 4) [] n sh d u Q := by
  unfold zA; simp only [zh_335]; rfl
theorem zx_335_3 {S : zSs} {D n u : Nat} {sh : zk_S} {d : zm_D} {Q : ((Option zv_V) ⊕ Nat) → Nat → zk_S → zm_D → Nat → Prop} {is : List zI} {L : zN} {rest : List zv_V} : zA S D 335 is L rest Q (.inr 3) n sh d u ↔ zJ S D 335 3 (zclr L 4) [] n sh d u Q := by
  unfold zA; simp only [zh_335]; rfl
theorem zc_336_0 : zcd 336 0 = zb_336_0 := by decide +kernel
theorem zj_336_0 {S : zSs} {D n u : Nat} {sh : zk_S} {d : zm_D} {Q : ((Option zv_V) ⊕ Nat) → Nat → zk_S → zm_D → Nat → Prop} {L : zN} {st : List zv_V} : zJ S D 336 0 L st n sh d u Q ↔ zB S D 336 zb_336_0 L st n sh d u Q := by unfold zJ; rw [zc_336_0]
theorem zc_336_1 : zcd 336 1 = zb_336_1 := by decide +kernel
theorem zj_336_1 {S : zSs} {D n u : Nat} {sh : zk_S} {d : zm_D} {Q : ((Option zv_V) ⊕ Nat) → Nat → zk_S → zm_D → Nat → Prop} {L : zN} {st : List zv_V} : zJ S D 336 1 L st n sh d u Q ↔ zB S D 336 zb_336_1 L st n sh d u Q := by unfold zJ; rw [zc_336_1]
theorem zc_336_2 : zcd 336 2 = zb_336_2 := by decide +kernel
theorem zj_336_2 {S : zSs} {D n u : Nat} {sh : zk_S} {d : zm_D} {Q : ((Option zv_V) ⊕ Nat) → Nat → zk_S → zm_D → Nat → Prop} {L : zN} {st : List zv_V} : zJ S D 336 2 L st n sh d u Q ↔ zB S D 336 zb_336_2 L st n sh d u Q := by unfold zJ; rw [zc_336_2]
theorem zc_336_3 : zcd 336 3 = zb_336_3 := by decide +kernel
theorem zj_336_3 {S : zSs} {D n u : Nat} {sh : zk_S} {d : zm_D} {Q : ((Option zv_V) ⊕ Nat) → Nat → zk_S → zm_D → Nat → Prop} {L : zN} {st : List zv_V} : zJ S D 336 3 L st n sh d u Q ↔ zB S D 336 zb_336_3 L st n sh d u Q := by unfold zJ; rw [zc_336_3]
theorem zc_336_4 : zcd 336 4 = zb_336_4 := by decide +kernel
theorem zj_336_4 {S : zSs} {D n u : Nat} {sh : zk_S} {d : zm_D} {Q : ((Option zv_V) ⊕ Nat) → Nat → zk_S → zm_D → Nat → Prop} {L : zN} {st : List zv_V} : zJ S D 336 4 L st n sh d u Q ↔ zB S D 336 zb_336_4 L st n sh d u Q := by unfold zJ; rw [zc_336_4]
theorem zn_336 : znl 336 = 5 := by decide +kernel
theorem ze_336 {S : zSs} {D n u : Nat} {sh : zk_S} {d : zm_D} {Q : ((Option zv_V) ⊕ Nat) → Nat → zk_S → zm_D → Nat → Prop} {x0 : Int} {x1 : Int} {x2 : Int} {x3 : Int} {x4 : Int} : zE S D 336 [zv_a x0, zv_a x1, zv_i x2, zv_i x3, zv_a x4] n sh d u Q ↔ zB S D 336 zb_336_0 [some (zv_a x0), some (zv_a x1), some (zv_i x2), some (zv_i x3), some (zv_a x4)] [] n sh d u Q := by
  unfold zE; rw [zn_336, zc_336_0]; exact ⟨fun h => h.2, fun h => ⟨Nat.le_of_ble_eq_true rfl, h⟩⟩
theorem ze_336s {S : zSs} {D n u : Nat} {sh : zk_S} {d : zm_D} {Q : ((Option zv_V) ⊕ Nat) → Nat → zk_S → zm_D → Nat → Prop} {x0 : Int} {x1 : Int} {x2 : Int} {x3 : Int} : zE S D 336 [zv_a x0, zv_i x1, zv_i x2, zv_a x3] n sh d u Q ↔ zB S D 336 zb_336_0 [some (zv_a x0), some (zv_i x1), some (zv_i x2), some (zv_a x3), none] [] n sh d u Q := by
  unfold zE; rw [zn_336, zc_336_0]; exact ⟨fun h => h.2, fun h => ⟨Nat.le_of_ble_eq_true rfl, h⟩⟩
theorem zh_336 : zhl 336 = [(2, (1, 4)), (0, (2, 4)), (3, (3, 4))] := by decide +kernel
theorem zx_336_2 {S : zSs} {D n u : Nat} {sh : zk_S} {d : zm_D} {Q : ((Option zv_V) ⊕ Nat) → Nat → zk_S → zm_D → Nat → Prop} {is : List zI} {L : zN} {rest : List zv_V} : zA S D 336 is L rest Q (.inr 2) n sh d u ↔ zJ S D 336 1 (zclr L 4) [] n sh d u Q := by
  unfold zA; simp only [zh_336]; rfl
theorem zx_336_0 {S : zSs} {D n u : Nat} {sh : zk_S} {d : zm_D} {Q : ((Option zv_V) ⊕ Nat) → Nat → zk_S → zm_D → Nat → Prop} {is : List zI} {L : zN} {rest : List zv_V} : zA S D 336 is L rest Q (.inr 0) n sh d u ↔ zJ S D 336 2 (zclr L 4) [] n sh d u Q := by
  unfold zA; simp only [zh_336]; rfl
theorem zx_336_3 {S : zSs} {D n u : Nat} {sh : zk_S} {d : zm_D} {Q : ((Option zv_V) ⊕ Nat) → Nat → zk_S → zm_D → Nat → Prop} {is : List zI} {L : zN} {rest : List zv_V} : zA S D 336 is L rest Q (.inr 3) n sh d u ↔ zJ S D 336 3 (zclr L 4) [] n sh d u Q := by
  unfold zA; simp only [zh_336]; rfl
theorem zc_337_0 : zcd 337 0 = zb_337_0 := by decide +kernel
theorem zj_337_0 {S : zSs} {D n u : Nat} {sh : zk_S} {d : zm_D} {Q : ((Option zv_V) ⊕ Nat) → Nat → zk_S → zm_D → Nat → Prop} {L : zN} {st : List zv_V} : zJ S D 337 0 L st n sh d u Q ↔ zB S D 337 zb_337_0 L st n sh d u Q := by unfold zJ; rw [zc_337_0]
theorem zc_337_1 : zcd 337 1 = zb_337_1 := by decide +kernel
theorem zj_337_1 {S : zSs} {D n u : Nat} {sh : zk_S} {d : zm_D} {Q : ((Option zv_V) ⊕ Nat) → Nat → zk_S → zm_D → Nat → Prop} {L : zN} {st : List zv_V} : zJ S D 337 1 L st n sh d u Q ↔ zB S D 337 zb_337_1 L st n sh d u Q := by unfold zJ; rw [zc_337_1]
theorem zc_337_2 : zcd 337 2 = zb_337_2 := by decide +kernel
theorem zj_337_2 {S : zSs} {D n u : Nat} {sh : zk_S} {d : zm_D} {Q : ((Option zv_V) ⊕ Nat) → Nat → zk_S → zm_D → Nat → Prop} {L : zN} {st : List zv_V} : zJ S D 337 2 L st n sh d u Q ↔ zB S D 337 zb_337_2 L st n sh d u Q := by unfold zJ; rw [zc_337_2]
theorem zn_337 : znl 337 = 4 := by decide +kernel
theorem ze_337 {S : zSs} {D n u : Nat} {sh : zk_S} {d : zm_D} {Q : ((Option zv_V) ⊕ Nat) → Nat → zk_S → zm_D → Nat → Prop} {x0 : Int} {x1 : Int} {x2 : Int} {x3 : Int} : zE S D 337 [zv_a x0, zv_a x1, zv_i x2, zv_a x3] n sh d u Q ↔ zB S D 337 zb_337_0 [some (zv_a x0), some (zv_a x1), some (zv_i x2), some (zv_a x3)] [] n sh d u Q := by
  unfold zE; rw [zn_337, zc_337_0]; exact ⟨fun h => h.2, fun h => ⟨Nat.le_of_ble_eq_true rfl, h⟩⟩
theorem ze_337s {S : zSs} {D n u : Nat} {sh : zk_S} {d : zm_D} {Q : ((Option zv_V) ⊕ Nat) → Nat → zk_S → zm_D → Nat → Prop} {x0 : Int} {x1 : Int} {x2 : Int} : zE S D 337 [zv_a x0, zv_i x1, zv_a x2] n sh d u Q ↔ zB S D 337 zb_337_0 [some (zv_a x0), some (zv_i x1), some (zv_a x2), none] [] n sh d u Q := by
  unfold zE; rw [zn_337, zc_337_0]; exact ⟨fun h => h.2, fun h => ⟨Nat.le_of_ble_eq_true rfl, h⟩⟩
theorem zh_337 : zhl 337 = [(2, (1, 3))] := by decide +kernel
theorem zx_337_2 {S : zSs} {D n u : Nat} {sh : zk_S} {d : zm_D} {Q : ((Option zv_V) ⊕ Nat) → Nat → zk_S → zm_D → Nat → Prop} {is : List zI} {L : zN} {rest : List zv_V} : zA S D 337 is L rest Q (.inr 2) n sh d u ↔ zJ S D 337 1 (zclr L 3) [] n sh d u Q := by
  unfold zA; simp only [zh_337]; rfl
theorem zc_338_0 : zcd 338 0 = zb_338_0 := by decide +kernel
theorem zj_338_0 {S : zSs} {D n u : Nat} {sh : zk_S} {d : zm_D} {Q : ((Option zv_V) ⊕ Nat) → Nat → zk_S → zm_D → Nat → Prop} {L : zN} {st : List zv_V} : zJ S D 338 0 L st n sh d u Q ↔ zB S D 338 zb_338_0 L st n sh d u Q := by unfold zJ; rw [zc_338_0]
theorem zc_338_1 : zcd 338 1 = zb_338_1 := by decide +kernel
theorem zj_338_1 {S : zSs} {D n u : Nat} {sh : zk_S} {d : zm_D} {Q : ((Option zv_V) ⊕ Nat) → Nat → zk_S → zm_D → Nat → Prop} {L : zN} {st : List zv_V} : zJ S D 338 1 L st n sh d u Q ↔ zB S D 338 zb_338_1 L st n sh d u Q := by unfold zJ; rw [zc_338_1]
theorem zc_338_2 : zcd 338 2 = zb_338_2 := by decide +kernel
theorem zj_338_2 {S : zSs} {D n u : Nat} {sh : zk_S} {d : zm_D} {Q : ((Option zv_V) ⊕ Nat) → Nat → zk_S → zm_D → Nat → Prop} {L : zN} {st : List zv_V} : zJ S D 338 2 L st n sh d u Q ↔ zB S D 338 zb_338_2 L st n sh d u Q := by unfold zJ; rw [zc_338_2]
theorem zc_338_3 : zcd 338 3 = zb_338_3 := by decide +kernel
theorem zj_338_3 {S : zSs} {D n u : Nat} {sh : zk_S} {d : zm_D} {Q : ((Option zv_V) ⊕ Nat) → Nat → zk_S → zm_D → Nat → Prop} {L : zN} {st : List zv_V} : zJ S D 338 3 L st n sh d u Q ↔ zB S D 338 zb_338_3 L st n sh d u Q := by unfold zJ; rw [zc_338_3]
theorem zc_338_4 : zcd 338 4 = zb_338_4 := by decide +kernel
theorem zj_338_4 {S : zSs} {D n u : Nat} {sh : zk_S} {d : zm_D} {Q : ((Option zv_V) ⊕ Nat) → Nat → zk_S → zm_D → Nat → Prop} {L : zN} {st : List zv_V} : zJ S D 338 4 L st n sh d u Q ↔ zB S D 338 zb_338_4 L st n sh d u Q := by unfold zJ; rw [zc_338_4]
theorem zc_338_5 : zcd 338 5 = zb_338_5 := by decide +kernel
theorem zj_338_5 {S : zSs} {D n u : Nat} {sh : zk_S} {d : zm_D} {Q : ((Option zv_V) ⊕ Nat) → Nat → zk_S → zm_D → Nat → Prop} {L : zN} {st : List zv_V} : zJ S D 338 5 L st n sh d u Q ↔ zB S D 338 zb_338_5 L st n sh d u Q := by unfold zJ; rw [zc_338_5]
theorem zn_338 : znl 338 = 5 := by decide +kernel
theorem ze_338 {S : zSs} {D n u : Nat} {sh : zk_S} {d : zm_D} {Q : ((Option zv_V) ⊕ Nat) → Nat → zk_S → zm_D → Nat → Prop} {x0 : Int} {x1 : Int} {x2 : Int} {x3 : Int} {x4 : Int} : zE S D 338 [zv_a x0, zv_a x1, zv_i x2, zv_i x3, zv_a x4] n sh d u Q ↔ zB S D 338 zb_338_0 [some (zv_a x0), some (zv_a x1), some (zv_i x2), some (zv_i x3), some (zv_a x4)] [] n sh d u Q := by
  unfold zE; rw [zn_338, zc_338_0]; exact ⟨fun h => h.2, fun h => ⟨Nat.le_of_ble_eq_true rfl, h⟩⟩
theorem ze_338s {S : zSs} {D n u : Nat} {sh : zk_S} {d : zm_D} {Q : ((Option zv_V) ⊕ Nat) → Nat → zk_S → zm_D → Nat → Prop} {x0 : Int} {x1 : Int} {x2 : Int} {x3 : Int} : zE S D 338 [zv_a x0, zv_i x1, zv_i x2, zv_a x3] n sh d u Q ↔ zB S D 338 zb_338_0 [some (zv_a x0), some (zv_i x1), some (zv_i x2), some (zv_a x3), none] [] n sh d u Q := by
  unfold zE; rw [zn_338, zc_338_0]; exact ⟨fun h => h.2, fun h => ⟨Nat.le_of_ble_eq_true rfl, h⟩⟩
theorem zh_338 : zhl 338 = [(0, (3, 4)), (1, (4, 4))] := by decide +kernel
theorem zx_338_0 {S : zSs} {D n u : Nat} {sh : zk_S} {d : zm_D} {Q : ((Option zv_V) ⊕ Nat) → Nat → zk_S → zm_D → Nat → Prop} {is : List zI} {L : zN} {rest : List zv_V} : zA S D 338 is L rest Q (.inr 0) n sh d u ↔ zJ S D 338 3 (zclr L 4) [] n sh d u Q := by
  unfold zA; simp only [zh_338]; rfl
theorem zx_338_1 {S : zSs} {D n u : Nat} {sh : zk_S} {d : zm_D} {Q : ((Option zv_V) ⊕ Nat) → Nat → zk_S → zm_D → Nat → Prop} {is : List zI} {L : zN} {rest : List zv_V} : zA S D 338 is L rest Q (.inr 1) n sh d u ↔ zJ S D 338 4 (zclr L 4) [] n sh d u Q := by
  unfold zA; simp only [zh_338]; rfl
theorem zc_339_0 : zcd 339 0 = zb_339_0 := by decide +kernel
theorem zj_339_0 {S : zSs} {D n u : Nat} {sh : zk_S} {d : zm_D} {Q : ((Option zv_V) ⊕ Nat) → Nat → zk_S → zm_D → Nat → Prop} {L : zN} {st : List zv_V} : zJ S D 339 0 L st n sh d u Q ↔ zB S D 339 zb_339_0 L st n sh d u Q := by unfold zJ; rw [zc_339_0]
theorem zc_339_1 : zcd 339 1 = zb_339_1 := by decide +kernel
theorem zj_339_1 {S : zSs} {D n u : Nat} {sh : zk_S} {d : zm_D} {Q : ((Option zv_V) ⊕ Nat) → Nat → zk_S → zm_D → Nat → Prop} {L : zN} {st : List zv_V} : zJ S D 339 1 L st n sh d u Q ↔ zB S D 339 zb_339_1 L st n sh d u Q := by unfold zJ; rw [zc_339_1]
theorem zc_339_2 : zcd 339 2 = zb_339_2 := by decide +kernel
theorem zj_339_2 {S : zSs} {D n u : Nat} {sh : zk_S} {d : zm_D} {Q : ((Option zv_V) ⊕ Nat) → Nat → zk_S → zm_D → Nat → Prop} {L : zN} {st : List zv_V} : zJ S D 339 2 L st n sh d u Q ↔ zB S D 339 zb_339_2 L st n sh d u Q := by unfold zJ; rw [zc_339_2]
theorem zc_339_3 : zcd 339 3 = zb_339_3 := by decide +kernel
theorem zj_339_3 {S : zSs} {D n u : Nat} {sh : zk_S} {d : zm_D} {Q : ((Option zv_V) ⊕ Nat) → Nat → zk_S → zm_D → Nat → Prop} {L : zN} {st : List zv_V} : zJ S D 339 3 L st n sh d u Q ↔ zB S D 339 zb_339_3 L st n sh d u Q := by unfold zJ; rw [zc_339_3]
theorem zn_339 : znl 339 = 4 := by decide +kernel
theorem ze_339 {S : zSs} {D n u : Nat} {sh : zk_S} {d : zm_D} {Q : ((Option zv_V) ⊕ Nat) → Nat → zk_S → zm_D → Nat → Prop} {x0 : Int} {x1 : Int} {x2 : Int} {x3 : Int} : zE S D 339 [zv_a x0, zv_a x1, zv_i x2, zv_a x3] n sh d u Q ↔ zB S D 339 zb_339_0 [some (zv_a x0), some (zv_a x1), some (zv_i x2), some (zv_a x3)] [] n sh d u Q := by
  unfold zE; rw [zn_339, zc_339_0]; exact ⟨fun h => h.2, fun h => ⟨Nat.le_of_ble_eq_true rfl, h⟩⟩
theorem ze_339s {S : zSs} {D n u : Nat} {sh : zk_S} {d : zm_D} {Q : ((Option zv_V) ⊕ Nat) → Nat → zk_S → zm_D → Nat → Prop} {x0 : Int} {x1 : Int} {x2 : Int} : zE S D 339 [zv_a x0, zv_i x1, zv_a x2] n sh d u Q ↔ zB S D 339 zb_339_0 [some (zv_a x0), some (zv_i x1), some (zv_a x2), none] [] n sh d u Q := by
  unfold zE; rw [zn_339, zc_339_0]; exact ⟨fun h => h.2, fun h => ⟨Nat.le_of_ble_eq_true rfl, h⟩⟩
theorem zh_339 : zhl 339 = [(0, (1, 3)), (1, (2, 3))] := by decide +kernel
theorem zx_339_0 {S : zSs} {D n u : Nat} {sh : zk_S} {d : zm_D} {Q : ((Option zv_V) ⊕ Nat) → Nat → zk_S → zm_D → Nat → Prop} {is : List zI} {L : zN} {rest : List zv_V} : zA S D 339 is L rest Q (.inr 0) n sh d u ↔ zJ S D 339 1 (zclr L 3) [] n sh d u Q := by
  unfold zA; simp only [zh_339]; rfl
theorem zx_339_1 {S : zSs} {D n u : Nat} {sh : zk_S} {d : zm_D} {Q : ((Option zv_V) ⊕ Nat) → Nat → zk_S → zm_D → Nat → Prop} {is : List zI} {L : zN} {rest : List zv_V} : zA S D 339 is L rest Q (.inr 1) n sh d u ↔ zJ S D 339 2 (zclr L 3) [] n sh d u Q := by
  unfold zA; simp only [zh_339]; rfl
theorem zc_340_0 : zcd 340 0 = zb_340_0 := by decide +kernel
theorem zj_340_0 {S : zSs} {D n u : Nat} {sh : zk_S} {d : zm_D} {Q : ((Option zv_V) ⊕ Nat) → Nat → zk_S → zm_D → Nat → Prop} {L : zN} {st : List zv_V} : zJ S D 340 0 L st n sh d u Q ↔ zB S D 340 zb_340_0 L st n sh d u Q := by unfold zJ; rw [zc_340_0]
theorem zc_340_1 : zcd 340 1 = zb_340_1 := by decide +kernel
theorem zj_340_1 {S : zSs} {D n u : Nat} {sh : zk_S} {d : zm_D} {Q : ((Option zv_V) ⊕ Nat) → Nat → zk_S → zm_D → Nat → Prop} {L : zN} {st : List zv_V} : zJ S D 340 1 L st n sh d u Q ↔ zB S D 340 zb_340_1 L st n sh d u Q := by unfold zJ; rw [zc_340_1]
theorem zc_340_2 : zcd 340 2 = zb_340_2 := by decide +kernel
theorem zj_340_2 {S : zSs} {D n u : Nat} {sh : zk_S} {d : zm_D} {Q : ((Option zv_V) ⊕ Nat) → Nat → zk_S → zm_D → Nat → Prop} {L : zN} {st : List zv_V} : zJ S D 340 2 L st n sh d u Q ↔ zB S D 340 zb_340_2 L st n sh d u Q := by unfold zJ; rw [zc_340_2]
theorem zc_340_3 : zcd 340 3 = zb_340_3 := by decide +kernel
theorem zj_340_3 {S : zSs} {D n u : Nat} {sh : zk_S} {d : zm_D} {Q : ((Option zv_V) ⊕ Nat) → Nat → zk_S → zm_D → Nat → Prop} {L : zN} {st : List zv_V} : zJ S D 340 3 L st n sh d u Q ↔ zB S D 340 zb_340_3 L st n sh d u Q := by unfold zJ; rw [zc_340_3]
theorem zn_340 : znl 340 = 4 := by decide +kernel
theorem ze_340 {S : zSs} {D n u : Nat} {sh : zk_S} {d : zm_D} {Q : ((Option zv_V) ⊕ Nat) → Nat → zk_S → zm_D → Nat → Prop} {x0 : Int} {x1 : Int} {x2 : Int} {x3 : Int} : zE S D 340 [zv_a x0, zv_a x1, zv_i x2, zv_a x3] n sh d u Q ↔ zB S D 340 zb_340_0 [some (zv_a x0), some (zv_a x1), some (zv_i x2), some (zv_a x3)] [] n sh d u Q := by
  unfold zE; rw [zn_340, zc_340_0]; exact ⟨fun h => h.2, fun h => ⟨Nat.le_of_ble_eq_true rfl, h⟩⟩
theorem ze_340s {S : zSs} {D n u : Nat} {sh : zk_S} {d : zm_D} {Q : ((Option zv_V) ⊕ Nat) → Nat → zk_S → zm_D → Nat → Prop} {x0 : Int} {x1 : Int} {x2 : Int} : zE S D 340 [zv_a x0, zv_i x1, zv_a x2] n sh d u Q ↔ zB S D 340 zb_340_0 [some (zv_a x0), some (zv_i x1), some (zv_a x2), none] [] n sh d u Q := by
  unfold zE; rw [zn_340, zc_340_0]; exact ⟨fun h => h.2, fun h => ⟨Nat.le_of_ble_eq_true rfl, h⟩⟩
theorem zh_340 : zhl 340 = [(0, (1, 3)), (1, (2, 3))] := by decide +kernel
theorem zx_340_0 {S : zSs} {D n u : Nat} {sh : zk_S} {d : zm_D} {Q : ((Option zv_V) ⊕ Nat) → Nat → zk_S → zm_D → Nat → Prop} {is : List zI} {L : zN} {rest : List zv_V} : zA S D 340 is L rest Q (.inr 0) n sh d u ↔ zJ S D 340 1 (zclr L 3) [] n sh d u Q := by
  unfold zA; simp only [zh_340]; rfl
theorem zx_340_1 {S : zSs} {D n u : Nat} {sh : zk_S} {d : zm_D} {Q : ((Option zv_V) ⊕ Nat) → Nat → zk_S → zm_D → Nat → Prop} {is : List zI} {L : zN} {rest : List zv_V} : zA S D 340 is L rest Q (.inr 1) n sh d u ↔ zJ S D 340 2 (zclr L 3) [] n sh d u Q := by
  unfold zA; simp only [zh_340]; rfl
theorem zc_341_0 : zcd 341 0 = zb_341_0 := by decide +kernel
theorem zj_341_0 {S : zSs} {D n u : Nat} {sh : zk_S} {d : zm_D} {Q : ((Option zv_V) ⊕ Nat) → Nat → zk_S → zm_D → Nat → Prop} {L : zN} {st : List zv_V} : zJ S D 341 0 L st n sh d u Q ↔ zB S D 341 zb_341_0 L st n sh d u Q := by unfold zJ; rw [zc_341_0]
theorem zc_341_1 : zcd 341 1 = zb_341_1 := by decide +kernel
theorem zj_341_1 {S : zSs} {D n u : Nat} {sh : zk_S} {d : zm_D} {Q : ((Option zv_V) ⊕ Nat) → Nat → zk_S → zm_D → Nat → Prop} {L : zN} {st : List zv_V} : zJ S D 341 1 L st n sh d u Q ↔ zB S D 341 zb_341_1 L st n sh d u Q := by unfold zJ; rw [zc_341_1]
theorem zc_341_2 : zcd 341 2 = zb_341_2 := by decide +kernel
theorem zj_341_2 {S : zSs} {D n u : Nat} {sh : zk_S} {d : zm_D} {Q : ((Option zv_V) ⊕ Nat) → Nat → zk_S → zm_D → Nat → Prop} {L : zN} {st : List zv_V} : zJ S D 341 2 L st n sh d u Q ↔ zB S D 341 zb_341_2 L st n sh d u Q := by unfold zJ; rw [zc_341_2]
theorem zc_341_3 : zcd 341 3 = zb_341_3 := by decide +kernel
theorem zj_341_3 {S : zSs} {D n u : Nat} {sh : zk_S} {d : zm_D} {Q : ((Option zv_V) ⊕ Nat) → Nat → zk_S → zm_D → Nat → Prop} {L : zN} {st : List zv_V} : zJ S D 341 3 L st n sh d u Q ↔ zB S D 341 zb_341_3 L st n sh d u Q := by unfold zJ; rw [zc_341_3]
theorem zn_341 : znl 341 = 4 := by decide +kernel
theorem ze_341 {S : zSs} {D n u : Nat} {sh : zk_S} {d : zm_D} {Q : ((Option zv_V) ⊕ Nat) → Nat → zk_S → zm_D → Nat → Prop} {x0 : Int} {x1 : Int} {x2 : Int} {x3 : Int} : zE S D 341 [zv_a x0, zv_a x1, zv_i x2, zv_a x3] n sh d u Q ↔ zB S D 341 zb_341_0 [some (zv_a x0), some (zv_a x1), some (zv_i x2), some (zv_a x3)] [] n sh d u Q := by
  unfold zE; rw [zn_341, zc_341_0]; exact ⟨fun h => h.2, fun h => ⟨Nat.le_of_ble_eq_true rfl, h⟩⟩
theorem ze_341s {S : zSs} {D n u : Nat} {sh : zk_S} {d : zm_D} {Q : ((Option zv_V) ⊕ Nat) → Nat → zk_S → zm_D → Nat → Prop} {x0 : Int} {x1 : Int} {x2 : Int} : zE S D 341 [zv_a x0, zv_i x1, zv_a x2] n sh d u Q ↔ zB S D 341 zb_341_0 [some (zv_a x0), some (zv_i x1), some (zv_a x2), none] [] n sh d u Q := by
  unfold zE; rw [zn_341, zc_341_0]; exact ⟨fun h => h.2, fun h => ⟨Nat.le_of_ble_eq_true rfl, h⟩⟩
theorem zh_341 : zhl 341 = [(3, (1, 3)), (1, (2, 3))] := by decide +kernel
theorem zx_341_3 {S : zSs} {D n u : Nat} {sh : zk_S} {d : zm_D} {Q : ((Option zv_V) ⊕ Nat) → Nat → zk_S → zm_D → Nat → Prop} {is : List zI} {L : zN} {rest : List zv_V} : zA S D 341 is L rest Q (.inr 3) n sh d u ↔ zJ S D 341 1 (zclr L 3) [] n sh d u Q := by
  unfold zA; simp only [zh_341]; rfl
theorem zx_341_1 {S : zSs} {D n u : Nat} {sh : zk_S} {d : zm_D} {Q : ((Option zv_V) ⊕ Nat) → Nat → zk_S → zm_D → Nat → Prop} {is : List zI} {L : zN} {rest : List zv_V} : zA S D 341 is L rest Q (.inr 1) n sh d u ↔ zJ S D 341 2 (zclr L 3) [] n sh d u Q := by
  unfold zA; simp only [zh_341]; rfl
theorem zc_342_0 : zcd 342 0 = zb_342_0 := by decide +kernel
theorem zj_342_0 {S : zSs} {D n u : Nat} {sh : zk_S} {d : zm_D} {Q : ((Option zv_V) ⊕ Nat) → Nat → zk_S → zm_D → Nat → Prop} {L : zN} {st : List zv_V} : zJ S D 342 0 L st n sh d u Q ↔ zB S D 342 zb_342_0 L st n sh d u Q := by unfold zJ; rw [zc_342_0]
theorem zc_342_1 : zcd 342 1 = zb_342_1 := by decide +kernel
theorem zj_342_1 {S : zSs} {D n u : Nat} {sh : zk_S} {d : zm_D} {Q : ((Option zv_V) ⊕ Nat) → Nat → zk_S → zm_D → Nat → Prop} {L : zN} {st : List zv_V} : zJ S D 342 1 L st n sh d u Q ↔ zB S D 342 zb_342_1 L st n sh d u Q := by unfold zJ; rw [zc_342_1]
theorem zc_342_2 : zcd 342 2 = zb_342_2 := by decide +kernel
theorem zj_342_2 {S : zSs} {D n u : Nat} {sh : zk_S} {d : zm_D} {Q : ((Option zv_V) ⊕ Nat) → Nat → zk_S → zm_D → Nat → Prop} {L : zN} {st : List zv_V} : zJ S D 342 2 L st n sh d u Q ↔ zB S D 342 zb_342_2 L st n sh d u Q := by unfold zJ; rw [zc_342_2]
theorem zc_342_3 : zcd 342 3 = zb_342_3 := by decide +kernel
theorem zj_342_3 {S : zSs} {D n u : Nat} {sh : zk_S} {d : zm_D} {Q : ((Option zv_V) ⊕ Nat) → Nat → zk_S → zm_D → Nat → Prop} {L : zN} {st : List zv_V} : zJ S D 342 3 L st n sh d u Q ↔ zB S D 342 zb_342_3 L st n sh d u Q := by unfold zJ; rw [zc_342_3]
theorem zc_342_4 : zcd 342 4 = zb_342_4 := by decide +kernel
theorem zj_342_4 {S : zSs} {D n u : Nat} {sh : zk_S} {d : zm_D} {Q : ((Option zv_V) ⊕ Nat) → Nat → zk_S → zm_D → Nat → Prop} {L : zN} {st : List zv_V} : zJ S D 342 4 L st n sh d u Q ↔ zB S D 342 zb_342_4 L st n sh d u Q := by unfold zJ; rw [zc_342_4]
theorem zc_342_5 : zcd 342 5 = zb_342_5 := by decide +kernel
theorem zj_342_5 {S : zSs} {D n u : Nat} {sh : zk_S} {d : zm_D} {Q : ((Option zv_V) ⊕ Nat) → Nat → zk_S → zm_D → Nat → Prop} {L : zN} {st : List zv_V} : zJ S D 342 5 L st n sh d u Q ↔ zB S D 342 zb_342_5 L st n sh d u Q := by unfold zJ; rw [zc_342_5]
theorem zn_342 : znl 342 = 6 := by decide +kernel
theorem ze_342 {S : zSs} {D n u : Nat} {sh : zk_S} {d : zm_D} {Q : ((Option zv_V) ⊕ Nat) → Nat → zk_S → zm_D → Nat → Prop} {x0 : Int} {x1 : Int} {x2 : Int} {x3 : Int} {x4 : Int} {x5 : Int} : zE S D 342 [zv_a x0, zv_a x1, zv_i x2, zv_i x3, zv_i x4, zv_a x5] n sh d u Q ↔ zB S D 342 zb_342_0 [some (zv_a x0), some (zv_a x1), some (zv_i x2), some (zv_i x3), some (zv_i x4), some (zv_a x5)] [] n sh d u Q := by
  unfold zE; rw [zn_342, zc_342_0]; exact ⟨fun h => h.2, fun h => ⟨Nat.le_of_ble_eq_true rfl, h⟩⟩
theorem ze_342s {S : zSs} {D n u : Nat} {sh : zk_S} {d : zm_D} {Q : ((Option zv_V) ⊕ Nat) → Nat → zk_S → zm_D → Nat → Prop} {x0 : Int} {x1 : Int} {x2 : Int} {x3 : Int} {x4 : Int} : zE S D 342 [zv_a x0, zv_i x1, zv_i x2, zv_i x3, zv_a x4] n sh d u Q ↔ zB S D 342 zb_342_0 [some (zv_a x0), some (zv_i x1), some (zv_i x2), some (zv_i x3), some (zv_a x4), none] [] n sh d u Q := by
  unfold zE; rw [zn_342, zc_342_0]; exact ⟨fun h => h.2, fun h => ⟨Nat.le_of_ble_eq_true rfl, h⟩⟩
theorem zh_342 : zhl 342 = [(2, (1, 5)), (0, (2, 5)), (3, (3, 5)), (1, (4, 5))] := by decide +kernel
theorem zx_342_2 {S : zSs} {D n u : Nat} {sh : zk_S} {d : zm_D} {Q : ((Option zv_V) ⊕ Nat) → Nat → zk_S → zm_D → Nat → Prop} {is : List zI} {L : zN} {rest : List zv_V} : zA S D 342 is L rest Q (.inr 2) n sh d u ↔ zJ S D 342 1 (zclr L 5) [] n sh d u Q := by
  unfold zA; simp only [zh_342]; rfl
theorem zx_342_0 {S : zSs} {D n u : Nat} {sh : zk_S} {d : zm_D} {Q : ((Option zv_V) ⊕ Nat) → Nat → zk_S → zm_D → Nat → Prop} {is : List zI} {L : zN} {rest : List zv_V} : zA S D 342 is L rest Q (.inr 0) n sh d u ↔ zJ S D 342 2 (zclr L 5) [] n sh d u Q := by
  unfold zA; simp only [zh_342]; rfl
theorem zx_342_3 {S : zSs} {D n u : Nat} {sh : zk_S} {d : zm_D} {Q : ((Option zv_V) ⊕ Nat) → Nat → zk_S → zm_D → Nat → Prop} {is : List zI} {L : zN} {rest : List zv_V} : zA S D 342 is L rest Q (.inr 3) n sh d u ↔ zJ S D 342 3 (zclr L 5) [] n sh d u Q := by
  unfold zA; simp only [zh_342]; rfl
theorem zx_342_1 {S : zSs} {D n u : Nat} {sh : zk_S} {d : zm_D} {Q : ((Option zv_V) ⊕ Nat) → Nat → zk_S → zm_D → Nat → Prop} {is : List zI} {L : zN} {rest : List zv_V} : zA S D 342 is L rest Q (.inr 1) n sh d u ↔ zJ S D 342 4 (zclr L 5) [] n sh d u Q := by
  unfold zA; simp only [zh_342]; rfl
theorem zc_343_0 : zcd 343 0 = zb_343_0 := by decide +kernel
theorem zj_343_0 {S : zSs} {D n u : Nat} {sh : zk_S} {d : zm_D} {Q : ((Option zv_V) ⊕ Nat) → Nat → zk_S → zm_D → Nat → Prop} {L : zN} {st : List zv_V} : zJ S D 343 0 L st n sh d u Q ↔ zB S D 343 zb_343_0 L st n sh d u Q := by unfold zJ; rw [zc_343_0]
theorem zc_343_1 : zcd 343 1 = zb_343_1 := by decide +kernel
theorem zj_343_1 {S : zSs} {D n u : Nat} {sh : zk_S} {d : zm_D} {Q : ((Option zv_V) ⊕ Nat) → Nat → zk_S → zm_D → Nat → Prop} {L : zN} {st : List zv_V} : zJ S D 343 1 L st n sh d u Q ↔ zB S D 343 zb_343_1 L st n sh d u Q := by unfold zJ; rw [zc_343_1]
theorem zc_343_2 : zcd 343 2 = zb_343_2 := by decide +kernel
theorem zj_343_2 {S : zSs} {D n u : Nat} {sh : zk_S} {d : zm_D} {Q : ((Option zv_V) ⊕ Nat) → Nat → zk_S → zm_D → Nat → Prop} {L : zN} {st : List zv_V} : zJ S D 343 2 L st n sh d u Q ↔ zB S D 343 zb_343_2 L st n sh d u Q := by unfold zJ; rw [zc_343_2]
theorem zc_343_3 : zcd 343 3 = zb_343_3 := by decide +kernel
theorem zj_343_3 {S : zSs} {D n u : Nat} {sh : zk_S} {d : zm_D} {Q : ((Option zv_V) ⊕ Nat) → Nat → zk_S → zm_D → Nat → Prop} {L : zN} {st : List zv_V} : zJ S D 343 3 L st n sh d u Q ↔ zB S D 343 zb_343_3 L st n sh d u Q := by unfold zJ; rw [zc_343_3]
theorem zn_343 : znl 343 = 3 := by decide +kernel
theorem ze_343 {S : zSs} {D n u : Nat} {sh : zk_S} {d : zm_D} {Q : ((Option zv_V) ⊕ Nat) → Nat → zk_S → zm_D → Nat → Prop} {x0 : Int} {x1 : Int} {x2 : Int} : zE S D 343 [zv_a x0, zv_a x1, zv_a x2] n sh d u Q ↔ zB S D 343 zb_343_0 [some (zv_a x0), some (zv_a x1), some (zv_a x2)] [] n sh d u Q := by
  unfold zE; rw [zn_343, zc_343_0]; exact ⟨fun h => h.2, fun h => ⟨Nat.le_of_ble_eq_true rfl, h⟩⟩
theorem ze_343s {S : zSs} {D n u : Nat} {sh : zk_S} {d : zm_D} {Q : ((Option zv_V) ⊕ Nat) → Nat → zk_S → zm_D → Nat → Prop} {x0 : Int} {x1 : Int} : zE S D 343 [zv_a x0, zv_a x1] n sh d u Q ↔ zB S D 343 zb_343_0 [some (zv_a x0), some (zv_a x1), none] [] n sh d u Q := by
  unfold zE; rw [zn_343, zc_343_0]; exact ⟨fun h => h.2, fun h => ⟨Nat.le_of_ble_eq_true rfl, h⟩⟩
theorem zh_343 : zhl 343 = [(3, (1, 2)), (1, (2, 2))] := by decide +kernel
theorem zx_343_3 {S : zSs} {D n u : Nat} {sh : zk_S} {d : zm_D} {Q : ((Option zv_V) ⊕ Nat) → Nat → zk_S → zm_D → Nat → Prop} {is : List zI} {L : zN} {rest : List zv_V} : zA S D 343 is L rest Q (.inr 3) n sh d u ↔ zJ S D 343 1 (zclr L 2) [] n sh d u Q := by
  unfold zA; simp only [zh_343]; rfl
theorem zx_343_1 {S : zSs} {D n u : Nat} {sh : zk_S} {d : zm_D} {Q : ((Option zv_V) ⊕ Nat) → Nat → zk_S → zm_D → Nat → Prop} {is : List zI} {L : zN} {rest : List zv_V} : zA S D 343 is L rest Q (.inr 1) n sh d u ↔ zJ S D 343 2 (zclr L 2) [] n sh d u Q := by
  unfold zA; simp only [zh_343]; rfl
theorem zc_344_0 : zcd 344 0 = zb_344_0 := by decide +kernel
theorem zj_344_0 {S : zSs} {D n u : Nat} {sh : zk_S} {d : zm_D} {Q : ((Option zv_V) ⊕ Nat) → Nat → zk_S → zm_D → Nat → Prop} {L : zN} {st : List zv_V} : zJ S D 344 0 L st n sh d u Q ↔ zB S D 344 zb_344_0 L st n sh d u Q := by unfold zJ; rw [zc_344_0]
theorem zc_344_1 : zcd 344 1 = zb_344_1 := by decide +kernel
theorem zj_344_1 {S : zSs} {D n u : Nat} {sh : zk_S} {d : zm_D} {Q : ((Option zv_V) ⊕ Nat) → Nat → zk_S → zm_D → Nat → Prop} {L : zN} {st : List zv_V} : zJ S D 344 1 L st n sh d u Q ↔ zB S D 344 zb_344_1 L st n sh d u Q := by unfold zJ; rw [zc_344_1]
theorem zc_344_2 : zcd 344 2 = zb_344_2 := by decide +kernel
theorem zj_344_2 {S : zSs} {D n u : Nat} {sh : zk_S} {d : zm_D} {Q : ((Option zv_V) ⊕ Nat) → Nat → zk_S → zm_D → Nat → Prop} {L : zN} {st : List zv_V} : zJ S D 344 2 L st n sh d u Q ↔ zB S D 344 zb_344_2 L st n sh d u Q := by unfold zJ; rw [zc_344_2]
theorem zc_344_3 : zcd 344 3 = zb_344_3 := by decide +kernel
theorem zj_344_3 {S : zSs} {D n u : Nat} {sh : zk_S} {d : zm_D} {Q : ((Option zv_V) ⊕ Nat) → Nat → zk_S → zm_D → Nat → Prop} {L : zN} {st : List zv_V} : zJ S D 344 3 L st n sh d u Q ↔ zB S D 344 zb_344_3 L st n sh d u Q := by unfold zJ; rw [zc_344_3]
theorem zc_344_4 : zcd 344 4 = zb_344_4 := by decide +kernel
theorem zj_344_4 {S : zSs} {D n u : Nat} {sh : zk_S} {d : zm_D} {Q : ((Option zv_V) ⊕ Nat) → Nat → zk_S → zm_D → Nat → Prop} {L : zN} {st : List zv_V} : zJ S D 344 4 L st n sh d u Q ↔ zB S D 344 zb_344_4 L st n sh d u Q := by unfold zJ; rw [zc_344_4]
theorem zn_344 : znl 344 = 4 := by decide +kernel
theorem ze_344 {S : zSs} {D n u : Nat} {sh : zk_S} {d : zm_D} {Q : ((Option zv_V) ⊕ Nat) → Nat → zk_S → zm_D → Nat → Prop} {x0 : Int} {x1 : Int} {x2 : Int} {x3 : Int} : zE S D 344 [zv_a x0, zv_a x1, zv_i x2, zv_a x3] n sh d u Q ↔ zB S D 344 zb_344_0 [some (zv_a x0), some (zv_a x1), some (zv_i x2), some (zv_a x3)] [] n sh d u Q := by
  unfold zE; rw [zn_344, zc_344_0]; exact ⟨fun h => h.2, fun h => ⟨Nat.le_of_ble_eq_true rfl, h⟩⟩
theorem ze_344s {S : zSs} {D n u : Nat} {sh : zk_S} {d : zm_D} {Q : ((Option zv_V) ⊕ Nat) → Nat → zk_S → zm_D → Nat → Prop} {x0 : Int} {x1 : Int} {x2 : Int} : zE S D 344 [zv_a x0, zv_i x1, zv_a x2] n sh d u Q ↔ zB S D 344 zb_344_0 [some (zv_a x0), some (zv_i x1), some (zv_a x2), none] [] n sh d u Q := by
  unfold zE; rw [zn_344, zc_344_0]; exact ⟨fun h => h.2, fun h => ⟨Nat.le_of_ble_eq_true rfl, h⟩⟩
theorem zh_344 : zhl 344 = [(2, (1, 3)), (1, (2, 3)), (3, (3, 3))] := by decide +kernel
theorem zx_344_2 {S : zSs} {D n u : Nat} {sh : zk_S} {d : zm_D} {Q : ((Option zv_V) ⊕ Nat) → Nat → zk_S → zm_D → Nat → Prop} {is : List zI} {L : zN} {rest : List zv_V} : zA S D 344 is L rest Q (.inr 2) n sh d u ↔ zJ S D 344 1 (zclr L 3) [] n sh d u Q := by
  unfold zA; simp only [zh_344]; rfl
theorem zx_344_1 {S : zSs} {D n u : Nat} {sh : zk_S} {d : zm_D} {Q : ((Option zv_V) ⊕ Nat) → Nat → zk_S → zm_D → Nat → Prop} {is : List zI} {L : zN} {rest : List zv_V} : zA S D 344 is L rest Q (.inr 1) n sh d u ↔ zJ S D 344 2 (zclr L 3) [] n sh d u Q := by
  unfold zA; simp only [zh_344]; rfl
theorem zx_344_3 {S : zSs} {D n u : Nat} {sh : zk_S} {d : zm_D} {Q : ((Option zv_V) ⊕ Nat) → Nat → zk_S → zm_D → Nat → Prop} {is : List zI} {L : zN} {rest : List zv_V} : zA S D 344 is L rest Q (.inr 3) n sh d u ↔ zJ S D 344 3 (zclr L 3) [] n sh d u Q := by
  unfold zA; simp only [zh_344]; rfl
theorem zc_345_0 : zcd 345 0 = zb_345_0 := by decide +kernel
theorem zj_345_0 {S : zSs} {D n u : Nat} {sh : zk_S} {d : zm_D} {Q : ((Option zv_V) ⊕ Nat) → Nat → zk_S → zm_D → Nat → Prop} {L : zN} {st : List zv_V} : zJ S D 345 0 L st n sh d u Q ↔ zB S D 345 zb_345_0 L st n sh d u Q := by unfold zJ; rw [zc_345_0]
theorem zc_345_1 : zcd 345 1 = zb_345_1 := by decide +kernel
theorem zj_345_1 {S : zSs} {D n u : Nat} {sh : zk_S} {d : zm_D} {Q : ((Option zv_V) ⊕ Nat) → Nat → zk_S → zm_D → Nat → Prop} {L : zN} {st : List zv_V} : zJ S D 345 1 L st n sh d u Q ↔ zB S D 345 zb_345_1 L st n sh d u Q := by unfold zJ; rw [zc_345_1]
theorem zc_345_2 : zcd 345 2 = zb_345_2 := by decide +kernel
theorem zj_345_2 {S : zSs} {D n u : Nat} {sh : zk_S} {d : zm_D} {Q : ((Option zv_V) ⊕ Nat) → Nat → zk_S → zm_D → Nat → Prop} {L : zN} {st : List zv_V} : zJ S D 345 2 L st n sh d u Q ↔ zB S D 345 zb_345_2 L st n sh d u Q := by unfold zJ; rw [zc_345_2]
theorem zc_345_3 : zcd 345 3 = zb_345_3 := by decide +kernel
theorem zj_345_3 {S : zSs} {D n u : Nat} {sh : zk_S} {d : zm_D} {Q : ((Option zv_V) ⊕ Nat) → Nat → zk_S → zm_D → Nat → Prop} {L : zN} {st : List zv_V} : zJ S D 345 3 L st n sh d u Q ↔ zB S D 345 zb_345_3 L st n sh d u Q := by unfold zJ; rw [zc_345_3]
theorem zc_345_4 : zcd 345 4 = zb_345_4 := by decide +kernel
theorem zj_345_4 {S : zSs} {D n u : Nat} {sh : zk_S} {d : zm_D} {Q : ((Option zv_V) ⊕ Nat) → Nat → zk_S → zm_D → Nat → Prop} {L : zN} {st : List zv_V} : zJ S D 345 4 L st n sh d u Q ↔ zB S D 345 zb_345_4 L st n sh d u Q := by unfold zJ; rw [zc_345_4]
theorem zn_345 : znl 345 = 4 := by decide +kernel
theorem ze_345 {S : zSs} {D n u : Nat} {sh : zk_S} {d : zm_D} {Q : ((Option zv_V) ⊕ Nat) → Nat → zk_S → zm_D → Nat → Prop} {x0 : Int} {x1 : Int} {x2 : Int} {x3 : Int} : zE S D 345 [zv_a x0, zv_a x1, zv_i x2, zv_a x3] n sh d u Q ↔ zB S D 345 zb_345_0 [some (zv_a x0), some (zv_a x1), some (zv_i x2), some (zv_a x3)] [] n sh d u Q := by
  unfold zE; rw [zn_345, zc_345_0]; exact ⟨fun h => h.2, fun h => ⟨Nat.le_of_ble_eq_true rfl, h⟩⟩
theorem ze_345s {S : zSs} {D n u : Nat} {sh : zk_S} {d : zm_D} {Q : ((Option zv_V) ⊕ Nat) → Nat → zk_S → zm_D → Nat → Prop} {x0 : Int} {x1 : Int} {x2 : Int} : zE S D 345 [zv_a x0, zv_i x1, zv_a x2] n sh d u Q ↔ zB S D 345 zb_345_0 [some (zv_a x0), some (zv_i x1), some (zv_a x2), none] [] n sh d u Q := by
  unfold zE; rw [zn_345, zc_345_0]; exact ⟨fun h => h.2, fun h => ⟨Nat.le_of_ble_eq_true rfl, h⟩⟩
theorem zh_345 : zhl 345 = [(2, (1, 3)), (1, (2, 3)), (3, (3, 3))] := by decide +kernel
theorem zx_345_2 {S : zSs} {D n u : Nat} {sh : zk_S} {d : zm_D} {Q : ((Option zv_V) ⊕ Nat) → Nat → zk_S → zm_D → Nat → Prop} {is : List zI} {L : zN} {rest : List zv_V} : zA S D 345 is L rest Q (.inr 2) n sh d u ↔ zJ S D 345 1 (zclr L 3) [] n sh d u Q := by
  unfold zA; simp only [zh_345]; rfl
theorem zx_345_1 {S : zSs} {D n u : Nat} {sh : zk_S} {d : zm_D} {Q : ((Option zv_V) ⊕ Nat) → Nat → zk_S → zm_D → Nat → Prop} {is : List zI} {L : zN} {rest : List zv_V} : zA S D 345 is L rest Q (.inr 1) n sh d u ↔ zJ S D 345 2 (zclr L 3) [] n sh d u Q := by
  unfold zA; simp only [zh_345]; rfl
theorem zx_345_3 {S : zSs} {D n u : Nat} {sh : zk_S} {d : zm_D} {Q : ((Option zv_V) ⊕ Nat) → Nat → zk_S → zm_D → Nat → Prop} {is : List zI} {L : zN} {rest : List zv_V} : zA S D 345 is L rest Q (.inr 3) n sh d u ↔ zJ S D 345 3 (zclr L 3) [] n sh d u Q := by
  unfold zA; simp only [zh_345]; rfl
theorem zc_346_0 : zcd 346 0 = zb_346_0 := by decide +kernel
theorem zj_346_0 {S : zSs} {D n u : Nat} {sh : zk_S} {d : zm_D} {Q : ((Option zv_V) ⊕ Nat) → Nat → zk_S → zm_D → Nat → Prop} {L : zN} {st : List zv_V} : zJ S D 346 0 L st n sh d u Q ↔ zB S D 346 zb_346_0 L st n sh d u Q := by unfold zJ; rw [zc_346_0]
theorem zc_346_1 : zcd 346 1 = zb_346_1 := by decide +kernel
theorem zj_346_1 {S : zSs} {D n u : Nat} {sh : zk_S} {d : zm_D} {Q : ((Option zv_V) ⊕ Nat) → Nat → zk_S → zm_D → Nat → Prop} {L : zN} {st : List zv_V} : zJ S D 346 1 L st n sh d u Q ↔ zB S D 346 zb_346_1 L st n sh d u Q := by unfold zJ; rw [zc_346_1]
theorem zc_346_2 : zcd 346 2 = zb_346_2 := by decide +kernel
theorem zj_346_2 {S : zSs} {D n u : Nat} {sh : zk_S} {d : zm_D} {Q : ((Option zv_V) ⊕ Nat) → Nat → zk_S → zm_D → Nat → Prop} {L : zN} {st : List zv_V} : zJ S D 346 2 L st n sh d u Q ↔ zB S D 346 zb_346_2 L st n sh d u Q := by unfold zJ; rw [zc_346_2]
theorem zc_346_3 : zcd 346 3 = zb_346_3 := by decide +kernel
theorem zj_346_3 {S : zSs} {D n u : Nat} {sh : zk_S} {d : zm_D} {Q : ((Option zv_V) ⊕ Nat) → Nat → zk_S → zm_D → Nat → Prop} {L : zN} {st : List zv_V} : zJ S D 346 3 L st n sh d u Q ↔ zB S D 346 zb_346_3 L st n sh d u Q := by unfold zJ; rw [zc_346_3]
theorem zc_346_4 : zcd 346 4 = zb_346_4 := by decide +kernel
theorem zj_346_4 {S : zSs} {D n u : Nat} {sh : zk_S} {d : zm_D} {Q : ((Option zv_V) ⊕ Nat) → Nat → zk_S → zm_D → Nat → Prop} {L : zN} {st : List zv_V} : zJ S D 346 4 L st n sh d u Q ↔ zB S D 346 zb_346_4 L st n sh d u Q := by unfold zJ; rw [zc_346_4]
theorem zn_346 : znl 346 = 4 := by decide +kernel
theorem ze_346 {S : zSs} {D n u : Nat} {sh : zk_S} {d : zm_D} {Q : ((Option zv_V) ⊕ Nat) → Nat → zk_S → zm_D → Nat → Prop} {x0 : Int} {x1 : Int} {x2 : Int} {x3 : Int} : zE S D 346 [zv_a x0, zv_a x1, zv_i x2, zv_a x3] n sh d u Q ↔ zB S D 346 zb_346_0 [some (zv_a x0), some (zv_a x1), some (zv_i x2), some (zv_a x3)] [] n sh d u Q := by
  unfold zE; rw [zn_346, zc_346_0]; exact ⟨fun h => h.2, fun h => ⟨Nat.le_of_ble_eq_true rfl, h⟩⟩
theorem ze_346s {S : zSs} {D n u : Nat} {sh : zk_S} {d : zm_D} {Q : ((Option zv_V) ⊕ Nat) → Nat → zk_S → zm_D → Nat → Prop} {x0 : Int} {x1 : Int} {x2 : Int} : zE S D 346 [zv_a x0, zv_i x1, zv_a x2] n sh d u Q ↔ zB S D 346 zb_346_0 [some (zv_a x0), some (zv_i x1), some (zv_a x2), none] [] n sh d u Q := by
  unfold zE; rw [zn_346, zc_346_0]; exact ⟨fun h => h.2, fun h => ⟨Nat.le_of_ble_eq_true rfl, h⟩⟩
theorem zh_346 : zhl 346 = [(2, (1, 3)), (1, (2, 3)), (3, (3, 3))] := by decide +kernel
theorem zx_346_2 {S : zSs} {D n u : Nat} {sh : zk_S} {d : zm_D} {Q : ((Option zv_V) ⊕ Nat) → Nat → zk_S → zm_D → Nat → Prop} {is : List zI} {L : zN} {rest : List zv_V} : zA S D 346 is L rest Q (.inr 2) n sh d u ↔ zJ S D 346 1 (zclr L 3) [] n sh d u Q := by
  unfold zA; simp only [zh_346]; rfl
theorem zx_346_1 {S : zSs} {D n u : Nat} {sh : zk_S} {d : zm_D} {Q : ((Option zv_V) ⊕ Nat) → Nat → zk_S → zm_D → Nat → Prop} {is : List zI} {L : zN} {rest : List zv_V} : zA S D 346 is L rest Q (.inr 1) n sh d u ↔ zJ S D 346 2 (zclr L 3) [] n sh d u Q := by
  unfold zA; simp only [zh_346]; rfl
theorem zx_346_3 {S : zSs} {D n u : Nat} {sh : zk_S} {d : zm_D} {Q : ((Option zv_V) ⊕ Nat) → Nat → zk_S → zm_D → Nat → Prop} {is : List zI} {L : zN} {rest : List zv_V} : zA S D 346 is L rest Q (.inr 3) n sh d u ↔ zJ S D 346 3 (zclr L 3) [] n sh d u Q := by
  unfold zA; simp only [zh_346]; rfl
theorem zc_347_0 : zcd 347 0 = zb_347_0 := by decide +kernel
theorem zj_347_0 {S : zSs} {D n u : Nat} {sh : zk_S} {d : zm_D} {Q : ((Option zv_V) ⊕ Nat) → Nat → zk_S → zm_D → Nat → Prop} {L : zN} {st : List zv_V} : zJ S D 347 0 L st n sh d u Q ↔ zB S D 347 zb_347_0 L st n sh d u Q := by unfold zJ; rw [zc_347_0]
theorem zc_347_1 : zcd 347 1 = zb_347_1 := by decide +kernel
theorem zj_347_1 {S : zSs} {D n u : Nat} {sh : zk_S} {d : zm_D} {Q : ((Option zv_V) ⊕ Nat) → Nat → zk_S → zm_D → Nat → Prop} {L : zN} {st : List zv_V} : zJ S D 347 1 L st n sh d u Q ↔ zB S D 347 zb_347_1 L st n sh d u Q := by unfold zJ; rw [zc_347_1]
theorem zc_347_2 : zcd 347 2 = zb_347_2 := by decide +kernel
theorem zj_347_2 {S : zSs} {D n u : Nat} {sh : zk_S} {d : zm_D} {Q : ((Option zv_V) ⊕ Nat) → Nat → zk_S → zm_D → Nat → Prop} {L : zN} {st : List zv_V} : zJ S D 347 2 L st n sh d u Q ↔ zB S D 347 zb_347_2 L st n sh d u Q := by unfold zJ; rw [zc_347_2]
theorem zc_347_3 : zcd 347 3 = zb_347_3 := by decide +kernel
theorem zj_347_3 {S : zSs} {D n u : Nat} {sh : zk_S} {d : zm_D} {Q : ((Option zv_V) ⊕ Nat) → Nat → zk_S → zm_D → Nat → Prop} {L : zN} {st : List zv_V} : zJ S D 347 3 L st n sh d u Q ↔ zB S D 347 zb_347_3 L st n sh d u Q := by unfold zJ; rw [zc_347_3]
theorem zc_347_4 : zcd 347 4 = zb_347_4 := by decide +kernel
theorem zj_347_4 {S : zSs} {D n u : Nat} {sh : zk_S} {d : zm_D} {Q : ((Option zv_V) ⊕ Nat) → Nat → zk_S → zm_D → Nat → Prop} {L : zN} {st : List zv_V} : zJ S D 347 4 L st n sh d u Q ↔ zB S D 347 zb_347_4 L st n sh d u Q := by unfold zJ; rw [zc_347_4]
theorem zn_347 : znl 347 = 4 := by decide +kernel
theorem ze_347 {S : zSs} {D n u : Nat} {sh : zk_S} {d : zm_D} {Q : ((Option zv_V) ⊕ Nat) → Nat → zk_S → zm_D → Nat → Prop} {x0 : Int} {x1 : Int} {x2 : Int} {x3 : Int} : zE S D 347 [zv_a x0, zv_a x1, zv_i x2, zv_a x3] n sh d u Q ↔ zB S D 347 zb_347_0 [some (zv_a x0), some (zv_a x1), some (zv_i x2), some (zv_a x3)] [] n sh d u Q := by
  unfold zE; rw [zn_347, zc_347_0]; exact ⟨fun h => h.2, fun h => ⟨Nat.le_of_ble_eq_true rfl, h⟩⟩
theorem ze_347s {S : zSs} {D n u : Nat} {sh : zk_S} {d : zm_D} {Q : ((Option zv_V) ⊕ Nat) → Nat → zk_S → zm_D → Nat → Prop} {x0 : Int} {x1 : Int} {x2 : Int} : zE S D 347 [zv_a x0, zv_i x1, zv_a x2] n sh d u Q ↔ zB S D 347 zb_347_0 [some (zv_a x0), some (zv_i x1), some (zv_a x2), none] [] n sh d u Q := by
  unfold zE; rw [zn_347, zc_347_0]; exact ⟨fun h => h.2, fun h => ⟨Nat.le_of_ble_eq_true rfl, h⟩⟩
theorem zh_347 : zhl 347 = [(2, (1, 3)), (1, (2, 3)), (3, (3, 3))] := by decide +kernel
theorem zx_347_2 {S : zSs} {D n u : Nat} {sh : zk_S} {d : zm_D} {Q : ((Option zv_V) ⊕ Nat) → Nat → zk_S → zm_D → Nat → Prop} {is : List zI} {L : zN} {rest : List zv_V} : zA S D 347 is L rest Q (.inr 2) n sh d u ↔ zJ S D 347 1 (zclr L 3) [] n sh d u Q := by
  unfold zA; simp only [zh_347]; rfl
theorem zx_347_1 {S : zSs} {D n u : Nat} {sh : zk_S} {d : zm_D} {Q : ((Option zv_V) ⊕ Nat) → Nat → zk_S → zm_D → Nat → Prop} {is : List zI} {L : zN} {rest : List zv_V} : zA S D 347 is L rest Q (.inr 1) n sh d u ↔ zJ S D 347 2 (zclr L 3) [] n sh d u Q := by
  unfold zA; simp only [zh_347]; rfl
theorem zx_347_3 {S : zSs} {D n u : Nat} {sh : zk_S} {d : zm_D} {Q : ((Option zv_V) ⊕ Nat) → Nat → zk_S → zm_D → Nat → Prop} {is : List zI} {L : zN} {rest : List zv_V} : zA S D 347 is L rest Q (.inr 3) n sh d u ↔ zJ S D 347 3 (zclr L 3) [] n sh d u Q := by
  unfold zA; simp only [zh_347]; rfl
theorem zc_348_0 : zcd 348 0 = zb_348_0 := by decide +kernel
theorem zj_348_0 {S : zSs} {D n u : Nat} {sh : zk_S} {d : zm_D} {Q : ((Option zv_V) ⊕ Nat) → Nat → zk_S → zm_D → Nat → Prop} {L : zN} {st : List zv_V} : zJ S D 348 0 L st n sh d u Q ↔ zB S D 348 zb_348_0 L st n sh d u Q := by unfold zJ; rw [zc_348_0]
theorem zc_348_1 : zcd 348 1 = zb_348_1 := by decide +kernel
theorem zj_348_1 {S : zSs} {D n u : Nat} {sh : zk_S} {d : zm_D} {Q : ((Option zv_V) ⊕ Nat) → Nat → zk_S → zm_D → Nat → Prop} {L : zN} {st : List zv_V} : zJ S D 348 1 L st n sh d u Q ↔ zB S D 348 zb_348_1 L st n sh d u Q := by unfold zJ; rw [zc_348_1]
theorem zc_348_2 : zcd 348 2 = zb_348_2 := by decide +kernel
theorem zj_348_2 {S : zSs} {D n u : Nat} {sh : zk_S} {d : zm_D} {Q : ((Option zv_V) ⊕ Nat) → Nat → zk_S → zm_D → Nat → Prop} {L : zN} {st : List zv_V} : zJ S D 348 2 L st n sh d u Q ↔ zB S D 348 zb_348_2 L st n sh d u Q := by unfold zJ; rw [zc_348_2]
theorem zc_348_3 : zcd 348 3 = zb_348_3 := by decide +kernel
theorem zj_348_3 {S : zSs} {D n u : Nat} {sh : zk_S} {d : zm_D} {Q : ((Option zv_V) ⊕ Nat) → Nat → zk_S → zm_D → Nat → Prop} {L : zN} {st : List zv_V} : zJ S D 348 3 L st n sh d u Q ↔ zB S D 348 zb_348_3 L st n sh d u Q := by unfold zJ; rw [zc_348_3]
theorem zc_348_4 : zcd 348 4 = zb_348_4 := by decide +kernel
theorem zj_348_4 {S : zSs} {D n u : Nat} {sh : zk_S} {d : zm_D} {Q : ((Option zv_V) ⊕ Nat) → Nat → zk_S → zm_D → Nat → Prop} {L : zN} {st : List zv_V} : zJ S D 348 4 L st n sh d u Q ↔ zB S D 348 zb_348_4 L st n sh d u Q := by unfold zJ; rw [zc_348_4]
theorem zn_348 : znl 348 = 4 := by decide +kernel
theorem ze_348 {S : zSs} {D n u : Nat} {sh : zk_S} {d : zm_D} {Q : ((Option zv_V) ⊕ Nat) → Nat → zk_S → zm_D → Nat → Prop} {x0 : Int} {x1 : Int} {x2 : Int} {x3 : Int} : zE S D 348 [zv_a x0, zv_a x1, zv_i x2, zv_a x3] n sh d u Q ↔ zB S D 348 zb_348_0 [some (zv_a x0), some (zv_a x1), some (zv_i x2), some (zv_a x3)] [] n sh d u Q := by
  unfold zE; rw [zn_348, zc_348_0]; exact ⟨fun h => h.2, fun h => ⟨Nat.le_of_ble_eq_true rfl, h⟩⟩
theorem ze_348s {S : zSs} {D n u : Nat} {sh : zk_S} {d : zm_D} {Q : ((Option zv_V) ⊕ Nat) → Nat → zk_S → zm_D → Nat → Prop} {x0 : Int} {x1 : Int} {x2 : Int} : zE S D 348 [zv_a x0, zv_i x1, zv_a x2] n sh d u Q ↔ zB S D 348 zb_348_0 [some (zv_a x0), some (zv_i x1), some (zv_a x2), none] [] n sh d u Q := by
  unfold zE; rw [zn_348, zc_348_0]; exact ⟨fun h => h.2, fun h => ⟨Nat.le_of_ble_eq_true rfl, h⟩⟩
theorem zh_348 : zhl 348 = [(2, (1, 3)), (1, (2, 3)), (3, (3, 3))] := by decide +kernel
theorem zx_348_2 {S : zSs} {D n u : Nat} {sh : zk_S} {d : zm_D} {Q : ((Option zv_V) ⊕ Nat) → Nat → zk_S → zm_D → Nat → Prop} {is : List zI} {L : zN} {rest : List zv_V} : zA S D 348 is L rest Q (.inr 2) n sh d u ↔ zJ S D 348 1 (zclr L 3) [] n sh d u Q := by
  unfold zA; simp only [zh_348]; rfl
theorem zx_348_1 {S : zSs} {D n u : Nat} {sh : zk_S} {d : zm_D} {Q : ((Option zv_V) ⊕ Nat) → Nat → zk_S → zm_D → Nat → Prop} {is : List zI} {L : zN} {rest : List zv_V} : zA S D 348 is L rest Q (.inr 1) n sh d u ↔ zJ S D 348 2 (zclr L 3) [] n sh d u Q := by
  unfold zA; simp only [zh_348]; rfl
theorem zx_348_3 {S : zSs} {D n u : Nat} {sh : zk_S} {d : zm_D} {Q : ((Option zv_V) ⊕ Nat) → Nat → zk_S → zm_D → Nat → Prop} {is : List zI} {L : zN} {rest : List zv_V} : zA S D 348 is L rest Q (.inr 3) n sh d u ↔ zJ S D 348 3 (zclr L 3) [] n sh d u Q := by
  unfold zA; simp only [zh_348]; rfl
theorem zc_349_0 : zcd 349 0 = zb_349_0 := by decide +kernel
theorem zj_349_0 {S : zSs} {D n u : Nat} {sh : zk_S} {d : zm_D} {Q : ((Option zv_V) ⊕ Nat) → Nat → zk_S → zm_D → Nat → Prop} {L : zN} {st : List zv_V} : zJ S D 349 0 L st n sh d u Q ↔ zB S D 349 zb_349_0 L st n sh d u Q := by unfold zJ; rw [zc_349_0]
theorem zc_349_1 : zcd 349 1 = zb_349_1 := by decide +kernel
theorem zj_349_1 {S : zSs} {D n u : Nat} {sh : zk_S} {d : zm_D} {Q : ((Option zv_V) ⊕ Nat) → Nat → zk_S → zm_D → Nat → Prop} {L : zN} {st : List zv_V} : zJ S D 349 1 L st n sh d u Q ↔ zB S D 349 zb_349_1 L st n sh d u Q := by unfold zJ; rw [zc_349_1]
theorem zc_349_2 : zcd 349 2 = zb_349_2 := by decide +kernel
theorem zj_349_2 {S : zSs} {D n u : Nat} {sh : zk_S} {d : zm_D} {Q : ((Option zv_V) ⊕ Nat) → Nat → zk_S → zm_D → Nat → Prop} {L : zN} {st : List zv_V} : zJ S D 349 2 L st n sh d u Q ↔ zB S D 349 zb_349_2 L st n sh d u Q := by unfold zJ; rw [zc_349_2]
theorem zc_349_3 : zcd 349 3 = zb_349_3 := by decide +kernel
theorem zj_349_3 {S : zSs} {D n u : Nat} {sh : zk_S} {d : zm_D} {Q : ((Option zv_V) ⊕ Nat) → Nat → zk_S → zm_D → Nat → Prop} {L : zN} {st : List zv_V} : zJ S D 349 3 L st n sh d u Q ↔ zB S D 349 zb_349_3 L st n sh d u Q := by unfold zJ; rw [zc_349_3]
theorem zn_349 : znl 349 = 6 := by decide +kernel
theorem ze_349 {S : zSs} {D n u : Nat} {sh : zk_S} {d : zm_D} {Q : ((Option zv_V) ⊕ Nat) → Nat → zk_S → zm_D → Nat → Prop} {x0 : Int} {x1 : Int} {x2 : Int} {x3 : Int} {x4 : Int} {x5 : Int} : zE S D 349 [zv_a x0, zv_a x1, zv_i x2, zv_i x3, zv_i x4, zv_a x5] n sh d u Q ↔ zB S D 349 zb_349_0 [some (zv_a x0), some (zv_a x1), some (zv_i x2), some (zv_i x3), some (zv_i x4), some (zv_a x5)] [] n sh d u Q := by
  unfold zE; rw [zn_349, zc_349_0]; exact ⟨fun h => h.2, fun h => ⟨Nat.le_of_ble_eq_true rfl, h⟩⟩
theorem ze_349s {S : zSs} {D n u : Nat} {sh : zk_S} {d : zm_D} {Q : ((Option zv_V) ⊕ Nat) → Nat → zk_S → zm_D → Nat → Prop} {x0 : Int} {x1 : Int} {x2 : Int} {x3 : Int} {x4 : Int} : zE S D 349 [zv_a x0, zv_i x1, zv_i x2, zv_i x3, zv_a x4] n sh d u Q ↔ zB S D 349 zb_349_0 [some (zv_a x0), some (zv_i x1), some (zv_i x2), some (zv_i x3), some (zv_a x4), none] [] n sh d u Q := by
  unfold zE; rw [zn_349, zc_349_0]; exact ⟨fun h => h.2, fun h => ⟨Nat.le_of_ble_eq_true rfl, h⟩⟩
theorem zh_349 : zhl 349 = [(2, (1, 5)), (4, (2, 5))] := by decide +kernel
theorem zx_349_2 {S : zSs} {D n u : Nat} {sh : zk_S} {d : zm_D} {Q : ((Option zv_V) ⊕ Nat) → Nat → zk_S → zm_D → Nat → Prop} {is : List zI} {L : zN} {rest : List zv_V} : zA S D 349 is L rest Q (.inr 2) n sh d u ↔ zJ S D 349 1 (zclr L 5) [] n sh d u Q := by
  unfold zA; simp only [zh_349]; rfl
theorem zx_349_4 {S : zSs} {D n u : Nat} {sh : zk_S} {d : zm_D} {Q : ((Option zv_V) ⊕ Nat) → Nat → zk_S → zm_D → Nat → Prop} {is : List zI} {L : zN} {rest : List zv_V} : zA S D 349 is L rest Q (.inr 4) n sh d u ↔ zJ S D 349 2 (zclr L 5) [] n sh d u Q := by
  unfold zA; simp only [zh_349]; rfl
theorem zc_350_0 : zcd 350 0 = zb_350_0 := by decide +kernel
theorem zj_350_0 {S : zSs} {D n u : Nat} {sh : zk_S} {d : zm_D} {Q : ((Option zv_V) ⊕ Nat) → Nat → zk_S → zm_D → Nat → Prop} {L : zN} {st : List zv_V} : zJ S D 350 0 L st n sh d u Q ↔ zB S D 350 zb_350_0 L st n sh d u Q := by unfold zJ; rw [zc_350_0]
theorem zc_350_1 : zcd 350 1 = zb_350_1 := by decide +kernel
theorem zj_350_1 {S : zSs} {D n u : Nat} {sh : zk_S} {d : zm_D} {Q : ((Option zv_V) ⊕ Nat) → Nat → zk_S → zm_D → Nat → Prop} {L : zN} {st : List zv_V} : zJ S D 350 1 L st n sh d u Q ↔ zB S D 350 zb_350_1 L st n sh d u Q := by unfold zJ; rw [zc_350_1]
theorem zc_350_2 : zcd 350 2 = zb_350_2 := by decide +kernel
theorem zj_350_2 {S : zSs} {D n u : Nat} {sh : zk_S} {d : zm_D} {Q : ((Option zv_V) ⊕ Nat) → Nat → zk_S → zm_D → Nat → Prop} {L : zN} {st : List zv_V} : zJ S D 350 2 L st n sh d u Q ↔ zB S D 350 zb_350_2 L st n sh d u Q := by unfold zJ; rw [zc_350_2]
theorem zn_350 : znl 350 = 4 := by decide +kernel
theorem ze_350 {S : zSs} {D n u : Nat} {sh : zk_S} {d : zm_D} {Q : ((Option zv_V) ⊕ Nat) → Nat → zk_S → zm_D → Nat → Prop} {x0 : Int} {x1 : Int} {x2 : Int} {x3 : Int} : zE S D 350 [zv_a x0, zv_a x1, zv_i x2, zv_a x3] n sh d u Q ↔ zB S D 350 zb_350_0 [some (zv_a x0), some (zv_a x1), some (zv_i x2), some (zv_a x3)] [] n sh d u Q := by
  unfold zE; rw [zn_350, zc_350_0]; exact ⟨fun h => h.2, fun h => ⟨Nat.le_of_ble_eq_true rfl, h⟩⟩
theorem ze_350s {S : zSs} {D n u : Nat} {sh : zk_S} {d : zm_D} {Q : ((Option zv_V) ⊕ Nat) → Nat → zk_S → zm_D → Nat → Prop} {x0 : Int} {x1 : Int} {x2 : Int} : zE S D 350 [zv_a x0, zv_i x1, zv_a x2] n sh d u Q ↔ zB S D 350 zb_350_0 [some (zv_a x0), some (zv_i x1), some (zv_a x2), none] [] n sh d u Q := by
  unfold zE; rw [zn_350, zc_350_0]; exact ⟨fun h => h.2, fun h => ⟨Nat.le_of_ble_eq_true rfl, h⟩⟩
theorem zh_350 : zhl 350 = [(4, (1, 3))] := by decide +kernel
theorem zx_350_4 {S : zSs} {D n u : Nat} {sh : zk_S} {d : zm_D} {Q : ((Option zv_V) ⊕ Nat) → Nat → zk_S → zm_D → Nat → Prop} {is : List zI} {L : zN} {rest : List zv_V} : zA S D 350 is L rest Q (.inr 4) n sh d u ↔ zJ S D 350 1 (zclr L 3) [] n sh d u Q := by
  unfold zA; simp only [zh_350]; rfl
theorem zc_351_0 : zcd 351 0 = zb_351_0 := by decide +kernel
theorem zj_351_0 {S : zSs} {D n u : Nat} {sh : zk_S} {d : zm_D} {Q : ((Option zv_V) ⊕ Nat) → Nat → zk_S → zm_D → Nat → Prop} {L : zN} {st : List zv_V} : zJ S D 351 0 L st n sh d u Q ↔ zB S D 351 zb_351_0 L st n sh d u Q := by unfold zJ; rw [zc_351_0]
theorem zc_351_1 : zcd 351 1 = zb_351_1 := by decide +kernel
theorem zj_351_1 {S : zSs} {D n u : Nat} {sh : zk_S} {d : zm_D} {Q : ((Option zv_V) ⊕ Nat) → Nat → zk_S → zm_D → Nat → Prop} {L : zN} {st : List zv_V} : zJ S D 351 1 L st n sh d u Q ↔ zB S D 351 zb_351_1 L st n sh d u Q := by unfold zJ; rw [zc_351_1]
theorem zc_351_2 : zcd 351 2 = zb_351_2 := by decide +kernel
theorem zj_351_2 {S : zSs} {D n u : Nat} {sh : zk_S} {d : zm_D} {Q : ((Option zv_V) ⊕ Nat) → Nat → zk_S → zm_D → Nat → Prop} {L : zN} {st : List zv_V} : zJ S D 351 2 L st n sh d u Q ↔ zB S D 351 zb_351_2 L st n sh d u Q := by unfold zJ; rw [zc_351_2]
theorem zn_351 : znl 351 = 3 := by decide +kernel
theorem ze_351 {S : zSs} {D n u : Nat} {sh : zk_S} {d : zm_D} {Q : ((Option zv_V) ⊕ Nat) → Nat → zk_S → zm_D → Nat → Prop} {x0 : Int} {x1 : Int} {x2 : Int} : zE S D 351 [zv_a x0, zv_a x1, zv_a x2] n sh d u Q ↔ zB S D 351 zb_351_0 [some (zv_a x0), some (zv_a x1), some (zv_a x2)] [] n sh d u Q := by
  unfold zE; rw [zn_351, zc_351_0]; exact ⟨fun h => h.2, fun h => ⟨Nat.le_of_ble_eq_true rfl, h⟩⟩
theorem ze_351s {S : zSs} {D n u : Nat} {sh : zk_S} {d : zm_D} {Q : ((Option zv_V) ⊕ Nat) → Nat → zk_S → zm_D → Nat → Prop} {x0 : Int} {x1 : Int} : zE S D 351 [zv_a x0, zv_a x1] n sh d u Q ↔ zB S D 351 zb_351_0 [some (zv_a x0), some (zv_a x1), none] [] n sh d u Q := by
  unfold zE; rw [zn_351, zc_351_0]; exact ⟨fun h => h.2, fun h => ⟨Nat.le_of_ble_eq_true rfl, h⟩⟩
theorem zh_351 : zhl 351 = [(1, (1, 2))] := by decide +kernel
theorem zx_351_1 {S : zSs} {D n u : Nat} {sh : zk_S} {d : zm_D} {Q : ((Option zv_V) ⊕ Nat) → Nat → zk_S → zm_D → Nat → Prop} {is : List zI} {L : zN} {rest : List zv_V} : zA S D 351 is L rest Q (.inr 1) n sh d u ↔ zJ S D 351 1 (zclr L 2) [] n sh d u Q := by
  unfold zA; simp only [zh_351]; rfl
theorem zc_352_0 : zcd 352 0 = zb_352_0 := by decide +kernel
theorem zj_352_0 {S : zSs} {D n u : Nat} {sh : zk_S} {d : zm_D} {Q : ((Option zv_V) ⊕ Nat) → Nat → zk_S → zm_D → Nat → Prop} {L : zN} {st : List zv_V} : zJ S D 352 0 L st n sh d u Q ↔ zB S D 352 zb_352_0 L st n sh d u Q := by unfold zJ; rw [zc_352_0]
theorem zc_352_1 : zcd 352 1 = zb_352_1 := by decide +kernel
theorem zj_352_1 {S : zSs} {D n u : Nat} {sh : zk_S} {d : zm_D} {Q : ((Option zv_V) ⊕ Nat) → Nat → zk_S → zm_D → Nat → Prop} {L : zN} {st : List zv_V} : zJ S D 352 1 L st n sh d u Q ↔ zB S D 352 zb_352_1 L st n sh d u Q := by unfold zJ; rw [zc_352_1]
theorem zc_352_2 : zcd 352 2 = zb_352_2 := by decide +kernel
theorem zj_352_2 {S : zSs} {D n u : Nat} {sh : zk_S} {d : zm_D} {Q : ((Option zv_V) ⊕ Nat) → Nat → zk_S → zm_D → Nat → Prop} {L : zN} {st : List zv_V} : zJ S D 352 2 L st n sh d u Q ↔ zB S D 352 zb_352_2 L st n sh d u Q := by unfold zJ; rw [zc_352_2]
theorem zn_352 : znl 352 = 4 := by decide +kernel
theorem ze_352 {S : zSs} {D n u : Nat} {sh : zk_S} {d : zm_D} {Q : ((Option zv_V) ⊕ Nat) → Nat → zk_S → zm_D → Nat → Prop} {x0 : Int} {x1 : Int} {x2 : Int} {x3 : Int} : zE S D 352 [zv_a x0, zv_a x1, zv_i x2, zv_a x3] n sh d u Q ↔ zB S D 352 zb_352_0 [some (zv_a x0), some (zv_a x1), some (zv_i x2), some (zv_a x3)] [] n sh d u Q := by
  unfold zE; rw [zn_352, zc_352_0]; exact ⟨fun h => h.2, fun h => ⟨Nat.le_of_ble_eq_true rfl, h⟩⟩
theorem ze_352s {S : zSs} {D n u : Nat} {sh : zk_S} {d : zm_D} {Q : ((Option zv_V) ⊕ Nat) → Nat → zk_S → zm_D → Nat → Prop} {x0 : Int} {x1 : Int} {x2 : Int} : zE S D 352 [zv_a x0, zv_i x1, zv_a x2] n sh d u Q ↔ zB S D 352 zb_352_0 [some (zv_a x0), some (zv_i x1), some (zv_a x2), none] [] n sh d u Q := by
  unfold zE; rw [zn_352, zc_352_0]; exact ⟨fun h => h.2, fun h => ⟨Nat.le_of_ble_eq_true rfl, h⟩⟩
theorem zh_352 : zhl 352 = [(0, (1, 3))] := by decide +kernel
theorem zx_352_0 {S : zSs} {D n u : Nat} {sh : zk_S} {d : zm_D} {Q : ((Option zv_V) ⊕ Nat) → Nat → zk_S → zm_D → Nat → Prop} {is : List zI} {L : zN} {rest : List zv_V} : zA S D 352 is L rest Q (.inr 0) n sh d u ↔ zJ S D 352 1 (zclr L 3) [] n sh d u Q := by
  unfold zA; simp only [zh_352]; rfl
theorem zc_353_0 : zcd 353 0 = zb_353_0 := by decide +kernel
theorem zj_353_0 {S : zSs} {D n u : Nat} {sh : zk_S} {d : zm_D} {Q : ((Option zv_V) ⊕ Nat) → Nat → zk_S → zm_D → Nat → Prop} {L : zN} {st : List zv_V} : zJ S D 353 0 L st n sh d u Q ↔ zB S D 353 zb_353_0 L st n sh d u Q := by unfold zJ; rw [zc_353_0]
theorem zc_353_1 : zcd 353 1 = zb_353_1 := by decide +kernel
theorem zj_353_1 {S : zSs} {D n u : Nat} {sh : zk_S} {d : zm_D} {Q : ((Option zv_V) ⊕ Nat) → Nat → zk_S → zm_D → Nat → Prop} {L : zN} {st : List zv_V} : zJ S D 353 1 L st n sh d u Q ↔ zB S D 353 zb_353_1 L st n sh d u Q := by unfold zJ; rw [zc_353_1]
theorem zc_353_2 : zcd 353 2 = zb_353_2 := by decide +kernel
theorem zj_353_2 {S : zSs} {D n u : Nat} {sh : zk_S} {d : zm_D} {Q : ((Option zv_V) ⊕ Nat) → Nat → zk_S → zm_D → Nat → Prop} {L : zN} {st : List zv_V} : zJ S D 353 2 L st n sh d u Q ↔ zB S D 353 zb_353_2 L st n sh d u Q := by unfold zJ; rw [zc_353_2]
theorem zc_353_3 : zcd 353 3 = zb_353_3 := by decide +kernel
theorem zj_353_3 {S : zSs} {D n u : Nat} {sh : zk_S} {d : zm_D} {Q : ((Option zv_V) ⊕ Nat) → Nat → zk_S → zm_D → Nat → Prop} {L : zN} {st : List zv_V} : zJ S D 353 3 L st n sh d u Q ↔ zB S D 353 zb_353_3 L st n sh d u Q := by unfold zJ; rw [zc_353_3]
theorem zn_353 : znl 353 = 4 := by decide +kernel
theorem ze_353 {S : zSs} {D n u : Nat} {sh : zk_S} {d : zm_D} {Q : ((Option zv_V) ⊕ Nat) → Nat → zk_S → zm_D → Nat → Prop} {x0 : Int} {x1 : Int} {x2 : Int} {x3 : Int} : zE S D 353 [zv_a x0, zv_a x1, zv_i x2, zv_a x3] n sh d u Q ↔ zB S D 353 zb_353_0 [some (zv_a x0), some (zv_a x1), some (zv_i x2), some (zv_a x3)] [] n sh d u Q := by
  unfold zE; rw [zn_353, zc_353_0]; exact ⟨fun h => h.2, fun h => ⟨Nat.le_of_ble_eq_true rfl, h⟩⟩
theorem ze_353s {S : zSs} {D n u : Nat} {sh : zk_S} {d : zm_D} {Q : ((Option zv_V) ⊕ Nat) → Nat → zk_S → zm_D → Nat → Prop} {x0 : Int} {x1 : Int} {x2 : Int} : zE S D 353 [zv_a x0, zv_i x1, zv_a x2] n sh d u Q ↔ zB S D 353 zb_353_0 [some (zv_a x0), some (zv_i x1), some (zv_a x2), none] [] n sh d u Q := by
  unfold zE; rw [zn_353, zc_353_0]; exact ⟨fun h => h.2, fun h => ⟨Nat.le_of_ble_eq_true rfl, h⟩⟩
theorem zh_353 : zhl 353 = [(0, (1, 3)), (5, (2, 3))] := by decide +kernel
theorem zx_353_0 {S : zSs} {D n u : Nat} {sh : zk_S} {d : zm_D} {Q : ((Option zv_V) ⊕ Nat) → Nat → zk_S → zm_D → Nat → Prop} {is : List zI} {L : zN} {rest : List zv_V} : zA S D 353 is L rest Q (.inr 0) n sh d u ↔ zJ S D 353 1 (zclr L 3) [] n sh d u Q := by
  unfold zA; simp only [zh_353]; rfl
theorem zx_353_5 {S : zSs} {D n u : Nat} {sh : zk_S} {d : zm_D} {Q : ((Option zv_V) ⊕ Nat) → Nat → zk_S → zm_D → Nat → Prop} {is : List zI} {L : zN} {rest : List zv_V} : zA S D 353 is L rest Q (.inr 5) n sh d u ↔ zJ S D 353 2 (zclr L 3) [] n sh d u Q := by
  unfold zA; simp only [zh_353]; rfl
theorem zc_354_0 : zcd 354 0 = zb_354_0 := by decide +kernel
theorem zj_354_0 {S : zSs} {D n u : Nat} {sh : zk_S} {d : zm_D} {Q : ((Option zv_V) ⊕ Nat) → Nat → zk_S → zm_D → Nat → Prop} {L : zN} {st : List zv_V} : zJ S D 354 0 L st n sh d u Q ↔ zB S D 354 zb_354_0 L st n sh d u Q := by unfold zJ; rw [zc_354_0]
theorem zc_354_1 : zcd 354 1 = zb_354_1 := by decide +kernel
theorem zj_354_1 {S : zSs} {D n u : Nat} {sh : zk_S} {d : zm_D} {Q : ((Option zv_V) ⊕ Nat) → Nat → zk_S → zm_D → Nat → Prop} {L : zN} {st : List zv_V} : zJ S D 354 1 L st n sh d u Q ↔ zB S D 354 zb_354_1 L st n sh d u Q := by unfold zJ; rw [zc_354_1]
theorem zc_354_2 : zcd 354 2 = zb_354_2 := by decide +kernel
theorem zj_354_2 {S : zSs} {D n u : Nat} {sh : zk_S} {d : zm_D} {Q : ((Option zv_V) ⊕ Nat) → Nat → zk_S → zm_D → Nat → Prop} {L : zN} {st : List zv_V} : zJ S D 354 2 L st n sh d u Q ↔ zB S D 354 zb_354_2 L st n sh d u Q := by unfold zJ; rw [zc_354_2]
theorem zc_354_3 : zcd 354 3 = zb_354_3 := by decide +kernel
theorem zj_354_3 {S : zSs} {D n u : Nat} {sh : zk_S} {d : zm_D} {Q : ((Option zv_V) ⊕ Nat) → Nat → zk_S → zm_D → Nat → Prop} {L : zN} {st : List zv_V} : zJ S D 354 3 L st n sh d u Q ↔ zB S D 354 zb_354_3 L st n sh d u Q := by unfold zJ; rw [zc_354_3]
theorem zn_354 : znl 354 = 4 := by decide +kernel
theorem ze_354 {S : zSs} {D n u : Nat} {sh : zk_S} {d : zm_D} {Q : ((Option zv_V) ⊕ Nat) → Nat → zk_S → zm_D → Nat → Prop} {x0 : Int} {x1 : Int} {x2 : Int} {x3 : Int} : zE S D 354 [zv_a x0, zv_a x1, zv_i x2, zv_a x3] n sh d u Q ↔ zB S D 354 zb_354_0 [some (zv_a x0), some (zv_a x1), some (zv_i x2), some (zv_a x3)] [] n sh d u Q := by
  unfold zE; rw [zn_354, zc_354_0]; exact ⟨fun h => h.2, fun h => ⟨Nat.le_of_ble_eq_true rfl, h⟩⟩
theorem ze_354s {S : zSs} {D n u : Nat} {sh : zk_S} {d : zm_D} {Q : ((Option zv_V) ⊕ Nat) → Nat → zk_S → zm_D → Nat → Prop} {x0 : Int} {x1 : Int} {x2 : Int} : zE S D 354 [zv_a x0, zv_i x1, zv_a x2] n sh d u Q ↔ zB S D 354 zb_354_0 [some (zv_a x0), some (zv_i x1), some (zv_a x2), none] [] n sh d u Q := by
  unfold zE; rw [zn_354, zc_354_0]; exact ⟨fun h => h.2, fun h => ⟨Nat.le_of_ble_eq_true rfl, h⟩⟩
theorem zh_354 : zhl 354 = [(0, (1, 3)), (5, (2, 3))] := by decide +kernel
theorem zx_354_0 {S : zSs} {D n u : Nat} {sh : zk_S} {d : zm_D} {Q : ((Option zv_V) ⊕ Nat) → Nat → zk_S → zm_D → Nat → Prop} {is : List zI} {L : zN} {rest : List zv_V} : zA S D 354 is L rest Q (.inr 0) n sh d u ↔ zJ S D 354 1 (zclr L 3) [] n sh d u Q := by
  unfold zA; simp only [zh_354]; rfl
theorem zx_354_5 {S : zSs} {D n u : Nat} {sh : zk_S} {d : zm_D} {Q : ((Option zv_V) ⊕ Nat) → Nat → zk_S → zm_D → Nat → Prop} {is : List zI} {L : zN} {rest : List zv_V} : zA S D 354 is L rest Q (.inr 5) n sh d u ↔ zJ S D 354 2 (zclr L 3) [] n sh d u Q := by
  unfold zA; simp only [zh_354]; rfl
theorem zc_355_0 : zcd 355 0 = zb_355_0 := by decide +kernel
theorem zj_355_0 {S : zSs} {D n u : Nat} {sh : zk_S} {d : zm_D} {Q : ((Option zv_V) ⊕ Nat) → Nat → zk_S → zm_D → Nat → Prop} {L : zN} {st : List zv_V} : zJ S D 355 0 L st n sh d u Q ↔ zB S D 355 zb_355_0 L st n sh d u Q := by unfold zJ; rw [zc_355_0]
theorem zc_355_1 : zcd 355 1 = zb_355_1 := by decide +kernel
theorem zj_355_1 {S : zSs} {D n u : Nat} {sh : zk_S} {d : zm_D} {Q : ((Option zv_V) ⊕ Nat) → Nat → zk_S → zm_D → Nat → Prop} {L : zN} {st : List zv_V} : zJ S D 355 1 L st n sh d u Q ↔ zB S D 355 zb_355_1 L st n sh d u Q := by unfold zJ; rw [zc_355_1]
theorem zc_355_2 : zcd 355 2 = zb_355_2 := by decide +kernel
theorem zj_355_2 {S : zSs} {D n u : Nat} {sh : zk_S} {d : zm_D} {Q : ((Option zv_V) ⊕ Nat) → Nat → zk_S → zm_D → Nat → Prop} {L : zN} {st : List zv_V} : zJ S D 355 2 L st n sh d u Q ↔ zB S D 355 zb_355_2 L st n sh d u Q := by unfold zJ; rw [zc_355_2]
theorem zc_355_3 : zcd 355 3 = zb_355_3 := by decide +kernel
theorem zj_355_3 {S : zSs} {D n u : Nat} {sh : zk_S} {d : zm_D} {Q : ((Option zv_V) ⊕ Nat) → Nat → zk_S → zm_D → Nat → Prop} {L : zN} {st : List zv_V} : zJ S D 355 3 L st n sh d u Q ↔ zB S D 355 zb_355_3 L st n sh d u Q := by unfold zJ; rw [zc_355_3]
theorem zn_355 : znl 355 = 4 := by decide +kernel
theorem ze_355 {S : zSs} {D n u : Nat} {sh : zk_S} {d : zm_D} {Q : ((Option zv_V) ⊕ Nat) → Nat → zk_S → zm_D → Nat → Prop} {x0 : Int} {x1 : Int} {x2 : Int} {x3 : Int} : zE S D 355 [zv_a x0, zv_a x1, zv_i x2, zv_a x3] n sh d u Q ↔ zB S D 355 zb_355_0 [some (zv_a x0), some (zv_a x1), some (zv_i x2), some (zv_a x3)] [] n sh d u Q := by
  unfold zE; rw [zn_355, zc_355_0]; exact ⟨fun h => h.2, fun h => ⟨Nat.le_of_ble_eq_true rfl, h⟩⟩
theorem ze_355s {S : zSs} {D n u : Nat} {sh : zk_S} {d : zm_D} {Q : ((Option zv_V) ⊕ Nat) → Nat → zk_S → zm_D → Nat → Prop} {x0 : Int} {x1 : Int} {x2 : Int} : zE S D 355 [zv_a x0, zv_i x1, zv_a x2] n sh d u Q ↔ zB S D 355 zb_355_0 [some (zv_a x0), some (zv_i x1), some (zv_a x2), none] [] n sh d u Q := by
  unfold zE; rw [zn_355, zc_355_0]; exact ⟨fun h => h.2, fun h => ⟨Nat.le_of_ble_eq_true rfl, h⟩⟩
theorem zh_355 : zhl 355 = [(0, (1, 3)), (1, (2, 3))] := by decide +kernel
theorem zx_355_0 {S : zSs} {D n u : Nat} {sh : zk_S} {d : zm_D} {Q : ((Option zv_V) ⊕ Nat) → Nat → zk_S → zm_D → Nat → Prop} {is : List zI} {L : zN} {rest : List zv_V} : zA S D 355 is L rest Q (.inr 0) n sh d u ↔ zJ S D 355 1 (zclr L 3) [] n sh d u Q := by
  unfold zA; simp only [zh_355]; rfl
theorem zx_355_1 {S : zSs} {D n u : Nat} {sh : zk_S} {d : zm_D} {Q : ((Option zv_V) ⊕ Nat) → Nat → zk_S → zm_D → Nat → Prop} {is : List zI} {L : zN} {rest : List zv_V} : zA S D 355 is L rest Q (.inr 1) n sh d u ↔ zJ S D 355 2 (zclr L 3) [] n sh d u Q := by
  unfold zA; simp only [zh_355]; rfl
theorem zc_356_0 : zcd 356 0 = zb_356_0 := by decide +kernel
theorem zj_356_0 {S : zSs} {D n u : Nat} {sh : zk_S} {d : zm_D} {Q : ((Option zv_V) ⊕ Nat) → Nat → zk_S → zm_D → Nat → Prop} {L : zN} {st : List zv_V} : zJ S D 356 0 L st n sh d u Q ↔ zB S D 356 zb_356_0 L st n sh d u Q := by unfold zJ; rw [zc_356_0]
theorem zc_356_1 : zcd 356 1 = zb_356_1 := by decide +kernel
theorem zj_356_1 {S : zSs} {D n u : Nat} {sh : zk_S} {d : zm_D} {Q : ((Option zv_V) ⊕ Nat) → Nat → zk_S → zm_D → Nat → Prop} {L : zN} {st : List zv_V} : zJ S D 356 1 L st n sh d u Q ↔ zB S D 356 zb_356_1 L st n sh d u Q := by unfold zJ; rw [zc_356_1]
theorem zc_356_2 : zcd 356 2 = zb_356_2 := by decide +kernel
theorem zj_356_2 {S : zSs} {D n u : Nat} {sh : zk_S} {d : zm_D} {Q : ((Option zv_V) ⊕ Nat) → Nat → zk_S → zm_D → Nat → Prop} {L : zN} {st : List zv_V} : zJ S D 356 2 L st n sh d u Q ↔ zB S D 356 zb_356_2 L st n sh d u Q := by unfold zJ; rw [zc_356_2]
theorem zn_356 : znl 356 = 5 := by decide +kernel
theorem ze_356 {S : zSs} {D n u : Nat} {sh : zk_S} {d : zm_D} {Q : ((Option zv_V) ⊕ Nat) → Nat → zk_S → zm_D → Nat → Prop} {x0 : Int} {x1 : Int} {x2 : Int} {x3 : Int} {x4 : Int} : zE S D 356 [zv_a x0, zv_a x1, zv_i x2, zv_i x3, zv_a x4] n sh d u Q ↔ zB S D 356 zb_356_0 [some (zv_a x0), some (zv_a x1), some (zv_i x2), some (zv_i x3), some (zv_a x4)] [] n sh d u Q := by
  unfold zE; rw [zn_356, zc_356_0]; exact ⟨fun h => h.2, fun h => ⟨Nat.le_of_ble_eq_true rfl, h⟩⟩
theorem ze_356s {S : zSs} {D n u : Nat} {sh : zk_S} {d : zm_D} {Q : ((Option zv_V) ⊕ Nat) → Nat → zk_S → zm_D → Nat → Prop} {x0 : Int} {x1 : Int} {x2 : Int} {x3 : Int} : zE S D 356 [zv_a x0, zv_i x1, zv_i x2, zv_a x3] n sh d u Q ↔ zB S D 356 zb_356_0 [some (zv_a x0), some (zv_i x1), some (zv_i x2), some (zv_a x3), none] [] n sh d u Q := by
  unfold zE; rw [zn_356, zc_356_0]; exact ⟨fun h => h.2, fun h => ⟨Nat.le_of_ble_eq_true rfl, h⟩⟩
theorem zh_356 : zhl 356 = [(0, (1, 4))] := by decide +kernel
theorem zx_356_0 {S : zSs} {D n u : Nat} {sh : zk_S} {d : zm_D} {Q : ((Option zv_V) ⊕ Nat) → Nat → zk_S → zm_D → Nat → Prop} {is : List zI} {L : zN} {rest : List zv_V} : zA S D 356 is L rest Q (.inr 0) n sh d u ↔ zJ S D 356 1 (zclr L 4) [] n sh d u Q := by
  unfold zA; simp only [zh_356]; rfl
theorem zc_357_0 : zcd 357 0 = zb_357_0 := by decide +kernel
theorem zj_357_0 {S : zSs} {D n u : Nat} {sh : zk_S} {d : zm_D} {Q : ((Option zv_V) ⊕ Nat) → Nat → zk_S → zm_D → Nat → Prop} {L : zN} {st : List zv_V} : zJ S D 357 0 L st n sh d u Q ↔ zB S D 357 zb_357_0 L st n sh d u Q := by unfold zJ; rw [zc_357_0]
theorem zc_357_1 : zcd 357 1 = zb_357_1 := by decide +kernel
theorem zj_357_1 {S : zSs} {D n u : Nat} {sh : zk_S} {d : zm_D} {Q : ((Option zv_V) ⊕ Nat) → Nat → zk_S → zm_D → Nat → Prop} {L : zN} {st : List zv_V} : zJ S D 357 1 L st n sh d u Q ↔ zB S D 357 zb_357_1 L st n sh d u Q := by unfold zJ; rw [zc_357_1]
theorem zc_357_2 : zcd 357 2 = zb_357_2 := by decide +kernel
theorem zj_357_2 {S : zSs} {D n u : Nat} {sh : zk_S} {d : zm_D} {Q : ((Option zv_V) ⊕ Nat) → Nat → zk_S → zm_D → Nat → Prop} {L : zN} {st : List zv_V} : zJ S D 357 2 L st n sh d u Q ↔ zB S D 357 zb_357_2 L st n sh d u Q := by unfold zJ; rw [zc_357_2]
theorem zn_357 : znl 357 = 3 := by decide +kernel
theorem ze_357 {S : zSs} {D n u : Nat} {sh : zk_S} {d : zm_D} {Q : ((Option zv_V) ⊕ Nat) → Nat → zk_S → zm_D → Nat → Prop} {x0 : Int} {x1 : Int} {x2 : Int} : zE S D 357 [zv_a x0, zv_a x1, zv_a x2] n sh d u Q ↔ zB S D 357 zb_357_0 [some (zv_a x0), some (zv_a x1), some (zv_a x2)] [] n sh d u Q := by
  unfold zE; rw [zn_357, zc_357_0]; exact ⟨fun h => h.2, fun h => ⟨Nat.le_of_ble_eq_true rfl, h⟩⟩
theorem ze_357s {S : zSs} {D n u : Nat} {sh : zk_S} {d : zm_D} {Q : ((Option zv_V) ⊕ Nat) → Nat → zk_S → zm_D → Nat → Prop} {x0 : Int} {x1 : Int} : zE S D 357 [zv_a x0, zv_a x1] n sh d u Q ↔ zB S D 357 zb_357_0 [some (zv_a x0), some (zv_a x1), none] [] n sh d u Q := by
  unfold zE; rw [zn_357, zc_357_0]; exact ⟨fun h => h.2, fun h => ⟨Nat.le_of_ble_eq_true rfl, h⟩⟩
theorem zh_357 : zhl 357 = [(5, (1, 2))] := by decide +kernel
theorem zx_357_5 {S : zSs} {D n u : Nat} {sh : zk_S} {d : zm_D} {Q : ((Option zv_V) ⊕ Nat) → Nat → zk_S → zm_D → Nat → Prop} {is : List zI} {L : zN} {rest : List zv_V} : zA S D 357 is L rest Q (.inr 5) n sh d u ↔ zJ S D 357 1 (zclr L 2) [] n sh d u Q := by
  unfold zA; simp only [zh_357]; rfl
theorem zc_358_0 : zcd 358 0 = zb_358_0 := by decide +kernel
theorem zj_358_0 {S : zSs} {D n u : Nat} {sh : zk_S} {d : zm_D} {Q : ((Option zv_V) ⊕ Nat) → Nat → zk_S → zm_D → Nat → Prop} {L : zN} {st : List zv_V} : zJ S D 358 0 L st n sh d u Q ↔ zB S D 358 zb_358_0 L st n sh d u Q := by unfold zJ; rw [zc_358_0]
theorem zc_358_1 : zcd 358 1 = zb_358_1 := by decide +kernel
theorem zj_358_1 {S : zSs} {D n u : Nat} {sh : zk_S} {d : zm_D} {Q : ((Option zv_V) ⊕ Nat) → Nat → zk_S → zm_D → Nat → Prop} {L : zN} {st : List zv_V} : zJ S D 358 1 L st n sh d u Q ↔ zB S D 358 zb_358_1 L st n sh d u Q := by unfold zJ; rw [zc_358_1]
theorem zc_358_2 : zcd 358 2 = zb_358_2 := by decide +kernel
theorem zj_358_2 {S : zSs} {D n u : Nat} {sh : zk_S} {d : zm_D} {Q : ((Option zv_V) ⊕ Nat) → Nat → zk_S → zm_D → Nat → Prop} {L : zN} {st : List zv_V} : zJ S D 358 2 L st n sh d u Q ↔ zB S D 358 zb_358_2 L st n sh d u Q := by unfold zJ; rw [zc_358_2]
theorem zc_358_3 : zcd 358 3 = zb_358_3 := by decide +kernel
theorem zj_358_3 {S : zSs} {D n u : Nat} {sh : zk_S} {d : zm_D} {Q : ((Option zv_V) ⊕ Nat) → Nat → zk_S → zm_D → Nat → Prop} {L : zN} {st : List zv_V} : zJ S D 358 3 L st n sh d u Q ↔ zB S D 358 zb_358_3 L st n sh d u Q := by unfold zJ; rw [zc_358_3]
theorem zc_358_4 : zcd 358 4 = zb_358_4 := by decide +kernel
theorem zj_358_4 {S : zSs} {D n u : Nat} {sh : zk_S} {d : zm_D} {Q : ((Option zv_V) ⊕ Nat) → Nat → zk_S → zm_D → Nat → Prop} {L : zN} {st : List zv_V} : zJ S D 358 4 L st n sh d u Q ↔ zB S D 358 zb_358_4 L st n sh d u Q := by unfold zJ; rw [zc_358_4]
theorem zn_358 : znl 358 = 4 := by decide +kernel
theorem ze_358 {S : zSs} {D n u : Nat} {sh : zk_S} {d : zm_D} {Q : ((Option zv_V) ⊕ Nat) → Nat → zk_S → zm_D → Nat → Prop} {x0 : Int} {x1 : Int} {x2 : Int} {x3 : Int} : zE S D 358 [zv_a x0, zv_a x1, zv_i x2, zv_a x3] n sh d u Q ↔ zB S D 358 zb_358_0 [some (zv_a x0), some (zv_a x1), some (zv_i x2), some (zv_a x3)] [] n sh d u Q := by
  unfold zE; rw [zn_358, zc_358_0]; exact ⟨fun h => h.2, fun h => ⟨Nat.le_of_ble_eq_true rfl, h⟩⟩
theorem ze_358s {S : zSs} {D n u : Nat} {sh : zk_S} {d : zm_D} {Q : ((Option zv_V) ⊕ Nat) → Nat → zk_S → zm_D → Nat → Prop} {x0 : Int} {x1 : Int} {x2 : Int} : zE S D 358 [zv_a x0, zv_i x1, zv_a x2] n sh d u Q ↔ zB S D 358 zb_358_0 [some (zv_a x0), some (zv_i x1), some (zv_a x2), none] [] n sh d u Q := by
  unfold zE; rw [zn_358, zc_358_0]; exact ⟨fun h => h.2, fun h => ⟨Nat.le_of_ble_eq_true rfl, h⟩⟩
theorem zh_358 : zhl 358 = [(2, (3, 3))] := by decide +kernel
theorem zx_358_2 {S : zSs} {D n u : Nat} {sh : zk_S} {d : zm_D} {Q : ((Option zv_V) ⊕ Nat) → Nat → zk_S → zm_D → Nat → Prop} {is : List zI} {L : zN} {rest : List zv_V} : zA S D 358 is L rest Q (.inr 2) n sh d u ↔ zJ S D 358 3 (zclr L 3) [] n sh d u Q := by
  unfold zA; simp only [zh_358]; rfl
theorem zc_359_0 : zcd 359 0 = zb_359_0 := by decide +kernel
theorem zj_359_0 {S : zSs} {D n u : Nat} {sh : zk_S} {d : zm_D} {Q : ((Option zv_V) ⊕ Nat) → Nat → zk_S → zm_D → Nat → Prop} {L : zN} {st : List zv_V} : zJ S D 359 0 L st n sh d u Q ↔ zB S D 359 zb_359_0 L st n sh d u Q := by unfold zJ; rw [zc_359_0]
theorem zc_359_1 : zcd 359 1 = zb_359_1 := by decide +kernel
theorem zj_359_1 {S : zSs} {D n u : Nat} {sh : zk_S} {d : zm_D} {Q : ((Option zv_V) ⊕ Nat) → Nat → zk_S → zm_D → Nat → Prop} {L : zN} {st : List zv_V} : zJ S D 359 1 L st n sh d u Q ↔ zB S D 359 zb_359_1 L st n sh d u Q := by unfold zJ; rw [zc_359_1]
theorem zc_359_2 : zcd 359 2 = zb_359_2 := by decide +kernel
theorem zj_359_2 {S : zSs} {D n u : Nat} {sh : zk_S} {d : zm_D} {Q : ((Option zv_V) ⊕ Nat) → Nat → zk_S → zm_D → Nat → Prop} {L : zN} {st : List zv_V} : zJ S D 359 2 L st n sh d u Q ↔ zB S D 359 zb_359_2 L st n sh d u Q := by unfold zJ; rw [zc_359_2]
theorem zc_359_3 : zcd 359 3 = zb_359_3 := by decide +kernel
theorem zj_359_3 {S : zSs} {D n u : Nat} {sh : zk_S} {d : zm_D} {Q : ((Option zv_V) ⊕ Nat) → Nat → zk_S → zm_D → Nat → Prop} {L : zN} {st : List zv_V} : zJ S D 359 3 L st n sh d u Q ↔ zB S D 359 zb_359_3 L st n sh d u Q := by unfold zJ; rw [zc_359_3]
theorem zc_359_4 : zcd 359 4 = zb_359_4 := by decide +kernel
theorem zj_359_4 {S : zSs} {D n u : Nat} {sh : zk_S} {d : zm_D} {Q : ((Option zv_V) ⊕ Nat) → Nat → zk_S → zm_D → Nat → Prop} {L : zN} {st : List zv_V} : zJ S D 359 4 L st n sh d u Q ↔ zB S D 359 zb_359_4 L st n sh d u Q := by unfold zJ; rw [zc_359_4]
theorem zc_359_5 : zcd 359 5 = zb_359_5 := by decide +kernel
theorem zj_359_5 {S : zSs} {D n u : Nat} {sh : zk_S} {d : zm_D} {Q : ((Option zv_V) ⊕ Nat) → Nat → zk_S → zm_D → Nat → Prop} {L : zN} {st : List zv_V} : zJ S D 359 5 L st n sh d u Q ↔ zB S D 359 zb_359_5 L st n sh d u Q := by unfold zJ; rw [zc_359_5]
theorem zn_359 : znl 359 = 7 := by decide +kernel
theorem ze_359 {S : zSs} {D n u : Nat} {sh : zk_S} {d : zm_D} {Q : ((Option zv_V) ⊕ Nat) → Nat → zk_S → zm_D → Nat → Prop} {x0 : Int} {x1 : Int} {x2 : Int} {x3 : Int} {x4 : Int} {x5 : Int} {x6 : Int} : zE S D 359 [zv_a x0, zv_a x1, zv_i x2, zv_i x3, zv_i x4, zv_i x5, zv_a x6] n sh d u Q ↔ zB S D 359 zb_359_0 [some (zv_a x0), some (zv_a x1), some (zv_i x2), some (zv_i x3), some (zv_i x4), some (zv_i x5), some (zv_a x6)] [] n sh d u Q := by
  unfold zE; rw [zn_359, zc_359_0]; exact ⟨fun h => h.2, fun h => ⟨Nat.le_of_ble_eq_true rfl, h⟩⟩
theorem ze_359s {S : zSs} {D n u : Nat} {sh : zk_S} {d : zm_D} {Q : ((Option zv_V) ⊕ Nat) → Nat → zk_S → zm_D → Nat → Prop} {x0 : Int} {x1 : Int} {x2 : Int} {x3 : Int} {x4 : Int} {x5 : Int} : zE S D 359 [zv_a x0, zv_i x1, zv_i x2, zv_i x3, zv_i x4, zv_a x5] n sh d u Q ↔ zB S D 359 zb_359_0 [some (zv_a x0), some (zv_i x1), some (zv_i x2), some (zv_i x3), some (zv_i x4), some (zv_a x5), none] [] n sh d u Q := by
  unfold zE; rw [zn_359, zc_359_0]; exact ⟨fun h => h.2, fun h => ⟨Nat.le_of_ble_eq_true rfl, h⟩⟩
theorem zh_359 : zhl 359 = [(2, (1, 6)), (0, (2, 6)), (3, (3, 6)), (1, (4, 6))] := by decide +kernel
theorem zx_359_2 {S : zSs} {D n u : Nat} {sh : zk_S} {d : zm_D} {Q : ((Option zv_V) ⊕ Nat) → Nat → zk_S → zm_D → Nat → Prop} {is : List zI} {L : zN} {rest : List zv_V} : zA S D 359 is L rest Q (.inr 2) n sh d u ↔ zJ S D 359 1 (zclr L 6) [] n sh d u Q := by
  unfold zA; simp only [zh_359]; rfl
theorem zx_359_0 {S : zSs} {D n u : Nat} {sh : zk_S} {d : zm_D} {Q : ((Option zv_V) ⊕ Nat) → Nat → zk_S → zm_D → Nat → Prop} {is : List zI} {L : zN} {rest : List zv_V} : zA S D 359 is L rest Q (.inr 0) n sh d u ↔ zJ S D 359 2 (zclr L 6) [] n sh d u Q := by
  unfold zA; simp only [zh_359]; rfl
theorem zx_359_3 {S : zSs} {D n u : Nat} {sh : zk_S} {d : zm_D} {Q : ((Option zv_V) ⊕ Nat) → Nat → zk_S → zm_D → Nat → Prop} {is : List zI} {L : zN} {rest : List zv_V} : zA S D 359 is L rest Q (.inr 3) n sh d u ↔ zJ S D 359 3 (zclr L 6) [] n sh d u Q := by
  unfold zA; simp only [zh_359]; rfl
theorem zx_359_1 {S : zSs} {D n u : Nat} {sh : zk_S} {d : zm_D} {Q : ((Option zv_V) ⊕ Nat) → Nat → zk_S → zm_D → Nat → Prop} {is : List zI} {L : zN} {rest : List zv_V} : zA S D 359 is L rest Q (.inr 1) n sh d u ↔ zJ S D 359 4 (zclr L 6) [] n sh d u Q := by
  unfold zA; simp only [zh_359]; rfl
theorem zc_360_0 : zcd 360 0 = zb_360_0 := by decide +kernel
theorem zj_360_0 {S : zSs} {D n u : Nat} {sh : zk_S} {d : zm_D} {Q : ((Option zv_V) ⊕ Nat) → Nat → zk_S → zm_D → Nat → Prop} {L : zN} {st : List zv_V} : zJ S D 360 0 L st n sh d u Q ↔ zB S D 360 zb_360_0 L st n sh d u Q := by unfold zJ; rw [zc_360_0]
theorem zc_360_1 : zcd 360 1 = zb_360_1 := by decide +kernel
theorem zj_360_1 {S : zSs} {D n u : Nat} {sh : zk_S} {d : zm_D} {Q : ((Option zv_V) ⊕ Nat) → Nat → zk_S → zm_D → Nat → Prop} {L : zN} {st : List zv_V} : zJ S D 360 1 L st n sh d u Q ↔ zB S D 360 zb_360_1 L st n sh d u Q := by unfold zJ; rw [zc_360_1]
theorem zc_360_2 : zcd 360 2 = zb_360_2 := by decide +kernel
theorem zj_360_2 {S : zSs} {D n u : Nat} {sh : zk_S} {d : zm_D} {Q : ((Option zv_V) ⊕ Nat) → Nat → zk_S → zm_D → Nat → Prop} {L : zN} {st : List zv_V} : zJ S D 360 2 L st n sh d u Q ↔ zB S D 360 zb_360_2 L st n sh d u Q := by unfold zJ; rw [zc_360_2]
theorem zn_360 : znl 360 = 4 := by decide +kernel
theorem ze_360 {S : zSs} {D n u : Nat} {sh : zk_S} {d : zm_D} {Q : ((Option zv_V) ⊕ Nat) → Nat → zk_S → zm_D → Nat → Prop} {x0 : Int} {x1 : Int} {x2 : Int} {x3 : Int} : zE S D 360 [zv_a x0, zv_a x1, zv_i x2, zv_a x3] n sh d u Q ↔ zB S D 360 zb_360_0 [some (zv_a x0), some (zv_a x1), some (zv_i x2), some (zv_a x3)] [] n sh d u Q := by
  unfold zE; rw [zn_360, zc_360_0]; exact ⟨fun h => h.2, fun h => ⟨Nat.le_of_ble_eq_true rfl, h⟩⟩
theorem ze_360s {S : zSs} {D n u : Nat} {sh : zk_S} {d : zm_D} {Q : ((Option zv_V) ⊕ Nat) → Nat → zk_S → zm_D → Nat → Prop} {x0 : Int} {x1 : Int} {x2 : Int} : zE S D 360 [zv_a x0, zv_i x1, zv_a x2] n sh d u Q ↔ zB S D 360 zb_360_0 [some (zv_a x0), some (zv_i x1), some (zv_a x2), none] [] n sh d u Q := by
  unfold zE; rw [zn_360, zc_360_0]; exact ⟨fun h => h.2, fun h => ⟨Nat.le_of_ble_eq_true rfl, h⟩⟩
theorem zh_360 : zhl 360 = [(0, (1, 3))] := by decide +kernel
theorem zx_360_0 {S : zSs} {D n u : Nat} {sh : zk_S} {d : zm_D} {Q : ((Option zv_V) ⊕ Nat) → Nat → zk_S → zm_D → Nat → Prop} {is : List zI} {L : zN} {rest : List zv_V} : zA S D 360 is L rest Q (.inr 0) n sh d u ↔ zJ S D 360 1 (zclr L 3) [] n sh d u Q := by
  unfold zA; simp only [zh_360]; rfl
theorem zc_361_0 : zcd 361 0 = zb_361_0 := by decide +kernel
theorem zj_361_0 {S : zSs} {D n u : Nat} {sh : zk_S} {d : zm_D} {Q : ((Option zv_V) ⊕ Nat) → Nat → zk_S → zm_D → Nat → Prop} {L : zN} {st : List zv_V} : zJ S D 361 0 L st n sh d u Q ↔ zB S D 361 zb_361_0 L st n sh d u Q := by unfold zJ; rw [zc_361_0]
theorem zc_361_1 : zcd 361 1 = zb_361_1 := by decide +kernel
theorem zj_361_1 {S : zSs} {D n u : Nat} {sh : zk_S} {d : zm_D} {Q : ((Option zv_V) ⊕ Nat) → Nat → zk_S → zm_D → Nat → Prop} {L : zN} {st : List zv_V} : zJ S D 361 1 L st n sh d u Q ↔ zB S D 361 zb_361_1 L st n sh d u Q := by unfold zJ; rw [zc_361_1]
theorem zc_361_2 : zcd 361 2 = zb_361_2 := by decide +kernel
theorem zj_361_2 {S : zSs} {D n u : Nat} {sh : zk_S} {d : zm_D} {Q : ((Option zv_V) ⊕ Nat) → Nat → zk_S → zm_D → Nat → Prop} {L : zN} {st : List zv_V} : zJ S D 361 2 L st n sh d u Q ↔ zB S D 361 zb_361_2 L st n sh d u Q := by unfold zJ; rw [zc_361_2]
theorem zc_361_3 : zcd 361 3 = zb_361_3 := by decide +kernel
theorem zj_361_3 {S : zSs} {D n u : Nat} {sh : zk_S} {d : zm_D} {Q : ((Option zv_V) ⊕ Nat) → Nat → zk_S → zm_D → Nat → Prop} {L : zN} {st : List zv_V} : zJ S D 361 3 L st n sh d u Q ↔ zB S D 361 zb_361_3 L st n sh d u Q := by unfold zJ; rw [zc_361_3]
theorem zc_361_4 : zcd 361 4 = zb_361_4 := by decide +kernel
theorem zj_361_4 {S : zSs} {D n u : Nat} {sh : zk_S} {d : zm_D} {Q : ((Option zv_V) ⊕ Nat) → Nat → zk_S → zm_D → Nat → Prop} {L : zN} {st : List zv_V} : zJ S D 361 4 L st n sh d u Q ↔ zB S D 361 zb_361_4 L st n sh d u Q := by unfold zJ; rw [zc_361_4]
theorem zn_361 : znl 361 = 5 := by decide +kernel
theorem ze_361 {S : zSs} {D n u : Nat} {sh : zk_S} {d : zm_D} {Q : ((Option zv_V) ⊕ Nat) → Nat → zk_S → zm_D → Nat → Prop} {x0 : Int} {x1 : Int} {x2 : Int} {x3 : Int} {x4 : Int} : zE S D 361 [zv_a x0, zv_a x1, zv_i x2, zv_i x3, zv_a x4] n sh d u Q ↔ zB S D 361 zb_361_0 [some (zv_a x0), some (zv_a x1), some (zv_i x2), some (zv_i x3), some (zv_a x4)] [] n sh d u Q := by
  unfold zE; rw [zn_361, zc_361_0]; exact ⟨fun h => h.2, fun h => ⟨Nat.le_of_ble_eq_true rfl, h⟩⟩
theorem ze_361s {S : zSs} {D n u : Nat} {sh : zk_S} {d : zm_D} {Q : ((Option zv_V) ⊕ Nat) → Nat → zk_S → zm_D → Nat → Prop} {x0 : Int} {x1 : Int} {x2 : Int} {x3 : Int} : zE S D 361 [zv_a x0, zv_i x1, zv_i x2, zv_a x3] n sh d u Q ↔ zB S D 361 zb_361_0 [some (zv_a x0), some (zv_i x1), some (zv_i x2), some (zv_a x3), none] [] n sh d u Q := by
  unfold zE; rw [zn_361, zc_361_0]; exact ⟨fun h => h.2, fun h => ⟨Nat.le_of_ble_eq_true rfl, h⟩⟩
theorem zh_361 : zhl 361 = [(2, (1, 4)), (0, (2, 4)), (1, (3, 4))] := by decide +kernel
theorem zx_361_2 {S : zSs} {D n u : Nat} {sh : zk_S} {d : zm_D} {Q : ((Option zv_V) ⊕ Nat) → Nat → zk_S → zm_D → Nat → Prop} {is : List zI} {L : zN} {rest : List zv_V} : zA S D 361 is L rest Q (.inr 2) n sh d u ↔ zJ S D 361 1 (zclr L 4) [] n sh d u Q := by
  unfold zA; simp only [zh_361]; rfl
theorem zx_361_0 {S : zSs} {D n u : Nat} {sh : zk_S} {d : zm_D} {Q : ((Option zv_V) ⊕ Nat) → Nat → zk_S → zm_D → Nat → Prop} {is : List zI} {L : zN} {rest : List zv_V} : zA S D 361 is L rest Q (.inr 0) n sh d u ↔ zJ S D 361 2 (zclr L 4) [] n sh d u Q := by
  unfold zA; simp only [zh_361]; rfl
theorem zx_361_1 {S : zSs} {D n u : Nat} {sh : zk_S} {d : zm_D} {Q : ((Option zv_V) ⊕ Nat) → Nat → zk_S → zm_D → Nat → Prop} {is : List zI} {L : zN} {rest : List zv_V} : zA S D 361 is L rest Q (.inr 1) n sh d u ↔ zJ S D 361 3 (zclr L 4) [] n sh d u Q := by
  unfold zA; simp only [zh_361]; rfl
theorem zc_362_0 : zcd 362 0 = zb_362_0 := by decide +kernel
theorem zj_362_0 {S : zSs} {D n u : Nat} {sh : zk_S} {d : zm_D} {Q : ((Option zv_V) ⊕ Nat) → Nat → zk_S → zm_D → Nat → Prop} {L : zN} {st : List zv_V} : zJ S D 362 0 L st n sh d u Q ↔ zB S D 362 zb_362_0 L st n sh d u Q := by unfold zJ; rw [zc_362_0]
theorem zc_362_1 : zcd 362 1 = zb_362_1 := by decide +kernel
theorem zj_362_1 {S : zSs} {D n u : Nat} {sh : zk_S} {d : zm_D} {Q : ((Option zv_V) ⊕ Nat) → Nat → zk_S → zm_D → Nat → Prop} {L : zN} {st : List zv_V} : zJ S D 362 1 L st n sh d u Q ↔ zB S D 362 zb_362_1 L st n sh d u Q := by unfold zJ; rw [zc_362_1]
theorem zc_362_2 : zcd 362 2 = zb_362_2 := by decide +kernel
theorem zj_362_2 {S : zSs} {D n u : Nat} {sh : zk_S} {d : zm_D} {Q : ((Option zv_V) ⊕ Nat) → Nat → zk_S → zm_D → Nat → Prop} {L : zN} {st : List zv_V} : zJ S D 362 2 L st n sh d u Q ↔ zB S D 362 zb_362_2 L st n sh d u Q := by unfold zJ; rw [zc_362_2]
theorem zc_362_3 : zcd 362 3 = zb_362_3 := by decide +kernel
theorem zj_362_3 {S : zSs} {D n u : Nat} {sh : zk_S} {d : zm_D} {Q : ((Option zv_V) ⊕ Nat) → Nat → zk_S → zm_D → Nat → Prop} {L : zN} {st : List zv_V} : zJ S D 362 3 L st n sh d u Q ↔ zB S D 362 zb_362_3 L st n sh d u Q := by unfold zJ; rw [zc_362_3]
theorem zn_362 : znl 362 = 5 := by decide +kernel
theorem ze_362 {S : zSs} {D n u : Nat} {sh : zk_S} {d : zm_D} {Q : ((Option zv_V) ⊕ Nat) → Nat → zk_S → zm_D → Nat → Prop} {x0 : Int} {x1 : Int} {x2 : Int} {x3 : Int} {x4 : Int} : zE S D 362 [zv_a x0, zv_a x1, zv_i x2, zv_i x3, zv_a x4] n sh d u Q ↔ zB S D 362 zb_362_0 [some (zv_a x0), some (zv_a x1), some (zv_i x2), some (zv_i x3), some (zv_a x4)] [] n sh d u Q := by
  unfold zE; rw [zn_362, zc_362_0]; exact ⟨fun h => h.2, fun h => ⟨Nat.le_of_ble_eq_true rfl, h⟩⟩
theorem ze_362s {S : zSs} {D n u : Nat} {sh : zk_S} {d : zm_D} {Q : ((Option zv_V) ⊕ Nat) → Nat → zk_S → zm_D → Nat → Prop} {x0 : Int} {x1 : Int} {x2 : Int} {x3 : Int} : zE S D 362 [zv_a x0, zv_i x1, zv_i x2, zv_a x3] n sh d u Q ↔ zB S D 362 zb_362_0 [some (zv_a x0), some (zv_i x1), some (zv_i x2), some (zv_a x3), none] [] n sh d u Q := by
  unfold zE; rw [zn_362, zc_362_0]; exact ⟨fun h => h.2, fun h => ⟨Nat.le_of_ble_eq_true rfl, h⟩⟩
theorem zh_362 : zhl 362 = [(0, (1, 4)), (1, (2, 4))] := by decide +kernel
theorem zx_362_0 {S : zSs} {D n u : Nat} {sh : zk_S} {d : zm_D} {Q : ((Option zv_V) ⊕ Nat) → Nat → zk_S → zm_D → Nat → Prop} {is : List zI} {L : zN} {rest : List zv_V} : zA S D 362 is L rest Q (.inr 0) n sh d u ↔ zJ S D 362 1 (zclr L 4) [] n sh d u Q := by
  unfold zA; simp only [zh_362]; rfl
theorem zx_362_1 {S : zSs} {D n u : Nat} {sh : zk_S} {d : zm_D} {Q : ((Option zv_V) ⊕ Nat) → Nat → zk_S → zm_D → Nat → Prop} {is : List zI} {L : zN} {rest : List zv_V} : zA S D 362 is L rest Q (.inr 1) n sh d u ↔ zJ S D 362 2 (zclr L 4) [] n sh d u Q := by
  unfold zA; simp only [zh_362]; rfl
theorem zc_363_0 : zcd 363 0 = zb_363_0 := by decide +kernel
theorem zj_363_0 {S : zSs} {D n u : Nat} {sh : zk_S} {d : zm_D} {Q : ((Option zv_V) ⊕ Nat) → Nat → zk_S → zm_D → Nat → Prop} {L : zN} {st : List zv_V} : zJ S D 363 0 L st n sh d u Q ↔ zB S D 363 zb_363_0 L st n sh d u Q := by unfold zJ; rw [zc_363_0]
theorem zc_363_1 : zcd 363 1 = zb_363_1 := by decide +kernel
theorem zj_363_1 {S : zSs} {D n u : Nat} {sh : zk_S} {d : zm_D} {Q : ((Option zv_V) ⊕ Nat) → Nat → zk_S → zm_D → Nat → Prop} {L : zN} {st : List zv_V} : zJ S D 363 1 L st n sh d u Q ↔ zB S D 363 zb_363_1 L st n sh d u Q := by unfold zJ; rw [zc_363_1]
theorem zc_363_2 : zcd 363 2 = zb_363_2 := by decide +kernel
theorem zj_363_2 {S : zSs} {D n u : Nat} {sh : zk_S} {d : zm_D} {Q : ((Option zv_V) ⊕ Nat) → Nat → zk_S → zm_D → Nat → Prop} {L : zN} {st : List zv_V} : zJ S D 363 2 L st n sh d u Q ↔ zB S D 363 zb_363_2 L st n sh d u Q := by unfold zJ; rw [zc_363_2]
theorem zc_363_3 : zcd 363 3 = zb_363_3 := by decide +kernel
theorem zj_363_3 {S : zSs} {D n u : Nat} {sh : zk_S} {d : zm_D} {Q : ((Option zv_V) ⊕ Nat) → Nat → zk_S → zm_D → Nat → Prop} {L : zN} {st : List zv_V} : zJ S D 363 3 L st n sh d u Q ↔ zB S D 363 zb_363_3 L st n sh d u Q := by unfold zJ; rw [zc_363_3]
theorem zn_363 : znl 363 = 4 := by decide +kernel
theorem ze_363 {S : zSs} {D n u : Nat} {sh : zk_S} {d : zm_D} {Q : ((Option zv_V) ⊕ Nat) → Nat → zk_S → zm_D → Nat → Prop} {x0 : Int} {x1 : Int} {x2 : Int} {x3 : Int} : zE S D 363 [zv_a x0, zv_a x1, zv_i x2, zv_a x3] n sh d u Q ↔ zB S D 363 zb_363_0 [some (zv_a x0), some (zv_a x1), some (zv_i x2), some (zv_a x3)] [] n sh d u Q := by
  unfold zE; rw [zn_363, zc_363_0]; exact ⟨fun h => h.2, fun h => ⟨Nat.le_of_ble_eq_true rfl, h⟩⟩
theorem ze_363s {S : zSs} {D n u : Nat} {sh : zk_S} {d : zm_D} {Q : ((Option zv_V) ⊕ Nat) → Nat → zk_S → zm_D → Nat → Prop} {x0 : Int} {x1 : Int} {x2 : Int} : zE S D 363 [zv_a x0, zv_i x1, zv_a x2] n sh d u Q ↔ zB S D 363 zb_363_0 [some (zv_a x0), some (zv_i x1), some (zv_a x2), none] [] n sh d u Q := by
  unfold zE; rw [zn_363, zc_363_0]; exact ⟨fun h => h.2, fun h => ⟨Nat.le_of_ble_eq_true rfl, h⟩⟩
theorem zh_363 : zhl 363 = [(0, (1, 3)), (1, (2, 3))] := by decide +kernel
theorem zx_363_0 {S : zSs} {D n u : Nat} {sh : zk_S} {d : zm_D} {Q : ((Option zv_V) ⊕ Nat) → Nat → zk_S → zm_D → Nat → Prop} {is : List zI} {L : zN} {rest : List zv_V} : zA S D 363 is L rest Q (.inr 0) n sh d u ↔ zJ S D 363 1 (zclr L 3) [] n sh d u Q := by
  unfold zA; simp only [zh_363]; rfl
theorem zx_363_1 {S : zSs} {D n u : Nat} {sh : zk_S} {d : zm_D} {Q : ((Option zv_V) ⊕ Nat) → Nat → zk_S → zm_D → Nat → Prop} {is : List zI} {L : zN} {rest : List zv_V} : zA S D 363 is L rest Q (.inr 1) n sh d u ↔ zJ S D 363 2 (zclr L 3) [] n sh d u Q := by
  unfold zA; simp only [zh_363]; rfl
theorem zc_364_0 : zcd 364 0 = zb_364_0 := by decide +kernel
theorem zj_364_0 {S : zSs} {D n u : Nat} {sh : zk_S} {d : zm_D} {Q : ((Option zv_V) ⊕ Nat) → Nat → zk_S → zm_D → Nat → Prop} {L : zN} {st : List zv_V} : zJ S D 364 0 L st n sh d u Q ↔ zB S D 364 zb_364_0 L st n sh d u Q := by unfold zJ; rw [zc_364_0]
theorem zc_364_1 : zcd 364 1 = zb_364_1 := by decide +kernel
theorem zj_364_1 {S : zSs} {D n u : Nat} {sh : zk_S} {d : zm_D} {Q : ((Option zv_V) ⊕ Nat) → Nat → zk_S → zm_D → Nat → Prop} {L : zN} {st : List zv_V} : zJ S D 364 1 L st n sh d u Q ↔ zB S D 364 zb_364_1 L st n sh d u Q := by unfold zJ; rw [zc_364_1]
theorem zc_364_2 : zcd 364 2 = zb_364_2 := by decide +kernel
theorem zj_364_2 {S : zSs} {D n u : Nat} {sh : zk_S} {d : zm_D} {Q : ((Option zv_V) ⊕ Nat) → Nat → zk_S → zm_D → Nat → Prop} {L : zN} {st : List zv_V} : zJ S D 364 2 L st n sh d u Q ↔ zB S D 364 zb_364_2 L st n sh d u Q := by unfold zJ; rw [zc_364_2]
theorem zc_364_3 : zcd 364 3 = zb_364_3 := by decide +kernel
theorem zj_364_3 {S : zSs} {D n u : Nat} {sh : zk_S} {d : zm_D} {Q : ((Option zv_V) ⊕ Nat) → Nat → zk_S → zm_D → Nat → Prop} {L : zN} {st : List zv_V} : zJ S D 364 3 L st n sh d u Q ↔ zB S D 364 zb_364_3 L st n sh d u Q := by unfold zJ; rw [zc_364_3]
theorem zc_364_4 : zcd 364 4 = zb_364_4 := by decide +kernel
theorem zj_364_4 {S : zSs} {D n u : Nat} {sh : zk_S} {d : zm_D} {Q : ((Option zv_V) ⊕ Nat) → Nat → zk_S → zm_D → Nat → Prop} {L : zN} {st : List zv_V} : zJ S D 364 4 L st n sh d u Q ↔ zB S D 364 zb_364_4 L st n sh d u Q := by unfold zJ; rw [zc_364_4]
theorem zc_364_5 : zcd 364 5 = zb_364_5 := by decide +kernel
theorem zj_364_5 {S : zSs} {D n u : Nat} {sh : zk_S} {d : zm_D} {Q : ((Option zv_V) ⊕ Nat) → Nat → zk_S → zm_D → Nat → Prop} {L : zN} {st : List zv_V} : zJ S D 364 5 L st n sh d u Q ↔ zB S D 364 zb_364_5 L st n sh d u Q := by unfold zJ; rw [zc_364_5]
theorem zn_364 : znl 364 = 5 := by decide +kernel
theorem ze_364 {S : zSs} {D n u : Nat} {sh : zk_S} {d : zm_D} {Q : ((Option zv_V) ⊕ Nat) → Nat → zk_S → zm_D → Nat → Prop} {x0 : Int} {x1 : Int} {x2 : Int} {x3 : Int} {x4 : Int} : zE S D 364 [zv_a x0, zv_a x1, zv_i x2, zv_i x3, zv_a x4] n sh d u Q ↔ zB S D 364 zb_364_0 [some (zv_a x0), some (zv_a x1), some (zv_i x2), some (zv_i x3), some (zv_a x4)] [] n sh d u Q := by
  unfold zE; rw [zn_364, zc_364_0]; exact ⟨fun h => h.2, fun h => ⟨Nat.le_of_ble_eq_true rfl, h⟩⟩
theorem ze_364s {S : zSs} {D n u : Nat} {sh : zk_S} {d : zm_D} {Q : ((Option zv_V) ⊕ Nat) → Nat → zk_S → zm_D → Nat → Prop} {x0 : Int} {x1 : Int} {x2 : Int} {x3 : Int} : zE S D 364 [zv_a x0, zv_i x1, zv_i x2, zv_a x3] n sh d u Q ↔ zB S D 364 zb_364_0 [some (zv_a x0), some (zv_i x1), some (zv_i x2), some (zv_a x3), none] [] n sh d u Q := by
  unfold zE; rw [zn_364, zc_364_0]; exact ⟨fun h => h.2, fun h => ⟨Nat.le_of_ble_eq_true rfl, h⟩⟩
theorem zh_364 : zhl 364 = [(2, (1, 4)), (0, (2, 4)), (3, (3, 4)), (1, (4, 4))] := by decide +kernel
theorem zx_364_2 {S : zSs} {D n u : Nat} {sh : zk_S} {d : zm_D} {Q : ((Option zv_V) ⊕ Nat) → Nat → zk_S → zm_D → Nat → Prop} {is : List zI} {L : zN} {rest : List zv_V} : zA S D 364 is L rest Q (.inr 2) n sh d u ↔ zJ S D 364 1 (zclr L 4) [] n sh d u Q := by
  unfold zA; simp only [zh_364]; rfl
theorem zx_364_0 {S : zSs} {D n u : Nat} {sh : zk_S} {d : zm_D} {Q : ((Option zv_V) ⊕ Nat) → Nat → zk_S → zm_D → Nat → Prop} {is : List zI} {L : zN} {rest : List zv_V} : zA S D 364 is L rest Q (.inr 0) n sh d u ↔ zJ S D 364 2 (zclr L 4) [] n sh d u Q := by
  unfold zA; simp only [zh_364]; rfl
theorem zx_364_3 {S : zSs} {D n u : Nat} {sh : zk_S} {d : zm_D} {Q : ((Option zv_V) ⊕ Nat) → Nat → zk_S → zm_D → Nat → Prop} {is : List zI} {L : zN} {rest : List zv_V} : zA S D 364 is L rest Q (.inr 3) n sh d u ↔ zJ S D 364 3 (zclr L 4) [] n sh d u Q := by
  unfold zA; simp only [zh_364]; rfl
theorem zx_364_1 {S : zSs} {D n u : Nat} {sh : zk_S} {d : zm_D} {Q : ((Option zv_V) ⊕ Nat) → Nat → zk_S → zm_D → Nat → Prop} {is : List zI} {L : zN} {rest : List zv_V} : zA S D 364 is L rest Q (.inr 1) n sh d u ↔ zJ S D 364 4 (zclr L 4) [] n sh d u Q := by
  unfold zA; simp only [zh_364]; rfl
theorem zc_365_0 : zcd 365 0 = zb_365_0 := by decide +kernel
theorem zj_365_0 {S : zSs} {D n u : Nat} {sh : zk_S} {d : zm_D} {Q : ((Option zv_V) ⊕ Nat) → Nat → zk_S → zm_D → Nat → Prop} {L : zN} {st : List zv_V} : zJ S D 365 0 L st n sh d u Q ↔ zB S D 365 zb_365_0 L st n sh d u Q := by unfold zJ; rw [zc_365_0]
theorem zc_365_1 : zcd 365 1 = zb_365_1 := by decide +kernel
theorem zj_365_1 {S : zSs} {D n u : Nat} {sh : zk_S} {d : zm_D} {Q : ((Option zv_V) ⊕ Nat) → Nat → zk_S → zm_D → Nat → Prop} {L : zN} {st : List zv_V} : zJ S D 365 1 L st n sh d u Q ↔ zB S D 365 zb_365_1 L st n sh d u Q := by unfold zJ; rw [zc_365_1]
theorem zc_365_2 : zcd 365 2 = zb_365_2 := by decide +kernel
theorem zj_365_2 {S : zSs} {D n u : Nat} {sh : zk_S} {d : zm_D} {Q : ((Option zv_V) ⊕ Nat) → Nat → zk_S → zm_D → Nat → Prop} {L : zN} {st : List zv_V} : zJ S D 365 2 L st n sh d u Q ↔ zB S D 365 zb_365_2 L st n sh d u Q := by unfold zJ; rw [zc_365_2]
theorem zc_365_3 : zcd 365 3 = zb_365_3 := by decide +kernel
theorem zj_365_3 {S : zSs} {D n u : Nat} {sh : zk_S} {d : zm_D} {Q : ((Option zv_V) ⊕ Nat) → Nat → zk_S → zm_D → Nat → Prop} {L : zN} {st : List zv_V} : zJ S D 365 3 L st n sh d u Q ↔ zB S D 365 zb_365_3 L st n sh d u Q := by unfold zJ; rw [zc_365_3]
theorem zn_365 : znl 365 = 4 := by decide +kernel
theorem ze_365 {S : zSs} {D n u : Nat} {sh : zk_S} {d : zm_D} {Q : ((Option zv_V) ⊕ Nat) → Nat → zk_S → zm_D → Nat → Prop} {x0 : Int} {x1 : Int} {x2 : Int} {x3 : Int} : zE S D 365 [zv_a x0, zv_a x1, zv_i x2, zv_a x3] n sh d u Q ↔ zB S D 365 zb_365_0 [some (zv_a x0), some (zv_a x1), some (zv_i x2), some (zv_a x3)] [] n sh d u Q := by
  unfold zE; rw [zn_365, zc_365_0]; exact ⟨fun h => h.2, fun h => ⟨Nat.le_of_ble_eq_true rfl, h⟩⟩
theorem ze_365s {S : zSs} {D n u : Nat} {sh : zk_S} {d : zm_D} {Q : ((Option zv_V) ⊕ Nat) → Nat → zk_S → zm_D → Nat → Prop} {x0 : Int} {x1 : Int} {x2 : Int} : zE S D 365 [zv_a x0, zv_i x1, zv_a x2] n sh d u Q ↔ zB S D 365 zb_365_0 [some (zv_a x0), some (zv_i x1), some (zv_a x2), none] [] n sh d u Q := by
  unfold zE; rw [zn_365, zc_365_0]; exact ⟨fun h => h.2, fun h => ⟨Nat.le_of_ble_eq_true rfl, h⟩⟩
theorem zh_365 : zhl 365 = [(0, (1, 3)), (1, (2, 3))] := by decide +kernel
theorem zx_365_0 {S : zSs} {D n u : Nat} {sh : zk_S} {d : zm_D} {Q : ((Option zv_V) ⊕ Nat) → Nat → zk_S → zm_D → Nat → Prop} {is : List zI} {L : zN} {rest : List zv_V} : zA S D 365 is L rest Q (.inr 0) n sh d u ↔ zJ S D 365 1 (zclr L 3) [] n sh d u Q := by
  unfold zA; simp only [zh_365]; rfl
theorem zx_365_1 {S : zSs} {D n u : Nat} {sh : zk_S} {d : zm_D} {Q : ((Option zv_V) ⊕ Nat) → Nat → zk_S → zm_D → Nat → Prop} {is : List zI} {L : zN} {rest : List zv_V} : zA S D 365 is L rest Q (.inr 1) n sh d u ↔ zJ S D 365 2 (zclr L 3) [] n sh d u Q := by
  unfold zA; simp only [zh_365]; rfl
theorem zc_366_0 : zcd 366 0 = zb_366_0 := by decide +kernel
theorem zj_366_0 {S : zSs} {D n u : Nat} {sh : zk_S} {d : zm_D} {Q : ((Option zv_V) ⊕ Nat) → Nat → zk_S → zm_D → Nat → Prop} {L : zN} {st : List zv_V} : zJ S D 366 0 L st n sh d u Q ↔ zB S D 366 zb_366_0 L st n sh d u Q := by unfold zJ; rw [zc_366_0]
theorem zc_366_1 : zcd 366 1 = zb_366_1 := by decide +kernel
theorem zj_366_1 {S : zSs} {D n u : Nat} {sh : zk_S} {d : zm_D} {Q : ((Option zv_V) ⊕ Nat) → Nat → zk_S → zm_D → Nat → Prop} {L : zN} {st : List zv_V} : zJ S D 366 1 L st n sh d u Q ↔ zB S D 366 zb_366_1 L st n sh d u Q := by unfold zJ; rw [zc_366_1]
theorem zc_366_2 : zcd 366 2 = zb_366_2 := by decide +kernel
theorem zj_366_2 {S : zSs} {D n u : Nat} {sh : zk_S} {d : zm_D} {Q : ((Option zv_V) ⊕ Nat) → Nat → zk_S → zm_D → Nat → Prop} {L : zN} {st : List zv_V} : zJ S D 366 2 L st n sh d u Q ↔ zB S D 366 zb_366_2 L st n sh d u Q := by unfold zJ; rw [zc_366_2]
theorem zn_366 : znl 366 = 3 := by decide +kernel
theorem ze_366 {S : zSs} {D n u : Nat} {sh : zk_S} {d : zm_D} {Q : ((Option zv_V) ⊕ Nat) → Nat → zk_S → zm_D → Nat → Prop} {x0 : Int} {x1 : Int} {x2 : Int} : zE S D 366 [zv_a x0, zv_a x1, zv_a x2] n sh d u Q ↔ zB S D 366 zb_366_0 [some (zv_a x0), some (zv_a x1), some (zv_a x2)] [] n sh d u Q := by
  unfold zE; rw [zn_366, zc_366_0]; exact ⟨fun h => h.2, fun h => ⟨Nat.le_of_ble_eq_true rfl, h⟩⟩
theorem ze_366s {S : zSs} {D n u : Nat} {sh : zk_S} {d : zm_D} {Q : ((Option zv_V) ⊕ Nat) → Nat → zk_S → zm_D → Nat → Prop} {x0 : Int} {x1 : Int} : zE S D 366 [zv_a x0, zv_a x1] n sh d u Q ↔ zB S D 366 zb_366_0 [some (zv_a x0), some (zv_a x1), none] [] n sh d u Q := by
  unfold zE; rw [zn_366, zc_366_0]; exact ⟨fun h => h.2, fun h => ⟨Nat.le_of_ble_eq_true rfl, h⟩⟩
theorem zh_366 : zhl 366 = [(1, (1, 2))] := by decide +kernel
theorem zx_366_1 {S : zSs} {D n u : Nat} {sh : zk_S} {d : zm_D} {Q : ((Option zv_V) ⊕ Nat) → Nat → zk_S → zm_D → Nat → Prop} {is : List zI} {L : zN} {rest : List zv_V} : zA S D 366 is L rest Q (.inr 1) n sh d u ↔ zJ S D 366 1 (zclr L 2) [] n sh d u Q := by
  unfold zA; simp only [zh_366]; rfl
theorem zc_367_0 : zcd 367 0 = zb_367_0 := by decide +kernel
theorem zj_367_0 {S : zSs} {D n u : Nat} {sh : zk_S} {d : zm_D} {Q : ((Option zv_V) ⊕ Nat) → Nat → zk_S → zm_D → Nat → Prop} {L : zN} {st : List zv_V} : zJ S D 367 0 L st n sh d u Q ↔ zB S D 367 zb_367_0 L st n sh d u Q := by unfold zJ; rw [zc_367_0]
theorem zc_367_1 : zcd 367 1 = zb_367_1 := by decide +kernel
theorem zj_367_1 {S : zSs} {D n u : Nat} {sh : zk_S} {d : zm_D} {Q : ((Option zv_V) ⊕ Nat) → Nat → zk_S → zm_D → Nat → Prop} {L : zN} {st : List zv_V} : zJ S D 367 1 L st n sh d u Q ↔ zB S D 367 zb_367_1 L st n sh d u Q := by unfold zJ; rw [zc_367_1]
theorem zc_367_2 : zcd 367 2 = zb_367_2 := by decide +kernel
theorem zj_367_2 {S : zSs} {D n u : Nat} {sh : zk_S} {d : zm_D} {Q : ((Option zv_V) ⊕ Nat) → Nat → zk_S → zm_D → Nat → Prop} {L : zN} {st : List zv_V} : zJ S D 367 2 L st n sh d u Q ↔ zB S D 367 zb_367_2 L st n sh d u Q := by unfold zJ; rw [zc_367_2]
theorem zn_367 : znl 367 = 3 := by decide +kernel
theorem ze_367 {S : zSs} {D n u : Nat} {sh : zk_S} {d : zm_D} {Q : ((Option zv_V) ⊕ Nat) → Nat → zk_S → zm_D → Nat → Prop} {x0 : Int} {x1 : Int} {x2 : Int} : zE S D 367 [zv_a x0, zv_a x1, zv_a x2] n sh d u Q ↔ zB S D 367 zb_367_0 [some (zv_a x0), some (zv_a x1), some (zv_a x2)] [] n sh d u Q := by
  unfold zE; rw [zn_367, zc_367_0]; exact ⟨fun h => h.2, fun h => ⟨Nat.le_of_ble_eq_true rfl, h⟩⟩
theorem ze_367s {S : zSs} {D n u : Nat} {sh : zk_S} {d : zm_D} {Q : ((Option zv_V) ⊕ Nat) → Nat → zk_S → zm_D → Nat → Prop} {x0 : Int} {x1 : Int} : zE S D 367 [zv_a x0, zv_a x1] n sh d u Q ↔ zB S D 367 zb_367_0 [some (zv_a x0), some (zv_a x1), none] [] n sh d u Q := by
  unfold zE; rw [zn_367, zc_367_0]; exact ⟨fun h => h.2, fun h => ⟨Nat.le_of_ble_eq_true rfl, h⟩⟩
theorem zh_367 : zhl 367 = [(1, (1, 2))] := by decide +kernel
theorem zx_367_1 {S : zSs} {D n u : Nat} {sh : zk_S} {d : zm_D} {Q : ((Option zv_V) ⊕ Nat) → Nat → zk_S → zm_D → Nat → Prop} {is : List zI} {L : zN} {rest : List zv_V} : zA S D 367 is L rest Q (.inr 1) n sh d u ↔ zJ S D 367 1 (zclr L 2) [] n sh d u Q := by
  unfold zA; simp only [zh_367]; rfl
theorem zc_368_0 : zcd 368 0 = zb_368_0 := by decide +kernel
theorem zj_368_0 {S : zSs} {D n u : Nat} {sh : zk_S} {d : zm_D} {Q : ((Option zv_V) ⊕ Nat) → Nat → zk_S → zm_D → Nat → Prop} {L : zN} {st : List zv_V} : zJ S D 368 0 L st n sh d u Q ↔ zB S D 368 zb_368_0 L st n sh d u Q := by unfold zJ; rw [zc_368_0]
theorem zc_368_1 : zcd 368 1 = zb_368_1 := by decide +kernel
theorem zj_368_1 {S : zSs} {D n u : Nat} {sh : zk_S} {d : zm_D} {Q : ((Option zv_V) ⊕ Nat) → Nat → zk_S → zm_D → Nat → Prop} {L : zN} {st : List zv_V} : zJ S D 368 1 L st n sh d u Q ↔ zB S D 368 zb_368_1 L st n sh d u Q := by unfold zJ; rw [zc_368_1]
theorem zc_368_2 : zcd 368 2 = zb_368_2 := by decide +kernel
theorem zj_368_2 {S : zSs} {D n u : Nat} {sh : zk_S} {d : zm_D} {Q : ((Option zv_V) ⊕ Nat) → Nat → zk_S → zm_D → Nat → Prop} {L : zN} {st : List zv_V} : zJ S D 368 2 L st n sh d u Q ↔ zB S D 368 zb_368_2 L st n sh d u Q := by unfold zJ; rw [zc_368_2]
theorem zc_368_3 : zcd 368 3 = zb_368_3 := by decide +kernel
theorem zj_368_3 {S : zSs} {D n u : Nat} {sh : zk_S} {d : zm_D} {Q : ((Option zv_V) ⊕ Nat) → Nat → zk_S → zm_D → Nat → Prop} {L : zN} {st : List zv_V} : zJ S D 368 3 L st n sh d u Q ↔ zB S D 368 zb_368_3 L st n sh d u Q := by unfold zJ; rw [zc_368_3]
theorem zc_368_4 : zcd 368 4 = zb_368_4 := by decide +kernel
theorem zj_368_4 {S : zSs} {D n u : Nat} {sh : zk_S} {d : zm_D} {Q : ((Option zv_V) ⊕ Nat) → Nat → zk_S → zm_D → Nat → Prop} {L : zN} {st : List zv_V} : zJ S D 368 4 L st n sh d u Q ↔ zB S D 368 zb_368_4 L st n sh d u Q := by unfold zJ; rw [zc_368_4]
theorem zc_368_5 : zcd 368 5 = zb_368_5 := by decide +kernel
theorem zj_368_5 {S : zSs} {D n u : Nat} {sh : zk_S} {d : zm_D} {Q : ((Option zv_V) ⊕ Nat) → Nat → zk_S → zm_D → Nat → Prop} {L : zN} {st : List zv_V} : zJ S D 368 5 L st n sh d u Q ↔ zB S D 368 zb_368_5 L st n sh d u Q := by unfold zJ; rw [zc_368_5]
theorem zn_368 : znl 368 = 5 := by decide +kernel
theorem ze_368 {S : zSs} {D n u : Nat} {sh : zk_S} {d : zm_D} {Q : ((Option zv_V) ⊕ Nat) → Nat → zk_S → zm_D → Nat → Prop} {x0 : Int} {x1 : Int} {x2 : Int} {x3 : Int} {x4 : Int} : zE S D 368 [zv_a x0, zv_a x1, zv_i x2, zv_i x3, zv_a x4] n sh d u Q ↔ zB S D 368 zb_368_0 [some (zv_a x0), some (zv_a x1), some (zv_i x2), some (zv_i x3), some (zv_a x4)] [] n sh d u Q := by
  unfold zE; rw [zn_368, zc_368_0]; exact ⟨fun h => h.2, fun h => ⟨Nat.le_of_ble_eq_true rfl, h⟩⟩
theorem ze_368s {S : zSs} {D n u : Nat} {sh : zk_S} {d : zm_D} {Q : ((Option zv_V) ⊕ Nat) → Nat → zk_S → zm_D → Nat → Prop} {x0 : Int} {x1 : Int} {x2 : Int} {x3 : Int} : zE S D 368 [zv_a x0, zv_i x1, zv_i x2, zv_a x3] n sh d u Q ↔ zB S D 368 zb_368_0 [some (zv_a x0), some (zv_i x1), some (zv_i x2), some (zv_a x3), none] [] n sh d u Q := by
  unfold zE; rw [zn_368, zc_368_0]; exact ⟨fun h => h.2, fun h => ⟨Nat.le_of_ble_eq_true rfl, h⟩⟩
theorem zh_368 : zhl 368 = [(2, (1, 4)), (0, (2, 4)), (3, (3, 4)), (1, (4, 4))] := by decide +kernel
theorem zx_368_2 {S : zSs} {D n u : Nat} {sh : zk_S} {d : zm_D} {Q : ((Option zv_V) ⊕ Nat) → Nat → zk_S → zm_D → Nat → Prop} {is : List zI} {L : zN} {rest : List zv_V} : zA S D 368 is L rest Q (.inr 2) n sh d u ↔ zJ S D 368 1 (zclr L 4) [] n sh d u Q := by
  unfold zA; simp only [zh_368]; rfl
theorem zx_368_0 {S : zSs} {D n u : Nat} {sh : zk_S} {d : zm_D} {Q : ((Option zv_V) ⊕ Nat) → Nat → zk_S → zm_D → Nat → Prop} {is : List zI} {L : zN} {rest : List zv_V} : zA S D 368 is L rest Q (.inr 0) n sh d u ↔ zJ S D 368 2 (zclr L 4) [] n sh d u Q := by
  unfold zA; simp only [zh_368]; rfl
theorem zx_368_3 {S : zSs} {D n u : Nat} {sh : zk_S} {d : zm_D} {Q : ((Option zv_V) ⊕ Nat) → Nat → zk_S → zm_D → Nat → Prop} {is : List zI} {L : zN} {rest : List zv_V} : zA S D 368 is L rest Q (.inr 3) n sh d u ↔ zJ S D 368 3 (zclr L 4) [] n sh d u Q := by
  unfold zA; simp only [zh_368]; rfl
theorem zx_368_1 {S : zSs} {D n u : Nat} {sh : zk_S} {d : zm_D} {Q : ((Option zv_V) ⊕ Nat) → Nat → zk_S → zm_D → Nat → Prop} {is : List zI} {L : zN} {rest : List zv_V} : zA S D 368 is L rest Q (.inr 1) n sh d u ↔ zJ S D 368 4 (zclr L 4) [] n sh d u Q := by
  unfold zA; simp only [zh_368]; rfl
theorem zc_369_0 : zcd 369 0 = zb_369_0 := by decide +kernel
theorem zj_369_0 {S : zSs} {D n u : Nat} {sh : zk_S} {d : zm_D} {Q : ((Option zv_V) ⊕ Nat) → Nat → zk_S → zm_D → Nat → Prop} {L : zN} {st : List zv_V} : zJ S D 369 0 L st n sh d u Q ↔ zB S D 369 zb_369_0 L st n sh d u Q := by unfold zJ; rw [zc_369_0]
theorem zc_369_1 : zcd 369 1 = zb_369_1 := by decide +kernel
theorem zj_369_1 {S : zSs} {D n u : Nat} {sh : zk_S} {d : zm_D} {Q : ((Option zv_V) ⊕ Nat) → Nat → zk_S → zm_D → Nat → Prop} {L : zN} {st : List zv_V} : zJ S D 369 1 L st n sh d u Q ↔ zB S D 369 zb_369_1 L st n sh d u Q := by unfold zJ; rw [zc_369_1]
theorem zc_369_2 : zcd 369 2 = zb_369_2 := by decide +kernel
theorem zj_369_2 {S : zSs} {D n u : Nat} {sh : zk_S} {d : zm_D} {Q : ((Option zv_V) ⊕ Nat) → Nat → zk_S → zm_D → Nat → Prop} {L : zN} {st : List zv_V} : zJ S D 369 2 L st n sh d u Q ↔ zB S D 369 zb_369_2 L st n sh d u Q := by unfold zJ; rw [zc_369_2]
theorem zn_369 : znl 369 = 4 := by decide +kernel
theorem ze_369 {S : zSs} {D n u : Nat} {sh : zk_S} {d : zm_D} {Q : ((Option zv_V) ⊕ Nat) → Nat → zk_S → zm_D → Nat → Prop} {x0 : Int} {x1 : Int} {x2 : Int} {x3 : Int} : zE S D 369 [zv_a x0, zv_a x1, zv_i x2, zv_a x3] n sh d u Q ↔ zB S D 369 zb_369_0 [some (zv_a x0), some (zv_a x1), some (zv_i x2), some (zv_a x3)] [] n sh d u Q := by
  unfold zE; rw [zn_369, zc_369_0]; exact ⟨fun h => h.2, fun h => ⟨Nat.le_of_ble_eq_true rfl, h⟩⟩
theorem ze_369s {S : zSs} {D n u : Nat} {sh : zk_S} {d : zm_D} {Q : ((Option zv_V) ⊕ Nat) → Nat → zk_S → zm_D → Nat → Prop} {x0 : Int} {x1 : Int} {x2 : Int} : zE S D 369 [zv_a x0, zv_i x1, zv_a x2] n sh d u Q ↔ zB S D 369 zb_369_0 [some (zv_a x0), some (zv_i x1), some (zv_a x2), none] [] n sh d u Q := by
  unfold zE; rw [zn_369, zc_369_0]; exact ⟨fun h => h.2, fun h => ⟨Nat.le_of_ble_eq_true rfl, h⟩⟩
theorem zh_369 : zhl 369 = [(0, (1, 3))] := by decide +kernel
theorem zx_369_0 {S : zSs} {D n u : Nat} {sh : zk_S} {d : zm_D} {Q : ((Option zv_V) ⊕ Nat) → Nat → zk_S → zm_D → Nat → Prop} {is : List zI} {L : zN} {rest : List zv_V} : zA S D 369 is L rest Q (.inr 0) n sh d u ↔ zJ S D 369 1 (zclr L 3) [] n sh d u Q := by
  unfold zA; simp only [zh_369]; rfl
theorem zc_370_0 : zcd 370 0 = zb_370_0 := by decide +kernel
theorem zj_370_0 {S : zSs} {D n u : Nat} {sh : zk_S} {d : zm_D} {Q : ((Option zv_V) ⊕ Nat) → Nat → zk_S → zm_D → Nat → Prop} {L : zN} {st : List zv_V} : zJ S D 370 0 L st n sh d u Q ↔ zB S D 370 zb_370_0 L st n sh d u Q := by unfold zJ; rw [zc_370_0]
theorem zc_370_1 : zcd 370 1 = zb_370_1 := by decide +kernel
theorem zj_370_1 {S : zSs} {D n u : Nat} {sh : zk_S} {d : zm_D} {Q : ((Option zv_V) ⊕ Nat) → Nat → zk_S → zm_D → Nat → Prop} {L : zN} {st : List zv_V} : zJ S D 370 1 L st n sh d u Q ↔ zB S D 370 zb_370_1 L st n sh d u Q := by unfold zJ; rw [zc_370_1]
theorem zc_370_2 : zcd 370 2 = zb_370_2 := by decide +kernel
theorem zj_370_2 {S : zSs} {D n u : Nat} {sh : zk_S} {d : zm_D} {Q : ((Option zv_V) ⊕ Nat) → Nat → zk_S → zm_D → Nat → Prop} {L : zN} {st : List zv_V} : zJ S D 370 2 L st n sh d u Q ↔ zB S D 370 zb_370_2 L st n sh d u Q := by unfold zJ; rw [zc_370_2]
theorem zn_370 : znl 370 = 3 := by decide +kernel
theorem ze_370 {S : zSs} {D n u : Nat} {sh : zk_S} {d : zm_D} {Q : ((Option zv_V) ⊕ Nat) → Nat → zk_S → zm_D → Nat → Prop} {x0 : Int} {x1 : Int} {x2 : Int} : zE S D 370 [zv_a x0, zv_a x1, zv_a x2] n sh d u Q ↔ zB S D 370 zb_370_0 [some (zv_a x0), some (zv_a x1), some (zv_a x2)] [] n sh d u Q := by
  unfold zE; rw [zn_370, zc_370_0]; exact ⟨fun h => h.2, fun h => ⟨Nat.le_of_ble_eq_true rfl, h⟩⟩
theorem ze_370s {S : zSs} {D n u : Nat} {sh : zk_S} {d : zm_D} {Q : ((Option zv_V) ⊕ Nat) → Nat → zk_S → zm_D → Nat → Prop} {x0 : Int} {x1 : Int} : zE S D 370 [zv_a x0, zv_a x1] n sh d u Q ↔ zB S D 370 zb_370_0 [some (zv_a x0), some (zv_a x1), none] [] n sh d u Q := by
  unfold zE; rw [zn_370, zc_370_0]; exact ⟨fun h => h.2, fun h => ⟨Nat.le_of_ble_eq_true rfl, h⟩⟩
theorem zh_370 : zhl 370 = [(1, (1, 2))] := by decide +kernel
theorem zx_370_1 {S : zSs} {D n u : Nat} {sh : zk_S} {d : zm_D} {Q : ((Option zv_V) ⊕ Nat) → Nat → zk_S → zm_D → Nat → Prop} {is : List zI} {L : zN} {rest : List zv_V} : zA S D 370 is L rest Q (.inr 1) n sh d u ↔ zJ S D 370 1 (zclr L 2) [] n sh d u Q := by
  unfold zA; simp only [zh_370]; rfl
theorem zc_371_0 : zcd 371 0 = zb_371_0 := by decide +kernel
theorem zj_371_0 {S : zSs} {D n u : Nat} {sh : zk_S} {d : zm_D} {Q : ((Option zv_V) ⊕ Nat) → Nat → zk_S → zm_D → Nat → Prop} {L : zN} {st : List zv_V} : zJ S D 371 0 L st n sh d u Q ↔ zB S D 371 zb_371_0 L st n sh d u Q := by unfold zJ; rw [zc_371_0]
theorem zc_371_1 : zcd 371 1 = zb_371_1 := by decide +kernel
theorem zj_371_1 {S : zSs} {D n u : Nat} {sh : zk_S} {d : zm_D} {Q : ((Option zv_V) ⊕ Nat) → Nat → zk_S → zm_D → Nat → Prop} {L : zN} {st : List zv_V} : zJ S D 371 1 L st n sh d u Q ↔ zB S D 371 zb_371_1 L st n sh d u Q := by unfold zJ; rw [zc_371_1]
theorem zc_371_2 : zcd 371 2 = zb_371_2 := by decide +kernel
theorem zj_371_2 {S : zSs} {D n u : Nat} {sh : zk_S} {d : zm_D} {Q : ((Option zv_V) ⊕ Nat) → Nat → zk_S → zm_D → Nat → Prop} {L : zN} {st : List zv_V} : zJ S D 371 2 L st n sh d u Q ↔ zB S D 371 zb_371_2 L st n sh d u Q := by unfold zJ; rw [zc_371_2]
theorem zc_371_3 : zcd 371 3 = zb_371_3 := by decide +kernel
theorem zj_371_3 {S : zSs} {D n u : Nat} {sh : zk_S} {d : zm_D} {Q : ((Option zv_V) ⊕ Nat) → Nat → zk_S → zm_D → Nat → Prop} {L : zN} {st : List zv_V} : zJ S D 371 3 L st n sh d u Q ↔ zB S D 371 zb_371_3 L st n sh d u Q := by unfold zJ; rw [zc_371_3]
theorem zn_371 : znl 371 = 4 := by decide +kernel
theorem ze_371 {S : zSs} {D n u : Nat} {sh : zk_S} {d : zm_D} {Q : ((Option zv_V) ⊕ Nat) → Nat → zk_S → zm_D → Nat → Prop} {x0 : Int} {x1 : Int} {x2 : Int} {x3 : Int} : zE S D 371 [zv_a x0, zv_a x1, zv_i x2, zv_a x3] n sh d u Q ↔ zB S D 371 zb_371_0 [some (zv_a x0), some (zv_a x1), some (zv_i x2), some (zv_a x3)] [] n sh d u Q := by
  unfold zE; rw [zn_371, zc_371_0]; exact ⟨fun h => h.2, fun h => ⟨Nat.le_of_ble_eq_true rfl, h⟩⟩
theorem ze_371s {S : zSs} {D n u : Nat} {sh : zk_S} {d : zm_D} {Q : ((Option zv_V) ⊕ Nat) → Nat → zk_S → zm_D → Nat → Prop} {x0 : Int} {x1 : Int} {x2 : Int} : zE S D 371 [zv_a x0, zv_i x1, zv_a x2] n sh d u Q ↔ zB S D 371 zb_371_0 [some (zv_a x0), some (zv_i x1), some (zv_a x2), none] [] n sh d u Q := by
  unfold zE; rw [zn_371, zc_371_0]; exact ⟨fun h => h.2, fun h => ⟨Nat.le_of_ble_eq_true rfl, h⟩⟩
theorem zh_371 : zhl 371 = [(2, (1, 3)), (4, (2, 3))] := by decide +kernel
theorem zx_371_2 {S : zSs} {D n u : Nat} {sh : zk_S} {d : zm_D} {Q : ((Option zv_V) ⊕ Nat) → Nat → zk_S → zm_D → Nat → Prop} {is : List zI} {L : zN} {rest : List zv_V} : zA S D 371 is L rest Q (.inr 2) n sh d u ↔ zJ S D 371 1 (zclr L 3) [] n sh d u Q := by
  unfold zA; simp only [zh_371]; rfl
theorem zx_371_4 {S : zSs} {D n u : Nat} {sh : zk_S} {d : zm_D} {Q : ((Option zv_V) ⊕ Nat) → Nat → zk_S → zm_D → Nat → Prop} {is : List zI} {L : zN} {rest : List zv_V} : zA S D 371 is L rest Q (.inr 4) n sh d u ↔ zJ S D 371 2 (zclr L 3) [] n sh d u Q := by
  unfold zA; simp only [zh_371]; rfl
theorem zc_372_0 : zcd 372 0 = zb_372_0 := by decide +kernel
theorem zj_372_0 {S : zSs} {D n u : Nat} {sh : zk_S} {d : zm_D} {Q : ((Option zv_V) ⊕ Nat) → Nat → zk_S → zm_D → Nat → Prop} {L : zN} {st : List zv_V} : zJ S D 372 0 L st n sh d u Q ↔ zB S D 372 zb_372_0 L st n sh d u Q := by unfold zJ; rw [zc_372_0]
theorem zc_372_1 : zcd 372 1 = zb_372_1 := by decide +kernel
theorem zj_372_1 {S : zSs} {D n u : Nat} {sh : zk_S} {d : zm_D} {Q : ((Option zv_V) ⊕ Nat) → Nat → zk_S → zm_D → Nat → Prop} {L : zN} {st : List zv_V} : zJ S D 372 1 L st n sh d u Q ↔ zB S D 372 zb_372_1 L st n sh d u Q := by unfold zJ; rw [zc_372_1]
theorem zc_372_2 : zcd 372 2 = zb_372_2 := by decide +kernel
theorem zj_372_2 {S : zSs} {D n u : Nat} {sh : zk_S} {d : zm_D} {Q : ((Option zv_V) ⊕ Nat) → Nat → zk_S → zm_D → Nat → Prop} {L : zN} {st : List zv_V} : zJ S D 372 2 L st n sh d u Q ↔ zB S D 372 zb_372_2 L st n sh d u Q := by unfold zJ; rw [zc_372_2]
theorem zn_372 : znl 372 = 4 := by decide +kernel
theorem ze_372 {S : zSs} {D n u : Nat} {sh : zk_S} {d : zm_D} {Q : ((Option zv_V) ⊕ Nat) → Nat → zk_S → zm_D → Nat → Prop} {x0 : Int} {x1 : Int} {x2 : Int} {x3 : Int} : zE S D 372 [zv_a x0, zv_a x1, zv_i x2, zv_a x3] n sh d u Q ↔ zB S D 372 zb_372_0 [some (zv_a x0), some (zv_a x1), some (zv_i x2), some (zv_a x3)] [] n sh d u Q := by
  unfold zE; rw [zn_372, zc_372_0]; exact ⟨fun h => h.2, fun h => ⟨Nat.le_of_ble_eq_true rfl, h⟩⟩
theorem ze_372s {S : zSs} {D n u : Nat} {sh : zk_S} {d : zm_D} {Q : ((Option zv_V) ⊕ Nat) → Nat → zk_S → zm_D → Nat → Prop} {x0 : Int} {x1 : Int} {x2 : Int} : zE S D 372 [zv_a x0, zv_i x1, zv_a x2] n sh d u Q ↔ zB S D 372 zb_372_0 [some (zv_a x0), some (zv_i x1), some (zv_a x2), none] [] n sh d u Q := by
  unfold zE; rw [zn_372, zc_372_0]; exact ⟨fun h => h.2, fun h => ⟨Nat.le_of_ble_eq_true rfl, h⟩⟩
theorem zh_372 : zhl 372 = [(2, (1, 3))] := by decide +kernel
theorem zx_372_2 {S : zSs} {D n u : Nat} {sh : zk_S} {d : zm_D} {Q : ((Option zv_V) ⊕ Nat) → Nat → zk_S → zm_D → Nat → Prop} {is : List zI} {L : zN} {rest : List zv_V} : zA S D 372 is L rest Q (.inr 2) n sh d u ↔ zJ S D 372 1 (zclr L 3) [] n sh d u Q := by
  unfold zA; simp only [zh_372]; rfl
theorem zc_373_0 : zcd 373 0 = zb_373_0 := by decide +kernel
theorem zj_373_0 {S : zSs} {D n u : Nat} {sh : zk_S} {d : zm_D} {Q : ((Option zv_V) ⊕ Nat) → Nat → zk_S → zm_D → Nat → Prop} {L : zN} {st : List zv_V} : zJ S D 373 0 L st n sh d u Q ↔ zB S D 373 zb_373_0 L st n sh d u Q := by unfold zJ; rw [zc_373_0]
theorem zc_373_1 : zcd 373 1 = zb_373_1 := by decide +kernel
theorem zj_373_1 {S : zSs} {D n u : Nat} {sh : zk_S} {d : zm_D} {Q : ((Option zv_V) ⊕ Nat) → Nat → zk_S → zm_D → Nat → Prop} {L : zN} {st : List zv_V} : zJ S D 373 1 L st n sh d u Q ↔ zB S D 373 zb_373_1 L st n sh d u Q := by unfold zJ; rw [zc_373_1]
theorem zc_373_2 : zcd 373 2 = zb_373_2 := by decide +kernel
theorem zj_373_2 {S : zSs} {D n u : Nat} {sh : zk_S} {d : zm_D} {Q : ((Option zv_V) ⊕ Nat) → Nat → zk_S → zm_D → Nat → Prop} {L : zN} {st : List zv_V} : zJ S D 373 2 L st n sh d u Q ↔ zB S D 373 zb_373_2 L st n sh d u Q := by unfold zJ; rw [zc_373_2]
theorem zn_373 : znl 373 = 4 := by decide +kernel
theorem ze_373 {S : zSs} {D n u : Nat} {sh : zk_S} {d : zm_D} {Q : ((Option zv_V) ⊕ Nat) → Nat → zk_S → zm_D → Nat → Prop} {x0 : Int} {x1 : Int} {x2 : Int} {x3 : Int} : zE S D 373 [zv_a x0, zv_a x1, zv_i x2, zv_a x3] n sh d u Q ↔ zB S D 373 zb_373_0 [some (zv_a x0), some (zv_a x1), some (zv_i x2), some (zv_a x3)] [] n sh d u Q := by
  unfold zE; rw [zn_373, zc_373_0]; exact ⟨fun h => h.2, fun h => ⟨Nat.le_of_ble_eq_true rfl, h⟩⟩
theorem ze_373s {S : zSs} {D n u : Nat} {sh : zk_S} {d : zm_D} {Q : ((Option zv_V) ⊕ Nat) → Nat → zk_S → zm_D → Nat → Prop} {x0 : Int} {x1 : Int} {x2 : Int} : zE S D 373 [zv_a x0, zv_i x1, zv_a x2] n sh d u Q ↔ zB S D 373 zb_373_0 [some (zv_a x0), some (zv_i x1), some (zv_a x2), none] [] n sh d u Q := by
  unfold zE; rw [zn_373, zc_373_0]; exact ⟨fun h => h.2, fun h => ⟨Nat.le_of_ble_eq_true rfl, h⟩⟩
theorem zh_373 : zhl 373 = [(2, (1, 3))] := by decide +kernel
theorem zx_373_2 {S : zSs} {D n u : Nat} {sh : zk_S} {d : zm_D} {Q : ((Option zv_V) ⊕ Nat) → Nat → zk_S → zm_D → Nat → Prop} {is : List zI} {L : zN} {rest : List zv_V} : zA S D 373 is L rest Q (.inr 2) n sh d u ↔ zJ S D 373 1 (zclr L 3) [] n sh d u Q := by
  unfold zA; simp only [zh_373]; rfl
theorem zc_374_0 : zcd 374 0 = zb_374_0 := by decide +kernel
theorem zj_374_0 {S : zSs} {D n u : Nat} {sh : zk_S} {d : zm_D} {Q : ((Option zv_V) ⊕ Nat) → Nat → zk_S → zm_D → Nat → Prop} {L : zN} {st : List zv_V} : zJ S D 374 0 L st n sh d u Q ↔ zB S D 374 zb_374_0 L st n sh d u Q := by unfold zJ; rw [zc_374_0]
theorem zc_374_1 : zcd 374 1 = zb_374_1 := by decide +kernel
theorem zj_374_1 {S : zSs} {D n u : Nat} {sh : zk_S} {d : zm_D} {Q : ((Option zv_V) ⊕ Nat) → Nat → zk_S → zm_D → Nat → Prop} {L : zN} {st : List zv_V} : zJ S D 374 1 L st n sh d u Q ↔ zB S D 374 zb_374_1 L st n sh d u Q := by unfold zJ; rw [zc_374_1]
theorem zc_374_2 : zcd 374 2 = zb_374_2 := by decide +kernel
theorem zj_374_2 {S : zSs} {D n u : Nat} {sh : zk_S} {d : zm_D} {Q : ((Option zv_V) ⊕ Nat) → Nat → zk_S → zm_D → Nat → Prop} {L : zN} {st : List zv_V} : zJ S D 374 2 L st n sh d u Q ↔ zB S D 374 zb_374_2 L st n sh d u Q := by unfold zJ; rw [zc_374_2]
theorem zc_374_3 : zcd 374 3 = zb_374_3 := by decide +kernel
theorem zj_374_3 {S : zSs} {D n u : Nat} {sh : zk_S} {d : zm_D} {Q : ((Option zv_V) ⊕ Nat) → Nat → zk_S → zm_D → Nat → Prop} {L : zN} {st : List zv_V} : zJ S D 374 3 L st n sh d u Q ↔ zB S D 374 zb_374_3 L st n sh d u Q := by unfold zJ; rw [zc_374_3]
theorem zc_374_4 : zcd 374 4 = zb_374_4 := by decide +kernel
theorem zj_374_4 {S : zSs} {D n u : Nat} {sh : zk_S} {d : zm_D} {Q : ((Option zv_V) ⊕ Nat) → Nat → zk_S → zm_D → Nat → Prop} {L : zN} {st : List zv_V} : zJ S D 374 4 L st n sh d u Q ↔ zB S D 374 zb_374_4 L st n sh d u Q := by unfold zJ; rw [zc_374_4]
theorem zn_374 : znl 374 = 4 := by decide +kernel
theorem ze_374 {S : zSs} {D n u : Nat} {sh : zk_S} {d : zm_D} {Q : ((Option zv_V) ⊕ Nat) → Nat → zk_S → zm_D → Nat → Prop} {x0 : Int} {x1 : Int} {x2 : Int} {x3 : Int} : zE S D 374 [zv_a x0, zv_a x1, zv_i x2, zv_a x3] n sh d u Q ↔ zB S D 374 zb_374_0 [some (zv_a x0), some (zv_a x1), some (zv_i x2), some (zv_a x3)] [] n sh d u Q := by
  unfold zE; rw [zn_374, zc_374_0]; exact ⟨fun h => h.2, fun h => ⟨Nat.le_of_ble_eq_true rfl, h⟩⟩
theorem ze_374s {S : zSs} {D n u : Nat} {sh : zk_S} {d : zm_D} {Q : ((Option zv_V) ⊕ Nat) → Nat → zk_S → zm_D → Nat → Prop} {x0 : Int} {x1 : Int} {x2 : Int} : zE S D 374 [zv_a x0, zv_i x1, zv_a x2] n sh d u Q ↔ zB S D 374 zb_374_0 [some (zv_a x0), some (zv_i x1), some (zv_a x2), none] [] n sh d u Q := by
  unfold zE; rw [zn_374, zc_374_0]; exact ⟨fun h => h.2, fun h => ⟨Nat.le_of_ble_eq_true rfl, h⟩⟩
theorem zh_374 : zhl 374 = [(2, (3, 3))] := by decide +kernel
theorem zx_374_2 {S : zSs} {D n u : Nat} {sh : zk_S} {d : zm_D} {Q : ((Option zv_V) ⊕ Nat) → Nat → zk_S → zm_D → Nat → Prop} {is : List zI} {L : zN} {rest : List zv_V} : zA S D 374 is L rest Q (.inr 2) n sh d u ↔ zJ S D 374 3 (zclr L 3) [] n sh d u Q := by
  unfold zA; simp only [zh_374]; rfl
theorem zc_375_0 : zcd 375 0 = zb_375_0 := by decide +kernel
theorem zj_375_0 {S : zSs} {D n u : Nat} {sh : zk_S} {d : zm_D} {Q : ((Option zv_V) ⊕ Nat) → Nat → zk_S → zm_D → Nat → Prop} {L : zN} {st : List zv_V} : zJ S D 375 0 L st n sh d u Q ↔ zB S D 375 zb_375_0 L st n sh d u Q := by unfold zJ; rw [zc_375_0]
theorem zc_375_1 : zcd 375 1 = zb_375_1 := by decide +kernel
theorem zj_375_1 {S : zSs} {D n u : Nat} {sh : zk_S} {d : zm_D} {Q : ((Option zv_V) ⊕ Nat) → Nat → zk_S → zm_D → Nat → Prop} {L : zN} {st : List zv_V} : zJ S D 375 1 L st n sh d u Q ↔ zB S D 375 zb_375_1 L st n sh d u Q := by unfold zJ; rw [zc_375_1]
theorem zc_375_2 : zcd 375 2 = zb_375_2 := by decide +kernel
theorem zj_375_2 {S : zSs} {D n u : Nat} {sh : zk_S} {d : zm_D} {Q : ((Option zv_V) ⊕ Nat) → Nat → zk_S → zm_D → Nat → Prop} {L : zN} {st : List zv_V} : zJ S D 375 2 L st n sh d u Q ↔ zB S D 375 zb_375_2 L st n sh d u Q := by unfold zJ; rw [zc_375_2]
theorem zn_375 : znl 375 = 4 := by decide +kernel
theorem ze_375 {S : zSs} {D n u : Nat} {sh : zk_S} {d : zm_D} {Q : ((Option zv_V) ⊕ Nat) → Nat → zk_S → zm_D → Nat → Prop} {x0 : Int} {x1 : Int} {x2 : Int} {x3 : Int} : zE S D 375 [zv_a x0, zv_a x1, zv_i x2, zv_a x3] n sh d u Q ↔ zB S D 375 zb_375_0 [some (zv_a x0), some (zv_a x1), some (zv_i x2), some (zv_a x3)] [] n sh d u Q := by
  unfold zE; rw [zn_375, zc_375_0]; exact ⟨fun h => h.2, fun h => ⟨Nat.le_of_ble_eq_true rfl, h⟩⟩
theorem ze_375s {S : zSs} {D n u : Nat} {sh : zk_S} {d : zm_D} {Q : ((Option zv_V) ⊕ Nat) → Nat → zk_S → zm_D → Nat → Prop} {x0 : Int} {x1 : Int} {x2 : Int} : zE S D 375 [zv_a x0, zv_i x1, zv_a x2] n sh d u Q ↔ zB S D 375 zb_375_0 [some (zv_a x0), some (zv_i x1), some (zv_a x2), none] [] n sh d u Q := by
  unfold zE; rw [zn_375, zc_375_0]; exact ⟨fun h => h.2, fun h => ⟨Nat.le_of_ble_eq_true rfl, h⟩⟩
theorem zh_375 : zhl 375 = [(2, (1, 3))] := by decide +kernel
theorem zx_375_2 {S : zSs} {D n u : Nat} {sh : zk_S} {d : zm_D} {Q : ((Option zv_V) ⊕ Nat) → Nat → zk_S → zm_D → Nat → Prop} {is : List zI} {L : zN} {rest : List zv_V} : zA S D 375 is L rest Q (.inr 2) n sh d u ↔ zJ S D 375 1 (zclr L 3) [] n sh d u Q := by
  unfold zA; simp only [zh_375]; rfl
theorem zc_376_0 : zcd 376 0 = zb_376_0 := by decide +kernel
theorem zj_376_0 {S : zSs} {D n u : Nat} {sh : zk_S} {d : zm_D} {Q : ((Option zv_V) ⊕ Nat) → Nat → zk_S → zm_D → Nat → Prop} {L : zN} {st : List zv_V} : zJ S D 376 0 L st n sh d u Q ↔ zB S D 376 zb_376_0 L st n sh d u Q := by unfold zJ; rw [zc_376_0]
theorem zc_376_1 : zcd 376 1 = zb_376_1 := by decide +kernel
theorem zj_376_1 {S : zSs} {D n u : Nat} {sh : zk_S} {d : zm_D} {Q : ((Option zv_V) ⊕ Nat) → Nat → zk_S → zm_D → Nat → Prop} {L : zN} {st : List zv_V} : zJ S D 376 1 L st n sh d u Q ↔ zB S D 376 zb_376_1 L st n sh d u Q := by unfold zJ; rw [zc_376_1]
theorem zc_376_2 : zcd 376 2 = zb_376_2 := by decide +kernel
theorem zj_376_2 {S : zSs} {D n u : Nat} {sh : zk_S} {d : zm_D} {Q : ((Option zv_V) ⊕ Nat) → Nat → zk_S → zm_D → Nat → Prop} {L : zN} {st : List zv_V} : zJ S D 376 2 L st n sh d u Q ↔ zB S D 376 zb_376_2 L st n sh d u Q := by unfold zJ; rw [zc_376_2]
theorem zn_376 : znl 376 = 4 := by decide +kernel
theorem ze_376 {S : zSs} {D n u : Nat} {sh : zk_S} {d : zm_D} {Q : ((Option zv_V) ⊕ Nat) → Nat → zk_S → zm_D → Nat → Prop} {x0 : Int} {x1 : Int} {x2 : Int} {x3 : Int} : zE S D 376 [zv_a x0, zv_a x1, zv_i x2, zv_a x3] n sh d u Q ↔ zB S D 376 zb_376_0 [some (zv_a x0), some (zv_a x1), some (zv_i x2), some (zv_a x3)] [] n sh d u Q := by
  unfold zE; rw [zn_376, zc_376_0]; exact ⟨fun h => h.2, fun h => ⟨Nat.le_of_ble_eq_true rfl, h⟩⟩
theorem ze_376s {S : zSs} {D n u : Nat} {sh : zk_S} {d : zm_D} {Q : ((Option zv_V) ⊕ Nat) → Nat → zk_S → zm_D → Nat → Prop} {x0 : Int} {x1 : Int} {x2 : Int} : zE S D 376 [zv_a x0, zv_i x1, zv_a x2] n sh d u Q ↔ zB S D 376 zb_376_0 [some (zv_a x0), some (zv_i x1), some (zv_a x2), none] [] n sh d u Q := by
  unfold zE; rw [zn_376, zc_376_0]; exact ⟨fun h => h.2, fun h => ⟨Nat.le_of_ble_eq_true rfl, h⟩⟩
theorem zh_376 : zhl 376 = [(2, (1, 3))] := by decide +kernel
theorem zx_376_2 {S : zSs} {D n u : Nat} {sh : zk_S} {d : zm_D} {Q : ((Option zv_V) ⊕ Nat) → Nat → zk_S → zm_D → Nat → Prop} {is : List zI} {L : zN} {rest : List zv_V} : zA S D 376 is L rest Q (.inr 2) n sh d u ↔ zJ S D 376 1 (zclr L 3) [] n sh d u Q := by
  unfold zA; simp only [zh_376]; rfl
theorem zc_377_0 : zcd 377 0 = zb_377_0 := by decide +kernel
theorem zj_377_0 {S : zSs} {D n u : Nat} {sh : zk_S} {d : zm_D} {Q : ((Option zv_V) ⊕ Nat) → Nat → zk_S → zm_D → Nat → Prop} {L : zN} {st : List zv_V} : zJ S D 377 0 L st n sh d u Q ↔ zB S D 377 zb_377_0 L st n sh d u Q := by unfold zJ; rw [zc_377_0]
theorem zc_377_1 : zcd 377 1 = zb_377_1 := by decide +kernel
theorem zj_377_1 {S : zSs} {D n u : Nat} {sh : zk_S} {d : zm_D} {Q : ((Option zv_V) ⊕ Nat) → Nat → zk_S → zm_D → Nat → Prop} {L : zN} {st : List zv_V} : zJ S D 377 1 L st n sh d u Q ↔ zB S D 377 zb_377_1 L st n sh d u Q := by unfold zJ; rw [zc_377_1]
theorem zc_377_2 : zcd 377 2 = zb_377_2 := by decide +kernel
theorem zj_377_2 {S : zSs} {D n u : Nat} {sh : zk_S} {d : zm_D} {Q : ((Option zv_V) ⊕ Nat) → Nat → zk_S → zm_D → Nat → Prop} {L : zN} {st : List zv_V} : zJ S D 377 2 L st n sh d u Q ↔ zB S D 377 zb_377_2 L st n sh d u Q := by unfold zJ; rw [zc_377_2]
theorem zn_377 : znl 377 = 4 := by decide +kernel
theorem ze_377 {S : zSs} {D n u : Nat} {sh : zk_S} {d : zm_D} {Q : ((Option zv_V) ⊕ Nat) → Nat → zk_S → zm_D → Nat → Prop} {x0 : Int} {x1 : Int} {x2 : Int} {x3 : Int} : zE S D 377 [zv_a x0, zv_a x1, zv_i x2, zv_a x3] n sh d u Q ↔ zB S D 377 zb_377_0 [some (zv_a x0), some (zv_a x1), some (zv_i x2), some (zv_a x3)] [] n sh d u Q := by
  unfold zE; rw [zn_377, zc_377_0]; exact ⟨fun h => h.2, fun h => ⟨Nat.le_of_ble_eq_true rfl, h⟩⟩
theorem ze_377s {S : zSs} {D n u : Nat} {sh : zk_S} {d : zm_D} {Q : ((Option zv_V) ⊕ Nat) → Nat → zk_S → zm_D → Nat → Prop} {x0 : Int} {x1 : Int} {x2 : Int} : zE S D 377 [zv_a x0, zv_i x1, zv_a x2] n sh d u Q ↔ zB S D 377 zb_377_0 [some (zv_a x0), some (zv_i x1), some (zv_a x2), none] [] n sh d u Q := by
  unfold zE; rw [zn_377, zc_377_0]; exact ⟨fun h => h.2, fun h => ⟨Nat.le_of_ble_eq_true rfl, h⟩⟩
theorem zh_377 : zhl 377 = [(2, (1, 3))] := by decide +kernel
theorem zx_377_2 {S : zSs} {D n u : Nat} {sh : zk_S} {d : zm_D} {Q : ((Option zv_V) ⊕ Nat) → Nat → zk_S → zm_D → Nat → Prop} {is : List zI} {L : zN} {rest : List zv_V} : zA S D 377 is L rest Q (.inr 2) n sh d u ↔ zJ S D 377 1 (zclr L 3) [] n sh d u Q := by
  unfold zA; simp only [zh_377]; rfl
theorem zc_378_0 : zcd 378 0 = zb_378_0 := by decide +kernel
theorem zj_378_0 {S : zSs} {D n u : Nat} {sh : zk_S} {d : zm_D} {Q : ((Option zv_V) ⊕ Nat) → Nat → zk_S → zm_D → Nat → Prop} {L : zN} {st : List zv_V} : zJ S D 378 0 L st n sh d u Q ↔ zB S D 378 zb_378_0 L st n sh d u Q := by unfold zJ; rw [zc_378_0]
theorem zc_378_1 : zcd 378 1 = zb_378_1 := by decide +kernel
theorem zj_378_1 {S : zSs} {D n u : Nat} {sh : zk_S} {d : zm_D} {Q : ((Option zv_V) ⊕ Nat) → Nat → zk_S → zm_D → Nat → Prop} {L : zN} {st : List zv_V} : zJ S D 378 1 L st n sh d u Q ↔ zB S D 378 zb_378_1 L st n sh d u Q := by unfold zJ; rw [zc_378_1]
theorem zc_378_2 : zcd 378 2 = zb_378_2 := by decide +kernel
theorem zj_378_2 {S : zSs} {D n u : Nat} {sh : zk_S} {d : zm_D} {Q : ((Option zv_V) ⊕ Nat) → Nat → zk_S → zm_D → Nat → Prop} {L : zN} {st : List zv_V} : zJ S D 378 2 L st n sh d u Q ↔ zB S D 378 zb_378_2 L st n sh d u Q := by unfold zJ; rw [zc_378_2]
theorem zn_378 : znl 378 = 5 := by decide +kernel
theorem ze_378 {S : zSs} {D n u : Nat} {sh : zk_S} {d : zm_D} {Q : ((Option zv_V) ⊕ Nat) → Nat → zk_S → zm_D → Nat → Prop} {x0 : Int} {x1 : Int} {x2 : Int} {x3 : Int} {x4 : Int} : zE S D 378 [zv_a x0, zv_a x1, zv_i x2, zv_i x3, zv_a x4] n sh d u Q ↔ zB S D 378 zb_378_0 [some (zv_a x0), some (zv_a x1), some (zv_i x2), some (zv_i x3), some (zv_a x4)] [] n sh d u Q := by
  unfold zE; rw [zn_378, zc_378_0]; exact ⟨fun h => h.2, fun h => ⟨Nat.le_of_ble_eq_true rfl, h⟩⟩
theorem ze_378s {S : zSs} {D n u : Nat} {sh : zk_S} {d : zm_D} {Q : ((Option zv_V) ⊕ Nat) → Nat → zk_S → zm_D → Nat → Prop} {x0 : Int} {x1 : Int} {x2 : Int} {x3 : Int} : zE S D 378 [zv_a x0, zv_i x1, zv_i x2, zv_a x3] n sh d u Q ↔ zB S D 378 zb_378_0 [some (zv_a x0), some (zv_i x1), some (zv_i x2), some (zv_a x3), none] [] n sh d u Q := by
  unfold zE; rw [zn_378, zc_378_0]; exact ⟨fun h => h.2, fun h => ⟨Nat.le_of_ble_eq_true rfl, h⟩⟩
theorem zh_378 : zhl 378 = [(0, (1, 4))] := by decide +kernel
theorem zx_378_0 {S : zSs} {D n u : Nat} {sh : zk_S} {d : zm_D} {Q : ((Option zv_V) ⊕ Nat) → Nat → zk_S → zm_D → Nat → Prop} {is : List zI} {L : zN} {rest : List zv_V} : zA S D 378 is L rest Q (.inr 0) n sh d u ↔ zJ S D 378 1 (zclr L 4) [] n sh d u Q := by
  unfold zA; simp only [zh_378]; rfl
theorem zc_379_0 : zcd 379 0 = zb_379_0 := by decide +kernel
theorem zj_379_0 {S : zSs} {D n u : Nat} {sh : zk_S} {d : zm_D} {Q : ((Option zv_V) ⊕ Nat) → Nat → zk_S → zm_D → Nat → Prop} {L : zN} {st : List zv_V} : zJ S D 379 0 L st n sh d u Q ↔ zB S D 379 zb_379_0 L st n sh d u Q := by unfold zJ; rw [zc_379_0]
theorem zc_379_1 : zcd 379 1 = zb_379_1 := by decide +kernel
theorem zj_379_1 {S : zSs} {D n u : Nat} {sh : zk_S} {d : zm_D} {Q : ((Option zv_V) ⊕ Nat) → Nat → zk_S → zm_D → Nat → Prop} {L : zN} {st : List zv_V} : zJ S D 379 1 L st n sh d u Q ↔ zB S D 379 zb_379_1 L st n sh d u Q := by unfold zJ; rw [zc_379_1]
theorem zc_379_2 : zcd 379 2 = zb_379_2 := by decide +kernel
theorem zj_379_2 {S : zSs} {D n u : Nat} {sh : zk_S} {d : zm_D} {Q : ((Option zv_V) ⊕ Nat) → Nat → zk_S → zm_D → Nat → Prop} {L : zN} {st : List zv_V} : zJ S D 379 2 L st n sh d u Q ↔ zB S D 379 zb_379_2 L st n sh d u Q := by unfold zJ; rw [zc_379_2]
theorem zn_379 : znl 379 = 5 := by decide +kernel
theorem ze_379 {S : zSs} {D n u : Nat} {sh : zk_S} {d : zm_D} {Q : ((Option zv_V) ⊕ Nat) → Nat → zk_S → zm_D → Nat → Prop} {x0 : Int} {x1 : Int} {x2 : Int} {x3 : Int} {x4 : Int} : zE S D 379 [zv_a x0, zv_a x1, zv_i x2, zv_i x3, zv_a x4] n sh d u Q ↔ zB S D 379 zb_379_0 [some (zv_a x0), some (zv_a x1), some (zv_i x2), some (zv_i x3), some (zv_a x4)] [] n sh d u Q := by
  unfold zE; rw [zn_379, zc_379_0]; exact ⟨fun h => h.2, fun h => ⟨Nat.le_of_ble_eq_true rfl, h⟩⟩
theorem ze_379s {S : zSs} {D n u : Nat} {sh : zk_S} {d : zm_D} {Q : ((Option zv_V) ⊕ Nat) → Nat → zk_S → zm_D → Nat → Prop} {x0 : Int} {x1 : Int} {x2 : Int} {x3 : Int} : zE S D 379 [zv_a x0, zv_i x1, zv_i x2, zv_a x3] n sh d u Q ↔ zB S D 379 zb_379_0 [some (zv_a x0), some (zv_i x1), some (zv_i x2), some (zv_a x3), none] [] n sh d u Q := by
  unfold zE; rw [zn_379, zc_379_0]; exact ⟨fun h => h.2, fun h => ⟨Nat.le_of_ble_eq_true rfl, h⟩⟩
theorem zh_379 : zhl 379 = [(0, (1, 4))] := by decide +kernel
theorem zx_379_0 {S : zSs} {D n u : Nat} {sh : zk_S} {d : zm_D} {Q : ((Option zv_V) ⊕ Nat) → Nat → zk_S → zm_D → Nat → Prop} {is : List zI} {L : zN} {rest : List zv_V} : zA S D 379 is L rest Q (.inr 0) n sh d u ↔ zJ S D 379 1 (zclr L 4) [] n sh d u Q := by
  unfold zA; simp only [zh_379]; rfl
theorem zc_380_0 : zcd 380 0 = zb_380_0 := by decide +kernel
theorem zj_380_0 {S : zSs} {D n u : Nat} {sh : zk_S} {d : zm_D} {Q : ((Option zv_V) ⊕ Nat) → Nat → zk_S → zm_D → Nat → Prop} {L : zN} {st : List zv_V} : zJ S D 380 0 L st n sh d u Q ↔ zB S D 380 zb_380_0 L st n sh d u Q := by unfold zJ; rw [zc_380_0]
theorem zc_380_1 : zcd 380 1 = zb_380_1 := by decide +kernel
theorem zj_380_1 {S : zSs} {D n u : Nat} {sh : zk_S} {d : zm_D} {Q : ((Option zv_V) ⊕ Nat) → Nat → zk_S → zm_D → Nat → Prop} {L : zN} {st : List zv_V} : zJ S D 380 1 L st n sh d u Q ↔ zB S D 380 zb_380_1 L st n sh d u Q := by unfold zJ; rw [zc_380_1]
theorem zc_380_2 : zcd 380 2 = zb_380_2 := by decide +kernel
theorem zj_380_2 {S : zSs} {D n u : Nat} {sh : zk_S} {d : zm_D} {Q : ((Option zv_V) ⊕ Nat) → Nat → zk_S → zm_D → Nat → Prop} {L : zN} {st : List zv_V} : zJ S D 380 2 L st n sh d u Q ↔ zB S D 380 zb_380_2 L st n sh d u Q := by unfold zJ; rw [zc_380_2]
theorem zn_380 : znl 380 = 3 := by decide +kernel
theorem ze_380 {S : zSs} {D n u : Nat} {sh : zk_S} {d : zm_D} {Q : ((Option zv_V) ⊕ Nat) → Nat → zk_S → zm_D → Nat → Prop} {x0 : Int} {x1 : Int} {x2 : Int} : zE S D 380 [zv_a x0, zv_a x1, zv_a x2] n sh d u Q ↔ zB S D 380 zb_380_0 [some (zv_a x0), some (zv_a x1), some (zv_a x2)] [] n sh d u Q := by
  unfold zE; rw [zn_380, zc_380_0]; exact ⟨fun h => h.2, fun h => ⟨Nat.le_of_ble_eq_true rfl, h⟩⟩
theorem ze_380s {S : zSs} {D n u : Nat} {sh : zk_S} {d : zm_D} {Q : ((Option zv_V) ⊕ Nat) → Nat → zk_S → zm_D → Nat → Prop} {x0 : Int} {x1 : Int} : zE S D 380 [zv_a x0, zv_a x1] n sh d u Q ↔ zB S D 380 zb_380_0 [some (zv_a x0), some (zv_a x1), none] [] n sh d u Q := by
  unfold zE; rw [zn_380, zc_380_0]; exact ⟨fun h => h.2, fun h => ⟨Nat.le_of_ble_eq_true rfl, h⟩⟩
theorem zh_380 : zhl 380 = [(5, (1, 2))] := by decide +kernel
theorem zx_380_5 {S : zSs} {D n u : Nat} {sh : zk_S} {d : zm_D} {Q : ((Option zv_V) ⊕ Nat) → Nat → zk_S → zm_D → Nat → Prop} {is : List zI} {L : zN} {rest : List zv_V} : zA S D 380 is L rest Q (.inr 5) n sh d u ↔ zJ S D 380 1 (zclr L 2) [] n sh d u Q := by
  unfold zA; simp only [zh_380]; rfl
theorem zc_381_0 : zcd 381 0 = zb_381_0 := by decide +kernel
theorem zj_381_0 {S : zSs} {D n u : Nat} {sh : zk_S} {d : zm_D} {Q : ((Option zv_V) ⊕ Nat) → Nat → zk_S → zm_D → Nat → Prop} {L : zN} {st : List zv_V} : zJ S D 381 0 L st n sh d u Q ↔ zB S D 381 zb_381_0 L st n sh d u Q := by unfold zJ; rw [zc_381_0]
theorem zc_381_1 : zcd 381 1 = zb_381_1 := by decide +kernel
theorem zj_381_1 {S : zSs} {D n u : Nat} {sh : zk_S} {d : zm_D} {Q : ((Option zv_V) ⊕ Nat) → Nat → zk_S → zm_D → Nat → Prop} {L : zN} {st : List zv_V} : zJ S D 381 1 L st n sh d u Q ↔ zB S D 381 zb_381_1 L st n sh d u Q := by unfold zJ; rw [zc_381_1]
theorem zc_381_2 : zcd 381 2 = zb_381_2 := by decide +kernel
theorem zj_381_2 {S : zSs} {D n u : Nat} {sh : zk_S} {d : zm_D} {Q : ((Option zv_V) ⊕ Nat) → Nat → zk_S → zm_D → Nat → Prop} {L : zN} {st : List zv_V} : zJ S D 381 2 L st n sh d u Q ↔ zB S D 381 zb_381_2 L st n sh d u Q := by unfold zJ; rw [zc_381_2]
theorem zn_381 : znl 381 = 3 := by decide +kernel
theorem ze_381 {S : zSs} {D n u : Nat} {sh : zk_S} {d : zm_D} {Q : ((Option zv_V) ⊕ Nat) → Nat → zk_S → zm_D → Nat → Prop} {x0 : Int} {x1 : Int} {x2 : Int} : zE S D 381 [zv_a x0, zv_a x1, zv_a x2] n sh d u Q ↔ zB S D 381 zb_381_0 [some (zv_a x0), some (zv_a x1), some (zv_a x2)] [] n sh d u Q := by
  unfold zE; rw [zn_381, zc_381_0]; exact ⟨fun h => h.2, fun h => ⟨Nat.le_of_ble_eq_true rfl, h⟩⟩
theorem ze_381s {S : zSs} {D n u : Nat} {sh : zk_S} {d : zm_D} {Q : ((Option zv_V) ⊕ Nat) → Nat → zk_S → zm_D → Nat → Prop} {x0 : Int} {x1 : Int} : zE S D 381 [zv_a x0, zv_a x1] n sh d u Q ↔ zB S D 381 zb_381_0 [some (zv_a x0), some (zv_a x1), none] [] n sh d u Q := by
  unfold zE; rw [zn_381, zc_381_0]; exact ⟨fun h => h.2, fun h => ⟨Nat.le_of_ble_eq_true rfl, h⟩⟩
theorem zh_381 : zhl 381 = [(5, (1, 2))] := by decide +kernel
theorem zx_381_5 {S : zSs} {D n u : Nat} {sh : zk_S} {d : zm_D} {Q : ((Option zv_V) ⊕ Nat) → Nat → zk_S → zm_D → Nat → Prop} {is : List zI} {L : zN} {rest : List zv_V} : zA S D 381 is L rest Q (.inr 5) n sh d u ↔ zJ S D 381 1 (zclr L 2) [] n sh d u Q := by
  unfold zA; simp only [zh_381]; rfl
theorem zc_382_0 : zcd 382 0 = zb_382_0 := by decide +kernel
theorem zj_382_0 {S : zSs} {D n u : Nat} {sh : zk_S} {d : zm_D} {Q : ((Option zv_V) ⊕ Nat) → Nat → zk_S → zm_D → Nat → Prop} {L : zN} {st : List zv_V} : zJ S D 382 0 L st n sh d u Q ↔ zB S D 382 zb_382_0 L st n sh d u Q := by unfold zJ; rw [zc_382_0]
theorem zc_382_1 : zcd 382 1 = zb_382_1 := by decide +kernel
theorem zj_382_1 {S : zSs} {D n u : Nat} {sh : zk_S} {d : zm_D} {Q : ((Option zv_V) ⊕ Nat) → Nat → zk_S → zm_D → Nat → Prop} {L : zN} {st : List zv_V} : zJ S D 382 1 L st n sh d u Q ↔ zB S D 382 zb_382_1 L st n sh d u Q := by unfold zJ; rw [zc_382_1]
theorem zc_382_2 : zcd 382 2 = zb_382_2 := by decide +kernel
theorem zj_382_2 {S : zSs} {D n u : Nat} {sh : zk_S} {d : zm_D} {Q : ((Option zv_V) ⊕ Nat) → Nat → zk_S → zm_D → Nat → Prop} {L : zN} {st : List zv_V} : zJ S D 382 2 L st n sh d u Q ↔ zB S D 382 zb_382_2 L st n sh d u Q := by unfold zJ; rw [zc_382_2]
theorem zc_382_3 : zcd 382 3 = zb_382_3 := by decide +kernel
theorem zj_382_3 {S : zSs} {D n u : Nat} {sh : zk_S} {d : zm_D} {Q : ((Option zv_V) ⊕ Nat) → Nat → zk_S → zm_D → Nat → Prop} {L : zN} {st : List zv_V} : zJ S D 382 3 L st n sh d u Q ↔ zB S D 382 zb_382_3 L st n sh d u Q := by unfold zJ; rw [zc_382_3]
theorem zc_382_4 : zcd 382 4 = zb_382_4 := by decide +kernel
theorem zj_382_4 {S : zSs} {D n u : Nat} {sh : zk_S} {d : zm_D} {Q : ((Option zv_V) ⊕ Nat) → Nat → zk_S → zm_D → Nat → Prop} {L : zN} {st : List zv_V} : zJ S D 382 4 L st n sh d u Q ↔ zB S D 382 zb_382_4 L st n sh d u Q := by unfold zJ; rw [zc_382_4]
theorem zc_382_5 : zcd 382 5 = zb_382_5 := by decide +kernel
theorem zj_382_5 {S : zSs} {D n u : Nat} {sh : zk_S} {d : zm_D} {Q : ((Option zv_V) ⊕ Nat) → Nat → zk_S → zm_D → Nat → Prop} {L : zN} {st : List zv_V} : zJ S D 382 5 L st n sh d u Q ↔ zB S D 382 zb_382_5 L st n sh d u Q := by unfold zJ; rw [zc_382_5]
theorem zc_382_6 : zcd 382 6 = zb_382_6 := by decide +kernel
theorem zj_382_6 {S : zSs} {D n u : Nat} {sh : zk_S} {d : zm_D} {Q : ((Option zv_V) ⊕ Nat) → Nat → zk_S → zm_D → Nat → Prop} {L : zN} {st : List zv_V} : zJ S D 382 6 L st n sh d u Q ↔ zB S D 382 zb_382_6 L st n sh d u Q := by unfold zJ; rw [zc_382_6]
theorem zc_382_7 : zcd 382 7 = zb_382_7 := by decide +kernel
theorem zj_382_7 {S : zSs} {D n u : Nat} {sh : zk_S} {d : zm_D} {Q : ((Option zv_V) ⊕ Nat) → Nat → zk_S → zm_D → Nat → Prop} {L : zN} {st : List zv_V} : zJ S D 382 7 L st n sh d u Q ↔ zB S D 382 zb_382_7 L st n sh d u Q := by unfold zJ; rw [zc_382_7]
theorem zc_382_8 : zcd 382 8 = zb_382_8 := by decide +kernel
theorem zj_382_8 {S : zSs} {D n u : Nat} {sh : zk_S} {d : zm_D} {Q : ((Option zv_V) ⊕ Nat) → Nat → zk_S → zm_D → Nat → Prop} {L : zN} {st : List zv_V} : zJ S D 382 8 L st n sh d u Q ↔ zB S D 382 zb_382_8 L st n sh d u Q := by unfold zJ; rw [zc_382_8]
theorem zc_382_9 : zcd 382 9 = zb_382_9 := by decide +kernel
theorem zj_382_9 {S : zSs} {D n u : Nat} {sh : zk_S} {d : zm_D} {Q : ((Option zv_V) ⊕ Nat) → Nat → zk_S → zm_D → Nat → Prop} {L : zN} {st : List zv_V} : zJ S D 382 9 L st n sh d u Q ↔ zB S D 382 zb_382_9 L st n sh d u Q := by unfold zJ; rw [zc_382_9]
theorem zc_382_10 : zcd 382 10 = zb_382_10 := by decide +kernel
theorem zj_382_10 {S : zSs} {D n u : Nat} {sh : zk_S} {d : zm_D} {Q : ((Option zv_V) ⊕ Nat) → Nat → zk_S → zm_D → Nat → Prop} {L : zN} {st : List zv_V} : zJ S D 382 10 L st n sh d u Q ↔ zB S D 382 zb_382_10 L st n sh d u Q := by unfold zJ; rw [zc_382_10]
theorem zc_382_11 : zcd 382 11 = zb_382_11 := by decide +kernel
theorem zj_382_11 {S : zSs} {D n u : Nat} {sh : zk_S} {d : zm_D} {Q : ((Option zv_V) ⊕ Nat) → Nat → zk_S → zm_D → Nat → Prop} {L : zN} {st : List zv_V} : zJ S D 382 11 L st n sh d u Q ↔ zB S D 382 zb_382_11 L st n sh d u Q := by unfold zJ; rw [zc_382_11]
theorem zc_382_12 : zcd 382 12 = zb_382_12 := by decide +kernel
theorem zj_382_12 {S : zSs} {D n u : Nat} {sh : zk_S} {d : zm_D} {Q : ((Option zv_V) ⊕ Nat) → Nat → zk_S → zm_D → Nat → Prop} {L : zN} {st : List zv_V} : zJ S D 382 12 L st n sh d u Q ↔ zB S D 382 zb_382_12 L st n sh d u Q := by unfold zJ; rw [zc_382_12]
theorem zc_382_13 : zcd 382 13 = zb_382_13 := by decide +kernel
theorem zj_382_13 {S : zSs} {D n u : Nat} {sh : zk_S} {d : zm_D} {Q : ((Option zv_V) ⊕ Nat) → Nat → zk_S → zm_D → Nat → Prop} {L : zN} {st : List zv_V} : zJ S D 382 13 L st n sh d u Q ↔ zB S D 382 zb_382_13 L st n sh d u Q := by unfold zJ; rw [zc_382_13]
theorem zc_382_14 : zcd 382 14 = zb_382_14 := by decide +kernel
theorem zj_382_14 {S : zSs} {D n u : Nat} {sh : zk_S} {d : zm_D} {Q : ((Option zv_V) ⊕ Nat) → Nat → zk_S → zm_D → Nat → Prop} {L : zN} {st : List zv_V} : zJ S D 382 14 L st n sh d u Q ↔ zB S D 382 zb_382_14 L st n sh d u Q := by unfold zJ; rw [zc_382_14]
theorem zc_382_15 : zcd 382 15 = zb_382_15 := by decide +kernel
theorem zj_382_15 {S : zSs} {D n u : Nat} {sh : zk_S} {d : zm_D} {Q : ((Option zv_V) ⊕ Nat) → Nat → zk_S → zm_D → Nat → Prop} {L : zN} {st : List zv_V} : zJ S D 382 15 L st n sh d u Q ↔ zB S D 382 zb_382_15 L st n sh d u Q := by unfold zJ; rw [zc_382_15]
theorem zc_382_16 : zcd 382 16 = zb_382_16 := by decide +kernel
theorem zj_382_16 {S : zSs} {D n u : Nat} {sh : zk_S} {d : zm_D} {Q : ((Option zv_V) ⊕ Nat) → Nat → zk_S → zm_D → Nat → Prop} {L : zN} {st : List zv_V} : zJ S D 382 16 L st n sh d u Q ↔ zB S D 382 zb_382_16 L st n sh d u Q := by unfold zJ; rw [zc_382_16]
theorem zc_382_17 : zcd 382 17 = zb_382_17 := by decide +kernel
theorem zj_382_17 {S : zSs} {D n u : Nat} {sh : zk_S} {d : zm_D} {Q : ((Option zv_V) ⊕ Nat) → Nat → zk_S → zm_D → Nat → Prop} {L : zN} {st : List zv_V} : zJ S D 382 17 L st n sh d u Q ↔ zB S D 382 zb_382_17 L st n sh d u Q := by unfold zJ; rw [zc_382_17]
theorem zc_382_18 : zcd 382 18 = zb_382_18 := by decide +kernel
theorem zj_382_18 {S : zSs} {D n u : Nat} {sh : zk_S} {d : zm_D} {Q : ((Option zv_V) ⊕ Nat) → Nat → zk_S → zm_D → Nat → Prop} {L : zN} {st : List zv_V} : zJ S D 382 18 L st n sh d u Q ↔ zB S D 382 zb_382_18 L st n sh d u Q := by unfold zJ; rw [zc_382_18]
theorem zc_382_19 : zcd 382 19 = zb_382_19 := by decide +kernel
theorem zj_382_19 {S : zSs} {D n u : Nat} {sh : zk_S} {d : zm_D} {Q : ((Option zv_V) ⊕ Nat) → Nat → zk_S → zm_D → Nat → Prop} {L : zN} {st : List zv_V} : zJ S D 382 19 L st n sh d u Q ↔ zB S D 382 zb_382_19 L st n sh d u Q := by unfold zJ; rw [zc_382_19]
theorem zc_382_20 : zcd 382 20 = zb_382_20 := by decide +kernel
theorem zj_382_20 {S : zSs} {D n u : Nat} {sh : zk_S} {d : zm_D} {Q : ((Option zv_V) ⊕ Nat) → Nat → zk_S → zm_D → Nat → Prop} {L : zN} {st : List zv_V} : zJ S D 382 20 L st n sh d u Q ↔ zB S D 382 zb_382_20 L st n sh d u Q := by unfold zJ; rw [zc_382_20]
theorem zc_382_21 : zcd 382 21 = zb_382_21 := by decide +kernel
theorem zj_382_21 {S : zSs} {D n u : Nat} {sh : zk_S} {d : zm_D} {Q : ((Option zv_V) ⊕ Nat) → Nat → zk_S → zm_D → Nat → Prop} {L : zN} {st : List zv_V} : zJ S D 382 21 L st n sh d u Q ↔ zB S D 382 zb_382_21 L st n sh d u Q := by unfold zJ; rw [zc_382_21]
theorem zc_382_22 : zcd 382 22 = zb_382_22 := by decide +kernel
theorem zj_382_22 {S : zSs} {D n u : Nat} {sh : zk_S} {d : zm_D} {Q : ((Option zv_V) ⊕ Nat) → Nat → zk_S → zm_D → Nat → Prop} {L : zN} {st : List zv_V} : zJ S D 382 22 L st n sh d u Q ↔ zB S D 382 zb_382_22 L st n sh d u Q := by unfold zJ; rw [zc_382_22]
theorem zc_382_23 : zcd 382 23 = zb_382_23 := by decide +kernel
theorem zj_382_23 {S : zSs} {D n u : Nat} {sh : zk_S} {d : zm_D} {Q : ((Option zv_V) ⊕ Nat) → Nat → zk_S → zm_D → Nat → Prop} {L : zN} {st : List zv_V} : zJ S D 382 23 L st n sh d u Q ↔ zB S D 382 zb_382_23 L st n sh d u Q := by unfold zJ; rw [zc_382_23]
theorem zc_382_24 : zcd 382 24 = zb_382_24 := by decide +kernel
theorem zj_382_24 {S : zSs} {D n u : Nat} {sh : zk_S} {d : zm_D} {Q : ((Option zv_V) ⊕ Nat) → Nat → zk_S → zm_D → Nat → Prop} {L : zN} {st : List zv_V} : zJ S D 382 24 L st n sh d u Q ↔ zB S D 382 zb_382_24 L st n sh d u Q := by unfold zJ; rw [zc_382_24]
theorem zc_382_25 : zcd 382 25 = zb_382_25 := by decide +kernel
theorem zj_382_25 {S : zSs} {D n u : Nat} {sh : zk_S} {d : zm_D} {Q : ((Option zv_V) ⊕ Nat) → Nat → zk_S → zm_D → Nat → Prop} {L : zN} {st : List zv_V} : zJ S D 382 25 L st n sh d u Q ↔ zB S D 382 zb_382_25 L st n sh d u Q := by unfold zJ; rw [zc_382_25]
theorem zc_382_26 : zcd 382 26 = zb_382_26 := by decide +kernel
theorem zj_382_26 {S : zSs} {D n u : Nat} {sh : zk_S} {d : zm_D} {Q : ((Option zv_V) ⊕ Nat) → Nat → zk_S → zm_D → Nat → Prop} {L : zN} {st : List zv_V} : zJ S D 382 26 L st n sh d u Q ↔ zB S D 382 zb_382_26 L st n sh d u Q := by unfold zJ; rw [zc_382_26]
theorem zc_382_27 : zcd 382 27 = zb_382_27 := by decide +kernel
theorem zj_382_27 {S : zSs} {D n u : Nat} {sh : zk_S} {d : zm_D} {Q : ((Option zv_V) ⊕ Nat) → Nat → zk_S → zm_D → Nat → Prop} {L : zN} {st : List zv_V} : zJ S D 382 27 L st n sh d u Q ↔ zB S D 382 zb_382_27 L st n sh d u Q := by unfold zJ; rw [zc_382_27]
theorem zc_382_28 : zcd 382 28 = zb_382_28 := by decide +kernel
theorem zj_382_28 {S : zSs} {D n u : Nat} {sh : zk_S} {d : zm_D} {Q : ((Option zv_V) ⊕ Nat) → Nat → zk_S → zm_D → Nat → Prop} {L : zN} {st : List zv_V} : zJ S D 382 28 L st n sh d u Q ↔ zB S D 382 zb_382_28 L st n sh d u Q := by unfold zJ; rw [zc_382_28]
theorem zc_382_29 : zcd 382 29 = zb_382_29 := by decide +kernel
theorem zj_382_29 {S : zSs} {D n u : Nat} {sh : zk_S} {d : zm_D} {Q : ((Option zv_V) ⊕ Nat) → Nat → zk_S → zm_D → Nat → Prop} {L : zN} {st : List zv_V} : zJ S D 382 29 L st n sh d u Q ↔ zB S D 382 zb_382_29 L st n sh d u Q := by unfold zJ; rw [zc_382_29]
theorem zc_382_30 : zcd 382 30 = zb_382_30 := by decide +kernel
theorem zj_382_30 {S : zSs} {D n u : Nat} {sh : zk_S} {d : zm_D} {Q : ((Option zv_V) ⊕ Nat) → Nat → zk_S → zm_D → Nat → Prop} {L : zN} {st : List zv_V} : zJ S D 382 30 L st n sh d u Q ↔ zB S D 382 zb_382_30 L st n sh d u Q := by unfold zJ; rw [zc_382_30]
theorem zc_382_31 : zcd 382 31 = zb_382_31 := by decide +kernel
theorem zj_382_31 {S : zSs} {D n u : Nat} {sh : zk_S} {d : zm_D} {Q : ((Option zv_V) ⊕ Nat) → Nat → zk_S → zm_D → Nat → Prop} {L : zN} {st : List zv_V} : zJ S D 382 31 L st n sh d u Q ↔ zB S D 382 zb_382_31 L st n sh d u Q := by unfold zJ; rw [zc_382_31]
theorem zc_382_32 : zcd 382 32 = zb_382_32 := by decide +kernel
theorem zj_382_32 {S : zSs} {D n u : Nat} {sh : zk_S} {d : zm_D} {Q : ((Option zv_V) ⊕ Nat) → Nat → zk_S → zm_D → Nat → Prop} {L : zN} {st : List zv_V} : zJ S D 382 32 L st n sh d u Q ↔ zB S D 382 zb_382_32 L st n sh d u Q := by unfold zJ; rw [zc_382_32]
theorem zc_382_33 : zcd 382 33 = zb_382_33 := by decide +kernel
theorem zj_382_33 {S : zSs} {D n u : Nat} {sh : zk_S} {d : zm_D} {Q : ((Option zv_V) ⊕ Nat) → Nat → zk_S → zm_D → Nat → Prop} {L : zN} {st : List zv_V} : zJ S D 382 33 L st n sh d u Q ↔ zB S D 382 zb_382_33 L st n sh d u Q := by unfold zJ; rw [zc_382_33]
theorem zc_382_34 : zcd 382 34 = zb_382_34 := by decide +kernel
theorem zj_382_34 {S : zSs} {D n u : Nat} {sh : zk_S} {d : zm_D} {Q : ((Option zv_V) ⊕ Nat) → Nat → zk_S → zm_D → Nat → Prop} {L : zN} {st : List zv_V} : zJ S D 382 34 L st n sh d u Q ↔ zB S D 382 zb_382_34 L st n sh d u Q := by unfold zJ; rw [zc_382_34]
theorem zc_382_35 : zcd 382 35 = zb_382_35 := by decide +kernel
theorem zj_382_35 {S : zSs} {D n u : Nat} {sh : zk_S} {d : zm_D} {Q : ((Option zv_V) ⊕ Nat) → Nat → zk_S → zm_D → Nat → Prop} {L : zN} {st : List zv_V} : zJ S D 382 35 L st n sh d u Q ↔ zB S D 382 zb_382_35 L st n sh d u Q := by unfold zJ; rw [zc_382_35]
theorem zc_382_36 : zcd 382 36 = zb_382_36 := by decide +kernel
theorem zj_382_36 {S : zSs} {D n u : Nat} {sh : zk_S} {d : zm_D} {Q : ((Option zv_V) ⊕ Nat) → Nat → zk_S → zm_D → Nat → Prop} {L : zN} {st : List zv_V} : zJ S D 382 36 L st n sh d u Q ↔ zB S D 382 zb_382_36 L st n sh d u Q := by unfold zJ; rw [zc_382_36]
theorem zc_382_37 : zcd 382 37 = zb_382_37 := by decide +kernel
theorem zj_382_37 {S : zSs} {D n u : Nat} {sh : zk_S} {d : zm_D} {Q : ((Option zv_V) ⊕ Nat) → Nat → zk_S → zm_D → Nat → Prop} {L : zN} {st : List zv_V} : zJ S D 382 37 L st n sh d u Q ↔ zB S D 382 zb_382_37 L st n sh d u Q := by unfold zJ; rw [zc_382_37]
theorem zc_382_38 : zcd 382 38 = zb_382_38 := by decide +kernel
theorem zj_382_38 {S : zSs} {D n u : Nat} {sh : zk_S} {d : zm_D} {Q : ((Option zv_V) ⊕ Nat) → Nat → zk_S → zm_D → Nat → Prop} {L : zN} {st : List zv_V} : zJ S D 382 38 L st n sh d u Q ↔ zB S D 382 zb_382_38 L st n sh d u Q := by unfold zJ; rw [zc_382_38]
theorem zc_382_39 : zcd 382 39 = zb_382_39 := by decide +kernel
theorem zj_382_39 {S : zSs} {D n u : Nat} {sh : zk_S} {d : zm_D} {Q : ((Option zv_V) ⊕ Nat) → Nat → zk_S → zm_D → Nat → Prop} {L : zN} {st : List zv_V} : zJ S D 382 39 L st n sh d u Q ↔ zB S D 382 zb_382_39 L st n sh d u Q := by unfold zJ; rw [zc_382_39]
theorem zc_382_40 : zcd 382 40 = zb_382_40 := by decide +kernel
theorem zj_382_40 {S : zSs} {D n u : Nat} {sh : zk_S} {d : zm_D} {Q : ((Option zv_V) ⊕ Nat) → Nat → zk_S → zm_D → Nat → Prop} {L : zN} {st : List zv_V} : zJ S D 382 40 L st n sh d u Q ↔ zB S D 382 zb_382_40 L st n sh d u Q := by unfold zJ; rw [zc_382_40]
theorem zc_382_41 : zcd 382 41 = zb_382_41 := by decide +kernel
theorem zj_382_41 {S : zSs} {D n u : Nat} {sh : zk_S} {d : zm_D} {Q : ((Option zv_V) ⊕ Nat) → Nat → zk_S → zm_D → Nat → Prop} {L : zN} {st : List zv_V} : zJ S D 382 41 L st n sh d u Q ↔ zB S D 382 zb_382_41 L st n sh d u Q := by unfold zJ; rw [zc_382_41]
theorem zc_382_42 : zcd 382 42 = zb_382_42 := by decide +kernel
theorem zj_382_42 {S : zSs} {D n u : Nat} {sh : zk_S} {d : zm_D} {Q : ((Option zv_V) ⊕ Nat) → Nat → zk_S → zm_D → Nat → Prop} {L : zN} {st : List zv_V} : zJ S D 382 42 L st n sh d u Q ↔ zB S D 382 zb_382_42 L st n sh d u Q := by unfold zJ; rw [zc_382_42]
theorem zc_382_43 : zcd 382 43 = zb_382_43 := by decide +kernel
theorem zj_382_43 {S : zSs} {D n u : Nat} {sh : zk_S} {d : zm_D} {Q : ((Option zv_V) ⊕ Nat) → Nat → zk_S → zm_D → Nat → Prop} {L : zN} {st : List zv_V} : zJ S D 382 43 L st n sh d u Q ↔ zB S D 382 zb_382_43 L st n sh d u Q := by unfold zJ; rw [zc_382_43]
theorem zc_382_44 : zcd 382 44 = zb_382_44 := by decide +kernel
theorem zj_382_44 {S : zSs} {D n u : Nat} {sh : zk_S} {d : zm_D} {Q : ((Option zv_V) ⊕ Nat) → Nat → zk_S → zm_D → Nat → Prop} {L : zN} {st : List zv_V} : zJ S D 382 44 L st n sh d u Q ↔ zB S D 382 zb_382_44 L st n sh d u Q := by unfold zJ; rw [zc_382_44]
theorem zc_382_45 : zcd 382 45 = zb_382_45 := by decide +kernel
theorem zj_382_45 {S : zSs} {D n u : Nat} {sh : zk_S} {d : zm_D} {Q : ((Option zv_V) ⊕ Nat) → Nat → zk_S → zm_D → Nat → Prop} {L : zN} {st : List zv_V} : zJ S D 382 45 L st n sh d u Q ↔ zB S D 382 zb_382_45 L st n sh d u Q := by unfold zJ; rw [zc_382_45]
theorem zc_382_46 : zcd 382 46 = zb_382_46 := by decide +kernel
theorem zj_382_46 {S : zSs} {D n u : Nat} {sh : zk_S} {d : zm_D} {Q : ((Option zv_V) ⊕ Nat) → Nat → zk_S → zm_D → Nat → Prop} {L : zN} {st : List zv_V} : zJ S D 382 46 L st n sh d u Q ↔ zB S D 382 zb_382_46 L st n sh d u Q := by unfold zJ; rw [zc_382_46]
theorem zc_382_47 : zcd 382 47 = zb_382_47 := by decide +kernel
theorem zj_382_47 {S : zSs} {D n u : Nat} {sh : zk_S} {d : zm_D} {Q : ((Option zv_V) ⊕ Nat) → Nat → zk_S → zm_D → Nat → Prop} {L : zN} {st : List zv_V} : zJ S D 382 47 L st n sh d u Q ↔ zB S D 382 zb_382_47 L st n sh d u Q := by unfold zJ; rw [zc_382_47]
theorem zc_382_48 : zcd 382 48 = zb_382_48 := by decide +kernel
theorem zj_382_48 {S : zSs} {D n u : Nat} {sh : zk_S} {d : zm_D} {Q : ((Option zv_V) ⊕ Nat) → Nat → zk_S → zm_D → Nat → Prop} {L : zN} {st : List zv_V} : zJ S D 382 48 L st n sh d u Q ↔ zB S D 382 zb_382_48 L st n sh d u Q := by unfold zJ; rw [zc_382_48]
theorem zc_382_49 : zcd 382 49 = zb_382_49 := by decide +kernel
theorem zj_382_49 {S : zSs} {D n u : Nat} {sh : zk_S} {d : zm_D} {Q : ((Option zv_V) ⊕ Nat) → Nat → zk_S → zm_D → Nat → Prop} {L : zN} {st : List zv_V} : zJ S D 382 49 L st n sh d u Q ↔ zB S D 382 zb_382_49 L st n sh d u Q := by unfold zJ; rw [zc_382_49]
theorem zc_382_50 : zcd 382 50 = zb_382_50 := by decide +kernel
theorem zj_382_50 {S : zSs} {D n u : Nat} {sh : zk_S} {d : zm_D} {Q : ((Option zv_V) ⊕ Nat) → Nat → zk_S → zm_D → Nat → Prop} {L : zN} {st : List zv_V} : zJ S D 382 50 L st n sh d u Q ↔ zB S D 382 zb_382_50 L st n sh d u Q := by unfold zJ; rw [zc_382_50]
theorem zc_382_51 : zcd 382 51 = zb_382_51 := by decide +kernel
theorem zj_382_51 {S : zSs} {D n u : Nat} {sh : zk_S} {d : zm_D} {Q : ((Option zv_V) ⊕ Nat) → Nat → zk_S → zm_D → Nat → Prop} {L : zN} {st : List zv_V} : zJ S D 382 51 L st n sh d u Q ↔ zB S D 382 zb_382_51 L st n sh d u Q := by unfold zJ; rw [zc_382_51]
theorem zc_382_52 : zcd 382 52 = zb_382_52 := by decide +kernel
theorem zj_382_52 {S : zSs} {D n u : Nat} {sh : zk_S} {d : zm_D} {Q : ((Option zv_V) ⊕ Nat) → Nat → zk_S → zm_D → Nat → Prop} {L : zN} {st : List zv_V} : zJ S D 382 52 L st n sh d u Q ↔ zB S D 382 zb_382_52 L st n sh d u Q := by unfold zJ; rw [zc_382_52]
theorem zc_382_53 : zcd 382 53 = zb_382_53 := by decide +kernel
theorem zj_382_53 {S : zSs} {D n u : Nat} {sh : zk_S} {d : zm_D} {Q : ((Option zv_V) ⊕ Nat) → Nat → zk_S → zm_D → Nat → Prop} {L : zN} {st : List zv_V} : zJ S D 382 53 L st n sh d u Q ↔ zB S D 382 zb_382_53 L st n sh d u Q := by unfold zJ; rw [zc_382_53]
theorem zc_382_54 : zcd 382 54 = zb_382_54 := by decide +kernel
theorem zj_382_54 {S : zSs} {D n u : Nat} {sh : zk_S} {d : zm_D} {Q : ((Option zv_V) ⊕ Nat) → Nat → zk_S → zm_D → Nat → Prop} {L : zN} {st : List zv_V} : zJ S D 382 54 L st n sh d u Q ↔ zB S D 382 zb_382_54 L st n sh d u Q := by unfold zJ; rw [zc_382_54]
theorem zc_382_55 : zcd 382 55 = zb_382_55 := by decide +kernel
theorem zj_382_55 {S : zSs} {D n u : Nat} {sh : zk_S} {d : zm_D} {Q : ((Option zv_V) ⊕ Nat) → Nat → zk_S → zm_D → Nat → Prop} {L : zN} {st : List zv_V} : zJ S D 382 55 L st n sh d u Q ↔ zB S D 382 zb_382_55 L st n sh d u Q := by unfold zJ; rw [zc_382_55]
theorem zc_382_56 : zcd 382 56 = zb_382_56 := by decide +kernel
theorem zj_382_56 {S : zSs} {D n u : Nat} {sh : zk_S} {d : zm_D} {Q : ((Option zv_V) ⊕ Nat) → Nat → zk_S → zm_D → Nat → Prop} {L : zN} {st : List zv_V} : zJ S D 382 56 L st n sh d u Q ↔ zB S D 382 zb_382_56 L st n sh d u Q := by unfold zJ; rw [zc_382_56]
theorem zc_382_57 : zcd 382 57 = zb_382_57 := by decide +kernel
theorem zj_382_57 {S : zSs} {D n u : Nat} {sh : zk_S} {d : zm_D} {Q : ((Option zv_V) ⊕ Nat) → Nat → zk_S → zm_D → Nat → Prop} {L : zN} {st : List zv_V} : zJ S D 382 57 L st n sh d u Q ↔ zB S D 382 zb_382_57 L st n sh d u Q := by unfold zJ; rw [zc_382_57]
theorem zc_382_58 : zcd 382 58 = zb_382_58 := by decide +kernel
theorem zj_382_58 {S : zSs} {D n u : Nat} {sh : zk_S} {d : zm_D} {Q : ((Option zv_V) ⊕ Nat) → Nat → zk_S → zm_D → Nat → Prop} {L : zN} {st : List zv_V} : zJ S D 382 58 L st n sh d u Q ↔ zB S D 382 zb_382_58 L st n sh d u Q := by unfold zJ; rw [zc_382_58]
theorem zc_382_59 : zcd 382 59 = zb_382_59 := by decide +kernel
theorem zj_382_59 {S : zSs} {D n u : Nat} {sh : zk_S} {d : zm_D} {Q : ((Option zv_V) ⊕ Nat) → Nat → zk_S → zm_D → Nat → Prop} {L : zN} {st : List zv_V} : zJ S D 382 59 L st n sh d u Q ↔ zB S D 382 zb_382_59 L st n sh d u Q := by unfold zJ; rw [zc_382_59]
theorem zc_382_60 : zcd 382 60 = zb_382_60 := by decide +kernel
theorem zj_382_60 {S : zSs} {D n u : Nat} {sh : zk_S} {d : zm_D} {Q : ((Option zv_V) ⊕ Nat) → Nat → zk_S → zm_D → Nat → Prop} {L : zN} {st : List zv_V} : zJ S D 382 60 L st n sh d u Q ↔ zB S D 382 zb_382_60 L st n sh d u Q := by unfold zJ; rw [zc_382_60]
theorem zc_382_61 : zcd 382 61 = zb_382_61 := by decide +kernel
theorem zj_382_61 {S : zSs} {D n u : Nat} {sh : zk_S} {d : zm_D} {Q : ((Option zv_V) ⊕ Nat) → Nat → zk_S → zm_D → Nat → Prop} {L : zN} {st : List zv_V} : zJ S D 382 61 L st n sh d u Q ↔ zB S D 382 zb_382_61 L st n sh d u Q := by unfold zJ; rw [zc_382_61]
theorem zc_382_62 : zcd 382 62 = zb_382_62 := by decide +kernel
theorem zj_382_62 {S : zSs} {D n u : Nat} {sh : zk_S} {d : zm_D} {Q : ((Option zv_V) ⊕ Nat) → Nat → zk_S → zm_D → Nat → Prop} {L : zN} {st : List zv_V} : zJ S D 382 62 L st n sh d u Q ↔ zB S D 382 zb_382_62 L st n sh d u Q := by unfold zJ; rw [zc_382_62]
theorem zc_382_63 : zcd 382 63 = zb_382_63 := by decide +kernel
theorem zj_382_63 {S : zSs} {D n u : Nat} {sh : zk_S} {d : zm_D} {Q : ((Option zv_V) ⊕ Nat) → Nat → zk_S → zm_D → Nat → Prop} {L : zN} {st : List zv_V} : zJ S D 382 63 L st n sh d u Q ↔ zB S D 382 zb_382_63 L st n sh d u Q := by unfold zJ; rw [zc_382_63]
theorem zc_382_64 : zcd 382 64 = zb_382_64 := by decide +kernel
theorem zj_382_64 {S : zSs} {D n u : Nat} {sh : zk_S} {d : zm_D} {Q : ((Option zv_V) ⊕ Nat) → Nat → zk_S → zm_D → Nat → Prop} {L : zN} {st : List zv_V} : zJ S D 382 64 L st n sh d u Q ↔ zB S D 382 zb_382_64 L st n sh d u Q := by unfold zJ; rw [zc_382_64]
theorem zc_382_65 : zcd 382 65 = zb_382_65 := by decide +kernel
theorem zj_382_65 {S : zSs} {D n u : Nat} {sh : zk_S} {d : zm_D} {Q : ((Option zv_V) ⊕ Nat) → Nat → zk_S → zm_D → Nat → Prop} {L : zN} {st : List zv_V} : zJ S D 382 65 L st n sh d u Q ↔ zB S D 382 zb_382_65 L st n sh d u Q := by unfold zJ; rw [zc_382_65]
theorem zc_382_66 : zcd 382 66 = zb_382_66 := by decide +kernel
theorem zj_382_66 {S : zSs} {D n u : Nat} {sh : zk_S} {d : zm_D} {Q : ((Option zv_V) ⊕ Nat) → Nat → zk_S → zm_D → Nat → Prop} {L : zN} {st : List zv_V} : zJ S D 382 66 L st n sh d u Q ↔ zB S D 382 zb_382_66 L st n sh d u Q := by unfold zJ; rw [zc_382_66]
theorem zc_382_67 : zcd 382 67 = zb_382_67 := by decide +kernel
theorem zj_382_67 {S : zSs} {D n u : Nat} {sh : zk_S} {d : zm_D} {Q : ((Option zv_V) ⊕ Nat) → Nat → zk_S → zm_D → Nat → Prop} {L : zN} {st : List zv_V} : zJ S D 382 67 L st n sh d u Q ↔ zB S D 382 zb_382_67 L st n sh d u Q := by unfold zJ; rw [zc_382_67]
theorem zc_382_68 : zcd 382 68 = zb_382_68 := by decide +kernel
theorem zj_382_68 {S : zSs} {D n u : Nat} {sh : zk_S} {d : zm_D} {Q : ((Option zv_V) ⊕ Nat) → Nat → zk_S → zm_D → Nat → Prop} {L : zN} {st : List zv_V} : zJ S D 382 68 L st n sh d u Q ↔ zB S D 382 zb_382_68 L st n sh d u Q := by unfold zJ; rw [zc_382_68]
theorem zc_382_69 : zcd 382 69 = zb_382_69 := by decide +kernel
theorem zj_382_69 {S : zSs} {D n u : Nat} {sh : zk_S} {d : zm_D} {Q : ((Option zv_V) ⊕ Nat) → Nat → zk_S → zm_D → Nat → Prop} {L : zN} {st : List zv_V} : zJ S D 382 69 L st n sh d u Q ↔ zB S D 382 zb_382_69 L st n sh d u Q := by unfold zJ; rw [zc_382_69]
theorem zc_382_70 : zcd 382 70 = zb_382_70 := by decide +kernel
theorem zj_382_70 {S : zSs} {D n u : Nat} {sh : zk_S} {d : zm_D} {Q : ((Option zv_V) ⊕ Nat) → Nat → zk_S → zm_D → Nat → Prop} {L : zN} {st : List zv_V} : zJ S D 382 70 L st n sh d u Q ↔ zB S D 382 zb_382_70 L st n sh d u Q := by unfold zJ; rw [zc_382_70]
theorem zc_382_71 : zcd 382 71 = zb_382_71 := by decide +kernel
theorem zj_382_71 {S : zSs} {D n u : Nat} {sh : zk_S} {d : zm_D} {Q : ((Option zv_V) ⊕ Nat) → Nat → zk_S → zm_D → Nat → Prop} {L : zN} {st : List zv_V} : zJ S D 382 71 L st n sh d u Q ↔ zB S D 382 zb_382_71 L st n sh d u Q := by unfold zJ; rw [zc_382_71]
theorem zc_382_72 : zcd 382 72 = zb_382_72 := by decide +kernel
theorem zj_382_72 {S : zSs} {D n u : Nat} {sh : zk_S} {d : zm_D} {Q : ((Option zv_V) ⊕ Nat) → Nat → zk_S → zm_D → Nat → Prop} {L : zN} {st : List zv_V} : zJ S D 382 72 L st n sh d u Q ↔ zB S D 382 zb_382_72 L st n sh d u Q := by unfold zJ; rw [zc_382_72]
theorem zc_382_73 : zcd 382 73 = zb_382_73 := by decide +kernel
theorem zj_382_73 {S : zSs} {D n u : Nat} {sh : zk_S} {d : zm_D} {Q : ((Option zv_V) ⊕ Nat) → Nat → zk_S → zm_D → Nat → Prop} {L : zN} {st : List zv_V} : zJ S D 382 73 L st n sh d u Q ↔ zB S D 382 zb_382_73 L st n sh d u Q := by unfold zJ; rw [zc_382_73]
theorem zc_382_74 : zcd 382 74 = zb_382_74 := by decide +kernel
theorem zj_382_74 {S : zSs} {D n u : Nat} {sh : zk_S} {d : zm_D} {Q : ((Option zv_V) ⊕ Nat) → Nat → zk_S → zm_D → Nat → Prop} {L : zN} {st : List zv_V} : zJ S D 382 74 L st n sh d u Q ↔ zB S D 382 zb_382_74 L st n sh d u Q := by unfold zJ; rw [zc_382_74]
theorem zc_382_75 : zcd 382 75 = zb_382_75 := by decide +kernel
theorem zj_382_75 {S : zSs} {D n u : Nat} {sh : zk_S} {d : zm_D} {Q : ((Option zv_V) ⊕ Nat) → Nat → zk_S → zm_D → Nat → Prop} {L : zN} {st : List zv_V} : zJ S D 382 75 L st n sh d u Q ↔ zB S D 382 zb_382_75 L st n sh d u Q := by unfold zJ; rw [zc_382_75]
theorem zc_382_76 : zcd 382 76 = zb_382_76 := by decide +kernel
theorem zj_382_76 {S : zSs} {D n u : Nat} {sh : zk_S} {d : zm_D} {Q : ((Option zv_V) ⊕ Nat) → Nat → zk_S → zm_D → Nat → Prop} {L : zN} {st : List zv_V} : zJ S D 382 76 L st n sh d u Q ↔ zB S D 382 zb_382_76 L st n sh d u Q := by unfold zJ; rw [zc_382_76]
theorem zc_382_77 : zcd 382 77 = zb_382_77 := by decide +kernel
theorem zj_382_77 {S : zSs} {D n u : Nat} {sh : zk_S} {d : zm_D} {Q : ((Option zv_V) ⊕ Nat) → Nat → zk_S → zm_D → Nat → Prop} {L : zN} {st : List zv_V} : zJ S D 382 77 L st n sh d u Q ↔ zB S D 382 zb_382_77 L st n sh d u Q := by unfold zJ; rw [zc_382_77]
theorem zc_382_78 : zcd 382 78 = zb_382_78 := by decide +kernel
theorem zj_382_78 {S : zSs} {D n u : Nat} {sh : zk_S} {d : zm_D} {Q : ((Option zv_V) ⊕ Nat) → Nat → zk_S → zm_D → Nat → Prop} {L : zN} {st : List zv_V} : zJ S D 382 78 L st n sh d u Q ↔ zB S D 382 zb_382_78 L st n sh d u Q := by unfold zJ; rw [zc_382_78]
theorem zn_382 : znl 382 = 9 := by decide +kernel
theorem ze_382 {S : zSs} {D n u : Nat} {sh : zk_S} {d : zm_D} {Q : ((Option zv_V) ⊕ Nat) → Nat → zk_S → zm_D → Nat → Prop} {x0 : Int} {x1 : Int} : zE S D 382 [zv_a x0, zv_a x1] n sh d u Q ↔ zB S D 382 zb_382_0 [some (zv_a x0), some (zv_a x1), none, none, none, none, none, none, none] [] n sh d u Q := by
  unfold zE; rw [zn_382, zc_382_0]; exact ⟨fun h => h.2, fun h => ⟨Nat.le_of_ble_eq_true rfl, h⟩⟩
theorem ze_382s {S : zSs} {D n u : Nat} {sh : zk_S} {d : zm_D} {Q : ((Option zv_V) ⊕ Nat) → Nat → zk_S → zm_D → Nat → Prop} {x0 : Int} : zE S D 382 [zv_a x0] n sh d u Q ↔ zB S D 382 zb_382_0 [some (zv_a x0), none, none, none, none, none, none, none, none] [] n sh d u Q := by
  unfold zE; rw [zn_382, zc_382_0]; exact ⟨fun h => h.2, fun h => ⟨Nat.le_of_ble_eq_true rfl, h⟩⟩
theorem zh_382 : zhl 382 = [] := by decide +kernel
