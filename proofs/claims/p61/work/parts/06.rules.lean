/-! ===== RULES: more fuel; what zB says of each operation ===== -/
def zMono (f : zOo) : Prop := ∀ (a b c : Nat) (k : Int) (D : Nat) (S : zSs) (hl : List (Nat × (Nat × Nat))) (sw : List Nat) (next next' : zKk) (jump jump' : Nat → zKk) (call call' : Nat → List zv_V → zMm → Option zRr),
  (∀ L st M r, next L st M = some r → next' L st M = some r) → (∀ b L st M r, jump b L st M = some r → jump' b L st M = some r) → (∀ m As M r, call m As M = some r → call' m As M = some r) →
  ∀ L st M r, f a b c k D S hl sw next jump call L st M = some r → f a b c k D S hl sw next' jump' call' L st M = some r
theorem zaft_mono {hl : List (Nat × (Nat × Nat))} {next next' : zKk} {jump jump' : Nat → zKk} {L : zN} {rest : List zv_V} {x y : Option zRr} (hn : ∀ L st M r, next L st M = some r → next' L st M = some r) (hj : ∀ b L st M r, jump b L st M = some r → jump' b L st M = some r) (hx : ∀ r, x = some r → y = some r) (r : zRr) (h : zaft hl next jump L rest x = some r) : zaft hl next' jump' L rest y = some r := by
  cases x with
  | none => cases h
  | some q =>
    rw [hx q rfl]
    obtain ⟨v | x, M⟩ := q
    · exact hn _ _ _ _ h
    · cases hl with
      | nil => exact h
      | cons h0 t =>
        simp only [zaft] at h ⊢
        split at h
        · exact hj _ _ _ _ _ h
        · cases h
theorem zmo_aload : zMono zo_aload := by
  intro a b c k D S hl sw next next' jump jump' call call' hn hj hc L st M r
  unfold zo_aload
  repeat' split
  all_goals first | exact id | exact hn _ _ _ _ | exact hj _ _ _ _ _ | (intro h; cases h; done) | exact zaft_mono hn hj (hc _ _ _) _
theorem zmo_getI : zMono zo_getI := by
  intro a b c k D S hl sw next next' jump jump' call call' hn hj hc L st M r
  unfold zo_getI
  repeat' split
  all_goals first | exact id | exact hn _ _ _ _ | exact hj _ _ _ _ _ | (intro h; cases h; done) | exact zaft_mono hn hj (hc _ _ _) _
theorem zmo_getA : zMono zo_getA := by
  intro a b c k D S hl sw next next' jump jump' call call' hn hj hc L st M r
  unfold zo_getA
  repeat' split
  all_goals first | exact id | exact hn _ _ _ _ | exact hj _ _ _ _ _ | (intro h; cases h; done) | exact zaft_mono hn hj (hc _ _ _) _
theorem zmo_iconst : zMono zo_iconst := by
  intro a b c k D S hl sw next next' jump jump' call call' hn hj hc L st M r
  unfold zo_iconst
  repeat' split
  all_goals first | exact id | exact hn _ _ _ _ | exact hj _ _ _ _ _ | (intro h; cases h; done) | exact zaft_mono hn hj (hc _ _ _) _
theorem zmo_iload : zMono zo_iload := by
  intro a b c k D S hl sw next next' jump jump' call call' hn hj hc L st M r
  unfold zo_iload
  repeat' split
  all_goals first | exact id | exact hn _ _ _ _ | exact hj _ _ _ _ _ | (intro h; cases h; done) | exact zaft_mono hn hj (hc _ _ _) _
theorem zmo_callS : zMono zo_callS := by
  intro a b c k D S hl sw next next' jump jump' call call' hn hj hc L st M r
  unfold zo_callS
  repeat' split
  all_goals first | exact id | exact hn _ _ _ _ | exact hj _ _ _ _ _ | (intro h; cases h; done) | exact zaft_mono hn hj (hc _ _ _) _
theorem zmo_callV : zMono zo_callV := by
  intro a b c k D S hl sw next next' jump jump' call call' hn hj hc L st M r
  unfold zo_callV
  repeat' split
  all_goals first | exact id | exact hn _ _ _ _ | exact hj _ _ _ _ _ | (intro h; cases h; done) | exact zaft_mono hn hj (hc _ _ _) _
theorem zmo_callI : zMono zo_callI := by
  intro a b c k D S hl sw next next' jump jump' call call' hn hj hc L st M r
  unfold zo_callI
  repeat' split
  all_goals first | exact id | exact hn _ _ _ _ | exact hj _ _ _ _ _ | (intro h; cases h; done) | exact zaft_mono hn hj (hc _ _ _) _
theorem zmo_iret : zMono zo_iret := by
  intro a b c k D S hl sw next next' jump jump' call call' hn hj hc L st M r
  unfold zo_iret
  repeat' split
  all_goals first | exact id | exact hn _ _ _ _ | exact hj _ _ _ _ _ | (intro h; cases h; done) | exact zaft_mono hn hj (hc _ _ _) _
theorem zmo_zret : zMono zo_zret := by
  intro a b c k D S hl sw next next' jump jump' call call' hn hj hc L st M r
  unfold zo_zret
  repeat' split
  all_goals first | exact id | exact hn _ _ _ _ | exact hj _ _ _ _ _ | (intro h; cases h; done) | exact zaft_mono hn hj (hc _ _ _) _
theorem zmo_goto : zMono zo_goto := by
  intro a b c k D S hl sw next next' jump jump' call call' hn hj hc L st M r
  unfold zo_goto
  repeat' split
  all_goals first | exact id | exact hn _ _ _ _ | exact hj _ _ _ _ _ | (intro h; cases h; done) | exact zaft_mono hn hj (hc _ _ _) _
theorem zmo_putI : zMono zo_putI := by
  intro a b c k D S hl sw next next' jump jump' call call' hn hj hc L st M r
  unfold zo_putI
  repeat' split
  all_goals first | exact id | exact hn _ _ _ _ | exact hj _ _ _ _ _ | (intro h; cases h; done) | exact zaft_mono hn hj (hc _ _ _) _
theorem zmo_putZ : zMono zo_putZ := by
  intro a b c k D S hl sw next next' jump jump' call call' hn hj hc L st M r
  unfold zo_putZ
  repeat' split
  all_goals first | exact id | exact hn _ _ _ _ | exact hj _ _ _ _ _ | (intro h; cases h; done) | exact zaft_mono hn hj (hc _ _ _) _
theorem zmo_putA : zMono zo_putA := by
  intro a b c k D S hl sw next next' jump jump' call call' hn hj hc L st M r
  unfold zo_putA
  repeat' split
  all_goals first | exact id | exact hn _ _ _ _ | exact hj _ _ _ _ _ | (intro h; cases h; done) | exact zaft_mono hn hj (hc _ _ _) _
theorem zmo_if14 : zMono zo_if14 := by
  intro a b c k D S hl sw next next' jump jump' call call' hn hj hc L st M r
  unfold zo_if14
  repeat' split
  all_goals first | exact id | exact hn _ _ _ _ | exact hj _ _ _ _ _ | (intro h; cases h; done) | exact zaft_mono hn hj (hc _ _ _) _
theorem zmo_if15 : zMono zo_if15 := by
  intro a b c k D S hl sw next next' jump jump' call call' hn hj hc L st M r
  unfold zo_if15
  repeat' split
  all_goals first | exact id | exact hn _ _ _ _ | exact hj _ _ _ _ _ | (intro h; cases h; done) | exact zaft_mono hn hj (hc _ _ _) _
theorem zmo_if16 : zMono zo_if16 := by
  intro a b c k D S hl sw next next' jump jump' call call' hn hj hc L st M r
  unfold zo_if16
  repeat' split
  all_goals first | exact id | exact hn _ _ _ _ | exact hj _ _ _ _ _ | (intro h; cases h; done) | exact zaft_mono hn hj (hc _ _ _) _
theorem zmo_if17 : zMono zo_if17 := by
  intro a b c k D S hl sw next next' jump jump' call call' hn hj hc L st M r
  unfold zo_if17
  repeat' split
  all_goals first | exact id | exact hn _ _ _ _ | exact hj _ _ _ _ _ | (intro h; cases h; done) | exact zaft_mono hn hj (hc _ _ _) _
theorem zmo_if18 : zMono zo_if18 := by
  intro a b c k D S hl sw next next' jump jump' call call' hn hj hc L st M r
  unfold zo_if18
  repeat' split
  all_goals first | exact id | exact hn _ _ _ _ | exact hj _ _ _ _ _ | (intro h; cases h; done) | exact zaft_mono hn hj (hc _ _ _) _
theorem zmo_if19 : zMono zo_if19 := by
  intro a b c k D S hl sw next next' jump jump' call call' hn hj hc L st M r
  unfold zo_if19
  repeat' split
  all_goals first | exact id | exact hn _ _ _ _ | exact hj _ _ _ _ _ | (intro h; cases h; done) | exact zaft_mono hn hj (hc _ _ _) _
theorem zmo_ic20 : zMono zo_ic20 := by
  intro a b c k D S hl sw next next' jump jump' call call' hn hj hc L st M r
  unfold zo_ic20
  repeat' split
  all_goals first | exact id | exact hn _ _ _ _ | exact hj _ _ _ _ _ | (intro h; cases h; done) | exact zaft_mono hn hj (hc _ _ _) _
theorem zmo_ic21 : zMono zo_ic21 := by
  intro a b c k D S hl sw next next' jump jump' call call' hn hj hc L st M r
  unfold zo_ic21
  repeat' split
  all_goals first | exact id | exact hn _ _ _ _ | exact hj _ _ _ _ _ | (intro h; cases h; done) | exact zaft_mono hn hj (hc _ _ _) _
theorem zmo_ic22 : zMono zo_ic22 := by
  intro a b c k D S hl sw next next' jump jump' call call' hn hj hc L st M r
  unfold zo_ic22
  repeat' split
  all_goals first | exact id | exact hn _ _ _ _ | exact hj _ _ _ _ _ | (intro h; cases h; done) | exact zaft_mono hn hj (hc _ _ _) _
theorem zmo_ic23 : zMono zo_ic23 := by
  intro a b c k D S hl sw next next' jump jump' call call' hn hj hc L st M r
  unfold zo_ic23
  repeat' split
  all_goals first | exact id | exact hn _ _ _ _ | exact hj _ _ _ _ _ | (intro h; cases h; done) | exact zaft_mono hn hj (hc _ _ _) _
theorem zmo_ic24 : zMono zo_ic24 := by
  intro a b c k D S hl sw next next' jump jump' call call' hn hj hc L st M r
  unfold zo_ic24
  repeat' split
  all_goals first | exact id | exact hn _ _ _ _ | exact hj _ _ _ _ _ | (intro h; cases h; done) | exact zaft_mono hn hj (hc _ _ _) _
theorem zmo_ic25 : zMono zo_ic25 := by
  intro a b c k D S hl sw next next' jump jump' call call' hn hj hc L st M r
  unfold zo_ic25
  repeat' split
  all_goals first | exact id | exact hn _ _ _ _ | exact hj _ _ _ _ _ | (intro h; cases h; done) | exact zaft_mono hn hj (hc _ _ _) _
theorem zmo_in26 : zMono zo_in26 := by
  intro a b c k D S hl sw next next' jump jump' call call' hn hj hc L st M r
  unfold zo_in26
  repeat' split
  all_goals first | exact id | exact hn _ _ _ _ | exact hj _ _ _ _ _ | (intro h; cases h; done) | exact zaft_mono hn hj (hc _ _ _) _
theorem zmo_in27 : zMono zo_in27 := by
  intro a b c k D S hl sw next next' jump jump' call call' hn hj hc L st M r
  unfold zo_in27
  repeat' split
  all_goals first | exact id | exact hn _ _ _ _ | exact hj _ _ _ _ _ | (intro h; cases h; done) | exact zaft_mono hn hj (hc _ _ _) _
theorem zmo_ia28 : zMono zo_ia28 := by
  intro a b c k D S hl sw next next' jump jump' call call' hn hj hc L st M r
  unfold zo_ia28
  repeat' split
  all_goals first | exact id | exact hn _ _ _ _ | exact hj _ _ _ _ _ | (intro h; cases h; done) | exact zaft_mono hn hj (hc _ _ _) _
theorem zmo_ia29 : zMono zo_ia29 := by
  intro a b c k D S hl sw next next' jump jump' call call' hn hj hc L st M r
  unfold zo_ia29
  repeat' split
  all_goals first | exact id | exact hn _ _ _ _ | exact hj _ _ _ _ _ | (intro h; cases h; done) | exact zaft_mono hn hj (hc _ _ _) _
theorem zmo_istore : zMono zo_istore := by
  intro a b c k D S hl sw next next' jump jump' call call' hn hj hc L st M r
  unfold zo_istore
  repeat' split
  all_goals first | exact id | exact hn _ _ _ _ | exact hj _ _ _ _ _ | (intro h; cases h; done) | exact zaft_mono hn hj (hc _ _ _) _
theorem zmo_astore : zMono zo_astore := by
  intro a b c k D S hl sw next next' jump jump' call call' hn hj hc L st M r
  unfold zo_astore
  repeat' split
  all_goals first | exact id | exact hn _ _ _ _ | exact hj _ _ _ _ _ | (intro h; cases h; done) | exact zaft_mono hn hj (hc _ _ _) _
theorem zmo_iinc : zMono zo_iinc := by
  intro a b c k D S hl sw next next' jump jump' call call' hn hj hc L st M r
  unfold zo_iinc
  repeat' split
  all_goals first | exact id | exact hn _ _ _ _ | exact hj _ _ _ _ _ | (intro h; cases h; done) | exact zaft_mono hn hj (hc _ _ _) _
theorem zmo_iaload : zMono zo_iaload := by
  intro a b c k D S hl sw next next' jump jump' call call' hn hj hc L st M r
  unfold zo_iaload
  repeat' split
  all_goals first | exact id | exact hn _ _ _ _ | exact hj _ _ _ _ _ | (intro h; cases h; done) | exact zaft_mono hn hj (hc _ _ _) _
theorem zmo_aaload : zMono zo_aaload := by
  intro a b c k D S hl sw next next' jump jump' call call' hn hj hc L st M r
  unfold zo_aaload
  repeat' split
  all_goals first | exact id | exact hn _ _ _ _ | exact hj _ _ _ _ _ | (intro h; cases h; done) | exact zaft_mono hn hj (hc _ _ _) _
theorem zmo_iastore : zMono zo_iastore := by
  intro a b c k D S hl sw next next' jump jump' call call' hn hj hc L st M r
  unfold zo_iastore
  repeat' split
  all_goals first | exact id | exact hn _ _ _ _ | exact hj _ _ _ _ _ | (intro h; cases h; done) | exact zaft_mono hn hj (hc _ _ _) _
theorem zmo_alen : zMono zo_alen := by
  intro a b c k D S hl sw next next' jump jump' call call' hn hj hc L st M r
  unfold zo_alen
  repeat' split
  all_goals first | exact id | exact hn _ _ _ _ | exact hj _ _ _ _ _ | (intro h; cases h; done) | exact zaft_mono hn hj (hc _ _ _) _
theorem zmo_iadd : zMono zo_iadd := by
  intro a b c k D S hl sw next next' jump jump' call call' hn hj hc L st M r
  unfold zo_iadd
  repeat' split
  all_goals first | exact id | exact hn _ _ _ _ | exact hj _ _ _ _ _ | (intro h; cases h; done) | exact zaft_mono hn hj (hc _ _ _) _
theorem zmo_isub : zMono zo_isub := by
  intro a b c k D S hl sw next next' jump jump' call call' hn hj hc L st M r
  unfold zo_isub
  repeat' split
  all_goals first | exact id | exact hn _ _ _ _ | exact hj _ _ _ _ _ | (intro h; cases h; done) | exact zaft_mono hn hj (hc _ _ _) _
theorem zmo_imul : zMono zo_imul := by
  intro a b c k D S hl sw next next' jump jump' call call' hn hj hc L st M r
  unfold zo_imul
  repeat' split
  all_goals first | exact id | exact hn _ _ _ _ | exact hj _ _ _ _ _ | (intro h; cases h; done) | exact zaft_mono hn hj (hc _ _ _) _
theorem zmo_idiv : zMono zo_idiv := by
  intro a b c k D S hl sw next next' jump jump' call call' hn hj hc L st M r
  unfold zo_idiv
  repeat' split
  all_goals first | exact id | exact hn _ _ _ _ | exact hj _ _ _ _ _ | (intro h; cases h; done) | exact zaft_mono hn hj (hc _ _ _) _
theorem zmo_irem : zMono zo_irem := by
  intro a b c k D S hl sw next next' jump jump' call call' hn hj hc L st M r
  unfold zo_irem
  repeat' split
  all_goals first | exact id | exact hn _ _ _ _ | exact hj _ _ _ _ _ | (intro h; cases h; done) | exact zaft_mono hn hj (hc _ _ _) _
theorem zmo_iand : zMono zo_iand := by
  intro a b c k D S hl sw next next' jump jump' call call' hn hj hc L st M r
  unfold zo_iand
  repeat' split
  all_goals first | exact id | exact hn _ _ _ _ | exact hj _ _ _ _ _ | (intro h; cases h; done) | exact zaft_mono hn hj (hc _ _ _) _
theorem zmo_ior : zMono zo_ior := by
  intro a b c k D S hl sw next next' jump jump' call call' hn hj hc L st M r
  unfold zo_ior
  repeat' split
  all_goals first | exact id | exact hn _ _ _ _ | exact hj _ _ _ _ _ | (intro h; cases h; done) | exact zaft_mono hn hj (hc _ _ _) _
theorem zmo_ishl : zMono zo_ishl := by
  intro a b c k D S hl sw next next' jump jump' call call' hn hj hc L st M r
  unfold zo_ishl
  repeat' split
  all_goals first | exact id | exact hn _ _ _ _ | exact hj _ _ _ _ _ | (intro h; cases h; done) | exact zaft_mono hn hj (hc _ _ _) _
theorem zmo_iushr : zMono zo_iushr := by
  intro a b c k D S hl sw next next' jump jump' call call' hn hj hc L st M r
  unfold zo_iushr
  repeat' split
  all_goals first | exact id | exact hn _ _ _ _ | exact hj _ _ _ _ _ | (intro h; cases h; done) | exact zaft_mono hn hj (hc _ _ _) _
theorem zmo_ixor : zMono zo_ixor := by
  intro a b c k D S hl sw next next' jump jump' call call' hn hj hc L st M r
  unfold zo_ixor
  repeat' split
  all_goals first | exact id | exact hn _ _ _ _ | exact hj _ _ _ _ _ | (intro h; cases h; done) | exact zaft_mono hn hj (hc _ _ _) _
theorem zmo_dup : zMono zo_dup := by
  intro a b c k D S hl sw next next' jump jump' call call' hn hj hc L st M r
  unfold zo_dup
  repeat' split
  all_goals first | exact id | exact hn _ _ _ _ | exact hj _ _ _ _ _ | (intro h; cases h; done) | exact zaft_mono hn hj (hc _ _ _) _
theorem zmo_dup2 : zMono zo_dup2 := by
  intro a b c k D S hl sw next next' jump jump' call call' hn hj hc L st M r
  unfold zo_dup2
  repeat' split
  all_goals first | exact id | exact hn _ _ _ _ | exact hj _ _ _ _ _ | (intro h; cases h; done) | exact zaft_mono hn hj (hc _ _ _) _
theorem zmo_pop : zMono zo_pop := by
  intro a b c k D S hl sw next next' jump jump' call call' hn hj hc L st M r
  unfold zo_pop
  repeat' split
  all_goals first | exact id | exact hn _ _ _ _ | exact hj _ _ _ _ _ | (intro h; cases h; done) | exact zaft_mono hn hj (hc _ _ _) _
theorem zmo_vret : zMono zo_vret := by
  intro a b c k D S hl sw next next' jump jump' call call' hn hj hc L st M r
  unfold zo_vret
  repeat' split
  all_goals first | exact id | exact hn _ _ _ _ | exact hj _ _ _ _ _ | (intro h; cases h; done) | exact zaft_mono hn hj (hc _ _ _) _
theorem zmo_aret : zMono zo_aret := by
  intro a b c k D S hl sw next next' jump jump' call call' hn hj hc L st M r
  unfold zo_aret
  repeat' split
  all_goals first | exact id | exact hn _ _ _ _ | exact hj _ _ _ _ _ | (intro h; cases h; done) | exact zaft_mono hn hj (hc _ _ _) _
theorem zmo_lret : zMono zo_lret := by
  intro a b c k D S hl sw next next' jump jump' call call' hn hj hc L st M r
  unfold zo_lret
  repeat' split
  all_goals first | exact id | exact hn _ _ _ _ | exact hj _ _ _ _ _ | (intro h; cases h; done) | exact zaft_mono hn hj (hc _ _ _) _
theorem zmo_dret : zMono zo_dret := by
  intro a b c k D S hl sw next next' jump jump' call call' hn hj hc L st M r
  unfold zo_dret
  repeat' split
  all_goals first | exact id | exact hn _ _ _ _ | exact hj _ _ _ _ _ | (intro h; cases h; done) | exact zaft_mono hn hj (hc _ _ _) _
theorem zmo_fret : zMono zo_fret := by
  intro a b c k D S hl sw next next' jump jump' call call' hn hj hc L st M r
  unfold zo_fret
  repeat' split
  all_goals first | exact id | exact hn _ _ _ _ | exact hj _ _ _ _ _ | (intro h; cases h; done) | exact zaft_mono hn hj (hc _ _ _) _
theorem zmo_throw : zMono zo_throw := by
  intro a b c k D S hl sw next next' jump jump' call call' hn hj hc L st M r
  unfold zo_throw
  repeat' split
  all_goals first | exact id | exact hn _ _ _ _ | exact hj _ _ _ _ _ | (intro h; cases h; done) | exact zaft_mono hn hj (hc _ _ _) _
theorem zmo_throwW : zMono zo_throwW := by
  intro a b c k D S hl sw next next' jump jump' call call' hn hj hc L st M r
  unfold zo_throwW
  repeat' split
  all_goals first | exact id | exact hn _ _ _ _ | exact hj _ _ _ _ _ | (intro h; cases h; done) | exact zaft_mono hn hj (hc _ _ _) _
theorem zmo_new : zMono zo_new := by
  intro a b c k D S hl sw next next' jump jump' call call' hn hj hc L st M r
  unfold zo_new
  repeat' split
  all_goals first | exact id | exact hn _ _ _ _ | exact hj _ _ _ _ _ | (intro h; cases h; done) | exact zaft_mono hn hj (hc _ _ _) _
theorem zmo_newarr : zMono zo_newarr := by
  intro a b c k D S hl sw next next' jump jump' call call' hn hj hc L st M r
  unfold zo_newarr
  repeat' split
  all_goals first | exact id | exact hn _ _ _ _ | exact hj _ _ _ _ _ | (intro h; cases h; done) | exact zaft_mono hn hj (hc _ _ _) _
theorem zmo_anew : zMono zo_anew := by
  intro a b c k D S hl sw next next' jump jump' call call' hn hj hc L st M r
  unfold zo_anew
  repeat' split
  all_goals first | exact id | exact hn _ _ _ _ | exact hj _ _ _ _ _ | (intro h; cases h; done) | exact zaft_mono hn hj (hc _ _ _) _
theorem zmo_multi2 : zMono zo_multi2 := by
  intro a b c k D S hl sw next next' jump jump' call call' hn hj hc L st M r
  unfold zo_multi2
  repeat' split
  all_goals first | exact id | exact hn _ _ _ _ | exact hj _ _ _ _ _ | (intro h; cases h; done) | exact zaft_mono hn hj (hc _ _ _) _
theorem zmo_multi3 : zMono zo_multi3 := by
  intro a b c k D S hl sw next next' jump jump' call call' hn hj hc L st M r
  unfold zo_multi3
  repeat' split
  all_goals first | exact id | exact hn _ _ _ _ | exact hj _ _ _ _ _ | (intro h; cases h; done) | exact zaft_mono hn hj (hc _ _ _) _
theorem zmo_aastore : zMono zo_aastore := by
  intro a b c k D S hl sw next next' jump jump' call call' hn hj hc L st M r
  unfold zo_aastore
  repeat' split
  all_goals first | exact id | exact hn _ _ _ _ | exact hj _ _ _ _ _ | (intro h; cases h; done) | exact zaft_mono hn hj (hc _ _ _) _
theorem zmo_pop2 : zMono zo_pop2 := by
  intro a b c k D S hl sw next next' jump jump' call call' hn hj hc L st M r
  unfold zo_pop2
  repeat' split
  all_goals first | exact id | exact hn _ _ _ _ | exact hj _ _ _ _ _ | (intro h; cases h; done) | exact zaft_mono hn hj (hc _ _ _) _
theorem zmo_lconst : zMono zo_lconst := by
  intro a b c k D S hl sw next next' jump jump' call call' hn hj hc L st M r
  unfold zo_lconst
  repeat' split
  all_goals first | exact id | exact hn _ _ _ _ | exact hj _ _ _ _ _ | (intro h; cases h; done) | exact zaft_mono hn hj (hc _ _ _) _
theorem zmo_i2l : zMono zo_i2l := by
  intro a b c k D S hl sw next next' jump jump' call call' hn hj hc L st M r
  unfold zo_i2l
  repeat' split
  all_goals first | exact id | exact hn _ _ _ _ | exact hj _ _ _ _ _ | (intro h; cases h; done) | exact zaft_mono hn hj (hc _ _ _) _
theorem zmo_l2i : zMono zo_l2i := by
  intro a b c k D S hl sw next next' jump jump' call call' hn hj hc L st M r
  unfold zo_l2i
  repeat' split
  all_goals first | exact id | exact hn _ _ _ _ | exact hj _ _ _ _ _ | (intro h; cases h; done) | exact zaft_mono hn hj (hc _ _ _) _
theorem zmo_ladd : zMono zo_ladd := by
  intro a b c k D S hl sw next next' jump jump' call call' hn hj hc L st M r
  unfold zo_ladd
  repeat' split
  all_goals first | exact id | exact hn _ _ _ _ | exact hj _ _ _ _ _ | (intro h; cases h; done) | exact zaft_mono hn hj (hc _ _ _) _
theorem zmo_lsub : zMono zo_lsub := by
  intro a b c k D S hl sw next next' jump jump' call call' hn hj hc L st M r
  unfold zo_lsub
  repeat' split
  all_goals first | exact id | exact hn _ _ _ _ | exact hj _ _ _ _ _ | (intro h; cases h; done) | exact zaft_mono hn hj (hc _ _ _) _
theorem zmo_lmul : zMono zo_lmul := by
  intro a b c k D S hl sw next next' jump jump' call call' hn hj hc L st M r
  unfold zo_lmul
  repeat' split
  all_goals first | exact id | exact hn _ _ _ _ | exact hj _ _ _ _ _ | (intro h; cases h; done) | exact zaft_mono hn hj (hc _ _ _) _
theorem zmo_ldiv : zMono zo_ldiv := by
  intro a b c k D S hl sw next next' jump jump' call call' hn hj hc L st M r
  unfold zo_ldiv
  repeat' split
  all_goals first | exact id | exact hn _ _ _ _ | exact hj _ _ _ _ _ | (intro h; cases h; done) | exact zaft_mono hn hj (hc _ _ _) _
theorem zmo_lrem : zMono zo_lrem := by
  intro a b c k D S hl sw next next' jump jump' call call' hn hj hc L st M r
  unfold zo_lrem
  repeat' split
  all_goals first | exact id | exact hn _ _ _ _ | exact hj _ _ _ _ _ | (intro h; cases h; done) | exact zaft_mono hn hj (hc _ _ _) _
theorem zmo_lcmp : zMono zo_lcmp := by
  intro a b c k D S hl sw next next' jump jump' call call' hn hj hc L st M r
  unfold zo_lcmp
  repeat' split
  all_goals first | exact id | exact hn _ _ _ _ | exact hj _ _ _ _ _ | (intro h; cases h; done) | exact zaft_mono hn hj (hc _ _ _) _
theorem zmo_lload : zMono zo_lload := by
  intro a b c k D S hl sw next next' jump jump' call call' hn hj hc L st M r
  unfold zo_lload
  repeat' split
  all_goals first | exact id | exact hn _ _ _ _ | exact hj _ _ _ _ _ | (intro h; cases h; done) | exact zaft_mono hn hj (hc _ _ _) _
theorem zmo_lstore : zMono zo_lstore := by
  intro a b c k D S hl sw next next' jump jump' call call' hn hj hc L st M r
  unfold zo_lstore
  repeat' split
  all_goals first | exact id | exact hn _ _ _ _ | exact hj _ _ _ _ _ | (intro h; cases h; done) | exact zaft_mono hn hj (hc _ _ _) _
theorem zmo_laload : zMono zo_laload := by
  intro a b c k D S hl sw next next' jump jump' call call' hn hj hc L st M r
  unfold zo_laload
  repeat' split
  all_goals first | exact id | exact hn _ _ _ _ | exact hj _ _ _ _ _ | (intro h; cases h; done) | exact zaft_mono hn hj (hc _ _ _) _
theorem zmo_lastore : zMono zo_lastore := by
  intro a b c k D S hl sw next next' jump jump' call call' hn hj hc L st M r
  unfold zo_lastore
  repeat' split
  all_goals first | exact id | exact hn _ _ _ _ | exact hj _ _ _ _ _ | (intro h; cases h; done) | exact zaft_mono hn hj (hc _ _ _) _
theorem zmo_dconst : zMono zo_dconst := by
  intro a b c k D S hl sw next next' jump jump' call call' hn hj hc L st M r
  unfold zo_dconst
  repeat' split
  all_goals first | exact id | exact hn _ _ _ _ | exact hj _ _ _ _ _ | (intro h; cases h; done) | exact zaft_mono hn hj (hc _ _ _) _
theorem zmo_dload : zMono zo_dload := by
  intro a b c k D S hl sw next next' jump jump' call call' hn hj hc L st M r
  unfold zo_dload
  repeat' split
  all_goals first | exact id | exact hn _ _ _ _ | exact hj _ _ _ _ _ | (intro h; cases h; done) | exact zaft_mono hn hj (hc _ _ _) _
theorem zmo_dstore : zMono zo_dstore := by
  intro a b c k D S hl sw next next' jump jump' call call' hn hj hc L st M r
  unfold zo_dstore
  repeat' split
  all_goals first | exact id | exact hn _ _ _ _ | exact hj _ _ _ _ _ | (intro h; cases h; done) | exact zaft_mono hn hj (hc _ _ _) _
theorem zmo_daload : zMono zo_daload := by
  intro a b c k D S hl sw next next' jump jump' call call' hn hj hc L st M r
  unfold zo_daload
  repeat' split
  all_goals first | exact id | exact hn _ _ _ _ | exact hj _ _ _ _ _ | (intro h; cases h; done) | exact zaft_mono hn hj (hc _ _ _) _
theorem zmo_dastore : zMono zo_dastore := by
  intro a b c k D S hl sw next next' jump jump' call call' hn hj hc L st M r
  unfold zo_dastore
  repeat' split
  all_goals first | exact id | exact hn _ _ _ _ | exact hj _ _ _ _ _ | (intro h; cases h; done) | exact zaft_mono hn hj (hc _ _ _) _
theorem zmo_dadd : zMono zo_dadd := by
  intro a b c k D S hl sw next next' jump jump' call call' hn hj hc L st M r
  unfold zo_dadd
  repeat' split
  all_goals first | exact id | exact hn _ _ _ _ | exact hj _ _ _ _ _ | (intro h; cases h; done) | exact zaft_mono hn hj (hc _ _ _) _
theorem zmo_dmul : zMono zo_dmul := by
  intro a b c k D S hl sw next next' jump jump' call call' hn hj hc L st M r
  unfold zo_dmul
  repeat' split
  all_goals first | exact id | exact hn _ _ _ _ | exact hj _ _ _ _ _ | (intro h; cases h; done) | exact zaft_mono hn hj (hc _ _ _) _
theorem zmo_ddiv : zMono zo_ddiv := by
  intro a b c k D S hl sw next next' jump jump' call call' hn hj hc L st M r
  unfold zo_ddiv
  repeat' split
  all_goals first | exact id | exact hn _ _ _ _ | exact hj _ _ _ _ _ | (intro h; cases h; done) | exact zaft_mono hn hj (hc _ _ _) _
theorem zmo_dcmp : zMono zo_dcmp := by
  intro a b c k D S hl sw next next' jump jump' call call' hn hj hc L st M r
  unfold zo_dcmp
  repeat' split
  all_goals first | exact id | exact hn _ _ _ _ | exact hj _ _ _ _ _ | (intro h; cases h; done) | exact zaft_mono hn hj (hc _ _ _) _
theorem zmo_i2d : zMono zo_i2d := by
  intro a b c k D S hl sw next next' jump jump' call call' hn hj hc L st M r
  unfold zo_i2d
  repeat' split
  all_goals first | exact id | exact hn _ _ _ _ | exact hj _ _ _ _ _ | (intro h; cases h; done) | exact zaft_mono hn hj (hc _ _ _) _
theorem zmo_fconst : zMono zo_fconst := by
  intro a b c k D S hl sw next next' jump jump' call call' hn hj hc L st M r
  unfold zo_fconst
  repeat' split
  all_goals first | exact id | exact hn _ _ _ _ | exact hj _ _ _ _ _ | (intro h; cases h; done) | exact zaft_mono hn hj (hc _ _ _) _
theorem zmo_fload : zMono zo_fload := by
  intro a b c k D S hl sw next next' jump jump' call call' hn hj hc L st M r
  unfold zo_fload
  repeat' split
  all_goals first | exact id | exact hn _ _ _ _ | exact hj _ _ _ _ _ | (intro h; cases h; done) | exact zaft_mono hn hj (hc _ _ _) _
theorem zmo_fstore : zMono zo_fstore := by
  intro a b c k D S hl sw next next' jump jump' call call' hn hj hc L st M r
  unfold zo_fstore
  repeat' split
  all_goals first | exact id | exact hn _ _ _ _ | exact hj _ _ _ _ _ | (intro h; cases h; done) | exact zaft_mono hn hj (hc _ _ _) _
theorem zmo_fdiv : zMono zo_fdiv := by
  intro a b c k D S hl sw next next' jump jump' call call' hn hj hc L st M r
  unfold zo_fdiv
  repeat' split
  all_goals first | exact id | exact hn _ _ _ _ | exact hj _ _ _ _ _ | (intro h; cases h; done) | exact zaft_mono hn hj (hc _ _ _) _
theorem zmo_fmul : zMono zo_fmul := by
  intro a b c k D S hl sw next next' jump jump' call call' hn hj hc L st M r
  unfold zo_fmul
  repeat' split
  all_goals first | exact id | exact hn _ _ _ _ | exact hj _ _ _ _ _ | (intro h; cases h; done) | exact zaft_mono hn hj (hc _ _ _) _
theorem zmo_fsub : zMono zo_fsub := by
  intro a b c k D S hl sw next next' jump jump' call call' hn hj hc L st M r
  unfold zo_fsub
  repeat' split
  all_goals first | exact id | exact hn _ _ _ _ | exact hj _ _ _ _ _ | (intro h; cases h; done) | exact zaft_mono hn hj (hc _ _ _) _
theorem zmo_fneg : zMono zo_fneg := by
  intro a b c k D S hl sw next next' jump jump' call call' hn hj hc L st M r
  unfold zo_fneg
  repeat' split
  all_goals first | exact id | exact hn _ _ _ _ | exact hj _ _ _ _ _ | (intro h; cases h; done) | exact zaft_mono hn hj (hc _ _ _) _
theorem zmo_fcmp : zMono zo_fcmp := by
  intro a b c k D S hl sw next next' jump jump' call call' hn hj hc L st M r
  unfold zo_fcmp
  repeat' split
  all_goals first | exact id | exact hn _ _ _ _ | exact hj _ _ _ _ _ | (intro h; cases h; done) | exact zaft_mono hn hj (hc _ _ _) _
theorem zmo_i2f : zMono zo_i2f := by
  intro a b c k D S hl sw next next' jump jump' call call' hn hj hc L st M r
  unfold zo_i2f
  repeat' split
  all_goals first | exact id | exact hn _ _ _ _ | exact hj _ _ _ _ _ | (intro h; cases h; done) | exact zaft_mono hn hj (hc _ _ _) _
theorem zmo_f2i : zMono zo_f2i := by
  intro a b c k D S hl sw next next' jump jump' call call' hn hj hc L st M r
  unfold zo_f2i
  repeat' split
  all_goals first | exact id | exact hn _ _ _ _ | exact hj _ _ _ _ _ | (intro h; cases h; done) | exact zaft_mono hn hj (hc _ _ _) _
theorem zmo_f2d : zMono zo_f2d := by
  intro a b c k D S hl sw next next' jump jump' call call' hn hj hc L st M r
  unfold zo_f2d
  repeat' split
  all_goals first | exact id | exact hn _ _ _ _ | exact hj _ _ _ _ _ | (intro h; cases h; done) | exact zaft_mono hn hj (hc _ _ _) _
theorem zmo_fldc : zMono zo_fldc := by
  intro a b c k D S hl sw next next' jump jump' call call' hn hj hc L st M r
  unfold zo_fldc
  repeat' split
  all_goals first | exact id | exact hn _ _ _ _ | exact hj _ _ _ _ _ | (intro h; cases h; done) | exact zaft_mono hn hj (hc _ _ _) _
theorem zmo_caload : zMono zo_caload := by
  intro a b c k D S hl sw next next' jump jump' call call' hn hj hc L st M r
  unfold zo_caload
  repeat' split
  all_goals first | exact id | exact hn _ _ _ _ | exact hj _ _ _ _ _ | (intro h; cases h; done) | exact zaft_mono hn hj (hc _ _ _) _
theorem zmo_castore : zMono zo_castore := by
  intro a b c k D S hl sw next next' jump jump' call call' hn hj hc L st M r
  unfold zo_castore
  repeat' split
  all_goals first | exact id | exact hn _ _ _ _ | exact hj _ _ _ _ _ | (intro h; cases h; done) | exact zaft_mono hn hj (hc _ _ _) _
theorem zmo_zaload : zMono zo_zaload := by
  intro a b c k D S hl sw next next' jump jump' call call' hn hj hc L st M r
  unfold zo_zaload
  repeat' split
  all_goals first | exact id | exact hn _ _ _ _ | exact hj _ _ _ _ _ | (intro h; cases h; done) | exact zaft_mono hn hj (hc _ _ _) _
theorem zmo_zastore : zMono zo_zastore := by
  intro a b c k D S hl sw next next' jump jump' call call' hn hj hc L st M r
  unfold zo_zastore
  repeat' split
  all_goals first | exact id | exact hn _ _ _ _ | exact hj _ _ _ _ _ | (intro h; cases h; done) | exact zaft_mono hn hj (hc _ _ _) _
theorem zmo_i2c : zMono zo_i2c := by
  intro a b c k D S hl sw next next' jump jump' call call' hn hj hc L st M r
  unfold zo_i2c
  repeat' split
  all_goals first | exact id | exact hn _ _ _ _ | exact hj _ _ _ _ _ | (intro h; cases h; done) | exact zaft_mono hn hj (hc _ _ _) _
theorem zmo_tsw : zMono zo_tsw := by
  intro a b c k D S hl sw next next' jump jump' call call' hn hj hc L st M r
  unfold zo_tsw
  repeat' split
  all_goals first | exact id | exact hn _ _ _ _ | exact hj _ _ _ _ _ | (intro h; cases h; done) | exact zaft_mono hn hj (hc _ _ _) _
theorem zmo_null : zMono zo_null := by
  intro a b c k D S hl sw next next' jump jump' call call' hn hj hc L st M r
  unfold zo_null
  repeat' split
  all_goals first | exact id | exact hn _ _ _ _ | exact hj _ _ _ _ _ | (intro h; cases h; done) | exact zaft_mono hn hj (hc _ _ _) _
theorem zmo_acopy : zMono zo_acopy := by
  intro a b c k D S hl sw next next' jump jump' call call' hn hj hc L st M r
  unfold zo_acopy
  repeat' split
  all_goals first | exact id | exact hn _ _ _ _ | exact hj _ _ _ _ _ | (intro h; cases h; done) | exact zaft_mono hn hj (hc _ _ _) _
theorem zmo_f2bits : zMono zo_f2bits := by
  intro a b c k D S hl sw next next' jump jump' call call' hn hj hc L st M r
  unfold zo_f2bits
  repeat' split
  all_goals first | exact id | exact hn _ _ _ _ | exact hj _ _ _ _ _ | (intro h; cases h; done) | exact zaft_mono hn hj (hc _ _ _) _
theorem zmo_objinit : zMono zo_objinit := by
  intro a b c k D S hl sw next next' jump jump' call call' hn hj hc L st M r
  unfold zo_objinit
  repeat' split
  all_goals first | exact id | exact hn _ _ _ _ | exact hj _ _ _ _ _ | (intro h; cases h; done) | exact zaft_mono hn hj (hc _ _ _) _
theorem zmo_dldc : zMono zo_dldc := by
  intro a b c k D S hl sw next next' jump jump' call call' hn hj hc L st M r
  unfold zo_dldc
  repeat' split
  all_goals first | exact id | exact hn _ _ _ _ | exact hj _ _ _ _ _ | (intro h; cases h; done) | exact zaft_mono hn hj (hc _ _ _) _
theorem zmo_fall : zMono zo_fall := by
  intro a b c k D S hl sw next next' jump jump' call call' hn hj hc L st M r
  unfold zo_fall
  repeat' split
  all_goals first | exact id | exact hn _ _ _ _ | exact hj _ _ _ _ _ | (intro h; cases h; done) | exact zaft_mono hn hj (hc _ _ _) _
theorem zmo_sald : zMono zo_sald := by
  intro a b c k D S hl sw next next' jump jump' call call' hn hj hc L st M r
  unfold zo_sald
  repeat' split
  all_goals first | exact id | exact hn _ _ _ _ | exact hj _ _ _ _ _ | (intro h; cases h; done) | exact zaft_mono hn hj (hc _ _ _) _
theorem zmo_slen : zMono zo_slen := by
  intro a b c k D S hl sw next next' jump jump' call call' hn hj hc L st M r
  unfold zo_slen
  repeat' split
  all_goals first | exact id | exact hn _ _ _ _ | exact hj _ _ _ _ _ | (intro h; cases h; done) | exact zaft_mono hn hj (hc _ _ _) _
theorem zmo_no : zMono (fun _ _ _ _ _ _ _ _ _ _ _ _ _ _ => none) := by
  intro a b c k D S hl sw next next' jump jump' call call' hn hj hc L st M r h
  cases h
theorem zstep_mono (o : Nat) : zMono (zstep o) := by
  unfold zstep
  split
  · exact zmo_aload
  · exact zmo_getI
  · exact zmo_getA
  · exact zmo_iconst
  · exact zmo_iload
  · exact zmo_callS
  · exact zmo_callV
  · exact zmo_callI
  · exact zmo_iret
  · exact zmo_zret
  · exact zmo_goto
  · exact zmo_putI
  · exact zmo_putZ
  · exact zmo_putA
  · exact zmo_if14
  · exact zmo_if15
  · exact zmo_if16
  · exact zmo_if17
  · exact zmo_if18
  · exact zmo_if19
  · exact zmo_ic20
  · exact zmo_ic21
  · exact zmo_ic22
  · exact zmo_ic23
  · exact zmo_ic24
  · exact zmo_ic25
  · exact zmo_in26
  · exact zmo_in27
  · exact zmo_ia28
  · exact zmo_ia29
  · exact zmo_istore
  · exact zmo_astore
  · exact zmo_iinc
  · exact zmo_iaload
  · exact zmo_aaload
  · exact zmo_iastore
  · exact zmo_alen
  · exact zmo_iadd
  · exact zmo_isub
  · exact zmo_imul
  · exact zmo_idiv
  · exact zmo_irem
  · exact zmo_iand
  · exact zmo_ior
  · exact zmo_ishl
  · exact zmo_iushr
  · exact zmo_ixor
  · exact zmo_dup
  · exact zmo_dup2
  · exact zmo_pop
  · exact zmo_vret
  · exact zmo_aret
  · exact zmo_lret
  · exact zmo_dret
  · exact zmo_fret
  · exact zmo_throw
  · exact zmo_throwW
  · exact zmo_new
  · exact zmo_newarr
  · exact zmo_anew
  · exact zmo_multi2
  · exact zmo_multi3
  · exact zmo_aastore
  · exact zmo_pop2
  · exact zmo_lconst
  · exact zmo_i2l
  · exact zmo_l2i
  · exact zmo_ladd
  · exact zmo_lsub
  · exact zmo_lmul
  · exact zmo_ldiv
  · exact zmo_lrem
  · exact zmo_lcmp
  · exact zmo_lload
  · exact zmo_lstore
  · exact zmo_laload
  · exact zmo_lastore
  · exact zmo_dconst
  · exact zmo_dload
  · exact zmo_dstore
  · exact zmo_daload
  · exact zmo_dastore
  · exact zmo_dadd
  · exact zmo_dmul
  · exact zmo_ddiv
  · exact zmo_dcmp
  · exact zmo_i2d
  · exact zmo_fconst
  · exact zmo_fload
  · exact zmo_fstore
  · exact zmo_fdiv
  · exact zmo_fmul
  · exact zmo_fsub
  · exact zmo_fneg
  · exact zmo_fcmp
  · exact zmo_i2f
  · exact zmo_f2i
  · exact zmo_f2d
  · exact zmo_fldc
  · exact zmo_caload
  · exact zmo_castore
  · exact zmo_zaload
  · exact zmo_zastore
  · exact zmo_i2c
  · exact zmo_tsw
  · exact zmo_null
  · exact zmo_acopy
  · exact zmo_f2bits
  · exact zmo_objinit
  · exact zmo_dldc
  · exact zmo_fall
  · exact zmo_sald
  · exact zmo_slen
  · exact zmo_no
theorem zrun_mono {S : zSs} : ∀ (N D m : Nat) (is : List zI) (L : zN) (st : List zv_V) (M : zMm) (r : zRr), zrun S N D m is L st M = some r → zrun S (N + 1) D m is L st M = some r
  | 0, _, _, _, _, _, _, _, h => by cases h
  | N + 1, D, m, [], _, _, _, _, h => by cases h
  | N + 1, D, m, (o, a, b, c, k) :: is, L, st, M, r, h =>
    zstep_mono o a b c k D S (zhl m) (zsw m) _ _ _ _ _ _ (fun L st M r h => zrun_mono N D m is L st M r h) (fun b L st M r h => zrun_mono N D m (zcd m b) L st M r h) (fun m' As M r h => by
      by_cases hw : zs_w As ≤ znl m'
      · rw [if_pos hw] at h ⊢
        exact zrun_mono N (D - 1) m' (zcd m' 0) (zarg (znl m') As) [] M r h
      · rw [if_neg hw] at h; cases h) L st M r h
theorem zrun_more {S : zSs} {N D m : Nat} {is : List zI} {L : zN} {st : List zv_V} {M : zMm} {r : zRr} (h : zrun S N D m is L st M = some r) : ∀ K, zrun S (N + K) D m is L st M = some r
  | 0 => h
  | K + 1 => zrun_mono _ _ _ _ _ _ _ _ (zrun_more h K)
theorem zrun_s {S : zSs} {N D m o a b c : Nat} {k : Int} {is : List zI} {L : zN} {st : List zv_V} {M : zMm} : zrun S (N + 1) D m ((o, a, b, c, k) :: is) L st M = zstep o a b c k D S (zhl m) (zsw m) (zrun S N D m is) (fun b => zrun S N D m (zcd m b)) (fun m' As M => if zs_w As ≤ znl m' then zrun S N (D - 1) m' (zcd m' 0) (zarg (znl m') As) [] M else none) L st M := rfl
theorem zs_aload : zstep 0 = zo_aload := rfl
theorem zs_getI : zstep 1 = zo_getI := rfl
theorem zs_getA : zstep 2 = zo_getA := rfl
theorem zs_iconst : zstep 3 = zo_iconst := rfl
theorem zs_iload : zstep 4 = zo_iload := rfl
theorem zs_callS : zstep 5 = zo_callS := rfl
theorem zs_callV : zstep 6 = zo_callV := rfl
theorem zs_callI : zstep 7 = zo_callI := rfl
theorem zs_iret : zstep 8 = zo_iret := rfl
theorem zs_zret : zstep 9 = zo_zret := rfl
theorem zs_goto : zstep 10 = zo_goto := rfl
theorem zs_putI : zstep 11 = zo_putI := rfl
theorem zs_putZ : zstep 12 = zo_putZ := rfl
theorem zs_putA : zstep 13 = zo_putA := rfl
theorem zs_if14 : zstep 14 = zo_if14 := rfl
theorem zs_if15 : zstep 15 = zo_if15 := rfl
theorem zs_if16 : zstep 16 = zo_if16 := rfl
theorem zs_if17 : zstep 17 = zo_if17 := rfl
theorem zs_if18 : zstep 18 = zo_if18 := rfl
theorem zs_if19 : zstep 19 = zo_if19 := rfl
theorem zs_ic20 : zstep 20 = zo_ic20 := rfl
theorem zs_ic21 : zstep 21 = zo_ic21 := rfl
theorem zs_ic22 : zstep 22 = zo_ic22 := rfl
theorem zs_ic23 : zstep 23 = zo_ic23 := rfl
theorem zs_ic24 : zstep 24 = zo_ic24 := rfl
theorem zs_ic25 : zstep 25 = zo_ic25 := rfl
theorem zs_in26 : zstep 26 = zo_in26 := rfl
theorem zs_in27 : zstep 27 = zo_in27 := rfl
theorem zs_ia28 : zstep 28 = zo_ia28 := rfl
theorem zs_ia29 : zstep 29 = zo_ia29 := rfl
theorem zs_istore : zstep 30 = zo_istore := rfl
theorem zs_astore : zstep 31 = zo_astore := rfl
theorem zs_iinc : zstep 32 = zo_iinc := rfl
theorem zs_iaload : zstep 33 = zo_iaload := rfl
theorem zs_aaload : zstep 34 = zo_aaload := rfl
theorem zs_iastore : zstep 35 = zo_iastore := rfl
theorem zs_alen : zstep 36 = zo_alen := rfl
theorem zs_iadd : zstep 37 = zo_iadd := rfl
theorem zs_isub : zstep 38 = zo_isub := rfl
theorem zs_imul : zstep 39 = zo_imul := rfl
theorem zs_idiv : zstep 40 = zo_idiv := rfl
theorem zs_irem : zstep 41 = zo_irem := rfl
theorem zs_iand : zstep 42 = zo_iand := rfl
theorem zs_ior : zstep 43 = zo_ior := rfl
theorem zs_ishl : zstep 44 = zo_ishl := rfl
theorem zs_iushr : zstep 45 = zo_iushr := rfl
theorem zs_ixor : zstep 46 = zo_ixor := rfl
theorem zs_dup : zstep 47 = zo_dup := rfl
theorem zs_dup2 : zstep 48 = zo_dup2 := rfl
theorem zs_pop : zstep 49 = zo_pop := rfl
theorem zs_vret : zstep 50 = zo_vret := rfl
theorem zs_aret : zstep 51 = zo_aret := rfl
theorem zs_lret : zstep 52 = zo_lret := rfl
theorem zs_dret : zstep 53 = zo_dret := rfl
theorem zs_fret : zstep 54 = zo_fret := rfl
theorem zs_throw : zstep 55 = zo_throw := rfl
theorem zs_throwW : zstep 56 = zo_throwW := rfl
theorem zs_new : zstep 57 = zo_new := rfl
theorem zs_newarr : zstep 58 = zo_newarr := rfl
theorem zs_anew : zstep 59 = zo_anew := rfl
theorem zs_multi2 : zstep 60 = zo_multi2 := rfl
theorem zs_multi3 : zstep 61 = zo_multi3 := rfl
theorem zs_aastore : zstep 62 = zo_aastore := rfl
theorem zs_pop2 : zstep 63 = zo_pop2 := rfl
theorem zs_lconst : zstep 64 = zo_lconst := rfl
theorem zs_i2l : zstep 65 = zo_i2l := rfl
theorem zs_l2i : zstep 66 = zo_l2i := rfl
theorem zs_ladd : zstep 67 = zo_ladd := rfl
theorem zs_lsub : zstep 68 = zo_lsub := rfl
theorem zs_lmul : zstep 69 = zo_lmul := rfl
theorem zs_ldiv : zstep 70 = zo_ldiv := rfl
theorem zs_lrem : zstep 71 = zo_lrem := rfl
theorem zs_lcmp : zstep 72 = zo_lcmp := rfl
theorem zs_lload : zstep 73 = zo_lload := rfl
theorem zs_lstore : zstep 74 = zo_lstore := rfl
theorem zs_laload : zstep 75 = zo_laload := rfl
theorem zs_lastore : zstep 76 = zo_lastore := rfl
theorem zs_dconst : zstep 77 = zo_dconst := rfl
theorem zs_dload : zstep 78 = zo_dload := rfl
theorem zs_dstore : zstep 79 = zo_dstore := rfl
theorem zs_daload : zstep 80 = zo_daload := rfl
theorem zs_dastore : zstep 81 = zo_dastore := rfl
theorem zs_dadd : zstep 82 = zo_dadd := rfl
theorem zs_dmul : zstep 83 = zo_dmul := rfl
theorem zs_ddiv : zstep 84 = zo_ddiv := rfl
theorem zs_dcmp : zstep 85 = zo_dcmp := rfl
theorem zs_i2d : zstep 86 = zo_i2d := rfl
theorem zs_fconst : zstep 87 = zo_fconst := rfl
theorem zs_fload : zstep 88 = zo_fload := rfl
theorem zs_fstore : zstep 89 = zo_fstore := rfl
theorem zs_fdiv : zstep 90 = zo_fdiv := rfl
theorem zs_fmul : zstep 91 = zo_fmul := rfl
theorem zs_fsub : zstep 92 = zo_fsub := rfl
theorem zs_fneg : zstep 93 = zo_fneg := rfl
theorem zs_fcmp : zstep 94 = zo_fcmp := rfl
theorem zs_i2f : zstep 95 = zo_i2f := rfl
theorem zs_f2i : zstep 96 = zo_f2i := rfl
theorem zs_f2d : zstep 97 = zo_f2d := rfl
theorem zs_fldc : zstep 98 = zo_fldc := rfl
theorem zs_caload : zstep 99 = zo_caload := rfl
theorem zs_castore : zstep 100 = zo_castore := rfl
theorem zs_zaload : zstep 101 = zo_zaload := rfl
theorem zs_zastore : zstep 102 = zo_zastore := rfl
theorem zs_i2c : zstep 103 = zo_i2c := rfl
theorem zs_tsw : zstep 104 = zo_tsw := rfl
theorem zs_null : zstep 105 = zo_null := rfl
theorem zs_acopy : zstep 106 = zo_acopy := rfl
theorem zs_f2bits : zstep 107 = zo_f2bits := rfl
theorem zs_objinit : zstep 108 = zo_objinit := rfl
theorem zs_dldc : zstep 109 = zo_dldc := rfl
theorem zs_fall : zstep 111 = zo_fall := rfl
theorem zs_sald : zstep 112 = zo_sald := rfl
theorem zs_slen : zstep 113 = zo_slen := rfl
section ZB
variable {S : zSs} {D m n u a b c : Nat} {k : Int} {is is' : List zI} {i : zI} {L L' : zN} {st st' : List zv_V} {sh sh' : zk_S} {d d' : zm_D} {n' u' : Nat} {Q : ((Option zv_V) ⊕ Nat) → Nat → zk_S → zm_D → Nat → Prop}
theorem zB_next (h : ∀ N, zrun S (N + 1) D m (i :: is) L st (n, sh, d, u) = zrun S N D m is' L' st' (n', sh', d', u')) : zB S D m (i :: is) L st n sh d u Q ↔ zB S D m is' L' st' n' sh' d' u' Q := by
  constructor
  · rintro ⟨N, r, h1, h2⟩
    cases N with
    | zero => cases h1
    | succ N => exact ⟨N, r, (h N).symm.trans h1, h2⟩
  · rintro ⟨N, r, h1, h2⟩
    exact ⟨N + 1, r, (h N).trans h1, h2⟩
theorem zB_none (h : ∀ N, zrun S (N + 1) D m (i :: is) L st (n, sh, d, u) = none) : zB S D m (i :: is) L st n sh d u Q ↔ False := by
  constructor
  · rintro ⟨N, r, h1, h2⟩
    cases N with
    | zero => cases h1
    | succ N => rw [h N] at h1; cases h1
  · exact False.elim
theorem zB_ret {x : (Option zv_V) ⊕ Nat} (h : ∀ N, zrun S (N + 1) D m (i :: is) L st (n, sh, d, u) = some (x, n', sh', d', u')) : zB S D m (i :: is) L st n sh d u Q ↔ Q x n' sh' d' u' := by
  constructor
  · rintro ⟨N, r', h1, h2⟩
    cases N with
    | zero => cases h1
    | succ N =>
      cases (h N).symm.trans h1
      exact h2
  · intro q
    exact ⟨1, _, h 0, q⟩
theorem zB_guard {g : Prop} [Decidable g] (h : ∀ N, zrun S (N + 1) D m (i :: is) L st (n, sh, d, u) = if g then zrun S N D m is' L' st' (n', sh', d', u') else none) : zB S D m (i :: is) L st n sh d u Q ↔ g ∧ zB S D m is' L' st' n' sh' d' u' Q := by
  by_cases hg : g
  · rw [zB_next (fun N => (h N).trans (if_pos hg))]
    exact ⟨fun q => ⟨hg, q⟩, fun q => q.2⟩
  · rw [zB_none (fun N => (h N).trans (if_neg hg))]
    exact ⟨False.elim, fun q => (hg q.1).elim⟩
theorem zB_gret {g : Prop} [Decidable g] {x : (Option zv_V) ⊕ Nat} (h : ∀ N, zrun S (N + 1) D m (i :: is) L st (n, sh, d, u) = if g then some (x, n', sh', d', u') else none) : zB S D m (i :: is) L st n sh d u Q ↔ g ∧ Q x n' sh' d' u' := by
  by_cases hg : g
  · rw [zB_ret (fun N => (h N).trans (if_pos hg))]
    exact ⟨fun q => ⟨hg, q⟩, fun q => q.2⟩
  · rw [zB_none (fun N => (h N).trans (if_neg hg))]
    exact ⟨False.elim, fun q => (hg q.1).elim⟩
theorem zB_if {g : Prop} [Decidable g] {b1 : Nat} (h : ∀ N, zrun S (N + 1) D m (i :: is) L st (n, sh, d, u) = if g then zrun S N D m (zcd m b1) L' st' (n, sh, d, u) else zrun S N D m is' L' st' (n, sh, d, u)) : zB S D m (i :: is) L st n sh d u Q ↔ if g then zJ S D m b1 L' st' n sh d u Q else zB S D m is' L' st' n sh d u Q := by
  by_cases hg : g
  · rw [zB_next (fun N => (h N).trans (if_pos hg)), if_pos hg]; rfl
  · rw [zB_next (fun N => (h N).trans (if_neg hg)), if_neg hg]
theorem zB_gif {g0 g : Prop} [Decidable g0] [Decidable g] {b1 : Nat} (h : ∀ N, zrun S (N + 1) D m (i :: is) L st (n, sh, d, u) = if g0 then (if g then zrun S N D m (zcd m b1) L' st' (n, sh, d, u) else zrun S N D m is' L' st' (n, sh, d, u)) else none) : zB S D m (i :: is) L st n sh d u Q ↔ g0 ∧ if g then zJ S D m b1 L' st' n sh d u Q else zB S D m is' L' st' n sh d u Q := by
  by_cases hg : g0
  · rw [zB_if (fun N => (h N).trans (if_pos hg))]
    exact ⟨fun q => ⟨hg, q⟩, fun q => q.2⟩
  · rw [zB_none (fun N => (h N).trans (if_neg hg))]
    exact ⟨False.elim, fun q => (hg q.1).elim⟩
def zKa : Option zv_V → (Int → Prop) → Prop
  | some (.inl (.inr x)), f => f x
  | _, _ => False
def zKi : Option zv_V → (Int → Prop) → Prop
  | some (.inl (.inl x)), f => f x
  | _, _ => False
def zKl : Option zv_V → (Int → Prop) → Prop
  | some (.inr (.inl x)), f => f x
  | _, _ => False
def zKd : Option zv_V → (UInt64 → Prop) → Prop
  | some (.inr (.inr (.inl x))), f => f x
  | _, _ => False
def zKf : Option zv_V → (UInt32 → Prop) → Prop
  | some (.inr (.inr (.inr x))), f => f x
  | _, _ => False
def zO {α : Type} : Option α → (α → Prop) → Prop
  | some x, f => f x
  | none, _ => False
def zKp : Option (List zv_V × List zv_V) → (List zv_V → List zv_V → Prop) → Prop
  | some (As, rest), f => f As rest
  | none, _ => False
def zKr : Option (List zv_V × List zv_V) → (List zv_V → Int → List zv_V → Prop) → Prop
  | some (As, .inl (.inr r) :: rest), f => f As r rest
  | _, _ => False
theorem zKa_s {x : Int} {f : Int → Prop} : zKa (some (zv_a x)) f = f x := rfl
theorem zKi_s {x : Int} {f : Int → Prop} : zKi (some (zv_i x)) f = f x := rfl
theorem zKl_s {x : Int} {f : Int → Prop} : zKl (some (zv_l x)) f = f x := rfl
theorem zKd_s {x : UInt64} {f : UInt64 → Prop} : zKd (some (zv_d x)) f = f x := rfl
theorem zKf_s {x : UInt32} {f : UInt32 → Prop} : zKf (some (zv_f x)) f = f x := rfl
theorem zO_s {α : Type} {x : α} {f : α → Prop} : zO (some x) f = f x := rfl
theorem zKp_s {As rest : List zv_V} {f : List zv_V → List zv_V → Prop} : zKp (some (As, rest)) f = f As rest := rfl
theorem zKr_s {As rest : List zv_V} {r : Int} {f : List zv_V → Int → List zv_V → Prop} : zKr (some (As, zv_a r :: rest)) f = f As r rest := rfl
theorem zget_0 {v : Option zv_V} : zget (v :: L) 0 = v := rfl
theorem zget_s {v : Option zv_V} {j : Nat} : zget (v :: L) (j + 1) = zget L j := rfl
theorem zst1_0 {x : Option zv_V} {v : zv_V} : zst1 (x :: L) 0 v = some v :: L := rfl
theorem zst1_1 {x : Option zv_V} {v : zv_V} : zst1 (x :: L) 1 v = zk1 x :: zst1 L 0 v := rfl
theorem zst1_s {x : Option zv_V} {j : Nat} {v : zv_V} : zst1 (x :: L) (j + 2) v = x :: zst1 L (j + 1) v := rfl
theorem zst2_0 {x y : Option zv_V} {v : zv_V} : zst2 (x :: y :: L) 0 v = some v :: none :: L := rfl
theorem zst2_1 {x : Option zv_V} {v : zv_V} : zst2 (x :: L) 1 v = zk1 x :: zst2 L 0 v := by cases L <;> rfl
theorem zst2_s {x : Option zv_V} {j : Nat} {v : zv_V} : zst2 (x :: L) (j + 2) v = x :: zst2 L (j + 1) v := by cases L <;> rfl
theorem zk1_n : zk1 none = none := rfl
theorem zk1_i {x : Int} : zk1 (some (zv_i x)) = some (zv_i x) := rfl
theorem zk1_a {x : Int} : zk1 (some (zv_a x)) = some (zv_a x) := rfl
theorem zk1_f {x : UInt32} : zk1 (some (zv_f x)) = some (zv_f x) := rfl
theorem zk1_l {x : Int} : zk1 (some (zv_l x)) = none := rfl
theorem zk1_d {x : UInt64} : zk1 (some (zv_d x)) = none := rfl
theorem zpop_0 {acc : List zv_V} : zpop 0 st acc = some (acc, st) := rfl
theorem zpop_s {j : Nat} {v : zv_V} {acc : List zv_V} : zpop (j + 1) (v :: st) acc = zpop j st (v :: acc) := rfl
/-- behind a call -/
def zA (S : zSs) (D m : Nat) (is : List zI) (L : zN) (rest : List zv_V) (Q : ((Option zv_V) ⊕ Nat) → Nat → zk_S → zm_D → Nat → Prop) (o : (Option zv_V) ⊕ Nat) (n : Nat) (sh : zk_S) (d : zm_D) (u : Nat) : Prop := match o with
  | .inl v => zB S D m is L (v.toList ++ rest) n sh d u Q
  | .inr x => match zhl m with
    | [] => Q (.inr x) n sh d u
    | h :: t => match zlook (h :: t) x with
      | some (b, k) => zJ S D m b (zclr L k) [] n sh d u Q
      | none => False
theorem zA_s {v : zv_V} {rest : List zv_V} : zA S D m is L rest Q (.inl (some v)) n sh d u = zB S D m is L (v :: rest) n sh d u Q := rfl
theorem zA_n {rest : List zv_V} : zA S D m is L rest Q (.inl none) n sh d u = zB S D m is L rest n sh d u Q := rfl
theorem zA_x {x : Nat} {rest : List zv_V} (h : zhl m = []) : zA S D m is L rest Q (.inr x) n sh d u = Q (.inr x) n sh d u := by unfold zA; simp only [h]
theorem zB_call {rest As : List zv_V} {g : Prop} [Decidable g] (h : ∀ N, zrun S (N + 1) D m (i :: is) L st (n, sh, d, u) = if g then zaft (zhl m) (zrun S N D m is) (fun b => zrun S N D m (zcd m b)) L rest (if zs_w As ≤ znl a then zrun S N (D - 1) a (zcd a 0) (zarg (znl a) As) [] (n, sh, d, u) else none) else none) :
    zB S D m (i :: is) L st n sh d u Q ↔ g ∧ zE S (D - 1) a As n sh d u (zA S D m is L rest Q) := by
  by_cases hg : g
  · by_cases hw : zs_w As ≤ znl a
    · constructor
      · rintro ⟨N, r, h1, h2⟩
        refine ⟨hg, hw, ?_⟩
        cases N with
        | zero => cases h1
        | succ N =>
          rw [h N, if_pos hg, if_pos hw] at h1
          cases hc : zrun S N (D - 1) a (zcd a 0) (zarg (znl a) As) [] (n, sh, d, u) with
          | none => rw [hc] at h1; cases h1
          | some q =>
            rw [hc] at h1
            refine ⟨N, q, hc, ?_⟩
            obtain ⟨v | x, n1, sh1, d1, u1⟩ := q
            · exact ⟨N, r, h1, h2⟩
            · show zA S D m is L rest Q (.inr x) n1 sh1 d1 u1
              unfold zA
              simp only [zaft] at h1
              cases hh : zhl m with
              | nil => rw [hh] at h1; cases h1; exact h2
              | cons h0 t =>
                rw [hh] at h1
                dsimp only at h1 ⊢
                cases hk : zlook (h0 :: t) x with
                | none => rw [hk] at h1; cases h1
                | some y =>
                  rw [hk] at h1
                  exact ⟨N, r, h1, h2⟩
      · rintro ⟨-, -, N1, q, h1, h2⟩
        obtain ⟨v | x, n1, sh1, d1, u1⟩ := q
        · obtain ⟨N2, r, h3, h4⟩ := h2
          refine ⟨N1 + N2 + 1, r, ?_, h4⟩
          rw [h, if_pos hg, if_pos hw, zrun_more h1 N2]
          have h5 := zrun_more h3 N1
          rw [Nat.add_comm] at h5
          exact h5
        · change zA S D m is L rest Q (.inr x) n1 sh1 d1 u1 at h2
          unfold zA at h2
          cases hh : zhl m with
          | nil =>
            rw [hh] at h2
            refine ⟨N1 + 1, (.inr x, n1, sh1, d1, u1), ?_, h2⟩
            rw [h, if_pos hg, if_pos hw, h1]
            simp only [zaft, hh]
          | cons h0 t =>
            rw [hh] at h2
            dsimp only at h2
            cases hk : zlook (h0 :: t) x with
            | none => rw [hk] at h2; exact h2.elim
            | some y =>
              rw [hk] at h2
              obtain ⟨N2, r, h3, h4⟩ := h2
              refine ⟨N1 + N2 + 1, r, ?_, h4⟩
              rw [h, if_pos hg, if_pos hw, zrun_more h1 N2]
              have h5 := zrun_more h3 N1
              rw [Nat.add_comm] at h5
              simp only [zaft, hh, hk]
              exact h5
    · rw [zB_none (fun N => (h N).trans ((if_pos hg).trans (by rw [if_neg hw]; rfl)))]
      exact ⟨False.elim, fun q => (hw q.2.1).elim⟩
  · rw [zB_none (fun N => (h N).trans (if_neg hg))]
    exact ⟨False.elim, fun q => (hg q.1).elim⟩
theorem zr_iadd {y : Int} {x : Int} : zB S D m ((37, a, b, c, k) :: is) L ((zv_i y) :: (zv_i x) :: st) n sh d u Q ↔ zB S D m is L ((zv_i (x + y)) :: st) n sh d u Q := zB_next fun N => rfl
theorem zr_isub {y : Int} {x : Int} : zB S D m ((38, a, b, c, k) :: is) L ((zv_i y) :: (zv_i x) :: st) n sh d u Q ↔ zB S D m is L ((zv_i (x - y)) :: st) n sh d u Q := zB_next fun N => rfl
theorem zr_imul {y : Int} {x : Int} : zB S D m ((39, a, b, c, k) :: is) L ((zv_i y) :: (zv_i x) :: st) n sh d u Q ↔ zB S D m is L ((zv_i (x * y)) :: st) n sh d u Q := zB_next fun N => rfl
theorem zr_idiv {y : Int} {x : Int} : zB S D m ((40, a, b, c, k) :: is) L ((zv_i y) :: (zv_i x) :: st) n sh d u Q ↔ (zw y ≠ 0) ∧ zB S D m is L ((zv_i ((zw x).tdiv (zw y))) :: st) n sh d u Q := zB_guard fun N => rfl
theorem zr_irem {y : Int} {x : Int} : zB S D m ((41, a, b, c, k) :: is) L ((zv_i y) :: (zv_i x) :: st) n sh d u Q ↔ (zw y ≠ 0) ∧ zB S D m is L ((zv_i ((zw x).tmod (zw y))) :: st) n sh d u Q := zB_guard fun N => rfl
theorem zr_iand {y : Int} {x : Int} : zB S D m ((42, a, b, c, k) :: is) L ((zv_i y) :: (zv_i x) :: st) n sh d u Q ↔ zB S D m is L ((zv_i (zb_and x y)) :: st) n sh d u Q := zB_next fun N => rfl
theorem zr_ior {y : Int} {x : Int} : zB S D m ((43, a, b, c, k) :: is) L ((zv_i y) :: (zv_i x) :: st) n sh d u Q ↔ zB S D m is L ((zv_i (zb_or x y)) :: st) n sh d u Q := zB_next fun N => rfl
theorem zr_ishl {y : Int} {x : Int} : zB S D m ((44, a, b, c, k) :: is) L ((zv_i y) :: (zv_i x) :: st) n sh d u Q ↔ zB S D m is L ((zv_i (zb_shl x y)) :: st) n sh d u Q := zB_next fun N => rfl
theorem zr_iushr {y : Int} {x : Int} : zB S D m ((45, a, b, c, k) :: is) L ((zv_i y) :: (zv_i x) :: st) n sh d u Q ↔ zB S D m is L ((zv_i (zb_ushr x y)) :: st) n sh d u Q := zB_next fun N => rfl
theorem zr_ixor {y : Int} {x : Int} : zB S D m ((46, a, b, c, k) :: is) L ((zv_i y) :: (zv_i x) :: st) n sh d u Q ↔ zB S D m is L ((zv_i (zb_xor x y)) :: st) n sh d u Q := zB_next fun N => rfl
theorem zr_i2l {x : Int} : zB S D m ((65, a, b, c, k) :: is) L ((zv_i x) :: st) n sh d u Q ↔ zB S D m is L ((zv_l (zw x)) :: st) n sh d u Q := zB_next fun N => rfl
theorem zr_l2i {x : Int} : zB S D m ((66, a, b, c, k) :: is) L ((zv_l x) :: st) n sh d u Q ↔ zB S D m is L ((zv_i x) :: st) n sh d u Q := zB_next fun N => rfl
theorem zr_ladd {y : Int} {x : Int} : zB S D m ((67, a, b, c, k) :: is) L ((zv_l y) :: (zv_l x) :: st) n sh d u Q ↔ zB S D m is L ((zv_l (x + y)) :: st) n sh d u Q := zB_next fun N => rfl
theorem zr_lsub {y : Int} {x : Int} : zB S D m ((68, a, b, c, k) :: is) L ((zv_l y) :: (zv_l x) :: st) n sh d u Q ↔ zB S D m is L ((zv_l (x - y)) :: st) n sh d u Q := zB_next fun N => rfl
theorem zr_lmul {y : Int} {x : Int} : zB S D m ((69, a, b, c, k) :: is) L ((zv_l y) :: (zv_l x) :: st) n sh d u Q ↔ zB S D m is L ((zv_l (x * y)) :: st) n sh d u Q := zB_next fun N => rfl
theorem zr_ldiv {y : Int} {x : Int} : zB S D m ((70, a, b, c, k) :: is) L ((zv_l y) :: (zv_l x) :: st) n sh d u Q ↔ (zwl y ≠ 0) ∧ zB S D m is L ((zv_l ((zwl x).tdiv (zwl y))) :: st) n sh d u Q := zB_guard fun N => rfl
theorem zr_lrem {y : Int} {x : Int} : zB S D m ((71, a, b, c, k) :: is) L ((zv_l y) :: (zv_l x) :: st) n sh d u Q ↔ (zwl y ≠ 0) ∧ zB S D m is L ((zv_l ((zwl x).tmod (zwl y))) :: st) n sh d u Q := zB_guard fun N => rfl
theorem zr_lcmp {y : Int} {x : Int} : zB S D m ((72, a, b, c, k) :: is) L ((zv_l y) :: (zv_l x) :: st) n sh d u Q ↔ zB S D m is L ((zv_i (zlc x y)) :: st) n sh d u Q := zB_next fun N => rfl
theorem zr_dadd {y : UInt64} {x : UInt64} : zB S D m ((82, a, b, c, k) :: is) L ((zv_d y) :: (zv_d x) :: st) n sh d u Q ↔ (zn64 (FP.dadd x y) = true) ∧ zB S D m is L ((zv_d (FP.dadd x y)) :: st) n sh d u Q := zB_guard fun N => rfl
theorem zr_dmul {y : UInt64} {x : UInt64} : zB S D m ((83, a, b, c, k) :: is) L ((zv_d y) :: (zv_d x) :: st) n sh d u Q ↔ (zn64 (FP.dmul x y) = true) ∧ zB S D m is L ((zv_d (FP.dmul x y)) :: st) n sh d u Q := zB_guard fun N => rfl
theorem zr_ddiv {y : UInt64} {x : UInt64} : zB S D m ((84, a, b, c, k) :: is) L ((zv_d y) :: (zv_d x) :: st) n sh d u Q ↔ (zn64 (FP.ddiv x y) = true) ∧ zB S D m is L ((zv_d (FP.ddiv x y)) :: st) n sh d u Q := zB_guard fun N => rfl
theorem zr_i2d {x : Int} : zB S D m ((86, a, b, c, k) :: is) L ((zv_i x) :: st) n sh d u Q ↔ zB S D m is L ((zv_d (FP.i2d (Int32.ofInt x))) :: st) n sh d u Q := zB_next fun N => rfl
theorem zr_fdiv {y : UInt32} {x : UInt32} : zB S D m ((90, a, b, c, k) :: is) L ((zv_f y) :: (zv_f x) :: st) n sh d u Q ↔ (zn32 (FP.fdiv x y) = true) ∧ zB S D m is L ((zv_f (FP.fdiv x y)) :: st) n sh d u Q := zB_guard fun N => rfl
theorem zr_fmul {y : UInt32} {x : UInt32} : zB S D m ((91, a, b, c, k) :: is) L ((zv_f y) :: (zv_f x) :: st) n sh d u Q ↔ (zn32 (FP.fmul x y) = true) ∧ zB S D m is L ((zv_f (FP.fmul x y)) :: st) n sh d u Q := zB_guard fun N => rfl
theorem zr_fsub {y : UInt32} {x : UInt32} : zB S D m ((92, a, b, c, k) :: is) L ((zv_f y) :: (zv_f x) :: st) n sh d u Q ↔ (zn32 (FP.fsub x y) = true) ∧ zB S D m is L ((zv_f (FP.fsub x y)) :: st) n sh d u Q := zB_guard fun N => rfl
theorem zr_fneg {x : UInt32} : zB S D m ((93, a, b, c, k) :: is) L ((zv_f x) :: st) n sh d u Q ↔ zB S D m is L ((zv_f (FP.fneg x)) :: st) n sh d u Q := zB_next fun N => rfl
theorem zr_i2f {x : Int} : zB S D m ((95, a, b, c, k) :: is) L ((zv_i x) :: st) n sh d u Q ↔ zB S D m is L ((zv_f (FP.i2f (Int32.ofInt x))) :: st) n sh d u Q := zB_next fun N => rfl
theorem zr_f2i {x : UInt32} : zB S D m ((96, a, b, c, k) :: is) L ((zv_f x) :: st) n sh d u Q ↔ zB S D m is L ((zv_i ((FP.f2i x).toInt)) :: st) n sh d u Q := zB_next fun N => rfl
theorem zr_f2d {x : UInt32} : zB S D m ((97, a, b, c, k) :: is) L ((zv_f x) :: st) n sh d u Q ↔ (zn64 (FP.f2d x) = true) ∧ zB S D m is L ((zv_d (FP.f2d x)) :: st) n sh d u Q := zB_guard fun N => rfl
theorem zr_i2c {x : Int} : zB S D m ((103, a, b, c, k) :: is) L ((zv_i x) :: st) n sh d u Q ↔ zB S D m is L ((zv_i ((zw x) % 65536)) :: st) n sh d u Q := zB_next fun N => rfl
theorem zr_dcmp {y : UInt64} {x : UInt64} : zB S D m ((85, a, b, c, k) :: is) L ((zv_d y) :: (zv_d x) :: st) n sh d u Q ↔ zB S D m is L ((zv_i (Op.cmpValue (FP.dcmp x y) (if a = 1 then .g else .l)).toInt) :: st) n sh d u Q := zB_next fun N => rfl
theorem zr_fcmp {y : UInt32} {x : UInt32} : zB S D m ((94, a, b, c, k) :: is) L ((zv_f y) :: (zv_f x) :: st) n sh d u Q ↔ zB S D m is L ((zv_i (Op.cmpValue (FP.fcmp x y) (if a = 1 then .g else .l)).toInt) :: st) n sh d u Q := zB_next fun N => rfl
theorem zr_iconst  : zB S D m ((3, a, b, c, k) :: is) L st n sh d u Q ↔ zB S D m is L ((zv_i k) :: st) n sh d u Q := zB_next fun N => rfl
theorem zr_lconst  : zB S D m ((64, a, b, c, k) :: is) L st n sh d u Q ↔ zB S D m is L ((zv_l k) :: st) n sh d u Q := zB_next fun N => rfl
theorem zr_fldc  : zB S D m ((98, a, b, c, k) :: is) L st n sh d u Q ↔ zB S D m is L ((zv_f (UInt32.ofNat k.toNat)) :: st) n sh d u Q := zB_next fun N => rfl
theorem zr_dldc  : zB S D m ((109, a, b, c, k) :: is) L st n sh d u Q ↔ zB S D m is L ((zv_d (UInt64.ofNat k.toNat)) :: st) n sh d u Q := zB_next fun N => rfl
theorem zr_fconst  : zB S D m ((87, a, b, c, k) :: is) L st n sh d u Q ↔ zB S D m is L ((zv_f (if a = 0 then FP.fconst0 else if a = 1 then FP.fconst1 else FP.fconst2)) :: st) n sh d u Q := zB_next fun N => rfl
theorem zr_dconst  : zB S D m ((77, a, b, c, k) :: is) L st n sh d u Q ↔ zB S D m is L ((zv_d (if a = 0 then FP.dconst0 else FP.dconst1)) :: st) n sh d u Q := zB_next fun N => rfl
theorem zr_null  : zB S D m ((105, a, b, c, k) :: is) L st n sh d u Q ↔ zB S D m is L ((zv_a 0) :: st) n sh d u Q := zB_next fun N => rfl
theorem zr_f2bits {x : UInt32} : zB S D m ((107, a, b, c, k) :: is) L ((zv_f x) :: st) n sh d u Q ↔ (st.length ≤ 4 ∧ 0 < D) ∧ zB S D m is L ((zv_i (x.toInt32.toInt)) :: st) n sh d u Q := zB_guard fun N => rfl
theorem zr_objinit {x : Int} : zB S D m ((108, a, b, c, k) :: is) L ((zv_a x) :: st) n sh d u Q ↔ (0 < x ∧ (st.length ≤ 4 ∧ 0 < D)) ∧ zB S D m is L st n sh d u Q := zB_guard fun N => rfl
theorem zr_aload : zB S D m ((0, a, b, c, k) :: is) L st n sh d u Q ↔ zKa (zget L a) (fun x => zB S D m is L ((zv_a x) :: st) n sh d u Q) := by
  rcases h : zget L a with _ | (x | x) | (x | (x | x))
  all_goals first | exact zB_next fun N => by simp only [zrun_s, zs_aload, zo_aload, h] | exact zB_none fun N => by simp only [zrun_s, zs_aload, zo_aload, h]
theorem zr_iload : zB S D m ((4, a, b, c, k) :: is) L st n sh d u Q ↔ zKi (zget L a) (fun x => zB S D m is L ((zv_i x) :: st) n sh d u Q) := by
  rcases h : zget L a with _ | (x | x) | (x | (x | x))
  all_goals first | exact zB_next fun N => by simp only [zrun_s, zs_iload, zo_iload, h] | exact zB_none fun N => by simp only [zrun_s, zs_iload, zo_iload, h]
theorem zr_lload : zB S D m ((73, a, b, c, k) :: is) L st n sh d u Q ↔ zKl (zget L a) (fun x => zB S D m is L ((zv_l x) :: st) n sh d u Q) := by
  rcases h : zget L a with _ | (x | x) | (x | (x | x))
  all_goals first | exact zB_next fun N => by simp only [zrun_s, zs_lload, zo_lload, h] | exact zB_none fun N => by simp only [zrun_s, zs_lload, zo_lload, h]
theorem zr_dload : zB S D m ((78, a, b, c, k) :: is) L st n sh d u Q ↔ zKd (zget L a) (fun x => zB S D m is L ((zv_d x) :: st) n sh d u Q) := by
  rcases h : zget L a with _ | (x | x) | (x | (x | x))
  all_goals first | exact zB_next fun N => by simp only [zrun_s, zs_dload, zo_dload, h] | exact zB_none fun N => by simp only [zrun_s, zs_dload, zo_dload, h]
theorem zr_fload : zB S D m ((88, a, b, c, k) :: is) L st n sh d u Q ↔ zKf (zget L a) (fun x => zB S D m is L ((zv_f x) :: st) n sh d u Q) := by
  rcases h : zget L a with _ | (x | x) | (x | (x | x))
  all_goals first | exact zB_next fun N => by simp only [zrun_s, zs_fload, zo_fload, h] | exact zB_none fun N => by simp only [zrun_s, zs_fload, zo_fload, h]
theorem zr_astore {x : Int} : zB S D m ((31, a, b, c, k) :: is) L ((zv_a x) :: st) n sh d u Q ↔ zB S D m is (zst1 L a (zv_a x)) st n sh d u Q := zB_next fun N => rfl
theorem zr_istore {x : Int} : zB S D m ((30, a, b, c, k) :: is) L ((zv_i x) :: st) n sh d u Q ↔ zB S D m is (zst1 L a (zv_i x)) st n sh d u Q := zB_next fun N => rfl
theorem zr_lstore {x : Int} : zB S D m ((74, a, b, c, k) :: is) L ((zv_l x) :: st) n sh d u Q ↔ zB S D m is (zst2 L a (zv_l x)) st n sh d u Q := zB_next fun N => rfl
theorem zr_dstore {x : UInt64} : zB S D m ((79, a, b, c, k) :: is) L ((zv_d x) :: st) n sh d u Q ↔ zB S D m is (zst2 L a (zv_d x)) st n sh d u Q := zB_next fun N => rfl
theorem zr_fstore {x : UInt32} : zB S D m ((89, a, b, c, k) :: is) L ((zv_f x) :: st) n sh d u Q ↔ zB S D m is (zst1 L a (zv_f x)) st n sh d u Q := zB_next fun N => rfl
theorem zr_iinc : zB S D m ((32, a, b, c, k) :: is) L st n sh d u Q ↔ zKi (zget L a) (fun x => zB S D m is (zst1 L a (zv_i (x + k))) st n sh d u Q) := by
  rcases h : zget L a with _ | (x | x) | (x | (x | x))
  all_goals first | exact zB_next fun N => by simp only [zrun_s, zs_iinc, zo_iinc, h] | exact zB_none fun N => by simp only [zrun_s, zs_iinc, zo_iinc, h]
theorem zr_if14 {x : Int} : zB S D m ((14, a, b, c, k) :: is) L (zv_i x :: st) n sh d u Q ↔ if zw x = 0 then zJ S D m a L st n sh d u Q else zB S D m is L st n sh d u Q := zB_if fun N => rfl
theorem zr_if15 {x : Int} : zB S D m ((15, a, b, c, k) :: is) L (zv_i x :: st) n sh d u Q ↔ if ¬ zw x = 0 then zJ S D m a L st n sh d u Q else zB S D m is L st n sh d u Q := zB_if fun N => rfl
theorem zr_if16 {x : Int} : zB S D m ((16, a, b, c, k) :: is) L (zv_i x :: st) n sh d u Q ↔ if zw x < 0 then zJ S D m a L st n sh d u Q else zB S D m is L st n sh d u Q := zB_if fun N => rfl
theorem zr_if17 {x : Int} : zB S D m ((17, a, b, c, k) :: is) L (zv_i x :: st) n sh d u Q ↔ if 0 ≤ zw x then zJ S D m a L st n sh d u Q else zB S D m is L st n sh d u Q := zB_if fun N => rfl
theorem zr_if18 {x : Int} : zB S D m ((18, a, b, c, k) :: is) L (zv_i x :: st) n sh d u Q ↔ if 0 < zw x then zJ S D m a L st n sh d u Q else zB S D m is L st n sh d u Q := zB_if fun N => rfl
theorem zr_if19 {x : Int} : zB S D m ((19, a, b, c, k) :: is) L (zv_i x :: st) n sh d u Q ↔ if zw x ≤ 0 then zJ S D m a L st n sh d u Q else zB S D m is L st n sh d u Q := zB_if fun N => rfl
theorem zr_ic20 {x y : Int} : zB S D m ((20, a, b, c, k) :: is) L (zv_i y :: zv_i x :: st) n sh d u Q ↔ if zw x = zw y then zJ S D m a L st n sh d u Q else zB S D m is L st n sh d u Q := zB_if fun N => rfl
theorem zr_ic21 {x y : Int} : zB S D m ((21, a, b, c, k) :: is) L (zv_i y :: zv_i x :: st) n sh d u Q ↔ if ¬ zw x = zw y then zJ S D m a L st n sh d u Q else zB S D m is L st n sh d u Q := zB_if fun N => rfl
theorem zr_ic22 {x y : Int} : zB S D m ((22, a, b, c, k) :: is) L (zv_i y :: zv_i x :: st) n sh d u Q ↔ if zw x < zw y then zJ S D m a L st n sh d u Q else zB S D m is L st n sh d u Q := zB_if fun N => rfl
theorem zr_ic23 {x y : Int} : zB S D m ((23, a, b, c, k) :: is) L (zv_i y :: zv_i x :: st) n sh d u Q ↔ if zw y ≤ zw x then zJ S D m a L st n sh d u Q else zB S D m is L st n sh d u Q := zB_if fun N => rfl
theorem zr_ic24 {x y : Int} : zB S D m ((24, a, b, c, k) :: is) L (zv_i y :: zv_i x :: st) n sh d u Q ↔ if zw y < zw x then zJ S D m a L st n sh d u Q else zB S D m is L st n sh d u Q := zB_if fun N => rfl
theorem zr_ic25 {x y : Int} : zB S D m ((25, a, b, c, k) :: is) L (zv_i y :: zv_i x :: st) n sh d u Q ↔ if zw x ≤ zw y then zJ S D m a L st n sh d u Q else zB S D m is L st n sh d u Q := zB_if fun N => rfl
theorem zr_in26 {x : Int} : zB S D m ((26, a, b, c, k) :: is) L (zv_a x :: st) n sh d u Q ↔ if x = 0 then zJ S D m a L st n sh d u Q else zB S D m is L st n sh d u Q := zB_if fun N => rfl
theorem zr_in27 {x : Int} : zB S D m ((27, a, b, c, k) :: is) L (zv_a x :: st) n sh d u Q ↔ if ¬ x = 0 then zJ S D m a L st n sh d u Q else zB S D m is L st n sh d u Q := zB_if fun N => rfl
theorem zr_ia28 {x y : Int} : zB S D m ((28, a, b, c, k) :: is) L (zv_a y :: zv_a x :: st) n sh d u Q ↔ (0 ≤ x ∧ 0 ≤ y) ∧ if x = y then zJ S D m a L st n sh d u Q else zB S D m is L st n sh d u Q := zB_gif fun N => rfl
theorem zr_ia29 {x y : Int} : zB S D m ((29, a, b, c, k) :: is) L (zv_a y :: zv_a x :: st) n sh d u Q ↔ (0 ≤ x ∧ 0 ≤ y) ∧ if ¬ x = y then zJ S D m a L st n sh d u Q else zB S D m is L st n sh d u Q := zB_gif fun N => rfl
theorem zr_goto : zB S D m ((10, a, b, c, k) :: is) L st n sh d u Q ↔ zJ S D m a L st n sh d u Q := zB_next fun N => rfl
theorem zr_fall : zB S D m ((111, a, b, c, k) :: is) L st n sh d u Q ↔ zJ S D m a L st n sh d u Q := zB_next fun N => rfl
theorem zr_dup_i {x : Int} : zB S D m ((47, a, b, c, k) :: is) L (zv_i x :: st) n sh d u Q ↔ zB S D m is L (zv_i x :: zv_i x :: st) n sh d u Q := zB_next fun N => rfl
theorem zr_dup_a {x : Int} : zB S D m ((47, a, b, c, k) :: is) L (zv_a x :: st) n sh d u Q ↔ zB S D m is L (zv_a x :: zv_a x :: st) n sh d u Q := zB_next fun N => rfl
theorem zr_dup_f {x : UInt32} : zB S D m ((47, a, b, c, k) :: is) L (zv_f x :: st) n sh d u Q ↔ zB S D m is L (zv_f x :: zv_f x :: st) n sh d u Q := zB_next fun N => rfl
theorem zr_dup2_ii {x y : Int} : zB S D m ((48, a, b, c, k) :: is) L (zv_i x :: zv_i y :: st) n sh d u Q ↔ zB S D m is L (zv_i x :: zv_i y :: zv_i x :: zv_i y :: st) n sh d u Q := zB_next fun N => rfl
theorem zr_dup2_ia {x y : Int} : zB S D m ((48, a, b, c, k) :: is) L (zv_i x :: zv_a y :: st) n sh d u Q ↔ zB S D m is L (zv_i x :: zv_a y :: zv_i x :: zv_a y :: st) n sh d u Q := zB_next fun N => rfl
theorem zr_dup2_ai {x y : Int} : zB S D m ((48, a, b, c, k) :: is) L (zv_a x :: zv_i y :: st) n sh d u Q ↔ zB S D m is L (zv_a x :: zv_i y :: zv_a x :: zv_i y :: st) n sh d u Q := zB_next fun N => rfl
theorem zr_dup2_aa {x y : Int} : zB S D m ((48, a, b, c, k) :: is) L (zv_a x :: zv_a y :: st) n sh d u Q ↔ zB S D m is L (zv_a x :: zv_a y :: zv_a x :: zv_a y :: st) n sh d u Q := zB_next fun N => rfl
theorem zr_pop_i {x : Int} : zB S D m ((49, a, b, c, k) :: is) L (zv_i x :: st) n sh d u Q ↔ zB S D m is L st n sh d u Q := zB_next fun N => rfl
theorem zr_pop_a {x : Int} : zB S D m ((49, a, b, c, k) :: is) L (zv_a x :: st) n sh d u Q ↔ zB S D m is L st n sh d u Q := zB_next fun N => rfl
theorem zr_pop2_l {x : Int} : zB S D m ((63, a, b, c, k) :: is) L (zv_l x :: st) n sh d u Q ↔ zB S D m is L st n sh d u Q := zB_next fun N => rfl
theorem zr_pop2_d {x : UInt64} : zB S D m ((63, a, b, c, k) :: is) L (zv_d x :: st) n sh d u Q ↔ zB S D m is L st n sh d u Q := zB_next fun N => rfl
theorem zr_getI {r : Int} : zB S D m ((1, a, b, c, k) :: is) L (zv_a r :: st) n sh d u Q ↔ (0 < r ∧ zaB (sh r) = some a) ∧ zB S D m is L (zv_i (d r k) :: st) n sh d u Q := zB_guard fun N => rfl
theorem zr_getA {r : Int} : zB S D m ((2, a, b, c, k) :: is) L (zv_a r :: st) n sh d u Q ↔ (0 < r ∧ zaB (sh r) = some a) ∧ zB S D m is L (zv_a (d r k) :: st) n sh d u Q := zB_guard fun N => rfl
theorem zr_putI {r x : Int} : zB S D m ((11, a, b, c, k) :: is) L (zv_i x :: zv_a r :: st) n sh d u Q ↔ (0 < r ∧ zaB (sh r) = some a) ∧ zB S D m is L st n sh (zm_u d r k x) u Q := zB_guard fun N => rfl
theorem zr_putZ {r x : Int} : zB S D m ((12, a, b, c, k) :: is) L (zv_i x :: zv_a r :: st) n sh d u Q ↔ ((0 < r ∧ zaB (sh r) = some a) ∧ (x = 0 ∨ x = 1)) ∧ zB S D m is L st n sh (zm_u d r k x) u Q := zB_guard fun N => rfl
theorem zr_putA {r x : Int} : zB S D m ((13, a, b, c, k) :: is) L (zv_a x :: zv_a r :: st) n sh d u Q ↔ (0 < r ∧ zaB (sh r) = some a) ∧ zB S D m is L st n sh (zm_u d r k x) u Q := zB_guard fun N => rfl
theorem zr_iaload {r i : Int} : zB S D m ((33, a, b, c, k) :: is) L (zv_i i :: zv_a r :: st) n sh d u Q ↔ zO (zaI (sh r)) (fun N => ((0 < r ∧ N ≤ 1000000) ∧ (0 ≤ zw i ∧ zw i < N)) ∧ zB S D m is L ((zv_i (d r (zw i))) :: st) n sh d u Q) := by
  cases h : zaI (sh r) with
  | none => exact zB_none fun N => by simp only [zrun_s, zs_iaload, zo_iaload, h]
  | some N => exact zB_guard fun N => by simp only [zrun_s, zs_iaload, zo_iaload, h]
theorem zr_aaload {r i : Int} : zB S D m ((34, a, b, c, k) :: is) L (zv_i i :: zv_a r :: st) n sh d u Q ↔ zO (zaR (sh r)) (fun N => ((0 < r ∧ N ≤ 1000000) ∧ (0 ≤ zw i ∧ zw i < N)) ∧ zB S D m is L ((zv_a (d r (zw i))) :: st) n sh d u Q) := by
  cases h : zaR (sh r) with
  | none => exact zB_none fun N => by simp only [zrun_s, zs_aaload, zo_aaload, h]
  | some N => exact zB_guard fun N => by simp only [zrun_s, zs_aaload, zo_aaload, h]
theorem zr_laload {r i : Int} : zB S D m ((75, a, b, c, k) :: is) L (zv_i i :: zv_a r :: st) n sh d u Q ↔ zO (zaL (sh r)) (fun N => ((0 < r ∧ N ≤ 1000000) ∧ (0 ≤ zw i ∧ zw i < N)) ∧ zB S D m is L ((zv_l (d r (zw i))) :: st) n sh d u Q) := by
  cases h : zaL (sh r) with
  | none => exact zB_none fun N => by simp only [zrun_s, zs_laload, zo_laload, h]
  | some N => exact zB_guard fun N => by simp only [zrun_s, zs_laload, zo_laload, h]
theorem zr_daload {r i : Int} : zB S D m ((80, a, b, c, k) :: is) L (zv_i i :: zv_a r :: st) n sh d u Q ↔ zO (zaD (sh r)) (fun N => ((0 < r ∧ N ≤ 1000000) ∧ (0 ≤ zw i ∧ zw i < N)) ∧ zB S D m is L ((zv_d (UInt64.ofNat (d r (zw i)).toNat)) :: st) n sh d u Q) := by
  cases h : zaD (sh r) with
  | none => exact zB_none fun N => by simp only [zrun_s, zs_daload, zo_daload, h]
  | some N => exact zB_guard fun N => by simp only [zrun_s, zs_daload, zo_daload, h]
theorem zr_caload {r i : Int} : zB S D m ((99, a, b, c, k) :: is) L (zv_i i :: zv_a r :: st) n sh d u Q ↔ zO (zaC (sh r)) (fun N => ((0 < r ∧ N ≤ 1000000) ∧ (0 ≤ zw i ∧ zw i < N)) ∧ zB S D m is L ((zv_i (d r (zw i))) :: st) n sh d u Q) := by
  cases h : zaC (sh r) with
  | none => exact zB_none fun N => by simp only [zrun_s, zs_caload, zo_caload, h]
  | some N => exact zB_guard fun N => by simp only [zrun_s, zs_caload, zo_caload, h]
theorem zr_zaload {r i : Int} : zB S D m ((101, a, b, c, k) :: is) L (zv_i i :: zv_a r :: st) n sh d u Q ↔ zO (zaZ (sh r)) (fun N => ((0 < r ∧ N ≤ 1000000) ∧ (0 ≤ zw i ∧ zw i < N)) ∧ zB S D m is L ((zv_i (d r (zw i))) :: st) n sh d u Q) := by
  cases h : zaZ (sh r) with
  | none => exact zB_none fun N => by simp only [zrun_s, zs_zaload, zo_zaload, h]
  | some N => exact zB_guard fun N => by simp only [zrun_s, zs_zaload, zo_zaload, h]
theorem zr_iastore {r i : Int} {x : Int} : zB S D m ((35, a, b, c, k) :: is) L ((zv_i x) :: zv_i i :: zv_a r :: st) n sh d u Q ↔ zO (zaI (sh r)) (fun N => (((0 < r ∧ N ≤ 1000000) ∧ (0 ≤ zw i ∧ zw i < N))) ∧ zB S D m is L st n sh (zm_u d r (zw i) x) u Q) := by
  cases h : zaI (sh r) with
  | none => exact zB_none fun N => by simp only [zrun_s, zs_iastore, zo_iastore, h]
  | some N => exact zB_guard fun N => by simp only [zrun_s, zs_iastore, zo_iastore, h]
theorem zr_lastore {r i : Int} {x : Int} : zB S D m ((76, a, b, c, k) :: is) L ((zv_l x) :: zv_i i :: zv_a r :: st) n sh d u Q ↔ zO (zaL (sh r)) (fun N => (((0 < r ∧ N ≤ 1000000) ∧ (0 ≤ zw i ∧ zw i < N))) ∧ zB S D m is L st n sh (zm_u d r (zw i) x) u Q) := by
  cases h : zaL (sh r) with
  | none => exact zB_none fun N => by simp only [zrun_s, zs_lastore, zo_lastore, h]
  | some N => exact zB_guard fun N => by simp only [zrun_s, zs_lastore, zo_lastore, h]
theorem zr_dastore {r i : Int} {x : UInt64} : zB S D m ((81, a, b, c, k) :: is) L ((zv_d x) :: zv_i i :: zv_a r :: st) n sh d u Q ↔ zO (zaD (sh r)) (fun N => (((0 < r ∧ N ≤ 1000000) ∧ (0 ≤ zw i ∧ zw i < N))) ∧ zB S D m is L st n sh (zm_u d r (zw i) x.toNat) u Q) := by
  cases h : zaD (sh r) with
  | none => exact zB_none fun N => by simp only [zrun_s, zs_dastore, zo_dastore, h]
  | some N => exact zB_guard fun N => by simp only [zrun_s, zs_dastore, zo_dastore, h]
theorem zr_castore {r i : Int} {x : Int} : zB S D m ((100, a, b, c, k) :: is) L ((zv_i x) :: zv_i i :: zv_a r :: st) n sh d u Q ↔ zO (zaC (sh r)) (fun N => (((0 < r ∧ N ≤ 1000000) ∧ (0 ≤ zw i ∧ zw i < N)) ∧ (0 ≤ x ∧ x < 65536)) ∧ zB S D m is L st n sh (zm_u d r (zw i) x) u Q) := by
  cases h : zaC (sh r) with
  | none => exact zB_none fun N => by simp only [zrun_s, zs_castore, zo_castore, h]
  | some N => exact zB_guard fun N => by simp only [zrun_s, zs_castore, zo_castore, h]
theorem zr_zastore {r i : Int} {x : Int} : zB S D m ((102, a, b, c, k) :: is) L ((zv_i x) :: zv_i i :: zv_a r :: st) n sh d u Q ↔ zO (zaZ (sh r)) (fun N => (((0 < r ∧ N ≤ 1000000) ∧ (0 ≤ zw i ∧ zw i < N)) ∧ (x = 0 ∨ x = 1)) ∧ zB S D m is L st n sh (zm_u d r (zw i) x) u Q) := by
  cases h : zaZ (sh r) with
  | none => exact zB_none fun N => by simp only [zrun_s, zs_zastore, zo_zastore, h]
  | some N => exact zB_guard fun N => by simp only [zrun_s, zs_zastore, zo_zastore, h]
theorem zr_aastore {r i x : Int} : zB S D m ((62, a, b, c, k) :: is) L (zv_a x :: zv_i i :: zv_a r :: st) n sh d u Q ↔ zO (zaO (sh r)) (fun q => (((0 < r ∧ q.2 ≤ 1000000) ∧ (0 ≤ zw i ∧ zw i < q.2)) ∧ (x = 0 ∨ (0 < x ∧ zoc (sh x) q.1 = true))) ∧ zB S D m is L st n sh (zm_u d r (zw i) x) u Q) := by
  cases h : zaO (sh r) with
  | none => exact zB_none fun N => by simp only [zrun_s, zs_aastore, zo_aastore, h]
  | some q => obtain ⟨C, N⟩ := q; exact zB_guard fun N => by simp only [zrun_s, zs_aastore, zo_aastore, h]
theorem zr_alen {r : Int} : zB S D m ((36, a, b, c, k) :: is) L (zv_a r :: st) n sh d u Q ↔ zO (zaX (sh r)) (fun N => (0 < r) ∧ zB S D m is L (zv_i (N : Int) :: st) n sh d u Q) := by
  cases h : zaX (sh r) with
  | none => exact zB_none fun N => by simp only [zrun_s, zs_alen, zo_alen, h]
  | some N => exact zB_guard fun N => by simp only [zrun_s, zs_alen, zo_alen, h]
theorem zr_sald {r i : Int} : zB S D m ((112, a, b, c, k) :: is) L (zv_i i :: zv_a r :: st) n sh d u Q ↔ (r = -1 ∧ (0 ≤ zw i ∧ zw i < S.1)) ∧ zB S D m is L (zv_i (S.2 (zw i).toNat) :: st) n sh d u Q := zB_guard fun N => rfl
theorem zr_slen {r : Int} : zB S D m ((113, a, b, c, k) :: is) L (zv_a r :: st) n sh d u Q ↔ r = -1 ∧ zB S D m is L (zv_i (S.1 : Int) :: st) n sh d u Q := zB_guard fun N => rfl
theorem zr_vret : zB S D m ((50, a, b, c, k) :: is) L [] n sh d u Q ↔ Q (.inl none) n sh d u := zB_ret fun N => rfl
theorem zr_iret {x : Int} : zB S D m ((8, a, b, c, k) :: is) L [zv_i x] n sh d u Q ↔ Q (.inl (some (zv_i x))) n sh d u := zB_ret fun N => rfl
theorem zr_zret {x : Int} : zB S D m ((9, a, b, c, k) :: is) L [zv_i x] n sh d u Q ↔ (x = 0 ∨ x = 1) ∧ Q (.inl (some (zv_i x))) n sh d u := zB_gret fun N => rfl
theorem zr_aret {x : Int} : zB S D m ((51, a, b, c, k) :: is) L [zv_a x] n sh d u Q ↔ Q (.inl (some (zv_a x))) n sh d u := zB_ret fun N => rfl
theorem zr_lret {x : Int} : zB S D m ((52, a, b, c, k) :: is) L [zv_l x] n sh d u Q ↔ Q (.inl (some (zv_l x))) n sh d u := zB_ret fun N => rfl
theorem zr_dret {x : UInt64} : zB S D m ((53, a, b, c, k) :: is) L [zv_d x] n sh d u Q ↔ Q (.inl (some (zv_d x))) n sh d u := zB_ret fun N => rfl
theorem zr_fret {x : UInt32} : zB S D m ((54, a, b, c, k) :: is) L [zv_f x] n sh d u Q ↔ Q (.inl (some (zv_f x))) n sh d u := zB_ret fun N => rfl
theorem zr_throw : zB S D m ((55, a, b, c, k) :: is) L st n sh d u Q ↔ (12 ≤ D ∧ st.length ≤ 8) ∧ Q (.inr a) (n + 1) sh d (u + 6) := zB_gret fun N => rfl
theorem zr_throwW : zB S D m ((56, a, b, c, k) :: is) L st n sh d u Q ↔ (12 ≤ D ∧ st.length ≤ 8) ∧ Q (.inr a) (n + 1) sh d (u + 6) := zB_gret fun N => rfl
theorem zr_new : zB S D m ((57, a, b, c, k) :: is) L st n sh d u Q ↔ zB S D m is L (zv_a ((n : Int) + 1) :: st) (n + 1) (zk_u sh ((n : Int) + 1) (some (.inl a))) (zm_z d ((n : Int) + 1)) (u + b) Q := zB_next fun N => rfl
theorem zr_newarr {x : Int} : zB S D m ((58, a, b, c, k) :: is) L (zv_i x :: st) n sh d u Q ↔ (0 ≤ x ∧ x ≤ 65536) ∧ zB S D m is L (zv_a ((n : Int) + 1) :: st) (n + 1) (zk_u sh ((n : Int) + 1) (some (.inr (znA a, x.toNat)))) (zm_z d ((n : Int) + 1)) (u + x.toNat) Q := zB_guard fun N => rfl
theorem zr_anew {x : Int} : zB S D m ((59, a, b, c, k) :: is) L (zv_i x :: st) n sh d u Q ↔ (0 ≤ x ∧ x ≤ 65536) ∧ zB S D m is L (zv_a ((n : Int) + 1) :: st) (n + 1) (zk_u sh ((n : Int) + 1) (some (.inr (.object (zcn a), x.toNat)))) (zm_z d ((n : Int) + 1)) (u + x.toNat) Q := zB_guard fun N => rfl
theorem zr_callS : zB S D m ((5, a, b, c, k) :: is) L st n sh d u Q ↔ zKp (zpop b st []) (fun As rest => (rest.length ≤ 4 ∧ 0 < D) ∧ zE S (D - 1) a As n sh d u (zA S D m is L rest Q)) := by
  rcases h : zpop b st [] with _ | ⟨As, rest⟩
  · exact zB_none fun N => by simp only [zrun_s, zs_callS, zo_callS, h]
  · exact zB_call fun N => by simp only [zrun_s, zs_callS, zo_callS, h]
theorem zr_callV : zB S D m ((6, a, b, c, k) :: is) L st n sh d u Q ↔ zKr (zpop b st []) (fun As r rest => ((0 < r ∧ zaB (sh r) = some c) ∧ (rest.length ≤ 4 ∧ 0 < D)) ∧ zE S (D - 1) a (zv_a r :: As) n sh d u (zA S D m is L rest Q)) := by
  rcases h : zpop b st [] with _ | ⟨As, _ | ⟨(v | v) | v, rest⟩⟩
  all_goals first | exact zB_none fun N => by simp only [zrun_s, zs_callV, zo_callV, h] | exact zB_call fun N => by simp only [zrun_s, zs_callV, zo_callV, h]
theorem zr_callI : zB S D m ((7, a, b, c, k) :: is) L st n sh d u Q ↔ zKr (zpop b st []) (fun As r rest => (0 < r ∧ (rest.length ≤ 4 ∧ 0 < D)) ∧ zE S (D - 1) a (zv_a r :: As) n sh d u (zA S D m is L rest Q)) := by
  rcases h : zpop b st [] with _ | ⟨As, _ | ⟨(v | v) | v, rest⟩⟩
  all_goals first | exact zB_none fun N => by simp only [zrun_s, zs_callI, zo_callI, h] | exact zB_call fun N => by simp only [zrun_s, zs_callI, zo_callI, h]
theorem zr_acopy {x q r2 p r1 : Int} : zB S D m ((106, a, b, c, k) :: is) L (zv_i x :: zv_i q :: zv_a r2 :: zv_i p :: zv_a r1 :: st) n sh d u Q ↔ zO (zaI (sh r1)) (fun N1 => zO (zaI (sh r2)) (fun N2 => ((((0 < r1 ∧ 0 < r2) ∧ (N1 ≤ 1000000 ∧ N2 ≤ 1000000)) ∧ (0 ≤ zw p ∧ 0 ≤ zw q)) ∧ ((0 ≤ zw x ∧ zw p + zw x ≤ N1) ∧ (zw q + zw x ≤ N2 ∧ (st.length ≤ 4 ∧ 0 < D)))) ∧ zB S D m is L st n sh (zm_cp d r1 (zw p) r2 (zw q) (zw x)) u Q)) := by
  cases h1 : zaI (sh r1) with
  | none => exact zB_none fun N => by simp only [zrun_s, zs_acopy, zo_acopy, h1]
  | some N1 => cases h2 : zaI (sh r2) with
    | none => exact zB_none fun N => by simp only [zrun_s, zs_acopy, zo_acopy, h1, h2]
    | some N2 => exact zB_guard fun N => by simp only [zrun_s, zs_acopy, zo_acopy, h1, h2]
theorem zr_tsw {x : Int} : zB S D m ((104, a, b, c, k) :: is) L (zv_i x :: st) n sh d u Q ↔ zJ S D m (if 0 ≤ zw x then ((zsw m)[(zw x).toNat]?).getD a else a) L st n sh d u Q := by
  by_cases h0 : 0 ≤ zw x
  · rw [if_pos h0]
    cases h : (zsw m)[(zw x).toNat]? with
    | none => exact zB_next fun N => by simp only [zrun_s, zs_tsw, zo_tsw, h0, if_true, h]; rfl
    | some t => exact zB_next fun N => by simp only [zrun_s, zs_tsw, zo_tsw, h0, if_true, h]; rfl
  · rw [if_neg h0]
    exact zB_next fun N => by simp only [zrun_s, zs_tsw, zo_tsw, h0, if_false]
end ZB
