def zckN (m : Nat) : Nat → List zI → Bool
  | _, [] => false
  | pc, (o, a, b, c, k) :: is => match zckF o m pc a b c k with
    | some len => if ztm o = true then is.isEmpty else if len = 1 then zckN m (pc + 1) is else if len = 2 then zckN m (pc + 2) is else if len = 3 then zckN m (pc + 3) is else zckN m (pc + len) is
    | none => false
theorem zckN_eq {m : Nat} : ∀ (is : List zI) (pc : Nat), zckN m pc is = zckB m pc is := by
  intro is
  induction is with
  | nil => intro pc; rfl
  | cons x is ih =>
    intro pc
    obtain ⟨o, a, b, c, k⟩ := x
    unfold zckN zckB
    cases zckF o m pc a b c k with
    | none => rfl
    | some len =>
      dsimp only
      by_cases h : ztm o = true
      · rw [if_pos h, if_pos h]
      · rw [if_neg h, if_neg h]
        by_cases h1 : len = 1
        · subst h1; rw [if_pos rfl]; exact ih _
        · rw [if_neg h1]
          by_cases h2 : len = 2
          · subst h2; rw [if_pos rfl]; exact ih _
          · rw [if_neg h2]
            by_cases h3 : len = 3
            · subst h3; rw [if_pos rfl]; exact ih _
            · rw [if_neg h3]; exact ih _
theorem zckN_ok {m p : Nat} {is : List zI} (h : zckN m p is = true) : zckB m p is = true := (zckN_eq is p).symm.trans h
theorem zzc_40 : zckB 382 1285 zb_382_40 = true := zckN_ok (by decide +kernel)
theorem zzc_41 : zckB 382 1301 zb_382_41 = true := zckN_ok (by decide +kernel)
theorem zzc_42 : zckB 382 1329 zb_382_42 = true := zckN_ok (by decide +kernel)
theorem zzc_43 : zckB 382 1342 zb_382_43 = true := zckN_ok (by decide +kernel)
theorem zzc_44 : zckB 382 1408 zb_382_44 = true := zckN_ok (by decide +kernel)
theorem zzc_45 : zckB 382 1436 zb_382_45 = true := zckN_ok (by decide +kernel)
theorem zzc_46 : zckB 382 1476 zb_382_46 = true := zckN_ok (by decide +kernel)
theorem zzc_47 : zckB 382 1516 zb_382_47 = true := zckN_ok (by decide +kernel)
