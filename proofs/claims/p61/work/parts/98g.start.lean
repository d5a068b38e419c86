/-! ===== START: the world at the law's entry ===== -/
theorem zinst : ∀ (ci : Nat) (q : vw_C), zk_cl[ci]? = some q → Cond.instantiable q.1 q.2.2 ∈ lw_g := fun ci q hq => match ci, hq with
  | 0, hq => by cases Option.some.inj hq; exact zhas_in (p := (1, 207)) (by decide +kernel)
  | 1, hq => by cases Option.some.inj hq; exact zhas_in (p := (1, 89)) (by decide +kernel)
  | 2, hq => by cases Option.some.inj hq; exact zhas_in (p := (1, 130)) (by decide +kernel)
  | 3, hq => by cases Option.some.inj hq; exact zhas_in (p := (1, 215)) (by decide +kernel)
  | 4, hq => by cases Option.some.inj hq; exact zhas_in (p := (1, 105)) (by decide +kernel)
  | 5, hq => by cases Option.some.inj hq; exact zhas_in (p := (2, 107)) (by decide +kernel)
  | 6, hq => by cases Option.some.inj hq; exact zhas_in (p := (2, 11)) (by decide +kernel)
  | 7, hq => by cases Option.some.inj hq; exact zhas_in (p := (1, 57)) (by decide +kernel)
  | 8, hq => by cases Option.some.inj hq; exact zhas_in (p := (1, 184)) (by decide +kernel)
  | 9, hq => by cases Option.some.inj hq; exact zhas_in (p := (1, 44)) (by decide +kernel)
  | 10, hq => by cases Option.some.inj hq; exact zhas_in (p := (2, 79)) (by decide +kernel)
  | 11, hq => by cases Option.some.inj hq; exact zhas_in (p := (1, 32)) (by decide +kernel)
  | 12, hq => by cases Option.some.inj hq; exact zhas_in (p := (7, 188)) (by decide +kernel)
  | n + 13, hq => by simp [zk_cl] at hq
def zstrP : List (Nat × Nat) := [(3, 173), (3, 209), (4, 21), (4, 34), (4, 52), (4, 71), (4, 220), (5, 3), (5, 4), (5, 13), (5, 32), (5, 37), (5, 72), (5, 89), (5, 105), (5, 110), (5, 120), (5, 158), (5, 188), (5, 191), (5, 196), (5, 215), (5, 232), (6, 6), (6, 23), (6, 34), (6, 48), (6, 91), (6, 148), (6, 153), (6, 181), (6, 188), (6, 193), (6, 223), (6, 238), (7, 3), (7, 24), (7, 44), (7, 53), (7, 80), (7, 101), (7, 179)]
def zstrC : List (Nat × Nat) → List (String × Nat × String) → Bool
  | p :: ps, q :: qs => decide ((zTb p.1)[p.2]? = some (.stringRef q.1 q.2.1 q.2.2)) && zstrC ps qs
  | [], [] => true
  | _, _ => false
theorem zstrC_ok : ∀ {ps : List (Nat × Nat)} {qs : List (String × Nat × String)}, zstrC ps qs = true → ∀ q ∈ qs, Cond.stringRef q.1 q.2.1 q.2.2 ∈ lw_tbl
  | [], [], _, q, hq => nomatch hq
  | [], _ :: _, h, _, _ => by cases h
  | _ :: _, [], h, _, _ => by cases h
  | p :: ps, q0 :: qs, h, q, hq => by
    simp only [zstrC, Bool.and_eq_true] at h
    rcases List.mem_cons.mp hq with rfl | hq
    · exact zTb_in _ (List.mem_of_getElem? (of_decide_eq_true h.1))
    · exact zstrC_ok h.2 q hq
theorem zstr_in : ∀ q ∈ zk_str, Cond.stringRef q.1 q.2.1 q.2.2 ∈ lw_tbl := zstrC_ok (ps := zstrP) (by decide +kernel)
def zflat : List Cond := flatC (Jvm.Cond.and given_1 narrow_1)
def zfnc (q : String × String) : Cond → Bool
  | .not (.castable x y) => decide (x = q.1) && decide (y = q.2)
  | _ => false
theorem zfnc_ok {q : String × String} {v : Cond} (h : zfnc q v = true) : v = .not (.castable q.1 q.2) := by
  unfold zfnc at h
  split at h
  · rw [Bool.and_eq_true] at h
    rw [of_decide_eq_true h.1, of_decide_eq_true h.2]
  · cases h
def zfst (q : String × Nat) : Cond → Bool
  | .exactly (.string x y) z => (decide (x = q.1) && decide (y = q.2)) && decide (z = "java/lang/String")
  | _ => false
theorem zfst_ok {q : String × Nat} {v : Cond} (h : zfst q v = true) : v = .exactly (.string q.1 q.2) "java/lang/String" := by
  unfold zfst at h
  split at h
  · rw [Bool.and_eq_true, Bool.and_eq_true] at h
    rw [of_decide_eq_true h.1.1, of_decide_eq_true h.1.2, of_decide_eq_true h.2]
  · cases h
def zfsr (q : String × String × String) : Cond → Bool
  | .isRef (.static x y z) => (decide (x = q.1) && decide (y = q.2.1)) && decide (z = q.2.2)
  | _ => false
theorem zfsr_ok {q : String × String × String} {v : Cond} (h : zfsr q v = true) : v = .isRef (.static q.1 q.2.1 q.2.2) := by
  unfold zfsr at h
  split at h
  · rw [Bool.and_eq_true, Bool.and_eq_true] at h
    rw [of_decide_eq_true h.1.1, of_decide_eq_true h.1.2, of_decide_eq_true h.2]
  · cases h
def zsub {α : Type} (f : α → Cond → Bool) : List Cond → List α → Bool
  | _, [] => true
  | [], _ :: _ => false
  | v :: vs, q :: qs => match f q v with
    | true => zsub f vs qs
    | false => zsub f vs (q :: qs)
theorem zsub_ok {α : Type} {f : α → Cond → Bool} : ∀ {vs : List Cond} {qs : List α}, zsub f vs qs = true → ∀ q ∈ qs, ∃ v ∈ vs, f q v = true
  | _, [], _, q, hq => nomatch hq
  | [], _ :: _, h, _, _ => by cases h
  | v :: vs, q0 :: qs, h, q, hq => by
    unfold zsub at h
    cases hf : f q0 v with
    | true =>
      rw [hf] at h
      rcases List.mem_cons.mp hq with rfl | hq
      · exact ⟨v, List.mem_cons_self, hf⟩
      · obtain ⟨w, hw, e⟩ := zsub_ok h q hq
        exact ⟨w, List.mem_cons_of_mem _ hw, e⟩
    | false =>
      rw [hf] at h
      obtain ⟨w, hw, e⟩ := zsub_ok h q hq
      exact ⟨w, List.mem_cons_of_mem _ hw, e⟩
set_option maxRecDepth 100000 in
theorem zstr_ex0 : zk_str.all (fun q => zflat.any (zfst (q.1, q.2.1))) = true := by decide +kernel
set_option maxRecDepth 100000 in
theorem znc_ex0 : zsub zfnc zflat zk_nc = true := by decide +kernel
set_option maxRecDepth 100000 in
theorem zst_ex0 : zflat.any (zfsr (Bundle.tN, "UNASSIGNED_STACK", Bundle.steD)) = true ∧ zflat.any (zfsr (Bundle.tN, "SUPPRESSED_SENTINEL", Bundle.listD)) = true := by decide +kernel
theorem zstr_ex : ∀ q ∈ zk_str, Cond.exactly (.string q.1 q.2.1) "java/lang/String" ∈ flatC (Jvm.Cond.and given_1 narrow_1) := by
  intro q hq
  obtain ⟨v, hv, h⟩ := List.any_eq_true.mp (List.all_eq_true.mp zstr_ex0 q hq)
  have e := zfst_ok h
  rw [← e]
  exact hv
theorem znc_ex : ∀ q ∈ zk_nc, Cond.not (.castable q.1 q.2) ∈ flatC (Jvm.Cond.and given_1 narrow_1) := by
  intro q hq
  obtain ⟨v, hv, h⟩ := zsub_ok znc_ex0 q hq
  rw [← zfnc_ok h]
  exact hv
theorem zst_exA : Cond.isRef (.static Bundle.tN "UNASSIGNED_STACK" Bundle.steD) ∈ flatC (Jvm.Cond.and given_1 narrow_1) := by
  obtain ⟨v, hv, h⟩ := List.any_eq_true.mp zst_ex0.1
  have e := zfsr_ok h
  rw [← e]
  exact hv
theorem zst_exB : Cond.isRef (.static Bundle.tN "SUPPRESSED_SENTINEL" Bundle.listD) ∈ flatC (Jvm.Cond.and given_1 narrow_1) := by
  obtain ⟨v, hv, h⟩ := List.any_eq_true.mp zst_ex0.2
  have e := zfsr_ok h
  rw [← e]
  exact hv
theorem zls_in : Cond.laysStatic Bundle.tN "UNASSIGNED_STACK" Bundle.steD ∈ lw_tbl ∧ Cond.laysStatic Bundle.tN "SUPPRESSED_SENTINEL" Bundle.listD ∈ lw_tbl ∧ Cond.initialized Bundle.tN ∈ lw_tbl := ⟨(zTb_in 3 (List.mem_of_getElem? (i := 155) (by decide +kernel))), (zTb_in 3 (List.mem_of_getElem? (i := 157) (by decide +kernel))), (zTb_in 1 (List.mem_of_getElem? (i := 15) (by decide +kernel)))⟩
theorem zA_prim {s : State} {args : Array Value} {ty : FieldType} (h : (Cond.arrayClass ty).before args s = true) (hp : ∀ C, ty ≠ .object C) : ∃ c : ClassId, s.vm.findClass ("[" ++ ty.toString) = some c ∧ ArrOfT s c ty ∧ va_RA s c ty := by
  obtain ⟨c, k, comp, h1, h2, h3⟩ := Cond.arrayClass_spec h
  refine ⟨c, h1, fun N z => ⟨(fun k h => by cases h), k, h2, comp, h3⟩, ?_⟩
  cases ty <;> first | exact absurd rfl (hp _) | exact h1
theorem zA_obj {s : State} {args : Array Value} {C : String} (h : (Cond.arrayOver (.object C)).before args s = true) : ∃ c : ClassId, s.vm.findClass ("[" ++ (FieldType.object C).toString) = some c ∧ ArrOfT s c (.object C) ∧ va_RA s c (.object C) := by
  obtain ⟨comp, c, k, h1, -, h2, h3, h4⟩ := Cond.arrayOver_spec h
  exact ⟨c, h4, fun N z => ⟨(fun k h => by cases h), k, h2, comp, h3⟩, k, comp, h2, h3, h1, h4⟩
theorem zA_arr {s : State} {args : Array Value} {t : FieldType} (h : (Cond.arrayOver (.array t)).before args s = true) : ∃ c : ClassId, s.vm.findClass ("[" ++ (FieldType.array t).toString) = some c ∧ ArrOfT s c (.array t) ∧ va_RA s c (.array t) := by
  obtain ⟨comp, c, k, h1, h2, h3, h4⟩ := zao_spec h
  exact ⟨c, h4, fun N z => ⟨(fun k h => by cases h), k, h2, comp, h3⟩, h4⟩
def ztA (s : State) (ty : FieldType) : ClassId := match s.vm.findClass ("[" ++ ty.toString) with
  | some c => c
  | none => 0
theorem ztA_of {s : State} {ty : FieldType} (h : ∃ c : ClassId, s.vm.findClass ("[" ++ ty.toString) = some c ∧ ArrOfT s c ty ∧ va_RA s c ty) : ArrOfT s (ztA s ty) ty ∧ va_RA s (ztA s ty) ty := by
  obtain ⟨c, h1, h2, h3⟩ := h
  have e : ztA s ty = c := by unfold ztA; rw [h1]
  rw [e]
  exact ⟨h2, h3⟩
theorem zA_all {s : State} {args : Array Value} (hts : ∀ w ∈ lw_tbl, w.before args s = true) : ∀ ty ∈ zk_aty, ArrOfT s (ztA s ty) ty ∧ va_RA s (ztA s ty) ty := by
  intro ty hty
  simp only [zk_aty, List.mem_cons, List.not_mem_nil, or_false] at hty
  rcases hty with rfl | rfl | rfl | rfl | rfl | rfl | rfl | rfl | rfl | rfl
  · exact ztA_of (zA_prim (hts _ (zTb_in 1 (List.mem_of_getElem? (i := 87) (by decide +kernel)))) (fun C h => by cases h))
  · exact ztA_of (zA_prim (hts _ (zTb_in 10 (List.mem_of_getElem? (i := 88) (by decide +kernel)))) (fun C h => by cases h))
  · exact ztA_of (zA_prim (hts _ (zTb_in 10 (List.mem_of_getElem? (i := 89) (by decide +kernel)))) (fun C h => by cases h))
  · exact ztA_of (zA_prim (hts _ (zTb_in 2 (List.mem_of_getElem? (i := 105) (by decide +kernel)))) (fun C h => by cases h))
  · exact ztA_of (zA_prim (hts _ (zTb_in 8 (List.mem_of_getElem? (i := 109) (by decide +kernel)))) (fun C h => by cases h))
  · exact ztA_of (zA_obj (hts _ (zTb_in 1 (List.mem_of_getElem? (i := 40) (by decide +kernel)))))
  · exact ztA_of (zA_obj (hts _ (zTb_in 1 (List.mem_of_getElem? (i := 42) (by decide +kernel)))))
  · exact ztA_of (zA_obj (hts _ (zTb_in 1 (List.mem_of_getElem? (i := 213) (by decide +kernel)))))
  · exact ztA_of (zA_arr (hts _ (zTb_in 7 (List.mem_of_getElem? (i := 194) (by decide +kernel)))))
  · exact ztA_of (zA_arr (hts _ (zTb_in 7 (List.mem_of_getElem? (i := 196) (by decide +kernel)))))
theorem zT_start {s : State} {args : Array Value} (hts : ∀ w ∈ lw_tbl, w.before args s = true) (hgv : (Jvm.Cond.and given_1 narrow_1).before args s = true) (o : Nat) (sc : Nat × (Nat × (Nat → Int32))) : ∃ D : va_G, zw_T ((o, sc), (D, ztA s)) s := by
  have hg : ∀ w ∈ lw_g, w.before args s = true := fun w hw => hts w (lw_g_in hw)
  have hfl := flat_of_before _ hgv
  have key : ∀ ci : Nat, ∃ z : ClassId × (Nat → Nat), ∀ q, zk_cl[ci]? = some q → u_Kn s q.1 q.2.1 q.2.2 z.1 z.2 := by
    intro ci
    cases hq : zk_cl[ci]? with
    | none => exact ⟨(0, fun _ => 0), fun q h => by cases h⟩
    | some q =>
      obtain ⟨cC, iS, h⟩ := u_known (C := q.1) (T := q.2.1) (N := q.2.2) (n := q.2.2) hg (zc_in ci q hq) (hg _ (zinst ci q hq))
      exact ⟨(cC, iS), fun q' h' => by cases h'; exact h⟩
  refine ⟨(fun ci => (Classical.choose (key ci)).1, fun ci => (Classical.choose (key ci)).2), fun c q hq => Classical.choose_spec (key c) q hq, zA_all hts, fun q hq => ?_, fun q hq => ?_⟩
  · have h1 := hts _ (zstr_in q hq)
    have h2 := hfl _ (zstr_ex q hq)
    obtain ⟨a, c, cell, k, e1, -⟩ := Cond.exactly_spec h2
    exact ⟨a, vk_R.of h1 e1⟩
  · exact va_Nc.of (hfl _ (znc_ex q hq))
theorem zX_start {s : State} {b L : Nat} {xs : Nat → Int32} (hts : ∀ w ∈ lw_tbl, w.before #[Value.ref b] s = true) (hgv : (Jvm.Cond.and given_1 narrow_1).before #[Value.ref b] s = true) (hX : va_X b L xs s s.heap) (hb : b < s.heap.size) (D : va_G) : zw_X ((s.heap.size, (b, (L, xs))), (D, ztA s)) s s.heap := by
  have hfl := flat_of_before _ hgv
  obtain ⟨l1, l2, l3⟩ := zls_in
  exact ⟨hX, hb, Nat.le_refl _, vx_Zqof (hts _ l1) (hts _ l3) (hfl _ zst_exA) (fun a h1 h2 => absurd h2 (Nat.not_le.mpr h1)), vx_Zqof (hts _ l2) (hts _ l3) (hfl _ zst_exB) (fun a h1 h2 => absurd h2 (Nat.not_le.mpr h1))⟩
/-- the law's run over an empty memory: what is owed of the interpreter -/
def zLaw (L : Nat) (xs : Nat → Int32) : Prop := ∃ D sh, D ≤ 1400 ∧ (∀ r : Int, 1 ≤ r → sh r = none) ∧ zE (L, fun i => (xs i).toInt) D 382 [zv_a (-1)] 0 sh (fun _ _ => 0) 0 (fun o n _ _ u => o = .inl (some (zv_i 1)) ∧ (n ≤ 625340 ∧ u ≤ 7140213))
