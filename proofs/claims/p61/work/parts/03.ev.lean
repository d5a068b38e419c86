/-! ===== EV: a pure memory under the machine. Values, memory, world ===== -/
abbrev zv_V : Type := (Int ⊕ Int) ⊕ (Int ⊕ (UInt64 ⊕ UInt32))
abbrev zv_i (x : Int) : zv_V := .inl (.inl x)
abbrev zv_a (r : Int) : zv_V := .inl (.inr r)
abbrev zv_l (x : Int) : zv_V := .inr (.inl x)
abbrev zv_d (x : UInt64) : zv_V := .inr (.inr (.inl x))
abbrev zv_f (x : UInt32) : zv_V := .inr (.inr (.inr x))
/-- the fixed surroundings: base, script (cell, length, ints), classes, classes of arrays -/
abbrev ze_E : Type := (Nat × (Nat × (Nat × (Nat → Int32)))) × (va_G × (FieldType → ClassId))
def ze_o (E : ze_E) : Nat := E.1.1
def ze_b (E : ze_E) : Nat := E.1.2.1
def ze_L (E : ze_E) : Nat := E.1.2.2.1
def ze_x (E : ze_E) : Nat → Int32 := E.1.2.2.2
def ze_D (E : ze_E) : va_G := E.2.1
def ze_t (E : ze_E) : FieldType → ClassId := E.2.2
def ze_A (E : ze_E) : Nat → Prop := fun q => ze_o E ≤ q
def zv_ro (E : ze_E) (r : Int) : Option Nat := if r = 0 then none else if r < 0 then (if r = -1 then some (ze_b E) else some (-r - 2).toNat) else some (ze_o E + (r.toNat - 1))
def zv_c (E : ze_E) : zv_V → Value
  | .inl (.inl x) => .int (Int32.ofInt x)
  | .inl (.inr r) => va_rf (zv_ro E r)
  | .inr (.inl x) => .long (Int64.ofInt x)
  | .inr (.inr (.inl x)) => .double x
  | .inr (.inr (.inr x)) => .float x
def zv_k : zv_V → Nat
  | .inl _ => 1
  | .inr (.inl _) => 2
  | .inr (.inr (.inl _)) => 2
  | .inr (.inr (.inr _)) => 1
theorem va_rf_cat (r : Option Nat) : (va_rf r).category = 1 := by cases r <;> rfl
theorem zv_cat (E : ze_E) (v : zv_V) : (zv_c E v).category = zv_k v := by
  rcases v with (x | r) | (x | (x | x)) <;> first | rfl | exact va_rf_cat _
def zv_fv (E : ze_E) (ty : FieldType) (z : Int) : Value := match ty with
  | .object _ => va_rf (zv_ro E z)
  | .array _ => va_rf (zv_ro E z)
  | .long => .long (Int64.ofInt z)
  | .double => .double (UInt64.ofNat z.toNat)
  | .float => .float (UInt32.ofNat z.toNat)
  | _ => .int (Int32.ofInt z)
def zv_of (ty : FieldType) (z : Int) : zv_V := match ty with
  | .object _ => zv_a z
  | .array _ => zv_a z
  | .long => zv_l z
  | .double => zv_d (UInt64.ofNat z.toNat)
  | .float => zv_f (UInt32.ofNat z.toNat)
  | _ => zv_i z
theorem zv_of_c (E : ze_E) (ty : FieldType) (z : Int) : zv_c E (zv_of ty z) = zv_fv E ty z := by cases ty <;> rfl
/-- memory: by object and place -/
abbrev zm_D : Type := Int → Int → Int
def zm_u (d : zm_D) (r j v : Int) : zm_D := fun a k => if a = r ∧ k = j then v else d a k
/-- what lies at an address: an object of a class, an array of a type and length -/
abbrev zk_K : Type := Option (Nat ⊕ (FieldType × Nat))
abbrev zk_S : Type := Int → zk_K
def zw_at (E : ze_E) (d : zm_D) (H : Heap) (r : Nat) : zk_K → Prop
  | none => True
  | some (.inl ci) => ∃ q, zk_cl[ci]? = some q ∧ t_OB (ze_o E + (r - 1)) ((ze_D E).1 ci) q.2.2 ((ze_D E).2 ci) H (fun j => zv_fv E (zk_ty ci j) (d r j))
  | some (.inr (ty, N)) => H[ze_o E + (r - 1)]? = some (arrV (ze_t E ty) N (fun j => zv_fv E ty (d r j))) ∧ ty ∈ zk_aty
def zw_H (E : ze_E) (n : Nat) (sh : zk_S) (d : zm_D) (H : Heap) : Prop := H.size = ze_o E + n ∧ ∀ r : Nat, 1 ≤ r → zw_at E d H r (sh r)
/-- what the tables say, wherever the machine stands -/
def zw_T (E : ze_E) (U : State) : Prop :=
  (∀ (c : Nat) (q : vw_C), zk_cl[c]? = some q → u_Kn U q.1 q.2.1 q.2.2 ((ze_D E).1 c) ((ze_D E).2 c)) ∧
  (∀ ty ∈ zk_aty, ArrOfT U (ze_t E ty) ty ∧ va_RA U (ze_t E ty) ty) ∧
  (∀ q ∈ zk_str, ∃ sa, vk_R q.1 q.2.1 q.2.2 sa U) ∧
  (∀ q ∈ zk_nc, va_Nc q.1 q.2 U)
theorem zw_T.moved {E : ze_E} {s U : State} (hW : s.WarmedH U.vm) (h : zw_T E s) : zw_T E U :=
  ⟨fun c q hq => u_Kn_moved hW.alike (h.1 c q hq), fun ty ht => ⟨arrOfT_moved hW.alike (h.2.1 ty ht).1, (h.2.1 ty ht).2.moved hW.alike⟩,
   fun q hq => by obtain ⟨sa, hs⟩ := h.2.2.1 q hq; exact ⟨sa, vk_R.warm hW hs⟩, fun q hq => va_Nc.moved hW.alike (h.2.2.2 q hq)⟩
/-- the script, and Throwable's two statics: below the base -/
def zw_X (E : ze_E) (U : State) (H : Heap) : Prop :=
  va_X (ze_b E) (ze_L E) (ze_x E) U H ∧ ze_b E < ze_o E ∧ ze_o E ≤ H.size ∧ vx_Zq Bundle.tN "UNASSIGNED_STACK" Bundle.steD (ze_A E) U H ∧ vx_Zq Bundle.tN "SUPPRESSED_SENTINEL" Bundle.listD (ze_A E) U H
theorem zw_X.moved {E : ze_E} {s U : State} {H : Heap} (hW : s.vm.Alike U.vm) (h : zw_X E s H) : zw_X E U H :=
  ⟨h.1.moved hW, h.2.1, h.2.2.1, h.2.2.2.1.moved hW, h.2.2.2.2.moved hW⟩
theorem zw_X.kept {E : ze_E} {s : State} {H0 H : Heap} {locs : List Loc} (hS : va_S (ze_A E) H0 H locs) (h : zw_X E s H0) : zw_X E s H :=
  ⟨h.1.kept (hS.2.1 _ (Nat.lt_of_lt_of_le h.2.1 h.2.2.1) (Nat.not_le.mpr h.2.1)), h.2.1, Nat.le_trans h.2.2.1 hS.1, h.2.2.2.1.kept hS.2.1, h.2.2.2.2.kept hS.2.1⟩
/-! ===== EV: locals, methods, the judgement ===== -/
theorem zn_beq {a b : Nat} (h : ¬ a = b) : Nat.beq a b = false := by
  cases hh : Nat.beq a b with
  | false => rfl
  | true => exact absurd (Nat.eq_of_beq_eq_true hh) h
theorem zn_beqs (a : Nat) : Nat.beq a a = true := Nat.beq_refl a
abbrev zl_L : Type := List (Nat × Option zv_V)
def zl_get : zl_L → Nat → Option zv_V
  | [], _ => none
  | (k, v) :: r, i => cond (Nat.beq k i) v (zl_get r i)
def zl_has (E : ze_E) (ls : Array Slot) (nL : Nat) (L : zl_L) : Prop := ls.size = nL ∧ lv_wf ls ∧ ∀ (i : Nat) (v : zv_V), zl_get L i = some v → ls[i]? = some (.val (zv_c E v))
def zl_lv (E : ze_E) (L : zl_L) : List (Nat × Value) := (L.map (·.1)).filterMap (fun i => (zl_get L i).map (fun v => (i, zv_c E v)))
theorem zl_key : ∀ {L : zl_L} {i : Nat} {v : zv_V}, zl_get L i = some v → i ∈ L.map (·.1)
  | [], _, _, h => by simp [zl_get] at h
  | (k, w) :: r, i, v, h => by
    by_cases e : k = i
    · subst e; simp
    · have hb : Nat.beq k i = false := zn_beq e
      simp only [zl_get, hb, cond_false] at h
      exact List.mem_cons_of_mem _ (zl_key h)
theorem zl_lv_mem {E : ze_E} {L : zl_L} {i : Nat} {v : zv_V} (h : zl_get L i = some v) : (i, zv_c E v) ∈ zl_lv E L :=
  List.mem_filterMap.mpr ⟨i, zl_key h, by simp [h]⟩
theorem zl_lv_has {E : ze_E} {ls : Array Slot} {nL : Nat} {L : zl_L} (h : zl_has E ls nL L) : lv_has ls nL (zl_lv E L) := by
  refine ⟨h.1, h.2.1, fun q hq => ?_⟩
  obtain ⟨i, -, hi⟩ := List.mem_filterMap.mp hq
  cases hg : zl_get L i with
  | none => rw [hg] at hi; cases hi
  | some v =>
    rw [hg] at hi
    cases hi
    exact h.2.2 i v hg
/-- nothing of two places ends at i -/
def zl_o (L : zl_L) : Nat → Bool
  | 0 => true
  | j + 1 => match zl_get L j with
    | some w => Nat.beq (zv_k w) 1
    | none => true
theorem zl_o_spec {L : zl_L} {i j : Nat} {w : zv_V} (ho : zl_o L i = true) (hj : j + 1 = i) (hw : zl_get L j = some w) : ¬ zv_k w = 2 := by
  subst hj
  simp only [zl_o, hw] at ho
  have := Nat.eq_of_beq_eq_true ho
  omega
theorem zl_store1 {E : ze_E} {ls' : Array Slot} {nL i : Nat} {L : zl_L} {v : zv_V} (ho : zl_o L i = true)
    (h' : lv_has ls' nL ((i, zv_c E v) :: (zl_lv E L).filter (fun q => !(q.1 == i) && !(q.1 + 1 == i && q.2.category == 2)))) : zl_has E ls' nL ((i, some v) :: L) := by
  refine ⟨h'.1, h'.2.1, fun j w hw => ?_⟩
  by_cases e : i = j
  · subst e
    have hb : Nat.beq i i = true := zn_beqs i
    simp only [zl_get, hb, cond_true] at hw
    cases hw
    exact h'.2.2 _ List.mem_cons_self
  · have hb : Nat.beq i j = false := zn_beq e
    simp only [zl_get, hb, cond_false] at hw
    refine h'.2.2 (j, zv_c E w) (List.mem_cons_of_mem _ (List.mem_filter.mpr ⟨zl_lv_mem hw, ?_⟩))
    have e2 : ¬ j = i := fun q => e q.symm
    by_cases e3 : j + 1 = i
    · have := zl_o_spec ho e3 hw
      rw [← zv_cat E] at this
      simp [e2, this]
    · simp [e2, e3]
theorem zl_store2 {E : ze_E} {ls' : Array Slot} {nL i : Nat} {L : zl_L} {v : zv_V} (ho : zl_o L i = true)
    (h' : lv_has ls' nL ((i, zv_c E v) :: (zl_lv E L).filter (fun q => !(q.1 == i) && (!(q.1 == i + 1) && !(q.1 + 1 == i && q.2.category == 2))))) : zl_has E ls' nL ((i, some v) :: (i + 1, none) :: L) := by
  refine ⟨h'.1, h'.2.1, fun j w hw => ?_⟩
  by_cases e : i = j
  · subst e
    have hb : Nat.beq i i = true := zn_beqs i
    simp only [zl_get, hb, cond_true] at hw
    cases hw
    exact h'.2.2 _ List.mem_cons_self
  · have hb : Nat.beq i j = false := zn_beq e
    simp only [zl_get, hb, cond_false] at hw
    by_cases e1 : i + 1 = j
    · have hb1 : Nat.beq (i + 1) j = true := by rw [e1]; exact zn_beqs j
      simp only [hb1, cond_true] at hw
      cases hw
    · have hb1 : Nat.beq (i + 1) j = false := zn_beq e1
      simp only [hb1, cond_false] at hw
      refine h'.2.2 (j, zv_c E w) (List.mem_cons_of_mem _ (List.mem_filter.mpr ⟨zl_lv_mem hw, ?_⟩))
      have e2 : ¬ j = i := fun q => e q.symm
      have e4 : ¬ j = i + 1 := fun q => e1 q.symm
      by_cases e3 : j + 1 = i
      · have := zl_o_spec ho e3 hw
        rw [← zv_cat E] at this
        simp [e2, e4, this]
      · simp [e2, e3, e4]
/-- fewer locals -/
def zl_sub (L : zl_L) : zl_L → Prop
  | [] => True
  | (i, v) :: r => (match v with | none => True | some w => zl_get L i = some w) ∧ zl_sub L r
theorem zl_sub_get {L : zl_L} : ∀ {L' : zl_L}, zl_sub L L' → ∀ {i : Nat} {v : zv_V}, zl_get L' i = some v → zl_get L i = some v
  | [], _, i, v, h => by simp [zl_get] at h
  | (k, w) :: r, hs, i, v, h => by
    by_cases e : k = i
    · subst e
      have hb : Nat.beq k k = true := zn_beqs k
      simp only [zl_get, hb, cond_true] at h
      subst h
      exact hs.1
    · have hb : Nat.beq k i = false := zn_beq e
      simp only [zl_get, hb, cond_false] at h
      exact zl_sub_get hs.2 h
theorem zl_sub_has {E : ze_E} {ls : Array Slot} {nL : Nat} {L L' : zl_L} (h : zl_has E ls nL L) (hs : zl_sub L L') : zl_has E ls nL L' :=
  ⟨h.1, h.2.1, fun _ _ hv => h.2.2 _ _ (zl_sub_get hs hv)⟩
def zl_args : Nat → List zv_V → zl_L
  | _, [] => []
  | i, v :: vs => (i, some v) :: zl_args (if zv_k v = 2 then i + 2 else i + 1) vs
theorem zl_args_lv (E : ze_E) : ∀ (vs : List zv_V) (i j : Nat) (v : zv_V), zl_get (zl_args i vs) j = some v → (j, zv_c E v) ∈ lv_args i (vs.map (zv_c E))
  | [], _, _, _, h => by simp [zl_args, zl_get] at h
  | w :: vs, i, j, v, h => by
    by_cases e : i = j
    · subst e
      have hb : Nat.beq i i = true := zn_beqs i
      simp only [zl_args, zl_get, hb, cond_true] at h
      cases h
      exact List.mem_cons_self
    · have hb : Nat.beq i j = false := zn_beq e
      simp only [zl_args, zl_get, hb, cond_false] at h
      simp only [List.map_cons, lv_args]
      rw [zv_cat]
      exact List.mem_cons_of_mem _ (zl_args_lv E vs _ j v h)
/-- a method: name, bytes, locals, answer, table -/
abbrev zm_M : Type := MethodName × (ByteArray × (Nat × (Option FieldType × List (Nat × Nat × Nat × Nat))))
def zm_y (M : zm_M) : MethodName := M.1
def zm_c (M : zm_M) : ByteArray := M.2.1
def zm_n (M : zm_M) : Nat := M.2.2.1
def zm_r (M : zm_M) : Option FieldType := M.2.2.2.1
def zm_h (M : zm_M) : List (Nat × Nat × Nat × Nat) := M.2.2.2.2
def zm_o (M : zm_M) : String := M.1.cls
def zm_cw (M : zm_M) : Cond := match zm_h M with
  | [] => .code (zm_y M) (zm_c M) (zm_n M) (zm_r M)
  | h :: t => .codeWith (zm_y M) (zm_c M) (zm_n M) (zm_r M) (h :: t)
def zm_w (M : zm_M) : List Cond := zm_cw M :: lw_g
abbrev ev_Q : Type := (Option zv_V ⊕ String) → Nat → zk_S → zm_D → Prop
def ev_C (E : ze_E) (M : zm_M) (p : Program) (s : State) (m : MethodId) (args : Array Value) (meth : Method) (c : Code) : Prop :=
  p.tables.exec = Jvm.exec ∧ c.code = zm_c M ∧ meth.sig.returnType = zm_r M ∧ c.maxLocals = zm_n M ∧ s.vm.findClass (zm_o M) = some m.cls ∧ (∀ w ∈ lw_g, w.before args s = true) ∧ meth.locks = false ∧ c.exceptionTable.toList = tableOf (zm_h M) ∧ meth.name = (zm_y M).name ∧ zw_T E s ∧ zw_X E s s.heap
def ev_Qc (E : ze_E) (Q : ev_Q) : Array Value → State → Outcome → State → Prop := fun _ st o t =>
  (∃ (v : Option zv_V) (n : Nat) (sh : zk_S) (d : zm_D), o = .returned (v.map (zv_c E)) ∧ Q (.inl v) n sh d ∧ zw_H E n sh d t.heap) ∧ va_F (ze_A E) st t
def ev_XC (E : ze_E) (Q : ev_Q) : String → State → State → Prop := fun x st t => ∃ (n : Nat) (sh : zk_S) (d : zm_D), Q (.inr x) n sh d ∧ zw_H E n sh d t.heap ∧ va_F (ze_A E) st t
def ev_X (E : ze_E) (M : zm_M) (D n : Nat) (sh : zk_S) (d : zm_D) (kc ks : Nat) (L : zl_L) (p : Program) (R : Room) (s : State) (m : MethodId) (args : Array Value) (meth : Method) (c : Code) (H : Heap) (locs : List Loc) (cells slots mc ms : Nat) (ls : Array Slot) : Prop :=
  ev_C E M p s m args meth c ∧ zw_H E n sh d H ∧ va_S (ze_A E) s.heap H locs ∧ zl_has E ls (zm_n M) L ∧ (D ≤ R.frames ∧ 64 * D ≤ R.locals ∧ cells + kc ≤ mc ∧ slots + ks ≤ ms ∧ mc ≤ R.cells ∧ ms ≤ R.slots)
/-- from here the method comes to an end with Q -/
def ev (E : ze_E) (l : Launch) (M : zm_M) (D n : Nat) (sh : zk_S) (d : zm_D) (kc ks : Nat) (pc : Nat) (L : zl_L) (st : List zv_V) (Q : ev_Q) : Prop :=
  ∀ (p : Program) (e : Env) (R : Room) (s : State) (m : MethodId) (args : Array Value) (below : List Frame) (meth : Method) (c : Code) (H : Heap) (locs : List Loc) (cells slots mc ms : Nat) (ls : Array Slot),
    ev_X E M D n sh d kc ks L p R s m args meth c H locs cells slots mc ms ls →
    W p l e R s m args below meth c H locs cells slots (vx_MQ below (ev_Qc E Q) (ev_XC E Q) args s mc ms (ze_A E)) (F0 m pc ls (st.map (zv_c E)))
def mt_P (E : ze_E) (n : Nat) (sh : zk_S) (d : zm_D) (As : List zv_V) : Array Value → State → Prop := fun v U => v = (As.map (zv_c E)).toArray ∧ zw_H E n sh d U.heap ∧ zw_T E U ∧ zw_X E U U.heap
/-- a method's contract -/
def mt (E : ze_E) (l : Launch) (M : zm_M) (D kc ks n : Nat) (sh : zk_S) (d : zm_D) (As : List zv_V) (Q : ev_Q) : Prop :=
  vx_Met l (zm_y M) (zm_w M) ({ frames := D, cells := kc, slots := ks, locals := 64 * D } : Room) (mt_P E n sh d As) (ev_Qc E Q) (ev_XC E Q) kc ks (ze_A E)
/-! ===== EV: one instruction ===== -/
def zi (x : Int) : Prop := -2147483648 ≤ x ∧ x ≤ 2147483647
def zj (x : Int) : Prop := -9223372036854775808 ≤ x ∧ x ≤ 9223372036854775807
theorem zi_t {x : Int} (h : zi x) : (Int32.ofInt x).toInt = x := by
  have hz : ((Int32.size : Nat) : Int) = 4294967296 := rfl
  rw [Int32.toInt_ofInt]
  exact Int.bmod_eq_of_le (by have := h.1; omega) (by have := h.2; omega)
theorem zj_t {x : Int} (h : zj x) : (Int64.ofInt x).toInt = x := by
  have hz : ((Int64.size : Nat) : Int) = 18446744073709551616 := rfl
  rw [Int64.toInt_ofInt]
  exact Int.bmod_eq_of_le (by have := h.1; omega) (by have := h.2; omega)
theorem zi_lt {x y : Int} (hx : zi x) (hy : zi y) : Int32.ofInt x < Int32.ofInt y ↔ x < y := by rw [Int32.lt_iff_toInt_lt, zi_t hx, zi_t hy]
theorem zi_le {x y : Int} (hx : zi x) (hy : zi y) : Int32.ofInt x ≤ Int32.ofInt y ↔ x ≤ y := by rw [Int32.le_iff_toInt_le, zi_t hx, zi_t hy]
theorem zi_eq {x y : Int} (hx : zi x) (hy : zi y) : Int32.ofInt x = Int32.ofInt y ↔ x = y := by rw [← Int32.toInt_inj, zi_t hx, zi_t hy]
theorem zi_0 : zi 0 := by unfold zi; omega
theorem zi_ofInt (a : Int32) : Int32.ofInt a.toInt = a := Int32.ofInt_toInt a
theorem zj_ofInt (a : Int64) : Int64.ofInt a.toInt = a := Int64.ofInt_toInt a
theorem zi_l {x : Int} (h : zi x) : (Int32.ofInt x).toInt64 = Int64.ofInt x := by
  rw [← Int64.toInt_inj, Int32.toInt_toInt64, zi_t h, zj_t ⟨by have := h.1; omega, by have := h.2; omega⟩]
theorem zj_i (x : Int) : (Int64.ofInt x).toInt32 = Int32.ofInt x := by
  rw [← Int32.toInt_inj, Int64.toInt_toInt32, Int64.toInt_ofInt, Int32.toInt_ofInt]
  exact Int.bmod_bmod_of_dvd (by decide)
theorem zi_div {x y : Int} (hx : zi x) (hy : zi y) : Int32.ofInt x / Int32.ofInt y = Int32.ofInt (x.tdiv y) := by
  rw [← Int32.toInt_inj, Int32.toInt_div, zi_t hx, zi_t hy, Int32.toInt_ofInt]
theorem zi_rem {x y : Int} (hx : zi x) (hy : zi y) : Int32.ofInt x - Int32.ofInt x / Int32.ofInt y * Int32.ofInt y = Int32.ofInt (x.tmod y) := by
  rw [zi_div hx hy, ← Int32.ofInt_mul, ← Int32.ofInt_sub]
  congr 1
  rw [Int.tmod_def, Int.mul_comm]
theorem zj_div {x y : Int} (hx : zj x) (hy : zj y) : Int64.ofInt x / Int64.ofInt y = Int64.ofInt (x.tdiv y) := by
  rw [← Int64.toInt_inj, Int64.toInt_div, zj_t hx, zj_t hy, Int64.toInt_ofInt]
theorem zj_rem {x y : Int} (hx : zj x) (hy : zj y) : Int64.ofInt x - Int64.ofInt x / Int64.ofInt y * Int64.ofInt y = Int64.ofInt (x.tmod y) := by
  rw [zj_div hx hy, ← Int64.ofInt_mul, ← Int64.ofInt_sub]
  congr 1
  rw [Int.tmod_def, Int.mul_comm]
theorem zi_ne0 {y : Int} (hy : zi y) (h : y ≠ 0) : ¬ Int32.ofInt y = 0 := fun q => h ((zi_eq hy zi_0).mp q)
theorem zj_ne0 {y : Int} (hy : zj y) (h : y ≠ 0) : ¬ Int64.ofInt y = 0 := by
  intro q
  have h2 := congrArg Int64.toInt q
  rw [zj_t hy] at h2
  exact h h2
def zb_and (x y : Int) : Int := (Int32.ofInt x &&& Int32.ofInt y).toInt
def zb_or (x y : Int) : Int := (Int32.ofInt x ||| Int32.ofInt y).toInt
def zb_xor (x y : Int) : Int := (Int32.ofInt x ^^^ Int32.ofInt y).toInt
def zb_shl (x y : Int) : Int := (Int32.ofInt x <<< (Int32.ofInt y &&& 31)).toInt
def zb_shr (x y : Int) : Int := (Int32.ofInt x >>> (Int32.ofInt y &&& 31)).toInt
def zb_ushr (x y : Int) : Int := ((Int32.ofInt x).toUInt32 >>> ((Int32.ofInt y).toUInt32 &&& Int32.toUInt32 31)).toInt32.toInt
def zb_cmp (x y : Int) : Int := (lg_cmp (Int64.ofInt x) (Int64.ofInt y)).toInt
section EV3
variable {E : ze_E} {l : Launch} {M : zm_M} {D n : Nat} {sh : zk_S} {d : zm_D} {kc ks pc : Nat} {L : zl_L} {st : List zv_V} {Q : ev_Q}
theorem ev_X.loc {L' : zl_L} {p : Program} {R : Room} {s : State} {m : MethodId} {args : Array Value} {meth : Method} {c : Code} {H : Heap} {locs : List Loc} {cells slots mc ms : Nat} {ls ls' : Array Slot} (X : ev_X E M D n sh d kc ks L p R s m args meth c H locs cells slots mc ms ls) (h : zl_has E ls' (zm_n M) L') : ev_X E M D n sh d kc ks L' p R s m args meth c H locs cells slots mc ms ls' := ⟨X.1, X.2.1, X.2.2.1, h, X.2.2.2.2⟩
theorem ev_sub {L' : zl_L} (h : zl_sub L L') (kk : ev E l M D n sh d kc ks pc L' st Q) : ev E l M D n sh d kc ks pc L st Q := by
  intro p e R s m args below meth c H locs cells slots mc ms ls X
  exact kk p e R s m args below meth c H locs cells slots mc ms ls (X.loc (zl_sub_has X.2.2.2.1 h))

theorem ev_iconst {k : Int} (hd : decode (zm_c M) pc = .ok (.iconst k, 1)) (kk : ev E l M D n sh d kc ks (pc + 1) L (zv_i k :: st) Q) : ev E l M D n sh d kc ks pc L (st) Q := by
  intro p e R s m args below meth c H locs cells slots mc ms ls X
  exact lv_iconst X.1.1 X.1.2.1 hd rfl (kk p e R s m args below meth c H locs cells slots mc ms ls X)
theorem ev_bipush {k : Int} (hd : decode (zm_c M) pc = .ok (.bipush k, 2)) (hk : (Int8.ofInt k).toInt32 = Int32.ofInt k) (kk : ev E l M D n sh d kc ks (pc + 2) L (zv_i k :: st) Q) : ev E l M D n sh d kc ks pc L (st) Q := by
  intro p e R s m args below meth c H locs cells slots mc ms ls X
  exact lv_bipush X.1.1 X.1.2.1 hd hk (kk p e R s m args below meth c H locs cells slots mc ms ls X)
theorem ev_sipush {k : Int} (hd : decode (zm_c M) pc = .ok (.sipush k, 3)) (hk : (Int16.ofInt k).toInt32 = Int32.ofInt k) (kk : ev E l M D n sh d kc ks (pc + 3) L (zv_i k :: st) Q) : ev E l M D n sh d kc ks pc L (st) Q := by
  intro p e R s m args below meth c H locs cells slots mc ms ls X
  exact lv_sipush X.1.1 X.1.2.1 hd hk (kk p e R s m args below meth c H locs cells slots mc ms ls X)
theorem ev_lconst {k : Fin 2} {z : Int} (hd : decode (zm_c M) pc = .ok (.lconst k, 1)) (hk : Int64.ofNat (k : Nat) = Int64.ofInt z) (kk : ev E l M D n sh d kc ks (pc + 1) L (zv_l z :: st) Q) : ev E l M D n sh d kc ks pc L (st) Q := by
  intro p e R s m args below meth c H locs cells slots mc ms ls X
  exact lv_lconst X.1.1 X.1.2.1 hd hk (kk p e R s m args below meth c H locs cells slots mc ms ls X)
theorem ev_fconst0 (hd : decode (zm_c M) pc = .ok (.fconst 0, 1)) (kk : ev E l M D n sh d kc ks (pc + 1) L (zv_f FP.fconst0 :: st) Q) : ev E l M D n sh d kc ks pc L (st) Q := by
  intro p e R s m args below meth c H locs cells slots mc ms ls X
  exact lv_fconst0 X.1.1 X.1.2.1 hd (kk p e R s m args below meth c H locs cells slots mc ms ls X)
theorem ev_fconst1 (hd : decode (zm_c M) pc = .ok (.fconst 1, 1)) (kk : ev E l M D n sh d kc ks (pc + 1) L (zv_f FP.fconst1 :: st) Q) : ev E l M D n sh d kc ks pc L (st) Q := by
  intro p e R s m args below meth c H locs cells slots mc ms ls X
  exact lv_fconst1 X.1.1 X.1.2.1 hd (kk p e R s m args below meth c H locs cells slots mc ms ls X)
theorem ev_dconst0 (hd : decode (zm_c M) pc = .ok (.dconst 0, 1)) (kk : ev E l M D n sh d kc ks (pc + 1) L (zv_d FP.dconst0 :: st) Q) : ev E l M D n sh d kc ks pc L (st) Q := by
  intro p e R s m args below meth c H locs cells slots mc ms ls X
  exact lv_dconst0 X.1.1 X.1.2.1 hd (kk p e R s m args below meth c H locs cells slots mc ms ls X)
theorem ev_dconst1 (hd : decode (zm_c M) pc = .ok (.dconst 1, 1)) (kk : ev E l M D n sh d kc ks (pc + 1) L (zv_d FP.dconst1 :: st) Q) : ev E l M D n sh d kc ks pc L (st) Q := by
  intro p e R s m args below meth c H locs cells slots mc ms ls X
  exact lv_dconst1 X.1.1 X.1.2.1 hd (kk p e R s m args below meth c H locs cells slots mc ms ls X)
theorem ev_fconst2 (hd : decode (zm_c M) pc = .ok (.fconst 2, 1)) (kk : ev E l M D n sh d kc ks (pc + 1) L (zv_f FP.fconst2 :: st) Q) : ev E l M D n sh d kc ks pc L (st) Q := by
  intro p e R s m args below meth c H locs cells slots mc ms ls X
  exact lv_fconst2 X.1.1 X.1.2.1 hd (kk p e R s m args below meth c H locs cells slots mc ms ls X)
theorem lv_null9 {p : Program} {l : Launch} {e : Env} {R : Room} {s : State} {m : MethodId} {args : Array Value} {below : List Frame} {meth : Method} {c : Code} {H : Heap} {locs : List Loc} {cells slots : Nat} {Q : State → Prop} {cc : ByteArray} {pc : Nat} {ls : Array Slot} {rest : List Value} (hexec : p.tables.exec = Jvm.exec) (hb : c.code = cc) (hdg : decode cc pc = .ok (.aconst_null, 1)) (k : W p l e R s m args below meth c H locs cells slots Q (F0 m (pc + 1) ls (va_rf none :: rest))) : W p l e R s m args below meth c H locs cells slots Q (F0 m pc ls rest) := lv_null hexec hb hdg k
theorem ev_null (hd : decode (zm_c M) pc = .ok (.aconst_null, 1)) (kk : ev E l M D n sh d kc ks (pc + 1) L (zv_a 0 :: st) Q) : ev E l M D n sh d kc ks pc L (st) Q := by
  intro p e R s m args below meth c H locs cells slots mc ms ls X
  exact lv_null9 X.1.1 X.1.2.1 hd (kk p e R s m args below meth c H locs cells slots mc ms ls X)
theorem ev_ldc {index : Nat} {z : Int} (hd : decode (zm_c M) pc = .ok (.ldc index, 2)) (hw : Cond.constant (zm_o M) index (Int32.ofInt z) ∈ lw_g) (kk : ev E l M D n sh d kc ks (pc + 2) L (zv_i z :: st) Q) : ev E l M D n sh d kc ks pc L (st) Q := by
  intro p e R s m args below meth c H locs cells slots mc ms ls X
  exact lv_ldc X.1.1 X.1.2.1 X.1.2.2.2.2.1 (X.1.2.2.2.2.2.1 _ hw) hd (kk p e R s m args below meth c H locs cells slots mc ms ls X)
theorem ev_ldcw {index : Nat} {z : Int} (hd : decode (zm_c M) pc = .ok (.ldc_w index, 3)) (hw : Cond.constant (zm_o M) index (Int32.ofInt z) ∈ lw_g) (kk : ev E l M D n sh d kc ks (pc + 3) L (zv_i z :: st) Q) : ev E l M D n sh d kc ks pc L (st) Q := by
  intro p e R s m args below meth c H locs cells slots mc ms ls X
  exact lv_ldcw X.1.1 X.1.2.1 X.1.2.2.2.2.1 (X.1.2.2.2.2.2.1 _ hw) hd (kk p e R s m args below meth c H locs cells slots mc ms ls X)
theorem ev_ldc2 {index : Nat} {z : Int} (hd : decode (zm_c M) pc = .ok (.ldc2_w index, 3)) (hw : Cond.constantLong (zm_o M) index (Int64.ofInt z) ∈ lw_g) (kk : ev E l M D n sh d kc ks (pc + 3) L (zv_l z :: st) Q) : ev E l M D n sh d kc ks pc L (st) Q := by
  intro p e R s m args below meth c H locs cells slots mc ms ls X
  exact lv_ldc2 X.1.1 X.1.2.1 X.1.2.2.2.2.1 (X.1.2.2.2.2.2.1 _ hw) hd (kk p e R s m args below meth c H locs cells slots mc ms ls X)
theorem ev_ldcf {index : Nat} {z : UInt32} (hd : decode (zm_c M) pc = .ok (.ldc index, 2)) (hw : Cond.constantFloat (zm_o M) index z ∈ lw_g) (kk : ev E l M D n sh d kc ks (pc + 2) L (zv_f z :: st) Q) : ev E l M D n sh d kc ks pc L (st) Q := by
  intro p e R s m args below meth c H locs cells slots mc ms ls X
  exact lv_ldcf X.1.1 X.1.2.1 X.1.2.2.2.2.1 (X.1.2.2.2.2.2.1 _ hw) hd (kk p e R s m args below meth c H locs cells slots mc ms ls X)
theorem ev_ldc2d {index : Nat} {z : UInt64} (hd : decode (zm_c M) pc = .ok (.ldc2_w index, 3)) (hw : Cond.constantDouble (zm_o M) index z ∈ lw_g) (kk : ev E l M D n sh d kc ks (pc + 3) L (zv_d z :: st) Q) : ev E l M D n sh d kc ks pc L (st) Q := by
  intro p e R s m args below meth c H locs cells slots mc ms ls X
  exact lv_ldc2d X.1.1 X.1.2.1 X.1.2.2.2.2.1 (X.1.2.2.2.2.2.1 _ hw) hd (kk p e R s m args below meth c H locs cells slots mc ms ls X)
theorem ev_iload_n {k : Fin 4} {x : Int} (hd : decode (zm_c M) pc = .ok (.iload_n k, 1)) (hl : zl_get L (k : Nat) = some (zv_i x)) (kk : ev E l M D n sh d kc ks (pc + 1) L (zv_i x :: st) Q) : ev E l M D n sh d kc ks pc L (st) Q := by
  intro p e R s m args below meth c H locs cells slots mc ms ls X
  exact lv_iload_n X.1.1 X.1.2.1 hd rfl (X.2.2.2.1.2.2 _ _ hl) (kk p e R s m args below meth c H locs cells slots mc ms ls X)
theorem ev_iload {i : Nat} {x : Int} (hd : decode (zm_c M) pc = .ok (.iload i, 2)) (hl : zl_get L i = some (zv_i x)) (kk : ev E l M D n sh d kc ks (pc + 2) L (zv_i x :: st) Q) : ev E l M D n sh d kc ks pc L (st) Q := by
  intro p e R s m args below meth c H locs cells slots mc ms ls X
  exact lv_iload X.1.1 X.1.2.1 hd (X.2.2.2.1.2.2 _ _ hl) (kk p e R s m args below meth c H locs cells slots mc ms ls X)
theorem ev_lload_n {k : Fin 4} {x : Int} (hd : decode (zm_c M) pc = .ok (.lload_n k, 1)) (hl : zl_get L (k : Nat) = some (zv_l x)) (kk : ev E l M D n sh d kc ks (pc + 1) L (zv_l x :: st) Q) : ev E l M D n sh d kc ks pc L (st) Q := by
  intro p e R s m args below meth c H locs cells slots mc ms ls X
  exact lv_lload_n X.1.1 X.1.2.1 hd rfl (X.2.2.2.1.2.2 _ _ hl) (kk p e R s m args below meth c H locs cells slots mc ms ls X)
theorem ev_lload {i : Nat} {x : Int} (hd : decode (zm_c M) pc = .ok (.lload i, 2)) (hl : zl_get L i = some (zv_l x)) (kk : ev E l M D n sh d kc ks (pc + 2) L (zv_l x :: st) Q) : ev E l M D n sh d kc ks pc L (st) Q := by
  intro p e R s m args below meth c H locs cells slots mc ms ls X
  exact lv_lload X.1.1 X.1.2.1 hd (X.2.2.2.1.2.2 _ _ hl) (kk p e R s m args below meth c H locs cells slots mc ms ls X)
theorem ev_dload_n {k : Fin 4} {x : UInt64} (hd : decode (zm_c M) pc = .ok (.dload_n k, 1)) (hl : zl_get L (k : Nat) = some (zv_d x)) (kk : ev E l M D n sh d kc ks (pc + 1) L (zv_d x :: st) Q) : ev E l M D n sh d kc ks pc L (st) Q := by
  intro p e R s m args below meth c H locs cells slots mc ms ls X
  exact lv_dload_n X.1.1 X.1.2.1 hd rfl (X.2.2.2.1.2.2 _ _ hl) (kk p e R s m args below meth c H locs cells slots mc ms ls X)
theorem ev_dload {i : Nat} {x : UInt64} (hd : decode (zm_c M) pc = .ok (.dload i, 2)) (hl : zl_get L i = some (zv_d x)) (kk : ev E l M D n sh d kc ks (pc + 2) L (zv_d x :: st) Q) : ev E l M D n sh d kc ks pc L (st) Q := by
  intro p e R s m args below meth c H locs cells slots mc ms ls X
  exact lv_dload X.1.1 X.1.2.1 hd (X.2.2.2.1.2.2 _ _ hl) (kk p e R s m args below meth c H locs cells slots mc ms ls X)
theorem ev_fload_n {k : Fin 4} {x : UInt32} (hd : decode (zm_c M) pc = .ok (.fload_n k, 1)) (hl : zl_get L (k : Nat) = some (zv_f x)) (kk : ev E l M D n sh d kc ks (pc + 1) L (zv_f x :: st) Q) : ev E l M D n sh d kc ks pc L (st) Q := by
  intro p e R s m args below meth c H locs cells slots mc ms ls X
  exact lv_fload_n X.1.1 X.1.2.1 hd rfl (X.2.2.2.1.2.2 _ _ hl) (kk p e R s m args below meth c H locs cells slots mc ms ls X)
theorem ev_fload {i : Nat} {x : UInt32} (hd : decode (zm_c M) pc = .ok (.fload i, 2)) (hl : zl_get L i = some (zv_f x)) (kk : ev E l M D n sh d kc ks (pc + 2) L (zv_f x :: st) Q) : ev E l M D n sh d kc ks pc L (st) Q := by
  intro p e R s m args below meth c H locs cells slots mc ms ls X
  exact lv_fload X.1.1 X.1.2.1 hd (X.2.2.2.1.2.2 _ _ hl) (kk p e R s m args below meth c H locs cells slots mc ms ls X)
theorem ev_aload_n {k : Fin 4} {x : Int} (hd : decode (zm_c M) pc = .ok (.aload_n k, 1)) (hl : zl_get L (k : Nat) = some (zv_a x)) (kk : ev E l M D n sh d kc ks (pc + 1) L (zv_a x :: st) Q) : ev E l M D n sh d kc ks pc L st Q := by
  intro p e R s m args below meth c H locs cells slots mc ms ls X
  have h := X.2.2.2.1.2.2 _ _ hl
  have k2 := kk p e R s m args below meth c H locs cells slots mc ms ls X
  simp only [List.map_cons, zv_c] at k2 h
  cases hr : zv_ro E x with
  | none => rw [hr] at h k2; exact lv_aload_nN X.1.1 X.1.2.1 hd rfl h k2
  | some a => rw [hr] at h k2; exact lv_aload_n X.1.1 X.1.2.1 hd rfl h k2
theorem ev_aload {i : Nat} {x : Int} (hd : decode (zm_c M) pc = .ok (.aload i, 2)) (hl : zl_get L i = some (zv_a x)) (kk : ev E l M D n sh d kc ks (pc + 2) L (zv_a x :: st) Q) : ev E l M D n sh d kc ks pc L st Q := by
  intro p e R s m args below meth c H locs cells slots mc ms ls X
  have h := X.2.2.2.1.2.2 _ _ hl
  have k2 := kk p e R s m args below meth c H locs cells slots mc ms ls X
  simp only [List.map_cons, zv_c] at k2 h
  cases hr : zv_ro E x with
  | none => rw [hr] at h k2; exact lv_aloadN X.1.1 X.1.2.1 hd h k2
  | some a => rw [hr] at h k2; exact lv_aload X.1.1 X.1.2.1 hd h k2
theorem ev_istore_n {k : Fin 4} {x : Int} (hd : decode (zm_c M) pc = .ok (.istore_n k, 1)) (hn : (k : Nat) < zm_n M) (ho : zl_o L (k : Nat) = true) (kk : ev E l M D n sh d kc ks (pc + 1) (((k : Nat), some (zv_i x)) :: L) st Q) : ev E l M D n sh d kc ks pc L (zv_i x :: st) Q := by
  intro p e R s m args below meth c H locs cells slots mc ms ls X
  exact lv_istore_n X.1.1 X.1.2.1 hd rfl (zl_lv_has X.2.2.2.1) hn rfl (fun ls' h => kk p e R s m args below meth c H locs cells slots mc ms ls' (X.loc (zl_store1 (v := zv_i x) ho h)))
theorem ev_istore {i : Nat} {x : Int} (hd : decode (zm_c M) pc = .ok (.istore i, 2)) (hn : i < zm_n M) (ho : zl_o L i = true) (kk : ev E l M D n sh d kc ks (pc + 2) ((i, some (zv_i x)) :: L) st Q) : ev E l M D n sh d kc ks pc L (zv_i x :: st) Q := by
  intro p e R s m args below meth c H locs cells slots mc ms ls X
  exact lv_istore X.1.1 X.1.2.1 hd (zl_lv_has X.2.2.2.1) hn rfl (fun ls' h => kk p e R s m args below meth c H locs cells slots mc ms ls' (X.loc (zl_store1 (v := zv_i x) ho h)))
theorem ev_lstore_n {k : Fin 4} {x : Int} (hd : decode (zm_c M) pc = .ok (.lstore_n k, 1)) (hn : (k : Nat) + 1 < zm_n M) (ho : zl_o L (k : Nat) = true) (kk : ev E l M D n sh d kc ks (pc + 1) (((k : Nat), some (zv_l x)) :: ((k : Nat) + 1, none) :: L) st Q) : ev E l M D n sh d kc ks pc L (zv_l x :: st) Q := by
  intro p e R s m args below meth c H locs cells slots mc ms ls X
  exact lv_lstore_n X.1.1 X.1.2.1 hd rfl (zl_lv_has X.2.2.2.1) hn rfl (fun ls' h => kk p e R s m args below meth c H locs cells slots mc ms ls' (X.loc (zl_store2 (v := zv_l x) ho h)))
theorem ev_lstore {i : Nat} {x : Int} (hd : decode (zm_c M) pc = .ok (.lstore i, 2)) (hn : i + 1 < zm_n M) (ho : zl_o L i = true) (kk : ev E l M D n sh d kc ks (pc + 2) ((i, some (zv_l x)) :: (i + 1, none) :: L) st Q) : ev E l M D n sh d kc ks pc L (zv_l x :: st) Q := by
  intro p e R s m args below meth c H locs cells slots mc ms ls X
  exact lv_lstore X.1.1 X.1.2.1 hd (zl_lv_has X.2.2.2.1) hn rfl (fun ls' h => kk p e R s m args below meth c H locs cells slots mc ms ls' (X.loc (zl_store2 (v := zv_l x) ho h)))
theorem ev_dstore_n {k : Fin 4} {x : UInt64} (hd : decode (zm_c M) pc = .ok (.dstore_n k, 1)) (hn : (k : Nat) + 1 < zm_n M) (ho : zl_o L (k : Nat) = true) (kk : ev E l M D n sh d kc ks (pc + 1) (((k : Nat), some (zv_d x)) :: ((k : Nat) + 1, none) :: L) st Q) : ev E l M D n sh d kc ks pc L (zv_d x :: st) Q := by
  intro p e R s m args below meth c H locs cells slots mc ms ls X
  exact lv_dstore_n X.1.1 X.1.2.1 hd rfl (zl_lv_has X.2.2.2.1) hn rfl (fun ls' h => kk p e R s m args below meth c H locs cells slots mc ms ls' (X.loc (zl_store2 (v := zv_d x) ho h)))
theorem ev_dstore {i : Nat} {x : UInt64} (hd : decode (zm_c M) pc = .ok (.dstore i, 2)) (hn : i + 1 < zm_n M) (ho : zl_o L i = true) (kk : ev E l M D n sh d kc ks (pc + 2) ((i, some (zv_d x)) :: (i + 1, none) :: L) st Q) : ev E l M D n sh d kc ks pc L (zv_d x :: st) Q := by
  intro p e R s m args below meth c H locs cells slots mc ms ls X
  exact lv_dstore X.1.1 X.1.2.1 hd (zl_lv_has X.2.2.2.1) hn rfl (fun ls' h => kk p e R s m args below meth c H locs cells slots mc ms ls' (X.loc (zl_store2 (v := zv_d x) ho h)))
theorem ev_fstore_n {k : Fin 4} {x : UInt32} (hd : decode (zm_c M) pc = .ok (.fstore_n k, 1)) (hn : (k : Nat) < zm_n M) (ho : zl_o L (k : Nat) = true) (kk : ev E l M D n sh d kc ks (pc + 1) (((k : Nat), some (zv_f x)) :: L) st Q) : ev E l M D n sh d kc ks pc L (zv_f x :: st) Q := by
  intro p e R s m args below meth c H locs cells slots mc ms ls X
  exact lv_fstore_n X.1.1 X.1.2.1 hd rfl (zl_lv_has X.2.2.2.1) hn rfl (fun ls' h => kk p e R s m args below meth c H locs cells slots mc ms ls' (X.loc (zl_store1 (v := zv_f x) ho h)))
theorem ev_fstore {i : Nat} {x : UInt32} (hd : decode (zm_c M) pc = .ok (.fstore i, 2)) (hn : i < zm_n M) (ho : zl_o L i = true) (kk : ev E l M D n sh d kc ks (pc + 2) ((i, some (zv_f x)) :: L) st Q) : ev E l M D n sh d kc ks pc L (zv_f x :: st) Q := by
  intro p e R s m args below meth c H locs cells slots mc ms ls X
  exact lv_fstore X.1.1 X.1.2.1 hd (zl_lv_has X.2.2.2.1) hn rfl (fun ls' h => kk p e R s m args below meth c H locs cells slots mc ms ls' (X.loc (zl_store1 (v := zv_f x) ho h)))
theorem ev_astore_n {k : Fin 4} {x : Int} (hd : decode (zm_c M) pc = .ok (.astore_n k, 1)) (hn : (k : Nat) < zm_n M) (ho : zl_o L (k : Nat) = true) (kk : ev E l M D n sh d kc ks (pc + 1) (((k : Nat), some (zv_a x)) :: L) st Q) : ev E l M D n sh d kc ks pc L (zv_a x :: st) Q := by
  intro p e R s m args below meth c H locs cells slots mc ms ls X
  have k2 := fun ls' h => kk p e R s m args below meth c H locs cells slots mc ms ls' (X.loc (zl_store1 (v := zv_a x) ho h))
  simp only [List.map_cons, zv_c] at k2 ⊢
  cases hr : zv_ro E x with
  | none => rw [hr] at k2; exact lv_astore_nN X.1.1 X.1.2.1 hd rfl (zl_lv_has X.2.2.2.1) hn rfl k2
  | some a => rw [hr] at k2; exact lv_astore_n X.1.1 X.1.2.1 hd rfl (zl_lv_has X.2.2.2.1) hn rfl k2
theorem ev_astore {i : Nat} {x : Int} (hd : decode (zm_c M) pc = .ok (.astore i, 2)) (hn : i < zm_n M) (ho : zl_o L i = true) (kk : ev E l M D n sh d kc ks (pc + 2) ((i, some (zv_a x)) :: L) st Q) : ev E l M D n sh d kc ks pc L (zv_a x :: st) Q := by
  intro p e R s m args below meth c H locs cells slots mc ms ls X
  have k2 := fun ls' h => kk p e R s m args below meth c H locs cells slots mc ms ls' (X.loc (zl_store1 (v := zv_a x) ho h))
  simp only [List.map_cons, zv_c] at k2 ⊢
  cases hr : zv_ro E x with
  | none => rw [hr] at k2; exact lv_astoreN X.1.1 X.1.2.1 hd (zl_lv_has X.2.2.2.1) hn rfl k2
  | some a => rw [hr] at k2; exact lv_astore X.1.1 X.1.2.1 hd (zl_lv_has X.2.2.2.1) hn rfl k2
theorem ev_iinc {i : Nat} {z x : Int} (hd : decode (zm_c M) pc = .ok (.iinc i z, 3)) (hl : zl_get L i = some (zv_i x)) (hn : i < zm_n M) (ho : zl_o L i = true) (kk : ev E l M D n sh d kc ks (pc + 3) ((i, some (zv_i (x + z))) :: L) st Q) : ev E l M D n sh d kc ks pc L st Q := by
  intro p e R s m args below meth c H locs cells slots mc ms ls X
  obtain ⟨k, hk⟩ := List.getElem?_of_mem (zl_lv_mem (E := E) hl)
  exact lv_iinc (v := Int32.ofInt (x + z)) X.1.1 X.1.2.1 hd (zl_lv_has X.2.2.2.1) (k := k) hk (Int32.ofInt_add x z).symm hn rfl (fun ls' h => kk p e R s m args below meth c H locs cells slots mc ms ls' (X.loc (zl_store1 (v := zv_i (x + z)) ho h)))
theorem ev_iadd {x y : Int} (hd : decode (zm_c M) pc = .ok (.iadd, 1)) (kk : ev E l M D n sh d kc ks (pc + 1) L (zv_i (x + y) :: st) Q) : ev E l M D n sh d kc ks pc L (zv_i y :: zv_i x :: st) Q := by
  intro p e R s m args below meth c H locs cells slots mc ms ls X
  refine lv_iadd X.1.1 X.1.2.1 hd ?_
  rw [← Int32.ofInt_add]
  exact (kk p e R s m args below meth c H locs cells slots mc ms ls X)
theorem ev_isub {x y : Int} (hd : decode (zm_c M) pc = .ok (.isub, 1)) (kk : ev E l M D n sh d kc ks (pc + 1) L (zv_i (x - y) :: st) Q) : ev E l M D n sh d kc ks pc L (zv_i y :: zv_i x :: st) Q := by
  intro p e R s m args below meth c H locs cells slots mc ms ls X
  refine lv_isub X.1.1 X.1.2.1 hd ?_
  rw [← Int32.ofInt_sub]
  exact (kk p e R s m args below meth c H locs cells slots mc ms ls X)
theorem ev_imul {x y : Int} (hd : decode (zm_c M) pc = .ok (.imul, 1)) (kk : ev E l M D n sh d kc ks (pc + 1) L (zv_i (x * y) :: st) Q) : ev E l M D n sh d kc ks pc L (zv_i y :: zv_i x :: st) Q := by
  intro p e R s m args below meth c H locs cells slots mc ms ls X
  refine lv_imul X.1.1 X.1.2.1 hd ?_
  rw [← Int32.ofInt_mul]
  exact (kk p e R s m args below meth c H locs cells slots mc ms ls X)
theorem ev_ineg {x : Int} (hd : decode (zm_c M) pc = .ok (.ineg, 1)) (kk : ev E l M D n sh d kc ks (pc + 1) L (zv_i (-x) :: st) Q) : ev E l M D n sh d kc ks pc L (zv_i x :: st) Q := by
  intro p e R s m args below meth c H locs cells slots mc ms ls X
  refine lv_ineg X.1.1 X.1.2.1 hd ?_
  rw [← Int32.ofInt_neg]
  exact (kk p e R s m args below meth c H locs cells slots mc ms ls X)
theorem ev_ladd {x y : Int} (hd : decode (zm_c M) pc = .ok (.ladd, 1)) (kk : ev E l M D n sh d kc ks (pc + 1) L (zv_l (x + y) :: st) Q) : ev E l M D n sh d kc ks pc L (zv_l y :: zv_l x :: st) Q := by
  intro p e R s m args below meth c H locs cells slots mc ms ls X
  refine lv_ladd X.1.1 X.1.2.1 hd ?_
  rw [← Int64.ofInt_add]
  exact (kk p e R s m args below meth c H locs cells slots mc ms ls X)
theorem ev_lsub {x y : Int} (hd : decode (zm_c M) pc = .ok (.lsub, 1)) (kk : ev E l M D n sh d kc ks (pc + 1) L (zv_l (x - y) :: st) Q) : ev E l M D n sh d kc ks pc L (zv_l y :: zv_l x :: st) Q := by
  intro p e R s m args below meth c H locs cells slots mc ms ls X
  refine lv_lsub X.1.1 X.1.2.1 hd ?_
  rw [← Int64.ofInt_sub]
  exact (kk p e R s m args below meth c H locs cells slots mc ms ls X)
theorem ev_lmul {x y : Int} (hd : decode (zm_c M) pc = .ok (.lmul, 1)) (kk : ev E l M D n sh d kc ks (pc + 1) L (zv_l (x * y) :: st) Q) : ev E l M D n sh d kc ks pc L (zv_l y :: zv_l x :: st) Q := by
  intro p e R s m args below meth c H locs cells slots mc ms ls X
  refine lv_lmul X.1.1 X.1.2.1 hd ?_
  rw [← Int64.ofInt_mul]
  exact (kk p e R s m args below meth c H locs cells slots mc ms ls X)
theorem ev_idiv {x y : Int} (hd : decode (zm_c M) pc = .ok (.idiv, 1)) (hx : zi x) (hy : zi y) (h0 : y ≠ 0) (kk : ev E l M D n sh d kc ks (pc + 1) L (zv_i (x.tdiv y) :: st) Q) : ev E l M D n sh d kc ks pc L (zv_i y :: zv_i x :: st) Q := by
  intro p e R s m args below meth c H locs cells slots mc ms ls X
  refine lv_idiv X.1.1 X.1.2.1 hd (zi_ne0 hy h0) ?_
  rw [zi_div hx hy]
  exact (kk p e R s m args below meth c H locs cells slots mc ms ls X)
theorem ev_irem {x y : Int} (hd : decode (zm_c M) pc = .ok (.irem, 1)) (hx : zi x) (hy : zi y) (h0 : y ≠ 0) (kk : ev E l M D n sh d kc ks (pc + 1) L (zv_i (x.tmod y) :: st) Q) : ev E l M D n sh d kc ks pc L (zv_i y :: zv_i x :: st) Q := by
  intro p e R s m args below meth c H locs cells slots mc ms ls X
  refine lv_irem X.1.1 X.1.2.1 hd (zi_ne0 hy h0) ?_
  rw [zi_rem hx hy]
  exact (kk p e R s m args below meth c H locs cells slots mc ms ls X)
theorem ev_ldiv {x y : Int} (hd : decode (zm_c M) pc = .ok (.ldiv, 1)) (hx : zj x) (hy : zj y) (h0 : y ≠ 0) (kk : ev E l M D n sh d kc ks (pc + 1) L (zv_l (x.tdiv y) :: st) Q) : ev E l M D n sh d kc ks pc L (zv_l y :: zv_l x :: st) Q := by
  intro p e R s m args below meth c H locs cells slots mc ms ls X
  refine lv_ldiv X.1.1 X.1.2.1 hd (zj_ne0 hy h0) ?_
  rw [zj_div hx hy]
  exact (kk p e R s m args below meth c H locs cells slots mc ms ls X)
theorem ev_lrem {x y : Int} (hd : decode (zm_c M) pc = .ok (.lrem, 1)) (hx : zj x) (hy : zj y) (h0 : y ≠ 0) (kk : ev E l M D n sh d kc ks (pc + 1) L (zv_l (x.tmod y) :: st) Q) : ev E l M D n sh d kc ks pc L (zv_l y :: zv_l x :: st) Q := by
  intro p e R s m args below meth c H locs cells slots mc ms ls X
  refine lv_lrem X.1.1 X.1.2.1 hd (zj_ne0 hy h0) ?_
  rw [zj_rem hx hy]
  exact (kk p e R s m args below meth c H locs cells slots mc ms ls X)
theorem ev_iand {x y : Int} (hd : decode (zm_c M) pc = .ok (.iand, 1)) (kk : ev E l M D n sh d kc ks (pc + 1) L (zv_i (zb_and x y) :: st) Q) : ev E l M D n sh d kc ks pc L (zv_i y :: zv_i x :: st) Q := by
  intro p e R s m args below meth c H locs cells slots mc ms ls X
  have k2 := (kk p e R s m args below meth c H locs cells slots mc ms ls X)
  simp only [List.map_cons, zv_c, zb_and, zi_ofInt] at k2
  exact lv_iand X.1.1 X.1.2.1 hd k2
theorem ev_ior {x y : Int} (hd : decode (zm_c M) pc = .ok (.ior, 1)) (kk : ev E l M D n sh d kc ks (pc + 1) L (zv_i (zb_or x y) :: st) Q) : ev E l M D n sh d kc ks pc L (zv_i y :: zv_i x :: st) Q := by
  intro p e R s m args below meth c H locs cells slots mc ms ls X
  have k2 := (kk p e R s m args below meth c H locs cells slots mc ms ls X)
  simp only [List.map_cons, zv_c, zb_or, zi_ofInt] at k2
  exact lv_ior X.1.1 X.1.2.1 hd k2
theorem ev_ixor {x y : Int} (hd : decode (zm_c M) pc = .ok (.ixor, 1)) (kk : ev E l M D n sh d kc ks (pc + 1) L (zv_i (zb_xor x y) :: st) Q) : ev E l M D n sh d kc ks pc L (zv_i y :: zv_i x :: st) Q := by
  intro p e R s m args below meth c H locs cells slots mc ms ls X
  have k2 := (kk p e R s m args below meth c H locs cells slots mc ms ls X)
  simp only [List.map_cons, zv_c, zb_xor, zi_ofInt] at k2
  exact lv_ixor X.1.1 X.1.2.1 hd k2
theorem ev_ishl {x y : Int} (hd : decode (zm_c M) pc = .ok (.ishl, 1)) (kk : ev E l M D n sh d kc ks (pc + 1) L (zv_i (zb_shl x y) :: st) Q) : ev E l M D n sh d kc ks pc L (zv_i y :: zv_i x :: st) Q := by
  intro p e R s m args below meth c H locs cells slots mc ms ls X
  have k2 := (kk p e R s m args below meth c H locs cells slots mc ms ls X)
  simp only [List.map_cons, zv_c, zb_shl, zi_ofInt] at k2
  exact lv_ishl X.1.1 X.1.2.1 hd k2
theorem ev_ishr {x y : Int} (hd : decode (zm_c M) pc = .ok (.ishr, 1)) (kk : ev E l M D n sh d kc ks (pc + 1) L (zv_i (zb_shr x y) :: st) Q) : ev E l M D n sh d kc ks pc L (zv_i y :: zv_i x :: st) Q := by
  intro p e R s m args below meth c H locs cells slots mc ms ls X
  have k2 := (kk p e R s m args below meth c H locs cells slots mc ms ls X)
  simp only [List.map_cons, zv_c, zb_shr, zi_ofInt] at k2
  exact lv_ishr X.1.1 X.1.2.1 hd k2
theorem ev_iushr {x y : Int} (hd : decode (zm_c M) pc = .ok (.iushr, 1)) (kk : ev E l M D n sh d kc ks (pc + 1) L (zv_i (zb_ushr x y) :: st) Q) : ev E l M D n sh d kc ks pc L (zv_i y :: zv_i x :: st) Q := by
  intro p e R s m args below meth c H locs cells slots mc ms ls X
  have k2 := (kk p e R s m args below meth c H locs cells slots mc ms ls X)
  simp only [List.map_cons, zv_c, zb_ushr, zi_ofInt] at k2
  exact lv_iushr X.1.1 X.1.2.1 hd rfl k2
theorem ev_lcmp {x y : Int} (hd : decode (zm_c M) pc = .ok (.lcmp, 1)) (kk : ev E l M D n sh d kc ks (pc + 1) L (zv_i (zb_cmp x y) :: st) Q) : ev E l M D n sh d kc ks pc L (zv_l y :: zv_l x :: st) Q := by
  intro p e R s m args below meth c H locs cells slots mc ms ls X
  have k2 := (kk p e R s m args below meth c H locs cells slots mc ms ls X)
  simp only [List.map_cons, zv_c, zb_cmp, zi_ofInt] at k2
  exact W.lcmp X.1.1 X.1.2.1 hd k2
theorem ev_i2l {x : Int} (hd : decode (zm_c M) pc = .ok (.i2l, 1)) (hx : zi x) (kk : ev E l M D n sh d kc ks (pc + 1) L (zv_l x :: st) Q) : ev E l M D n sh d kc ks pc L (zv_i x :: st) Q := by
  intro p e R s m args below meth c H locs cells slots mc ms ls X
  exact lv_i2l X.1.1 X.1.2.1 hd (zi_l hx) (kk p e R s m args below meth c H locs cells slots mc ms ls X)
theorem ev_l2i {x : Int} (hd : decode (zm_c M) pc = .ok (.l2i, 1)) (kk : ev E l M D n sh d kc ks (pc + 1) L (zv_i x :: st) Q) : ev E l M D n sh d kc ks pc L (zv_l x :: st) Q := by
  intro p e R s m args below meth c H locs cells slots mc ms ls X
  exact lv_l2i X.1.1 X.1.2.1 hd (zj_i x) (kk p e R s m args below meth c H locs cells slots mc ms ls X)
theorem ev_i2c {x y : Int} (hd : decode (zm_c M) pc = .ok (.i2c, 1)) (hv : ((Int32.ofInt x).toUInt32 % 65536).toInt32 = Int32.ofInt y) (kk : ev E l M D n sh d kc ks (pc + 1) L (zv_i y :: st) Q) : ev E l M D n sh d kc ks pc L (zv_i x :: st) Q := by
  intro p e R s m args below meth c H locs cells slots mc ms ls X
  exact lv_i2c X.1.1 X.1.2.1 hd hv (kk p e R s m args below meth c H locs cells slots mc ms ls X)
theorem ev_dadd {x y : UInt64} (hd : decode (zm_c M) pc = .ok (.dadd, 1)) (hq : vf_n64 (FP.dadd x y)) (kk : ev E l M D n sh d kc ks (pc + 1) L (zv_d (FP.dadd x y) :: st) Q) : ev E l M D n sh d kc ks pc L (zv_d y :: zv_d x :: st) Q := by
  intro p e R s m args below meth c H locs cells slots mc ms ls X
  exact lv_dadd X.1.1 X.1.2.1 hd hq (kk p e R s m args below meth c H locs cells slots mc ms ls X)
theorem ev_dsub {x y : UInt64} (hd : decode (zm_c M) pc = .ok (.dsub, 1)) (hq : vf_n64 (FP.dsub x y)) (kk : ev E l M D n sh d kc ks (pc + 1) L (zv_d (FP.dsub x y) :: st) Q) : ev E l M D n sh d kc ks pc L (zv_d y :: zv_d x :: st) Q := by
  intro p e R s m args below meth c H locs cells slots mc ms ls X
  exact lv_dsub X.1.1 X.1.2.1 hd hq (kk p e R s m args below meth c H locs cells slots mc ms ls X)
theorem ev_dmul {x y : UInt64} (hd : decode (zm_c M) pc = .ok (.dmul, 1)) (hq : vf_n64 (FP.dmul x y)) (kk : ev E l M D n sh d kc ks (pc + 1) L (zv_d (FP.dmul x y) :: st) Q) : ev E l M D n sh d kc ks pc L (zv_d y :: zv_d x :: st) Q := by
  intro p e R s m args below meth c H locs cells slots mc ms ls X
  exact lv_dmul X.1.1 X.1.2.1 hd hq (kk p e R s m args below meth c H locs cells slots mc ms ls X)
theorem ev_ddiv {x y : UInt64} (hd : decode (zm_c M) pc = .ok (.ddiv, 1)) (hq : vf_n64 (FP.ddiv x y)) (kk : ev E l M D n sh d kc ks (pc + 1) L (zv_d (FP.ddiv x y) :: st) Q) : ev E l M D n sh d kc ks pc L (zv_d y :: zv_d x :: st) Q := by
  intro p e R s m args below meth c H locs cells slots mc ms ls X
  exact lv_ddiv X.1.1 X.1.2.1 hd hq (kk p e R s m args below meth c H locs cells slots mc ms ls X)
theorem ev_dneg {x : UInt64} (hd : decode (zm_c M) pc = .ok (.dneg, 1)) (kk : ev E l M D n sh d kc ks (pc + 1) L (zv_d (FP.dneg x) :: st) Q) : ev E l M D n sh d kc ks pc L (zv_d x :: st) Q := by
  intro p e R s m args below meth c H locs cells slots mc ms ls X
  exact lv_dneg X.1.1 X.1.2.1 hd (kk p e R s m args below meth c H locs cells slots mc ms ls X)
theorem ev_dcmp {x y : UInt64} {op : CmpOp} (hd : decode (zm_c M) pc = .ok (.dcmp op, 1)) (kk : ev E l M D n sh d kc ks (pc + 1) L (zv_i (Op.cmpValue (FP.dcmp x y) op).toInt :: st) Q) : ev E l M D n sh d kc ks pc L (zv_d y :: zv_d x :: st) Q := by
  intro p e R s m args below meth c H locs cells slots mc ms ls X
  have k2 := (kk p e R s m args below meth c H locs cells slots mc ms ls X)
  simp only [List.map_cons, zv_c, zi_ofInt] at k2
  exact lv_dcmp X.1.1 X.1.2.1 hd k2
theorem ev_i2d {x : Int} (hd : decode (zm_c M) pc = .ok (.i2d, 1)) (kk : ev E l M D n sh d kc ks (pc + 1) L (zv_d (FP.i2d (Int32.ofInt x)) :: st) Q) : ev E l M D n sh d kc ks pc L (zv_i x :: st) Q := by
  intro p e R s m args below meth c H locs cells slots mc ms ls X
  exact lv_i2d X.1.1 X.1.2.1 hd (kk p e R s m args below meth c H locs cells slots mc ms ls X)
theorem ev_d2i {x : UInt64} (hd : decode (zm_c M) pc = .ok (.d2i, 1)) (kk : ev E l M D n sh d kc ks (pc + 1) L (zv_i (FP.d2i x).toInt :: st) Q) : ev E l M D n sh d kc ks pc L (zv_d x :: st) Q := by
  intro p e R s m args below meth c H locs cells slots mc ms ls X
  have k2 := (kk p e R s m args below meth c H locs cells slots mc ms ls X)
  simp only [List.map_cons, zv_c, zi_ofInt] at k2
  exact lv_d2i X.1.1 X.1.2.1 hd k2
theorem ev_fadd {x y : UInt32} (hd : decode (zm_c M) pc = .ok (.fadd, 1)) (hq : vf_n32 (FP.fadd x y)) (kk : ev E l M D n sh d kc ks (pc + 1) L (zv_f (FP.fadd x y) :: st) Q) : ev E l M D n sh d kc ks pc L (zv_f y :: zv_f x :: st) Q := by
  intro p e R s m args below meth c H locs cells slots mc ms ls X
  exact lv_fadd X.1.1 X.1.2.1 hd hq (kk p e R s m args below meth c H locs cells slots mc ms ls X)
theorem ev_fsub {x y : UInt32} (hd : decode (zm_c M) pc = .ok (.fsub, 1)) (hq : vf_n32 (FP.fsub x y)) (kk : ev E l M D n sh d kc ks (pc + 1) L (zv_f (FP.fsub x y) :: st) Q) : ev E l M D n sh d kc ks pc L (zv_f y :: zv_f x :: st) Q := by
  intro p e R s m args below meth c H locs cells slots mc ms ls X
  exact lv_fsub X.1.1 X.1.2.1 hd hq (kk p e R s m args below meth c H locs cells slots mc ms ls X)
theorem ev_fmul {x y : UInt32} (hd : decode (zm_c M) pc = .ok (.fmul, 1)) (hq : vf_n32 (FP.fmul x y)) (kk : ev E l M D n sh d kc ks (pc + 1) L (zv_f (FP.fmul x y) :: st) Q) : ev E l M D n sh d kc ks pc L (zv_f y :: zv_f x :: st) Q := by
  intro p e R s m args below meth c H locs cells slots mc ms ls X
  exact lv_fmul X.1.1 X.1.2.1 hd hq (kk p e R s m args below meth c H locs cells slots mc ms ls X)
theorem ev_fdiv {x y : UInt32} (hd : decode (zm_c M) pc = .ok (.fdiv, 1)) (hq : vf_n32 (FP.fdiv x y)) (kk : ev E l M D n sh d kc ks (pc + 1) L (zv_f (FP.fdiv x y) :: st) Q) : ev E l M D n sh d kc ks pc L (zv_f y :: zv_f x :: st) Q := by
  intro p e R s m args below meth c H locs cells slots mc ms ls X
  exact lv_fdiv X.1.1 X.1.2.1 hd hq (kk p e R s m args below meth c H locs cells slots mc ms ls X)
theorem ev_fneg {x : UInt32} (hd : decode (zm_c M) pc = .ok (.fneg, 1)) (kk : ev E l M D n sh d kc ks (pc + 1) L (zv_f (FP.fneg x) :: st) Q) : ev E l M D n sh d kc ks pc L (zv_f x :: st) Q := by
  intro p e R s m args below meth c H locs cells slots mc ms ls X
  exact lv_fneg X.1.1 X.1.2.1 hd (kk p e R s m args below meth c H locs cells slots mc ms ls X)
theorem ev_fcmp {x y : UInt32} {op : CmpOp} (hd : decode (zm_c M) pc = .ok (.fcmp op, 1)) (kk : ev E l M D n sh d kc ks (pc + 1) L (zv_i (Op.cmpValue (FP.fcmp x y) op).toInt :: st) Q) : ev E l M D n sh d kc ks pc L (zv_f y :: zv_f x :: st) Q := by
  intro p e R s m args below meth c H locs cells slots mc ms ls X
  have k2 := (kk p e R s m args below meth c H locs cells slots mc ms ls X)
  simp only [List.map_cons, zv_c, zi_ofInt] at k2
  exact lv_fcmp X.1.1 X.1.2.1 hd k2
theorem ev_i2f {x : Int} (hd : decode (zm_c M) pc = .ok (.i2f, 1)) (kk : ev E l M D n sh d kc ks (pc + 1) L (zv_f (FP.i2f (Int32.ofInt x)) :: st) Q) : ev E l M D n sh d kc ks pc L (zv_i x :: st) Q := by
  intro p e R s m args below meth c H locs cells slots mc ms ls X
  exact lv_i2f X.1.1 X.1.2.1 hd (kk p e R s m args below meth c H locs cells slots mc ms ls X)
theorem ev_f2i {x : UInt32} (hd : decode (zm_c M) pc = .ok (.f2i, 1)) (kk : ev E l M D n sh d kc ks (pc + 1) L (zv_i (FP.f2i x).toInt :: st) Q) : ev E l M D n sh d kc ks pc L (zv_f x :: st) Q := by
  intro p e R s m args below meth c H locs cells slots mc ms ls X
  have k2 := (kk p e R s m args below meth c H locs cells slots mc ms ls X)
  simp only [List.map_cons, zv_c, zi_ofInt] at k2
  exact lv_f2i X.1.1 X.1.2.1 hd k2
theorem ev_f2d {x : UInt32} (hd : decode (zm_c M) pc = .ok (.f2d, 1)) (hq : vf_n64 (FP.f2d x)) (kk : ev E l M D n sh d kc ks (pc + 1) L (zv_d (FP.f2d x) :: st) Q) : ev E l M D n sh d kc ks pc L (zv_f x :: st) Q := by
  intro p e R s m args below meth c H locs cells slots mc ms ls X
  exact lv_f2d X.1.1 X.1.2.1 hd hq (kk p e R s m args below meth c H locs cells slots mc ms ls X)
theorem ev_dup {a : zv_V} (hd : decode (zm_c M) pc = .ok (.dup, 1)) (ha : zv_k a = 1) (kk : ev E l M D n sh d kc ks (pc + 1) L (a :: a :: st) Q) : ev E l M D n sh d kc ks pc L (a :: st) Q := by
  intro p e R s m args below meth c H locs cells slots mc ms ls X
  exact lv_dup X.1.1 X.1.2.1 hd ((zv_cat E a).trans ha) (kk p e R s m args below meth c H locs cells slots mc ms ls X)
theorem ev_pop {a : zv_V} (hd : decode (zm_c M) pc = .ok (.pop, 1)) (ha : zv_k a = 1) (kk : ev E l M D n sh d kc ks (pc + 1) L (st) Q) : ev E l M D n sh d kc ks pc L (a :: st) Q := by
  intro p e R s m args below meth c H locs cells slots mc ms ls X
  exact lv_pop X.1.1 X.1.2.1 hd ((zv_cat E a).trans ha) (kk p e R s m args below meth c H locs cells slots mc ms ls X)
theorem ev_pop2 {a : zv_V} (hd : decode (zm_c M) pc = .ok (.pop2, 1)) (ha : zv_k a = 2) (kk : ev E l M D n sh d kc ks (pc + 1) L (st) Q) : ev E l M D n sh d kc ks pc L (a :: st) Q := by
  intro p e R s m args below meth c H locs cells slots mc ms ls X
  exact lv_pop2_2 X.1.1 X.1.2.1 hd ((zv_cat E a).trans ha) (kk p e R s m args below meth c H locs cells slots mc ms ls X)
theorem ev_dup_x1 {a b : zv_V} (hd : decode (zm_c M) pc = .ok (.dup_x1, 1)) (ha : zv_k a = 1) (hb : zv_k b = 1) (kk : ev E l M D n sh d kc ks (pc + 1) L (a :: b :: a :: st) Q) : ev E l M D n sh d kc ks pc L (a :: b :: st) Q := by
  intro p e R s m args below meth c H locs cells slots mc ms ls X
  exact lv_dup_x1 X.1.1 X.1.2.1 hd ((zv_cat E a).trans ha) ((zv_cat E b).trans hb) (kk p e R s m args below meth c H locs cells slots mc ms ls X)
theorem ev_dup2 {a b : zv_V} (hd : decode (zm_c M) pc = .ok (.dup2, 1)) (ha : zv_k a = 1) (hb : zv_k b = 1) (kk : ev E l M D n sh d kc ks (pc + 1) L (a :: b :: a :: b :: st) Q) : ev E l M D n sh d kc ks pc L (a :: b :: st) Q := by
  intro p e R s m args below meth c H locs cells slots mc ms ls X
  exact lv_dup2_11 X.1.1 X.1.2.1 hd ((zv_cat E a).trans ha) ((zv_cat E b).trans hb) (kk p e R s m args below meth c H locs cells slots mc ms ls X)
end EV3
section EV4
variable {E : ze_E} {l : Launch} {M : zm_M} {D n : Nat} {sh : zk_S} {d : zm_D} {kc ks pc : Nat} {L : zl_L} {st : List zv_V} {Q : ev_Q}
theorem ev_icmp_eq {x y off : Int} {tgt : Nat} (hd : decode (zm_c M) pc = .ok (.if_icmp .eq off, 3)) (ht : (pc : Int) + off = (tgt : Int)) (hx : zi x) (hy : zi y) (kt : x = y → ev E l M D n sh d kc ks tgt L st Q) (kf : ¬ x = y → ev E l M D n sh d kc ks (pc + 3) L st Q) : ev E l M D n sh d kc ks pc L (zv_i y :: zv_i x :: st) Q := by
  intro p e R s m args below meth c H locs cells slots mc ms ls X
  exact lv_icmp_eq X.1.1 X.1.2.1 hd ht (fun q => kt ((zi_eq hx hy).mp q) p e R s m args below meth c H locs cells slots mc ms ls X) (fun q => kf ((not_congr (zi_eq hx hy)).mp q) p e R s m args below meth c H locs cells slots mc ms ls X)
theorem ev_if_eq {x off : Int} {tgt : Nat} (hd : decode (zm_c M) pc = .ok (.ifCond .eq off, 3)) (ht : (pc : Int) + off = (tgt : Int)) (hx : zi x) (kt : x = 0 → ev E l M D n sh d kc ks tgt L st Q) (kf : ¬ x = 0 → ev E l M D n sh d kc ks (pc + 3) L st Q) : ev E l M D n sh d kc ks pc L (zv_i x :: st) Q := by
  intro p e R s m args below meth c H locs cells slots mc ms ls X
  exact lv_if_eq X.1.1 X.1.2.1 hd ht (fun q => kt ((zi_eq hx zi_0).mp q) p e R s m args below meth c H locs cells slots mc ms ls X) (fun q => kf ((not_congr (zi_eq hx zi_0)).mp q) p e R s m args below meth c H locs cells slots mc ms ls X)
theorem ev_icmp_ne {x y off : Int} {tgt : Nat} (hd : decode (zm_c M) pc = .ok (.if_icmp .ne off, 3)) (ht : (pc : Int) + off = (tgt : Int)) (hx : zi x) (hy : zi y) (kt : ¬ x = y → ev E l M D n sh d kc ks tgt L st Q) (kf : x = y → ev E l M D n sh d kc ks (pc + 3) L st Q) : ev E l M D n sh d kc ks pc L (zv_i y :: zv_i x :: st) Q := by
  intro p e R s m args below meth c H locs cells slots mc ms ls X
  exact lv_icmp_ne X.1.1 X.1.2.1 hd ht (fun q => kt ((not_congr (zi_eq hx hy)).mp q) p e R s m args below meth c H locs cells slots mc ms ls X) (fun q => kf ((zi_eq hx hy).mp q) p e R s m args below meth c H locs cells slots mc ms ls X)
theorem ev_if_ne {x off : Int} {tgt : Nat} (hd : decode (zm_c M) pc = .ok (.ifCond .ne off, 3)) (ht : (pc : Int) + off = (tgt : Int)) (hx : zi x) (kt : ¬ x = 0 → ev E l M D n sh d kc ks tgt L st Q) (kf : x = 0 → ev E l M D n sh d kc ks (pc + 3) L st Q) : ev E l M D n sh d kc ks pc L (zv_i x :: st) Q := by
  intro p e R s m args below meth c H locs cells slots mc ms ls X
  exact lv_if_ne X.1.1 X.1.2.1 hd ht (fun q => kt ((not_congr (zi_eq hx zi_0)).mp q) p e R s m args below meth c H locs cells slots mc ms ls X) (fun q => kf ((zi_eq hx zi_0).mp q) p e R s m args below meth c H locs cells slots mc ms ls X)
theorem ev_icmp_lt {x y off : Int} {tgt : Nat} (hd : decode (zm_c M) pc = .ok (.if_icmp .lt off, 3)) (ht : (pc : Int) + off = (tgt : Int)) (hx : zi x) (hy : zi y) (kt : x < y → ev E l M D n sh d kc ks tgt L st Q) (kf : ¬ x < y → ev E l M D n sh d kc ks (pc + 3) L st Q) : ev E l M D n sh d kc ks pc L (zv_i y :: zv_i x :: st) Q := by
  intro p e R s m args below meth c H locs cells slots mc ms ls X
  exact lv_icmp_lt X.1.1 X.1.2.1 hd ht (fun q => kt ((zi_lt hx hy).mp q) p e R s m args below meth c H locs cells slots mc ms ls X) (fun q => kf ((not_congr (zi_lt hx hy)).mp q) p e R s m args below meth c H locs cells slots mc ms ls X)
theorem ev_if_lt {x off : Int} {tgt : Nat} (hd : decode (zm_c M) pc = .ok (.ifCond .lt off, 3)) (ht : (pc : Int) + off = (tgt : Int)) (hx : zi x) (kt : x < 0 → ev E l M D n sh d kc ks tgt L st Q) (kf : ¬ x < 0 → ev E l M D n sh d kc ks (pc + 3) L st Q) : ev E l M D n sh d kc ks pc L (zv_i x :: st) Q := by
  intro p e R s m args below meth c H locs cells slots mc ms ls X
  exact lv_if_lt X.1.1 X.1.2.1 hd ht (fun q => kt ((zi_lt hx zi_0).mp q) p e R s m args below meth c H locs cells slots mc ms ls X) (fun q => kf ((not_congr (zi_lt hx zi_0)).mp q) p e R s m args below meth c H locs cells slots mc ms ls X)
theorem ev_icmp_ge {x y off : Int} {tgt : Nat} (hd : decode (zm_c M) pc = .ok (.if_icmp .ge off, 3)) (ht : (pc : Int) + off = (tgt : Int)) (hx : zi x) (hy : zi y) (kt : y ≤ x → ev E l M D n sh d kc ks tgt L st Q) (kf : ¬ y ≤ x → ev E l M D n sh d kc ks (pc + 3) L st Q) : ev E l M D n sh d kc ks pc L (zv_i y :: zv_i x :: st) Q := by
  intro p e R s m args below meth c H locs cells slots mc ms ls X
  exact lv_icmp_ge X.1.1 X.1.2.1 hd ht (fun q => kt ((zi_le hy hx).mp q) p e R s m args below meth c H locs cells slots mc ms ls X) (fun q => kf ((not_congr (zi_le hy hx)).mp q) p e R s m args below meth c H locs cells slots mc ms ls X)
theorem ev_if_ge {x off : Int} {tgt : Nat} (hd : decode (zm_c M) pc = .ok (.ifCond .ge off, 3)) (ht : (pc : Int) + off = (tgt : Int)) (hx : zi x) (kt : 0 ≤ x → ev E l M D n sh d kc ks tgt L st Q) (kf : ¬ 0 ≤ x → ev E l M D n sh d kc ks (pc + 3) L st Q) : ev E l M D n sh d kc ks pc L (zv_i x :: st) Q := by
  intro p e R s m args below meth c H locs cells slots mc ms ls X
  exact lv_if_ge X.1.1 X.1.2.1 hd ht (fun q => kt ((zi_le zi_0 hx).mp q) p e R s m args below meth c H locs cells slots mc ms ls X) (fun q => kf ((not_congr (zi_le zi_0 hx)).mp q) p e R s m args below meth c H locs cells slots mc ms ls X)
theorem ev_icmp_gt {x y off : Int} {tgt : Nat} (hd : decode (zm_c M) pc = .ok (.if_icmp .gt off, 3)) (ht : (pc : Int) + off = (tgt : Int)) (hx : zi x) (hy : zi y) (kt : y < x → ev E l M D n sh d kc ks tgt L st Q) (kf : ¬ y < x → ev E l M D n sh d kc ks (pc + 3) L st Q) : ev E l M D n sh d kc ks pc L (zv_i y :: zv_i x :: st) Q := by
  intro p e R s m args below meth c H locs cells slots mc ms ls X
  exact lv_icmp_gt X.1.1 X.1.2.1 hd ht (fun q => kt ((zi_lt hy hx).mp q) p e R s m args below meth c H locs cells slots mc ms ls X) (fun q => kf ((not_congr (zi_lt hy hx)).mp q) p e R s m args below meth c H locs cells slots mc ms ls X)
theorem ev_if_gt {x off : Int} {tgt : Nat} (hd : decode (zm_c M) pc = .ok (.ifCond .gt off, 3)) (ht : (pc : Int) + off = (tgt : Int)) (hx : zi x) (kt : 0 < x → ev E l M D n sh d kc ks tgt L st Q) (kf : ¬ 0 < x → ev E l M D n sh d kc ks (pc + 3) L st Q) : ev E l M D n sh d kc ks pc L (zv_i x :: st) Q := by
  intro p e R s m args below meth c H locs cells slots mc ms ls X
  exact lv_if_gt X.1.1 X.1.2.1 hd ht (fun q => kt ((zi_lt zi_0 hx).mp q) p e R s m args below meth c H locs cells slots mc ms ls X) (fun q => kf ((not_congr (zi_lt zi_0 hx)).mp q) p e R s m args below meth c H locs cells slots mc ms ls X)
theorem ev_icmp_le {x y off : Int} {tgt : Nat} (hd : decode (zm_c M) pc = .ok (.if_icmp .le off, 3)) (ht : (pc : Int) + off = (tgt : Int)) (hx : zi x) (hy : zi y) (kt : x ≤ y → ev E l M D n sh d kc ks tgt L st Q) (kf : ¬ x ≤ y → ev E l M D n sh d kc ks (pc + 3) L st Q) : ev E l M D n sh d kc ks pc L (zv_i y :: zv_i x :: st) Q := by
  intro p e R s m args below meth c H locs cells slots mc ms ls X
  exact lv_icmp_le X.1.1 X.1.2.1 hd ht (fun q => kt ((zi_le hx hy).mp q) p e R s m args below meth c H locs cells slots mc ms ls X) (fun q => kf ((not_congr (zi_le hx hy)).mp q) p e R s m args below meth c H locs cells slots mc ms ls X)
theorem ev_if_le {x off : Int} {tgt : Nat} (hd : decode (zm_c M) pc = .ok (.ifCond .le off, 3)) (ht : (pc : Int) + off = (tgt : Int)) (hx : zi x) (kt : x ≤ 0 → ev E l M D n sh d kc ks tgt L st Q) (kf : ¬ x ≤ 0 → ev E l M D n sh d kc ks (pc + 3) L st Q) : ev E l M D n sh d kc ks pc L (zv_i x :: st) Q := by
  intro p e R s m args below meth c H locs cells slots mc ms ls X
  exact lv_if_le X.1.1 X.1.2.1 hd ht (fun q => kt ((zi_le hx zi_0).mp q) p e R s m args below meth c H locs cells slots mc ms ls X) (fun q => kf ((not_congr (zi_le hx zi_0)).mp q) p e R s m args below meth c H locs cells slots mc ms ls X)
theorem ev_goto {off : Int} {tgt : Nat} (hd : decode (zm_c M) pc = .ok (.goto off, 3)) (ht : (pc : Int) + off = (tgt : Int)) (kk : ev E l M D n sh d kc ks tgt L st Q) : ev E l M D n sh d kc ks pc L st Q := by
  intro p e R s m args below meth c H locs cells slots mc ms ls X
  exact lv_goto X.1.1 X.1.2.1 hd ht (kk p e R s m args below meth c H locs cells slots mc ms ls X)
theorem ev_ifnull {r off : Int} {tgt : Nat} (hd : decode (zm_c M) pc = .ok (.ifnull off, 3)) (ht : (pc : Int) + off = (tgt : Int)) (kt : r = 0 → ev E l M D n sh d kc ks tgt L st Q) (kf : ¬ r = 0 → ev E l M D n sh d kc ks (pc + 3) L st Q) : ev E l M D n sh d kc ks pc L (zv_a r :: st) Q := by
  intro p e R s m args below meth c H locs cells slots mc ms ls X
  by_cases h : r = 0
  · have e9 : zv_ro E r = none := by unfold zv_ro; rw [if_pos h]
    simp only [List.map_cons, zv_c, e9]
    exact lv_ifnullN X.1.1 X.1.2.1 hd ht (kt h p e R s m args below meth c H locs cells slots mc ms ls X)
  · obtain ⟨a, e9⟩ : ∃ a, zv_ro E r = some a := by unfold zv_ro; rw [if_neg h]; split <;> (first | exact ⟨_, rfl⟩ | (split <;> exact ⟨_, rfl⟩))
    simp only [List.map_cons, zv_c, e9]
    exact lv_ifnull X.1.1 X.1.2.1 hd (kf h p e R s m args below meth c H locs cells slots mc ms ls X)
theorem ev_ifnonnull {r off : Int} {tgt : Nat} (hd : decode (zm_c M) pc = .ok (.ifnonnull off, 3)) (ht : (pc : Int) + off = (tgt : Int)) (kt : ¬ r = 0 → ev E l M D n sh d kc ks tgt L st Q) (kf : r = 0 → ev E l M D n sh d kc ks (pc + 3) L st Q) : ev E l M D n sh d kc ks pc L (zv_a r :: st) Q := by
  intro p e R s m args below meth c H locs cells slots mc ms ls X
  by_cases h : r = 0
  · have e9 : zv_ro E r = none := by unfold zv_ro; rw [if_pos h]
    simp only [List.map_cons, zv_c, e9]
    exact lv_ifnonnullN X.1.1 X.1.2.1 hd (kf h p e R s m args below meth c H locs cells slots mc ms ls X)
  · obtain ⟨a, e9⟩ : ∃ a, zv_ro E r = some a := by unfold zv_ro; rw [if_neg h]; split <;> (first | exact ⟨_, rfl⟩ | (split <;> exact ⟨_, rfl⟩))
    simp only [List.map_cons, zv_c, e9]
    exact lv_ifnonnull X.1.1 X.1.2.1 hd ht (kt h p e R s m args below meth c H locs cells slots mc ms ls X)
theorem zv_ro_inj {r r' : Int} (h : 0 ≤ r) (h' : 0 ≤ r') : zv_ro E r = zv_ro E r' ↔ r = r' := by
  constructor
  · intro q
    unfold zv_ro at q
    by_cases a : r = 0 <;> by_cases b : r' = 0
    · omega
    · rw [if_pos a, if_neg b, if_neg (by omega)] at q; cases q
    · rw [if_neg a, if_pos b, if_neg (by omega)] at q; cases q
    · rw [if_neg a, if_neg b, if_neg (by omega), if_neg (by omega)] at q
      have := Option.some.inj q; omega
  · intro q; rw [q]
theorem ev_acmp_eq {x y off : Int} {tgt : Nat} (hd : decode (zm_c M) pc = .ok (.if_acmp .eq off, 3)) (ht : (pc : Int) + off = (tgt : Int)) (hx : 0 ≤ x) (hy : 0 ≤ y) (kt : x = y → ev E l M D n sh d kc ks tgt L st Q) (kf : ¬ x = y → ev E l M D n sh d kc ks (pc + 3) L st Q) : ev E l M D n sh d kc ks pc L (zv_a y :: zv_a x :: st) Q := by
  intro p e R s m args below meth c H locs cells slots mc ms ls X
  exact lv_acmp_eq X.1.1 X.1.2.1 hd ht (fun q => kt ((zv_ro_inj hx hy).mp q) p e R s m args below meth c H locs cells slots mc ms ls X) (fun q => kf ((not_congr (zv_ro_inj hx hy)).mp q) p e R s m args below meth c H locs cells slots mc ms ls X)
theorem ev_acmp_ne {x y off : Int} {tgt : Nat} (hd : decode (zm_c M) pc = .ok (.if_acmp .ne off, 3)) (ht : (pc : Int) + off = (tgt : Int)) (hx : 0 ≤ x) (hy : 0 ≤ y) (kt : ¬ x = y → ev E l M D n sh d kc ks tgt L st Q) (kf : x = y → ev E l M D n sh d kc ks (pc + 3) L st Q) : ev E l M D n sh d kc ks pc L (zv_a y :: zv_a x :: st) Q := by
  intro p e R s m args below meth c H locs cells slots mc ms ls X
  exact lv_acmp_ne X.1.1 X.1.2.1 hd ht (fun q => kt ((not_congr (zv_ro_inj hx hy)).mp q) p e R s m args below meth c H locs cells slots mc ms ls X) (fun q => kf ((zv_ro_inj hx hy).mp q) p e R s m args below meth c H locs cells slots mc ms ls X)
theorem ev_tableOut {dflt lo hi x : Int} {offs : Array Int} {len tgt : Nat} (hd : decode (zm_c M) pc = .ok (.tableswitch dflt lo hi offs, len)) (hx : zi x) (h : x < lo ∨ hi < x) (ht : (pc : Int) + dflt = (tgt : Int)) (kk : ev E l M D n sh d kc ks tgt L st Q) : ev E l M D n sh d kc ks pc L (zv_i x :: st) Q := by
  intro p e R s m args below meth c H locs cells slots mc ms ls X
  exact lv_tableOut X.1.1 X.1.2.1 hd (by rw [zi_t hx]; exact h) ht (kk p e R s m args below meth c H locs cells slots mc ms ls X)
theorem ev_tableIn {dflt lo hi x off : Int} {offs : Array Int} {len tgt : Nat} (hd : decode (zm_c M) pc = .ok (.tableswitch dflt lo hi offs, len)) (hx : zi x) (h1 : ¬ x < lo) (h2 : ¬ hi < x) (ho : offs[(x - lo).toNat]? = some off) (ht : (pc : Int) + off = (tgt : Int)) (kk : ev E l M D n sh d kc ks tgt L st Q) : ev E l M D n sh d kc ks pc L (zv_i x :: st) Q := by
  intro p e R s m args below meth c H locs cells slots mc ms ls X
  exact lv_tableIn X.1.1 X.1.2.1 hd (by rw [zi_t hx]; exact h1) (by rw [zi_t hx]; exact h2) (by rw [zi_t hx]; exact ho) ht (kk p e R s m args below meth c H locs cells slots mc ms ls X)
end EV4
/-! ===== EV: fields and arrays ===== -/
theorem zv_ro_pos {E : ze_E} {r : Int} (h : 0 < r) : zv_ro E r = some (ze_o E + (r.toNat - 1)) := by
  unfold zv_ro
  rw [if_neg (by omega), if_neg (by omega)]
theorem zv_ro_0 {E : ze_E} : zv_ro E 0 = none := by unfold zv_ro; rw [if_pos rfl]
theorem zm_us {d : zm_D} {r j v : Int} : zm_u d r j v r j = v := by unfold zm_u; rw [if_pos ⟨rfl, rfl⟩]
theorem zm_ur {d : zm_D} {r j v a k : Int} (h : a ≠ r) : zm_u d r j v a k = d a k := by unfold zm_u; rw [if_neg (fun q => h q.1)]
theorem zm_uj {d : zm_D} {r j v a k : Int} (h : k ≠ j) : zm_u d r j v a k = d a k := by unfold zm_u; rw [if_neg (fun q => h q.2)]
theorem zw_at_kept {E : ze_E} {d d' : zm_D} {H H1 : Heap} {r : Nat} {k : zk_K} (h : zw_at E d H r k) (hq : H1[ze_o E + (r - 1)]? = H[ze_o E + (r - 1)]?) (hd : ∀ j, d' r j = d r j) : zw_at E d' H1 r k := by
  rcases k with _ | ci | ⟨ty, N⟩
  · trivial
  · obtain ⟨q, h1, h2⟩ := h
    refine ⟨q, h1, ?_⟩
    simp only [hd]
    exact h2.kept hq
  · obtain ⟨h1, h2⟩ := h
    refine ⟨?_, h2⟩
    simp only [hd]
    exact hq.trans h1
theorem zw_H_set {E : ze_E} {n : Nat} {sh : zk_S} {d d' : zm_D} {H H1 : Heap} {r : Int} (h : zw_H E n sh d H) (h0 : 0 < r) (hz : H1.size = H.size) (oq : ∀ q, q ≠ ze_o E + (r.toNat - 1) → H1[q]? = H[q]?)
    (hd : ∀ a k, a ≠ r → d' a k = d a k) (hn : zw_at E d' H1 r.toNat (sh r)) : zw_H E n sh d' H1 := by
  refine ⟨hz.trans h.1, fun r' hr' => ?_⟩
  by_cases e : (r' : Int) = r
  · subst e
    simpa using hn
  · exact zw_at_kept (h.2 r' hr') (oq _ (by omega)) (fun j => hd _ _ e)
theorem zw_obj {E : ze_E} {n : Nat} {sh : zk_S} {d : zm_D} {H : Heap} {r : Int} {ci : Nat} (h : zw_H E n sh d H) (hr : sh r = some (.inl ci)) (h0 : 0 < r) :
    ∃ q, zk_cl[ci]? = some q ∧ t_OB (ze_o E + (r.toNat - 1)) ((ze_D E).1 ci) q.2.2 ((ze_D E).2 ci) H (fun j => zv_fv E (zk_ty ci j) (d r j)) := by
  have h1 := h.2 r.toNat (by omega)
  have e : ((r.toNat : Nat) : Int) = r := by omega
  rw [e, hr] at h1
  simp only [zw_at, e] at h1
  exact h1
theorem zw_arr {E : ze_E} {n : Nat} {sh : zk_S} {d : zm_D} {H : Heap} {r : Int} {ty : FieldType} {N : Nat} (h : zw_H E n sh d H) (hr : sh r = some (.inr (ty, N))) (h0 : 0 < r) :
    H[ze_o E + (r.toNat - 1)]? = some (arrV (ze_t E ty) N (fun j => zv_fv E ty (d r j))) ∧ ty ∈ zk_aty := by
  have h1 := h.2 r.toNat (by omega)
  have e : ((r.toNat : Nat) : Int) = r := by omega
  rw [e, hr] at h1
  simp only [zw_at, e] at h1
  exact h1
/-- a field's entry: its class, its place, the link -/
def zf_l (M : zm_M) (idx ci j : Nat) : Prop := ∃ q : vw_C, zk_cl[ci]? = some q ∧ j < q.2.2 ∧
  (Cond.fieldLink (zm_o M) idx (q.2.1 j).1 (q.2.1 j).2.1 (q.2.1 j).2.2.1 ∈ lw_g ∨ ∃ host, Cond.fieldLinkNest (zm_o M) idx (q.2.1 j).1 (q.2.1 j).2.1 (q.2.1 j).2.2.1 host ∈ lw_g)
def zf_n (M : zm_M) (ci j : Nat) : Prop := ∃ q : vw_C, zk_cl[ci]? = some q ∧ ((q.2.1 j).2.2.2 = false ∨ ((q.2.1 j).2.2.2 = true ∧ (zm_y M).name = "<init>" ∧ (q.2.1 j).1 = zm_o M))
section EV5
variable {E : ze_E} {l : Launch} {M : zm_M} {D n : Nat} {sh : zk_S} {d : zm_D} {kc ks pc : Nat} {L : zl_L} {st : List zv_V} {Q : ev_Q}
theorem ev_get {idx ci j : Nat} {r : Int} (hd : decode (zm_c M) pc = .ok (.getfield idx, 3)) (hf : zf_l M idx ci j) (hr : sh r = some (.inl ci)) (h0 : 0 < r)
    (kk : ev E l M D n sh d kc ks (pc + 3) L (zv_of (zk_ty ci j) (d r j) :: st) Q) : ev E l M D n sh d kc ks pc L (zv_a r :: st) Q := by
  intro p e R s m args below meth c H locs cells slots mc ms ls X
  obtain ⟨q, hq, hj, hlink⟩ := hf
  obtain ⟨q', hq', cell, q1, q2, q3, q4⟩ := zw_obj X.2.1 hr h0
  cases Option.some.inj (hq.symm.trans hq')
  have hts := X.1.2.2.2.2.2.1
  have hown := X.1.2.2.2.2.1
  obtain ⟨hS, hfc, kC, hkC, hkind⟩ := X.1.2.2.2.2.2.2.2.2.2.1.1 ci _ hq
  obtain ⟨cf, kf, fi, f, hi, hsl⟩ := hS j hj
  have hst := (u_facts hfc hkC (u_lays hts (zc_in ci q hq) hj) hi).1
  have k2 := kk p e R s m args below meth c H locs cells slots mc ms ls X
  simp only [List.map_cons, zv_of_c] at k2 ⊢
  simp only [zv_c, zv_ro_pos h0]
  rcases hlink with hl | ⟨host, hl⟩
  · exact W.getf X.1.1 X.1.2.1 hown (hts _ hl) hi hst q1 (by rw [q3]; exact fun h => by cases h) (v := zv_fv E (zk_ty ci j) (d r j)) (by rw [hsl]; exact q4 j hj) rfl rfl hd k2
  · exact va_Wgetf X.1.1 X.1.2.1 hown (hts _ hl) hi hst q1 (by rw [q3]; exact fun h => by cases h) (v := zv_fv E (zk_ty ci j) (d r j)) (by rw [hsl]; exact q4 j hj) rfl rfl hd k2
theorem ev_put {idx ci j : Nat} {r x : Int} {v : zv_V} (hd : decode (zm_c M) pc = .ok (.putfield idx, 3)) (hf : zf_l M idx ci j) (hfin : zf_n M ci j) (hr : sh r = some (.inl ci)) (h0 : 0 < r) (hv : zv_c E v = zv_fv E (zk_ty ci j) x) (hn : narrow (zk_ty ci j) (zv_fv E (zk_ty ci j) x) = zv_fv E (zk_ty ci j) x) (hfit : fits (zk_ty ci j) (zv_fv E (zk_ty ci j) x) = true)
    (kk : ev E l M D n sh (zm_u d r j x) kc ks (pc + 3) L st Q) : ev E l M D n sh d kc ks pc L (v :: zv_a r :: st) Q := by
  intro p e R s m args below meth c H locs cells slots mc ms ls X
  obtain ⟨q, hq, hj, hlink⟩ := hf
  obtain ⟨q', hq', cell, q1, q2, q3, q4⟩ := zw_obj X.2.1 hr h0
  cases Option.some.inj (hq.symm.trans hq')
  have hts := X.1.2.2.2.2.2.1
  have hown := X.1.2.2.2.2.1
  obtain ⟨hS, hfc, kC, hkC, hkind⟩ := X.1.2.2.2.2.2.2.2.2.2.1.1 ci _ hq
  have hin := zc_in ci q hq
  have hap : ∀ x y, x < q.2.2 → y < q.2.2 → x ≠ y → (ze_D E).2 ci x ≠ (ze_D E).2 ci y := by
    intro x y hx hy hne
    obtain ⟨_, _, _, fa, hia, ea⟩ := hS x hx
    obtain ⟨_, _, _, fb, hib, eb⟩ := hS y hy
    rw [← ea, ← eb]
    refine u_apart (u_lays hts hin hx) (u_lays hts hin hy) hia hib ?_
    rw [(State.fieldFound?_type hia (zc_ty ci q hq x hx)).1, (State.fieldFound?_type hib (zc_ty ci q hq y hy)).1]
    exact zc_nm ci q hq x hx y hy hne
  obtain ⟨cf, kf, fi, f, hi, hsl⟩ := hS j hj
  have hst := (u_facts hfc hkC (u_lays hts hin hj) hi).1
  have hpar := zc_ty ci q hq j hj
  have hlay := hts _ (hin _ (u_in_lay hj))
  unfold u_lay at hlay
  have fin : ∀ (H' : Heap), H'[ze_o E + (r.toNat - 1)]? = some (cell.setSlot f.slot (zv_fv E (zk_ty ci j) x)) → H'.size = H.size → (∀ q, q ≠ ze_o E + (r.toNat - 1) → H'[q]? = H[q]?) →
      W p l e R s m args below meth c H' (locs ++ [⟨ze_o E + (r.toNat - 1), f.slot⟩]) cells slots (vx_MQ below (ev_Qc E Q) (ev_XC E Q) args s mc ms (ze_A E)) (F0 m (pc + 3) ls (st.map (zv_c E))) := by
    intro H' e1 e2 e3
    refine kk p e R s m args below meth c H' _ cells slots mc ms ls ⟨X.1, ?_, X.2.2.1.put e2 e3 (Nat.le_add_right _ _), X.2.2.2⟩
    refine zw_H_set X.2.1 h0 e2 e3 (fun a k ha => zm_ur ha) ?_
    rw [hr]
    have er : ((r.toNat : Nat) : Int) = r := by omega
    refine ⟨q, hq, ?_⟩
    rw [hsl] at e1
    refine ⟨_, e1, q2, q3, fun k hk => ?_⟩
    rw [t_set q4 hap hj _ k hk]
    rw [er]
    by_cases hkj : k = j
    · subst hkj
      simp [updV, zm_us]
    · have e7 : zm_u d r (j : Int) x r (k : Int) = d r (k : Int) := zm_uj (by omega)
      simp [updV, hkj, e7]
  have h6 : fits (zk_ty ci j) (zv_fv E (zk_ty ci j) x) = true := hfit
  simp only [List.map_cons, hv]
  simp only [zv_c, zv_ro_pos h0]
  obtain ⟨q', hq', hfin⟩ := hfin
  cases Option.some.inj (hq.symm.trans hq')
  rcases hfin with hfin | ⟨hfin, hini, hdecl⟩
  · rw [if_neg (by rw [hfin]; decide)] at hlay
    have h6 := u_store hfc hkC hkind hlay hi hpar hn hfit
    rcases hlink with hl | ⟨host, hl⟩
    · exact W.putK X.1.1 X.1.2.1 (f := f) ⟨hown, hts _ hl, ⟨_, _, _, hi⟩, hst⟩ (by rw [q2]; exact h6) q1 q3 (by rw [hsl]; exact k2_hasslot (q4 j hj)) rfl rfl hd fin
    · exact va_WputK X.1.1 X.1.2.1 (f := f) hown (hts _ hl) hi hst (by rw [q2]; exact h6) q1 q3 (by rw [hsl]; exact k2_hasslot (q4 j hj)) rfl rfl hd fin
  · rw [if_pos hfin] at hlay
    have hcf : m.cls = cf := by
      obtain ⟨_, _, c', _, _, _, -, -, hf', -, -, -, hown2, -⟩ := Cond.laysFinal_spec hlay
      have e1 : c' = cf := by have := hi.symm.trans hf'; simp at this; exact this.1.symm
      rw [hdecl] at hown2
      rw [← e1]; exact Option.some.inj (hown.symm.trans hown2)
    have h6 := u_fits hfc hkC hkind (Or.inr hlay) hi hpar hn hfit
    have hname : meth.name = "<init>" := X.1.2.2.2.2.2.2.2.2.1.trans hini
    rcases hlink with hl | ⟨host, hl⟩
    · exact W.putFinK X.1.1 X.1.2.1 hown (hts _ hl) hi hst hcf hname (by rw [q2]; exact h6) q1 q3 (by rw [hsl]; exact k2_hasslot (q4 j hj)) rfl rfl hd fin
    · refine va_Wputf X.1.1 X.1.2.1 hown (hts _ hl) hi hst (Or.inr ⟨hcf, hname⟩) q1 (by rw [q3]; exact fun h => by cases h) (by rw [hsl]; exact k2_hasslot (q4 j hj)) h6.1 (by rw [q3, q2]; exact h6.2) rfl rfl hd ?_
      have ha := (Array.getElem?_eq_some_iff.mp q1).1
      refine fin _ ?_ ?_ ?_
      · simp [Array.getElem?_setIfInBounds, ha]
      · simp
      · intro q hq
        simp [Array.getElem?_setIfInBounds, Ne.symm hq]
end EV5
/-! ===== EV: arrays ===== -/
theorem zi_nat {i : Int} {N : Nat} (h0 : 0 ≤ i) (h1 : i < N) (hN : N ≤ 1000000) : (Int32.ofInt i).toNatClampNeg = i.toNat := by
  have h : zi i := ⟨by omega, by omega⟩
  show (Int32.ofInt i).toInt.toNat = i.toNat
  rw [zi_t h]
theorem zi_idx {i : Int} {N : Nat} (h0 : 0 ≤ i) (h1 : i < N) (hN : N ≤ 1000000) : ¬ (Int32.ofInt i < 0 ∨ N ≤ (Int32.ofInt i).toNatClampNeg) := by
  have h : zi i := ⟨by omega, by omega⟩
  rw [zi_nat h0 h1 hN]
  rintro (q | q)
  · have := (zi_lt h zi_0).mp q
    omega
  · omega
theorem zw_arr_set {E : ze_E} {n : Nat} {sh : zk_S} {d : zm_D} {H H1 : Heap} {r i x : Int} {ty : FieldType} {N : Nat} (h : zw_H E n sh d H) (hr : sh r = some (.inr (ty, N))) (h0 : 0 < r) (hi0 : 0 ≤ i) (hi1 : i < N) (hN : N ≤ 1000000) (hz : H1.size = H.size) (oq : ∀ q, q ≠ ze_o E + (r.toNat - 1) → H1[q]? = H[q]?)
    (e1 : H1[ze_o E + (r.toNat - 1)]? = some ((arrV (ze_t E ty) N (fun j => zv_fv E ty (d r j))).setSlot (Int32.ofInt i).toNatClampNeg (zv_fv E ty x))) : zw_H E n sh (zm_u d r i x) H1 := by
  refine zw_H_set h h0 hz oq (fun a k ha => zm_ur ha) ?_
  rw [hr]
  have er : ((r.toNat : Nat) : Int) = r := by omega
  refine ⟨?_, (zw_arr h hr h0).2⟩
  rw [e1, arrV_store, zi_nat hi0 hi1 hN, er]
  congr 2
  funext j
  by_cases hj : j = i.toNat
  · subst hj
    have e2 : ((i.toNat : Nat) : Int) = i := by omega
    simp [updV, e2, zm_us]
  · have e2 : zm_u d r i x r (j : Int) = d r (j : Int) := zm_uj (by omega)
    simp [updV, hj, e2]
section EV6
variable {E : ze_E} {l : Launch} {M : zm_M} {D n : Nat} {sh : zk_S} {d : zm_D} {kc ks pc : Nat} {L : zl_L} {st : List zv_V} {Q : ev_Q}
theorem ev_iald {r i : Int} {N : Nat} (hd : decode (zm_c M) pc = .ok (.iaload, 1)) (hr : sh r = some (.inr (.int, N))) (h0 : 0 < r) (hN : N ≤ 1000000) (hi0 : 0 ≤ i) (hi1 : i < N)
    (kk : ev E l M D n sh d kc ks (pc + 1) L (zv_i (d r i) :: st) Q) : ev E l M D n sh d kc ks pc L (zv_i i :: zv_a r :: st) Q := by
  intro p e R s m args below meth c H locs cells slots mc ms ls X
  obtain ⟨q1, q2⟩ := zw_arr X.2.1 hr h0
  have hA := (X.1.2.2.2.2.2.2.2.2.2.1.2.1 _ q2).1 N (fun j => zv_fv E .int (d r j))
  have k2 := kk p e R s m args below meth c H locs cells slots mc ms ls X
  simp only [List.map_cons, zv_c] at k2 ⊢
  simp only [zv_ro_pos h0]
  have e2 : ((i.toNat : Nat) : Int) = i := by omega
  exact W.iald (v := zv_fv E .int (d r i)) X.1.1 X.1.2.1 q1 hA (fun q => by cases q) (by rw [arrV_size]; exact zi_idx hi0 hi1 hN) (by rw [zi_nat hi0 hi1 hN, arrV_read _ _ (show i.toNat < N by omega)]; show some (zv_fv E .int (d r ((i.toNat : Nat) : Int))) = _; rw [e2]) rfl rfl hd k2
theorem ev_cald {r i : Int} {N : Nat} (hd : decode (zm_c M) pc = .ok (.caload, 1)) (hr : sh r = some (.inr (.char, N))) (h0 : 0 < r) (hN : N ≤ 1000000) (hi0 : 0 ≤ i) (hi1 : i < N)
    (kk : ev E l M D n sh d kc ks (pc + 1) L (zv_i (d r i) :: st) Q) : ev E l M D n sh d kc ks pc L (zv_i i :: zv_a r :: st) Q := by
  intro p e R s m args below meth c H locs cells slots mc ms ls X
  obtain ⟨q1, q2⟩ := zw_arr X.2.1 hr h0
  have hA := (X.1.2.2.2.2.2.2.2.2.2.1.2.1 _ q2).1 N (fun j => zv_fv E .char (d r j))
  have k2 := kk p e R s m args below meth c H locs cells slots mc ms ls X
  simp only [List.map_cons, zv_c] at k2 ⊢
  simp only [zv_ro_pos h0]
  have e2 : ((i.toNat : Nat) : Int) = i := by omega
  exact W.cald (v := zv_fv E .char (d r i)) X.1.1 X.1.2.1 q1 hA (fun q => by cases q) (by rw [arrV_size]; exact zi_idx hi0 hi1 hN) (by rw [zi_nat hi0 hi1 hN, arrV_read _ _ (show i.toNat < N by omega)]; show some (zv_fv E .char (d r ((i.toNat : Nat) : Int))) = _; rw [e2]) rfl rfl hd k2
theorem ev_zald {r i : Int} {N : Nat} (hd : decode (zm_c M) pc = .ok (.baload, 1)) (hr : sh r = some (.inr (.boolean, N))) (h0 : 0 < r) (hN : N ≤ 1000000) (hi0 : 0 ≤ i) (hi1 : i < N)
    (kk : ev E l M D n sh d kc ks (pc + 1) L (zv_i (d r i) :: st) Q) : ev E l M D n sh d kc ks pc L (zv_i i :: zv_a r :: st) Q := by
  intro p e R s m args below meth c H locs cells slots mc ms ls X
  obtain ⟨q1, q2⟩ := zw_arr X.2.1 hr h0
  have hA := (X.1.2.2.2.2.2.2.2.2.2.1.2.1 _ q2).1 N (fun j => zv_fv E .boolean (d r j))
  have k2 := kk p e R s m args below meth c H locs cells slots mc ms ls X
  simp only [List.map_cons, zv_c] at k2 ⊢
  simp only [zv_ro_pos h0]
  have e2 : ((i.toNat : Nat) : Int) = i := by omega
  exact W.zald (v := zv_fv E .boolean (d r i)) X.1.1 X.1.2.1 q1 hA (fun q => by cases q) (by rw [arrV_size]; exact zi_idx hi0 hi1 hN) (by rw [zi_nat hi0 hi1 hN, arrV_read _ _ (show i.toNat < N by omega)]; show some (zv_fv E .boolean (d r ((i.toNat : Nat) : Int))) = _; rw [e2]) rfl rfl hd k2
theorem ev_lald {r i : Int} {N : Nat} (hd : decode (zm_c M) pc = .ok (.laload, 1)) (hr : sh r = some (.inr (.long, N))) (h0 : 0 < r) (hN : N ≤ 1000000) (hi0 : 0 ≤ i) (hi1 : i < N)
    (kk : ev E l M D n sh d kc ks (pc + 1) L (zv_l (d r i) :: st) Q) : ev E l M D n sh d kc ks pc L (zv_i i :: zv_a r :: st) Q := by
  intro p e R s m args below meth c H locs cells slots mc ms ls X
  obtain ⟨q1, q2⟩ := zw_arr X.2.1 hr h0
  have hA := (X.1.2.2.2.2.2.2.2.2.2.1.2.1 _ q2).1 N (fun j => zv_fv E .long (d r j))
  have k2 := kk p e R s m args below meth c H locs cells slots mc ms ls X
  simp only [List.map_cons, zv_c] at k2 ⊢
  simp only [zv_ro_pos h0]
  have e2 : ((i.toNat : Nat) : Int) = i := by omega
  exact W.lald (v := zv_fv E .long (d r i)) X.1.1 X.1.2.1 q1 hA (fun q => by cases q) (by rw [arrV_size]; exact zi_idx hi0 hi1 hN) (by rw [zi_nat hi0 hi1 hN, arrV_read _ _ (show i.toNat < N by omega)]; show some (zv_fv E .long (d r ((i.toNat : Nat) : Int))) = _; rw [e2]) rfl rfl hd k2
theorem ev_dald {r i : Int} {N : Nat} (hd : decode (zm_c M) pc = .ok (.daload, 1)) (hr : sh r = some (.inr (.double, N))) (h0 : 0 < r) (hN : N ≤ 1000000) (hi0 : 0 ≤ i) (hi1 : i < N)
    (kk : ev E l M D n sh d kc ks (pc + 1) L (zv_d (UInt64.ofNat (d r i).toNat) :: st) Q) : ev E l M D n sh d kc ks pc L (zv_i i :: zv_a r :: st) Q := by
  intro p e R s m args below meth c H locs cells slots mc ms ls X
  obtain ⟨q1, q2⟩ := zw_arr X.2.1 hr h0
  have hA := (X.1.2.2.2.2.2.2.2.2.2.1.2.1 _ q2).1 N (fun j => zv_fv E .double (d r j))
  have k2 := kk p e R s m args below meth c H locs cells slots mc ms ls X
  simp only [List.map_cons, zv_c] at k2 ⊢
  simp only [zv_ro_pos h0]
  have e2 : ((i.toNat : Nat) : Int) = i := by omega
  exact W.dald (v := zv_fv E .double (d r i)) X.1.1 X.1.2.1 q1 hA (fun q => by cases q) (by rw [arrV_size]; exact zi_idx hi0 hi1 hN) (by rw [zi_nat hi0 hi1 hN, arrV_read _ _ (show i.toNat < N by omega)]; show some (zv_fv E .double (d r ((i.toNat : Nat) : Int))) = _; rw [e2]) rfl rfl hd k2
theorem ev_aald {r i : Int} {N : Nat} {ty : FieldType} (hd : decode (zm_c M) pc = .ok (.aaload, 1)) (hr : sh r = some (.inr (ty, N))) (h0 : 0 < r) (hty : ty.isReference = true) (hN : N ≤ 1000000) (hi0 : 0 ≤ i) (hi1 : i < N)
    (kk : ev E l M D n sh d kc ks (pc + 1) L (zv_a (d r i) :: st) Q) : ev E l M D n sh d kc ks pc L (zv_i i :: zv_a r :: st) Q := by
  intro p e R s m args below meth c H locs cells slots mc ms ls X
  obtain ⟨q1, q2⟩ := zw_arr X.2.1 hr h0
  have hA := (X.1.2.2.2.2.2.2.2.2.2.1.2.1 _ q2).1 N (fun j => zv_fv E ty (d r j))
  have k2 := kk p e R s m args below meth c H locs cells slots mc ms ls X
  simp only [List.map_cons, zv_c] at k2 ⊢
  simp only [zv_ro_pos h0]
  have e2 : ((i.toNat : Nat) : Int) = i := by omega
  have e3 : zv_fv E ty (d r i) = va_rf (zv_ro E (d r i)) := by cases ty <;> first | rfl | cases hty
  exact W.aald (v := va_rf (zv_ro E (d r i))) X.1.1 X.1.2.1 q1 hA hty (fun q => by cases q) (by rw [arrV_size]; exact zi_idx hi0 hi1 hN) (by rw [zi_nat hi0 hi1 hN, arrV_read _ _ (show i.toNat < N by omega)]; show some (zv_fv E ty (d r ((i.toNat : Nat) : Int))) = _; rw [e2, e3]) rfl rfl hd k2
theorem zn_z {x : Int} (h : x = 0 ∨ x = 1) : narrow .boolean (.int (Int32.ofInt x)) = .int (Int32.ofInt x) := by rcases h with rfl | rfl <;> decide +kernel
theorem zn_c {x : Int} (h : 0 ≤ x ∧ x < 65536) : narrow .char (.int (Int32.ofInt x)) = .int (Int32.ofInt x) := by
  obtain ⟨k, rfl⟩ : ∃ k : Nat, x = k := ⟨x.toNat, by omega⟩
  exact (pk_charN (q := k) (by omega)).1
theorem ev_iast {r i : Int} {x : Int} {N : Nat} (hd : decode (zm_c M) pc = .ok (.iastore, 1)) (hr : sh r = some (.inr (.int, N))) (h0 : 0 < r) (hN : N ≤ 1000000) (hi0 : 0 ≤ i) (hi1 : i < N) 
    (kk : ev E l M D n sh (zm_u d r i x) kc ks (pc + 1) L st Q) : ev E l M D n sh d kc ks pc L (zv_i x :: zv_i i :: zv_a r :: st) Q := by
  intro p e R s m args below meth c H locs cells slots mc ms ls X
  obtain ⟨q1, q2⟩ := zw_arr X.2.1 hr h0
  have hA := (X.1.2.2.2.2.2.2.2.2.2.1.2.1 _ q2).1 N (fun j => zv_fv E .int (d r j))
  simp only [List.map_cons, zv_c]
  simp only [zv_ro_pos h0]
  refine W.iast X.1.1 X.1.2.1 q1 hA (fun q => by cases q) (by rw [arrV_size]; exact zi_idx hi0 hi1 hN) rfl rfl hd fun H1 e1 z oq => ?_
  exact kk p e R s m args below meth c H1 _ cells slots mc ms ls ⟨X.1, zw_arr_set X.2.1 hr h0 hi0 hi1 hN z oq e1, X.2.2.1.put z oq (Nat.le_add_right _ _), X.2.2.2⟩
theorem ev_last {r i : Int} {x : Int} {N : Nat} (hd : decode (zm_c M) pc = .ok (.lastore, 1)) (hr : sh r = some (.inr (.long, N))) (h0 : 0 < r) (hN : N ≤ 1000000) (hi0 : 0 ≤ i) (hi1 : i < N) 
    (kk : ev E l M D n sh (zm_u d r i x) kc ks (pc + 1) L st Q) : ev E l M D n sh d kc ks pc L (zv_l x :: zv_i i :: zv_a r :: st) Q := by
  intro p e R s m args below meth c H locs cells slots mc ms ls X
  obtain ⟨q1, q2⟩ := zw_arr X.2.1 hr h0
  have hA := (X.1.2.2.2.2.2.2.2.2.2.1.2.1 _ q2).1 N (fun j => zv_fv E .long (d r j))
  simp only [List.map_cons, zv_c]
  simp only [zv_ro_pos h0]
  refine W.last X.1.1 X.1.2.1 q1 hA (fun q => by cases q) (by rw [arrV_size]; exact zi_idx hi0 hi1 hN) rfl rfl hd fun H1 e1 z oq => ?_
  exact kk p e R s m args below meth c H1 _ cells slots mc ms ls ⟨X.1, zw_arr_set X.2.1 hr h0 hi0 hi1 hN z oq e1, X.2.2.1.put z oq (Nat.le_add_right _ _), X.2.2.2⟩
theorem ev_dast {r i : Int} {x : UInt64} {N : Nat} (hd : decode (zm_c M) pc = .ok (.dastore, 1)) (hr : sh r = some (.inr (.double, N))) (h0 : 0 < r) (hN : N ≤ 1000000) (hi0 : 0 ≤ i) (hi1 : i < N) 
    (kk : ev E l M D n sh (zm_u d r i x.toNat) kc ks (pc + 1) L st Q) : ev E l M D n sh d kc ks pc L (zv_d x :: zv_i i :: zv_a r :: st) Q := by
  intro p e R s m args below meth c H locs cells slots mc ms ls X
  obtain ⟨q1, q2⟩ := zw_arr X.2.1 hr h0
  have hA := (X.1.2.2.2.2.2.2.2.2.2.1.2.1 _ q2).1 N (fun j => zv_fv E .double (d r j))
  simp only [List.map_cons, zv_c]
  simp only [zv_ro_pos h0]
  refine W.dast X.1.1 X.1.2.1 q1 hA (fun q => by cases q) (by rw [arrV_size]; exact zi_idx hi0 hi1 hN) rfl rfl hd fun H1 e1 z oq => ?_
  exact kk p e R s m args below meth c H1 _ cells slots mc ms ls ⟨X.1, zw_arr_set X.2.1 hr h0 hi0 hi1 hN z oq (by rw [e1]; show some (Cell.setSlot _ _ _) = some (Cell.setSlot _ _ (.double (UInt64.ofNat ((x.toNat : Nat) : Int).toNat))); rw [Int.toNat_natCast, UInt64.ofNat_toNat]), X.2.2.1.put z oq (Nat.le_add_right _ _), X.2.2.2⟩
theorem ev_zast {r i : Int} {x : Int} {N : Nat} (hd : decode (zm_c M) pc = .ok (.bastore, 1)) (hr : sh r = some (.inr (.boolean, N))) (h0 : 0 < r) (hN : N ≤ 1000000) (hi0 : 0 ≤ i) (hi1 : i < N) (hx : x = 0 ∨ x = 1) 
    (kk : ev E l M D n sh (zm_u d r i x) kc ks (pc + 1) L st Q) : ev E l M D n sh d kc ks pc L (zv_i x :: zv_i i :: zv_a r :: st) Q := by
  intro p e R s m args below meth c H locs cells slots mc ms ls X
  obtain ⟨q1, q2⟩ := zw_arr X.2.1 hr h0
  have hA := (X.1.2.2.2.2.2.2.2.2.2.1.2.1 _ q2).1 N (fun j => zv_fv E .boolean (d r j))
  simp only [List.map_cons, zv_c]
  simp only [zv_ro_pos h0]
  refine W.zast X.1.1 X.1.2.1 q1 hA (fun q => by cases q) (by rw [arrV_size]; exact zi_idx hi0 hi1 hN) rfl rfl hd fun H1 e1 z oq => ?_
  rw [zn_z hx] at e1
  exact kk p e R s m args below meth c H1 _ cells slots mc ms ls ⟨X.1, zw_arr_set X.2.1 hr h0 hi0 hi1 hN z oq e1, X.2.2.1.put z oq (Nat.le_add_right _ _), X.2.2.2⟩
theorem ev_cast {r i : Int} {x : Int} {N : Nat} (hd : decode (zm_c M) pc = .ok (.castore, 1)) (hr : sh r = some (.inr (.char, N))) (h0 : 0 < r) (hN : N ≤ 1000000) (hi0 : 0 ≤ i) (hi1 : i < N) (hx : 0 ≤ x ∧ x < 65536) 
    (kk : ev E l M D n sh (zm_u d r i x) kc ks (pc + 1) L st Q) : ev E l M D n sh d kc ks pc L (zv_i x :: zv_i i :: zv_a r :: st) Q := by
  intro p e R s m args below meth c H locs cells slots mc ms ls X
  obtain ⟨q1, q2⟩ := zw_arr X.2.1 hr h0
  have hA := (X.1.2.2.2.2.2.2.2.2.2.1.2.1 _ q2).1 N (fun j => zv_fv E .char (d r j))
  simp only [List.map_cons, zv_c]
  simp only [zv_ro_pos h0]
  refine W.cast X.1.1 X.1.2.1 q1 hA (fun q => by cases q) (by rw [arrV_size]; exact zi_idx hi0 hi1 hN) rfl rfl hd fun H1 e1 z oq => ?_
  rw [zn_c hx] at e1
  exact kk p e R s m args below meth c H1 _ cells slots mc ms ls ⟨X.1, zw_arr_set X.2.1 hr h0 hi0 hi1 hN z oq e1, X.2.2.1.put z oq (Nat.le_add_right _ _), X.2.2.2⟩
theorem ev_aast {r i v : Int} {N ci : Nat} {q : vw_C} (hd : decode (zm_c M) pc = .ok (.aastore, 1)) (hr : sh r = some (.inr (.object q.1, N))) (h0 : 0 < r) (hN : N ≤ 1000000) (hi0 : 0 ≤ i) (hi1 : i < N) (hv : sh v = some (.inl ci)) (hv0 : 0 < v) (hc : zk_cl[ci]? = some q)
    (kk : ev E l M D n sh (zm_u d r i v) kc ks (pc + 1) L st Q) : ev E l M D n sh d kc ks pc L (zv_a v :: zv_i i :: zv_a r :: st) Q := by
  intro p e R s m args below meth c H locs cells slots mc ms ls X
  obtain ⟨q1, q2⟩ := zw_arr X.2.1 hr h0
  obtain ⟨q', hq', cell, g1, g2, g3, -⟩ := zw_obj X.2.1 hv hv0
  cases Option.some.inj (hc.symm.trans hq')
  have hcls := (X.1.2.2.2.2.2.2.2.2.2.1.1 ci q hc).2
  obtain ⟨kA, comp, k1, k2, k3, -⟩ := (X.1.2.2.2.2.2.2.2.2.2.1.2.1 _ q2).2
  have hcomp : comp = (ze_D E).1 ci := Option.some.inj (k3.symm.trans hcls.1)
  subst hcomp
  obtain ⟨kC, hkC, -⟩ := hcls.2
  simp only [List.map_cons, zv_c]
  simp only [zv_ro_pos h0, zv_ro_pos hv0]
  refine W.aast X.1.1 X.1.2.1 q1 (fun q h => by cases h) (fun h => by cases h) k1 k2 rfl hkC ⟨fun q9 => zi_idx hi0 hi1 hN (Or.inl q9), by rw [arrV_size]; exact Nat.not_le.mp fun q9 => zi_idx hi0 hi1 hN (Or.inr q9)⟩ g1 (fun q h => by rw [g3] at h; cases h) (by rw [g2]; exact hkC) (by rw [g2]; exact va_assign hcls) rfl rfl hd fun H1 e1 z oq => ?_
  refine kk p e R s m args below meth c H1 _ cells slots mc ms ls ⟨X.1, zw_arr_set X.2.1 hr h0 hi0 hi1 hN z oq ?_, X.2.2.1.put z oq (Nat.le_add_right _ _), X.2.2.2⟩
  rw [e1]
  show _ = some (Cell.setSlot _ _ (va_rf (zv_ro E v)))
  rw [zv_ro_pos hv0]
  rfl
theorem ev_aastN {r i : Int} {N : Nat} {C : String} (hd : decode (zm_c M) pc = .ok (.aastore, 1)) (hr : sh r = some (.inr (.object C, N))) (h0 : 0 < r) (hN : N ≤ 1000000) (hi0 : 0 ≤ i) (hi1 : i < N)
    (kk : ev E l M D n sh (zm_u d r i 0) kc ks (pc + 1) L st Q) : ev E l M D n sh d kc ks pc L (zv_a 0 :: zv_i i :: zv_a r :: st) Q := by
  intro p e R s m args below meth c H locs cells slots mc ms ls X
  obtain ⟨q1, q2⟩ := zw_arr X.2.1 hr h0
  have hA := (X.1.2.2.2.2.2.2.2.2.2.1.2.1 _ q2).1 N (fun j => zv_fv E (.object C) (d r j))
  simp only [List.map_cons, zv_c]
  simp only [zv_ro_pos h0, zv_ro_0]
  refine va_WaastN X.1.1 X.1.2.1 q1 hA (fun q => by cases q) (by rw [arrV_size]; exact zi_idx hi0 hi1 hN) rfl rfl hd fun H1 e1 z oq => ?_
  refine kk p e R s m args below meth c H1 _ cells slots mc ms ls ⟨X.1, zw_arr_set X.2.1 hr h0 hi0 hi1 hN z oq ?_, X.2.2.1.put z oq (Nat.le_add_right _ _), X.2.2.2⟩
  rw [e1]
  show _ = some (Cell.setSlot _ _ (va_rf (zv_ro E 0)))
  rw [zv_ro_0]
  rfl
theorem ev_alen {r : Int} {N : Nat} {ty : FieldType} (hd : decode (zm_c M) pc = .ok (.arraylength, 1)) (hr : sh r = some (.inr (ty, N))) (h0 : 0 < r)
    (kk : ev E l M D n sh d kc ks (pc + 1) L (zv_i (N : Int) :: st) Q) : ev E l M D n sh d kc ks pc L (zv_a r :: st) Q := by
  intro p e R s m args below meth c H locs cells slots mc ms ls X
  obtain ⟨q1, q2⟩ := zw_arr X.2.1 hr h0
  have hA := (X.1.2.2.2.2.2.2.2.2.2.1.2.1 _ q2).1 N (fun j => zv_fv E ty (d r j))
  have k2 := kk p e R s m args below meth c H locs cells slots mc ms ls X
  simp only [List.map_cons, zv_c] at k2 ⊢
  simp only [zv_ro_pos h0]
  exact W.alen (n := Int32.ofInt (N : Int)) X.1.1 X.1.2.1 q1 hA (by rw [arrV_size] <;> rfl) rfl rfl hd k2
/-- the script itself, as the object -1 -/
theorem zv_ro_m : zv_ro E (-1) = some (ze_b E) := by unfold zv_ro; rw [if_neg (by omega), if_pos (by omega), if_pos rfl]
theorem ev_slen (hd : decode (zm_c M) pc = .ok (.arraylength, 1)) (kk : ev E l M D n sh d kc ks (pc + 1) L (zv_i (ze_L E : Int) :: st) Q) : ev E l M D n sh d kc ks pc L (zv_a (-1) :: st) Q := by
  intro p e R s m args below meth c H locs cells slots mc ms ls X
  have k2 := kk p e R s m args below meth c H locs cells slots mc ms ls X
  simp only [List.map_cons, zv_c] at k2 ⊢
  simp only [zv_ro_m]
  obtain ⟨hX, hb1, hb2, -⟩ := X.1.2.2.2.2.2.2.2.2.2.2
  exact va_slen X.1.1 X.1.2.1 hX (Nat.lt_of_lt_of_le hb1 hb2) (Nat.not_le.mpr hb1) X.2.2.1 hd k2
theorem ev_sald {i : Int} (hd : decode (zm_c M) pc = .ok (.iaload, 1)) (hN : ze_L E ≤ 1000000) (hi0 : 0 ≤ i) (hi1 : i < ze_L E) (kk : ev E l M D n sh d kc ks (pc + 1) L (zv_i (ze_x E i.toNat).toInt :: st) Q) : ev E l M D n sh d kc ks pc L (zv_i i :: zv_a (-1) :: st) Q := by
  intro p e R s m args below meth c H locs cells slots mc ms ls X
  have k2 := kk p e R s m args below meth c H locs cells slots mc ms ls X
  simp only [List.map_cons, zv_c, zi_ofInt] at k2 ⊢
  simp only [zv_ro_m]
  obtain ⟨hX, hb1, hb2, -⟩ := X.1.2.2.2.2.2.2.2.2.2.2
  refine va_sld X.1.1 X.1.2.1 hX (Nat.lt_of_lt_of_le hb1 hb2) (Nat.not_le.mpr hb1) X.2.2.1 (zi_idx hi0 hi1 hN) hd ?_
  rw [zi_nat hi0 hi1 hN]
  exact k2
end EV6
/-! ===== EV: ends, throws, new things. vx_throwS9 and vx_throwSW9 are vx_throwS and vx_throwSW of kit/laws/EXCEPTIONS with the size of the heap told exactly ===== -/
section VX9
variable {p : Program} {l : Launch} {e : Env} {R : Room} {s : State} {m : MethodId} {args : Array Value} {below : List Frame} {meth : Method} {c : Code} {H : Heap} {locs : List Loc} {cells slots : Nat} {Q : State → Prop}
variable {mc ms : Nat} {free : Addr → Prop} {A0 A1 : Nat → Prop} {H0 : Heap} {a : Array Value} {ls : Array Slot} {st0 rest : List Value}
variable {Qc : Array Value → State → Outcome → State → Prop} {XC : String → State → State → Prop}
theorem vx_throwS9 {cc : ByteArray} {pc : Nat} (hexec : p.tables.exec = Jvm.exec) (hb : c.code = cc) (hl : l.stackTraces = false) {own cls text : String} {names : List String} {ik is ic mc ms sa : Nat} {A : Nat → Prop}
    (hown : s.vm.findClass own = some m.cls) (hcls : Bundle.fit cls = true) (hnames : ∀ n ∈ names, Bundle.fit n = true)
    (hk : (Cond.classLink own ik cls).before args s = true) (hini : (Cond.initialized cls).before args s = true) (hstr : vk_R own is text sa s) (hat : ∀ w ∈ vx_atS own ic cls names, w.before args s = true)
    (hgood : ∀ w ∈ Cond.classLink own ik cls :: Cond.initialized cls :: vx_atS own ic cls names, vx_ot w = true)
    (hU : vx_Zq Bundle.tN "UNASSIGNED_STACK" Bundle.steD A s s.heap) (hN : vx_Zq Bundle.tN "SUPPRESSED_SENTINEL" Bundle.listD A s s.heap) (hS : va_S A s.heap H locs) (hsize : ls.size = c.maxLocals)
    (d0 : decode cc pc = .ok (.new ik, 3)) (d3 : decode cc (pc + 3) = .ok (.dup, 1)) (d4 : decode cc (pc + 4) = .ok (.ldc is, 2)) (d6 : decode cc (pc + 6) = .ok (.invokespecial ic, 3)) (d9 : decode cc (pc + 9) = .ok (.athrow, 1))
    (hout : ∀ x ∈ c.exceptionTable.toList, covers x (pc + 9) = false)
    (hRframes : names.length + 3 < R.frames) (hRlocals : (rest.map fun v => v.category).sum + (13 * (names.length + 1) + 43) ≤ R.locals) (hRcells : cells + 1 ≤ R.cells) (hRslots : slots + 6 ≤ R.slots) (hlocks : meth.locks = false)
    (hx : ∀ t : State, s.vm.Alike t.vm → t.heap.size = H.size + 1 → (∀ q : Nat, q < H.size → t.heap[q]? = H[q]?) → XC cls s t)
    (hf : ∀ z ∈ locs, free z.base) (hc : cells + 1 ≤ mc) (hs : slots + 6 ≤ ms) :
    W p l e R s m args below meth c H locs cells slots (vx_MQ below Qc XC args s mc ms free) (F0 m pc ls rest) := by
  intro T hT X
  have htr : e.platform.stackTraces = false := (show e.platform.stackTraces = l.stackTraces by rw [X.admits.platform]).trans hl
  have Y := vx_rebase X (R' := { frames := R.frames, locals := R.locals, cells := 1, slots := 6 }) (Nat.le_refl _) (Nat.le_refl _) hRcells hRslots
  obtain ⟨s', hA⟩ : ∃ z, z = (T.setVm s.vm).setFrames (.invoking m args :: below) := ⟨_, rfl⟩
  rw [← hA] at Y
  have hvm : s'.vm = s.vm := by rw [hA]; rfl
  have hhp : s'.heap = H := by rw [hA]; exact hT
  have hW0 : s.WarmedH s'.vm := by rw [hvm]; exact State.WarmedH.refl s
  have hat' : ∀ w ∈ vx_atS own ic cls names, w.before args s' = true := fun w hw => vx_ot_at hW0 hvm.symm (hgood w (List.mem_cons_of_mem _ (List.mem_cons_of_mem _ hw))) (hat w hw)
  have hk' : (Cond.classLink own ik cls).before args s' = true := vx_ot_at hW0 hvm.symm (hgood _ List.mem_cons_self) hk
  have hini' : (Cond.initialized cls).before args s' = true := vx_ot_at hW0 hvm.symm (hgood _ (List.mem_cons_of_mem _ List.mem_cons_self)) hini
  have hU' : vx_Zq Bundle.tN "UNASSIGNED_STACK" Bundle.steD A s' s'.heap := by rw [hhp]; exact vx_Zq.moved hW0.alike (hU.kept hS.2.1)
  have hN' : vx_Zq Bundle.tN "SUPPRESSED_SENTINEL" Bundle.listD A s' s'.heap := by rw [hhp]; exact vx_Zq.moved hW0.alike (hN.kept hS.2.1)
  have h : ∀ w ∈ Bundle.ownAtoms own ic cls names, w.before args s' = true := vx_own hat' (vx_isRefq hU'.1) (vx_isRefq hN'.1) hU'.2.word hN'.2.word
  have hown' : s'.vm.findClass own = some m.cls := by rw [hvm]; exact hown
  have hins : (Cond.instantiable cls 6).before args s' = true := h _ (by simp [Bundle.ownAtoms])
  obtain ⟨vm₁, cX, kX, hfX, hkX, -, -, X₁, st1⟩ := Y.newCold hexec (own := own) (C := cls) (index := ik) (n := 6) hown' hk' hins hini'
    (g := F0 m pc ls rest) rfl (by rw [hb]; exact d0) (Nat.le_refl _) (Nat.le_refl _)
  generalize hT1 : (T.setVm vm₁).pushCell { cls := cX, slots := kX.instanceTypes.map defaultValue, vm := .none } = T1 at X₁ st1
  have hcat : (Value.ref T.heap.size).category = 1 := rfl
  have hcellA : T1.heap[T.heap.size]? = some (freshCell cX kX) := by rw [← hT1]; exact State.heap_pushCell_size _ _
  have d3' : decode c.code (pc + 3) = .ok (.dup, 1) := by rw [hb]; exact d3
  have d4' : decode c.code (pc + 4) = .ok (.ldc is, 2) := by rw [hb]; exact d4
  have hstr' : vk_R own is text sa s' := vk_R.warm hW0 hstr
  obtain ⟨U, hsteps, hrun, hend, hW, hsame, ce, hce, hO⟩ := X₁.ctorThrowS hexec htr (own := own) (cls := cls) (names := names) (ic := ic) hown' hcls hnames h (fun x hx => nomatch hx) hfX hkX hcellA (by rw [hhp, hT]; exact Nat.le_refl _) (msg := .ref sa) rfl
    (g := { method := m, pc := pc + 6, locals := ls, stack := .ref sa :: .ref T.heap.size :: .ref T.heap.size :: rest, locked := none }) rfl hsize rfl rfl (rest := rest) rfl
    (by rw [hb]; exact d6) (by rw [hb]; exact d9) hout hRframes (by simp only [List.map_cons, List.sum_cons, hcat]; omega) hlocks
  obtain ⟨f1, f2⟩ := vx_frame hsame
  rw [hhp] at f1 f2
  have f9 : U.heap.size = H.size + 1 := by
    have g1 : U.heap.size ≤ s'.heap.size + 1 := hsame.2.2.1
    have g2 := (Array.getElem?_eq_some_iff.mp hce).1
    rw [hhp] at g1
    rw [hT] at g2
    omega
  have hWs : s.WarmedH U.vm := State.WarmedH.trans hW0 hW
  have hcl : s.vm.findClass cls = some ce.cls := by
    have h9 := hO.cls
    rw [hvm] at h9
    exact h9
  have hall : s.sameButNew ({ U with vm := s.vm } : State) locs mc ms := by
    subst hA
    obtain ⟨e1, e2⟩ := hsame
    rw [State.setFrames_setFrames] at e1
    have h2 : (T.setVm s.vm).sameButNew ({ U with vm := s.vm } : State) [] (0 + 1) (0 + 6) := ⟨e1, e2⟩
    have h3 := X.same.trans h2
    rw [List.append_nil] at h3
    exact h3.mono hc hs
  refine ⟨U, ?_, .threw T.heap.size, hrun, hend, Or.inr ⟨T.heap.size, rfl, cls, ce, locs, hx U hWs.alike f9 (fun q hq => f2 q hq (fun z hz => nomatch hz)), hce, hO.vm, hcl, hWs, hall, hf⟩⟩
  refine st1 _ ?_
  show Steps p.tables e below (T1.setTop { method := m, pc := pc + 3, locals := ls, stack := .ref T.heap.size :: rest, locked := none }) _
  jvm_step X₁.here [X₁.here.top, hexec, d3', Value.category]
  exact X₁.ldcString hexec (own := own) (text := text) (index := is) (a := sa) hown' hstr'.1 hstr'.2
    (g := { method := m, pc := pc + 4, locals := ls, stack := .ref T.heap.size :: .ref T.heap.size :: rest, locked := none }) rfl d4' _ hsteps
theorem vx_throwSW9 {cc : ByteArray} {pc : Nat} (hexec : p.tables.exec = Jvm.exec) (hb : c.code = cc) (hl : l.stackTraces = false) {own cls text : String} {names : List String} {ik is ic mc ms sa : Nat} {A : Nat → Prop}
    (hown : s.vm.findClass own = some m.cls) (hcls : Bundle.fit cls = true) (hnames : ∀ n ∈ names, Bundle.fit n = true)
    (hk : (Cond.classLink own ik cls).before args s = true) (hini : (Cond.initialized cls).before args s = true) (hstr : vk_R own is text sa s) (hat : ∀ w ∈ vx_atS own ic cls names, w.before args s = true)
    (hgood : ∀ w ∈ Cond.classLink own ik cls :: Cond.initialized cls :: vx_atS own ic cls names, vx_ot w = true)
    (hU : vx_Zq Bundle.tN "UNASSIGNED_STACK" Bundle.steD A s s.heap) (hN : vx_Zq Bundle.tN "SUPPRESSED_SENTINEL" Bundle.listD A s s.heap) (hS : va_S A s.heap H locs) (hsize : ls.size = c.maxLocals)
    (d0 : decode cc pc = .ok (.new ik, 3)) (d3 : decode cc (pc + 3) = .ok (.dup, 1)) (d4 : decode cc (pc + 4) = .ok (.ldc_w is, 3)) (d7 : decode cc (pc + 7) = .ok (.invokespecial ic, 3)) (d10 : decode cc (pc + 10) = .ok (.athrow, 1))
    (hout : ∀ x ∈ c.exceptionTable.toList, covers x (pc + 10) = false)
    (hRframes : names.length + 3 < R.frames) (hRlocals : (rest.map fun v => v.category).sum + (13 * (names.length + 1) + 43) ≤ R.locals) (hRcells : cells + 1 ≤ R.cells) (hRslots : slots + 6 ≤ R.slots) (hlocks : meth.locks = false)
    (hx : ∀ t : State, s.vm.Alike t.vm → t.heap.size = H.size + 1 → (∀ q : Nat, q < H.size → t.heap[q]? = H[q]?) → XC cls s t)
    (hf : ∀ z ∈ locs, free z.base) (hc : cells + 1 ≤ mc) (hs : slots + 6 ≤ ms) :
    W p l e R s m args below meth c H locs cells slots (vx_MQ below Qc XC args s mc ms free) (F0 m pc ls rest) := by
  intro T hT X
  have htr : e.platform.stackTraces = false := (show e.platform.stackTraces = l.stackTraces by rw [X.admits.platform]).trans hl
  have Y := vx_rebase X (R' := { frames := R.frames, locals := R.locals, cells := 1, slots := 6 }) (Nat.le_refl _) (Nat.le_refl _) hRcells hRslots
  obtain ⟨s', hA⟩ : ∃ z, z = (T.setVm s.vm).setFrames (.invoking m args :: below) := ⟨_, rfl⟩
  rw [← hA] at Y
  have hvm : s'.vm = s.vm := by rw [hA]; rfl
  have hhp : s'.heap = H := by rw [hA]; exact hT
  have hW0 : s.WarmedH s'.vm := by rw [hvm]; exact State.WarmedH.refl s
  have hat' : ∀ w ∈ vx_atS own ic cls names, w.before args s' = true := fun w hw => vx_ot_at hW0 hvm.symm (hgood w (List.mem_cons_of_mem _ (List.mem_cons_of_mem _ hw))) (hat w hw)
  have hk' : (Cond.classLink own ik cls).before args s' = true := vx_ot_at hW0 hvm.symm (hgood _ List.mem_cons_self) hk
  have hini' : (Cond.initialized cls).before args s' = true := vx_ot_at hW0 hvm.symm (hgood _ (List.mem_cons_of_mem _ List.mem_cons_self)) hini
  have hU' : vx_Zq Bundle.tN "UNASSIGNED_STACK" Bundle.steD A s' s'.heap := by rw [hhp]; exact vx_Zq.moved hW0.alike (hU.kept hS.2.1)
  have hN' : vx_Zq Bundle.tN "SUPPRESSED_SENTINEL" Bundle.listD A s' s'.heap := by rw [hhp]; exact vx_Zq.moved hW0.alike (hN.kept hS.2.1)
  have h : ∀ w ∈ Bundle.ownAtoms own ic cls names, w.before args s' = true := vx_own hat' (vx_isRefq hU'.1) (vx_isRefq hN'.1) hU'.2.word hN'.2.word
  have hown' : s'.vm.findClass own = some m.cls := by rw [hvm]; exact hown
  have hins : (Cond.instantiable cls 6).before args s' = true := h _ (by simp [Bundle.ownAtoms])
  obtain ⟨vm₁, cX, kX, hfX, hkX, -, -, X₁, st1⟩ := Y.newCold hexec (own := own) (C := cls) (index := ik) (n := 6) hown' hk' hins hini'
    (g := F0 m pc ls rest) rfl (by rw [hb]; exact d0) (Nat.le_refl _) (Nat.le_refl _)
  generalize hT1 : (T.setVm vm₁).pushCell { cls := cX, slots := kX.instanceTypes.map defaultValue, vm := .none } = T1 at X₁ st1
  have hcat : (Value.ref T.heap.size).category = 1 := rfl
  have hcellA : T1.heap[T.heap.size]? = some (freshCell cX kX) := by rw [← hT1]; exact State.heap_pushCell_size _ _
  have d3' : decode c.code (pc + 3) = .ok (.dup, 1) := by rw [hb]; exact d3
  have d4' : decode c.code (pc + 4) = .ok (.ldc_w is, 3) := by rw [hb]; exact d4
  have hstr' : vk_R own is text sa s' := vk_R.warm hW0 hstr
  obtain ⟨U, hsteps, hrun, hend, hW, hsame, ce, hce, hO⟩ := X₁.ctorThrowS hexec htr (own := own) (cls := cls) (names := names) (ic := ic) hown' hcls hnames h (fun x hx => nomatch hx) hfX hkX hcellA (by rw [hhp, hT]; exact Nat.le_refl _) (msg := .ref sa) rfl
    (g := { method := m, pc := pc + 7, locals := ls, stack := .ref sa :: .ref T.heap.size :: .ref T.heap.size :: rest, locked := none }) rfl hsize rfl rfl (rest := rest) rfl
    (by rw [hb]; exact d7) (by rw [hb]; exact d10) hout hRframes (by simp only [List.map_cons, List.sum_cons, hcat]; omega) hlocks
  obtain ⟨f1, f2⟩ := vx_frame hsame
  rw [hhp] at f1 f2
  have f9 : U.heap.size = H.size + 1 := by
    have g1 : U.heap.size ≤ s'.heap.size + 1 := hsame.2.2.1
    have g2 := (Array.getElem?_eq_some_iff.mp hce).1
    rw [hhp] at g1
    rw [hT] at g2
    omega
  have hWs : s.WarmedH U.vm := State.WarmedH.trans hW0 hW
  have hcl : s.vm.findClass cls = some ce.cls := by
    have h9 := hO.cls
    rw [hvm] at h9
    exact h9
  have hall : s.sameButNew ({ U with vm := s.vm } : State) locs mc ms := by
    subst hA
    obtain ⟨e1, e2⟩ := hsame
    rw [State.setFrames_setFrames] at e1
    have h2 : (T.setVm s.vm).sameButNew ({ U with vm := s.vm } : State) [] (0 + 1) (0 + 6) := ⟨e1, e2⟩
    have h3 := X.same.trans h2
    rw [List.append_nil] at h3
    exact h3.mono hc hs
  refine ⟨U, ?_, .threw T.heap.size, hrun, hend, Or.inr ⟨T.heap.size, rfl, cls, ce, locs, hx U hWs.alike f9 (fun q hq => f2 q hq (fun z hz => nomatch hz)), hce, hO.vm, hcl, hWs, hall, hf⟩⟩
  refine st1 _ ?_
  show Steps p.tables e below (T1.setTop { method := m, pc := pc + 3, locals := ls, stack := .ref T.heap.size :: rest, locked := none }) _
  jvm_step X₁.here [X₁.here.top, hexec, d3', Value.category]
  exact X₁.ldcStringW hexec (own := own) (text := text) (index := is) (a := sa) hown' hstr'.1 hstr'.2
    (g := { method := m, pc := pc + 4, locals := ls, stack := .ref T.heap.size :: .ref T.heap.size :: rest, locked := none }) rfl d4' _ hsteps
end VX9
theorem zg_ot {w : Cond} (h : zg_good w = true) (h2 : zg_arr w = false) : vx_ot w = true := by
  simp only [zg_good, Bool.or_eq_true, Bool.and_eq_true, h2] at h
  simp only [vx_ot, Bool.or_eq_true]
  rcases h with h | h | h
  · exact Or.inr h
  · exact Or.inl h.1
  · cases h
theorem va_rf_or9 (r : Option Nat) : va_rf r = .null ∨ ∃ a, va_rf r = .ref a := by cases r with
  | none => exact Or.inl rfl
  | some a => exact Or.inr ⟨a, rfl⟩
def zk_u (sh : zk_S) (r : Int) (k : zk_K) : zk_S := fun a => if a = r then k else sh a
theorem zw_H_old {E : ze_E} {n : Nat} {sh : zk_S} {d : zm_D} {H H1 : Heap} (h : zw_H E n sh d H) (hk : ∀ q, q < H.size → H1[q]? = H[q]?) (r : Nat) (hr : 1 ≤ r) : zw_at E d H1 r (sh r) := by
  have h1 := h.2 r hr
  rcases hs : sh r with _ | ci | ⟨ty, N⟩
  · trivial
  · rw [hs] at h1
    obtain ⟨q, g1, g2⟩ := h1
    obtain ⟨cell, g3, -⟩ := id g2
    exact ⟨q, g1, g2.kept (hk _ (Array.getElem?_eq_some_iff.mp g3).1)⟩
  · rw [hs] at h1
    exact ⟨(hk _ (Array.getElem?_eq_some_iff.mp h1.1).1).trans h1.1, h1.2⟩
theorem zw_H_grow {E : ze_E} {n : Nat} {sh : zk_S} {d : zm_D} {H H1 : Heap} (h : zw_H E n sh d H) (hz : H1.size = H.size + 1) (hk : ∀ q, q < H.size → H1[q]? = H[q]?) : zw_H E (n + 1) sh d H1 :=
  ⟨by rw [hz, h.1]; omega, fun r hr => zw_H_old h hk r hr⟩
theorem zw_H_new {E : ze_E} {n : Nat} {sh : zk_S} {d : zm_D} {H H1 : Heap} {k : zk_K} (h : zw_H E n sh d H) (hz : H1.size = H.size + 1) (hk : ∀ q, q < H.size → H1[q]? = H[q]?) (hn : zw_at E d H1 (n + 1) k) : zw_H E (n + 1) (zk_u sh ((n : Int) + 1) k) d H1 := by
  refine ⟨by rw [hz, h.1]; omega, fun r hr => ?_⟩
  unfold zk_u
  by_cases e : (r : Int) = (n : Int) + 1
  · rw [if_pos e]
    have e2 : r = n + 1 := by omega
    subst e2
    exact hn
  · rw [if_neg e]
    exact zw_H_old h hk r hr
theorem zv_def (E : ze_E) (ty : FieldType) : defaultValue ty = zv_fv E ty 0 := by
  have h0 : zv_ro E 0 = none := zv_ro_0
  cases ty <;> first | rfl | (simp only [zv_fv, h0]; rfl)
section EV7
variable {E : ze_E} {l : Launch} {M : zm_M} {D n : Nat} {sh : zk_S} {d : zm_D} {kc ks pc : Nat} {L : zl_L} {st : List zv_V} {Q : ev_Q}
theorem ev_iret {x : Int} {ty : FieldType} (hd : decode (zm_c M) pc = .ok (.ireturn, 1)) (hr : zm_r M = some ty) (hn : narrow ty (.int (Int32.ofInt x)) = .int (Int32.ofInt x)) (hq : Q (.inl (some (zv_i x))) n sh d) : ev E l M D n sh d kc ks pc L ([(zv_i x)]) Q := by
  intro p e R s m args below meth c H locs cells slots mc ms ls X
  obtain ⟨-, -, h1, h2, -, -⟩ := X.2.2.2.2
  refine W.widen (k := mc) (n := ms) (by omega) (by omega) (vx_ret ?_)
  exact W.zret X.1.1 X.1.2.1 (X.1.2.2.1.trans hr) hn (fun t ht hW => ⟨⟨(some (zv_i x)), n, sh, d, rfl, hq, by rw [ht]; exact X.2.1⟩, X.2.2.1.F ht⟩) X.2.2.1.2.2 hd X.1.2.2.2.2.2.2.1
theorem ev_lret {x : Int} (hd : decode (zm_c M) pc = .ok (.lreturn, 1)) (hr : zm_r M = some .long) (hq : Q (.inl (some (zv_l x))) n sh d) : ev E l M D n sh d kc ks pc L ([(zv_l x)]) Q := by
  intro p e R s m args below meth c H locs cells slots mc ms ls X
  obtain ⟨-, -, h1, h2, -, -⟩ := X.2.2.2.2
  refine W.widen (k := mc) (n := ms) (by omega) (by omega) (vx_ret ?_)
  exact W.lret X.1.1 X.1.2.1 (X.1.2.2.1.trans hr) (fun t ht hW => ⟨⟨(some (zv_l x)), n, sh, d, rfl, hq, by rw [ht]; exact X.2.1⟩, X.2.2.1.F ht⟩) X.2.2.1.2.2 hd X.1.2.2.2.2.2.2.1
theorem ev_dret {x : UInt64} (hd : decode (zm_c M) pc = .ok (.dreturn, 1)) (hr : zm_r M = some .double) (hq : Q (.inl (some (zv_d x))) n sh d) : ev E l M D n sh d kc ks pc L ([(zv_d x)]) Q := by
  intro p e R s m args below meth c H locs cells slots mc ms ls X
  obtain ⟨-, -, h1, h2, -, -⟩ := X.2.2.2.2
  refine W.widen (k := mc) (n := ms) (by omega) (by omega) (vx_ret ?_)
  exact W.dret X.1.1 X.1.2.1 (X.1.2.2.1.trans hr) (fun t ht hW => ⟨⟨(some (zv_d x)), n, sh, d, rfl, hq, by rw [ht]; exact X.2.1⟩, X.2.2.1.F ht⟩) X.2.2.1.2.2 hd X.1.2.2.2.2.2.2.1
theorem ev_fret {x : UInt32} (hd : decode (zm_c M) pc = .ok (.freturn, 1)) (hr : zm_r M = some .float) (hq : Q (.inl (some (zv_f x))) n sh d) : ev E l M D n sh d kc ks pc L ([(zv_f x)]) Q := by
  intro p e R s m args below meth c H locs cells slots mc ms ls X
  obtain ⟨-, -, h1, h2, -, -⟩ := X.2.2.2.2
  refine W.widen (k := mc) (n := ms) (by omega) (by omega) (vx_ret ?_)
  exact W.fret X.1.1 X.1.2.1 (X.1.2.2.1.trans hr) (fun t ht hW => ⟨⟨(some (zv_f x)), n, sh, d, rfl, hq, by rw [ht]; exact X.2.1⟩, X.2.2.1.F ht⟩) X.2.2.1.2.2 hd X.1.2.2.2.2.2.2.1
theorem ev_vret (hd : decode (zm_c M) pc = .ok (.return_, 1)) (hr : zm_r M = none) (hq : Q (.inl none) n sh d) : ev E l M D n sh d kc ks pc L ([]) Q := by
  intro p e R s m args below meth c H locs cells slots mc ms ls X
  obtain ⟨-, -, h1, h2, -, -⟩ := X.2.2.2.2
  refine W.widen (k := mc) (n := ms) (by omega) (by omega) (vx_ret ?_)
  exact W.vret X.1.1 X.1.2.1 (X.1.2.2.1.trans hr) (fun t ht hW => ⟨⟨none, n, sh, d, rfl, hq, by rw [ht]; exact X.2.1⟩, X.2.2.1.F ht⟩) X.2.2.1.2.2 hd X.1.2.2.2.2.2.2.1
theorem ev_aret {x : Int} {rt : FieldType} (hd : decode (zm_c M) pc = .ok (.areturn, 1)) (hr : zm_r M = some rt) (hrt : (∃ n, rt = .object n) ∨ ∃ t, rt = .array t) (hq : Q (.inl (some (zv_a x))) n sh d) : ev E l M D n sh d kc ks pc L [zv_a x] Q := by
  intro p e R s m args below meth c H locs cells slots mc ms ls X
  obtain ⟨-, -, h1, h2, -, -⟩ := X.2.2.2.2
  refine W.widen (k := mc) (n := ms) (by omega) (by omega) (vx_ret ?_)
  exact W.aret X.1.1 X.1.2.1 (X.1.2.2.1.trans hr) hrt (va_rf_or9 (zv_ro E x)) (fun t ht hW => ⟨⟨some (zv_a x), n, sh, d, rfl, hq, by rw [ht]; exact X.2.1⟩, X.2.2.1.F ht⟩) X.2.2.1.2.2 hd X.1.2.2.2.2.2.2.1
/-- what 'throw new X("text")' rests on -/
def zt_ok (M : zm_M) (ik is ic : Nat) (text cls : String) (names : List String) : Prop :=
  Bundle.fit cls = true ∧ (∀ n ∈ names, Bundle.fit n = true) ∧ Cond.classLink (zm_o M) ik cls ∈ lw_g ∧ Cond.initialized cls ∈ lw_g ∧ (zm_o M, is, text) ∈ zk_str ∧ ∀ w ∈ vx_atS (zm_o M) ic cls names, w ∈ lw_g ∧ zg_arr w = false
theorem ev_throwS {ik is ic : Nat} {text cls : String} {names : List String} (d0 : decode (zm_c M) pc = .ok (.new ik, 3)) (d3 : decode (zm_c M) (pc + 3) = .ok (.dup, 1)) (d4 : decode (zm_c M) (pc + 4) = .ok (.ldc is, 2)) (d6 : decode (zm_c M) (pc + 6) = .ok (.invokespecial ic, 3)) (d9 : decode (zm_c M) (pc + 9) = .ok (.athrow, 1))
    (hz : zt_ok M ik is ic text cls names) (hl : l.stackTraces = false) (hh : zm_h M = []) (hD : names.length + 6 ≤ D) (hst : st.length ≤ 8) (hkc : 1 ≤ kc) (hks : 6 ≤ ks) (hq : Q (.inr cls) (n + 1) sh d) : ev E l M D n sh d kc ks pc L st Q := by
  intro p e R s m args below meth c H locs cells slots mc ms ls X
  obtain ⟨z1, z2, z3, z4, z5, z6⟩ := hz
  obtain ⟨r1, r2, h1, h2, r3, r4⟩ := X.2.2.2.2
  have hts := X.1.2.2.2.2.2.1
  obtain ⟨sa, hstr⟩ := X.1.2.2.2.2.2.2.2.2.2.1.2.2.1 _ z5
  obtain ⟨-, -, -, hU, hN⟩ := X.1.2.2.2.2.2.2.2.2.2.2
  have hsum : ∀ l9 : List zv_V, ((l9.map (zv_c E)).map fun v => v.category).sum ≤ 2 * l9.length := by
    intro l9
    induction l9 with
    | nil => simp
    | cons a t ih =>
      have h9 := zv_cat E a
      have h8 : zv_k a ≤ 2 := by rcases a with (x | r) | (x | (x | x)) <;> simp [zv_k]
      simp only [List.map_cons, List.sum_cons, List.length_cons]
      omega
  have hs9 := hsum st
  refine vx_throwS9 X.1.1 X.1.2.1 hl X.1.2.2.2.2.1 z1 z2 (hts _ z3) (hts _ z4) hstr (fun w hw => hts w (z6 w hw).1) ?_ hU hN X.2.2.1 (X.2.2.2.1.1.trans X.1.2.2.2.1.symm) d0 d3 d4 d6 d9 ?_ (by omega) (by omega) (by omega) (by omega) X.1.2.2.2.2.2.2.1 ?_ X.2.2.1.2.2 (by omega) (by omega)
  · intro w hw
    rcases List.mem_cons.mp hw with rfl | hw
    · exact zg_ot (lw_g_ok z3) rfl
    · rcases List.mem_cons.mp hw with rfl | hw
      · exact zg_ot (lw_g_ok z4) rfl
      · exact zg_ot (lw_g_ok (z6 w hw).1) (z6 w hw).2
  · intro x hx
    rw [X.1.2.2.2.2.2.2.2.1, hh] at hx
    cases hx
  · intro t hA hz hk
    refine ⟨n + 1, sh, d, hq, zw_H_grow X.2.1 hz hk, ?_⟩
    refine ⟨by rw [hz]; exact Nat.le_trans X.2.2.1.1 (Nat.le_succ _), fun q g1 g2 => ?_⟩
    rw [hk q (Nat.lt_of_lt_of_le g1 X.2.2.1.1)]
    exact X.2.2.1.2.1 q g1 g2
theorem ev_throwSW {ik is ic : Nat} {text cls : String} {names : List String} (d0 : decode (zm_c M) pc = .ok (.new ik, 3)) (d3 : decode (zm_c M) (pc + 3) = .ok (.dup, 1)) (d4 : decode (zm_c M) (pc + 4) = .ok (.ldc_w is, 3)) (d6 : decode (zm_c M) (pc + 7) = .ok (.invokespecial ic, 3)) (d9 : decode (zm_c M) (pc + 10) = .ok (.athrow, 1))
    (hz : zt_ok M ik is ic text cls names) (hl : l.stackTraces = false) (hh : zm_h M = []) (hD : names.length + 6 ≤ D) (hst : st.length ≤ 8) (hkc : 1 ≤ kc) (hks : 6 ≤ ks) (hq : Q (.inr cls) (n + 1) sh d) : ev E l M D n sh d kc ks pc L st Q := by
  intro p e R s m args below meth c H locs cells slots mc ms ls X
  obtain ⟨z1, z2, z3, z4, z5, z6⟩ := hz
  obtain ⟨r1, r2, h1, h2, r3, r4⟩ := X.2.2.2.2
  have hts := X.1.2.2.2.2.2.1
  obtain ⟨sa, hstr⟩ := X.1.2.2.2.2.2.2.2.2.2.1.2.2.1 _ z5
  obtain ⟨-, -, -, hU, hN⟩ := X.1.2.2.2.2.2.2.2.2.2.2
  have hsum : ∀ l9 : List zv_V, ((l9.map (zv_c E)).map fun v => v.category).sum ≤ 2 * l9.length := by
    intro l9
    induction l9 with
    | nil => simp
    | cons a t ih =>
      have h9 := zv_cat E a
      have h8 : zv_k a ≤ 2 := by rcases a with (x | r) | (x | (x | x)) <;> simp [zv_k]
      simp only [List.map_cons, List.sum_cons, List.length_cons]
      omega
  have hs9 := hsum st
  refine vx_throwSW9 X.1.1 X.1.2.1 hl X.1.2.2.2.2.1 z1 z2 (hts _ z3) (hts _ z4) hstr (fun w hw => hts w (z6 w hw).1) ?_ hU hN X.2.2.1 (X.2.2.2.1.1.trans X.1.2.2.2.1.symm) d0 d3 d4 d6 d9 ?_ (by omega) (by omega) (by omega) (by omega) X.1.2.2.2.2.2.2.1 ?_ X.2.2.1.2.2 (by omega) (by omega)
  · intro w hw
    rcases List.mem_cons.mp hw with rfl | hw
    · exact zg_ot (lw_g_ok z3) rfl
    · rcases List.mem_cons.mp hw with rfl | hw
      · exact zg_ot (lw_g_ok z4) rfl
      · exact zg_ot (lw_g_ok (z6 w hw).1) (z6 w hw).2
  · intro x hx
    rw [X.1.2.2.2.2.2.2.2.1, hh] at hx
    cases hx
  · intro t hA hz hk
    refine ⟨n + 1, sh, d, hq, zw_H_grow X.2.1 hz hk, ?_⟩
    refine ⟨by rw [hz]; exact Nat.le_trans X.2.2.1.1 (Nat.le_succ _), fun q g1 g2 => ?_⟩
    rw [hk q (Nat.lt_of_lt_of_le g1 X.2.2.1.1)]
    exact X.2.2.1.2.1 q g1 g2
/-- the next thing that is made -/
theorem ev_new {idx ci kc2 ks2 : Nat} {q : vw_C} (hd : decode (zm_c M) pc = .ok (.new idx, 3)) (hc : zk_cl[ci]? = some q) (hl : Cond.classLink (zm_o M) idx q.1 ∈ lw_g) (hi : Cond.instantiable q.1 q.2.2 ∈ lw_g) (hi2 : Cond.initialized q.1 ∈ lw_g) (h0 : ∀ j, d ((n : Int) + 1) j = 0) (hkc : 1 + kc2 ≤ kc) (hks : q.2.2 + ks2 ≤ ks)
    (kk : ev E l M D (n + 1) (zk_u sh ((n : Int) + 1) (some (.inl ci))) d kc2 ks2 (pc + 3) L (zv_a ((n : Int) + 1) :: st) Q) : ev E l M D n sh d kc ks pc L st Q := by
  intro p e R s m args below meth c H locs cells slots mc ms ls X
  obtain ⟨r1, r2, h1, h2, r3, r4⟩ := X.2.2.2.2
  have hts := X.1.2.2.2.2.2.1
  have hKn := X.1.2.2.2.2.2.2.2.2.2.1.1 ci q hc
  have hsz := X.2.1.1
  refine W.newcK X.1.1 X.1.2.1 X.1.2.2.2.2.1 (hts _ hl) (hts _ hi) (hts _ hi2) rfl hd (by omega) (by omega) hKn.2.1 hsz fun H1 kC hkC e1 z1 o1 => ?_
  have hro : zv_c E (zv_a ((n : Int) + 1)) = .ref (ze_o E + n) := by
    show va_rf (zv_ro E ((n : Int) + 1)) = _
    rw [zv_ro_pos (by omega)]
    show Value.ref _ = _
    congr 2
  have k2 := kk p e R s m args below meth c H1 locs (cells + 1) (slots + q.2.2) mc ms ls ⟨X.1, zw_H_new X.2.1 (by rw [z1, hsz]) (fun q9 h9 => o1 q9 (by omega)) ⟨q, hc, ?_⟩, ⟨Nat.le_trans X.2.2.1.1 (by omega), fun x g1 g2 => (o1 x (by have := X.2.2.1.1; omega)).trans (X.2.2.1.2.1 x g1 g2), X.2.2.1.2.2⟩, X.2.2.2.1, r1, r2, by omega, by omega, r3, r4⟩
  · simp only [List.map_cons, hro] at k2
    exact k2
  · have e2 : (((n + 1 : Nat) : Int)) = (n : Int) + 1 := by omega
    refine (u_born (zk_ty ci) hts (zc_in ci q hc) hKn hkC e1 (zc_ty ci q hc)).to (fun j hj => ?_)
    rw [e2, h0 j, zv_def E]
theorem ev_newa {N kc2 ks2 : Nat} {atype : ArrayType} {ty : FieldType} (hd : decode (zm_c M) pc = .ok (.newarray atype, 2)) (hty : newarray.typeOf atype = ty) (ha : Cond.arrayClass ty ∈ lw_g) (hin : ty ∈ zk_aty) (hprim : ty.isReference = false) (h0 : ∀ j, d ((n : Int) + 1) j = 0) (hN : N ≤ 65536) (hkc : 1 + kc2 ≤ kc) (hks : N + ks2 ≤ ks)
    (kk : ev E l M D (n + 1) (zk_u sh ((n : Int) + 1) (some (.inr (ty, N)))) d kc2 ks2 (pc + 2) L (zv_a ((n : Int) + 1) :: st) Q) : ev E l M D n sh d kc ks pc L (zv_i (N : Int) :: st) Q := by
  intro p e R s m args below meth c H locs cells slots mc ms ls X
  obtain ⟨r1, r2, h1, h2, r3, r4⟩ := X.2.2.2.2
  have hts := X.1.2.2.2.2.2.1
  have hsz := X.2.1.1
  subst hty
  have hzN : zi (N : Int) := ⟨by omega, by omega⟩
  have hNN : (Int32.ofInt (N : Int)).toNatClampNeg = N := by
    show (Int32.ofInt (N : Int)).toInt.toNat = N
    rw [zi_t hzN]; rfl
  have hcb : componentBytes (newarray.typeOf atype) ≤ 8 := by cases atype <;> decide
  refine va_newaK X.1.1 X.1.2.1 (hts _ ha) rfl hd rfl (fun q => by have := (zi_lt hzN zi_0).mp q; omega) hNN (by have : N * componentBytes (newarray.typeOf atype) ≤ 65536 * 8 := Nat.mul_le_mul hN hcb; omega) (by omega) (by omega) hsz fun H1 cA e1 z1 o1 hAr hNm => ?_
  have hro : zv_c E (zv_a ((n : Int) + 1)) = .ref (ze_o E + n) := by
    show va_rf (zv_ro E ((n : Int) + 1)) = _
    rw [zv_ro_pos (by omega)]
    show Value.ref _ = _
    congr 2
  have hcA : cA = ze_t E (newarray.typeOf atype) := by
    have hra := (X.1.2.2.2.2.2.2.2.2.2.1.2.1 _ hin).2
    have : s.vm.findClass ("[" ++ (newarray.typeOf atype).toString) = some (ze_t E (newarray.typeOf atype)) := by
      cases atype <;> exact hra
    exact Option.some.inj (hNm.symm.trans this)
  have k2 := kk p e R s m args below meth c H1 locs (cells + 1) (slots + N) mc ms ls ⟨X.1, zw_H_new X.2.1 (by rw [z1, hsz]) (fun q9 h9 => o1 q9 (by omega)) ⟨?_, hin⟩, ⟨Nat.le_trans X.2.2.1.1 (by omega), fun x g1 g2 => (o1 x (by have := X.2.2.1.1; omega)).trans (X.2.2.1.2.1 x g1 g2), X.2.2.1.2.2⟩, X.2.2.2.1, r1, r2, by omega, by omega, r3, r4⟩
  · simp only [List.map_cons, hro] at k2
    exact k2
  · have e2 : (((n + 1 : Nat) : Int)) = (n : Int) + 1 := by omega
    show H1[ze_o E + n]? = _
    rw [e1, hcA]
    simp only [e2, h0, ← zv_def E]
end EV7
/-! ===== EV: methods and calls ===== -/
def zs_w (st : List zv_V) : Nat := (st.map zv_k).sum
theorem zs_cat (E : ze_E) : ∀ st : List zv_V, ((st.map (zv_c E)).map fun v => v.category).sum = zs_w st
  | [] => rfl
  | a :: t => by
    have := zs_cat E t
    simp only [List.map_cons, List.sum_cons, zs_w, zv_cat] at this ⊢
    rw [this]
theorem lg_sl_len (E : ze_E) : ∀ As : List zv_V, (lg_sl (As.map (zv_c E))).length = zs_w As
  | [] => rfl
  | a :: t => by
    have ih := lg_sl_len E t
    have h := zv_cat E a
    simp only [List.map_cons, zs_w, List.sum_cons] at ih ⊢
    rw [← ih]
    rcases a with (x | r) | (x | (x | x)) <;> simp only [zv_k] at h ⊢ <;> simp [lg_sl, h] <;> omega
theorem zv_ad (E : ze_E) (q : Nat) : zv_c E (zv_a (-(q : Int) - 2)) = .ref q ∧ -(q : Int) - 2 < 0 := by
  refine ⟨?_, by omega⟩
  show va_rf (zv_ro E _) = _
  unfold zv_ro
  rw [if_neg (by omega), if_pos (by omega), if_neg (by omega), show (-(-(q : Int) - 2) - 2).toNat = q by omega]
  rfl
section EV8
variable {E : ze_E} {l : Launch} {M M' : zm_M} {D n : Nat} {sh : zk_S} {d : zm_D} {kc ks pc : Nat} {L : zl_L} {st : List zv_V} {Q Q' : ev_Q}
theorem mt_blind {As : List zv_V} : FrameBlind (mt_P E n sh d As) := fun a U g mk q => ⟨q.1, q.2.1, q.2.2.1, q.2.2.2⟩
theorem mt_of {As : List zv_V} (hy : plainFor (zm_y M) = true) (hh : zm_h M = []) (hn : zs_w As ≤ zm_n M) (kk : ev E l M D n sh d kc ks 0 (zl_args 0 As) [] Q) : mt E l M D kc ks n sh d As Q := by
  have hcw : zm_cw M = .code (zm_y M) (zm_c M) (zm_n M) (zm_r M) := by unfold zm_cw; rw [hh]
  refine vx_ofWF (cc := zm_c M) (maxL := zm_n M) (ret := zm_r M) (ws' := lw_g) hy (by unfold zm_w; rw [hcw]) ?_
  intro p e s m args below meth c s₁ B hml htab hv
  obtain ⟨rfl, hH, hT, hX⟩ := hv
  have hts := atoms_spec (ws := zm_w M) B.pre
  have htab2 : c.exceptionTable.toList = tableOf (zm_h M) := by
    rw [hh]
    cases hq : c.exceptionTable.toList with
    | nil => rfl
    | cons a t => exact (htab a (by rw [hq]; exact List.mem_cons_self)).elim
  have C : ev_C E M p s m ((As.map (zv_c E)).toArray) meth c := ⟨B.exec, B.bytes, B.returns, hml, findClass_of_methodNamed B.named, fun w hw => hts w (List.mem_cons_of_mem _ hw), B.notSynchronized, htab2, (name_of_methodNamed B.named B.method).1, hT, hX⟩
  have hl := lv_entry (As.map (zv_c E)) (n := zm_n M) (by rw [lg_sl_len]; exact hn)
  rw [lg_entry_eq]
  refine kk p e _ s m _ below meth c s.heap [] 0 0 kc ks _ ⟨C, hH, va_S.rf, ⟨hl.1, hl.2.1, fun i v hv => ?_⟩, Nat.le_refl _, Nat.le_refl _, by omega, by omega, Nat.le_refl _, Nat.le_refl _⟩
  exact hl.2.2 _ (zl_args_lv E As 0 i v hv)
theorem mt_ofH {As : List zv_V} {h : Nat × Nat × Nat × Nat} {t : List (Nat × Nat × Nat × Nat)} (hy : plainName (zm_y M).cls = true) (hh : zm_h M = h :: t) (hn : zs_w As ≤ zm_n M) (kk : ev E l M D n sh d kc ks 0 (zl_args 0 As) [] Q) : mt E l M D kc ks n sh d As Q := by
  have hcw : zm_cw M = .codeWith (zm_y M) (zm_c M) (zm_n M) (zm_r M) (h :: t) := by unfold zm_cw; rw [hh]
  refine vx_ofWH (cc := zm_c M) (maxL := zm_n M) (ret := zm_r M) (hh := h :: t) (ws' := lw_g) hy (by unfold zm_w; rw [hcw]) ?_
  intro p e s m args below meth c s₁ B hml hv
  obtain ⟨rfl, hH, hT, hX⟩ := hv
  have hts := atoms_spec (ws := zm_w M) B.pre
  have htab2 : c.exceptionTable.toList = tableOf (zm_h M) := by
    have h1 := hts _ (show zm_cw M ∈ zm_w M from List.mem_cons_self)
    rw [hcw] at h1
    rw [hh]
    exact vx_table (x := zm_y M) B h1
  have C : ev_C E M p s m ((As.map (zv_c E)).toArray) meth c := ⟨B.exec, B.bytes, B.returns, hml, findClass_of_methodNamed B.named, fun w hw => hts w (List.mem_cons_of_mem _ hw), B.notSynchronized, htab2, (name_of_methodNamed B.named B.method).1, hT, hX⟩
  have hl := lv_entry (As.map (zv_c E)) (n := zm_n M) (by rw [lg_sl_len]; exact hn)
  rw [lg_entry_eq]
  refine kk p e _ s m _ below meth c s.heap [] 0 0 kc ks _ ⟨C, hH, va_S.rf, ⟨hl.1, hl.2.1, fun i v hv => ?_⟩, Nat.le_refl _, Nat.le_refl _, by omega, by omega, Nat.le_refl _, Nat.le_refl _⟩
  exact hl.2.2 _ (zl_args_lv E As 0 i v hv)
/-- x is thrown at pc -/
def ev_t (E : ze_E) (l : Launch) (M : zm_M) (D n : Nat) (sh : zk_S) (d : zm_D) (kc ks : Nat) (pc : Nat) (L : zl_L) (rest : List zv_V) (x : String) (Q : ev_Q) : Prop :=
  ∀ (p : Program) (e : Env) (R : Room) (s : State) (m : MethodId) (args : Array Value) (below : List Frame) (meth : Method) (c : Code) (H : Heap) (locs : List Loc) (cells slots mc ms : Nat) (ls : Array Slot) (q : Addr) (ce : Cell),
    ev_X E M D n sh d kc ks L p R s m args meth c H locs cells slots mc ms ls → H[q]? = some ce → ce.vm = .none → s.vm.findClass x = some ce.cls →
    vx_W p l e R s m args below meth c H locs cells slots (vx_MQ below (ev_Qc E Q) (ev_XC E Q) args s mc ms (ze_A E)) (F0 m pc ls (rest.map (zv_c E))) q
theorem ev_out {x : String} (hh : ∀ z ∈ tableOf (zm_h M), covers z pc = false) (hq : Q (.inr x) n sh d) : ev_t E l M D n sh d kc ks pc L st x Q := by
  intro p e R s m args below meth c H locs cells slots mc ms ls q ce X hce hv hcl
  obtain ⟨r1, r2, h1, h2, r3, r4⟩ := X.2.2.2.2
  exact vx_out (by rw [X.1.2.2.2.2.2.2.2.1]; exact hh) X.1.2.2.2.2.2.2.1 hce hv hcl (fun t ht hA => ⟨n, sh, d, hq, by rw [ht]; exact X.2.1, X.2.2.1.F ht⟩) X.2.2.1.2.2 (by omega) (by omega)
theorem ev_catch {x nm : String} {pre suf : List ExceptionTableEntry} {z : ExceptionTableEntry} (hs : tableOf (zm_h M) = pre ++ z :: suf) (hp : ∀ y ∈ pre, covers y pc = false ∨ (y.catchType ≠ 0 ∧ ∃ nm : String, Cond.classLink (zm_o M) y.catchType nm ∈ lw_g ∧ (x, nm) ∈ zk_nc)) (hc : covers z pc = true) (h0 : z.catchType ≠ 0)
    (hl : Cond.classLink (zm_o M) z.catchType nm ∈ lw_g) (hca : Cond.castable x nm ∈ lw_g) (kk : ∀ r : Int, r < 0 → ev E l M D n sh d kc ks z.handlerPc L [zv_a r] Q) : ev_t E l M D n sh d kc ks pc L st x Q := by
  intro p e R s m args below meth c H locs cells slots mc ms ls q ce X hce hv hcl
  have hts := X.1.2.2.2.2.2.1
  refine vx_catch X.1.2.2.2.2.1 pre z suf (by rw [X.1.2.2.2.2.2.2.2.1]; exact hs) (fun y hy => ?_) hc h0 (hts _ hl) (hts _ hca) hce hv hcl ?_
  · rcases hp y hy with h | ⟨h, nm9, h2, h3⟩
    · exact Or.inl h
    · exact Or.inr ⟨h, nm9, hts _ h2, X.1.2.2.2.2.2.2.2.2.2.1.2.2.2 _ h3⟩
  · have k2 := kk (-(((q : Nat)) : Int) - 2) (zv_ad E q).2 p e R s m args below meth c H locs cells slots mc ms ls X
    simp only [List.map_cons, List.map_nil, (zv_ad E q).1] at k2
    exact k2
/-- behind a call -/
theorem ev_run {kc' ks' kc2 ks2 : Nat} {a : Array Value} {st0 rest : List zv_V}
    (hr : ∀ (p : Program) (e : Env) (R : Room) (s : State) (m : MethodId) (args : Array Value) (below : List Frame) (meth : Method) (c : Code) (H : Heap) (locs : List Loc) (cells slots mc ms : Nat) (ls : Array Slot), ev_X E M D n sh d kc ks L p R s m args meth c H locs cells slots mc ms ls →
      vx_Run p l e R s m args below meth c H locs cells slots kc' ks' (F0 m pc ls (st0.map (zv_c E))) (rest.map (zv_c E)) (ev_Qc E Q' a) (ev_XC E Q') (ze_A E))
    (hkc : kc' + kc2 ≤ kc) (hks : ks' + ks2 ≤ ks)
    (kx : ∀ (x : String) (n' : Nat) (sh' : zk_S) (d' : zm_D), Q' (.inr x) n' sh' d' → ev_t E l M D n' sh' d' kc2 ks2 pc L rest x Q)
    (kk : ∀ (v : Option zv_V) (n' : Nat) (sh' : zk_S) (d' : zm_D), Q' (.inl v) n' sh' d' → ev E l M D n' sh' d' kc2 ks2 (pc + 3) L (v.toList ++ rest) Q) : ev E l M D n sh d kc ks pc L st0 Q := by
  intro p e R s m args below meth c H locs cells slots mc ms ls X T hT XS
  obtain ⟨r1, r2, h1, h2, r3, r4⟩ := X.2.2.2.2
  rcases hr p e R s m args below meth c H locs cells slots mc ms ls X T hT XS with ⟨v, st₀, t, T', Lc, h0, X', hL, e1, e2, ⟨⟨v', n', sh', d', hv, hq, hH'⟩, hF⟩, stp⟩ | ⟨q, st₀, t, T', Lc, x, ce, h0, X', hL, e1, e2, ⟨n', sh', d', hq, hH', hF⟩, hce, hcv, hcl, stp⟩
  · obtain ⟨-, -, k3⟩ := vx_keep h0 e1 X.2.2.1 (fun _ _ h => h) (fun _ h => h) hL hF
    have hv2 : v = v'.map (zv_c E) := by injection hv
    subst hv2
    have hmap : (v'.toList ++ rest).map (zv_c E) = (v'.map (zv_c E)).toList ++ rest.map (zv_c E) := by cases v' <;> rfl
    obtain ⟨t2, a1, b1⟩ := kk v' n' sh' d' hq p e R s m args below meth c T'.heap (locs ++ Lc) (cells + kc') (slots + ks') mc ms ls ⟨X.1, by rw [e1]; exact hH', k3, X.2.2.2.1, r1, r2, by omega, by omega, r3, r4⟩ T' rfl X'
    rw [hmap] at a1
    exact ⟨t2, stp t2 a1, b1⟩
  · obtain ⟨-, -, k3⟩ := vx_keep h0 e1 X.2.2.1 (fun _ _ h => h) (fun _ h => h) hL hF
    obtain ⟨t2, a1, b1⟩ := kx x n' sh' d' hq p e R s m args below meth c T'.heap (locs ++ Lc) (cells + kc') (slots + ks') mc ms ls q ce ⟨X.1, by rw [e1]; exact hH', k3, X.2.2.2.1, r1, r2, by omega, by omega, r3, r4⟩ (by rw [e1]; exact hce) hcv hcl T' rfl X'
    exact ⟨t2, stp.trans a1, b1⟩
/-- what is fixed of a method that is called -/
def zm_ok (M : zm_M) (k : Nat) : Prop := zm_cw M ∈ lw_g ∧ Cond.initialized (zm_o M) ∈ lw_g ∧ (zm_o M ≠ "java/lang/invoke/MethodHandle" ∧ zm_o M ≠ "java/lang/invoke/VarHandle") ∧ (parseMethodDescriptor (zm_y M).desc).map (fun d => d.parameters.length) = some k ∧ zm_n M ≤ 40
theorem zm_ws {s : State} {args : Array Value} (hts : ∀ w ∈ lw_g, w.before args s = true) (h : zm_cw M ∈ lw_g) : ∀ w ∈ zm_w M, ∀ (a' : Array Value) (U : State), s.WarmedH U.vm → w.before a' U = true := by
  intro w hw a' U hW
  rcases List.mem_cons.mp hw with rfl | hw
  · exact zg_warm (lw_g_ok h) hW (hts _ h)
  · exact zg_warm (lw_g_ok hw) hW (hts _ hw)
theorem zm_callB {k D' kc' ks' idx : Nat} {R : Room} {s : State} {args : Array Value} (hts : ∀ w ∈ lw_g, w.before args s = true) (ho : zm_ok M' k) (hh : zm_h M' = []) (hl : Cond.methodLink (zm_o M) idx (zm_y M') ∈ lw_g) (hD : D' + 1 ≤ D) (hR : D ≤ R.frames) (hR2 : 64 * D ≤ R.locals) :
    CallB R s args (zm_o M) idx (zm_y M') (zm_c M') (zm_n M') (zm_r M') (zm_w M') ({ frames := D', cells := kc', slots := ks', locals := 64 * D' } : Room) kc' ks' k := by
  obtain ⟨o1, o2, o3, o4, o5⟩ := ho
  have hcw : zm_cw M' = .code (zm_y M') (zm_c M') (zm_n M') (zm_r M') := by unfold zm_cw; rw [hh]
  refine ⟨rfl, rfl, by show D' + 1 ≤ R.frames; omega, by show 8 + (zm_n M' + 11) + 64 * D' ≤ R.locals; omega, zm_ws hts o1, by rw [← hcw]; exact List.mem_cons_self, by rw [← hcw]; exact hts _ o1, hts _ o2, o3, fun sig h => ?_, hts _ hl⟩
  rw [h] at o4
  exact (Option.some.inj o4).symm
theorem zm_fix {s : State} {p : Program} {m : MethodId} {args : Array Value} {meth : Method} {c : Code} (C : ev_C E M p s m args meth c) : CallFix p m c (zm_c M) (zm_n M) s args lw_g (zm_o M) := ⟨C.1, C.2.1, C.2.2.2.1, C.2.2.2.2.1, C.2.2.2.2.2.1⟩
theorem mt_pre {As : List zv_V} {p : Program} {R : Room} {s : State} {m : MethodId} {args : Array Value} {meth : Method} {c : Code} {H : Heap} {locs : List Loc} {cells slots mc ms : Nat} {ls : Array Slot} (X : ev_X E M D n sh d kc ks L p R s m args meth c H locs cells slots mc ms ls) : PreS s H (mt_P E n sh d As) (As.map (zv_c E)) :=
  ⟨mt_blind, fun U hU hW => ⟨rfl, by rw [hU]; exact X.2.1, X.1.2.2.2.2.2.2.2.2.2.1.moved hW, by rw [hU]; exact (X.1.2.2.2.2.2.2.2.2.2.2.kept X.2.2.1).moved hW.alike⟩⟩
theorem mt_room {st : List zv_V} {m : MethodId} {pc : Nat} {ls : Array Slot} {g : List Value} (h : zs_w st ≤ 8) : 2 * (F0 m pc ls g).monitorRoom + ((st.map (zv_c E)).map fun v => v.category).sum ≤ 8 := lv_room (by rw [zs_cat]; exact h)
theorem mt_recv {r : Int} {ci : Nat} {q : vw_C} {p : Program} {R : Room} {s : State} {m : MethodId} {args : Array Value} {meth : Method} {c : Code} {H : Heap} {locs : List Loc} {cells slots mc ms : Nat} {ls : Array Slot} (X : ev_X E M D n sh d kc ks L p R s m args meth c H locs cells slots mc ms ls) (hr : sh r = some (.inl ci)) (h0 : 0 < r) (hc : zk_cl[ci]? = some q) :
    ∃ cellB : Cell, H[ze_o E + (r.toNat - 1)]? = some cellB ∧ cellB.vm.isStatics = false ∧ s.vm.findClass q.1 = some cellB.cls := by
  obtain ⟨q', hq', cell, g1, g2, g3, -⟩ := zw_obj X.2.1 hr h0
  cases Option.some.inj (hc.symm.trans hq')
  exact ⟨cell, g1, by rw [g3]; rfl, by rw [g2]; exact (X.1.2.2.2.2.2.2.2.2.2.1.1 ci q hc).2.1⟩
/-- invokestatic -/
theorem ev_callS {k idx D' kc' ks' kc2 ks2 : Nat} {As st0 rest : List zv_V} (hd : decode (zm_c M) pc = .ok (.invokestatic idx, 3)) (hM : mt E l M' D' kc' ks' n sh d As Q') (hst : st0 = As.reverse ++ rest) (ho : zm_ok M' k) (hh : zm_h M' = []) (hk : As.length = k) (hl : Cond.methodLink (zm_o M) idx (zm_y M') ∈ lw_g) (hs : Cond.static (zm_y M') ∈ lw_g) (hD : D' + 1 ≤ D) (hw : zs_w rest ≤ 8) (hkc : kc' + kc2 ≤ kc) (hks : ks' + ks2 ≤ ks)
    (kx : ∀ (x : String) (n' : Nat) (sh' : zk_S) (d' : zm_D), Q' (.inr x) n' sh' d' → ev_t E l M D n' sh' d' kc2 ks2 pc L rest x Q)
    (kk : ∀ (v : Option zv_V) (n' : Nat) (sh' : zk_S) (d' : zm_D), Q' (.inl v) n' sh' d' → ev E l M D n' sh' d' kc2 ks2 (pc + 3) L (v.toList ++ rest) Q) : ev E l M D n sh d kc ks pc L st0 Q := by
  refine ev_run (a := (As.map (zv_c E)).toArray) (kc' := kc') (ks' := ks') (fun p e R s m args below meth c H locs cells slots mc ms ls X => ?_) hkc hks kx kk
  obtain ⟨r1, r2, h1, h2, r3, r4⟩ := X.2.2.2.2
  have hts := X.1.2.2.2.2.2.1
  exact vx_runS (zm_fix X.1) hM ⟨zm_callB hts ho hh hl hD r1 r2, hts _ hs⟩ (mt_pre X) rfl (by rw [List.length_map]; exact hk) X.2.2.2.1.1 (by rw [hst]; simp) (mt_room hw) hd ⟨by omega, by omega⟩
/-- invokevirtual of an object of the class of the method -/
theorem ev_callV {k idx D' kc' ks' kc2 ks2 ci : Nat} {r : Int} {q : vw_C} {As st0 rest : List zv_V} (hd : decode (zm_c M) pc = .ok (.invokevirtual idx, 3)) (hM : mt E l M' D' kc' ks' n sh d (zv_a r :: As) Q') (hst : st0 = As.reverse ++ zv_a r :: rest) (hr : sh r = some (.inl ci)) (h0 : 0 < r) (hc : zk_cl[ci]? = some q) (ho : zm_ok M' k) (hh : zm_h M' = []) (hk : As.length = k) (hl : Cond.methodLink (zm_o M) idx (zm_y M') ∈ lw_g) (hs : Cond.instanceMethod (zm_y M') ∈ lw_g) (hs2 : Cond.selects q.1 (zm_y M') (zm_y M') ∈ lw_g) (hD : D' + 1 ≤ D) (hw : zs_w rest ≤ 8) (hkc : kc' + kc2 ≤ kc) (hks : ks' + ks2 ≤ ks)
    (kx : ∀ (x : String) (n' : Nat) (sh' : zk_S) (d' : zm_D), Q' (.inr x) n' sh' d' → ev_t E l M D n' sh' d' kc2 ks2 pc L rest x Q)
    (kk : ∀ (v : Option zv_V) (n' : Nat) (sh' : zk_S) (d' : zm_D), Q' (.inl v) n' sh' d' → ev E l M D n' sh' d' kc2 ks2 (pc + 3) L (v.toList ++ rest) Q) : ev E l M D n sh d kc ks pc L st0 Q := by
  refine ev_run (a := (Value.ref (ze_o E + (r.toNat - 1)) :: As.map (zv_c E)).toArray) (kc' := kc') (ks' := ks') (fun p e R s m args below meth c H locs cells slots mc ms ls X => ?_) hkc hks kx kk
  obtain ⟨r1, r2, h1, h2, r3, r4⟩ := X.2.2.2.2
  have hts := X.1.2.2.2.2.2.1
  have hp := mt_pre (As := zv_a r :: As) X
  have hro : zv_c E (zv_a r) = .ref (ze_o E + (r.toNat - 1)) := by show va_rf (zv_ro E r) = _; rw [zv_ro_pos h0]; rfl
  simp only [List.map_cons, hro] at hp
  exact vx_runV (zm_fix X.1) hM ⟨zm_callB hts ho hh hl hD r1 r2, hts _ hs, hts _ hs2⟩ ⟨hp.1, mt_recv X hr h0 hc, hp.2⟩ rfl (by rw [List.length_map]; exact hk) X.2.2.2.1.1 (by rw [hst]; simp [hro]) (mt_room hw) hd ⟨by omega, by omega⟩
/-- a constructor -/
theorem ev_callI {k idx D' kc' ks' kc2 ks2 : Nat} {r : Int} {As st0 rest : List zv_V} (hd : decode (zm_c M) pc = .ok (.invokespecial idx, 3)) (hM : mt E l M' D' kc' ks' n sh d (zv_a r :: As) Q') (hst : st0 = As.reverse ++ zv_a r :: rest) (h0 : 0 < r) (hnm : (zm_y M').name = "<init>") (hrn : zm_r M' = none) (ho : zm_ok M' k) (hh : zm_h M' = []) (hk : As.length = k) (hl : Cond.methodLink (zm_o M) idx (zm_y M') ∈ lw_g) (hs : Cond.instanceMethod (zm_y M') ∈ lw_g) (hD : D' + 1 ≤ D) (hw : zs_w rest ≤ 8) (hkc : kc' + kc2 ≤ kc) (hks : ks' + ks2 ≤ ks)
    (kx : ∀ (x : String) (n' : Nat) (sh' : zk_S) (d' : zm_D), Q' (.inr x) n' sh' d' → ev_t E l M D n' sh' d' kc2 ks2 pc L rest x Q)
    (kk : ∀ (v : Option zv_V) (n' : Nat) (sh' : zk_S) (d' : zm_D), Q' (.inl v) n' sh' d' → ev E l M D n' sh' d' kc2 ks2 (pc + 3) L (v.toList ++ rest) Q) : ev E l M D n sh d kc ks pc L st0 Q := by
  refine ev_run (a := (Value.ref (ze_o E + (r.toNat - 1)) :: As.map (zv_c E)).toArray) (kc' := kc') (ks' := ks') (fun p e R s m args below meth c H locs cells slots mc ms ls X => ?_) hkc hks kx kk
  obtain ⟨r1, r2, h1, h2, r3, r4⟩ := X.2.2.2.2
  have hts := X.1.2.2.2.2.2.1
  have hp := mt_pre (As := zv_a r :: As) X
  have hro : zv_c E (zv_a r) = .ref (ze_o E + (r.toNat - 1)) := by show va_rf (zv_ro E r) = _; rw [zv_ro_pos h0]; rfl
  simp only [List.map_cons, hro] at hp
  have hcb := zm_callB (kc' := kc') (ks' := ks') hts ho hh hl hD r1 r2
  rw [hrn] at hcb
  exact vx_runI (zm_fix X.1) hM ⟨hcb, hnm, hts _ hs⟩ hp rfl (by rw [List.length_map]; exact hk) X.2.2.2.1.1 (by rw [hst]; simp [hro]) (mt_room hw) hd ⟨by omega, by omega⟩
end EV8
/-! ===== EV: what was wanting ===== -/
section EV9
variable {E : ze_E} {l : Launch} {M M' : zm_M} {D n : Nat} {sh : zk_S} {d : zm_D} {kc ks pc : Nat} {L : zl_L} {st : List zv_V} {Q Q' : ev_Q}
theorem ev_st {st' : List zv_V} (h : st.map (zv_c E) = st'.map (zv_c E)) (kk : ev E l M D n sh d kc ks pc L st' Q) : ev E l M D n sh d kc ks pc L st Q := by
  intro p e R s m args below meth c H locs cells slots mc ms ls X
  rw [h]
  exact kk p e R s m args below meth c H locs cells slots mc ms ls X
theorem ev_subg {L' : zl_L} (h : ∀ i v, zl_get L' i = some v → zl_get L i = some v) (kk : ev E l M D n sh d kc ks pc L' st Q) : ev E l M D n sh d kc ks pc L st Q := by
  intro p e R s m args below meth c H locs cells slots mc ms ls X
  exact kk p e R s m args below meth c H locs cells slots mc ms ls (X.loc ⟨X.2.2.2.1.1, X.2.2.2.1.2.1, fun i v hv => X.2.2.2.1.2.2 i v (h i v hv)⟩)
theorem zw_H_dz {d' : zm_D} {H : Heap} (h : zw_H E n sh d H) (hd : ∀ r : Nat, 1 ≤ r → r ≤ n → ∀ j, d' r j = d r j) : zw_H E n sh d' H := by
  refine ⟨h.1, fun r hr => ?_⟩
  by_cases e : r ≤ n
  · exact zw_at_kept (h.2 r hr) rfl (hd r hr e)
  · have h1 := h.2 r hr
    have hsz := h.1
    rcases hs : sh r with _ | ci | ⟨ty, N⟩
    · trivial
    · rw [hs] at h1
      obtain ⟨q, g1, cell, g3, -⟩ := h1
      have := (Array.getElem?_eq_some_iff.mp g3).1
      omega
    · rw [hs] at h1
      have := (Array.getElem?_eq_some_iff.mp h1.1).1
      omega
theorem ev_dz {d' : zm_D} (hd : ∀ r : Nat, 1 ≤ r → r ≤ n → ∀ j, d' r j = d r j) (kk : ev E l M D n sh d' kc ks pc L st Q) : ev E l M D n sh d kc ks pc L st Q := by
  intro p e R s m args below meth c H locs cells slots mc ms ls X
  exact kk p e R s m args below meth c H locs cells slots mc ms ls ⟨X.1, zw_H_dz X.2.1 hd, X.2.2⟩
theorem zs_w_le : ∀ l9 : List zv_V, zs_w l9 ≤ 2 * l9.length
  | [] => by simp [zs_w]
  | a :: t => by
    have ih := zs_w_le t
    have h8 : zv_k a ≤ 2 := by rcases a with (x | r) | (x | (x | x)) <;> simp [zv_k]
    simp only [zs_w, List.map_cons, List.sum_cons, List.length_cons] at ih ⊢
    omega
theorem ev_objinit {idx : Nat} {r : Int} (hd : decode (zm_c M) pc = .ok (.invokespecial idx, 3)) (h1 : Cond.methodLink (zm_o M) idx Lib.objectInit ∈ lw_g) (h2 : Cond.instanceMethod Lib.objectInit ∈ lw_g) (h3 : Cond.code Lib.objectInit ⟨#[0xb1]⟩ 1 none ∈ lw_g) (h0 : 0 < r) (hw : st.length ≤ 4) (hD : 0 < D)
    (kk : ev E l M D n sh d kc ks (pc + 3) L st Q) : ev E l M D n sh d kc ks pc L (zv_a r :: st) Q := by
  intro p e R s m args below meth c H locs cells slots mc ms ls X
  have k2 := kk p e R s m args below meth c H locs cells slots mc ms ls X
  have hts := X.1.2.2.2.2.2.1
  obtain ⟨r1, r2, -, -, -, -⟩ := X.2.2.2.2
  have hs := zs_cat E st
  have hs2 := zs_w_le st
  simp only [List.map_cons, zv_c, zv_ro_pos h0]
  exact W.objInit X.1.1 X.1.2.1 X.1.2.2.2.2.1 (hts _ h1) (hts _ h2) (hts _ h3) rfl (X.2.2.2.1.1.trans X.1.2.2.2.1.symm) rfl hd (by omega) (by rw [hs]; show 2 * 0 + _ + _ ≤ _; omega) k2
theorem ev_f2bits {idx : Nat} {b : UInt32} (hd : decode (zm_c M) pc = .ok (.invokestatic idx, 3)) (h1 : Cond.methodLink (zm_o M) idx ⟨"java/lang/Float", "floatToRawIntBits", "(F)I"⟩ ∈ lw_g) (h2 : Cond.native ⟨"java/lang/Float", "floatToRawIntBits", "(F)I"⟩ ∈ lw_g) (h3 : Cond.static ⟨"java/lang/Float", "floatToRawIntBits", "(F)I"⟩ ∈ lw_g) (h4 : Cond.initialized "java/lang/Float" ∈ lw_g) (hw : st.length ≤ 4) (hD : 0 < D)
    (kk : ev E l M D n sh d kc ks (pc + 3) L (zv_i b.toInt32.toInt :: st) Q) : ev E l M D n sh d kc ks pc L (zv_f b :: st) Q := by
  intro p e R s m args below meth c H locs cells slots mc ms ls X
  have k2 := kk p e R s m args below meth c H locs cells slots mc ms ls X
  have hts := X.1.2.2.2.2.2.1
  obtain ⟨r1, r2, -, -, -, -⟩ := X.2.2.2.2
  have hs := zs_cat E st
  have hs2 := zs_w_le st
  simp only [List.map_cons, zv_c, zi_ofInt] at k2 ⊢
  exact vn_f2i X.1.1 X.1.2.1 (X.1.2.2.2.1.trans X.2.2.2.1.1.symm) X.1.2.2.2.2.1 (hts _ h1) (hts _ h2) (hts _ h3) (hts _ h4) (by omega) (by rw [hs]; omega) hd k2
/-- a private constructor of a nest mate -/
theorem ev_callIN {k idx D' kc' ks' kc2 ks2 : Nat} {r : Int} {host : String} {As st0 rest : List zv_V} (hd : decode (zm_c M) pc = .ok (.invokespecial idx, 3)) (hM : mt E l M' D' kc' ks' n sh d (zv_a r :: As) Q') (hst : st0 = As.reverse ++ zv_a r :: rest) (h0 : 0 < r) (hnm : (zm_y M').name = "<init>") (hrn : zm_r M' = none) (ho : zm_ok M' k) (hh : zm_h M' = []) (hk : As.length = k) (hl : Cond.methodLinkNest (zm_o M) idx (zm_y M') host ∈ lw_g) (hs : Cond.instanceMethod (zm_y M') ∈ lw_g) (hD : D' + 1 ≤ D) (hw : zs_w rest ≤ 8) (hkc : kc' + kc2 ≤ kc) (hks : ks' + ks2 ≤ ks)
    (kx : ∀ (x : String) (n' : Nat) (sh' : zk_S) (d' : zm_D), Q' (.inr x) n' sh' d' → ev_t E l M D n' sh' d' kc2 ks2 pc L rest x Q)
    (kk : ∀ (v : Option zv_V) (n' : Nat) (sh' : zk_S) (d' : zm_D), Q' (.inl v) n' sh' d' → ev E l M D n' sh' d' kc2 ks2 (pc + 3) L (v.toList ++ rest) Q) : ev E l M D n sh d kc ks pc L st0 Q := by
  refine ev_run (a := (Value.ref (ze_o E + (r.toNat - 1)) :: As.map (zv_c E)).toArray) (kc' := kc') (ks' := ks') (fun p e R s m args below meth c H locs cells slots mc ms ls X => ?_) hkc hks kx kk
  obtain ⟨r1, r2, h1, h2, r3, r4⟩ := X.2.2.2.2
  have hts := X.1.2.2.2.2.2.1
  have hp := mt_pre (As := zv_a r :: As) X
  have hro : zv_c E (zv_a r) = .ref (ze_o E + (r.toNat - 1)) := by show va_rf (zv_ro E r) = _; rw [zv_ro_pos h0]; rfl
  simp only [List.map_cons, hro] at hp
  obtain ⟨o1, o2, o3, o4, o5⟩ := ho
  have hcw : zm_cw M' = .code (zm_y M') (zm_c M') (zm_n M') (zm_r M') := by unfold zm_cw; rw [hh]
  have hcb : va_CN R s args (zm_o M) idx (zm_y M') host (zm_c M') (zm_n M') none (zm_w M') ({ frames := D', cells := kc', slots := ks', locals := 64 * D' } : Room) kc' ks' k := by
    rw [hrn] at hcw
    refine ⟨⟨rfl, rfl, by show D' + 1 ≤ R.frames; omega, by show 8 + (zm_n M' + 11) + 64 * D' ≤ R.locals; omega, zm_ws hts o1, by rw [← hcw]; exact List.mem_cons_self⟩, by rw [← hcw]; exact hts _ o1, hts _ o2, o3, fun sig h => ?_, hts _ hl⟩
    rw [h] at o4
    exact (Option.some.inj o4).symm
  exact vx_runIN (zm_fix X.1) hM ⟨hcb, hnm, hts _ hs⟩ hp rfl (by rw [List.length_map]; exact hk) X.2.2.2.1.1 (by rw [hst]; simp [hro]) (mt_room hw) hd ⟨by omega, by omega⟩
/-- invokestatic of a method with a table of its own -/
theorem ev_callSX {k idx D' kc' ks' kc2 ks2 : Nat} {As st0 rest : List zv_V} {h9 : Nat × Nat × Nat × Nat} {t9 : List (Nat × Nat × Nat × Nat)} (hd : decode (zm_c M) pc = .ok (.invokestatic idx, 3)) (hM : mt E l M' D' kc' ks' n sh d As Q') (hst : st0 = As.reverse ++ rest) (ho : zm_ok M' k) (hh : zm_h M' = h9 :: t9) (hk : As.length = k) (hl : Cond.methodLink (zm_o M) idx (zm_y M') ∈ lw_g) (hs : Cond.static (zm_y M') ∈ lw_g) (hD : D' + 1 ≤ D) (hw : zs_w rest ≤ 8) (hkc : kc' + kc2 ≤ kc) (hks : ks' + ks2 ≤ ks)
    (kx : ∀ (x : String) (n' : Nat) (sh' : zk_S) (d' : zm_D), Q' (.inr x) n' sh' d' → ev_t E l M D n' sh' d' kc2 ks2 pc L rest x Q)
    (kk : ∀ (v : Option zv_V) (n' : Nat) (sh' : zk_S) (d' : zm_D), Q' (.inl v) n' sh' d' → ev E l M D n' sh' d' kc2 ks2 (pc + 3) L (v.toList ++ rest) Q) : ev E l M D n sh d kc ks pc L st0 Q := by
  refine ev_run (a := (As.map (zv_c E)).toArray) (kc' := kc') (ks' := ks') (fun p e R s m args below meth c H locs cells slots mc ms ls X => ?_) hkc hks kx kk
  obtain ⟨r1, r2, h1, h2, r3, r4⟩ := X.2.2.2.2
  have hts := X.1.2.2.2.2.2.1
  obtain ⟨o1, o2, o3, o4, o5⟩ := ho
  have hcw : zm_cw M' = .codeWith (zm_y M') (zm_c M') (zm_n M') (zm_r M') (h9 :: t9) := by unfold zm_cw; rw [hh]
  have hcb : vx_CSW R s args (zm_o M) idx (zm_y M') (zm_c M') (zm_n M') (zm_r M') (h9 :: t9) (zm_w M') ({ frames := D', cells := kc', slots := ks', locals := 64 * D' } : Room) kc' ks' k := by
    refine ⟨⟨rfl, rfl, by show D' + 1 ≤ R.frames; omega, by show 8 + (zm_n M' + 11) + 64 * D' ≤ R.locals; omega, zm_ws hts o1, by rw [← hcw]; exact List.mem_cons_self⟩, by rw [← hcw]; exact hts _ o1, hts _ o2, o3, fun sig h => ?_, hts _ hl, hts _ hs⟩
    rw [h] at o4
    exact (Option.some.inj o4).symm
  exact vx_runSX (zm_fix X.1) hM hcb (mt_pre X) rfl (by rw [List.length_map]; exact hk) X.2.2.2.1.1 (by rw [hst]; simp) (mt_room hw) hd ⟨by omega, by omega⟩
end EV9
/-- System.arraycopy of ints -/
def zm_cp (d : zm_D) (r1 p r2 q x : Int) : zm_D := fun a k => if a = r2 ∧ (q ≤ k ∧ k < q + x) then d r1 (p + (k - q)) else d a k
/-! ===== EV: arrays of references, System.arraycopy ===== -/
section EV10
variable {E : ze_E} {l : Launch} {M : zm_M} {D n : Nat} {sh : zk_S} {d : zm_D} {kc ks pc : Nat} {L : zl_L} {st : List zv_V} {Q : ev_Q}
theorem ev_anew {N kc2 ks2 idx : Nat} {C : String} (hd : decode (zm_c M) pc = .ok (.anewarray idx, 3)) (hl : Cond.classLink (zm_o M) idx C ∈ lw_g) (ha : Cond.arrayOver (.object C) ∈ lw_g) (hin : FieldType.object C ∈ zk_aty) (h0 : ∀ j, d ((n : Int) + 1) j = 0) (hN : N ≤ 65536) (hkc : 1 + kc2 ≤ kc) (hks : N + ks2 ≤ ks)
    (kk : ev E l M D (n + 1) (zk_u sh ((n : Int) + 1) (some (.inr (.object C, N)))) d kc2 ks2 (pc + 3) L (zv_a ((n : Int) + 1) :: st) Q) : ev E l M D n sh d kc ks pc L (zv_i (N : Int) :: st) Q := by
  intro p e R s m args below meth c H locs cells slots mc ms ls X
  obtain ⟨r1, r2, h1, h2, r3, r4⟩ := X.2.2.2.2
  have hts := X.1.2.2.2.2.2.1
  have hsz := X.2.1.1
  have hzN : zi (N : Int) := ⟨by omega, by omega⟩
  have hNN : (Int32.ofInt (N : Int)).toNatClampNeg = N := by
    show (Int32.ofInt (N : Int)).toInt.toNat = N
    rw [zi_t hzN]; rfl
  refine W.anew X.1.1 X.1.2.1 X.1.2.2.2.2.1 (hts _ hl) (hts _ ha) rfl hd rfl (fun q => by have := (zi_lt hzN zi_0).mp q; omega) (by rw [hNN]; omega) (by omega) (by rw [hNN]; omega) fun cA kA comp f1 f2 f3 f4 => ?_
  rw [hNN]
  generalize hH1 : H.push ({ cls := cA, slots := Array.replicate N .null, vm := .none } : Cell) = H1
  have z1 : H1.size = H.size + 1 := by rw [← hH1, Array.size_push]
  have e1 : H1[H.size]? = some (arrV cA N (fun _ => .null)) := by rw [← hH1, Array.getElem?_push_size, ← arrV_new]
  have o1 : ∀ q : Nat, q < H.size → H1[q]? = H[q]? := fun q hq => by rw [← hH1, Array.getElem?_push, if_neg (Nat.ne_of_lt hq)]
  have hro : zv_c E (zv_a ((n : Int) + 1)) = .ref (ze_o E + n) := by
    show va_rf (zv_ro E ((n : Int) + 1)) = _
    rw [zv_ro_pos (by omega)]
    show Value.ref _ = _
    congr 2
  have hcA : cA = ze_t E (.object C) := by
    obtain ⟨kA9, comp9, -, -, -, g⟩ := (X.1.2.2.2.2.2.2.2.2.2.1.2.1 _ hin).2
    exact Option.some.inj (f1.symm.trans g)
  have k2 := kk p e R s m args below meth c H1 locs (cells + 1) (slots + N) mc ms ls ⟨X.1, zw_H_new X.2.1 z1 o1 ⟨?_, hin⟩, ⟨Nat.le_trans X.2.2.1.1 (by omega), fun x g1 g2 => (o1 x (Nat.lt_of_lt_of_le g1 X.2.2.1.1)).trans (X.2.2.1.2.1 x g1 g2), X.2.2.1.2.2⟩, X.2.2.2.1, r1, r2, by omega, by omega, r3, r4⟩
  · simp only [List.map_cons, hro] at k2
    rw [hsz]
    exact k2
  · have e2 : (((n + 1 : Nat) : Int)) = (n : Int) + 1 := by omega
    show H1[ze_o E + n]? = _
    rw [← hsz, e1, hcA]
    simp only [e2, h0, ← zv_def E]
    rfl
theorem ev_acopy {idx N1 N2 : Nat} {r1 r2 p9 q9 x9 : Int} (hd : decode (zm_c M) pc = .ok (.invokestatic idx, 3)) (w1 : Cond.methodLink (zm_o M) idx arraycopyName ∈ lw_g) (w2 : Cond.native arraycopyName ∈ lw_g) (w3 : Cond.static arraycopyName ∈ lw_g) (w4 : Cond.initialized "java/lang/System" ∈ lw_g)
    (hr1 : sh r1 = some (.inr (.int, N1))) (hr2 : sh r2 = some (.inr (.int, N2))) (h01 : 0 < r1) (h02 : 0 < r2) (hN1 : N1 ≤ 1000000) (hN2 : N2 ≤ 1000000) (hp : 0 ≤ p9) (hq : 0 ≤ q9) (hx : 0 ≤ x9) (hs1 : p9 + x9 ≤ N1) (hs2 : q9 + x9 ≤ N2) (hw : st.length ≤ 4) (hD : 0 < D)
    (kk : ev E l M D n sh (zm_cp d r1 p9 r2 q9 x9) kc ks (pc + 3) L st Q) : ev E l M D n sh d kc ks pc L (zv_i x9 :: zv_i q9 :: zv_a r2 :: zv_i p9 :: zv_a r1 :: st) Q := by
  intro p e R s m args below meth c H locs cells slots mc ms ls X
  have hts := X.1.2.2.2.2.2.1
  obtain ⟨q1, hty⟩ := zw_arr X.2.1 hr1 h01
  obtain ⟨q2, -⟩ := zw_arr X.2.1 hr2 h02
  obtain ⟨g1, g2, -, -, -, -⟩ := X.2.2.2.2
  have hs := zs_cat E st
  have hsl := zs_w_le st
  obtain ⟨-, k0, hk0, cm0, hkk0⟩ := (X.1.2.2.2.2.2.2.2.2.2.1.2.1 _ hty).1 N1 (fun j => zv_fv E .int (d r1 j))
  obtain ⟨-, k1, hk1, cm1, hkk1⟩ := (X.1.2.2.2.2.2.2.2.2.2.1.2.1 _ hty).1 N2 (fun j => zv_fv E .int (d r2 j))
  have zp : zi p9 := ⟨by omega, by omega⟩
  have zq : zi q9 := ⟨by omega, by omega⟩
  have zx : zi x9 := ⟨by omega, by omega⟩
  have np : (Int32.ofInt p9).toNatClampNeg = p9.toNat := by show (Int32.ofInt p9).toInt.toNat = _; rw [zi_t zp]
  have nq : (Int32.ofInt q9).toNatClampNeg = q9.toNat := by show (Int32.ofInt q9).toInt.toNat = _; rw [zi_t zq]
  have nx : (Int32.ofInt x9).toNatClampNeg = x9.toNat := by show (Int32.ofInt x9).toInt.toNat = _; rw [zi_t zx]
  simp only [List.map_cons, zv_c, zv_ro_pos h01, zv_ro_pos h02]
  intro T hT XS
  obtain ⟨vm', X', step⟩ := XS.arraycopy X.1.1 X.1.2.2.2.2.1 (hts _ w1) (hts _ w2) (hts _ w3) (hts _ w4) (src := ze_o E + (r1.toNat - 1)) (dst := ze_o E + (r2.toNat - 1)) (srcPos := Int32.ofInt p9) (destPos := Int32.ofInt q9) (n := Int32.ofInt x9) (by rw [hT]; exact q1) (by rw [hT]; exact q2)
    (fun _ h => by cases h) (fun _ h => by cases h) (fun h => by cases h) (fun h => by cases h) hk0 hk1 hkk0 hkk1 rfl (fun q => by have := (zi_lt zp zi_0).mp q; omega) (fun q => by have := (zi_lt zq zi_0).mp q; omega) (fun q => by have := (zi_lt zx zi_0).mp q; omega)
    (by rw [zi_t zp, zi_t zx, arrV_size]; omega) (by rw [zi_t zq, zi_t zx, arrV_size]; omega)
    (fun vm₁ _ i hi => by
      rw [nx] at hi
      have e9 : (arrV (ze_t E .int) N1 (fun j => zv_fv E .int (d r1 j))).slots.getD ((Int32.ofInt p9).toNatClampNeg + i) .null = zv_fv E .int (d r1 ((p9.toNat + i : Nat) : Int)) := by
        rw [np, Array.getD_eq_getD_getElem?, arrV_read _ _ (by omega)]
        rfl
      rw [e9]
      exact ⟨rfl, trivial⟩)
    (g := F0 m pc ls _) rfl (X.2.2.2.1.1.trans X.1.2.2.2.1.symm) (rest := st.map (zv_c E)) rfl (by rw [X.1.2.1]; exact hd) (by omega) (by rw [hs]; have : nativeFrameWords "java/lang/System" "arraycopy" 5 ≤ 40 := (by decide); show 2 * 0 + _ + _ ≤ _; omega)
  have ecp : copied (arrV (ze_t E .int) N1 (fun j => zv_fv E .int (d r1 j))) (arrV (ze_t E .int) N2 (fun j => zv_fv E .int (d r2 j))) (Int32.ofInt p9) (Int32.ofInt q9) (Int32.ofInt x9) = arrV (ze_t E .int) N2 (fun j => zv_fv E .int (zm_cp d r1 p9 r2 q9 x9 r2 j)) := by
    have h9 := va_copied (fun z : Int => zv_fv E .int z) (ze_t E .int) (ze_t E .int) (n0 := N1) (n1 := N2) (sp := (Int32.ofInt p9).toNatClampNeg) (dp := (Int32.ofInt q9).toNatClampNeg) (n := (Int32.ofInt x9).toNatClampNeg) (fun j => d r1 j) (fun j => d r2 j) (by rw [np, nx]; omega)
    refine h9.trans ?_
    congr 1
    funext j
    congr 1
    simp only [va_cpy, np, nq, nx, zm_cp]
    by_cases hj : q9.toNat ≤ j ∧ j < q9.toNat + x9.toNat
    · rw [if_pos hj, if_pos ⟨trivial, by omega, by omega⟩]
      congr 1
      omega
    · rw [if_neg hj, if_neg (fun q => hj ⟨by omega, by omega⟩)]
  rw [ecp] at X' step
  have hl : ze_o E + (r2.toNat - 1) < H.size := (Array.getElem?_eq_some_iff.mp q2).1
  generalize hcell : arrV (ze_t E .int) N2 (fun j => zv_fv E .int (zm_cp d r1 p9 r2 q9 x9 r2 j)) = cell at X' step
  have hheap : ((T.setVm vm').setCell (ze_o E + (r2.toNat - 1)) cell).heap = H.setIfInBounds (ze_o E + (r2.toNat - 1)) cell := by rw [← hT]; rfl
  have oq : ∀ q : Nat, q ≠ ze_o E + (r2.toNat - 1) → (H.setIfInBounds (ze_o E + (r2.toNat - 1)) cell)[q]? = H[q]? := fun q hq => by simp [Array.getElem?_setIfInBounds, Ne.symm hq]
  have hz : (H.setIfInBounds (ze_o E + (r2.toNat - 1)) cell).size = H.size := by simp
  have k1 : zw_H E n sh (zm_cp d r1 p9 r2 q9 x9) (H.setIfInBounds (ze_o E + (r2.toNat - 1)) cell) := by
    refine zw_H_set X.2.1 h02 hz oq (fun a k ha => ?_) ?_
    · unfold zm_cp
      rw [if_neg (fun q => ha q.1)]
    · rw [hr2]
      have er : ((r2.toNat : Nat) : Int) = r2 := by omega
      refine ⟨?_, hty⟩
      rw [er, hcell]
      simp [Array.getElem?_setIfInBounds, hl]
  have k2 : va_S (ze_A E) s.heap (H.setIfInBounds (ze_o E + (r2.toNat - 1)) cell) (locs ++ (Cell.stretch (arrV (ze_t E .int) N1 (fun j => zv_fv E .int (d r1 j))) (Int32.ofInt p9).toNatClampNeg (Int32.ofInt x9).toNatClampNeg).zipIdx.map fun q => ⟨ze_o E + (r2.toNat - 1), (Int32.ofInt q9).toNatClampNeg + q.2⟩) := by
    refine ⟨by rw [hz]; exact X.2.2.1.1, fun q g1 g2 => ?_, fun q hq9 => ?_⟩
    · rw [oq q (fun e9 => g2 (by rw [e9]; exact Nat.le_add_right _ _))]
      exact X.2.2.1.2.1 q g1 g2
    · rcases List.mem_append.mp hq9 with h | h
      · exact X.2.2.1.2.2 q h
      · obtain ⟨z, -, hz9⟩ := List.mem_map.mp h
        rw [← hz9]
        exact Nat.le_add_right _ _
  obtain ⟨t, a1, b1⟩ := kk p e R s m args below meth c _ _ cells slots mc ms ls ⟨X.1, k1, k2, X.2.2.2⟩ _ hheap X'
  exact ⟨t, step t a1, b1⟩
end EV10
/-! ===== EV: a throw of an exception whose constructor has another entry ===== -/
section EV11
variable {E : ze_E} {l : Launch} {M : zm_M} {D n : Nat} {sh : zk_S} {d : zm_D} {kc ks pc : Nat} {L : zl_L} {st : List zv_V} {Q : ev_Q}
theorem ev_throwN {ik is ic idx9 : Nat} {text cls Y9 : String} {r9 : List String} {bts9 : ByteArray} (d0 : decode (zm_c M) pc = .ok (.new ik, 3)) (d3 : decode (zm_c M) (pc + 3) = .ok (.dup, 1)) (d4 : decode (zm_c M) (pc + 4) = .ok (.ldc_w is, 3)) (d6 : decode (zm_c M) (pc + 7) = .ok (.invokespecial ic, 3)) (d9 : decode (zm_c M) (pc + 10) = .ok (.athrow, 1))
    (z1 : Bundle.fit cls = true) (zY : Bundle.fit Y9 = true) (zr : ∀ n ∈ r9, Bundle.fit n = true) (b0 : decode bts9 0 = .ok (.aload_n 0, 1)) (b1 : decode bts9 1 = .ok (.aload_n 1, 1)) (b2 : decode bts9 2 = .ok (.invokespecial idx9, 3)) (b5 : decode bts9 5 = .ok (.return_, 1))
    (z3 : Cond.classLink (zm_o M) ik cls ∈ lw_g) (z4 : Cond.initialized cls ∈ lw_g) (z5 : (zm_o M, is, text) ∈ zk_str) (z6 : ∀ w ∈ (zxL (zm_o M) ic cls Y9 r9 idx9 bts9).filter vx_no, w ∈ lw_g ∧ zg_arr w = false)
    (hl : l.stackTraces = false) (hh : zm_h M = []) (hD : (Y9 :: r9).length + 6 ≤ D) (hst : st.length ≤ 8) (hkc : 1 ≤ kc) (hks : 6 ≤ ks) (hq : Q (.inr cls) (n + 1) sh d) : ev E l M D n sh d kc ks pc L st Q := by
  intro p e R s m args below meth c H locs cells slots mc ms ls X
  obtain ⟨r1, r2, h1, h2, r3, r4⟩ := X.2.2.2.2
  have hts := X.1.2.2.2.2.2.1
  obtain ⟨sa, hstr⟩ := X.1.2.2.2.2.2.2.2.2.2.1.2.2.1 _ z5
  obtain ⟨-, -, -, hU, hN⟩ := X.1.2.2.2.2.2.2.2.2.2.2
  have hs9 := zs_w_le st
  rw [← zs_cat E st] at hs9
  refine vx_makeN9 X.1.1 X.1.2.1 hl X.1.2.2.2.2.1 z1 zY zr b0 b1 b2 b5 (hts _ z3) (hts _ z4) hstr (fun w hw => hts w (z6 w hw).1) ?_ hU hN X.2.2.1 (X.2.2.2.1.1.trans X.1.2.2.2.1.symm) d0 d3 d4 d6 (by omega) (by omega) (by omega) (by omega) (fun H1 ce hz hk hce hcv hcl => ?_)
  · intro w hw
    rcases List.mem_cons.mp hw with rfl | hw
    · exact zg_ot (lw_g_ok z3) rfl
    · rcases List.mem_cons.mp hw with rfl | hw
      · exact zg_ot (lw_g_ok z4) rfl
      · exact zg_ot (lw_g_ok (z6 w hw).1) (z6 w hw).2
  · have hS1 : va_S (ze_A E) s.heap H1 locs := by
      refine ⟨by rw [hz]; exact Nat.le_trans X.2.2.1.1 (Nat.le_succ _), fun q g1 g2 => ?_, X.2.2.1.2.2⟩
      rw [hk q (Nat.lt_of_lt_of_le g1 X.2.2.1.1)]
      exact X.2.2.1.2.1 q g1 g2
    refine vx_athrow X.1.1 X.1.2.1 d9 ?_
    exact ev_out (kc := 0) (ks := 0) (pc := pc + 10) (fun z hz9 => by rw [hh] at hz9; cases hz9) hq p e R s m args below meth c H1 locs (cells + 1) (slots + 6) mc ms ls H.size ce ⟨X.1, zw_H_grow X.2.1 hz hk, hS1, X.2.2.2.1, r1, r2, by omega, by omega, r3, r4⟩ hce hcv hcl
end EV11
/-! ===== arrays of arrays ===== -/
def zF0 (c : ClassId) (N b kk i : Nat) : Cell := arrV c N (fun j => if j < i then .ref (b + 1 + j * kk) else .null)
def zF (c : ClassId) (N kk : Nat) (g : State → State) (s : State) : Nat → State
  | 0 => s.pushCell (zF0 c N s.heap.size kk 0)
  | i + 1 => (g (zF c N kk g s i)).setCell s.heap.size (zF0 c N s.heap.size kk (i + 1))
/-- a maker of kk cells of ks slots -/
def zGs (kk ks : Nat) (C : Nat → Nat → Cell) (g : State → State) : Prop :=
  ∀ s : State, (g s).heap.size = s.heap.size + kk ∧ (g s).vm = s.vm ∧ (g s).slotsUsed = s.slotsUsed + ks ∧ (∀ a, a < s.heap.size → (g s).heap[a]? = s.heap[a]?) ∧ (∀ q, q < kk → (g s).heap[s.heap.size + q]? = some (C s.heap.size q)) ∧ (∀ f, g (s.setTop f) = (g s).setTop f)
theorem zGs_push (cell : Cell) : zGs 1 cell.slots.size (fun _ _ => cell) (fun s => s.pushCell cell) := by
  intro s
  refine ⟨by simp, rfl, by simp, fun a ha => State.heap_pushCell_of_lt _ _ ha, fun q hq => ?_, fun f => ?_⟩
  · have e : q = 0 := by omega
    subst e
    exact State.heap_pushCell_size _ _
  · simp only [State.pushCell_setTop]
theorem zF0_size (c : ClassId) (N b kk i : Nat) : (zF0 c N b kk i).slots.size = N := arrV_size _ _ _
theorem zF_facts {c : ClassId} {N kk ks : Nat} {C : Nat → Nat → Cell} {g : State → State} (hg : zGs kk ks C g) (s : State) : ∀ i : Nat, (zF c N kk g s i).heap.size = s.heap.size + 1 + i * kk ∧ (zF c N kk g s i).vm = s.vm ∧ (zF c N kk g s i).slotsUsed = s.slotsUsed + N + i * ks ∧ (∀ a, a < s.heap.size → (zF c N kk g s i).heap[a]? = s.heap[a]?) ∧ (zF c N kk g s i).heap[s.heap.size]? = some (zF0 c N s.heap.size kk i) ∧ (∀ j, j < i → ∀ q, q < kk → (zF c N kk g s i).heap[s.heap.size + 1 + j * kk + q]? = some (C (s.heap.size + 1 + j * kk) q)) ∧ (∀ f, zF c N kk g (s.setTop f) i = (zF c N kk g s i).setTop f)
  | 0 => by
    refine ⟨by simp [zF], rfl, by simp [zF, zF0_size], fun a ha => State.heap_pushCell_of_lt _ _ ha, State.heap_pushCell_size _ _, fun j hj => absurd hj (Nat.not_lt_zero j), fun f => ?_⟩
    simp only [zF, State.heap_setTop, State.pushCell_setTop]
  | i + 1 => by
    obtain ⟨f1, f2, f3, f4, f5, f6, f7⟩ := zF_facts (c := c) (N := N) hg s i
    obtain ⟨g1, g2, g3, g4, g5, g6⟩ := hg (zF c N kk g s i)
    have hlt : s.heap.size < (g (zF c N kk g s i)).heap.size := by rw [g1, f1]; omega
    have hcell : (g (zF c N kk g s i)).heap[s.heap.size]? = some (zF0 c N s.heap.size kk i) := by rw [g4 _ (by rw [f1]; omega)]; exact f5
    refine ⟨?_, ?_, ?_, fun a ha => ?_, ?_, fun j hj q hq => ?_, fun f => ?_⟩
    · show ((g (zF c N kk g s i)).setCell s.heap.size _).heap.size = _
      rw [size_setCell, g1, f1, Nat.succ_mul]; omega
    · show ((g (zF c N kk g s i)).setCell s.heap.size _).vm = _
      rw [← f2, ← g2]; rfl
    · show ((g (zF c N kk g s i)).setCell s.heap.size _).slotsUsed = _
      have : ((g (zF c N kk g s i)).setCell s.heap.size (zF0 c N s.heap.size kk (i + 1))).slotsUsed = (g (zF c N kk g s i)).slotsUsed := rfl
      rw [this, g3, f3, Nat.succ_mul]; omega
    · show ((g (zF c N kk g s i)).setCell s.heap.size _).heap[a]? = _
      rw [State.heap_setCell_other (Nat.ne_of_gt ha), g4 _ (by rw [f1]; omega)]
      exact f4 a ha
    · exact State.heap_setCell_self hcell
    · show ((g (zF c N kk g s i)).setCell s.heap.size _).heap[s.heap.size + 1 + j * kk + q]? = _
      rw [State.heap_setCell_other (show s.heap.size ≠ s.heap.size + 1 + j * kk + q by generalize j * kk = z; omega)]
      rcases Nat.lt_or_ge j i with h | h
      · have hm : j * kk + kk ≤ i * kk := by have := Nat.mul_le_mul_right kk (show j + 1 ≤ i from h); rw [Nat.succ_mul] at this; exact this
        rw [g4 _ (by rw [f1]; omega)]
        exact f6 j h q hq
      · have e : j = i := by omega
        subst e
        have := g5 q hq
        rw [f1] at this
        exact this
    · simp only [zF, f7, State.heap_setTop, g6, State.setCell_setTop]
theorem zGs_F {c : ClassId} {N kk ks : Nat} {C : Nat → Nat → Cell} {g : State → State} (hg : zGs kk ks C g) (hk : 0 < kk) : zGs (1 + N * kk) (N + N * ks) (fun b r => if r = 0 then zF0 c N b kk N else C (b + 1 + (r - 1) / kk * kk) ((r - 1) % kk)) (fun s => zF c N kk g s N) := by
  intro s
  obtain ⟨f1, f2, f3, f4, f5, f6, f7⟩ := zF_facts (c := c) (N := N) hg s N
  refine ⟨by dsimp only; rw [f1]; omega, f2, by dsimp only; rw [f3]; omega, f4, fun q hq => ?_, f7⟩
  dsimp only
  by_cases h0 : q = 0
  · subst h0
    simpa using f5
  · have hm := Nat.div_add_mod (q - 1) kk
    have hl := Nat.mod_lt (q - 1) hk
    have hj : (q - 1) / kk < N := by
      rw [Nat.div_lt_iff_lt_mul hk]; omega
    have := f6 _ hj _ hl
    rw [if_neg h0, ← this]
    congr 1
    rw [Nat.mul_comm kk] at hm
    omega
section ZW
variable {E : CtlPost} {e : Env} {d : Bool} {acts : List Action} {s : State}
theorem zwp_new {c comp : ClassId} {k : Class} {type : FieldType} {len : Nat} {init : Value} (hk : s.vm.classes[c]? = some k) (hkind : k.kind = .array comp type)
    (hlimit : ¬ len > e.platform.arrayLengthLimit) (hheap : ¬ len * componentBytes type > e.platform.maxHeapBytes) (hfit : fits type init = true) (hdef : init.isDefault = true) {Q : Addr → Pre}
    (h1 : s.heap.size < e.platform.maxCells) (h2 : s.slotsUsed + len ≤ e.platform.maxSlots)
    (hq : Q s.heap.size d acts (s.pushCell { cls := c, slots := Array.replicate len init, vm := .none })) :
    wp (Jvm.newArray c len init) Q E e d acts s := by
  have hfits : ∀ i v, (Array.replicate len init)[i]? = some v → s.fitsSlot c .none i v = true := by
    intro i v hv
    simp only [Array.getElem?_replicate] at hv
    split at hv
    · cases hv; simp [State.fitsSlot, State.slotType?, hk, hkind, hfit]
    · cases hv
  have hda : allocActs (Array.replicate len init) s.heap.size acts = acts := by
    have hall : ((Array.replicate len init).all (·.isDefault)) = true := by
      rw [Array.all_replicate]; split <;> simp [hdef]
    unfold allocActs; rw [if_pos hall]
  simp only [Jvm.newArray, Jvm.arrayFits, wp_bind', W.ask, W.ite, hlimit, if_false, wp_pure', W.theClass, hk, hkind, hheap, W.alloc, W.stop, Option.some.injEq, exists_eq_left', Array.size_replicate, hda]
  rw [if_neg (by omega)]
  exact ⟨h1, h2, hfits, hq⟩
theorem zwp_make1 {comp cc : ClassId} {kc : Class} {type : FieldType} {m : Int32} (hkc : s.vm.classes[comp]? = some kc) (hkindc : kc.kind = .array cc type) (hm : ¬ m < 0)
    (hl2 : ¬ m.toNatClampNeg > e.platform.arrayLengthLimit) (hh2 : ¬ m.toNatClampNeg * componentBytes type > e.platform.maxHeapBytes)
    (hdf : fits type (defaultValue type) = true) (hdd : (defaultValue type).isDefault = true)
    (h1 : s.heap.size < e.platform.maxCells) (h2 : s.slotsUsed + m.toNatClampNeg ≤ e.platform.maxSlots)
    {Q : Addr → Pre} (hq : Q s.heap.size d acts (s.pushCell { cls := comp, slots := Array.replicate m.toNatClampNeg (defaultValue type), vm := .none })) :
    wp (multianewarray.make comp [m]) Q E e d acts s := by
  rw [multianewarray.make]
  simp only [wp_bind', W.ite, hm, if_false, wp_pure', W.theClass, hkc, hkindc, Option.some.injEq, exists_eq_left']
  exact zwp_new hkc hkindc hl2 hh2 hdf hdd h1 h2 hq
theorem zrefFits {t : FieldType} (h : t.isReference = true) (v : Value) (hv : v = .null ∨ ∃ a, v = .ref a) : fits t v = true := by
  rcases hv with rfl | ⟨a, rfl⟩ <;> cases t <;> simp [FieldType.isReference] at h <;> rfl
theorem zwp_makeN {c comp : ClassId} {k : Class} {t0 : FieldType} {n r0 : Int32} {rs : List Int32} {kk ks : Nat} {C : Nat → Nat → Cell} {g : State → State} (hk : s.vm.classes[c]? = some k) (hkind : k.kind = .array comp t0) (href : t0.isReference = true) (hn : ¬ n < 0)
    (hl1 : ¬ n.toNatClampNeg > e.platform.arrayLengthLimit) (hh1 : ¬ n.toNatClampNeg * componentBytes t0 > e.platform.maxHeapBytes) (hg : zGs kk ks C g) (hfind : ((r0 :: rs).find? (· < 0)) = none)
    (hin : ∀ (s' : State) (d' : Bool) (acts' : List Action) (Q' : Addr → Pre), s'.vm = s.vm → s'.heap.size + kk ≤ e.platform.maxCells → s'.slotsUsed + ks ≤ e.platform.maxSlots → (∀ d'' acts'', Q' s'.heap.size d'' acts'' (g s')) → wp (multianewarray.make comp (r0 :: rs)) Q' E e d' acts' s')
    (hc : s.heap.size + 1 + n.toNatClampNeg * kk ≤ e.platform.maxCells) (hs : s.slotsUsed + n.toNatClampNeg + n.toNatClampNeg * ks ≤ e.platform.maxSlots)
    {Q : Addr → Pre} (hq : ∀ d' acts', Q s.heap.size d' acts' (zF c n.toNatClampNeg kk g s n.toNatClampNeg)) :
    wp (multianewarray.make c (n :: r0 :: rs)) Q E e d acts s := by
  rw [multianewarray.make]
  simp only [wp_bind', W.ite, hn, if_false, wp_pure', W.theClass, hk, hkind, Option.some.injEq, exists_eq_left']
  refine zwp_new hk hkind hl1 hh1 (zrefFits href _ (Or.inl rfl)) rfl (by omega) (by omega) ?_
  simp only [hfind]
  have e0 : ({ cls := c, slots := Array.replicate n.toNatClampNeg .null, vm := .none } : Cell) = zF0 c n.toNatClampNeg s.heap.size kk 0 := by
    rw [arrV_new]
    unfold zF0
    congr 1
  rw [e0]
  rw [ite_self, wp_bind', Std.Legacy.Range.forIn_eq_forIn_range']
  have hsz : ([:n.toNatClampNeg] : Std.Legacy.Range).size = n.toNatClampNeg := by simp [Std.Legacy.Range.size]
  rw [hsz]
  show wp (forIn (List.range' 0 n.toNatClampNeg 1) PUnit.unit _) _ E e d acts _
  refine wp_forIn_inv (fun rest s' => ∃ i, i ≤ n.toNatClampNeg ∧ rest = List.range' i (n.toNatClampNeg - i) ∧ s' = zF c n.toNatClampNeg kk g s i) _ _ ⟨0, Nat.zero_le _, rfl, rfl⟩ ?_ ?_
  · rintro x rest s' d' acts' Q' ⟨i, hi, hl, rfl⟩ hnext
    have hlt : i < n.toNatClampNeg := by
      rcases Nat.lt_or_ge i n.toNatClampNeg with h | h
      · exact h
      · rw [show n.toNatClampNeg - i = 0 from by omega] at hl; simp at hl
    obtain ⟨rfl, hrest⟩ : x = i ∧ rest = List.range' (i + 1) (n.toNatClampNeg - (i + 1)) := by
      rw [show n.toNatClampNeg - i = (n.toNatClampNeg - (i + 1)) + 1 from by omega, List.range'_succ] at hl
      exact ⟨(List.cons.inj hl).1, (List.cons.inj hl).2⟩
    obtain ⟨f1, f2, f3, f4, f5, -, -⟩ := zF_facts (c := c) (N := n.toNatClampNeg) hg s x
    obtain ⟨g1, g2, g3, g4, -, -⟩ := hg (zF c n.toNatClampNeg kk g s x)
    have hm1 : x * kk + kk ≤ n.toNatClampNeg * kk := by
      have := Nat.mul_le_mul_right kk (show x + 1 ≤ n.toNatClampNeg from hlt)
      rw [Nat.succ_mul] at this; exact this
    have hm2 : x * ks + ks ≤ n.toNatClampNeg * ks := by
      have := Nat.mul_le_mul_right ks (show x + 1 ≤ n.toNatClampNeg from hlt)
      rw [Nat.succ_mul] at this; exact this
    simp only [wp_bind']
    refine hin _ _ _ _ f2 (by rw [f1]; omega) (by rw [f3]; omega) (fun d9 a9 => ?_)
    have hcell : (g (zF c n.toNatClampNeg kk g s x)).heap[s.heap.size]? = some (zF0 c n.toNatClampNeg s.heap.size kk x) := by rw [g4 _ (by rw [f1]; omega)]; exact f5
    simp only [wp_bind', W.writeLoc, wp_pure']
    refine ⟨zF0 c n.toNatClampNeg s.heap.size kk x, hcell, by simp [zF0, arrV], by rw [zF0_size]; exact hlt, ?_, hnext _ _ _ ⟨x + 1, hlt, hrest, ?_⟩⟩
    · simp [State.fitsSlot, State.slotType?, zF0, arrV, g2, f2, hk, hkind, zrefFits href _ (Or.inr ⟨_, rfl⟩)]
    · rw [f1]
      show (g (zF c n.toNatClampNeg kk g s x)).setCell s.heap.size ((zF0 c n.toNatClampNeg s.heap.size kk x).setSlot x _) = (g (zF c n.toNatClampNeg kk g s x)).setCell s.heap.size _
      congr 1
      unfold zF0
      rw [arrV_store]
      congr 1
      funext j
      by_cases hj : j = x
      · subst hj
        simp [updV]
      · by_cases h2 : j < x
        · simp [updV, hj, h2, Nat.lt_succ_of_lt h2]
        · simp [updV, hj, h2, show ¬ j < x + 1 by omega]
  · rintro s' d' acts' ⟨i, hi, hl, rfl⟩
    have hiN : i = n.toNatClampNeg := by
      rcases Nat.lt_or_ge i n.toNatClampNeg with h | h
      · rw [show n.toNatClampNeg - i = (n.toNatClampNeg - (i + 1)) + 1 from by omega, List.range'_succ] at hl; cases hl
      · omega
    subst hiN
    simp only [wp_pure']
    exact hq _ _
end ZW
abbrev zMm : Type := Nat × (zk_S × (zm_D × Nat))
/-- new int[N][K]: the outer array, then the inner ones -/
def zmul2 (M : zMm) (N K : Nat) : zMm := (M.1 + 1 + N, ((fun r => if r = (M.1 : Int) + 1 then some (.inr (.array .int, N)) else if (M.1 : Int) + 2 ≤ r ∧ r < (M.1 : Int) + 2 + N then some (.inr (.int, K)) else M.2.1 r), ((fun r j => if (M.1 : Int) + 1 ≤ r then (if r = (M.1 : Int) + 1 ∧ (0 ≤ j ∧ j < N) then (M.1 : Int) + 2 + j else 0) else M.2.2.1 r j), M.2.2.2 + N + N * K)))
/-- new int[N][K][J]: the outer array; then each one of its arrays with the inner ones behind it -/
def zmul3 (M : zMm) (N K J : Nat) : zMm := (M.1 + 1 + N * (K + 1), ((fun r => if r = (M.1 : Int) + 1 then some (.inr (.array (.array .int), N)) else if (M.1 : Int) + 2 ≤ r ∧ r < (M.1 : Int) + 2 + N * (K + 1) then (if (r - ((M.1 : Int) + 2)) % ((K : Int) + 1) = 0 then some (.inr (.array .int, K)) else some (.inr (.int, J))) else M.2.1 r), ((fun r j => if (M.1 : Int) + 1 ≤ r then (if r = (M.1 : Int) + 1 ∧ (0 ≤ j ∧ j < N) then (M.1 : Int) + 2 + j * (K + 1) else if (r < (M.1 : Int) + 2 + N * (K + 1) ∧ (M.1 : Int) + 2 ≤ r) ∧ ((r - ((M.1 : Int) + 2)) % ((K : Int) + 1) = 0 ∧ (0 ≤ j ∧ j < K)) then r + 1 + j else 0) else M.2.2.1 r j), M.2.2.2 + N + N * K + N * K * J)))
/-! ===== arrays of arrays: on the machine, and over the pure memory ===== -/
section ZST
variable {p : Program} {l : Launch} {e : Env} {R : Room} {s : State} {m : MethodId} {args : Array Value} {below : List Frame} {meth : Method} {c : Code} {locs : List Loc}
theorem zSt_F {cA : ClassId} {N kk ks : Nat} {C : Nat → Nat → Cell} {g : State → State} (hg : zGs kk ks C g) (hgS : ∀ (T : State) (cells slots : Nat), Stand p l e R s m args below meth c T locs cells slots → Stand p l e R s m args below meth c (g T) locs (cells + kk) (slots + ks))
    {T : State} {cells slots : Nat} (X : Stand p l e R s m args below meth c T locs cells slots) : ∀ i : Nat, Stand p l e R s m args below meth c (zF cA N kk g T i) locs (cells + 1 + i * kk) (slots + N + i * ks)
  | 0 => by
    have h := X.pushed (zF0 cA N T.heap.size kk 0)
    rw [zF0_size] at h
    simpa [zF] using h
  | i + 1 => by
    have Xi := hgS _ _ _ (zSt_F (cA := cA) (N := N) hg hgS X i)
    obtain ⟨f1, f2, f3, f4, f5, -, -⟩ := zF_facts (c := cA) (N := N) hg T i
    obtain ⟨g1, g2, g3, g4, -, -⟩ := hg (zF cA N kk g T i)
    have hcell : (g (zF cA N kk g T i)).heap[T.heap.size]? = some (zF0 cA N T.heap.size kk i) := by rw [g4 _ (by rw [f1]; omega)]; exact f5
    have h := Xi.stored hcell i (.ref (T.heap.size + 1 + i * kk))
    have e9 : (zF0 cA N T.heap.size kk i).setSlot i (.ref (T.heap.size + 1 + i * kk)) = zF0 cA N T.heap.size kk (i + 1) := by
      unfold zF0
      rw [arrV_store]
      congr 1
      funext j
      by_cases hj : j = i
      · subst hj
        simp [updV]
      · by_cases h2 : j < i
        · simp [updV, hj, h2, Nat.lt_succ_of_lt h2]
        · simp [updV, hj, h2, show ¬ j < i + 1 by omega]
    rw [e9] at h
    have h2 := Stand.forget h (fun y hy => by
      rw [List.mem_singleton] at hy
      rw [hy]
      exact X.same.2.1)
    have e1 : cells + 1 + (i + 1) * kk = cells + 1 + i * kk + kk := by rw [Nat.succ_mul]; omega
    have e2 : slots + N + (i + 1) * ks = slots + N + i * ks + ks := by rw [Nat.succ_mul]; omega
    rw [e1, e2]
    exact h2
theorem zmulti2 {T : State} {cells slots k9 s9 : Nat} (X : Stand p l e R s m args below meth c T locs cells slots) (hexec : p.tables.exec = Jvm.exec) {own nm : String} {cA : ClassId} {index : Nat}
    (hown : s.vm.findClass own = some m.cls) (hclink : (Cond.classLink own index nm).before args s = true) (hnameA : s.vm.findClass nm = some cA)
    {g : JFrame} (hg : g.method = m) (hdg : decode c.code g.pc = .ok (.multianewarray index 2, 4)) {n k : Int32} {rest : List Value} (hstack : g.stack = .int k :: .int n :: rest)
    {G : State → State} (hG : ∀ S f, G (S.setTop f) = (G S).setTop f) (hGX : ∀ vm₁, s.WarmedH vm₁ → Stand p l e R s m args below meth c (G (T.setVm vm₁)) locs (cells + k9) (slots + s9))
    (hwp : ∀ (vm₁ : Vm), s.WarmedH vm₁ → ∀ (f : JFrame) (E : CtlPost) (d : Bool) (acts : List Action) (Q : Addr → Pre), (∀ d' acts', Q T.heap.size d' acts' (G ((T.setVm vm₁).setTop f))) → wp (multianewarray.make cA [n, k]) Q E e d acts ((T.setVm vm₁).setTop f)) :
    ∃ vm₁ : Vm, s.WarmedH vm₁ ∧ Stand p l e R s m args below meth c (G (T.setVm vm₁)) locs (cells + k9) (slots + s9) ∧
      ∀ target, Steps p.tables e below ((G (T.setVm vm₁)).setTop { g with pc := g.pc + 4, stack := .ref T.heap.size :: rest }) target → Steps p.tables e below (T.setTop g) target := by
  subst hg
  have hpl : e.platform.magicAccessors = ({} : Platform).magicAccessors := by rw [X.admits.platform]
  obtain ⟨c0, hfc0, hcl⟩ := Cond.classLink_spec hown hclink e.platform hpl
  cases hnameA.symm.trans hfc0
  obtain ⟨hg₁, hwarm₁, hready₁⟩ := State.classEntry (e := e) X.warmed hcl
  generalize T.vm.noted g.method.cls index (.cls cA) = vm₁ at hg₁ hwarm₁ hready₁
  have XF := hGX vm₁ hwarm₁
  refine ⟨vm₁, hwarm₁, XF, fun target hrest => ?_⟩
  jvm_step X.here [hexec, hdg]
  simp only [multianewarray.sem, wp_bind', W.resolveClassAt_links (State.method?_setTop g X.here.top) hg₁]
  rw [W.popN, if_neg (by decide)]
  refine ⟨g, State.topJava?_setTop' (s := T.setVm vm₁) g X.here.top, [.int n, .int k], rest, rfl, hstack, ?_⟩
  simp only [List.mapM_cons, List.mapM_nil, wp_bind', wp_pure']
  have eS : ((T.setTop g).setVm vm₁).setTop { g with stack := rest } = (T.setVm vm₁).setTop { g with stack := rest } := by
    show ((T.setVm vm₁).setTop g).setTop _ = _
    rw [State.setTop_setTop]
  rw [eS]
  refine hwp vm₁ hwarm₁ _ _ _ _ _ (fun d' acts' => ?_)
  rw [hG]
  simp only [wp_bind', W.mark, W.pushRef, State.topJava?_setTop' _ XF.here.top, Option.some.injEq, exists_eq_left', State.setTop_setTop, State.heap_setTop]
  intro acts
  simp [jvm, XF.here.top]
  exact hrest
theorem zmulti3 {T : State} {cells slots k9 s9 : Nat} (X : Stand p l e R s m args below meth c T locs cells slots) (hexec : p.tables.exec = Jvm.exec) {own nm : String} {cA : ClassId} {index : Nat}
    (hown : s.vm.findClass own = some m.cls) (hclink : (Cond.classLink own index nm).before args s = true) (hnameA : s.vm.findClass nm = some cA)
    {g : JFrame} (hg : g.method = m) (hdg : decode c.code g.pc = .ok (.multianewarray index 3, 4)) {n k j : Int32} {rest : List Value} (hstack : g.stack = .int j :: .int k :: .int n :: rest)
    {G : State → State} (hG : ∀ S f, G (S.setTop f) = (G S).setTop f) (hGX : ∀ vm₁, s.WarmedH vm₁ → Stand p l e R s m args below meth c (G (T.setVm vm₁)) locs (cells + k9) (slots + s9))
    (hwp : ∀ (vm₁ : Vm), s.WarmedH vm₁ → ∀ (f : JFrame) (E : CtlPost) (d : Bool) (acts : List Action) (Q : Addr → Pre), (∀ d' acts', Q T.heap.size d' acts' (G ((T.setVm vm₁).setTop f))) → wp (multianewarray.make cA [n, k, j]) Q E e d acts ((T.setVm vm₁).setTop f)) :
    ∃ vm₁ : Vm, s.WarmedH vm₁ ∧ Stand p l e R s m args below meth c (G (T.setVm vm₁)) locs (cells + k9) (slots + s9) ∧
      ∀ target, Steps p.tables e below ((G (T.setVm vm₁)).setTop { g with pc := g.pc + 4, stack := .ref T.heap.size :: rest }) target → Steps p.tables e below (T.setTop g) target := by
  subst hg
  have hpl : e.platform.magicAccessors = ({} : Platform).magicAccessors := by rw [X.admits.platform]
  obtain ⟨c0, hfc0, hcl⟩ := Cond.classLink_spec hown hclink e.platform hpl
  cases hnameA.symm.trans hfc0
  obtain ⟨hg₁, hwarm₁, hready₁⟩ := State.classEntry (e := e) X.warmed hcl
  generalize T.vm.noted g.method.cls index (.cls cA) = vm₁ at hg₁ hwarm₁ hready₁
  have XF := hGX vm₁ hwarm₁
  refine ⟨vm₁, hwarm₁, XF, fun target hrest => ?_⟩
  jvm_step X.here [hexec, hdg]
  simp only [multianewarray.sem, wp_bind', W.resolveClassAt_links (State.method?_setTop g X.here.top) hg₁]
  rw [W.popN, if_neg (by decide)]
  refine ⟨g, State.topJava?_setTop' (s := T.setVm vm₁) g X.here.top, [.int n, .int k, .int j], rest, rfl, hstack, ?_⟩
  simp only [List.mapM_cons, List.mapM_nil, wp_bind', wp_pure']
  have eS : ((T.setTop g).setVm vm₁).setTop { g with stack := rest } = (T.setVm vm₁).setTop { g with stack := rest } := by
    show ((T.setVm vm₁).setTop g).setTop _ = _
    rw [State.setTop_setTop]
  rw [eS]
  refine hwp vm₁ hwarm₁ _ _ _ _ _ (fun d' acts' => ?_)
  rw [hG]
  simp only [wp_bind', W.mark, W.pushRef, State.topJava?_setTop' _ XF.here.top, Option.some.injEq, exists_eq_left', State.setTop_setTop, State.heap_setTop]
  intro acts
  simp [jvm, XF.here.top]
  exact hrest
theorem zao_spec {args : Array Value} {first s : State} {o : Option Outcome} {idx : List Nat} {t : FieldType} (h : (Cond.arrayOver (.array t)).holds args first o s idx = true) :
    ∃ comp c k, s.vm.findClass (FieldType.array t).toString = some comp ∧ s.vm.classes[c]? = some k ∧ k.kind = .array comp (.array t) ∧ s.vm.findClass ("[" ++ (FieldType.array t).toString) = some c := by
  simp only [Cond.holds, Cond.value, beq_iff_eq] at h
  cases hc : s.vm.findClass (FieldType.array t).toString with
  | none => simp [hc] at h
  | some comp =>
    simp only [hc, Option.bind_some, Option.bind_eq_some_iff, Option.map_eq_some_iff] at h
    obtain ⟨c, hi, k, hk, hb⟩ := h
    obtain ⟨hlt, hp, -⟩ := Array.findIdx?_eq_some_iff_getElem.mp hi
    have hkk : s.vm.classes[c] = k := (Array.getElem?_eq_some_iff.mp hk).2
    rw [hkk] at hp
    cases hkind : k.kind with
    | array component ty =>
      rw [hkind] at hb hp
      simp at hb hp
      exact ⟨comp, c, k, rfl, hk, by rw [hkind, hp, hb.1], hb.2⟩
    | _ => rw [hkind] at hb; simp at hb
end ZST
/-- many new cells -/
theorem zw_H_many {E : ze_E} {n kk : Nat} {sh sh' : zk_S} {d d' : zm_D} {H H1 : Heap} (h : zw_H E n sh d H) (hz : H1.size = H.size + kk) (hk : ∀ q, q < H.size → H1[q]? = H[q]?) (hs : ∀ r : Nat, 1 ≤ r → r ≤ n → sh' r = sh r ∧ ∀ j, d' r j = d r j) (hs2 : ∀ r : Nat, n + kk < r → sh' r = sh r)
    (hn : ∀ q, q < kk → zw_at E d' H1 (n + 1 + q) (sh' ((n + 1 + q : Nat) : Int))) : zw_H E (n + kk) sh' d' H1 := by
  refine ⟨by rw [hz, h.1]; omega, fun r hr => ?_⟩
  by_cases e : r ≤ n
  · obtain ⟨e1, e2⟩ := hs r hr e
    rw [e1]
    exact zw_at_kept (zw_H_old h hk r hr) rfl e2
  · by_cases e3 : r ≤ n + kk
    · obtain ⟨q, rfl⟩ : ∃ q, r = n + 1 + q := ⟨r - (n + 1), by omega⟩
      exact hn q (by omega)
    · rw [hs2 r (by omega)]
      have h1 := h.2 r hr
      have hsz := h.1
      rcases hsr : sh r with _ | ci | ⟨ty, N⟩
      · trivial
      · rw [hsr] at h1
        obtain ⟨q, g1, cell, g3, -⟩ := h1
        have := (Array.getElem?_eq_some_iff.mp g3).1
        omega
      · rw [hsr] at h1
        have := (Array.getElem?_eq_some_iff.mp h1.1).1
        omega
theorem arrV_same {c : ClassId} {N : Nat} {f g : Nat → Value} (h : ∀ j, j < N → f j = g j) : arrV c N f = arrV c N g := by
  unfold arrV
  congr 1
  apply Array.ext
  · simp
  · intro i h1 h2
    simp only [Array.getElem_ofFn]
    exact h i (by simpa using h1)
theorem zv_rf (E : ze_E) (z : Int) (h : 0 < z) : va_rf (zv_ro E z) = .ref (ze_o E + (z.toNat - 1)) := by rw [zv_ro_pos h]; rfl
section EV13
variable {E : ze_E} {l : Launch} {M : zm_M} {D n u0 : Nat} {sh : zk_S} {d : zm_D} {kc ks pc : Nat} {L : zl_L} {st : List zv_V} {Q : ev_Q}
theorem zi_clamp {x : Int} (h : 0 ≤ x ∧ x ≤ 1000) : ¬ Int32.ofInt x < 0 ∧ (Int32.ofInt x).toNatClampNeg = x.toNat := by
  have hz : zi x := ⟨by omega, by omega⟩
  refine ⟨fun q => by have := (zi_lt hz zi_0).mp q; omega, ?_⟩
  show (Int32.ofInt x).toInt.toNat = _
  rw [zi_t hz]
set_option maxHeartbeats 2000000 in
theorem ev_multi2 {x y : Int} {idx kc2 ks2 : Nat} (hd : decode (zm_c M) pc = .ok (.multianewarray idx 2, 4)) (hl : Cond.classLink (zm_o M) idx "[[I" ∈ lw_g) (ha : Cond.arrayOver (.array .int) ∈ lw_g) (hc : Cond.arrayClass .int ∈ lw_g) (hx : 0 ≤ x ∧ x ≤ 1000) (hy : 0 ≤ y ∧ y ≤ 1000)
    (hkc : 1 + x.toNat + kc2 ≤ kc) (hks : x.toNat + x.toNat * y.toNat + ks2 ≤ ks)
    (kk : ev E l M D (n + 1 + x.toNat) (zmul2 (n, sh, d, u0) x.toNat y.toNat).2.1 (zmul2 (n, sh, d, u0) x.toNat y.toNat).2.2.1 kc2 ks2 (pc + 4) L (zv_a ((n : Int) + 1) :: st) Q) : ev E l M D n sh d kc ks pc L (zv_i y :: zv_i x :: st) Q := by
  intro p e R s m args below meth c H locs cells slots mc ms ls X T hT XS
  obtain ⟨r1, r2, h1, h2, r3, r4⟩ := X.2.2.2.2
  have hts := X.1.2.2.2.2.2.1
  have hsz := X.2.1.1
  have m2 : FieldType.array .int ∈ zk_aty := by decide +kernel
  have m1 : FieldType.int ∈ zk_aty := by decide +kernel
  have hRA2 : s.vm.findClass "[[I" = some (ze_t E (.array .int)) := (X.1.2.2.2.2.2.2.2.2.2.1.2.1 _ m2).2
  have hRA1 : s.vm.findClass "[I" = some (ze_t E .int) := (X.1.2.2.2.2.2.2.2.2.2.1.2.1 _ m1).2
  obtain ⟨comp, cA, kA, hcomp, hkA, hkindA, hnameA⟩ := zao_spec (hts _ ha)
  obtain ⟨comp', kC, cc, hcomp', hkC, hkindC⟩ := Cond.arrayClass_spec (hts _ hc)
  have ecomp : comp = ze_t E .int := Option.some.inj (hcomp.symm.trans hRA1)
  have ecomp' : comp' = ze_t E .int := Option.some.inj (hcomp'.symm.trans hRA1)
  have ecA : cA = ze_t E (.array .int) := Option.some.inj (hnameA.symm.trans hRA2)
  subst ecomp ecomp' ecA
  obtain ⟨cx, ex⟩ := zi_clamp hx
  obtain ⟨cy, ey⟩ := zi_clamp hy
  generalize hN : x.toNat = N at *
  generalize hK : y.toNat = K at *
  have hpA : e.platform.arrayLengthLimit = e.platform.arrayLengthLimit := rfl
  let inner : Cell := { cls := ze_t E .int, slots := Array.replicate K (defaultValue .int), vm := .none }
  have hin : inner.slots.size = K := by simp [inner]
  have hg1 : zGs 1 K (fun _ _ => inner) (fun S => S.pushCell inner) := by have := zGs_push inner; rwa [hin] at this
  have hg2 := zGs_F (c := ze_t E (.array .int)) (N := N) hg1 (by omega)
  have hl1 : ∀ z : Nat, z ≤ 1000 → ¬ z > e.platform.arrayLengthLimit := fun z hz => by rw [Launch.admits_arrayLengthLimit XS.admits]; omega
  have hh1 : ∀ z w : Nat, z ≤ 1000 → w ≤ 8 → ¬ z * w > e.platform.maxHeapBytes := fun z w hz hw => by
    rw [Launch.admits_maxHeapBytes XS.admits]
    have := Nat.mul_le_mul hz hw
    omega
  have hNK : 1 + N * 1 = 1 + N := by omega
  obtain ⟨hr1, hr2⟩ := XS.roomAbove (a := 1 + N * 1) (b := N + N * K) (by omega) (by omega)
  obtain ⟨vm₁, hW₁, XF, step⟩ := zmulti2 XS X.1.1 X.1.2.2.2.2.1 (hts _ hl) hRA2 (g := F0 m pc ls (((zv_i y :: zv_i x :: st)).map (zv_c E))) rfl (by rw [X.1.2.1]; exact hd) (n := Int32.ofInt x) (k := Int32.ofInt y) (rest := st.map (zv_c E)) rfl
    (G := fun S => zF (ze_t E (.array .int)) N 1 (fun S => S.pushCell inner) S N) (k9 := 1 + N * 1) (s9 := N + N * K) (fun S f => (hg2 S).2.2.2.2.2 f)
    (fun vm₁ hW => by
      have h9 := zSt_F (cA := ze_t E (.array .int)) (N := N) hg1 (fun T cells slots Z => by have := Z.pushed inner; rwa [hin] at this) (XS.noted hW) N
      have e1 : cells + (1 + N * 1) = cells + 1 + N * 1 := by omega
      have e2 : slots + (N + N * K) = slots + N + N * K := by omega
      rw [e1, e2]; exact h9)
    (fun vm₁ hW f E9 d9 a9 Q9 hQ9 => by
      obtain ⟨kA₁, hkA₁, heA⟩ := hW.alike.2.2 _ _ hkA
      obtain ⟨kC₁, hkC₁, heC⟩ := hW.alike.2.2 _ _ hkC
      refine zwp_makeN (kk := 1) (ks := K) (g := fun S => S.pushCell inner) (C := fun _ _ => inner) (k := kA₁) (comp := ze_t E .int) (t0 := .array .int) hkA₁ (by rw [heA]; exact hkindA) rfl cx (by rw [ex]; exact hl1 _ (by omega)) (by rw [ex]; exact hh1 _ _ (by omega) (by decide)) hg1 (by simp [cy])
        (fun s' d' acts' Q' e1 e2 e3 e4 => ?_) (by rw [ex]; show T.heap.size + 1 + N * 1 ≤ _; omega) (by rw [ex]; show T.slotsUsed + N + N * K ≤ _; omega) (fun d' acts' => ?_)
      · refine zwp_make1 (kc := kC₁) (cc := cc) (type := .int) (by rw [e1]; exact hkC₁) (by rw [heC]; exact hkindC) cy (by rw [ey]; exact hl1 _ (by omega)) (by rw [ey]; exact hh1 _ _ (by omega) (by decide)) rfl rfl (by omega) (by rw [ey]; exact e3) ?_
        rw [ey]
        exact e4 _ _
      · rw [ex]
        exact hQ9 d' acts')
  obtain ⟨f1, f2, f3, f4, f5, f6⟩ := hg2 (T.setVm vm₁)
  have hTh : (T.setVm vm₁).heap = H := hT
  dsimp only at f1 f4 f5 XF step
  rw [hTh] at f1 f4 f5
  generalize hF : zF (ze_t E (.array .int)) N 1 (fun S => S.pushCell inner) (T.setVm vm₁) N = F at *
  have hro : zv_c E (zv_a ((n : Int) + 1)) = .ref T.heap.size := by
    show va_rf (zv_ro E ((n : Int) + 1)) = _
    rw [zv_rf _ _ (by omega), hT, hsz]
    congr 1
  have hH1 : zw_H E (n + (1 + N * 1)) (zmul2 (n, sh, d, u0) N K).2.1 (zmul2 (n, sh, d, u0) N K).2.2.1 F.heap := by
    refine zw_H_many X.2.1 f1 f4 (fun r q1 q2 => ⟨?_, fun j => ?_⟩) (fun r q => ?_) (fun q hq => ?_)
    · unfold zmul2; dsimp only
      rw [if_neg (by omega), if_neg (by omega)]
    · unfold zmul2; dsimp only
      rw [if_neg (by omega)]
    · unfold zmul2; dsimp only
      rw [if_neg (by omega), if_neg (by omega)]
    · have hcell := f5 q hq
      by_cases h0 : q = 0
      · subst h0
        rw [if_pos rfl] at hcell
        have hs9 : (zmul2 (n, sh, d, u0) N K).2.1 ((n + 1 + 0 : Nat) : Int) = some (.inr (.array .int, N)) := by
          unfold zmul2; dsimp only
          rw [if_pos (by omega)]
        rw [hs9]
        refine ⟨?_, m2⟩
        rw [show ze_o E + (n + 1 + 0 - 1) = H.size + 0 by omega, hcell]
        refine congrArg some (arrV_same (fun j hj => ?_))
        rw [if_pos hj]
        show _ = va_rf (zv_ro E _)
        have hd9 : (zmul2 (n, sh, d, u0) N K).2.2.1 ((n + 1 + 0 : Nat) : Int) (j : Int) = (n : Int) + 2 + j := by
          unfold zmul2; dsimp only
          rw [if_pos (by omega), if_pos ⟨by omega, by omega, by omega⟩]
        rw [hd9, zv_rf _ _ (by omega)]
        have e7 : ((n : Int) + 2 + j).toNat = n + 2 + j := by omega
        rw [e7]
        show Value.ref _ = Value.ref _
        congr 1
        have e8 : H.size + 1 + j * 1 = ze_o E + (n + 2 + j - 1) := by omega
        exact e8
      · rw [if_neg h0] at hcell
        have hs9 : (zmul2 (n, sh, d, u0) N K).2.1 ((n + 1 + q : Nat) : Int) = some (.inr (.int, K)) := by
          unfold zmul2; dsimp only
          rw [if_neg (by omega), if_pos ⟨by omega, by omega⟩]
        rw [hs9]
        refine ⟨?_, m1⟩
        rw [show ze_o E + (n + 1 + q - 1) = H.size + q by omega, hcell]
        have hinner : inner = arrV (ze_t E .int) K (fun _ => .int 0) := arrV_new _ _ _
        rw [hinner]
        refine congrArg some (arrV_same (fun j hj => ?_))
        have hd9 : (zmul2 (n, sh, d, u0) N K).2.2.1 ((n + 1 + q : Nat) : Int) (j : Int) = 0 := by
          unfold zmul2; dsimp only
          rw [if_pos (by omega), if_neg (by omega)]
        rw [hd9]
        rfl
  obtain ⟨t, a1, b1⟩ := kk p e R s m args below meth c F.heap locs (cells + (1 + N * 1)) (slots + (N + N * K)) mc ms ls ⟨X.1, by rw [show n + 1 + N = n + (1 + N * 1) by omega]; exact hH1, ⟨by rw [f1]; exact Nat.le_trans X.2.2.1.1 (by omega), fun q g1 g2 => (f4 q (Nat.lt_of_lt_of_le g1 X.2.2.1.1)).trans (X.2.2.1.2.1 q g1 g2), X.2.2.1.2.2⟩, X.2.2.2.1, r1, r2, by omega, by omega, r3, r4⟩ F rfl XF
  simp only [List.map_cons, hro] at a1
  exact ⟨t, step t a1, b1⟩
set_option maxHeartbeats 4000000 in
theorem ev_multi3 {x y z : Int} {idx kc2 ks2 : Nat} (hd : decode (zm_c M) pc = .ok (.multianewarray idx 3, 4)) (hl : Cond.classLink (zm_o M) idx "[[[I" ∈ lw_g) (ha0 : Cond.arrayOver (.array (.array .int)) ∈ lw_g) (ha : Cond.arrayOver (.array .int) ∈ lw_g) (hc : Cond.arrayClass .int ∈ lw_g) (hx : 0 ≤ x ∧ x ≤ 100) (hy : 0 ≤ y ∧ y ≤ 100) (hz9 : 0 ≤ z ∧ z ≤ 100)
    (hkc : 1 + x.toNat * (y.toNat + 1) + kc2 ≤ kc) (hks : x.toNat + x.toNat * y.toNat + x.toNat * y.toNat * z.toNat + ks2 ≤ ks)
    (kk : ev E l M D (n + 1 + x.toNat * (y.toNat + 1)) (zmul3 (n, sh, d, u0) x.toNat y.toNat z.toNat).2.1 (zmul3 (n, sh, d, u0) x.toNat y.toNat z.toNat).2.2.1 kc2 ks2 (pc + 4) L (zv_a ((n : Int) + 1) :: st) Q) : ev E l M D n sh d kc ks pc L (zv_i z :: zv_i y :: zv_i x :: st) Q := by
  intro p e R s m args below meth c H locs cells slots mc ms ls X T hT XS
  obtain ⟨r1, r2, h1, h2, r3, r4⟩ := X.2.2.2.2
  have hts := X.1.2.2.2.2.2.1
  have hsz := X.2.1.1
  have m3 : FieldType.array (.array .int) ∈ zk_aty := by decide +kernel
  have m2 : FieldType.array .int ∈ zk_aty := by decide +kernel
  have m1 : FieldType.int ∈ zk_aty := by decide +kernel
  have hRA3 : s.vm.findClass "[[[I" = some (ze_t E (.array (.array .int))) := (X.1.2.2.2.2.2.2.2.2.2.1.2.1 _ m3).2
  have hRA2 : s.vm.findClass "[[I" = some (ze_t E (.array .int)) := (X.1.2.2.2.2.2.2.2.2.2.1.2.1 _ m2).2
  have hRA1 : s.vm.findClass "[I" = some (ze_t E .int) := (X.1.2.2.2.2.2.2.2.2.2.1.2.1 _ m1).2
  obtain ⟨compO, cO, kO, hcompO, hkO, hkindO, hnameO⟩ := zao_spec (hts _ ha0)
  obtain ⟨comp, cA, kA, hcomp, hkA, hkindA, hnameA⟩ := zao_spec (hts _ ha)
  obtain ⟨comp', kC, cc, hcomp', hkC, hkindC⟩ := Cond.arrayClass_spec (hts _ hc)
  have e1 : compO = ze_t E (.array .int) := Option.some.inj (hcompO.symm.trans hRA2)
  have e2 : cO = ze_t E (.array (.array .int)) := Option.some.inj (hnameO.symm.trans hRA3)
  have e3 : comp = ze_t E .int := Option.some.inj (hcomp.symm.trans hRA1)
  have e4 : comp' = ze_t E .int := Option.some.inj (hcomp'.symm.trans hRA1)
  have e5 : cA = ze_t E (.array .int) := Option.some.inj (hnameA.symm.trans hRA2)
  subst e1 e2 e3 e4 e5
  obtain ⟨cx, ex⟩ := zi_clamp (x := x) ⟨hx.1, by omega⟩
  obtain ⟨cy, ey⟩ := zi_clamp (x := y) ⟨hy.1, by omega⟩
  obtain ⟨cz, ez⟩ := zi_clamp (x := z) ⟨hz9.1, by omega⟩
  have bx : x.toNat ≤ 100 := by omega
  have by9 : y.toNat ≤ 100 := by omega
  have bz : z.toNat ≤ 100 := by omega
  generalize hN : x.toNat = N at *
  generalize hK : y.toNat = K at *
  generalize hJ : z.toNat = J at *
  let inner : Cell := { cls := ze_t E .int, slots := Array.replicate J (defaultValue .int), vm := .none }
  have hin : inner.slots.size = J := by simp [inner]
  have hg1 : zGs 1 J (fun _ _ => inner) (fun S => S.pushCell inner) := by have := zGs_push inner; rwa [hin] at this
  have hg2 := zGs_F (c := ze_t E (.array .int)) (N := K) hg1 (by omega)
  rw [show 1 + K * 1 = K + 1 by omega] at hg2
  have hg3 := zGs_F (c := ze_t E (.array (.array .int))) (N := N) hg2 (by omega)
  have hl1 : ∀ w : Nat, w ≤ 1000 → ¬ w > e.platform.arrayLengthLimit := fun w hw => by rw [Launch.admits_arrayLengthLimit XS.admits]; omega
  have hh1 : ∀ v w : Nat, v ≤ 1000 → w ≤ 8 → ¬ v * w > e.platform.maxHeapBytes := fun v w hv hw => by
    rw [Launch.admits_maxHeapBytes XS.admits]
    have := Nat.mul_le_mul hv hw
    omega
  have hNK : N * (K + K * J) = N * K + N * K * J := by rw [Nat.mul_add, Nat.mul_assoc]
  obtain ⟨hr1, hr2⟩ := XS.roomAbove (a := 1 + N * (K + 1)) (b := N + N * (K + K * J)) (by omega) (by omega)
  obtain ⟨vm₁, hW₁, XF, step⟩ := zmulti3 XS X.1.1 X.1.2.2.2.2.1 (hts _ hl) hRA3 (g := F0 m pc ls (((zv_i z :: zv_i y :: zv_i x :: st)).map (zv_c E))) rfl (by rw [X.1.2.1]; exact hd) (n := Int32.ofInt x) (k := Int32.ofInt y) (j := Int32.ofInt z) (rest := st.map (zv_c E)) rfl
    (G := fun S => zF (ze_t E (.array (.array .int))) N (K + 1) (fun S => zF (ze_t E (.array .int)) K 1 (fun S => S.pushCell inner) S K) S N) (k9 := 1 + N * (K + 1)) (s9 := N + N * (K + K * J)) (fun S f => (hg3 S).2.2.2.2.2 f)
    (fun vm₁ hW => by
      have h9 := zSt_F (cA := ze_t E (.array (.array .int))) (N := N) hg2 (fun T cells slots Z => by
        have h8 := zSt_F (cA := ze_t E (.array .int)) (N := K) hg1 (fun T cells slots Z => by have := Z.pushed inner; rwa [hin] at this) Z K
        have e1 : cells + (K + 1) = cells + 1 + K * 1 := by omega
        have e2 : slots + (K + K * J) = slots + K + K * J := by omega
        rw [e1, e2]; exact h8) (XS.noted hW) N
      have e1 : cells + (1 + N * (K + 1)) = cells + 1 + N * (K + 1) := by omega
      have e2 : slots + (N + N * (K + K * J)) = slots + N + N * (K + K * J) := by omega
      rw [e1, e2]; exact h9)
    (fun vm₁ hW f E9 d9 a9 Q9 hQ9 => by
      obtain ⟨kO₁, hkO₁, heO⟩ := hW.alike.2.2 _ _ hkO
      obtain ⟨kA₁, hkA₁, heA⟩ := hW.alike.2.2 _ _ hkA
      obtain ⟨kC₁, hkC₁, heC⟩ := hW.alike.2.2 _ _ hkC
      refine zwp_makeN (kk := K + 1) (ks := K + K * J) (g := fun S => zF (ze_t E (.array .int)) K 1 (fun S => S.pushCell inner) S K) (k := kO₁) (comp := ze_t E (.array .int)) (t0 := .array (.array .int)) hkO₁ (by rw [heO]; exact hkindO) rfl cx (by rw [ex]; exact hl1 _ (by omega)) (by rw [ex]; exact hh1 _ _ (by omega) (by decide)) hg2 (by simp [cy, cz])
        (fun s' d' acts' Q' w1 w2 w3 w4 => ?_) (by rw [ex]; show T.heap.size + 1 + N * (K + 1) ≤ _; omega) (by rw [ex]; show T.slotsUsed + N + N * (K + K * J) ≤ _; omega) (fun d' acts' => ?_)
      · refine zwp_makeN (kk := 1) (ks := J) (g := fun S => S.pushCell inner) (C := fun _ _ => inner) (k := kA₁) (comp := ze_t E .int) (t0 := .array .int) (by rw [w1]; exact hkA₁) (by rw [heA]; exact hkindA) rfl cy (by rw [ey]; exact hl1 _ (by omega)) (by rw [ey]; exact hh1 _ _ (by omega) (by decide)) hg1 (by simp [cz])
          (fun s' d' acts' Q' v1 v2 v3 v4 => ?_) (by rw [ey]; omega) (by rw [ey]; omega) (fun d' acts' => ?_)
        · refine zwp_make1 (kc := kC₁) (cc := cc) (type := .int) (by rw [v1, w1]; exact hkC₁) (by rw [heC]; exact hkindC) cz (by rw [ez]; exact hl1 _ (by omega)) (by rw [ez]; exact hh1 _ _ (by omega) (by decide)) rfl rfl (by omega) (by rw [ez]; exact v3) ?_
          rw [ez]
          exact v4 _ _
        · rw [ey]
          exact w4 d' acts'
      · rw [ex]
        exact hQ9 d' acts')
  obtain ⟨f1, f2, f3, f4, f5, f6⟩ := hg3 (T.setVm vm₁)
  have hTh : (T.setVm vm₁).heap = H := hT
  dsimp only at f1 f4 f5 XF step
  rw [hTh] at f1 f4 f5
  generalize hF : zF (ze_t E (.array (.array .int))) N (K + 1) (fun S => zF (ze_t E (.array .int)) K 1 (fun S => S.pushCell inner) S K) (T.setVm vm₁) N = F at *
  have hro : zv_c E (zv_a ((n : Int) + 1)) = .ref T.heap.size := by
    show va_rf (zv_ro E ((n : Int) + 1)) = _
    rw [zv_rf _ _ (by omega), hT, hsz]
    congr 1
  have hcast : ((N * (K + 1) : Nat) : Int) = (N : Int) * ((K : Int) + 1) := by rw [Int.natCast_mul]; rfl
  have hH1 : zw_H E (n + (1 + N * (K + 1))) (zmul3 (n, sh, d, u0) N K J).2.1 (zmul3 (n, sh, d, u0) N K J).2.2.1 F.heap := by
    refine zw_H_many X.2.1 f1 f4 (fun r q1 q2 => ⟨?_, fun j => ?_⟩) (fun r q => ?_) (fun q hq => ?_)
    · unfold zmul3; dsimp only
      rw [if_neg (by omega), if_neg (by omega)]
    · unfold zmul3; dsimp only
      rw [if_neg (by omega)]
    · unfold zmul3; dsimp only
      rw [if_neg (by omega), if_neg (by rw [← hcast]; omega)]
    · have hcell := f5 q hq
      by_cases h0 : q = 0
      · subst h0
        rw [if_pos rfl] at hcell
        have hs9 : (zmul3 (n, sh, d, u0) N K J).2.1 ((n + 1 + 0 : Nat) : Int) = some (.inr (.array (.array .int), N)) := by
          unfold zmul3; dsimp only
          rw [if_pos (by omega)]
        rw [hs9]
        refine ⟨?_, m3⟩
        rw [show ze_o E + (n + 1 + 0 - 1) = H.size + 0 by omega, hcell]
        refine congrArg some (arrV_same (fun j hj => ?_))
        rw [if_pos hj]
        show _ = va_rf (zv_ro E _)
        have hd9 : (zmul3 (n, sh, d, u0) N K J).2.2.1 ((n + 1 + 0 : Nat) : Int) (j : Int) = (n : Int) + 2 + (j : Int) * ((K : Int) + 1) := by
          unfold zmul3; dsimp only
          rw [if_pos (by omega), if_pos ⟨by omega, by omega, by omega⟩]
        have hcj : ((j * (K + 1) : Nat) : Int) = (j : Int) * ((K : Int) + 1) := by rw [Int.natCast_mul]; rfl
        rw [hd9, ← hcj, zv_rf _ _ (by omega)]
        have e7 : ((n : Int) + 2 + ((j * (K + 1) : Nat) : Int)).toNat = n + 2 + j * (K + 1) := by omega
        rw [e7]
        show Value.ref _ = Value.ref _
        congr 1
        have e8 : H.size + 1 + j * (K + 1) = ze_o E + (n + 2 + j * (K + 1) - 1) := by omega
        exact e8
      · rw [if_neg h0] at hcell
        have hdm := Nat.div_add_mod (q - 1) (K + 1)
        have hlt := Nat.mod_lt (q - 1) (show 0 < K + 1 by omega)
        have hmc : (((n + 1 + q : Nat) : Int) - ((n : Int) + 2)) % ((K : Int) + 1) = (((q - 1) % (K + 1) : Nat) : Int) := by
          rw [show ((n + 1 + q : Nat) : Int) - ((n : Int) + 2) = ((q - 1 : Nat) : Int) by omega, Int.natCast_emod]; rfl
        have hin9 : (n : Int) + 2 ≤ ((n + 1 + q : Nat) : Int) ∧ ((n + 1 + q : Nat) : Int) < (n : Int) + 2 + (N : Int) * ((K : Int) + 1) := by rw [← hcast]; omega
        have hgt : ¬ ((n + 1 + q : Nat) : Int) = (n : Int) + 1 := by omega
        by_cases hm0 : (q - 1) % (K + 1) = 0
        · rw [if_pos hm0] at hcell
          have hs9 : (zmul3 (n, sh, d, u0) N K J).2.1 ((n + 1 + q : Nat) : Int) = some (.inr (.array .int, K)) := by
            unfold zmul3; dsimp only
            rw [if_neg hgt, if_pos hin9, if_pos (by rw [hmc, hm0]; rfl)]
          rw [hs9]
          refine ⟨?_, m2⟩
          rw [show ze_o E + (n + 1 + q - 1) = H.size + q by omega, hcell]
          refine congrArg some (arrV_same (fun j hj => ?_))
          rw [if_pos hj]
          show _ = va_rf (zv_ro E _)
          have hd9 : (zmul3 (n, sh, d, u0) N K J).2.2.1 ((n + 1 + q : Nat) : Int) (j : Int) = ((n + 1 + q : Nat) : Int) + 1 + j := by
            unfold zmul3; dsimp only
            rw [if_pos (by omega), if_neg (fun w => hgt w.1), if_pos ⟨⟨hin9.2, hin9.1⟩, by rw [hmc, hm0]; rfl, by omega, by omega⟩]
          rw [hd9, zv_rf _ _ (by omega)]
          have e7 : (((n + 1 + q : Nat) : Int) + 1 + (j : Int)).toNat = n + 1 + q + 1 + j := by omega
          rw [e7]
          show Value.ref _ = Value.ref _
          congr 1
          rw [hm0] at hdm
          rw [Nat.mul_comm] at hdm
          have e8 : H.size + 1 + (q - 1) / (K + 1) * (K + 1) + 1 + j * 1 = ze_o E + (n + 1 + q + 1 + j - 1) := by omega
          exact e8
        · rw [if_neg hm0] at hcell
          have hm9 : ¬ (((n + 1 + q : Nat) : Int) - ((n : Int) + 2)) % ((K : Int) + 1) = 0 := by rw [hmc]; omega
          have hs9 : (zmul3 (n, sh, d, u0) N K J).2.1 ((n + 1 + q : Nat) : Int) = some (.inr (.int, J)) := by
            unfold zmul3; dsimp only
            rw [if_neg hgt, if_pos hin9, if_neg hm9]
          rw [hs9]
          refine ⟨?_, m1⟩
          rw [show ze_o E + (n + 1 + q - 1) = H.size + q by omega, hcell]
          have hinner : inner = arrV (ze_t E .int) J (fun _ => .int 0) := arrV_new _ _ _
          rw [hinner]
          refine congrArg some (arrV_same (fun j hj => ?_))
          have hd9 : (zmul3 (n, sh, d, u0) N K J).2.2.1 ((n + 1 + q : Nat) : Int) (j : Int) = 0 := by
            unfold zmul3; dsimp only
            rw [if_pos (by omega), if_neg (fun w => hgt w.1), if_neg (fun w => hm9 w.2.1)]
          rw [hd9]
          rfl
  obtain ⟨t, a1, b1⟩ := kk p e R s m args below meth c F.heap locs (cells + (1 + N * (K + 1))) (slots + (N + N * (K + K * J))) mc ms ls ⟨X.1, by rw [show n + 1 + N * (K + 1) = n + (1 + N * (K + 1)) by omega]; exact hH1, ⟨by rw [f1]; exact Nat.le_trans X.2.2.1.1 (by omega), fun q g1 g2 => (f4 q (Nat.lt_of_lt_of_le g1 X.2.2.1.1)).trans (X.2.2.1.2.1 q g1 g2), X.2.2.1.2.2⟩, X.2.2.2.1, r1, r2, by omega, by omega, r3, r4⟩ F rfl XF
  simp only [List.map_cons, hro] at a1
  exact ⟨t, step t a1, b1⟩
end EV13
