/-! ===== SOUND: what the interpreter says is what the machine does ===== -/
def zdk (M : zm_M) (pc : Nat) (i : Instr) (len : Nat) : Option Nat := if decode (zm_c M) pc = .ok (i, len) then some len else none
theorem zdk_ok {M : zm_M} {pc len len' : Nat} {i : Instr} (h : zdk M pc i len = some len') : decode (zm_c M) pc = .ok (i, len) ∧ len' = len := by
  unfold zdk at h
  split at h
  · rename_i q
    exact ⟨q, (Option.some.inj h).symm⟩
  · cases h
def zgd (b : Bool) (x : Option Nat) : Option Nat := if b = true then x else none
theorem zgd_ok {b : Bool} {x : Option Nat} {n : Nat} (h : zgd b x = some n) : b = true ∧ x = some n := by
  unfold zgd at h
  split at h
  · rename_i q
    exact ⟨q, h⟩
  · cases h
theorem zfin {a : Nat} (h : a < 4) : ((Fin.ofNat 4 a : Fin 4) : Nat) = a := Nat.mod_eq_of_lt h
/-- the locals as pairs -/
def zlp : Nat → zN → zl_L
  | _, [] => []
  | i, v :: L => (i, v) :: zlp (i + 1) L
theorem zlp_get : ∀ (L : zN) (i j : Nat), zl_get (zlp i L) (i + j) = zget L j
  | [], i, j => by cases j <;> rfl
  | v :: L, i, 0 => by simp [zlp, zl_get, zget]
  | v :: L, i, j + 1 => by
    have hb : Nat.beq i (i + (j + 1)) = false := zn_beq (by omega)
    simp only [zlp, zl_get, hb, cond_false, zget]
    rw [show i + (j + 1) = (i + 1) + j by omega]
    exact zlp_get L (i + 1) j
theorem zlp_0 (L : zN) (j : Nat) : zl_get (zlp 0 L) j = zget L j := by
  have := zlp_get L 0 j
  rwa [Nat.zero_add] at this
theorem zget_none : ∀ {L : zN} {j : Nat}, L.length ≤ j → zget L j = none
  | [], j, _ => by cases j <;> rfl
  | _ :: L, 0, h => by simp at h
  | _ :: L, j + 1, h => zget_none (L := L) (by simpa using h)
theorem zk1_some {x : Option zv_V} {v : zv_V} (h : zk1 x = some v) : x = some v ∧ zv_k v = 1 := by
  rcases x with _ | (x | x) | (x | (x | x)) <;> simp [zk1] at h <;> subst h <;> exact ⟨rfl, rfl⟩
theorem zst1_len : ∀ (L : zN) (a : Nat) (v : zv_V), (zst1 L a v).length = L.length
  | [], a, v => by cases a <;> rfl
  | _ :: L, 0, v => rfl
  | x :: L, 1, v => by simp [zst1, zst1_len L 0 v]
  | x :: L, n + 2, v => by simp [zst1, zst1_len L (n + 1) v]
theorem zst2_len : ∀ (L : zN) (a : Nat) (v : zv_V), (zst2 L a v).length = L.length
  | [], a, v => by cases a <;> rfl
  | [_], 0, v => rfl
  | _ :: _ :: L, 0, v => rfl
  | x :: L, 1, v => by rw [zst2_1]; simp [zst2_len L 0 v]
  | x :: L, n + 2, v => by rw [zst2_s]; simp [zst2_len L (n + 1) v]
theorem zst1_get : ∀ (L : zN) (a : Nat) (v : zv_V) (i : Nat) (w : zv_V), zget (zst1 L a v) i = some w → (i = a ∧ w = v) ∨ (i ≠ a ∧ zget L i = some w ∧ (i + 1 = a → zv_k w = 1))
  | [], a, v, i, w, h => by
    rw [zget_none (by rw [zst1_len]; exact Nat.zero_le _)] at h
    cases h
  | _ :: L, 0, v, 0, w, h => Or.inl ⟨rfl, (Option.some.inj h).symm⟩
  | _ :: L, 0, v, i + 1, w, h => Or.inr ⟨by omega, h, by omega⟩
  | x :: L, 1, v, 0, w, h => by
    obtain ⟨h1, h2⟩ := zk1_some h
    exact Or.inr ⟨by omega, h1, fun _ => h2⟩
  | x :: L, 1, v, i + 1, w, h => by
    rcases zst1_get L 0 v i w h with ⟨rfl, rfl⟩ | ⟨h1, h2, h3⟩
    · exact Or.inl ⟨rfl, rfl⟩
    · exact Or.inr ⟨by omega, h2, by omega⟩
  | x :: L, n + 2, v, 0, w, h => Or.inr ⟨by omega, h, by omega⟩
  | x :: L, n + 2, v, i + 1, w, h => by
    rcases zst1_get L (n + 1) v i w h with ⟨rfl, rfl⟩ | ⟨h1, h2, h3⟩
    · exact Or.inl ⟨rfl, rfl⟩
    · exact Or.inr ⟨by omega, h2, fun q => h3 (by omega)⟩
theorem zst2_get : ∀ (L : zN) (a : Nat) (v : zv_V) (i : Nat) (w : zv_V), zget (zst2 L a v) i = some w → (i = a ∧ w = v) ∨ (i ≠ a ∧ i ≠ a + 1 ∧ zget L i = some w ∧ (i + 1 = a → zv_k w = 1))
  | [], a, v, i, w, h => by
    rw [zget_none (by rw [zst2_len]; exact Nat.zero_le _)] at h
    cases h
  | [_], 0, v, 0, w, h => by cases h
  | [_], 0, v, i + 1, w, h => by cases i <;> cases h
  | _ :: _ :: L, 0, v, 0, w, h => Or.inl ⟨rfl, (Option.some.inj h).symm⟩
  | _ :: _ :: L, 0, v, 1, w, h => by cases h
  | _ :: _ :: L, 0, v, i + 2, w, h => Or.inr ⟨by omega, by omega, h, by omega⟩
  | x :: L, 1, v, 0, w, h => by
    rw [zst2_1] at h
    obtain ⟨h1, h2⟩ := zk1_some h
    exact Or.inr ⟨by omega, by omega, h1, fun _ => h2⟩
  | x :: L, 1, v, i + 1, w, h => by
    rw [zst2_1] at h
    rcases zst2_get L 0 v i w h with ⟨rfl, rfl⟩ | ⟨h1, h2, h3, h4⟩
    · exact Or.inl ⟨rfl, rfl⟩
    · exact Or.inr ⟨by omega, by omega, h3, by omega⟩
  | x :: L, n + 2, v, 0, w, h => by
    rw [zst2_s] at h
    exact Or.inr ⟨by omega, by omega, h, by omega⟩
  | x :: L, n + 2, v, i + 1, w, h => by
    rw [zst2_s] at h
    rcases zst2_get L (n + 1) v i w h with ⟨rfl, rfl⟩ | ⟨h1, h2, h3, h4⟩
    · exact Or.inl ⟨rfl, rfl⟩
    · exact Or.inr ⟨by omega, by omega, h3, fun q => h4 (by omega)⟩
/-- without what would be cut by a store at a -/
def zdr (L : zN) (a : Nat) : zl_L := (zlp 0 L).map (fun q => (q.1, if q.1 + 1 = a then zk1 q.2 else q.2))
theorem zdr_aux : ∀ (L : zN) (a i j : Nat), zl_get ((zlp i L).map (fun q => (q.1, if q.1 + 1 = a then zk1 q.2 else q.2))) (i + j) = if i + j + 1 = a then zk1 (zget L j) else zget L j
  | [], a, i, j => by cases j <;> simp [zlp, zl_get, zget, zk1]
  | v :: L, a, i, 0 => by simp [zlp, zl_get, zget]
  | v :: L, a, i, j + 1 => by
    have hb : Nat.beq i (i + (j + 1)) = false := zn_beq (by omega)
    simp only [zlp, List.map_cons, zl_get, hb, cond_false, zget]
    rw [show i + (j + 1) = (i + 1) + j by omega]
    exact zdr_aux L a (i + 1) j
theorem zdr_get (L : zN) (a j : Nat) : zl_get (zdr L a) j = if j + 1 = a then zk1 (zget L j) else zget L j := by
  have := zdr_aux L a 0 j
  simpa [zdr, Nat.zero_add] using this
theorem zdr_o (L : zN) (a : Nat) : zl_o (zdr L a) a = true := by
  cases a with
  | zero => rfl
  | succ j =>
    show (match zl_get (zdr L (j + 1)) j with
      | some w => Nat.beq (zv_k w) 1
      | none => true) = true
    rw [zdr_get, if_pos rfl]
    split
    · rename_i v h
      rw [(zk1_some h).2]; rfl
    · rfl
theorem zw_of (x : Int) : Int32.ofInt (zw x) = Int32.ofInt x := by
  rw [← Int32.toInt_inj, Int32.toInt_ofInt, Int32.toInt_ofInt]
  show Int.bmod (zw x) 4294967296 = Int.bmod x 4294967296
  unfold zw Int.bmod
  dsimp only
  split <;> split <;> omega
theorem zwl_of (x : Int) : Int64.ofInt (zwl x) = Int64.ofInt x := by
  rw [← Int64.toInt_inj, Int64.toInt_ofInt, Int64.toInt_ofInt]
  show Int.bmod (zwl x) 18446744073709551616 = Int.bmod x 18446744073709551616
  unfold zwl Int.bmod
  dsimp only
  split <;> split <;> omega
theorem zw_i (x : Int) : zi (zw x) := by unfold zi zw; omega
theorem zwl_j (x : Int) : zj (zwl x) := by unfold zj zwl; omega
theorem zc_w (E : ze_E) (x : Int) : zv_c E (zv_i (zw x)) = zv_c E (zv_i x) := congrArg Value.int (zw_of x)
theorem zc_wl (E : ze_E) (x : Int) : zv_c E (zv_l (zwl x)) = zv_c E (zv_l x) := congrArg Value.long (zwl_of x)
def zsE (E : ze_E) : zSs := (ze_L E, fun i => (ze_x E i).toInt)
def zQx (r : zRr) : ev_Q := fun o n sh d => (match o with | .inl v => r.1 = .inl v | .inr s => ∃ x, r.1 = .inr x ∧ s = zxn x) ∧ n = r.2.1 ∧ sh = r.2.2.1 ∧ d = r.2.2.2.1
def zG (E : ze_E) (l : Launch) (m D pc : Nat) (L : zN) (st : List zv_V) (n : Nat) (sh : zk_S) (d : zm_D) (u : Nat) (r : zRr) : Prop :=
  n ≤ r.2.1 ∧ u ≤ r.2.2.2.2 ∧ ∀ kc ks, r.2.1 ≤ n + kc → r.2.2.2.2 ≤ u + ks → ev E l (zMM m) D n sh d kc ks pc (zlp 0 L) st (zQx r)
def zC (E : ze_E) (l : Launch) (m D : Nat) (As : List zv_V) (n : Nat) (sh : zk_S) (d : zm_D) (u : Nat) (r : zRr) : Prop :=
  n ≤ r.2.1 ∧ u ≤ r.2.2.2.2 ∧ ∀ kc ks, r.2.1 ≤ n + kc → r.2.2.2.2 ≤ u + ks → mt E l (zMM m) D kc ks n sh d As (zQx r)
abbrev zCk : Type := Nat → Nat → Nat → Nat → Nat → Int → Option Nat
/-- an operation is sound, by its check -/
def zSd (f : zOo) (ck : zCk) (tm : Bool) : Prop := ∀ (E : ze_E) (l : Launch) (S : zSs) (m pc a b c D len : Nat) (k : Int) (L : zN) (st : List zv_V) (n : Nat) (sh : zk_S) (d : zm_D) (u : Nat) (r : zRr) (next : zKk) (jump : Nat → zKk) (call : Nat → List zv_V → zMm → Option zRr),
  l.stackTraces = false → (S = zsE E ∧ ze_L E ≤ 1000000) → ck m pc a b c k = some len → L.length = znl m →
  (tm = false → ∀ L st n sh d u r, next L st (n, sh, d, u) = some r → L.length = znl m → zG E l m D (pc + len) L st n sh d u r) →
  (∀ b L st n sh d u r, jump b L st (n, sh, d, u) = some r → L.length = znl m → zG E l m D (zbp m b) L st n sh d u r) →
  (∀ m' As n sh d u r, call m' As (n, sh, d, u) = some r → m' < 382 → zC E l m' (D - 1) As n sh d u r) →
  f a b c k D S (zhl m) (zsw m) next jump call L st (n, sh, d, u) = some r → zG E l m D pc L st n sh d u r
def zk_iadd : zCk := fun m pc a b c k => zdk (zMM m) pc .iadd 1
set_option maxHeartbeats 1000000 in
theorem zs9_iadd : zSd zo_iadd zk_iadd false := by
  intro E l S m pc a b c D len k L st n sh d u r next jump call hl hS hck hL hn hj hc h
  obtain ⟨hd, rfl⟩ := zdk_ok hck
  unfold zo_iadd at h
  split at h
  · obtain ⟨g1, g2, g3⟩ := hn rfl _ _ _ _ _ _ _ h hL
    exact ⟨g1, g2, fun kc ks q1 q2 => ev_iadd hd (g3 kc ks q1 q2)⟩
  · cases h
def zk_isub : zCk := fun m pc a b c k => zdk (zMM m) pc .isub 1
set_option maxHeartbeats 1000000 in
theorem zs9_isub : zSd zo_isub zk_isub false := by
  intro E l S m pc a b c D len k L st n sh d u r next jump call hl hS hck hL hn hj hc h
  obtain ⟨hd, rfl⟩ := zdk_ok hck
  unfold zo_isub at h
  split at h
  · obtain ⟨g1, g2, g3⟩ := hn rfl _ _ _ _ _ _ _ h hL
    exact ⟨g1, g2, fun kc ks q1 q2 => ev_isub hd (g3 kc ks q1 q2)⟩
  · cases h
def zk_imul : zCk := fun m pc a b c k => zdk (zMM m) pc .imul 1
set_option maxHeartbeats 1000000 in
theorem zs9_imul : zSd zo_imul zk_imul false := by
  intro E l S m pc a b c D len k L st n sh d u r next jump call hl hS hck hL hn hj hc h
  obtain ⟨hd, rfl⟩ := zdk_ok hck
  unfold zo_imul at h
  split at h
  · obtain ⟨g1, g2, g3⟩ := hn rfl _ _ _ _ _ _ _ h hL
    exact ⟨g1, g2, fun kc ks q1 q2 => ev_imul hd (g3 kc ks q1 q2)⟩
  · cases h
def zk_iand : zCk := fun m pc a b c k => zdk (zMM m) pc .iand 1
set_option maxHeartbeats 1000000 in
theorem zs9_iand : zSd zo_iand zk_iand false := by
  intro E l S m pc a b c D len k L st n sh d u r next jump call hl hS hck hL hn hj hc h
  obtain ⟨hd, rfl⟩ := zdk_ok hck
  unfold zo_iand at h
  split at h
  · obtain ⟨g1, g2, g3⟩ := hn rfl _ _ _ _ _ _ _ h hL
    exact ⟨g1, g2, fun kc ks q1 q2 => ev_iand hd (g3 kc ks q1 q2)⟩
  · cases h
def zk_ior : zCk := fun m pc a b c k => zdk (zMM m) pc .ior 1
set_option maxHeartbeats 1000000 in
theorem zs9_ior : zSd zo_ior zk_ior false := by
  intro E l S m pc a b c D len k L st n sh d u r next jump call hl hS hck hL hn hj hc h
  obtain ⟨hd, rfl⟩ := zdk_ok hck
  unfold zo_ior at h
  split at h
  · obtain ⟨g1, g2, g3⟩ := hn rfl _ _ _ _ _ _ _ h hL
    exact ⟨g1, g2, fun kc ks q1 q2 => ev_ior hd (g3 kc ks q1 q2)⟩
  · cases h
def zk_ishl : zCk := fun m pc a b c k => zdk (zMM m) pc .ishl 1
set_option maxHeartbeats 1000000 in
theorem zs9_ishl : zSd zo_ishl zk_ishl false := by
  intro E l S m pc a b c D len k L st n sh d u r next jump call hl hS hck hL hn hj hc h
  obtain ⟨hd, rfl⟩ := zdk_ok hck
  unfold zo_ishl at h
  split at h
  · obtain ⟨g1, g2, g3⟩ := hn rfl _ _ _ _ _ _ _ h hL
    exact ⟨g1, g2, fun kc ks q1 q2 => ev_ishl hd (g3 kc ks q1 q2)⟩
  · cases h
def zk_iushr : zCk := fun m pc a b c k => zdk (zMM m) pc .iushr 1
set_option maxHeartbeats 1000000 in
theorem zs9_iushr : zSd zo_iushr zk_iushr false := by
  intro E l S m pc a b c D len k L st n sh d u r next jump call hl hS hck hL hn hj hc h
  obtain ⟨hd, rfl⟩ := zdk_ok hck
  unfold zo_iushr at h
  split at h
  · obtain ⟨g1, g2, g3⟩ := hn rfl _ _ _ _ _ _ _ h hL
    exact ⟨g1, g2, fun kc ks q1 q2 => ev_iushr hd (g3 kc ks q1 q2)⟩
  · cases h
def zk_ixor : zCk := fun m pc a b c k => zdk (zMM m) pc .ixor 1
set_option maxHeartbeats 1000000 in
theorem zs9_ixor : zSd zo_ixor zk_ixor false := by
  intro E l S m pc a b c D len k L st n sh d u r next jump call hl hS hck hL hn hj hc h
  obtain ⟨hd, rfl⟩ := zdk_ok hck
  unfold zo_ixor at h
  split at h
  · obtain ⟨g1, g2, g3⟩ := hn rfl _ _ _ _ _ _ _ h hL
    exact ⟨g1, g2, fun kc ks q1 q2 => ev_ixor hd (g3 kc ks q1 q2)⟩
  · cases h
def zk_l2i : zCk := fun m pc a b c k => zdk (zMM m) pc .l2i 1
set_option maxHeartbeats 1000000 in
theorem zs9_l2i : zSd zo_l2i zk_l2i false := by
  intro E l S m pc a b c D len k L st n sh d u r next jump call hl hS hck hL hn hj hc h
  obtain ⟨hd, rfl⟩ := zdk_ok hck
  unfold zo_l2i at h
  split at h
  · obtain ⟨g1, g2, g3⟩ := hn rfl _ _ _ _ _ _ _ h hL
    exact ⟨g1, g2, fun kc ks q1 q2 => ev_l2i hd (g3 kc ks q1 q2)⟩
  · cases h
def zk_ladd : zCk := fun m pc a b c k => zdk (zMM m) pc .ladd 1
set_option maxHeartbeats 1000000 in
theorem zs9_ladd : zSd zo_ladd zk_ladd false := by
  intro E l S m pc a b c D len k L st n sh d u r next jump call hl hS hck hL hn hj hc h
  obtain ⟨hd, rfl⟩ := zdk_ok hck
  unfold zo_ladd at h
  split at h
  · obtain ⟨g1, g2, g3⟩ := hn rfl _ _ _ _ _ _ _ h hL
    exact ⟨g1, g2, fun kc ks q1 q2 => ev_ladd hd (g3 kc ks q1 q2)⟩
  · cases h
def zk_lsub : zCk := fun m pc a b c k => zdk (zMM m) pc .lsub 1
set_option maxHeartbeats 1000000 in
theorem zs9_lsub : zSd zo_lsub zk_lsub false := by
  intro E l S m pc a b c D len k L st n sh d u r next jump call hl hS hck hL hn hj hc h
  obtain ⟨hd, rfl⟩ := zdk_ok hck
  unfold zo_lsub at h
  split at h
  · obtain ⟨g1, g2, g3⟩ := hn rfl _ _ _ _ _ _ _ h hL
    exact ⟨g1, g2, fun kc ks q1 q2 => ev_lsub hd (g3 kc ks q1 q2)⟩
  · cases h
def zk_lmul : zCk := fun m pc a b c k => zdk (zMM m) pc .lmul 1
set_option maxHeartbeats 1000000 in
theorem zs9_lmul : zSd zo_lmul zk_lmul false := by
  intro E l S m pc a b c D len k L st n sh d u r next jump call hl hS hck hL hn hj hc h
  obtain ⟨hd, rfl⟩ := zdk_ok hck
  unfold zo_lmul at h
  split at h
  · obtain ⟨g1, g2, g3⟩ := hn rfl _ _ _ _ _ _ _ h hL
    exact ⟨g1, g2, fun kc ks q1 q2 => ev_lmul hd (g3 kc ks q1 q2)⟩
  · cases h
def zk_i2d : zCk := fun m pc a b c k => zdk (zMM m) pc .i2d 1
set_option maxHeartbeats 1000000 in
theorem zs9_i2d : zSd zo_i2d zk_i2d false := by
  intro E l S m pc a b c D len k L st n sh d u r next jump call hl hS hck hL hn hj hc h
  obtain ⟨hd, rfl⟩ := zdk_ok hck
  unfold zo_i2d at h
  split at h
  · obtain ⟨g1, g2, g3⟩ := hn rfl _ _ _ _ _ _ _ h hL
    exact ⟨g1, g2, fun kc ks q1 q2 => ev_i2d hd (g3 kc ks q1 q2)⟩
  · cases h
def zk_fneg : zCk := fun m pc a b c k => zdk (zMM m) pc .fneg 1
set_option maxHeartbeats 1000000 in
theorem zs9_fneg : zSd zo_fneg zk_fneg false := by
  intro E l S m pc a b c D len k L st n sh d u r next jump call hl hS hck hL hn hj hc h
  obtain ⟨hd, rfl⟩ := zdk_ok hck
  unfold zo_fneg at h
  split at h
  · obtain ⟨g1, g2, g3⟩ := hn rfl _ _ _ _ _ _ _ h hL
    exact ⟨g1, g2, fun kc ks q1 q2 => ev_fneg hd (g3 kc ks q1 q2)⟩
  · cases h
def zk_i2f : zCk := fun m pc a b c k => zdk (zMM m) pc .i2f 1
set_option maxHeartbeats 1000000 in
theorem zs9_i2f : zSd zo_i2f zk_i2f false := by
  intro E l S m pc a b c D len k L st n sh d u r next jump call hl hS hck hL hn hj hc h
  obtain ⟨hd, rfl⟩ := zdk_ok hck
  unfold zo_i2f at h
  split at h
  · obtain ⟨g1, g2, g3⟩ := hn rfl _ _ _ _ _ _ _ h hL
    exact ⟨g1, g2, fun kc ks q1 q2 => ev_i2f hd (g3 kc ks q1 q2)⟩
  · cases h
def zk_f2i : zCk := fun m pc a b c k => zdk (zMM m) pc .f2i 1
set_option maxHeartbeats 1000000 in
theorem zs9_f2i : zSd zo_f2i zk_f2i false := by
  intro E l S m pc a b c D len k L st n sh d u r next jump call hl hS hck hL hn hj hc h
  obtain ⟨hd, rfl⟩ := zdk_ok hck
  unfold zo_f2i at h
  split at h
  · obtain ⟨g1, g2, g3⟩ := hn rfl _ _ _ _ _ _ _ h hL
    exact ⟨g1, g2, fun kc ks q1 q2 => ev_f2i hd (g3 kc ks q1 q2)⟩
  · cases h
def zk_null : zCk := fun m pc a b c k => zdk (zMM m) pc .aconst_null 1
set_option maxHeartbeats 1000000 in
theorem zs9_null : zSd zo_null zk_null false := by
  intro E l S m pc a b c D len k L st n sh d u r next jump call hl hS hck hL hn hj hc h
  obtain ⟨hd, rfl⟩ := zdk_ok hck
  obtain ⟨g1, g2, g3⟩ := hn rfl _ _ _ _ _ _ _ h hL
  exact ⟨g1, g2, fun kc ks q1 q2 => ev_null hd (g3 kc ks q1 q2)⟩
theorem zn64_ok {x : UInt64} (h : zn64 x = true) : vf_n64 x := by
  unfold zn64 at h
  unfold vf_n64
  exact of_decide_eq_true h
theorem zn32_ok {x : UInt32} (h : zn32 x = true) : vf_n32 x := by
  unfold zn32 at h
  unfold vf_n32
  exact of_decide_eq_true h
def zk_dadd : zCk := fun m pc a b c k => zdk (zMM m) pc .dadd 1
set_option maxHeartbeats 1000000 in
theorem zs9_dadd : zSd zo_dadd zk_dadd false := by
  intro E l S m pc a b c D len k L st n sh d u r next jump call hl hS hck hL hn hj hc h
  obtain ⟨hd, rfl⟩ := zdk_ok hck
  unfold zo_dadd at h
  split at h
  · split at h
    · rename_i hg
      obtain ⟨g1, g2, g3⟩ := hn rfl _ _ _ _ _ _ _ h hL
      exact ⟨g1, g2, fun kc ks q1 q2 => ev_dadd hd (zn64_ok hg) (g3 kc ks q1 q2)⟩
    · cases h
  · cases h
def zk_dmul : zCk := fun m pc a b c k => zdk (zMM m) pc .dmul 1
set_option maxHeartbeats 1000000 in
theorem zs9_dmul : zSd zo_dmul zk_dmul false := by
  intro E l S m pc a b c D len k L st n sh d u r next jump call hl hS hck hL hn hj hc h
  obtain ⟨hd, rfl⟩ := zdk_ok hck
  unfold zo_dmul at h
  split at h
  · split at h
    · rename_i hg
      obtain ⟨g1, g2, g3⟩ := hn rfl _ _ _ _ _ _ _ h hL
      exact ⟨g1, g2, fun kc ks q1 q2 => ev_dmul hd (zn64_ok hg) (g3 kc ks q1 q2)⟩
    · cases h
  · cases h
def zk_ddiv : zCk := fun m pc a b c k => zdk (zMM m) pc .ddiv 1
set_option maxHeartbeats 1000000 in
theorem zs9_ddiv : zSd zo_ddiv zk_ddiv false := by
  intro E l S m pc a b c D len k L st n sh d u r next jump call hl hS hck hL hn hj hc h
  obtain ⟨hd, rfl⟩ := zdk_ok hck
  unfold zo_ddiv at h
  split at h
  · split at h
    · rename_i hg
      obtain ⟨g1, g2, g3⟩ := hn rfl _ _ _ _ _ _ _ h hL
      exact ⟨g1, g2, fun kc ks q1 q2 => ev_ddiv hd (zn64_ok hg) (g3 kc ks q1 q2)⟩
    · cases h
  · cases h
def zk_fdiv : zCk := fun m pc a b c k => zdk (zMM m) pc .fdiv 1
set_option maxHeartbeats 1000000 in
theorem zs9_fdiv : zSd zo_fdiv zk_fdiv false := by
  intro E l S m pc a b c D len k L st n sh d u r next jump call hl hS hck hL hn hj hc h
  obtain ⟨hd, rfl⟩ := zdk_ok hck
  unfold zo_fdiv at h
  split at h
  · split at h
    · rename_i hg
      obtain ⟨g1, g2, g3⟩ := hn rfl _ _ _ _ _ _ _ h hL
      exact ⟨g1, g2, fun kc ks q1 q2 => ev_fdiv hd (zn32_ok hg) (g3 kc ks q1 q2)⟩
    · cases h
  · cases h
def zk_fmul : zCk := fun m pc a b c k => zdk (zMM m) pc .fmul 1
set_option maxHeartbeats 1000000 in
theorem zs9_fmul : zSd zo_fmul zk_fmul false := by
  intro E l S m pc a b c D len k L st n sh d u r next jump call hl hS hck hL hn hj hc h
  obtain ⟨hd, rfl⟩ := zdk_ok hck
  unfold zo_fmul at h
  split at h
  · split at h
    · rename_i hg
      obtain ⟨g1, g2, g3⟩ := hn rfl _ _ _ _ _ _ _ h hL
      exact ⟨g1, g2, fun kc ks q1 q2 => ev_fmul hd (zn32_ok hg) (g3 kc ks q1 q2)⟩
    · cases h
  · cases h
def zk_fsub : zCk := fun m pc a b c k => zdk (zMM m) pc .fsub 1
set_option maxHeartbeats 1000000 in
theorem zs9_fsub : zSd zo_fsub zk_fsub false := by
  intro E l S m pc a b c D len k L st n sh d u r next jump call hl hS hck hL hn hj hc h
  obtain ⟨hd, rfl⟩ := zdk_ok hck
  unfold zo_fsub at h
  split at h
  · split at h
    · rename_i hg
      obtain ⟨g1, g2, g3⟩ := hn rfl _ _ _ _ _ _ _ h hL
      exact ⟨g1, g2, fun kc ks q1 q2 => ev_fsub hd (zn32_ok hg) (g3 kc ks q1 q2)⟩
    · cases h
  · cases h
def zk_f2d : zCk := fun m pc a b c k => zdk (zMM m) pc .f2d 1
set_option maxHeartbeats 1000000 in
theorem zs9_f2d : zSd zo_f2d zk_f2d false := by
  intro E l S m pc a b c D len k L st n sh d u r next jump call hl hS hck hL hn hj hc h
  obtain ⟨hd, rfl⟩ := zdk_ok hck
  unfold zo_f2d at h
  split at h
  · split at h
    · rename_i hg
      obtain ⟨g1, g2, g3⟩ := hn rfl _ _ _ _ _ _ _ h hL
      exact ⟨g1, g2, fun kc ks q1 q2 => ev_f2d hd (zn64_ok hg) (g3 kc ks q1 q2)⟩
    · cases h
  · cases h
def zk_idiv : zCk := fun m pc a b c k => zdk (zMM m) pc .idiv 1
set_option maxHeartbeats 1000000 in
theorem zs9_idiv : zSd zo_idiv zk_idiv false := by
  intro E l S m pc a b c D len k L st n sh d u r next jump call hl hS hck hL hn hj hc h
  obtain ⟨hd, rfl⟩ := zdk_ok hck
  unfold zo_idiv at h
  split at h
  · split at h
    · rename_i hg
      obtain ⟨g1, g2, g3⟩ := hn rfl _ _ _ _ _ _ _ h hL
      refine ⟨g1, g2, fun kc ks q1 q2 => ev_st ?_ (ev_idiv hd (zw_i _) (zw_i _) hg (g3 kc ks q1 q2))⟩
      simp only [List.map_cons, zc_w]
    · cases h
  · cases h
def zk_irem : zCk := fun m pc a b c k => zdk (zMM m) pc .irem 1
set_option maxHeartbeats 1000000 in
theorem zs9_irem : zSd zo_irem zk_irem false := by
  intro E l S m pc a b c D len k L st n sh d u r next jump call hl hS hck hL hn hj hc h
  obtain ⟨hd, rfl⟩ := zdk_ok hck
  unfold zo_irem at h
  split at h
  · split at h
    · rename_i hg
      obtain ⟨g1, g2, g3⟩ := hn rfl _ _ _ _ _ _ _ h hL
      refine ⟨g1, g2, fun kc ks q1 q2 => ev_st ?_ (ev_irem hd (zw_i _) (zw_i _) hg (g3 kc ks q1 q2))⟩
      simp only [List.map_cons, zc_w]
    · cases h
  · cases h
def zk_ldiv : zCk := fun m pc a b c k => zdk (zMM m) pc .ldiv 1
set_option maxHeartbeats 1000000 in
theorem zs9_ldiv : zSd zo_ldiv zk_ldiv false := by
  intro E l S m pc a b c D len k L st n sh d u r next jump call hl hS hck hL hn hj hc h
  obtain ⟨hd, rfl⟩ := zdk_ok hck
  unfold zo_ldiv at h
  split at h
  · split at h
    · rename_i hg
      obtain ⟨g1, g2, g3⟩ := hn rfl _ _ _ _ _ _ _ h hL
      refine ⟨g1, g2, fun kc ks q1 q2 => ev_st ?_ (ev_ldiv hd (zwl_j _) (zwl_j _) hg (g3 kc ks q1 q2))⟩
      simp only [List.map_cons, zc_wl]
    · cases h
  · cases h
def zk_lrem : zCk := fun m pc a b c k => zdk (zMM m) pc .lrem 1
set_option maxHeartbeats 1000000 in
theorem zs9_lrem : zSd zo_lrem zk_lrem false := by
  intro E l S m pc a b c D len k L st n sh d u r next jump call hl hS hck hL hn hj hc h
  obtain ⟨hd, rfl⟩ := zdk_ok hck
  unfold zo_lrem at h
  split at h
  · split at h
    · rename_i hg
      obtain ⟨g1, g2, g3⟩ := hn rfl _ _ _ _ _ _ _ h hL
      refine ⟨g1, g2, fun kc ks q1 q2 => ev_st ?_ (ev_lrem hd (zwl_j _) (zwl_j _) hg (g3 kc ks q1 q2))⟩
      simp only [List.map_cons, zc_wl]
    · cases h
  · cases h
def zk_i2l : zCk := fun m pc a b c k => zdk (zMM m) pc .i2l 1
set_option maxHeartbeats 1000000 in
theorem zs9_i2l : zSd zo_i2l zk_i2l false := by
  intro E l S m pc a b c D len k L st n sh d u r next jump call hl hS hck hL hn hj hc h
  obtain ⟨hd, rfl⟩ := zdk_ok hck
  unfold zo_i2l at h
  split at h
  · obtain ⟨g1, g2, g3⟩ := hn rfl _ _ _ _ _ _ _ h hL
    refine ⟨g1, g2, fun kc ks q1 q2 => ev_st ?_ (ev_i2l hd (zw_i _) (g3 kc ks q1 q2))⟩
    simp only [List.map_cons, zc_w]
  · cases h
theorem zlc_eq (x y : Int) : zb_cmp x y = zlc x y := by
  unfold zb_cmp zlc lg_cmp
  have e1 : (Int64.ofInt x).toInt = zwl x := by rw [← zwl_of x]; exact zj_t (zwl_j x)
  have e2 : (Int64.ofInt y).toInt = zwl y := by rw [← zwl_of y]; exact zj_t (zwl_j y)
  have l1 : Int64.ofInt x < Int64.ofInt y ↔ zwl x < zwl y := by rw [Int64.lt_iff_toInt_lt, e1, e2]
  have l2 : Int64.ofInt x = Int64.ofInt y ↔ zwl x = zwl y := by rw [← Int64.toInt_inj, e1, e2]
  have l3 : Int64.ofInt x > Int64.ofInt y ↔ zwl y < zwl x := by rw [gt_iff_lt, Int64.lt_iff_toInt_lt, e1, e2]
  simp only [l3, l2]
  repeat' split
  all_goals first | rfl | decide | (exfalso; omega)
def zk_lcmp : zCk := fun m pc a b c k => zdk (zMM m) pc .lcmp 1
set_option maxHeartbeats 1000000 in
theorem zs9_lcmp : zSd zo_lcmp zk_lcmp false := by
  intro E l S m pc a b c D len k L st n sh d u r next jump call hl hS hck hL hn hj hc h
  obtain ⟨hd, rfl⟩ := zdk_ok hck
  unfold zo_lcmp at h
  split at h
  · obtain ⟨g1, g2, g3⟩ := hn rfl _ _ _ _ _ _ _ h hL
    refine ⟨g1, g2, fun kc ks q1 q2 => ev_lcmp hd ?_⟩
    rw [zlc_eq]
    exact g3 kc ks q1 q2
  · cases h
theorem zi2c (x : Int) : ((Int32.ofInt x).toUInt32 % 65536).toInt32 = Int32.ofInt (zw x % 65536) := by
  rw [← Int32.toInt_inj]
  have e1 : (Int32.ofInt x).toInt = zw x := by rw [← zw_of x]; exact zi_t (zw_i x)
  have h9 : zi (zw x % 65536) := by unfold zi; omega
  rw [zi_t h9]
  have e2 : ((Int32.ofInt x).toUInt32.toNat : Int) = zw x % 4294967296 := by
    rw [← e1]
    show (((Int32.ofInt x).toBitVec.toNat : Nat) : Int) = (Int32.ofInt x).toBitVec.toInt % 4294967296
    have := BitVec.toInt_eq_toNat_cond (Int32.ofInt x).toBitVec
    have h8 := (Int32.ofInt x).toBitVec.isLt
    rw [this]
    split <;> omega
  have e3 : ((Int32.ofInt x).toUInt32 % 65536).toNat = (Int32.ofInt x).toUInt32.toNat % 65536 := by
    rw [UInt32.toNat_mod]; rfl
  have e4 : ((Int32.ofInt x).toUInt32 % 65536).toInt32.toInt = (((Int32.ofInt x).toUInt32 % 65536).toNat : Int) := by
    show ((Int32.ofInt x).toUInt32 % 65536).toBitVec.toInt = _
    rw [BitVec.toInt_eq_toNat_cond]
    have h7 : ((Int32.ofInt x).toUInt32 % 65536).toBitVec.toNat < 65536 := by
      have : ((Int32.ofInt x).toUInt32 % 65536).toBitVec.toNat = ((Int32.ofInt x).toUInt32 % 65536).toNat := rfl
      rw [this, e3]; omega
    have h6 : (((Int32.ofInt x).toUInt32 % 65536).toNat : Int) = (((Int32.ofInt x).toUInt32 % 65536).toBitVec.toNat : Int) := rfl
    rw [h6]
    split <;> omega
  rw [e4, e3]
  omega
def zk_i2c : zCk := fun m pc a b c k => zdk (zMM m) pc .i2c 1
set_option maxHeartbeats 1000000 in
theorem zs9_i2c : zSd zo_i2c zk_i2c false := by
  intro E l S m pc a b c D len k L st n sh d u r next jump call hl hS hck hL hn hj hc h
  obtain ⟨hd, rfl⟩ := zdk_ok hck
  unfold zo_i2c at h
  split at h
  · obtain ⟨g1, g2, g3⟩ := hn rfl _ _ _ _ _ _ _ h hL
    refine ⟨g1, g2, fun kc ks q1 q2 => ev_i2c hd ?_ (g3 kc ks q1 q2)⟩
    exact zi2c _
  · cases h
def zk_dcmp : zCk := fun m pc a b c k => zdk (zMM m) pc (.dcmp (if a = 1 then .g else .l)) 1
set_option maxHeartbeats 1000000 in
theorem zs9_dcmp : zSd zo_dcmp zk_dcmp false := by
  intro E l S m pc a b c D len k L st n sh d u r next jump call hl hS hck hL hn hj hc h
  obtain ⟨hd, rfl⟩ := zdk_ok hck
  unfold zo_dcmp at h
  split at h
  · obtain ⟨g1, g2, g3⟩ := hn rfl _ _ _ _ _ _ _ h hL
    exact ⟨g1, g2, fun kc ks q1 q2 => ev_dcmp hd (g3 kc ks q1 q2)⟩
  · cases h
def zk_fcmp : zCk := fun m pc a b c k => zdk (zMM m) pc (.fcmp (if a = 1 then .g else .l)) 1
set_option maxHeartbeats 1000000 in
theorem zs9_fcmp : zSd zo_fcmp zk_fcmp false := by
  intro E l S m pc a b c D len k L st n sh d u r next jump call hl hS hck hL hn hj hc h
  obtain ⟨hd, rfl⟩ := zdk_ok hck
  unfold zo_fcmp at h
  split at h
  · obtain ⟨g1, g2, g3⟩ := hn rfl _ _ _ _ _ _ _ h hL
    exact ⟨g1, g2, fun kc ks q1 q2 => ev_fcmp hd (g3 kc ks q1 q2)⟩
  · cases h
def zk_iconst : zCk := fun m pc a b c k => if a = 0 then zdk (zMM m) pc (.iconst k) 1 else if a = 1 then zgd (decide ((Int8.ofInt k).toInt32 = Int32.ofInt k)) (zdk (zMM m) pc (.bipush k) 2) else if a = 2 then zgd (decide ((Int16.ofInt k).toInt32 = Int32.ofInt k)) (zdk (zMM m) pc (.sipush k) 3)
  else match zKT[b]? with
    | some r => zgd (decide (r.1 = 0 ∧ r.2.1 = zm_o (zMM m) ∧ r.2.2.2.1 = k)) (if a = 3 then zdk (zMM m) pc (.ldc r.2.2.1) 2 else zdk (zMM m) pc (.ldc_w r.2.2.1) 3)
    | none => none
theorem zKT_w {b : Nat} {r : zKr9} (h : zKT[b]? = some r) : zKok r = true := List.all_eq_true.mp zKT_ok r (List.mem_of_getElem? h)
set_option maxHeartbeats 1000000 in
theorem zs9_iconst : zSd zo_iconst zk_iconst false := by
  intro E l S m pc a b c D len k L st n sh d u r next jump call hl hS hck hL hn hj hc h
  obtain ⟨g1, g2, g3⟩ := hn rfl _ _ _ _ _ _ _ h hL
  refine ⟨g1, g2, fun kc ks q1 q2 => ?_⟩
  unfold zk_iconst at hck
  split at hck
  · obtain ⟨hd, rfl⟩ := zdk_ok hck
    exact ev_iconst hd (g3 kc ks q1 q2)
  split at hck
  · obtain ⟨hg, hck⟩ := zgd_ok hck
    obtain ⟨hd, rfl⟩ := zdk_ok hck
    exact ev_bipush hd (of_decide_eq_true hg) (g3 kc ks q1 q2)
  split at hck
  · obtain ⟨hg, hck⟩ := zgd_ok hck
    obtain ⟨hd, rfl⟩ := zdk_ok hck
    exact ev_sipush hd (of_decide_eq_true hg) (g3 kc ks q1 q2)
  split at hck
  · rename_i r hr
    obtain ⟨hg, hck2⟩ := zgd_ok hck
    obtain ⟨e1, e2, rfl⟩ := of_decide_eq_true hg
    have hw := zKT_w hr
    unfold zKok at hw
    simp only [e1] at hw
    rw [e2] at hw
    split at hck2
    · obtain ⟨hd, rfl⟩ := zdk_ok hck2
      exact ev_ldc hd (zhas_in hw) (g3 kc ks q1 q2)
    · obtain ⟨hd, rfl⟩ := zdk_ok hck2
      exact ev_ldcw hd (zhas_in hw) (g3 kc ks q1 q2)
  · cases hck
def zk_lconst : zCk := fun m pc a b c k => if a = 0 then zgd (decide (Int64.ofNat ((Fin.ofNat 2 k.toNat : Fin 2) : Nat) = Int64.ofInt k)) (zdk (zMM m) pc (.lconst (Fin.ofNat 2 k.toNat)) 1)
  else match zKT[b]? with
    | some r => zgd (decide (r.1 = 2 ∧ r.2.1 = zm_o (zMM m) ∧ r.2.2.2.1 = k)) (zdk (zMM m) pc (.ldc2_w r.2.2.1) 3)
    | none => none
set_option maxHeartbeats 1000000 in
theorem zs9_lconst : zSd zo_lconst zk_lconst false := by
  intro E l S m pc a b c D len k L st n sh d u r next jump call hl hS hck hL hn hj hc h
  obtain ⟨g1, g2, g3⟩ := hn rfl _ _ _ _ _ _ _ h hL
  refine ⟨g1, g2, fun kc ks q1 q2 => ?_⟩
  unfold zk_lconst at hck
  split at hck
  · obtain ⟨hg, hck⟩ := zgd_ok hck
    obtain ⟨hd, rfl⟩ := zdk_ok hck
    exact ev_lconst hd (of_decide_eq_true hg) (g3 kc ks q1 q2)
  split at hck
  · rename_i r hr
    obtain ⟨hg, hck2⟩ := zgd_ok hck
    obtain ⟨e1, e2, rfl⟩ := of_decide_eq_true hg
    have hw := zKT_w hr
    unfold zKok at hw
    simp only [e1] at hw
    rw [e2] at hw
    obtain ⟨hd, rfl⟩ := zdk_ok hck2
    exact ev_ldc2 hd (zhas_in hw) (g3 kc ks q1 q2)
  · cases hck
def zk_dldc : zCk := fun m pc a b c k => match zKT[b]? with
    | some r => zgd (decide (r.1 = 3 ∧ r.2.1 = zm_o (zMM m) ∧ r.2.2.2.1 = k)) (zdk (zMM m) pc (.ldc2_w r.2.2.1) 3)
    | none => none
def zk_fldc : zCk := fun m pc a b c k => match zKT[b]? with
    | some r => zgd (decide (r.1 = 1 ∧ r.2.1 = zm_o (zMM m) ∧ r.2.2.2.1 = k)) (if a = 0 then zdk (zMM m) pc (.ldc r.2.2.1) 2 else zdk (zMM m) pc (.ldc_w r.2.2.1) 3)
    | none => none
set_option maxHeartbeats 1000000 in
theorem zs9_dldc : zSd zo_dldc zk_dldc false := by
  intro E l S m pc a b c D len k L st n sh d u r next jump call hl hS hck hL hn hj hc h
  obtain ⟨g1, g2, g3⟩ := hn rfl _ _ _ _ _ _ _ h hL
  refine ⟨g1, g2, fun kc ks q1 q2 => ?_⟩
  unfold zk_dldc at hck
  split at hck
  · rename_i r hr
    obtain ⟨hg, hck2⟩ := zgd_ok hck
    obtain ⟨e1, e2, rfl⟩ := of_decide_eq_true hg
    have hw := zKT_w hr
    unfold zKok at hw
    simp only [e1] at hw
    rw [e2] at hw
    obtain ⟨hd, rfl⟩ := zdk_ok hck2
    exact ev_ldc2d hd (zhas_in hw) (g3 kc ks q1 q2)
  · cases hck
theorem ev_ldcfw {E : ze_E} {l : Launch} {M : zm_M} {D n : Nat} {sh : zk_S} {d : zm_D} {kc ks pc : Nat} {L : zl_L} {st : List zv_V} {Q : ev_Q} {index : Nat} {z : UInt32} (hd : decode (zm_c M) pc = .ok (.ldc_w index, 3)) (hw : Cond.constantFloat (zm_o M) index z ∈ lw_g) (kk : ev E l M D n sh d kc ks (pc + 3) L (zv_f z :: st) Q) : ev E l M D n sh d kc ks pc L (st) Q := by
  intro p e R s m args below meth c H locs cells slots mc ms ls X
  have k2 := kk p e R s m args below meth c H locs cells slots mc ms ls X
  intro T hT XS
  obtain ⟨t, a1, b1⟩ := k2 T hT XS
  obtain ⟨k, cf, hk, hcf, hcp⟩ := Cond.constantFloat_spec X.1.2.2.2.2.1 (X.1.2.2.2.2.2.1 _ hw)
  obtain ⟨k', hk', he⟩ := XS.warmed.alike.2.2 _ _ hk
  refine ⟨t, ?_, b1⟩
  have hd' : decode c.code pc = .ok (.ldc_w index, 3) := by rw [X.1.2.1]; exact hd
  jvm_step XS.here [X.1.1, hd', ldc_w.wp_float (s := T) (f := F0 m pc ls (st.map (zv_c E))) XS.here.top hk' (by rw [he]; exact hcf) hcp]
  exact a1
set_option maxHeartbeats 1000000 in
theorem zs9_fldc : zSd zo_fldc zk_fldc false := by
  intro E l S m pc a b c D len k L st n sh d u r next jump call hl hS hck hL hn hj hc h
  obtain ⟨g1, g2, g3⟩ := hn rfl _ _ _ _ _ _ _ h hL
  refine ⟨g1, g2, fun kc ks q1 q2 => ?_⟩
  unfold zk_fldc at hck
  split at hck
  · rename_i r hr
    obtain ⟨hg, hck2⟩ := zgd_ok hck
    obtain ⟨e1, e2, rfl⟩ := of_decide_eq_true hg
    have hw := zKT_w hr
    unfold zKok at hw
    simp only [e1] at hw
    rw [e2] at hw
    split at hck2
    · obtain ⟨hd, rfl⟩ := zdk_ok hck2
      exact ev_ldcf hd (zhas_in hw) (g3 kc ks q1 q2)
    · obtain ⟨hd, rfl⟩ := zdk_ok hck2
      exact ev_ldcfw hd (zhas_in hw) (g3 kc ks q1 q2)
  · cases hck
def zk_fconst : zCk := fun m pc a b c k => if a = 0 then zdk (zMM m) pc (.fconst 0) 1 else if a = 1 then zdk (zMM m) pc (.fconst 1) 1 else zdk (zMM m) pc (.fconst 2) 1
set_option maxHeartbeats 1000000 in
theorem zs9_fconst : zSd zo_fconst zk_fconst false := by
  intro E l S m pc a b c D len k L st n sh d u r next jump call hl hS hck hL hn hj hc h
  obtain ⟨g1, g2, g3⟩ := hn rfl _ _ _ _ _ _ _ h hL
  refine ⟨g1, g2, fun kc ks q1 q2 => ?_⟩
  have g4 := g3 kc ks q1 q2
  unfold zk_fconst at hck
  split at hck
  · rename_i e; obtain ⟨hd, rfl⟩ := zdk_ok hck
    simp only [e, if_true] at g4
    exact ev_fconst0 hd g4
  split at hck
  · rename_i e0 e; obtain ⟨hd, rfl⟩ := zdk_ok hck
    simp only [e, if_true, if_neg (show ¬ (1 : Nat) = 0 by omega)] at g4
    exact ev_fconst1 hd g4
  · rename_i e0 e; obtain ⟨hd, rfl⟩ := zdk_ok hck
    simp only [e0, e, if_false] at g4
    exact ev_fconst2 hd g4
def zk_dconst : zCk := fun m pc a b c k => if a = 0 then zdk (zMM m) pc (.dconst 0) 1 else zdk (zMM m) pc (.dconst 1) 1
set_option maxHeartbeats 1000000 in
theorem zs9_dconst : zSd zo_dconst zk_dconst false := by
  intro E l S m pc a b c D len k L st n sh d u r next jump call hl hS hck hL hn hj hc h
  obtain ⟨g1, g2, g3⟩ := hn rfl _ _ _ _ _ _ _ h hL
  refine ⟨g1, g2, fun kc ks q1 q2 => ?_⟩
  have g4 := g3 kc ks q1 q2
  unfold zk_dconst at hck
  split at hck
  · rename_i e; obtain ⟨hd, rfl⟩ := zdk_ok hck
    simp only [e, if_true] at g4
    exact ev_dconst0 hd g4
  · rename_i e; obtain ⟨hd, rfl⟩ := zdk_ok hck
    simp only [e, if_false] at g4
    exact ev_dconst1 hd g4
def zk_aload : zCk := fun m pc a b c k => if b = 1 then zgd (decide (a < 4)) (zdk (zMM m) pc (.aload_n (Fin.ofNat 4 a)) 1) else zdk (zMM m) pc (.aload a) 2
set_option maxHeartbeats 1000000 in
theorem zs9_aload : zSd zo_aload zk_aload false := by
  intro E l S m pc a b c D len k L st n sh d u r next jump call hl hS hck hL hn hj hc h
  unfold zo_aload at h
  split at h
  · rename_i x hx
    obtain ⟨g1, g2, g3⟩ := hn rfl _ _ _ _ _ _ _ h hL
    refine ⟨g1, g2, fun kc ks q1 q2 => ?_⟩
    unfold zk_aload at hck
    split at hck
    · obtain ⟨hg, hck⟩ := zgd_ok hck
      obtain ⟨hd, rfl⟩ := zdk_ok hck
      exact ev_aload_n hd (by rw [zfin (of_decide_eq_true hg), zlp_0]; exact hx) (g3 kc ks q1 q2)
    · obtain ⟨hd, rfl⟩ := zdk_ok hck
      exact ev_aload hd (by rw [zlp_0]; exact hx) (g3 kc ks q1 q2)
  · cases h
def zk_iload : zCk := fun m pc a b c k => if b = 1 then zgd (decide (a < 4)) (zdk (zMM m) pc (.iload_n (Fin.ofNat 4 a)) 1) else zdk (zMM m) pc (.iload a) 2
set_option maxHeartbeats 1000000 in
theorem zs9_iload : zSd zo_iload zk_iload false := by
  intro E l S m pc a b c D len k L st n sh d u r next jump call hl hS hck hL hn hj hc h
  unfold zo_iload at h
  split at h
  · rename_i x hx
    obtain ⟨g1, g2, g3⟩ := hn rfl _ _ _ _ _ _ _ h hL
    refine ⟨g1, g2, fun kc ks q1 q2 => ?_⟩
    unfold zk_iload at hck
    split at hck
    · obtain ⟨hg, hck⟩ := zgd_ok hck
      obtain ⟨hd, rfl⟩ := zdk_ok hck
      exact ev_iload_n hd (by rw [zfin (of_decide_eq_true hg), zlp_0]; exact hx) (g3 kc ks q1 q2)
    · obtain ⟨hd, rfl⟩ := zdk_ok hck
      exact ev_iload hd (by rw [zlp_0]; exact hx) (g3 kc ks q1 q2)
  · cases h
def zk_lload : zCk := fun m pc a b c k => if b = 1 then zgd (decide (a < 4)) (zdk (zMM m) pc (.lload_n (Fin.ofNat 4 a)) 1) else zdk (zMM m) pc (.lload a) 2
set_option maxHeartbeats 1000000 in
theorem zs9_lload : zSd zo_lload zk_lload false := by
  intro E l S m pc a b c D len k L st n sh d u r next jump call hl hS hck hL hn hj hc h
  unfold zo_lload at h
  split at h
  · rename_i x hx
    obtain ⟨g1, g2, g3⟩ := hn rfl _ _ _ _ _ _ _ h hL
    refine ⟨g1, g2, fun kc ks q1 q2 => ?_⟩
    unfold zk_lload at hck
    split at hck
    · obtain ⟨hg, hck⟩ := zgd_ok hck
      obtain ⟨hd, rfl⟩ := zdk_ok hck
      exact ev_lload_n hd (by rw [zfin (of_decide_eq_true hg), zlp_0]; exact hx) (g3 kc ks q1 q2)
    · obtain ⟨hd, rfl⟩ := zdk_ok hck
      exact ev_lload hd (by rw [zlp_0]; exact hx) (g3 kc ks q1 q2)
  · cases h
def zk_dload : zCk := fun m pc a b c k => if b = 1 then zgd (decide (a < 4)) (zdk (zMM m) pc (.dload_n (Fin.ofNat 4 a)) 1) else zdk (zMM m) pc (.dload a) 2
set_option maxHeartbeats 1000000 in
theorem zs9_dload : zSd zo_dload zk_dload false := by
  intro E l S m pc a b c D len k L st n sh d u r next jump call hl hS hck hL hn hj hc h
  unfold zo_dload at h
  split at h
  · rename_i x hx
    obtain ⟨g1, g2, g3⟩ := hn rfl _ _ _ _ _ _ _ h hL
    refine ⟨g1, g2, fun kc ks q1 q2 => ?_⟩
    unfold zk_dload at hck
    split at hck
    · obtain ⟨hg, hck⟩ := zgd_ok hck
      obtain ⟨hd, rfl⟩ := zdk_ok hck
      exact ev_dload_n hd (by rw [zfin (of_decide_eq_true hg), zlp_0]; exact hx) (g3 kc ks q1 q2)
    · obtain ⟨hd, rfl⟩ := zdk_ok hck
      exact ev_dload hd (by rw [zlp_0]; exact hx) (g3 kc ks q1 q2)
  · cases h
def zk_fload : zCk := fun m pc a b c k => if b = 1 then zgd (decide (a < 4)) (zdk (zMM m) pc (.fload_n (Fin.ofNat 4 a)) 1) else zdk (zMM m) pc (.fload a) 2
set_option maxHeartbeats 1000000 in
theorem zs9_fload : zSd zo_fload zk_fload false := by
  intro E l S m pc a b c D len k L st n sh d u r next jump call hl hS hck hL hn hj hc h
  unfold zo_fload at h
  split at h
  · rename_i x hx
    obtain ⟨g1, g2, g3⟩ := hn rfl _ _ _ _ _ _ _ h hL
    refine ⟨g1, g2, fun kc ks q1 q2 => ?_⟩
    unfold zk_fload at hck
    split at hck
    · obtain ⟨hg, hck⟩ := zgd_ok hck
      obtain ⟨hd, rfl⟩ := zdk_ok hck
      exact ev_fload_n hd (by rw [zfin (of_decide_eq_true hg), zlp_0]; exact hx) (g3 kc ks q1 q2)
    · obtain ⟨hd, rfl⟩ := zdk_ok hck
      exact ev_fload hd (by rw [zlp_0]; exact hx) (g3 kc ks q1 q2)
  · cases h
def zk_astore : zCk := fun m pc a b c k => zgd (decide (a < znl m)) (if b = 1 then zgd (decide (a < 4)) (zdk (zMM m) pc (.astore_n (Fin.ofNat 4 a)) 1) else zdk (zMM m) pc (.astore a) 2)
set_option maxHeartbeats 1000000 in
theorem zs9_astore : zSd zo_astore zk_astore false := by
  intro E l S m pc a b c D len k L st n sh d u r next jump call hl hS hck hL hn hj hc h
  unfold zo_astore at h
  split at h
  · rename_i x st'
    obtain ⟨g1, g2, g3⟩ := hn rfl _ _ _ _ _ _ _ h (by rw [zst1_len]; exact hL)
    refine ⟨g1, g2, fun kc ks q1 q2 => ?_⟩
    unfold zk_astore at hck
    obtain ⟨hg0, hck⟩ := zgd_ok hck
    have hlim := of_decide_eq_true hg0
    refine ev_subg (L' := zdr L a) (fun i w hi => ?_) ?_
    · rw [zdr_get] at hi
      rw [zlp_0]
      split at hi
      · exact (zk1_some hi).1
      · exact hi
    have hinc : ∀ i w, zl_get (zlp 0 (zst1 L a (zv_a x))) i = some w → zl_get ((a, some (zv_a x)) :: zdr L a) i = some w := by
      intro i w hi
      rw [zlp_0] at hi
      rcases zst1_get _ _ _ _ _ hi with ⟨rfl, rfl⟩ | ⟨e1, e3, e4⟩
      · simp [zl_get]
      · simp only [zl_get, zn_beq (Ne.symm e1), cond_false, zdr_get]
        by_cases e5 : i + 1 = a
        · rw [if_pos e5, e3]
          have := e4 e5
          rcases w with (w | w) | (w | (w | w)) <;> first | rfl | cases this
        · rw [if_neg e5]; exact e3
    split at hck
    · obtain ⟨hg, hck⟩ := zgd_ok hck
      obtain ⟨hd, rfl⟩ := zdk_ok hck
      have hf := zfin (of_decide_eq_true hg)
      refine ev_astore_n hd (by rw [hf]; exact hlim) (by rw [hf]; exact zdr_o L a) ?_
      rw [hf]
      exact ev_subg hinc (g3 kc ks q1 q2)
    · obtain ⟨hd, rfl⟩ := zdk_ok hck
      exact ev_astore hd hlim (zdr_o L a) (ev_subg hinc (g3 kc ks q1 q2))
  · cases h
def zk_istore : zCk := fun m pc a b c k => zgd (decide (a < znl m)) (if b = 1 then zgd (decide (a < 4)) (zdk (zMM m) pc (.istore_n (Fin.ofNat 4 a)) 1) else zdk (zMM m) pc (.istore a) 2)
set_option maxHeartbeats 1000000 in
theorem zs9_istore : zSd zo_istore zk_istore false := by
  intro E l S m pc a b c D len k L st n sh d u r next jump call hl hS hck hL hn hj hc h
  unfold zo_istore at h
  split at h
  · rename_i x st'
    obtain ⟨g1, g2, g3⟩ := hn rfl _ _ _ _ _ _ _ h (by rw [zst1_len]; exact hL)
    refine ⟨g1, g2, fun kc ks q1 q2 => ?_⟩
    unfold zk_istore at hck
    obtain ⟨hg0, hck⟩ := zgd_ok hck
    have hlim := of_decide_eq_true hg0
    refine ev_subg (L' := zdr L a) (fun i w hi => ?_) ?_
    · rw [zdr_get] at hi
      rw [zlp_0]
      split at hi
      · exact (zk1_some hi).1
      · exact hi
    have hinc : ∀ i w, zl_get (zlp 0 (zst1 L a (zv_i x))) i = some w → zl_get ((a, some (zv_i x)) :: zdr L a) i = some w := by
      intro i w hi
      rw [zlp_0] at hi
      rcases zst1_get _ _ _ _ _ hi with ⟨rfl, rfl⟩ | ⟨e1, e3, e4⟩
      · simp [zl_get]
      · simp only [zl_get, zn_beq (Ne.symm e1), cond_false, zdr_get]
        by_cases e5 : i + 1 = a
        · rw [if_pos e5, e3]
          have := e4 e5
          rcases w with (w | w) | (w | (w | w)) <;> first | rfl | cases this
        · rw [if_neg e5]; exact e3
    split at hck
    · obtain ⟨hg, hck⟩ := zgd_ok hck
      obtain ⟨hd, rfl⟩ := zdk_ok hck
      have hf := zfin (of_decide_eq_true hg)
      refine ev_istore_n hd (by rw [hf]; exact hlim) (by rw [hf]; exact zdr_o L a) ?_
      rw [hf]
      exact ev_subg hinc (g3 kc ks q1 q2)
    · obtain ⟨hd, rfl⟩ := zdk_ok hck
      exact ev_istore hd hlim (zdr_o L a) (ev_subg hinc (g3 kc ks q1 q2))
  · cases h
def zk_lstore : zCk := fun m pc a b c k => zgd (decide (a + 1 < znl m)) (if b = 1 then zgd (decide (a < 4)) (zdk (zMM m) pc (.lstore_n (Fin.ofNat 4 a)) 1) else zdk (zMM m) pc (.lstore a) 2)
set_option maxHeartbeats 1000000 in
theorem zs9_lstore : zSd zo_lstore zk_lstore false := by
  intro E l S m pc a b c D len k L st n sh d u r next jump call hl hS hck hL hn hj hc h
  unfold zo_lstore at h
  split at h
  · rename_i x st'
    obtain ⟨g1, g2, g3⟩ := hn rfl _ _ _ _ _ _ _ h (by rw [zst2_len]; exact hL)
    refine ⟨g1, g2, fun kc ks q1 q2 => ?_⟩
    unfold zk_lstore at hck
    obtain ⟨hg0, hck⟩ := zgd_ok hck
    have hlim := of_decide_eq_true hg0
    refine ev_subg (L' := zdr L a) (fun i w hi => ?_) ?_
    · rw [zdr_get] at hi
      rw [zlp_0]
      split at hi
      · exact (zk1_some hi).1
      · exact hi
    have hinc : ∀ i w, zl_get (zlp 0 (zst2 L a (zv_l x))) i = some w → zl_get ((a, some (zv_l x)) :: (a + 1, none) :: zdr L a) i = some w := by
      intro i w hi
      rw [zlp_0] at hi
      rcases zst2_get _ _ _ _ _ hi with ⟨rfl, rfl⟩ | ⟨e1, e2, e3, e4⟩
      · simp [zl_get]
      · simp only [zl_get, zn_beq (Ne.symm e1), zn_beq (Ne.symm e2), cond_false, zdr_get]
        by_cases e5 : i + 1 = a
        · rw [if_pos e5, e3]
          have := e4 e5
          rcases w with (w | w) | (w | (w | w)) <;> first | rfl | cases this
        · rw [if_neg e5]; exact e3
    split at hck
    · obtain ⟨hg, hck⟩ := zgd_ok hck
      obtain ⟨hd, rfl⟩ := zdk_ok hck
      have hf := zfin (of_decide_eq_true hg)
      refine ev_lstore_n hd (by rw [hf]; exact hlim) (by rw [hf]; exact zdr_o L a) ?_
      rw [hf]
      exact ev_subg hinc (g3 kc ks q1 q2)
    · obtain ⟨hd, rfl⟩ := zdk_ok hck
      exact ev_lstore hd hlim (zdr_o L a) (ev_subg hinc (g3 kc ks q1 q2))
  · cases h
def zk_dstore : zCk := fun m pc a b c k => zgd (decide (a + 1 < znl m)) (if b = 1 then zgd (decide (a < 4)) (zdk (zMM m) pc (.dstore_n (Fin.ofNat 4 a)) 1) else zdk (zMM m) pc (.dstore a) 2)
set_option maxHeartbeats 1000000 in
theorem zs9_dstore : zSd zo_dstore zk_dstore false := by
  intro E l S m pc a b c D len k L st n sh d u r next jump call hl hS hck hL hn hj hc h
  unfold zo_dstore at h
  split at h
  · rename_i x st'
    obtain ⟨g1, g2, g3⟩ := hn rfl _ _ _ _ _ _ _ h (by rw [zst2_len]; exact hL)
    refine ⟨g1, g2, fun kc ks q1 q2 => ?_⟩
    unfold zk_dstore at hck
    obtain ⟨hg0, hck⟩ := zgd_ok hck
    have hlim := of_decide_eq_true hg0
    refine ev_subg (L' := zdr L a) (fun i w hi => ?_) ?_
    · rw [zdr_get] at hi
      rw [zlp_0]
      split at hi
      · exact (zk1_some hi).1
      · exact hi
    have hinc : ∀ i w, zl_get (zlp 0 (zst2 L a (zv_d x))) i = some w → zl_get ((a, some (zv_d x)) :: (a + 1, none) :: zdr L a) i = some w := by
      intro i w hi
      rw [zlp_0] at hi
      rcases zst2_get _ _ _ _ _ hi with ⟨rfl, rfl⟩ | ⟨e1, e2, e3, e4⟩
      · simp [zl_get]
      · simp only [zl_get, zn_beq (Ne.symm e1), zn_beq (Ne.symm e2), cond_false, zdr_get]
        by_cases e5 : i + 1 = a
        · rw [if_pos e5, e3]
          have := e4 e5
          rcases w with (w | w) | (w | (w | w)) <;> first | rfl | cases this
        · rw [if_neg e5]; exact e3
    split at hck
    · obtain ⟨hg, hck⟩ := zgd_ok hck
      obtain ⟨hd, rfl⟩ := zdk_ok hck
      have hf := zfin (of_decide_eq_true hg)
      refine ev_dstore_n hd (by rw [hf]; exact hlim) (by rw [hf]; exact zdr_o L a) ?_
      rw [hf]
      exact ev_subg hinc (g3 kc ks q1 q2)
    · obtain ⟨hd, rfl⟩ := zdk_ok hck
      exact ev_dstore hd hlim (zdr_o L a) (ev_subg hinc (g3 kc ks q1 q2))
  · cases h
def zk_fstore : zCk := fun m pc a b c k => zgd (decide (a < znl m)) (if b = 1 then zgd (decide (a < 4)) (zdk (zMM m) pc (.fstore_n (Fin.ofNat 4 a)) 1) else zdk (zMM m) pc (.fstore a) 2)
set_option maxHeartbeats 1000000 in
theorem zs9_fstore : zSd zo_fstore zk_fstore false := by
  intro E l S m pc a b c D len k L st n sh d u r next jump call hl hS hck hL hn hj hc h
  unfold zo_fstore at h
  split at h
  · rename_i x st'
    obtain ⟨g1, g2, g3⟩ := hn rfl _ _ _ _ _ _ _ h (by rw [zst1_len]; exact hL)
    refine ⟨g1, g2, fun kc ks q1 q2 => ?_⟩
    unfold zk_fstore at hck
    obtain ⟨hg0, hck⟩ := zgd_ok hck
    have hlim := of_decide_eq_true hg0
    refine ev_subg (L' := zdr L a) (fun i w hi => ?_) ?_
    · rw [zdr_get] at hi
      rw [zlp_0]
      split at hi
      · exact (zk1_some hi).1
      · exact hi
    have hinc : ∀ i w, zl_get (zlp 0 (zst1 L a (zv_f x))) i = some w → zl_get ((a, some (zv_f x)) :: zdr L a) i = some w := by
      intro i w hi
      rw [zlp_0] at hi
      rcases zst1_get _ _ _ _ _ hi with ⟨rfl, rfl⟩ | ⟨e1, e3, e4⟩
      · simp [zl_get]
      · simp only [zl_get, zn_beq (Ne.symm e1), cond_false, zdr_get]
        by_cases e5 : i + 1 = a
        · rw [if_pos e5, e3]
          have := e4 e5
          rcases w with (w | w) | (w | (w | w)) <;> first | rfl | cases this
        · rw [if_neg e5]; exact e3
    split at hck
    · obtain ⟨hg, hck⟩ := zgd_ok hck
      obtain ⟨hd, rfl⟩ := zdk_ok hck
      have hf := zfin (of_decide_eq_true hg)
      refine ev_fstore_n hd (by rw [hf]; exact hlim) (by rw [hf]; exact zdr_o L a) ?_
      rw [hf]
      exact ev_subg hinc (g3 kc ks q1 q2)
    · obtain ⟨hd, rfl⟩ := zdk_ok hck
      exact ev_fstore hd hlim (zdr_o L a) (ev_subg hinc (g3 kc ks q1 q2))
  · cases h
def zk_iinc : zCk := fun m pc a b c k => zgd (decide (a < znl m)) (zdk (zMM m) pc (.iinc a k) 3)
set_option maxHeartbeats 1000000 in
theorem zs9_iinc : zSd zo_iinc zk_iinc false := by
  intro E l S m pc a b c D len k L st n sh d u r next jump call hl hS hck hL hn hj hc h
  unfold zo_iinc at h
  split at h
  · rename_i x hx
    obtain ⟨g1, g2, g3⟩ := hn rfl _ _ _ _ _ _ _ h (by rw [zst1_len]; exact hL)
    refine ⟨g1, g2, fun kc ks q1 q2 => ?_⟩
    unfold zk_iinc at hck
    obtain ⟨hg0, hck⟩ := zgd_ok hck
    have hlim := of_decide_eq_true hg0
    obtain ⟨hd, rfl⟩ := zdk_ok hck
    refine ev_subg (L' := zdr L a) (fun i w hi => ?_) ?_
    · rw [zdr_get] at hi
      rw [zlp_0]
      split at hi
      · exact (zk1_some hi).1
      · exact hi
    refine ev_iinc hd (x := x) (by rw [zdr_get, if_neg (by omega)]; exact hx) hlim (zdr_o L a) (ev_subg (fun i w hi => ?_) (g3 kc ks q1 q2))
    rw [zlp_0] at hi
    rcases zst1_get _ _ _ _ _ hi with ⟨rfl, rfl⟩ | ⟨e1, e3, e4⟩
    · simp [zl_get]
    · simp only [zl_get, zn_beq (Ne.symm e1), cond_false, zdr_get]
      by_cases e5 : i + 1 = a
      · rw [if_pos e5, e3]
        have := e4 e5
        rcases w with (w | w) | (w | (w | w)) <;> first | rfl | cases this
      · rw [if_neg e5]; exact e3
  · cases h
def zk_if14 : zCk := fun m pc a b c k => zdk (zMM m) pc (.ifCond .eq ((zbp m a : Int) - (pc : Int))) 3
set_option maxHeartbeats 1000000 in
theorem zs9_if14 : zSd zo_if14 zk_if14 false := by
  intro E l S m pc a b c D len k L st n sh d u r next jump call hl hS hck hL hn hj hc h
  obtain ⟨hd, rfl⟩ := zdk_ok hck
  unfold zo_if14 at h
  split at h
  · split at h
    · rename_i hq
      obtain ⟨g1, g2, g3⟩ := hj _ _ _ _ _ _ _ _ h hL
      refine ⟨g1, g2, fun kc ks q1 q2 => ev_st (by simp only [List.map_cons, zc_w]) (ev_if_eq hd (tgt := zbp m a) (by omega) (zw_i _) (fun _ => g3 kc ks q1 q2) (fun q => absurd hq q))⟩
    · rename_i hq
      obtain ⟨g1, g2, g3⟩ := hn rfl _ _ _ _ _ _ _ h hL
      refine ⟨g1, g2, fun kc ks q1 q2 => ev_st (by simp only [List.map_cons, zc_w]) (ev_if_eq hd (tgt := zbp m a) (by omega) (zw_i _) (fun q => absurd q hq) (fun _ => g3 kc ks q1 q2))⟩
  · cases h
def zk_if15 : zCk := fun m pc a b c k => zdk (zMM m) pc (.ifCond .ne ((zbp m a : Int) - (pc : Int))) 3
set_option maxHeartbeats 1000000 in
theorem zs9_if15 : zSd zo_if15 zk_if15 false := by
  intro E l S m pc a b c D len k L st n sh d u r next jump call hl hS hck hL hn hj hc h
  obtain ⟨hd, rfl⟩ := zdk_ok hck
  unfold zo_if15 at h
  split at h
  · split at h
    · rename_i hq
      obtain ⟨g1, g2, g3⟩ := hj _ _ _ _ _ _ _ _ h hL
      refine ⟨g1, g2, fun kc ks q1 q2 => ev_st (by simp only [List.map_cons, zc_w]) (ev_if_ne hd (tgt := zbp m a) (by omega) (zw_i _) (fun _ => g3 kc ks q1 q2) (fun q => absurd q hq))⟩
    · rename_i hq
      obtain ⟨g1, g2, g3⟩ := hn rfl _ _ _ _ _ _ _ h hL
      refine ⟨g1, g2, fun kc ks q1 q2 => ev_st (by simp only [List.map_cons, zc_w]) (ev_if_ne hd (tgt := zbp m a) (by omega) (zw_i _) (fun q => absurd q hq) (fun _ => g3 kc ks q1 q2))⟩
  · cases h
def zk_if16 : zCk := fun m pc a b c k => zdk (zMM m) pc (.ifCond .lt ((zbp m a : Int) - (pc : Int))) 3
set_option maxHeartbeats 1000000 in
theorem zs9_if16 : zSd zo_if16 zk_if16 false := by
  intro E l S m pc a b c D len k L st n sh d u r next jump call hl hS hck hL hn hj hc h
  obtain ⟨hd, rfl⟩ := zdk_ok hck
  unfold zo_if16 at h
  split at h
  · split at h
    · rename_i hq
      obtain ⟨g1, g2, g3⟩ := hj _ _ _ _ _ _ _ _ h hL
      refine ⟨g1, g2, fun kc ks q1 q2 => ev_st (by simp only [List.map_cons, zc_w]) (ev_if_lt hd (tgt := zbp m a) (by omega) (zw_i _) (fun _ => g3 kc ks q1 q2) (fun q => absurd hq q))⟩
    · rename_i hq
      obtain ⟨g1, g2, g3⟩ := hn rfl _ _ _ _ _ _ _ h hL
      refine ⟨g1, g2, fun kc ks q1 q2 => ev_st (by simp only [List.map_cons, zc_w]) (ev_if_lt hd (tgt := zbp m a) (by omega) (zw_i _) (fun q => absurd q hq) (fun _ => g3 kc ks q1 q2))⟩
  · cases h
def zk_if17 : zCk := fun m pc a b c k => zdk (zMM m) pc (.ifCond .ge ((zbp m a : Int) - (pc : Int))) 3
set_option maxHeartbeats 1000000 in
theorem zs9_if17 : zSd zo_if17 zk_if17 false := by
  intro E l S m pc a b c D len k L st n sh d u r next jump call hl hS hck hL hn hj hc h
  obtain ⟨hd, rfl⟩ := zdk_ok hck
  unfold zo_if17 at h
  split at h
  · split at h
    · rename_i hq
      obtain ⟨g1, g2, g3⟩ := hj _ _ _ _ _ _ _ _ h hL
      refine ⟨g1, g2, fun kc ks q1 q2 => ev_st (by simp only [List.map_cons, zc_w]) (ev_if_ge hd (tgt := zbp m a) (by omega) (zw_i _) (fun _ => g3 kc ks q1 q2) (fun q => absurd hq q))⟩
    · rename_i hq
      obtain ⟨g1, g2, g3⟩ := hn rfl _ _ _ _ _ _ _ h hL
      refine ⟨g1, g2, fun kc ks q1 q2 => ev_st (by simp only [List.map_cons, zc_w]) (ev_if_ge hd (tgt := zbp m a) (by omega) (zw_i _) (fun q => absurd q hq) (fun _ => g3 kc ks q1 q2))⟩
  · cases h
def zk_if18 : zCk := fun m pc a b c k => zdk (zMM m) pc (.ifCond .gt ((zbp m a : Int) - (pc : Int))) 3
set_option maxHeartbeats 1000000 in
theorem zs9_if18 : zSd zo_if18 zk_if18 false := by
  intro E l S m pc a b c D len k L st n sh d u r next jump call hl hS hck hL hn hj hc h
  obtain ⟨hd, rfl⟩ := zdk_ok hck
  unfold zo_if18 at h
  split at h
  · split at h
    · rename_i hq
      obtain ⟨g1, g2, g3⟩ := hj _ _ _ _ _ _ _ _ h hL
      refine ⟨g1, g2, fun kc ks q1 q2 => ev_st (by simp only [List.map_cons, zc_w]) (ev_if_gt hd (tgt := zbp m a) (by omega) (zw_i _) (fun _ => g3 kc ks q1 q2) (fun q => absurd hq q))⟩
    · rename_i hq
      obtain ⟨g1, g2, g3⟩ := hn rfl _ _ _ _ _ _ _ h hL
      refine ⟨g1, g2, fun kc ks q1 q2 => ev_st (by simp only [List.map_cons, zc_w]) (ev_if_gt hd (tgt := zbp m a) (by omega) (zw_i _) (fun q => absurd q hq) (fun _ => g3 kc ks q1 q2))⟩
  · cases h
def zk_if19 : zCk := fun m pc a b c k => zdk (zMM m) pc (.ifCond .le ((zbp m a : Int) - (pc : Int))) 3
set_option maxHeartbeats 1000000 in
theorem zs9_if19 : zSd zo_if19 zk_if19 false := by
  intro E l S m pc a b c D len k L st n sh d u r next jump call hl hS hck hL hn hj hc h
  obtain ⟨hd, rfl⟩ := zdk_ok hck
  unfold zo_if19 at h
  split at h
  · split at h
    · rename_i hq
      obtain ⟨g1, g2, g3⟩ := hj _ _ _ _ _ _ _ _ h hL
      refine ⟨g1, g2, fun kc ks q1 q2 => ev_st (by simp only [List.map_cons, zc_w]) (ev_if_le hd (tgt := zbp m a) (by omega) (zw_i _) (fun _ => g3 kc ks q1 q2) (fun q => absurd hq q))⟩
    · rename_i hq
      obtain ⟨g1, g2, g3⟩ := hn rfl _ _ _ _ _ _ _ h hL
      refine ⟨g1, g2, fun kc ks q1 q2 => ev_st (by simp only [List.map_cons, zc_w]) (ev_if_le hd (tgt := zbp m a) (by omega) (zw_i _) (fun q => absurd q hq) (fun _ => g3 kc ks q1 q2))⟩
  · cases h
def zk_ic20 : zCk := fun m pc a b c k => zdk (zMM m) pc (.if_icmp .eq ((zbp m a : Int) - (pc : Int))) 3
set_option maxHeartbeats 1000000 in
theorem zs9_ic20 : zSd zo_ic20 zk_ic20 false := by
  intro E l S m pc a b c D len k L st n sh d u r next jump call hl hS hck hL hn hj hc h
  obtain ⟨hd, rfl⟩ := zdk_ok hck
  unfold zo_ic20 at h
  split at h
  · split at h
    · rename_i hq
      obtain ⟨g1, g2, g3⟩ := hj _ _ _ _ _ _ _ _ h hL
      refine ⟨g1, g2, fun kc ks q1 q2 => ev_st (by simp only [List.map_cons, zc_w]) (ev_icmp_eq hd (tgt := zbp m a) (by omega) (zw_i _) (zw_i _) (fun _ => g3 kc ks q1 q2) (fun q => absurd hq q))⟩
    · rename_i hq
      obtain ⟨g1, g2, g3⟩ := hn rfl _ _ _ _ _ _ _ h hL
      refine ⟨g1, g2, fun kc ks q1 q2 => ev_st (by simp only [List.map_cons, zc_w]) (ev_icmp_eq hd (tgt := zbp m a) (by omega) (zw_i _) (zw_i _) (fun q => absurd q hq) (fun _ => g3 kc ks q1 q2))⟩
  · cases h
def zk_ic21 : zCk := fun m pc a b c k => zdk (zMM m) pc (.if_icmp .ne ((zbp m a : Int) - (pc : Int))) 3
set_option maxHeartbeats 1000000 in
theorem zs9_ic21 : zSd zo_ic21 zk_ic21 false := by
  intro E l S m pc a b c D len k L st n sh d u r next jump call hl hS hck hL hn hj hc h
  obtain ⟨hd, rfl⟩ := zdk_ok hck
  unfold zo_ic21 at h
  split at h
  · split at h
    · rename_i hq
      obtain ⟨g1, g2, g3⟩ := hj _ _ _ _ _ _ _ _ h hL
      refine ⟨g1, g2, fun kc ks q1 q2 => ev_st (by simp only [List.map_cons, zc_w]) (ev_icmp_ne hd (tgt := zbp m a) (by omega) (zw_i _) (zw_i _) (fun _ => g3 kc ks q1 q2) (fun q => absurd q hq))⟩
    · rename_i hq
      obtain ⟨g1, g2, g3⟩ := hn rfl _ _ _ _ _ _ _ h hL
      refine ⟨g1, g2, fun kc ks q1 q2 => ev_st (by simp only [List.map_cons, zc_w]) (ev_icmp_ne hd (tgt := zbp m a) (by omega) (zw_i _) (zw_i _) (fun q => absurd q hq) (fun _ => g3 kc ks q1 q2))⟩
  · cases h
def zk_ic22 : zCk := fun m pc a b c k => zdk (zMM m) pc (.if_icmp .lt ((zbp m a : Int) - (pc : Int))) 3
set_option maxHeartbeats 1000000 in
theorem zs9_ic22 : zSd zo_ic22 zk_ic22 false := by
  intro E l S m pc a b c D len k L st n sh d u r next jump call hl hS hck hL hn hj hc h
  obtain ⟨hd, rfl⟩ := zdk_ok hck
  unfold zo_ic22 at h
  split at h
  · split at h
    · rename_i hq
      obtain ⟨g1, g2, g3⟩ := hj _ _ _ _ _ _ _ _ h hL
      refine ⟨g1, g2, fun kc ks q1 q2 => ev_st (by simp only [List.map_cons, zc_w]) (ev_icmp_lt hd (tgt := zbp m a) (by omega) (zw_i _) (zw_i _) (fun _ => g3 kc ks q1 q2) (fun q => absurd hq q))⟩
    · rename_i hq
      obtain ⟨g1, g2, g3⟩ := hn rfl _ _ _ _ _ _ _ h hL
      refine ⟨g1, g2, fun kc ks q1 q2 => ev_st (by simp only [List.map_cons, zc_w]) (ev_icmp_lt hd (tgt := zbp m a) (by omega) (zw_i _) (zw_i _) (fun q => absurd q hq) (fun _ => g3 kc ks q1 q2))⟩
  · cases h
def zk_ic23 : zCk := fun m pc a b c k => zdk (zMM m) pc (.if_icmp .ge ((zbp m a : Int) - (pc : Int))) 3
set_option maxHeartbeats 1000000 in
theorem zs9_ic23 : zSd zo_ic23 zk_ic23 false := by
  intro E l S m pc a b c D len k L st n sh d u r next jump call hl hS hck hL hn hj hc h
  obtain ⟨hd, rfl⟩ := zdk_ok hck
  unfold zo_ic23 at h
  split at h
  · split at h
    · rename_i hq
      obtain ⟨g1, g2, g3⟩ := hj _ _ _ _ _ _ _ _ h hL
      refine ⟨g1, g2, fun kc ks q1 q2 => ev_st (by simp only [List.map_cons, zc_w]) (ev_icmp_ge hd (tgt := zbp m a) (by omega) (zw_i _) (zw_i _) (fun _ => g3 kc ks q1 q2) (fun q => absurd hq q))⟩
    · rename_i hq
      obtain ⟨g1, g2, g3⟩ := hn rfl _ _ _ _ _ _ _ h hL
      refine ⟨g1, g2, fun kc ks q1 q2 => ev_st (by simp only [List.map_cons, zc_w]) (ev_icmp_ge hd (tgt := zbp m a) (by omega) (zw_i _) (zw_i _) (fun q => absurd q hq) (fun _ => g3 kc ks q1 q2))⟩
  · cases h
def zk_ic24 : zCk := fun m pc a b c k => zdk (zMM m) pc (.if_icmp .gt ((zbp m a : Int) - (pc : Int))) 3
set_option maxHeartbeats 1000000 in
theorem zs9_ic24 : zSd zo_ic24 zk_ic24 false := by
  intro E l S m pc a b c D len k L st n sh d u r next jump call hl hS hck hL hn hj hc h
  obtain ⟨hd, rfl⟩ := zdk_ok hck
  unfold zo_ic24 at h
  split at h
  · split at h
    · rename_i hq
      obtain ⟨g1, g2, g3⟩ := hj _ _ _ _ _ _ _ _ h hL
      refine ⟨g1, g2, fun kc ks q1 q2 => ev_st (by simp only [List.map_cons, zc_w]) (ev_icmp_gt hd (tgt := zbp m a) (by omega) (zw_i _) (zw_i _) (fun _ => g3 kc ks q1 q2) (fun q => absurd hq q))⟩
    · rename_i hq
      obtain ⟨g1, g2, g3⟩ := hn rfl _ _ _ _ _ _ _ h hL
      refine ⟨g1, g2, fun kc ks q1 q2 => ev_st (by simp only [List.map_cons, zc_w]) (ev_icmp_gt hd (tgt := zbp m a) (by omega) (zw_i _) (zw_i _) (fun q => absurd q hq) (fun _ => g3 kc ks q1 q2))⟩
  · cases h
def zk_ic25 : zCk := fun m pc a b c k => zdk (zMM m) pc (.if_icmp .le ((zbp m a : Int) - (pc : Int))) 3
set_option maxHeartbeats 1000000 in
theorem zs9_ic25 : zSd zo_ic25 zk_ic25 false := by
  intro E l S m pc a b c D len k L st n sh d u r next jump call hl hS hck hL hn hj hc h
  obtain ⟨hd, rfl⟩ := zdk_ok hck
  unfold zo_ic25 at h
  split at h
  · split at h
    · rename_i hq
      obtain ⟨g1, g2, g3⟩ := hj _ _ _ _ _ _ _ _ h hL
      refine ⟨g1, g2, fun kc ks q1 q2 => ev_st (by simp only [List.map_cons, zc_w]) (ev_icmp_le hd (tgt := zbp m a) (by omega) (zw_i _) (zw_i _) (fun _ => g3 kc ks q1 q2) (fun q => absurd hq q))⟩
    · rename_i hq
      obtain ⟨g1, g2, g3⟩ := hn rfl _ _ _ _ _ _ _ h hL
      refine ⟨g1, g2, fun kc ks q1 q2 => ev_st (by simp only [List.map_cons, zc_w]) (ev_icmp_le hd (tgt := zbp m a) (by omega) (zw_i _) (zw_i _) (fun q => absurd q hq) (fun _ => g3 kc ks q1 q2))⟩
  · cases h
def zk_in26 : zCk := fun m pc a b c k => zdk (zMM m) pc (.ifnull ((zbp m a : Int) - (pc : Int))) 3
set_option maxHeartbeats 1000000 in
theorem zs9_in26 : zSd zo_in26 zk_in26 false := by
  intro E l S m pc a b c D len k L st n sh d u r next jump call hl hS hck hL hn hj hc h
  obtain ⟨hd, rfl⟩ := zdk_ok hck
  unfold zo_in26 at h
  split at h
  · split at h
    · rename_i hq
      obtain ⟨g1, g2, g3⟩ := hj _ _ _ _ _ _ _ _ h hL
      refine ⟨g1, g2, fun kc ks q1 q2 => (ev_ifnull hd (tgt := zbp m a) (by omega) (fun _ => g3 kc ks q1 q2) (fun q => absurd hq q))⟩
    · rename_i hq
      obtain ⟨g1, g2, g3⟩ := hn rfl _ _ _ _ _ _ _ h hL
      refine ⟨g1, g2, fun kc ks q1 q2 => (ev_ifnull hd (tgt := zbp m a) (by omega) (fun q => absurd q hq) (fun _ => g3 kc ks q1 q2))⟩
  · cases h
def zk_in27 : zCk := fun m pc a b c k => zdk (zMM m) pc (.ifnonnull ((zbp m a : Int) - (pc : Int))) 3
set_option maxHeartbeats 1000000 in
theorem zs9_in27 : zSd zo_in27 zk_in27 false := by
  intro E l S m pc a b c D len k L st n sh d u r next jump call hl hS hck hL hn hj hc h
  obtain ⟨hd, rfl⟩ := zdk_ok hck
  unfold zo_in27 at h
  split at h
  · split at h
    · rename_i hq
      obtain ⟨g1, g2, g3⟩ := hj _ _ _ _ _ _ _ _ h hL
      refine ⟨g1, g2, fun kc ks q1 q2 => (ev_ifnonnull hd (tgt := zbp m a) (by omega) (fun _ => g3 kc ks q1 q2) (fun q => absurd q hq))⟩
    · rename_i hq
      obtain ⟨g1, g2, g3⟩ := hn rfl _ _ _ _ _ _ _ h hL
      refine ⟨g1, g2, fun kc ks q1 q2 => (ev_ifnonnull hd (tgt := zbp m a) (by omega) (fun q => absurd q hq) (fun _ => g3 kc ks q1 q2))⟩
  · cases h
def zk_ia28 : zCk := fun m pc a b c k => zdk (zMM m) pc (.if_acmp .eq ((zbp m a : Int) - (pc : Int))) 3
set_option maxHeartbeats 1000000 in
theorem zs9_ia28 : zSd zo_ia28 zk_ia28 false := by
  intro E l S m pc a b c D len k L st n sh d u r next jump call hl hS hck hL hn hj hc h
  obtain ⟨hd, rfl⟩ := zdk_ok hck
  unfold zo_ia28 at h
  split at h
  · split at h
    · rename_i hg
      split at h
      · rename_i hq
        obtain ⟨g1, g2, g3⟩ := hj _ _ _ _ _ _ _ _ h hL
        exact ⟨g1, g2, fun kc ks q1 q2 => ev_acmp_eq hd (tgt := zbp m a) (by omega) hg.1 hg.2 (fun _ => g3 kc ks q1 q2) (fun q => absurd hq q)⟩
      · rename_i hq
        obtain ⟨g1, g2, g3⟩ := hn rfl _ _ _ _ _ _ _ h hL
        exact ⟨g1, g2, fun kc ks q1 q2 => ev_acmp_eq hd (tgt := zbp m a) (by omega) hg.1 hg.2 (fun q => absurd q hq) (fun _ => g3 kc ks q1 q2)⟩
    · cases h
  · cases h
def zk_ia29 : zCk := fun m pc a b c k => zdk (zMM m) pc (.if_acmp .ne ((zbp m a : Int) - (pc : Int))) 3
set_option maxHeartbeats 1000000 in
theorem zs9_ia29 : zSd zo_ia29 zk_ia29 false := by
  intro E l S m pc a b c D len k L st n sh d u r next jump call hl hS hck hL hn hj hc h
  obtain ⟨hd, rfl⟩ := zdk_ok hck
  unfold zo_ia29 at h
  split at h
  · split at h
    · rename_i hg
      split at h
      · rename_i hq
        obtain ⟨g1, g2, g3⟩ := hj _ _ _ _ _ _ _ _ h hL
        exact ⟨g1, g2, fun kc ks q1 q2 => ev_acmp_ne hd (tgt := zbp m a) (by omega) hg.1 hg.2 (fun _ => g3 kc ks q1 q2) (fun q => absurd q hq)⟩
      · rename_i hq
        obtain ⟨g1, g2, g3⟩ := hn rfl _ _ _ _ _ _ _ h hL
        exact ⟨g1, g2, fun kc ks q1 q2 => ev_acmp_ne hd (tgt := zbp m a) (by omega) hg.1 hg.2 (fun q => absurd q hq) (fun _ => g3 kc ks q1 q2)⟩
    · cases h
  · cases h
def zk_goto : zCk := fun m pc a b c k => zdk (zMM m) pc (.goto ((zbp m a : Int) - (pc : Int))) 3
set_option maxHeartbeats 1000000 in
theorem zs9_goto : zSd zo_goto zk_goto true := by
  intro E l S m pc a b c D len k L st n sh d u r next jump call hl hS hck hL hn hj hc h
  obtain ⟨hd, rfl⟩ := zdk_ok hck
  obtain ⟨g1, g2, g3⟩ := hj _ _ _ _ _ _ _ _ h hL
  exact ⟨g1, g2, fun kc ks q1 q2 => ev_goto hd (tgt := zbp m a) (by omega) (g3 kc ks q1 q2)⟩
def zk_fall : zCk := fun m pc a b c k => if zbp m a = pc then some 0 else none
set_option maxHeartbeats 1000000 in
theorem zs9_fall : zSd zo_fall zk_fall true := by
  intro E l S m pc a b c D len k L st n sh d u r next jump call hl hS hck hL hn hj hc h
  unfold zk_fall at hck
  split at hck
  · rename_i e
    obtain ⟨g1, g2, g3⟩ := hj _ _ _ _ _ _ _ _ h hL
    rw [e] at g3
    exact ⟨g1, g2, g3⟩
  · cases hck
def zk_dup : zCk := fun m pc a b c k => zdk (zMM m) pc .dup 1
set_option maxHeartbeats 1000000 in
theorem zs9_dup : zSd zo_dup zk_dup false := by
  intro E l S m pc a b c D len k L st n sh d u r next jump call hl hS hck hL hn hj hc h
  obtain ⟨hd, rfl⟩ := zdk_ok hck
  unfold zo_dup at h
  split at h
  · obtain ⟨g1, g2, g3⟩ := hn rfl _ _ _ _ _ _ _ h hL
    exact ⟨g1, g2, fun kc ks q1 q2 => ev_dup hd rfl (g3 kc ks q1 q2)⟩
  · obtain ⟨g1, g2, g3⟩ := hn rfl _ _ _ _ _ _ _ h hL
    exact ⟨g1, g2, fun kc ks q1 q2 => ev_dup hd rfl (g3 kc ks q1 q2)⟩
  · cases h
def zk_dup2 : zCk := fun m pc a b c k => zdk (zMM m) pc .dup2 1
set_option maxHeartbeats 1000000 in
theorem zs9_dup2 : zSd zo_dup2 zk_dup2 false := by
  intro E l S m pc a b c D len k L st n sh d u r next jump call hl hS hck hL hn hj hc h
  obtain ⟨hd, rfl⟩ := zdk_ok hck
  unfold zo_dup2 at h
  split at h
  · obtain ⟨g1, g2, g3⟩ := hn rfl _ _ _ _ _ _ _ h hL
    exact ⟨g1, g2, fun kc ks q1 q2 => ev_dup2 hd rfl rfl (g3 kc ks q1 q2)⟩
  · cases h
def zk_pop : zCk := fun m pc a b c k => zdk (zMM m) pc .pop 1
set_option maxHeartbeats 1000000 in
theorem zs9_pop : zSd zo_pop zk_pop false := by
  intro E l S m pc a b c D len k L st n sh d u r next jump call hl hS hck hL hn hj hc h
  obtain ⟨hd, rfl⟩ := zdk_ok hck
  unfold zo_pop at h
  split at h
  · obtain ⟨g1, g2, g3⟩ := hn rfl _ _ _ _ _ _ _ h hL
    exact ⟨g1, g2, fun kc ks q1 q2 => ev_pop hd rfl (g3 kc ks q1 q2)⟩
  · cases h
def zk_pop2 : zCk := fun m pc a b c k => zdk (zMM m) pc .pop2 1
set_option maxHeartbeats 1000000 in
theorem zs9_pop2 : zSd zo_pop2 zk_pop2 false := by
  intro E l S m pc a b c D len k L st n sh d u r next jump call hl hS hck hL hn hj hc h
  obtain ⟨hd, rfl⟩ := zdk_ok hck
  unfold zo_pop2 at h
  split at h
  · obtain ⟨g1, g2, g3⟩ := hn rfl _ _ _ _ _ _ _ h hL
    exact ⟨g1, g2, fun kc ks q1 q2 => ev_pop2 hd rfl (g3 kc ks q1 q2)⟩
  · obtain ⟨g1, g2, g3⟩ := hn rfl _ _ _ _ _ _ _ h hL
    exact ⟨g1, g2, fun kc ks q1 q2 => ev_pop2 hd rfl (g3 kc ks q1 q2)⟩
  · cases h
def zk_lret : zCk := fun m pc a b c k => zgd (decide (zm_r (zMM m) = some .long)) (zdk (zMM m) pc .lreturn 1)
set_option maxHeartbeats 1000000 in
theorem zs9_lret : zSd zo_lret zk_lret true := by
  intro E l S m pc a b c D len k L st n sh d u r next jump call hl hS hck hL hn hj hc h
  obtain ⟨hg, hck⟩ := zgd_ok hck
  obtain ⟨hd, rfl⟩ := zdk_ok hck
  unfold zo_lret at h
  split at h
  · cases h
    exact ⟨Nat.le_refl _, Nat.le_refl _, fun kc ks q1 q2 => ev_lret hd (of_decide_eq_true hg) ⟨rfl, rfl, rfl, rfl⟩⟩
  · cases h
def zk_dret : zCk := fun m pc a b c k => zgd (decide (zm_r (zMM m) = some .double)) (zdk (zMM m) pc .dreturn 1)
set_option maxHeartbeats 1000000 in
theorem zs9_dret : zSd zo_dret zk_dret true := by
  intro E l S m pc a b c D len k L st n sh d u r next jump call hl hS hck hL hn hj hc h
  obtain ⟨hg, hck⟩ := zgd_ok hck
  obtain ⟨hd, rfl⟩ := zdk_ok hck
  unfold zo_dret at h
  split at h
  · cases h
    exact ⟨Nat.le_refl _, Nat.le_refl _, fun kc ks q1 q2 => ev_dret hd (of_decide_eq_true hg) ⟨rfl, rfl, rfl, rfl⟩⟩
  · cases h
def zk_fret : zCk := fun m pc a b c k => zgd (decide (zm_r (zMM m) = some .float)) (zdk (zMM m) pc .freturn 1)
set_option maxHeartbeats 1000000 in
theorem zs9_fret : zSd zo_fret zk_fret true := by
  intro E l S m pc a b c D len k L st n sh d u r next jump call hl hS hck hL hn hj hc h
  obtain ⟨hg, hck⟩ := zgd_ok hck
  obtain ⟨hd, rfl⟩ := zdk_ok hck
  unfold zo_fret at h
  split at h
  · cases h
    exact ⟨Nat.le_refl _, Nat.le_refl _, fun kc ks q1 q2 => ev_fret hd (of_decide_eq_true hg) ⟨rfl, rfl, rfl, rfl⟩⟩
  · cases h
def zk_vret : zCk := fun m pc a b c k => zgd (decide (zm_r (zMM m) = none)) (zdk (zMM m) pc .return_ 1)
set_option maxHeartbeats 1000000 in
theorem zs9_vret : zSd zo_vret zk_vret true := by
  intro E l S m pc a b c D len k L st n sh d u r next jump call hl hS hck hL hn hj hc h
  obtain ⟨hg, hck⟩ := zgd_ok hck
  obtain ⟨hd, rfl⟩ := zdk_ok hck
  unfold zo_vret at h
  split at h
  · cases h
    exact ⟨Nat.le_refl _, Nat.le_refl _, fun kc ks q1 q2 => ev_vret hd (of_decide_eq_true hg) ⟨rfl, rfl, rfl, rfl⟩⟩
  · cases h
def zk_iret : zCk := fun m pc a b c k => zgd (decide (zm_r (zMM m) = some .int)) (zdk (zMM m) pc .ireturn 1)
set_option maxHeartbeats 1000000 in
theorem zs9_iret : zSd zo_iret zk_iret true := by
  intro E l S m pc a b c D len k L st n sh d u r next jump call hl hS hck hL hn hj hc h
  obtain ⟨hg, hck⟩ := zgd_ok hck
  obtain ⟨hd, rfl⟩ := zdk_ok hck
  unfold zo_iret at h
  split at h
  · cases h
    exact ⟨Nat.le_refl _, Nat.le_refl _, fun kc ks q1 q2 => ev_iret hd (of_decide_eq_true hg) rfl ⟨rfl, rfl, rfl, rfl⟩⟩
  · cases h
def zk_zret : zCk := fun m pc a b c k => zgd (decide (zm_r (zMM m) = some .boolean)) (zdk (zMM m) pc .ireturn 1)
set_option maxHeartbeats 1000000 in
theorem zs9_zret : zSd zo_zret zk_zret true := by
  intro E l S m pc a b c D len k L st n sh d u r next jump call hl hS hck hL hn hj hc h
  obtain ⟨hg, hck⟩ := zgd_ok hck
  obtain ⟨hd, rfl⟩ := zdk_ok hck
  unfold zo_zret at h
  split at h
  · split at h
    · rename_i hx
      cases h
      exact ⟨Nat.le_refl _, Nat.le_refl _, fun kc ks q1 q2 => ev_iret hd (of_decide_eq_true hg) (zn_z hx) ⟨rfl, rfl, rfl, rfl⟩⟩
    · cases h
  · cases h
def zisR : Option FieldType → Bool
  | some (.object _) => true
  | some (.array _) => true
  | _ => false
theorem zisR_ok {o : Option FieldType} (h : zisR o = true) : ∃ rt, o = some rt ∧ ((∃ n, rt = .object n) ∨ ∃ t, rt = .array t) := by
  rcases o with _ | rt
  · cases h
  · cases rt <;> first | exact ⟨_, rfl, Or.inl ⟨_, rfl⟩⟩ | exact ⟨_, rfl, Or.inr ⟨_, rfl⟩⟩ | (cases h; done)
def zk_aret : zCk := fun m pc a b c k => zgd (zisR (zm_r (zMM m))) (zdk (zMM m) pc .areturn 1)
set_option maxHeartbeats 1000000 in
theorem zs9_aret : zSd zo_aret zk_aret true := by
  intro E l S m pc a b c D len k L st n sh d u r next jump call hl hS hck hL hn hj hc h
  obtain ⟨hg, hck⟩ := zgd_ok hck
  obtain ⟨hd, rfl⟩ := zdk_ok hck
  obtain ⟨rt, e1, e2⟩ := zisR_ok hg
  unfold zo_aret at h
  split at h
  · cases h
    exact ⟨Nat.le_refl _, Nat.le_refl _, fun kc ks q1 q2 => ev_aret hd e1 e2 ⟨rfl, rfl, rfl, rfl⟩⟩
  · cases h
theorem zaB_s {k : zk_K} {c : Nat} (h : zaB k = some c) : k = some (.inl c) := by
  rcases k with _ | c' | q
  · cases h
  · cases h; rfl
  · cases h
def zfk (M : zm_M) (pc a b c : Nat) (k : Int) (i : Nat → Instr) : Option Nat := match zFT[c]? with
  | some r => zgd (decide (r.1 = zm_o M ∧ r.2.2.1 = a ∧ r.2.2.2.1 = b ∧ k = (b : Int))) (zdk M pc (i r.2.1) 3)
  | none => none
theorem zfk_ok {M : zm_M} {pc a b c len : Nat} {k : Int} {i : Nat → Instr} (h : zfk M pc a b c k i = some len) : ∃ idx, decode (zm_c M) pc = .ok (i idx, 3) ∧ zf_l M idx a b ∧ k = (b : Int) ∧ len = 3 := by
  unfold zfk at h
  split at h
  · rename_i r hr
    obtain ⟨hg, h2⟩ := zgd_ok h
    obtain ⟨e1, rfl, rfl, e4⟩ := of_decide_eq_true hg
    obtain ⟨hd, rfl⟩ := zdk_ok h2
    exact ⟨_, hd, zFT_l (List.mem_of_getElem? hr) e1, e4, rfl⟩
  · cases h
def zfn (M : zm_M) (a b : Nat) : Bool := match zk_cl[a]? with
  | some q => !(q.2.1 b).2.2.2 || ((q.2.1 b).2.2.2 && (decide ((zm_y M).name = "<init>") && decide ((q.2.1 b).1 = zm_o M)))
  | none => false
theorem zfn_ok {M : zm_M} {a b : Nat} (h : zfn M a b = true) : zf_n M a b := by
  unfold zfn at h
  split at h
  · rename_i q hq
    refine ⟨q, hq, ?_⟩
    simp only [Bool.or_eq_true, Bool.not_eq_true', Bool.and_eq_true] at h
    rcases h with h | ⟨h1, h2, h3⟩
    · exact Or.inl h
    · exact Or.inr ⟨h1, of_decide_eq_true h2, of_decide_eq_true h3⟩
  · cases h
def zisI (t : FieldType) : Bool := match t with
  | .int => true
  | .boolean => true
  | _ => false
def zk_getI : zCk := fun m pc a b c k => zgd (zisI (zk_ty a b)) (zfk (zMM m) pc a b c k .getfield)
set_option maxHeartbeats 1000000 in
theorem zs9_getI : zSd zo_getI zk_getI false := by
  intro E l S m pc a b c D len k L st n sh d u r next jump call hl hS hck hL hn hj hc h
  obtain ⟨hg, hck⟩ := zgd_ok hck
  obtain ⟨idx, hd, hf, rfl, rfl⟩ := zfk_ok hck
  unfold zo_getI at h
  split at h
  · split at h
    · rename_i hq
      obtain ⟨g1, g2, g3⟩ := hn rfl _ _ _ _ _ _ _ h hL
      refine ⟨g1, g2, fun kc ks q1 q2 => ev_get hd hf (zaB_s hq.2) hq.1 ?_⟩
      have e : ∀ z, zv_of (zk_ty a b) z = zv_i z := by
        intro z
        unfold zisI at hg
        split at hg
        · rename_i e; rw [e]; rfl
        · rename_i e; rw [e]; rfl
        · cases hg
      rw [e]
      exact g3 kc ks q1 q2
    · cases h
  · cases h
def zk_getA : zCk := fun m pc a b c k => zgd (zisR (some (zk_ty a b))) (zfk (zMM m) pc a b c k .getfield)
set_option maxHeartbeats 1000000 in
theorem zs9_getA : zSd zo_getA zk_getA false := by
  intro E l S m pc a b c D len k L st n sh d u r next jump call hl hS hck hL hn hj hc h
  obtain ⟨hg, hck⟩ := zgd_ok hck
  obtain ⟨idx, hd, hf, rfl, rfl⟩ := zfk_ok hck
  unfold zo_getA at h
  split at h
  · split at h
    · rename_i hq
      obtain ⟨g1, g2, g3⟩ := hn rfl _ _ _ _ _ _ _ h hL
      refine ⟨g1, g2, fun kc ks q1 q2 => ev_get hd hf (zaB_s hq.2) hq.1 ?_⟩
      have e : ∀ z, zv_of (zk_ty a b) z = zv_a z := by
        intro z
        obtain ⟨rt, e1, ⟨t, rfl⟩ | ⟨t, rfl⟩⟩ := zisR_ok hg
        · rw [Option.some.inj e1]; rfl
        · rw [Option.some.inj e1]; rfl
      rw [e]
      exact g3 kc ks q1 q2
    · cases h
  · cases h
def zk_putI : zCk := fun m pc a b c k => zgd (decide (zk_ty a b = .int)) (zgd (zfn (zMM m) a b) (zfk (zMM m) pc a b c k .putfield))
def zk_putZ : zCk := fun m pc a b c k => zgd (decide (zk_ty a b = .boolean)) (zgd (zfn (zMM m) a b) (zfk (zMM m) pc a b c k .putfield))
def zk_putA : zCk := fun m pc a b c k => zgd (zisR (some (zk_ty a b))) (zgd (zfn (zMM m) a b) (zfk (zMM m) pc a b c k .putfield))
set_option maxHeartbeats 1000000 in
theorem zs9_putI : zSd zo_putI zk_putI false := by
  intro E l S m pc a b c D len k L st n sh d u r next jump call hl hS hck hL hn hj hc h
  obtain ⟨hg, hck⟩ := zgd_ok hck
  obtain ⟨hfn, hck⟩ := zgd_ok hck
  obtain ⟨idx, hd, hf, rfl, rfl⟩ := zfk_ok hck
  have e := of_decide_eq_true hg
  unfold zo_putI at h
  split at h
  · split at h
    · rename_i hq
      obtain ⟨g1, g2, g3⟩ := hn rfl _ _ _ _ _ _ _ h hL
      exact ⟨g1, g2, fun kc ks q1 q2 => ev_put hd hf (zfn_ok hfn) (zaB_s hq.2) hq.1 (by rw [e]; rfl) (by rw [e]; rfl) (by rw [e]; rfl) (g3 kc ks q1 q2)⟩
    · cases h
  · cases h
set_option maxHeartbeats 1000000 in
theorem zs9_putZ : zSd zo_putZ zk_putZ false := by
  intro E l S m pc a b c D len k L st n sh d u r next jump call hl hS hck hL hn hj hc h
  obtain ⟨hg, hck⟩ := zgd_ok hck
  obtain ⟨hfn, hck⟩ := zgd_ok hck
  obtain ⟨idx, hd, hf, rfl, rfl⟩ := zfk_ok hck
  have e := of_decide_eq_true hg
  unfold zo_putZ at h
  split at h
  · split at h
    · rename_i hq
      obtain ⟨g1, g2, g3⟩ := hn rfl _ _ _ _ _ _ _ h hL
      exact ⟨g1, g2, fun kc ks q1 q2 => ev_put hd hf (zfn_ok hfn) (zaB_s hq.1.2) hq.1.1 (by rw [e]; rfl) (by rw [e]; exact zn_z hq.2) (by rw [e]; rcases hq.2 with q | q <;> rw [q] <;> rfl) (g3 kc ks q1 q2)⟩
    · cases h
  · cases h
theorem zfits_r (E : ze_E) (z : Int) {t : FieldType} (h : zisR (some t) = true) : zv_c E (zv_a z) = zv_fv E t z ∧ narrow t (zv_fv E t z) = zv_fv E t z ∧ fits t (zv_fv E t z) = true := by
  obtain ⟨rt, e1, ⟨t', rfl⟩ | ⟨t', rfl⟩⟩ := zisR_ok h
  · cases Option.some.inj e1
    refine ⟨rfl, ?_, ?_⟩
    · show narrow _ (va_rf (zv_ro E z)) = va_rf (zv_ro E z)
      cases zv_ro E z <;> rfl
    · show fits _ (va_rf (zv_ro E z)) = _
      cases zv_ro E z <;> rfl
  · cases Option.some.inj e1
    refine ⟨rfl, ?_, ?_⟩
    · show narrow _ (va_rf (zv_ro E z)) = va_rf (zv_ro E z)
      cases zv_ro E z <;> rfl
    · show fits _ (va_rf (zv_ro E z)) = _
      cases zv_ro E z <;> rfl
set_option maxHeartbeats 1000000 in
theorem zs9_putA : zSd zo_putA zk_putA false := by
  intro E l S m pc a b c D len k L st n sh d u r next jump call hl hS hck hL hn hj hc h
  obtain ⟨hg, hck⟩ := zgd_ok hck
  obtain ⟨hfn, hck⟩ := zgd_ok hck
  obtain ⟨idx, hd, hf, rfl, rfl⟩ := zfk_ok hck
  unfold zo_putA at h
  split at h
  · split at h
    · rename_i hq
      obtain ⟨g1, g2, g3⟩ := hn rfl _ _ _ _ _ _ _ h hL
      exact ⟨g1, g2, fun kc ks q1 q2 => ev_put hd hf (zfn_ok hfn) (zaB_s hq.2) hq.1 (zfits_r E _ hg).1 (zfits_r E _ hg).2.1 (zfits_r E _ hg).2.2 (g3 kc ks q1 q2)⟩
    · cases h
  · cases h
theorem zaI_s {k : zk_K} {N : Nat} (h : zaI k = some N) : k = some (.inr (.int, N)) := by
  unfold zaI at h
  split at h
  · cases h; rfl
  · cases h
theorem zaL_s {k : zk_K} {N : Nat} (h : zaL k = some N) : k = some (.inr (.long, N)) := by
  unfold zaL at h
  split at h
  · cases h; rfl
  · cases h
theorem zaD_s {k : zk_K} {N : Nat} (h : zaD k = some N) : k = some (.inr (.double, N)) := by
  unfold zaD at h
  split at h
  · cases h; rfl
  · cases h
theorem zaC_s {k : zk_K} {N : Nat} (h : zaC k = some N) : k = some (.inr (.char, N)) := by
  unfold zaC at h
  split at h
  · cases h; rfl
  · cases h
theorem zaZ_s {k : zk_K} {N : Nat} (h : zaZ k = some N) : k = some (.inr (.boolean, N)) := by
  unfold zaZ at h
  split at h
  · cases h; rfl
  · cases h
theorem zaR_s {k : zk_K} {N : Nat} (h : zaR k = some N) : ∃ t, k = some (.inr (t, N)) ∧ t.isReference = true := by
  unfold zaR at h
  split at h
  · cases h; exact ⟨_, rfl, rfl⟩
  · cases h; exact ⟨_, rfl, rfl⟩
  · cases h
theorem zaO_s {k : zk_K} {C : String} {N : Nat} (h : zaO k = some (C, N)) : k = some (.inr (.object C, N)) := by
  unfold zaO at h
  split at h
  · cases h; rfl
  · cases h
theorem zaX_s {k : zk_K} {N : Nat} (h : zaX k = some N) : ∃ t, k = some (.inr (t, N)) := by
  unfold zaX at h
  split at h
  · cases h; exact ⟨_, rfl⟩
  · cases h
theorem zcw2 (E : ze_E) (i : Int) (v : zv_V) (st : List zv_V) : (zv_i i :: v :: st).map (zv_c E) = (zv_i (zw i) :: v :: st).map (zv_c E) := by simp only [List.map_cons, zc_w]
theorem zcw3 (E : ze_E) (i : Int) (x v : zv_V) (st : List zv_V) : (x :: zv_i i :: v :: st).map (zv_c E) = (x :: zv_i (zw i) :: v :: st).map (zv_c E) := by simp only [List.map_cons, zc_w]
def zk_iaload : zCk := fun m pc a b c k => zdk (zMM m) pc .iaload 1
set_option maxHeartbeats 1000000 in
theorem zs9_iaload : zSd zo_iaload zk_iaload false := by
  intro E l S m pc a b c D len k L st n sh d u r next jump call hl hS hck hL hn hj hc h
  obtain ⟨hd, rfl⟩ := zdk_ok hck
  unfold zo_iaload at h
  split at h
  · split at h
    · rename_i N hN
      split at h
      · rename_i hq
        obtain ⟨g1, g2, g3⟩ := hn rfl _ _ _ _ _ _ _ h hL
        exact ⟨g1, g2, fun kc ks q1 q2 => ev_st (zcw2 _ _ _ _) (ev_iald hd (zaI_s hN) hq.1.1 hq.1.2 hq.2.1 hq.2.2 (g3 kc ks q1 q2))⟩
      · cases h
    · cases h
  · cases h
def zk_laload : zCk := fun m pc a b c k => zdk (zMM m) pc .laload 1
set_option maxHeartbeats 1000000 in
theorem zs9_laload : zSd zo_laload zk_laload false := by
  intro E l S m pc a b c D len k L st n sh d u r next jump call hl hS hck hL hn hj hc h
  obtain ⟨hd, rfl⟩ := zdk_ok hck
  unfold zo_laload at h
  split at h
  · split at h
    · rename_i N hN
      split at h
      · rename_i hq
        obtain ⟨g1, g2, g3⟩ := hn rfl _ _ _ _ _ _ _ h hL
        exact ⟨g1, g2, fun kc ks q1 q2 => ev_st (zcw2 _ _ _ _) (ev_lald hd (zaL_s hN) hq.1.1 hq.1.2 hq.2.1 hq.2.2 (g3 kc ks q1 q2))⟩
      · cases h
    · cases h
  · cases h
def zk_daload : zCk := fun m pc a b c k => zdk (zMM m) pc .daload 1
set_option maxHeartbeats 1000000 in
theorem zs9_daload : zSd zo_daload zk_daload false := by
  intro E l S m pc a b c D len k L st n sh d u r next jump call hl hS hck hL hn hj hc h
  obtain ⟨hd, rfl⟩ := zdk_ok hck
  unfold zo_daload at h
  split at h
  · split at h
    · rename_i N hN
      split at h
      · rename_i hq
        obtain ⟨g1, g2, g3⟩ := hn rfl _ _ _ _ _ _ _ h hL
        exact ⟨g1, g2, fun kc ks q1 q2 => ev_st (zcw2 _ _ _ _) (ev_dald hd (zaD_s hN) hq.1.1 hq.1.2 hq.2.1 hq.2.2 (g3 kc ks q1 q2))⟩
      · cases h
    · cases h
  · cases h
def zk_caload : zCk := fun m pc a b c k => zdk (zMM m) pc .caload 1
set_option maxHeartbeats 1000000 in
theorem zs9_caload : zSd zo_caload zk_caload false := by
  intro E l S m pc a b c D len k L st n sh d u r next jump call hl hS hck hL hn hj hc h
  obtain ⟨hd, rfl⟩ := zdk_ok hck
  unfold zo_caload at h
  split at h
  · split at h
    · rename_i N hN
      split at h
      · rename_i hq
        obtain ⟨g1, g2, g3⟩ := hn rfl _ _ _ _ _ _ _ h hL
        exact ⟨g1, g2, fun kc ks q1 q2 => ev_st (zcw2 _ _ _ _) (ev_cald hd (zaC_s hN) hq.1.1 hq.1.2 hq.2.1 hq.2.2 (g3 kc ks q1 q2))⟩
      · cases h
    · cases h
  · cases h
def zk_zaload : zCk := fun m pc a b c k => zdk (zMM m) pc .baload 1
set_option maxHeartbeats 1000000 in
theorem zs9_zaload : zSd zo_zaload zk_zaload false := by
  intro E l S m pc a b c D len k L st n sh d u r next jump call hl hS hck hL hn hj hc h
  obtain ⟨hd, rfl⟩ := zdk_ok hck
  unfold zo_zaload at h
  split at h
  · split at h
    · rename_i N hN
      split at h
      · rename_i hq
        obtain ⟨g1, g2, g3⟩ := hn rfl _ _ _ _ _ _ _ h hL
        exact ⟨g1, g2, fun kc ks q1 q2 => ev_st (zcw2 _ _ _ _) (ev_zald hd (zaZ_s hN) hq.1.1 hq.1.2 hq.2.1 hq.2.2 (g3 kc ks q1 q2))⟩
      · cases h
    · cases h
  · cases h
def zk_aaload : zCk := fun m pc a b c k => zdk (zMM m) pc .aaload 1
set_option maxHeartbeats 1000000 in
theorem zs9_aaload : zSd zo_aaload zk_aaload false := by
  intro E l S m pc a b c D len k L st n sh d u r next jump call hl hS hck hL hn hj hc h
  obtain ⟨hd, rfl⟩ := zdk_ok hck
  unfold zo_aaload at h
  split at h
  · split at h
    · rename_i N hN
      split at h
      · rename_i hq
        obtain ⟨t, e1, e2⟩ := zaR_s hN
        obtain ⟨g1, g2, g3⟩ := hn rfl _ _ _ _ _ _ _ h hL
        exact ⟨g1, g2, fun kc ks q1 q2 => ev_st (zcw2 _ _ _ _) (ev_aald hd e1 hq.1.1 e2 hq.1.2 hq.2.1 hq.2.2 (g3 kc ks q1 q2))⟩
      · cases h
    · cases h
  · cases h
def zk_iastore : zCk := fun m pc a b c k => zdk (zMM m) pc .iastore 1
set_option maxHeartbeats 1000000 in
theorem zs9_iastore : zSd zo_iastore zk_iastore false := by
  intro E l S m pc a b c D len k L st n sh d u r next jump call hl hS hck hL hn hj hc h
  obtain ⟨hd, rfl⟩ := zdk_ok hck
  unfold zo_iastore at h
  split at h
  · split at h
    · rename_i N hN
      split at h
      · rename_i hq
        obtain ⟨g1, g2, g3⟩ := hn rfl _ _ _ _ _ _ _ h hL
        exact ⟨g1, g2, fun kc ks q1 q2 => ev_st (zcw3 _ _ _ _ _) (ev_iast hd (zaI_s hN) hq.1.1 hq.1.2 hq.2.1 hq.2.2 (g3 kc ks q1 q2))⟩
      · cases h
    · cases h
  · cases h
def zk_lastore : zCk := fun m pc a b c k => zdk (zMM m) pc .lastore 1
set_option maxHeartbeats 1000000 in
theorem zs9_lastore : zSd zo_lastore zk_lastore false := by
  intro E l S m pc a b c D len k L st n sh d u r next jump call hl hS hck hL hn hj hc h
  obtain ⟨hd, rfl⟩ := zdk_ok hck
  unfold zo_lastore at h
  split at h
  · split at h
    · rename_i N hN
      split at h
      · rename_i hq
        obtain ⟨g1, g2, g3⟩ := hn rfl _ _ _ _ _ _ _ h hL
        exact ⟨g1, g2, fun kc ks q1 q2 => ev_st (zcw3 _ _ _ _ _) (ev_last hd (zaL_s hN) hq.1.1 hq.1.2 hq.2.1 hq.2.2 (g3 kc ks q1 q2))⟩
      · cases h
    · cases h
  · cases h
def zk_dastore : zCk := fun m pc a b c k => zdk (zMM m) pc .dastore 1
set_option maxHeartbeats 1000000 in
theorem zs9_dastore : zSd zo_dastore zk_dastore false := by
  intro E l S m pc a b c D len k L st n sh d u r next jump call hl hS hck hL hn hj hc h
  obtain ⟨hd, rfl⟩ := zdk_ok hck
  unfold zo_dastore at h
  split at h
  · split at h
    · rename_i N hN
      split at h
      · rename_i hq
        obtain ⟨g1, g2, g3⟩ := hn rfl _ _ _ _ _ _ _ h hL
        exact ⟨g1, g2, fun kc ks q1 q2 => ev_st (zcw3 _ _ _ _ _) (ev_dast hd (zaD_s hN) hq.1.1 hq.1.2 hq.2.1 hq.2.2 (g3 kc ks q1 q2))⟩
      · cases h
    · cases h
  · cases h
def zk_castore : zCk := fun m pc a b c k => zdk (zMM m) pc .castore 1
set_option maxHeartbeats 1000000 in
theorem zs9_castore : zSd zo_castore zk_castore false := by
  intro E l S m pc a b c D len k L st n sh d u r next jump call hl hS hck hL hn hj hc h
  obtain ⟨hd, rfl⟩ := zdk_ok hck
  unfold zo_castore at h
  split at h
  · split at h
    · rename_i N hN
      split at h
      · rename_i hq
        obtain ⟨g1, g2, g3⟩ := hn rfl _ _ _ _ _ _ _ h hL
        exact ⟨g1, g2, fun kc ks q1 q2 => ev_st (zcw3 _ _ _ _ _) (ev_cast hd (zaC_s hN) hq.1.1.1 hq.1.1.2 hq.1.2.1 hq.1.2.2 hq.2 (g3 kc ks q1 q2))⟩
      · cases h
    · cases h
  · cases h
def zk_zastore : zCk := fun m pc a b c k => zdk (zMM m) pc .bastore 1
set_option maxHeartbeats 1000000 in
theorem zs9_zastore : zSd zo_zastore zk_zastore false := by
  intro E l S m pc a b c D len k L st n sh d u r next jump call hl hS hck hL hn hj hc h
  obtain ⟨hd, rfl⟩ := zdk_ok hck
  unfold zo_zastore at h
  split at h
  · split at h
    · rename_i N hN
      split at h
      · rename_i hq
        obtain ⟨g1, g2, g3⟩ := hn rfl _ _ _ _ _ _ _ h hL
        exact ⟨g1, g2, fun kc ks q1 q2 => ev_st (zcw3 _ _ _ _ _) (ev_zast hd (zaZ_s hN) hq.1.1.1 hq.1.1.2 hq.1.2.1 hq.1.2.2 hq.2 (g3 kc ks q1 q2))⟩
      · cases h
    · cases h
  · cases h
def zk_aastore : zCk := fun m pc a b c k => zdk (zMM m) pc .aastore 1
set_option maxHeartbeats 1000000 in
theorem zs9_aastore : zSd zo_aastore zk_aastore false := by
  intro E l S m pc a b c D len k L st n sh d u r next jump call hl hS hck hL hn hj hc h
  obtain ⟨hd, rfl⟩ := zdk_ok hck
  unfold zo_aastore at h
  split at h
  · rename_i x i r9 st'
    split at h
    · rename_i C N hN
      split at h
      · rename_i hq
        obtain ⟨g1, g2, g3⟩ := hn rfl _ _ _ _ _ _ _ h hL
        have hk := zaO_s hN
        refine ⟨g1, g2, fun kc ks q1 q2 => ev_st (zcw3 _ _ _ _ _) ?_⟩
        have g4 := g3 kc ks q1 q2
        rcases hq.2 with rfl | ⟨h0, hoc⟩
        · exact ev_aastN hd hk hq.1.1.1 hq.1.1.2 hq.1.2.1 hq.1.2.2 g4
        · unfold zoc at hoc
          split at hoc
          · rename_i ci hci
            have hC := of_decide_eq_true hoc
            have hlt : ∃ q, zk_cl[ci]? = some q ∧ q.1 = C := by
              cases hq9 : zk_cl[ci]? with
              | some q => rw [hq9] at hC; exact ⟨q, rfl, Option.some.inj hC⟩
              | none => rw [hq9] at hC; cases hC
            obtain ⟨q, e1, rfl⟩ := hlt
            exact ev_aast hd hk hq.1.1.1 hq.1.1.2 hq.1.2.1 hq.1.2.2 hci h0 e1 g4
          · cases hoc
      · cases h
    · cases h
  · cases h
def zk_alen : zCk := fun m pc a b c k => zdk (zMM m) pc .arraylength 1
set_option maxHeartbeats 1000000 in
theorem zs9_alen : zSd zo_alen zk_alen false := by
  intro E l S m pc a b c D len k L st n sh d u r next jump call hl hS hck hL hn hj hc h
  obtain ⟨hd, rfl⟩ := zdk_ok hck
  unfold zo_alen at h
  split at h
  · split at h
    · rename_i N hN
      split at h
      · rename_i hq
        obtain ⟨t, e1⟩ := zaX_s hN
        obtain ⟨g1, g2, g3⟩ := hn rfl _ _ _ _ _ _ _ h hL
        exact ⟨g1, g2, fun kc ks q1 q2 => ev_alen hd e1 hq (g3 kc ks q1 q2)⟩
      · cases h
    · cases h
  · cases h
def zk_sald : zCk := fun m pc a b c k => zdk (zMM m) pc .iaload 1
set_option maxHeartbeats 1000000 in
theorem zs9_sald : zSd zo_sald zk_sald false := by
  intro E l S m pc a b c D len k L st n sh d u r next jump call hl hS hck hL hn hj hc h
  obtain ⟨hd, rfl⟩ := zdk_ok hck
  unfold zo_sald at h
  split at h
  · split at h
    · rename_i hq
      obtain ⟨rfl, hq1, hq2⟩ := hq
      obtain ⟨g1, g2, g3⟩ := hn rfl _ _ _ _ _ _ _ h hL
      obtain ⟨rfl, hN9⟩ := hS
      exact ⟨g1, g2, fun kc ks q1 q2 => ev_st (zcw2 _ _ _ _) (ev_sald hd hN9 hq1 hq2 (g3 kc ks q1 q2))⟩
    · cases h
  · cases h
def zk_slen : zCk := fun m pc a b c k => zdk (zMM m) pc .arraylength 1
set_option maxHeartbeats 1000000 in
theorem zs9_slen : zSd zo_slen zk_slen false := by
  intro E l S m pc a b c D len k L st n sh d u r next jump call hl hS hck hL hn hj hc h
  obtain ⟨hd, rfl⟩ := zdk_ok hck
  unfold zo_slen at h
  split at h
  · split at h
    · rename_i hq
      subst hq
      obtain ⟨g1, g2, g3⟩ := hn rfl _ _ _ _ _ _ _ h hL
      obtain ⟨rfl, -⟩ := hS
      exact ⟨g1, g2, fun kc ks q1 q2 => ev_slen hd (g3 kc ks q1 q2)⟩
    · cases h
  · cases h
theorem zclr_len : ∀ (L : zN) (a : Nat), (zclr L a).length = L.length
  | [], a => by cases a <;> rfl
  | _ :: L, 0 => rfl
  | x :: L, 1 => by simp [zclr, zclr_len L 0]
  | x :: L, n + 2 => by simp [zclr, zclr_len L (n + 1)]
theorem zclr_get : ∀ (L : zN) (a i : Nat) (w : zv_V), zget (zclr L a) i = some w → i ≠ a ∧ zget L i = some w ∧ (i + 1 = a → zv_k w = 1)
  | [], a, i, w, h => by
    rw [zget_none (by rw [zclr_len]; exact Nat.zero_le _)] at h
    cases h
  | _ :: L, 0, 0, w, h => by cases h
  | _ :: L, 0, i + 1, w, h => ⟨by omega, h, by omega⟩
  | x :: L, 1, 0, w, h => by
    obtain ⟨h1, h2⟩ := zk1_some h
    exact ⟨by omega, h1, fun _ => h2⟩
  | x :: L, 1, i + 1, w, h => by
    obtain ⟨h1, h2, h3⟩ := zclr_get L 0 i w h
    exact ⟨by omega, h2, by omega⟩
  | x :: L, n + 2, 0, w, h => ⟨by omega, h, by omega⟩
  | x :: L, n + 2, i + 1, w, h => by
    obtain ⟨h1, h2, h3⟩ := zclr_get L (n + 1) i w h
    exact ⟨by omega, h2, fun q => h3 (by omega)⟩
theorem zpop_spec : ∀ (k : Nat) (st acc As rest : List zv_V), zpop k st acc = some (As, rest) → ∃ mid : List zv_V, mid.length = k ∧ st = mid ++ rest ∧ As = mid.reverse ++ acc
  | 0, st, acc, As, rest, h => by cases h; exact ⟨[], rfl, rfl, rfl⟩
  | k + 1, [], acc, As, rest, h => by cases h
  | k + 1, v :: st, acc, As, rest, h => by
    obtain ⟨mid, h1, h2, h3⟩ := zpop_spec k st (v :: acc) As rest h
    exact ⟨v :: mid, by simp [h1], by rw [h2]; rfl, by rw [h3]; simp⟩
theorem zpop_s2 {k : Nat} {st As rest : List zv_V} (h : zpop k st [] = some (As, rest)) : st = As.reverse ++ rest ∧ As.length = k := by
  obtain ⟨mid, h1, h2, h3⟩ := zpop_spec k st [] As rest h
  rw [List.append_nil] at h3
  subst h3
  exact ⟨by rw [h2, List.reverse_reverse], by rw [List.length_reverse]; exact h1⟩
/-- handlers -/
def zrow (t : Nat × Nat × Nat × Nat) (own : String) (x : Nat) : Bool := zLT.any (fun r => decide (r.1 = t.2.2.2 ∧ r.2.1 = x ∧ own = RL))
def zas (M : zm_M) (m : Nat) (t : Nat × Nat × Nat × Nat) (b k : Nat) : Bool := decide (k < zm_n M) && (if k < 4 then decide (decode (zm_c M) t.2.2.1 = .ok (.astore_n (Fin.ofNat 4 k), 1) ∧ zbp m b = t.2.2.1 + 1) else decide (decode (zm_c M) t.2.2.1 = .ok (.astore k, 2) ∧ zbp m b = t.2.2.1 + 2))
def zhk (M : zm_M) (m pc : Nat) (pre : List Nat) : List (Nat × (Nat × Nat)) → List (Nat × Nat × Nat × Nat) → Bool
  | [], [] => true
  | (x, (b, k)) :: hs, t :: ts => (decide (t.1 ≤ pc ∧ pc < t.2.1 ∧ t.2.2.2 ≠ 0) && (zrow t (zm_o M) x && (zmem (.castable (zxn x) (zxn x)) && (pre.all (fun y => decide ((zxn x, zxn y) ∈ zk_nc)) && zas M m t b k)))) && zhk M m pc (x :: pre) hs ts
  | _, _ => false
theorem zLT_in {t : Nat × Nat × Nat × Nat} {own : String} {x : Nat} (h : zrow t own x = true) : Cond.classLink own t.2.2.2 (zxn x) ∈ lw_g := by
  unfold zrow at h
  obtain ⟨r, hr, h2⟩ := List.any_eq_true.mp h
  obtain ⟨e1, e2, e3⟩ := of_decide_eq_true h2
  have h3 := List.all_eq_true.mp zLT_ok r hr
  have h4 := zhas_in h3
  rw [e1, e2] at h4
  rw [e3]
  exact h4
theorem zhk_ok {M : zm_M} {m pc : Nat} {x b k : Nat} : ∀ {hs : List (Nat × (Nat × Nat))} {ts : List (Nat × Nat × Nat × Nat)} {pre : List Nat}, zhk M m pc pre hs ts = true → zlook hs x = some (b, k) →
    ∃ (p1 : List (Nat × Nat × Nat × Nat)) (t : Nat × Nat × Nat × Nat) (s1 : List (Nat × Nat × Nat × Nat)), ts = p1 ++ t :: s1 ∧ (∀ y ∈ p1, y.2.2.2 ≠ 0 ∧ ∃ nm : String, Cond.classLink (zm_o M) y.2.2.2 nm ∈ lw_g ∧ (zxn x, nm) ∈ zk_nc) ∧ (∀ y ∈ pre, (zxn x, zxn y) ∈ zk_nc) ∧ (t.1 ≤ pc ∧ pc < t.2.1 ∧ t.2.2.2 ≠ 0) ∧ Cond.classLink (zm_o M) t.2.2.2 (zxn x) ∈ lw_g ∧ Cond.castable (zxn x) (zxn x) ∈ lw_g ∧ zas M m t b k = true
  | [], ts, pre, h, hl => by cases hl
  | (x0, (b0, k0)) :: hs, [], pre, h, hl => by cases h
  | (x0, (b0, k0)) :: hs, t :: ts, pre, h, hl => by
    simp only [zhk, Bool.and_eq_true] at h
    obtain ⟨⟨h1, h2, h3, h4, h5⟩, h6⟩ := h
    simp only [zlook] at hl
    by_cases e : x0 = x
    · rw [if_pos e] at hl
      cases hl
      subst e
      refine ⟨[], t, ts, rfl, fun y hy => (nomatch hy), fun y hy => of_decide_eq_true (List.all_eq_true.mp h4 y hy), of_decide_eq_true h1, zLT_in h2, zmem_in h3, h5⟩
    · rw [if_neg e] at hl
      obtain ⟨p1, t1, s1, e1, e2, e3, e4, e5, e6, e7⟩ := zhk_ok h6 hl
      refine ⟨t :: p1, t1, s1, by rw [e1]; rfl, fun y hy => ?_, fun y hy => e3 y (List.mem_cons_of_mem _ hy), e4, e5, e6, e7⟩
      rcases List.mem_cons.mp hy with rfl | hy
      · exact ⟨(of_decide_eq_true h1).2.2, zxn x0, zLT_in h2, e3 x0 List.mem_cons_self⟩
      · exact e2 y hy
theorem zcov {t : Nat × Nat × Nat × Nat} {pc : Nat} (h : t.1 ≤ pc ∧ pc < t.2.1) : ∀ z : ExceptionTableEntry, tableOf [t] = [z] → covers z pc = true := by
  intro z hz
  cases hz
  simp [covers, h.1, h.2]
/-- behind a call: what a throw does -/
def zhc (m pc : Nat) : Bool := match zhl m with
  | [] => decide (zm_h (zMM m) = [])
  | h :: t => zhk (zMM m) m pc [] (h :: t) (zm_h (zMM m))
theorem zx_ok {E : ze_E} {l : Launch} {m D pc kc2 ks2 : Nat} {L : zN} {rest : List zv_V} {x : Nat} {n1 : Nat} {sh1 : zk_S} {d1 : zm_D} {u1 : Nat} {r : zRr} {next : zKk} {jump : Nat → zKk} {S : zSs} (hh : zhc m pc = true) (hL : L.length = znl m)
    (hj : ∀ b L st n sh d u r, jump b L st (n, sh, d, u) = some r → L.length = znl m → zG E l m D (zbp m b) L st n sh d u r)
    (h : zaft (zhl m) next jump L rest (some (.inr x, (n1, sh1, d1, u1))) = some r) : n1 ≤ r.2.1 ∧ u1 ≤ r.2.2.2.2 ∧ (r.2.1 ≤ n1 + kc2 → r.2.2.2.2 ≤ u1 + ks2 → ev_t E l (zMM m) D n1 sh1 d1 kc2 ks2 pc (zlp 0 L) rest (zxn x) (zQx r)) := by
  unfold zhc at hh
  cases hl : zhl m with
  | nil =>
    rw [hl] at hh h
    cases h
    refine ⟨Nat.le_refl _, Nat.le_refl _, fun _ _ => ev_out (fun z hz => ?_) ⟨⟨x, rfl, rfl⟩, rfl, rfl, rfl⟩⟩
    rw [of_decide_eq_true hh] at hz
    cases hz
  | cons h0 t0 =>
    rw [hl] at hh h
    simp only [zaft] at h
    cases hk : zlook (h0 :: t0) x with
    | none => rw [hk] at h; cases h
    | some bk =>
      obtain ⟨b, k⟩ := bk
      rw [hk] at h
      dsimp only at h
      obtain ⟨g1, g2, g3⟩ := hj _ _ _ _ _ _ _ _ h (by rw [zclr_len]; exact hL)
      refine ⟨g1, g2, fun q1 q2 => ?_⟩
      obtain ⟨p1, t, s1, e1, e2, -, e4, e5, e6, e7⟩ := zhk_ok hh hk
      have hte : ∀ l1 l2, tableOf (l1 ++ l2) = tableOf l1 ++ tableOf l2 := fun l1 l2 => by simp [tableOf]
      obtain ⟨z, hz⟩ : ∃ z, tableOf [t] = [z] := ⟨_, rfl⟩
      have hz1 : z.catchType = t.2.2.2 ∧ z.handlerPc = t.2.2.1 := by
        cases hz; exact ⟨rfl, rfl⟩
      have htab : tableOf (zm_h (zMM m)) = tableOf p1 ++ z :: tableOf s1 := by
        rw [e1, hte, show t :: s1 = [t] ++ s1 from rfl, hte, hz]; rfl
      refine ev_catch (nm := zxn x) htab (fun y hy => Or.inr ?_) (zcov ⟨e4.1, e4.2.1⟩ z hz) (by rw [hz1.1]; exact e4.2.2) (by rw [hz1.1]; exact e5) e6 (fun r9 hr9 => ?_)
      · unfold tableOf at hy
        obtain ⟨t9, ht9, rfl⟩ := List.mem_map.mp hy
        exact e2 t9 ht9
      · rw [hz1.2]
        unfold zas at e7
        rw [Bool.and_eq_true] at e7
        have hkn := of_decide_eq_true e7.1
        have e8 := e7.2
        have hinc : ∀ i w, zl_get (zlp 0 (zclr L k)) i = some w → zl_get ((k, some (zv_a r9)) :: zdr L k) i = some w := by
          intro i w hi
          rw [zlp_0] at hi
          obtain ⟨a1, a2, a3⟩ := zclr_get _ _ _ _ hi
          simp only [zl_get, zn_beq (Ne.symm a1), cond_false, zdr_get]
          by_cases e5 : i + 1 = k
          · rw [if_pos e5, a2]
            have := a3 e5
            rcases w with (w | w) | (w | (w | w)) <;> first | rfl | cases this
          · rw [if_neg e5]; exact a2
        have hdr : ∀ i w, zl_get (zdr L k) i = some w → zl_get (zlp 0 L) i = some w := by
          intro i w hi
          rw [zdr_get] at hi
          rw [zlp_0]
          split at hi
          · exact (zk1_some hi).1
          · exact hi
        refine ev_subg hdr ?_
        by_cases hk4 : k < 4
        · rw [if_pos hk4] at e8
          obtain ⟨a1, a2⟩ := of_decide_eq_true e8
          have hf := zfin hk4
          refine ev_astore_n a1 (by rw [hf]; exact hkn) (by rw [hf]; exact zdr_o L k) ?_
          rw [hf, ← a2]
          exact ev_subg hinc (g3 kc2 ks2 q1 q2)
        · rw [if_neg hk4] at e8
          obtain ⟨a1, a2⟩ := of_decide_eq_true e8
          refine ev_astore a1 hkn (zdr_o L k) ?_
          rw [← a2]
          exact ev_subg hinc (g3 kc2 ks2 q1 q2)
theorem zCT_s {i : Nat} {r : zCr} (h : zCT[i]? = some r) : zCok r = true := zCT_ok h
def zcall (m pc a b : Nat) (k : Int) (kind : Nat) (ins : Nat → Instr) : Option Nat := match zCT[k.toNat]? with
  | some r => zgd (decide (r.1 = zm_o (zMM m) ∧ r.2.2.1 = a ∧ r.2.2.2.1 % 4 = kind ∧ r.2.2.2.1 / 4 = b) && zhc m pc) (zdk (zMM m) pc (ins r.2.1) 3)
  | none => none
theorem zcall_ok {m pc a b kind len : Nat} {k : Int} {ins : Nat → Instr} (h : zcall m pc a b k kind ins = some len) : ∃ r : zCr, zCok r = true ∧ r.1 = zm_o (zMM m) ∧ r.2.2.1 = a ∧ r.2.2.2.1 % 4 = kind ∧ r.2.2.2.1 / 4 = b ∧ zhc m pc = true ∧ decode (zm_c (zMM m)) pc = .ok (ins r.2.1, 3) ∧ len = 3 := by
  unfold zcall at h
  split at h
  · rename_i r hr
    obtain ⟨hg, h2⟩ := zgd_ok h
    rw [Bool.and_eq_true] at hg
    obtain ⟨e1, e2, e3, e4⟩ := of_decide_eq_true hg.1
    obtain ⟨hd, rfl⟩ := zdk_ok h2
    exact ⟨r, zCT_s hr, e1, e2, e3, e4, hg.2, hd, rfl⟩
  · cases h
theorem zpar {r : zCr} {k : Nat} (h : (parseMethodDescriptor (zm_y (zMM r.2.2.1)).desc).map (fun d => d.parameters.length) = some (r.2.2.2.1 / 4)) (ho : zm_ok (zMM r.2.2.1) k) : k = r.2.2.2.1 / 4 := by
  have := ho.2.2.2.1
  rw [h] at this
  exact (Option.some.inj this).symm
/-- the end of each call -/
theorem zcend {E : ze_E} {l : Launch} {m D pc kc ks : Nat} {L : zN} {rest : List zv_V} {n : Nat} {u : Nat} {q r : zRr} {next : zKk} {jump : Nat → zKk} {S : zSs} (hh : zhc m pc = true) (hL : L.length = znl m)
    (hn : ∀ L st n sh d u r, next L st (n, sh, d, u) = some r → L.length = znl m → zG E l m D (pc + 3) L st n sh d u r)
    (hj : ∀ b L st n sh d u r, jump b L st (n, sh, d, u) = some r → L.length = znl m → zG E l m D (zbp m b) L st n sh d u r)
    (h : zaft (zhl m) next jump L rest (some q) = some r) (c1 : n ≤ q.2.1) (c2 : u ≤ q.2.2.2.2) : (n ≤ r.2.1 ∧ u ≤ r.2.2.2.2) ∧ (r.2.1 ≤ n + kc → r.2.2.2.2 ≤ u + ks → ∃ kc2 ks2, (q.2.1 - n) + kc2 ≤ kc ∧ (q.2.2.2.2 - u) + ks2 ≤ ks ∧
      (∀ (x : String) (n' : Nat) (sh' : zk_S) (d' : zm_D), zQx q (.inr x) n' sh' d' → ev_t E l (zMM m) D n' sh' d' kc2 ks2 pc (zlp 0 L) rest x (zQx r)) ∧
      (∀ (v : Option zv_V) (n' : Nat) (sh' : zk_S) (d' : zm_D), zQx q (.inl v) n' sh' d' → ev E l (zMM m) D n' sh' d' kc2 ks2 (pc + 3) (zlp 0 L) (v.toList ++ rest) (zQx r))) := by
  obtain ⟨v | x, n1, sh1, d1, u1⟩ := q
  · obtain ⟨g1, g2, g3⟩ := hn _ _ _ _ _ _ _ h hL
    refine ⟨⟨Nat.le_trans c1 g1, Nat.le_trans c2 g2⟩, fun q1 q2 => ⟨r.2.1 - n1, r.2.2.2.2 - u1, ?_, ?_, fun x n' sh' d' hq => ?_, fun v' n' sh' d' hq => ?_⟩⟩
    · dsimp only at c1 g1 ⊢; omega
    · dsimp only at c2 g2 ⊢; omega
    · obtain ⟨⟨y, hy, -⟩, -⟩ := hq
      cases hy
    · obtain ⟨e1, rfl, rfl, rfl⟩ := hq
      cases e1
      exact g3 _ _ (by omega) (by omega)
  · obtain ⟨g1, g2, -⟩ := zx_ok (kc2 := 0) (ks2 := 0) (S := S) hh hL hj h
    obtain ⟨-, -, g3⟩ := zx_ok (kc2 := r.2.1 - n1) (ks2 := r.2.2.2.2 - u1) (S := S) hh hL hj h
    refine ⟨⟨Nat.le_trans c1 g1, Nat.le_trans c2 g2⟩, fun q1 q2 => ⟨r.2.1 - n1, r.2.2.2.2 - u1, ?_, ?_, fun x' n' sh' d' hq => ?_, fun v' n' sh' d' hq => ?_⟩⟩
    · dsimp only at c1 g1 ⊢; omega
    · dsimp only at c2 g2 ⊢; omega
    · obtain ⟨⟨y, hy, rfl⟩, rfl, rfl, rfl⟩ := hq
      cases hy
      exact g3 (by omega) (by omega)
    · obtain ⟨e1, -⟩ := hq
      cases e1
theorem zl8 {rest : List zv_V} (h : rest.length ≤ 4) : zs_w rest ≤ 8 := by
  have := zs_w_le rest
  omega
def zk_callS : zCk := fun m pc a b c k => zcall m pc a b k 0 .invokestatic
set_option maxHeartbeats 1000000 in
theorem zs9_callS : zSd zo_callS zk_callS false := by
  intro E l S m pc a b c D len k L st n sh d u r next jump call hl hS hck hL hn hj hc h
  obtain ⟨rw9, hok, e1, e2, e3, e4, hh, hd, rfl⟩ := zcall_ok hck
  unfold zo_callS at h
  split at h
  · rename_i As rest hp
    split at h
    · rename_i hg
      obtain ⟨hst, hlen⟩ := zpop_s2 hp
      cases hcl : call a As (n, sh, d, u) with
      | none => rw [hcl] at h; cases h
      | some q =>
        rw [hcl] at h
        unfold zCok at hok
        simp only [Bool.and_eq_true, e3] at hok
        obtain ⟨h1, h2, h3, h4⟩ := hok
        have hlt : a < 382 := by rw [← e2]; exact of_decide_eq_true h1
        obtain ⟨c1, c2, c3⟩ := hc _ _ _ _ _ _ _ hcl hlt
        obtain ⟨⟨g1, g2⟩, g3⟩ := zcend (kc := r.2.1 - n) (ks := r.2.2.2.2 - u) (S := S) hh hL (fun L st n sh d u r q1 q2 => hn rfl L st n sh d u r q1 q2) hj h c1 c2
        refine ⟨g1, g2, fun kc ks q1 q2 => ?_⟩
        obtain ⟨-, g3⟩ := zcend (kc := kc) (ks := ks) (S := S) hh hL (fun L st n sh d u r q1 q2 => hn rfl L st n sh d u r q1 q2) hj h c1 c2
        obtain ⟨kc2, ks2, k1, k2, k3, k4⟩ := g3 q1 q2
        obtain ⟨kp, hzo, -⟩ := zM_ok hlt
        have hkp : kp = b := by rw [← e4]; exact zpar (r := rw9) (of_decide_eq_true h2) (by rw [e2]; exact hzo)
        subst hkp
        have hm := c3 (q.2.1 - n) (q.2.2.2.2 - u) (by omega) (by omega)
        have w1 : Cond.methodLink (zm_o (zMM m)) rw9.2.1 (zm_y (zMM a)) ∈ lw_g := by rw [← e1, ← e2]; exact zhas_in h3
        have w2 : Cond.static (zm_y (zMM a)) ∈ lw_g := by rw [← e2]; exact zhas_in h4
        cases hzh : zm_h (zMM a) with
        | nil => exact ev_callS hd hm hst hzo hzh hlen w1 w2 (by omega) (zl8 hg.1) k1 k2 k3 k4
        | cons h9 t9 => exact ev_callSX hd hm hst hzo hzh hlen w1 w2 (by omega) (zl8 hg.1) k1 k2 k3 k4
    · cases h
  · cases h
def zk_callV : zCk := fun m pc a b c k => zgd (decide ((zk_cl[c]?).map (fun q => q.1) = some (zm_o (zMM a)))) (zcall m pc a b k 1 .invokevirtual)
set_option maxHeartbeats 1000000 in
theorem zs9_callV : zSd zo_callV zk_callV false := by
  intro E l S m pc a b c D len k L st n sh d u r next jump call hl hS hck hL hn hj hc h
  obtain ⟨hci, hck⟩ := zgd_ok hck
  obtain ⟨rw9, hok, e1, e2, e3, e4, hh, hd, rfl⟩ := zcall_ok hck
  unfold zo_callV at h
  split at h
  · rename_i As r9 rest hp
    split at h
    · rename_i hg
      obtain ⟨hst, hlen⟩ := zpop_s2 hp
      cases hcl : call a (zv_a r9 :: As) (n, sh, d, u) with
      | none => rw [hcl] at h; cases h
      | some q =>
        rw [hcl] at h
        unfold zCok at hok
        simp only [Bool.and_eq_true, e3] at hok
        obtain ⟨h1, h2, h3, h4, h5, h6⟩ := hok
        have hlt : a < 382 := by rw [← e2]; exact of_decide_eq_true h1
        obtain ⟨c1, c2, c3⟩ := hc _ _ _ _ _ _ _ hcl hlt
        obtain ⟨⟨g1, g2⟩, g3⟩ := zcend (kc := r.2.1 - n) (ks := r.2.2.2.2 - u) (S := S) hh hL (fun L st n sh d u r q1 q2 => hn rfl L st n sh d u r q1 q2) hj h c1 c2
        refine ⟨g1, g2, fun kc ks q1 q2 => ?_⟩
        obtain ⟨-, g3⟩ := zcend (kc := kc) (ks := ks) (S := S) hh hL (fun L st n sh d u r q1 q2 => hn rfl L st n sh d u r q1 q2) hj h c1 c2
        obtain ⟨kc2, ks2, k1, k2, k3, k4⟩ := g3 q1 q2
        obtain ⟨kp, hzo, -⟩ := zM_ok hlt
        have hkp : kp = b := by rw [← e4]; exact zpar (r := rw9) (of_decide_eq_true h2) (by rw [e2]; exact hzo)
        subst hkp
        have hm := c3 (q.2.1 - n) (q.2.2.2.2 - u) (by omega) (by omega)
        have w1 : Cond.methodLink (zm_o (zMM m)) rw9.2.1 (zm_y (zMM a)) ∈ lw_g := by rw [← e1, ← e2]; exact zhas_in h3
        have w2 : Cond.instanceMethod (zm_y (zMM a)) ∈ lw_g := by rw [← e2]; exact zhas_in h4
        have w3 : Cond.selects (zm_o (zMM a)) (zm_y (zMM a)) (zm_y (zMM a)) ∈ lw_g := by rw [← e2]; exact zhas_in h5
        have w4 : zm_h (zMM a) = [] := by rw [← e2]; exact List.isEmpty_iff.mp h6
        have hcc := of_decide_eq_true hci
        cases hcq : zk_cl[c]? with
        | none => rw [hcq] at hcc; cases hcc
        | some q9 =>
          rw [hcq] at hcc
          have hq9 : q9.1 = zm_o (zMM a) := Option.some.inj hcc
          exact ev_callV hd hm hst (zaB_s hg.1.2) hg.1.1 hcq hzo w4 hlen w1 w2 (by rw [hq9]; exact w3) (by omega) (zl8 hg.2.1) k1 k2 k3 k4
    · cases h
  · cases h
def zk_callI : zCk := fun m pc a b c k => zcall m pc a b k 2 .invokespecial
set_option maxHeartbeats 1000000 in
theorem zs9_callI : zSd zo_callI zk_callI false := by
  intro E l S m pc a b c D len k L st n sh d u r next jump call hl hS hck hL hn hj hc h
  obtain ⟨rw9, hok, e1, e2, e3, e4, hh, hd, rfl⟩ := zcall_ok hck
  unfold zo_callI at h
  split at h
  · rename_i As r9 rest hp
    split at h
    · rename_i hg
      obtain ⟨hst, hlen⟩ := zpop_s2 hp
      cases hcl : call a (zv_a r9 :: As) (n, sh, d, u) with
      | none => rw [hcl] at h; cases h
      | some q =>
        rw [hcl] at h
        unfold zCok at hok
        simp only [Bool.and_eq_true, e3] at hok
        obtain ⟨h1, h2, h3, h4, h5, h6, h7⟩ := hok
        have hlt : a < 382 := by rw [← e2]; exact of_decide_eq_true h1
        obtain ⟨c1, c2, c3⟩ := hc _ _ _ _ _ _ _ hcl hlt
        obtain ⟨⟨g1, g2⟩, g3⟩ := zcend (kc := r.2.1 - n) (ks := r.2.2.2.2 - u) (S := S) hh hL (fun L st n sh d u r q1 q2 => hn rfl L st n sh d u r q1 q2) hj h c1 c2
        refine ⟨g1, g2, fun kc ks q1 q2 => ?_⟩
        obtain ⟨-, g3⟩ := zcend (kc := kc) (ks := ks) (S := S) hh hL (fun L st n sh d u r q1 q2 => hn rfl L st n sh d u r q1 q2) hj h c1 c2
        obtain ⟨kc2, ks2, k1, k2, k3, k4⟩ := g3 q1 q2
        obtain ⟨kp, hzo, -⟩ := zM_ok hlt
        have hkp : kp = b := by rw [← e4]; exact zpar (r := rw9) (of_decide_eq_true h2) (by rw [e2]; exact hzo)
        subst hkp
        have hm := c3 (q.2.1 - n) (q.2.2.2.2 - u) (by omega) (by omega)
        have w2 : Cond.instanceMethod (zm_y (zMM a)) ∈ lw_g := by rw [← e2]; exact zhas_in h4
        have w3 : (zm_y (zMM a)).name = "<init>" := by rw [← e2]; exact of_decide_eq_true h5
        have w4 : zm_r (zMM a) = none := by rw [← e2]; exact of_decide_eq_true h6
        have w5 : zm_h (zMM a) = [] := by rw [← e2]; exact List.isEmpty_iff.mp h7
        by_cases hho : rw9.2.2.2.2.2.2.2 = ""
        · rw [if_pos hho] at h3
          have w1 : Cond.methodLink (zm_o (zMM m)) rw9.2.1 (zm_y (zMM a)) ∈ lw_g := by rw [← e1, ← e2]; exact zhas_in h3
          exact ev_callI hd hm hst hg.1 w3 w4 hzo w5 hlen w1 w2 (by omega) (zl8 hg.2.1) k1 k2 k3 k4
        · rw [if_neg hho] at h3
          have w1 : Cond.methodLinkNest (zm_o (zMM m)) rw9.2.1 (zm_y (zMM a)) rw9.2.2.2.2.2.2.2 ∈ lw_g := by rw [← e1, ← e2]; exact zhas_in h3
          exact ev_callIN hd hm hst hg.1 w3 w4 hzo w5 hlen w1 w2 (by omega) (zl8 hg.2.1) k1 k2 k3 k4
    · cases h
  · cases h
def zk_throw : zCk := fun m pc a b c k => match zWT[b]? with
    | some r => zgd (decide (r.1 = zm_o (zMM m) ∧ r.2.2.2.2.1 = a ∧ zm_h (zMM m) = [] ∧ a ≠ 4)) (zgd (decide (decode (zm_c (zMM m)) pc = .ok (.new r.2.1, 3) ∧ decode (zm_c (zMM m)) (pc + 3) = .ok (.dup, 1) ∧ decode (zm_c (zMM m)) (pc + 4) = .ok (.ldc r.2.2.1, 2) ∧ decode (zm_c (zMM m)) (pc + 6) = .ok (.invokespecial r.2.2.2.1, 3))) (zdk (zMM m) (pc + 9) .athrow 1))
    | none => none
set_option maxHeartbeats 1000000 in
theorem zs9_throw : zSd zo_throw zk_throw true := by
  intro E l S m pc a b c D len k L st n sh d u r next jump call hl hS hck hL hn hj hc h
  unfold zo_throw at h
  split at h
  · rename_i hg
    unfold zk_throw at hck
    split at hck
    · rename_i r9 hr9
      obtain ⟨h1, hck2⟩ := zgd_ok hck
      obtain ⟨h2, hck3⟩ := zgd_ok hck2
      obtain ⟨e1, e2, e3, hn4⟩ := of_decide_eq_true h1
      obtain ⟨d0, d3, d4, d6⟩ := of_decide_eq_true h2
      obtain ⟨d9, -⟩ := zdk_ok hck3
      cases h
      refine ⟨Nat.le_succ _, Nat.le_add_right _ _, fun kc ks q1 q2 => ?_⟩
      dsimp only at q1 q2
      have hq : zQx (.inr a, (n + 1, sh, d, u + 6)) (.inr (zxn a)) (n + 1) sh d := ⟨⟨a, rfl, rfl⟩, rfl, rfl, rfl⟩
      by_cases h4 : a = 4
      · exact absurd h4 hn4
      · have hz := zWT_t (M := zMM m) (List.mem_of_getElem? hr9) e1 (by rw [e2]; exact h4)
        rw [e2] at hz
        exact ev_throwS d0 d3 d4 d6 d9 hz hl e3 (by show 2 + 6 ≤ D; omega) hg.2 (by omega) (by omega) hq
    · cases hck
  · cases h
def zk_throwW : zCk := fun m pc a b c k => match zWT[b]? with
    | some r => zgd (decide (r.1 = zm_o (zMM m) ∧ r.2.2.2.2.1 = a ∧ zm_h (zMM m) = [])) (zgd (decide (decode (zm_c (zMM m)) pc = .ok (.new r.2.1, 3) ∧ decode (zm_c (zMM m)) (pc + 3) = .ok (.dup, 1) ∧ decode (zm_c (zMM m)) (pc + 4) = .ok (.ldc_w r.2.2.1, 3) ∧ decode (zm_c (zMM m)) (pc + 7) = .ok (.invokespecial r.2.2.2.1, 3))) (zdk (zMM m) (pc + 10) .athrow 1))
    | none => none
set_option maxHeartbeats 1000000 in
theorem zs9_throwW : zSd zo_throwW zk_throwW true := by
  intro E l S m pc a b c D len k L st n sh d u r next jump call hl hS hck hL hn hj hc h
  unfold zo_throwW at h
  split at h
  · rename_i hg
    unfold zk_throwW at hck
    split at hck
    · rename_i r9 hr9
      obtain ⟨h1, hck2⟩ := zgd_ok hck
      obtain ⟨h2, hck3⟩ := zgd_ok hck2
      obtain ⟨e1, e2, e3⟩ := of_decide_eq_true h1
      obtain ⟨d0, d3, d4, d6⟩ := of_decide_eq_true h2
      obtain ⟨d9, -⟩ := zdk_ok hck3
      cases h
      refine ⟨Nat.le_succ _, Nat.le_add_right _ _, fun kc ks q1 q2 => ?_⟩
      dsimp only at q1 q2
      have hq : zQx (.inr a, (n + 1, sh, d, u + 6)) (.inr (zxn a)) (n + 1) sh d := ⟨⟨a, rfl, rfl⟩, rfl, rfl, rfl⟩
      by_cases h4 : a = 4
      · subst h4
        obtain ⟨w1, w2, w3, w4⟩ := zNS_t (M := zMM m) (List.mem_of_getElem? hr9) e1 e2
        exact ev_throwN d0 d3 d4 d6 d9 (by decide +kernel) (by decide +kernel) (by decide +kernel) (by decide +kernel) (by decide +kernel) (by decide +kernel) (by decide +kernel) w1 w2 w3 w4 hl e3 (by show 2 + 6 ≤ D; omega) hg.2 (by omega) (by omega) hq
      · have hz := zWT_t (M := zMM m) (List.mem_of_getElem? hr9) e1 (by rw [e2]; exact h4)
        rw [e2] at hz
        exact ev_throwSW d0 d3 d4 d6 d9 hz hl e3 (by show 2 + 6 ≤ D; omega) hg.2 (by omega) (by omega) hq
    · cases hck
  · cases h
theorem zNT_s {i : Nat} {r : zNr} (h : zNT[i]? = some r) : zNok r = true := List.all_eq_true.mp zNT_ok r (List.mem_of_getElem? h)
theorem zm_z0 (d : zm_D) (n : Nat) (j : Int) : zm_z d ((n : Int) + 1) ((n : Int) + 1) j = 0 := by unfold zm_z; rw [if_pos rfl]
theorem zm_z1 (d : zm_D) (n : Nat) : ∀ r : Nat, 1 ≤ r → r ≤ n → ∀ j, zm_z d ((n : Int) + 1) r j = d r j := by
  intro r h1 h2 j
  unfold zm_z
  rw [if_neg (by omega)]
def zk_new : zCk := fun m pc a b c k => match zNT[c]?, zk_cl[a]? with
    | some r, some q => zgd (decide (r.1 = 0 ∧ r.2.1 = zm_o (zMM m) ∧ r.2.2.2.1 = a ∧ q.2.2 = b)) (zdk (zMM m) pc (.new r.2.2.1) 3)
    | _, _ => none
set_option maxHeartbeats 1000000 in
theorem zs9_new : zSd zo_new zk_new false := by
  intro E l S m pc a b c D len k L st n sh d u r next jump call hl hS hck hL hn hj hc h
  unfold zk_new at hck
  split at hck
  · rename_i r9 q9 hr9 hq9
    obtain ⟨h1, hck2⟩ := zgd_ok hck
    obtain ⟨e1, e2, e3, e4⟩ := of_decide_eq_true h1
    obtain ⟨hd, rfl⟩ := zdk_ok hck2
    have hok := zNT_s hr9
    unfold zNok at hok
    simp only [e1, e3, hq9, Bool.and_eq_true] at hok
    obtain ⟨w1, w2, w3⟩ := hok
    obtain ⟨g1, g2, g3⟩ := hn rfl _ _ _ _ _ _ _ h hL
    dsimp only at g1 g2 g3
    refine ⟨by omega, by omega, fun kc ks q1 q2 => ev_dz (zm_z1 d n) ?_⟩
    have c1 := zhas_in w1
    rw [e2] at c1
    exact ev_new hd hq9 c1 (zhas_in w2) (zhas_in w3) (zm_z0 d n) (kc2 := r.2.1 - (n + 1)) (ks2 := r.2.2.2.2 - (u + b)) (by omega) (by rw [e4]; omega) (g3 _ _ (by omega) (by omega))
  · cases hck
def znAt : Nat → ArrayType
  | 0 => .int
  | 1 => .long
  | 2 => .double
  | 3 => .char
  | _ => .boolean
theorem znAt_ok : ∀ t : Nat, newarray.typeOf (znAt t) = znA9 t ∧ (znA9 t).isReference = false
  | 0 => ⟨rfl, rfl⟩
  | 1 => ⟨rfl, rfl⟩
  | 2 => ⟨rfl, rfl⟩
  | 3 => ⟨rfl, rfl⟩
  | _ + 4 => ⟨rfl, rfl⟩
def zk_newarr : zCk := fun m pc a b c k => zgd (decide (a < 5)) (zdk (zMM m) pc (.newarray (znAt a)) 2)
set_option maxHeartbeats 1000000 in
theorem zs9_newarr : zSd zo_newarr zk_newarr false := by
  intro E l S m pc a b c D len k L st n sh d u r next jump call hl hS hck hL hn hj hc h
  obtain ⟨h1, hck⟩ := zgd_ok hck
  obtain ⟨hd, rfl⟩ := zdk_ok hck
  have ha := of_decide_eq_true h1
  unfold zo_newarr at h
  split at h
  · rename_i x st'
    split at h
    · rename_i hx
      obtain ⟨g1, g2, g3⟩ := hn rfl _ _ _ _ _ _ _ h hL
      dsimp only at g1 g2 g3
      refine ⟨by omega, by omega, fun kc ks q1 q2 => ev_dz (zm_z1 d n) ?_⟩
      have ex : (x.toNat : Int) = x := by omega
      have e := ev_newa (N := x.toNat) (L := zlp 0 L) (st := st') (Q := zQx r) (E := E) (l := l) (D := D) (sh := sh) hd (znAt_ok a).1 (zAC_ok a ha).1 (zAC_ok a ha).2 (znAt_ok a).2 (zm_z0 d n) (by omega) (kc := kc) (ks := ks) (kc2 := r.2.1 - (n + 1)) (ks2 := r.2.2.2.2 - (u + x.toNat)) (by omega) (by omega) (g3 _ _ (by omega) (by omega))
      rw [ex] at e
      exact e
    · cases h
  · cases h
def zk_anew : zCk := fun m pc a b c k => match zNT[c]? with
    | some r => zgd (decide (r.1 = 1 ∧ r.2.1 = zm_o (zMM m) ∧ r.2.2.2.1 = a)) (zdk (zMM m) pc (.anewarray r.2.2.1) 3)
    | none => none
set_option maxHeartbeats 1000000 in
theorem zs9_anew : zSd zo_anew zk_anew false := by
  intro E l S m pc a b c D len k L st n sh d u r next jump call hl hS hck hL hn hj hc h
  unfold zk_anew at hck
  split at hck
  · rename_i r9 hr9
    obtain ⟨h1, hck2⟩ := zgd_ok hck
    obtain ⟨e1, e2, e3⟩ := of_decide_eq_true h1
    obtain ⟨hd, rfl⟩ := zdk_ok hck2
    have hok := zNT_s hr9
    unfold zNok at hok
    simp only [e1, e3, Bool.and_eq_true] at hok
    obtain ⟨w1, w2, w3⟩ := hok
    unfold zo_anew at h
    split at h
    · rename_i x st'
      split at h
      · rename_i hx
        obtain ⟨g1, g2, g3⟩ := hn rfl _ _ _ _ _ _ _ h hL
        dsimp only at g1 g2 g3
        refine ⟨by omega, by omega, fun kc ks q1 q2 => ev_dz (zm_z1 d n) ?_⟩
        have ex : (x.toNat : Int) = x := by omega
        have c1 := zhas_in w1
        rw [e2] at c1
        have e := ev_anew (N := x.toNat) (L := zlp 0 L) (st := st') (Q := zQx r) (E := E) (l := l) (D := D) (sh := sh) hd c1 (zhas_in w2) (of_decide_eq_true w3) (zm_z0 d n) (by omega) (kc := kc) (ks := ks) (kc2 := r.2.1 - (n + 1)) (ks2 := r.2.2.2.2 - (u + x.toNat)) (by omega) (by omega) (g3 _ _ (by omega) (by omega))
        rw [ex] at e
        exact e
      · cases h
    · cases h
  · cases hck
def zk_multi2 : zCk := fun m pc a b c k => match zNT[c]? with
    | some r => zgd (decide (r.1 = 2 ∧ r.2.1 = zm_o (zMM m))) (zdk (zMM m) pc (.multianewarray r.2.2.1 2) 4)
    | none => none
def zk_multi3 : zCk := fun m pc a b c k => match zNT[c]? with
    | some r => zgd (decide (r.1 = 3 ∧ r.2.1 = zm_o (zMM m))) (zdk (zMM m) pc (.multianewarray r.2.2.1 3) 4)
    | none => none
set_option maxHeartbeats 1000000 in
theorem zs9_multi2 : zSd zo_multi2 zk_multi2 false := by
  intro E l S m pc a b c D len k L st n sh d u r next jump call hl hS hck hL hn hj hc h
  unfold zk_multi2 at hck
  split at hck
  · rename_i r9 hr9
    obtain ⟨h1, hck2⟩ := zgd_ok hck
    obtain ⟨e1, e2⟩ := of_decide_eq_true h1
    obtain ⟨hd, rfl⟩ := zdk_ok hck2
    have hok := zNT_s hr9
    unfold zNok at hok
    simp only [e1, Bool.and_eq_true] at hok
    obtain ⟨w1, w2, w3⟩ := hok
    have c1 := zhas_in w1
    rw [e2] at c1
    unfold zo_multi2 at h
    split at h
    · rename_i y x st'
      split at h
      · rename_i hx
        obtain ⟨g1, g2, g3⟩ := hn rfl _ _ _ _ _ _ _ h hL
        have p1 : (zmul2 (n, sh, d, u) x.toNat y.toNat).1 = n + 1 + x.toNat := rfl
        have p2 : (zmul2 (n, sh, d, u) x.toNat y.toNat).2.2.2 = u + x.toNat + x.toNat * y.toNat := rfl
        change n + 1 + x.toNat ≤ r.2.1 at g1
        change u + x.toNat + x.toNat * y.toNat ≤ r.2.2.2.2 at g2
        refine ⟨by omega, by omega, fun kc ks q1 q2 => ?_⟩
        exact ev_multi2 (u0 := u) hd c1 (zhas_in w2) (zhas_in w3) hx.1 hx.2 (kc2 := r.2.1 - (n + 1 + x.toNat)) (ks2 := r.2.2.2.2 - (u + x.toNat + x.toNat * y.toNat)) (by omega) (by omega) (g3 _ _ (by show r.2.1 ≤ n + 1 + x.toNat + _; omega) (by show r.2.2.2.2 ≤ u + x.toNat + x.toNat * y.toNat + _; omega))
      · cases h
    · cases h
  · cases hck
set_option maxHeartbeats 1000000 in
theorem zs9_multi3 : zSd zo_multi3 zk_multi3 false := by
  intro E l S m pc a b c D len k L st n sh d u r next jump call hl hS hck hL hn hj hc h
  unfold zk_multi3 at hck
  split at hck
  · rename_i r9 hr9
    obtain ⟨h1, hck2⟩ := zgd_ok hck
    obtain ⟨e1, e2⟩ := of_decide_eq_true h1
    obtain ⟨hd, rfl⟩ := zdk_ok hck2
    have hok := zNT_s hr9
    unfold zNok at hok
    simp only [e1, Bool.and_eq_true] at hok
    obtain ⟨w1, w2, w3⟩ := hok
    have c1 := zhas_in w1
    rw [e2] at c1
    unfold zo_multi3 at h
    split at h
    · rename_i z y x st'
      split at h
      · rename_i hx
        obtain ⟨g1, g2, g3⟩ := hn rfl _ _ _ _ _ _ _ h hL
        have p1 : (zmul3 (n, sh, d, u) x.toNat y.toNat z.toNat).1 = n + 1 + x.toNat * (y.toNat + 1) := rfl
        have p2 : (zmul3 (n, sh, d, u) x.toNat y.toNat z.toNat).2.2.2 = u + x.toNat + x.toNat * y.toNat + x.toNat * y.toNat * z.toNat := rfl
        change n + 1 + x.toNat * (y.toNat + 1) ≤ r.2.1 at g1
        change u + x.toNat + x.toNat * y.toNat + x.toNat * y.toNat * z.toNat ≤ r.2.2.2.2 at g2
        refine ⟨by omega, by omega, fun kc ks q1 q2 => ?_⟩
        exact ev_multi3 (u0 := u) hd c1 (zhas_in w2) (zhas_in w3) (zAC_ok 0 (by omega)).1 hx.1 hx.2.1 hx.2.2 (kc2 := r.2.1 - (n + 1 + x.toNat * (y.toNat + 1))) (ks2 := r.2.2.2.2 - (u + x.toNat + x.toNat * y.toNat + x.toNat * y.toNat * z.toNat)) (by omega) (by omega) (g3 _ _ (by show r.2.1 ≤ n + 1 + x.toNat * (y.toNat + 1) + _; omega) (by show r.2.2.2.2 ≤ u + x.toNat + x.toNat * y.toNat + x.toNat * y.toNat * z.toNat + _; omega))
      · cases h
    · cases h
  · cases hck
def zk_tsw : zCk := fun m pc a b c k => zgd (decide ((zsw m).length = b)) (zdk (zMM m) pc (.tableswitch ((zbp m a : Int) - (pc : Int)) 0 ((b : Int) - 1) ((zsw m).map (fun t => (zbp m t : Int) - (pc : Int))).toArray) k.toNat)
set_option maxHeartbeats 1000000 in
theorem zs9_tsw : zSd zo_tsw zk_tsw true := by
  intro E l S m pc a b c D len k L st n sh d u r next jump call hl hS hck hL hn hj hc h
  obtain ⟨hb, hck⟩ := zgd_ok hck
  have hb := of_decide_eq_true hb
  obtain ⟨hd, rfl⟩ := zdk_ok hck
  unfold zo_tsw at h
  split at h
  · rename_i x st'
    have hst : ∀ y : List zv_V, (zv_i x :: y).map (zv_c E) = (zv_i (zw x) :: y).map (zv_c E) := fun y => by simp only [List.map_cons, zc_w]
    split at h
    · rename_i t ht
      obtain ⟨g1, g2, g3⟩ := hj _ _ _ _ _ _ _ _ h hL
      refine ⟨g1, g2, fun kc ks q1 q2 => ev_st (hst _) ?_⟩
      split at ht
      · rename_i h0
        have hlt : (zw x).toNat < (zsw m).length := (List.getElem?_eq_some_iff.mp ht).1
        refine ev_tableIn hd (zw_i x) (off := (zbp m t : Int) - (pc : Int)) (by omega) (by omega) ?_ (tgt := zbp m t) (by omega) (g3 kc ks q1 q2)
        simp [ht]
      · cases ht
    · rename_i ht
      obtain ⟨g1, g2, g3⟩ := hj _ _ _ _ _ _ _ _ h hL
      refine ⟨g1, g2, fun kc ks q1 q2 => ev_st (hst _) (ev_tableOut hd (zw_i x) ?_ (tgt := zbp m a) (by omega) (g3 kc ks q1 q2))⟩
      split at ht
      · rename_i h0
        have hle : (zsw m).length ≤ (zw x).toNat := List.getElem?_eq_none_iff.mp ht
        omega
      · omega
  · cases h
def znk (m pc which : Nat) (k : Int) (ins : Nat → Instr) : Option Nat := zgd (zNL.any (fun r => decide (r.1 = zm_o (zMM m) ∧ r.2.1 = k.toNat ∧ r.2.2.1 = which))) (zdk (zMM m) pc (ins k.toNat) 3)
theorem znk_ok {m pc which len : Nat} {k : Int} {ins : Nat → Instr} (h : znk m pc which k ins = some len) : decode (zm_c (zMM m)) pc = .ok (ins k.toNat, 3) ∧ len = 3 ∧ Cond.methodLink (zm_o (zMM m)) k.toNat (zNLn which) ∈ lw_g := by
  unfold znk at h
  obtain ⟨hg, h2⟩ := zgd_ok h
  obtain ⟨hd, rfl⟩ := zdk_ok h2
  obtain ⟨r, hr, h3⟩ := List.any_eq_true.mp hg
  obtain ⟨e1, e2, e3⟩ := of_decide_eq_true h3
  have h4 := zhas_in (List.all_eq_true.mp zNL_ok r hr)
  rw [e1, e2, e3] at h4
  exact ⟨hd, rfl, h4⟩
def zk_acopy : zCk := fun m pc a b c k => znk m pc 0 k .invokestatic
set_option maxHeartbeats 1000000 in
theorem zs9_acopy : zSd zo_acopy zk_acopy false := by
  intro E l S m pc a b c D len k L st n sh d u r next jump call hl hS hck hL hn hj hc h
  obtain ⟨hd, rfl, w1⟩ := znk_ok hck
  unfold zo_acopy at h
  split at h
  · rename_i x q9 r2 p9 r1 st'
    split at h
    · rename_i N1 N2 h1 h2
      split at h
      · rename_i hg
        obtain ⟨⟨⟨⟨a1, a2⟩, a3, a4⟩, a5, a6⟩, ⟨a7, a8⟩, a9, a10, a11⟩ := hg
        obtain ⟨g1, g2, g3⟩ := hn rfl _ _ _ _ _ _ _ h hL
        refine ⟨g1, g2, fun kc ks q1 q2 => ev_st (st' := zv_i (zw x) :: zv_i (zw q9) :: zv_a r2 :: zv_i (zw p9) :: zv_a r1 :: st') (by simp only [List.map_cons, zc_w]) ?_⟩
        exact ev_acopy hd w1 zAY.1 zAY.2.1 zAY.2.2 (zaI_s h1) (zaI_s h2) a1 a2 a3 a4 a5 a6 a7 a8 a9 a10 a11 (g3 kc ks q1 q2)
      · cases h
    · cases h
  · cases h
def zk_f2bits : zCk := fun m pc a b c k => znk m pc 1 k .invokestatic
set_option maxHeartbeats 1000000 in
theorem zs9_f2bits : zSd zo_f2bits zk_f2bits false := by
  intro E l S m pc a b c D len k L st n sh d u r next jump call hl hS hck hL hn hj hc h
  obtain ⟨hd, rfl, w1⟩ := znk_ok hck
  unfold zo_f2bits at h
  split at h
  · split at h
    · rename_i hg
      obtain ⟨g1, g2, g3⟩ := hn rfl _ _ _ _ _ _ _ h hL
      exact ⟨g1, g2, fun kc ks q1 q2 => ev_f2bits hd w1 zFB.1 zFB.2.1 zFB.2.2 hg.1 hg.2 (g3 kc ks q1 q2)⟩
    · cases h
  · cases h
def zk_objinit : zCk := fun m pc a b c k => znk m pc 2 k .invokespecial
set_option maxHeartbeats 1000000 in
theorem zs9_objinit : zSd zo_objinit zk_objinit false := by
  intro E l S m pc a b c D len k L st n sh d u r next jump call hl hS hck hL hn hj hc h
  obtain ⟨hd, rfl, w1⟩ := znk_ok hck
  unfold zo_objinit at h
  split at h
  · split at h
    · rename_i hg
      obtain ⟨g1, g2, g3⟩ := hn rfl _ _ _ _ _ _ _ h hL
      exact ⟨g1, g2, fun kc ks q1 q2 => ev_objinit hd w1 zOI.1 zOI.2 hg.1 hg.2.1 hg.2.2 (g3 kc ks q1 q2)⟩
    · cases h
  · cases h
def zckF : Nat → zCk
  | 0 => zk_aload
  | 1 => zk_getI
  | 2 => zk_getA
  | 3 => zk_iconst
  | 4 => zk_iload
  | 5 => zk_callS
  | 6 => zk_callV
  | 7 => zk_callI
  | 8 => zk_iret
  | 9 => zk_zret
  | 10 => zk_goto
  | 11 => zk_putI
  | 12 => zk_putZ
  | 13 => zk_putA
  | 14 => zk_if14
  | 15 => zk_if15
  | 16 => zk_if16
  | 17 => zk_if17
  | 18 => zk_if18
  | 19 => zk_if19
  | 20 => zk_ic20
  | 21 => zk_ic21
  | 22 => zk_ic22
  | 23 => zk_ic23
  | 24 => zk_ic24
  | 25 => zk_ic25
  | 26 => zk_in26
  | 27 => zk_in27
  | 28 => zk_ia28
  | 29 => zk_ia29
  | 30 => zk_istore
  | 31 => zk_astore
  | 32 => zk_iinc
  | 33 => zk_iaload
  | 34 => zk_aaload
  | 35 => zk_iastore
  | 36 => zk_alen
  | 37 => zk_iadd
  | 38 => zk_isub
  | 39 => zk_imul
  | 40 => zk_idiv
  | 41 => zk_irem
  | 42 => zk_iand
  | 43 => zk_ior
  | 44 => zk_ishl
  | 45 => zk_iushr
  | 46 => zk_ixor
  | 47 => zk_dup
  | 48 => zk_dup2
  | 49 => zk_pop
  | 50 => zk_vret
  | 51 => zk_aret
  | 52 => zk_lret
  | 53 => zk_dret
  | 54 => zk_fret
  | 55 => zk_throw
  | 56 => zk_throwW
  | 57 => zk_new
  | 58 => zk_newarr
  | 59 => zk_anew
  | 60 => zk_multi2
  | 61 => zk_multi3
  | 62 => zk_aastore
  | 63 => zk_pop2
  | 64 => zk_lconst
  | 65 => zk_i2l
  | 66 => zk_l2i
  | 67 => zk_ladd
  | 68 => zk_lsub
  | 69 => zk_lmul
  | 70 => zk_ldiv
  | 71 => zk_lrem
  | 72 => zk_lcmp
  | 73 => zk_lload
  | 74 => zk_lstore
  | 75 => zk_laload
  | 76 => zk_lastore
  | 77 => zk_dconst
  | 78 => zk_dload
  | 79 => zk_dstore
  | 80 => zk_daload
  | 81 => zk_dastore
  | 82 => zk_dadd
  | 83 => zk_dmul
  | 84 => zk_ddiv
  | 85 => zk_dcmp
  | 86 => zk_i2d
  | 87 => zk_fconst
  | 88 => zk_fload
  | 89 => zk_fstore
  | 90 => zk_fdiv
  | 91 => zk_fmul
  | 92 => zk_fsub
  | 93 => zk_fneg
  | 94 => zk_fcmp
  | 95 => zk_i2f
  | 96 => zk_f2i
  | 97 => zk_f2d
  | 98 => zk_fldc
  | 99 => zk_caload
  | 100 => zk_castore
  | 101 => zk_zaload
  | 102 => zk_zastore
  | 103 => zk_i2c
  | 104 => zk_tsw
  | 105 => zk_null
  | 106 => zk_acopy
  | 107 => zk_f2bits
  | 108 => zk_objinit
  | 109 => zk_dldc
  | 111 => zk_fall
  | 112 => zk_sald
  | 113 => zk_slen
  | _ => fun _ _ _ _ _ _ => none
def ztm (o : Nat) : Bool := [8, 9, 10, 50, 51, 52, 53, 54, 55, 56, 104, 111].contains o
theorem zSd_no : zSd (fun _ _ _ _ _ _ _ _ _ _ _ _ _ _ => none) (fun _ _ _ _ _ _ => none) false := by
  intro E l S m pc a b c D len k L st n sh d u r next jump call hl hS hck
  cases hck
theorem zSd_of {f : zOo} {ck : zCk} (h : zSd f ck true) : zSd f ck false := by
  intro E l S m pc a b c D len k L st n sh d u r next jump call hl hS hck hL hn hj hc hh
  exact h E l S m pc a b c D len k L st n sh d u r next jump call hl hS hck hL (fun q => (by cases q)) hj hc hh
theorem zSd_all (o : Nat) : zSd (zstep o) (zckF o) (ztm o) := by
  by_cases ho : o < 114
  · have key : ∀ o : Nat, o < 114 → zSd (zstep o) (zckF o) (ztm o)
      | 0, _ => zs9_aload
      | 1, _ => zs9_getI
      | 2, _ => zs9_getA
      | 3, _ => zs9_iconst
      | 4, _ => zs9_iload
      | 5, _ => zs9_callS
      | 6, _ => zs9_callV
      | 7, _ => zs9_callI
      | 8, _ => zs9_iret
      | 9, _ => zs9_zret
      | 10, _ => zs9_goto
      | 11, _ => zs9_putI
      | 12, _ => zs9_putZ
      | 13, _ => zs9_putA
      | 14, _ => zs9_if14
      | 15, _ => zs9_if15
      | 16, _ => zs9_if16
      | 17, _ => zs9_if17
      | 18, _ => zs9_if18
      | 19, _ => zs9_if19
      | 20, _ => zs9_ic20
      | 21, _ => zs9_ic21
      | 22, _ => zs9_ic22
      | 23, _ => zs9_ic23
      | 24, _ => zs9_ic24
      | 25, _ => zs9_ic25
      | 26, _ => zs9_in26
      | 27, _ => zs9_in27
      | 28, _ => zs9_ia28
      | 29, _ => zs9_ia29
      | 30, _ => zs9_istore
      | 31, _ => zs9_astore
      | 32, _ => zs9_iinc
      | 33, _ => zs9_iaload
      | 34, _ => zs9_aaload
      | 35, _ => zs9_iastore
      | 36, _ => zs9_alen
      | 37, _ => zs9_iadd
      | 38, _ => zs9_isub
      | 39, _ => zs9_imul
      | 40, _ => zs9_idiv
      | 41, _ => zs9_irem
      | 42, _ => zs9_iand
      | 43, _ => zs9_ior
      | 44, _ => zs9_ishl
      | 45, _ => zs9_iushr
      | 46, _ => zs9_ixor
      | 47, _ => zs9_dup
      | 48, _ => zs9_dup2
      | 49, _ => zs9_pop
      | 50, _ => zs9_vret
      | 51, _ => zs9_aret
      | 52, _ => zs9_lret
      | 53, _ => zs9_dret
      | 54, _ => zs9_fret
      | 55, _ => zs9_throw
      | 56, _ => zs9_throwW
      | 57, _ => zs9_new
      | 58, _ => zs9_newarr
      | 59, _ => zs9_anew
      | 60, _ => zs9_multi2
      | 61, _ => zs9_multi3
      | 62, _ => zs9_aastore
      | 63, _ => zs9_pop2
      | 64, _ => zs9_lconst
      | 65, _ => zs9_i2l
      | 66, _ => zs9_l2i
      | 67, _ => zs9_ladd
      | 68, _ => zs9_lsub
      | 69, _ => zs9_lmul
      | 70, _ => zs9_ldiv
      | 71, _ => zs9_lrem
      | 72, _ => zs9_lcmp
      | 73, _ => zs9_lload
      | 74, _ => zs9_lstore
      | 75, _ => zs9_laload
      | 76, _ => zs9_lastore
      | 77, _ => zs9_dconst
      | 78, _ => zs9_dload
      | 79, _ => zs9_dstore
      | 80, _ => zs9_daload
      | 81, _ => zs9_dastore
      | 82, _ => zs9_dadd
      | 83, _ => zs9_dmul
      | 84, _ => zs9_ddiv
      | 85, _ => zs9_dcmp
      | 86, _ => zs9_i2d
      | 87, _ => zs9_fconst
      | 88, _ => zs9_fload
      | 89, _ => zs9_fstore
      | 90, _ => zs9_fdiv
      | 91, _ => zs9_fmul
      | 92, _ => zs9_fsub
      | 93, _ => zs9_fneg
      | 94, _ => zs9_fcmp
      | 95, _ => zs9_i2f
      | 96, _ => zs9_f2i
      | 97, _ => zs9_f2d
      | 98, _ => zs9_fldc
      | 99, _ => zs9_caload
      | 100, _ => zs9_castore
      | 101, _ => zs9_zaload
      | 102, _ => zs9_zastore
      | 103, _ => zs9_i2c
      | 104, _ => zs9_tsw
      | 105, _ => zs9_null
      | 106, _ => zs9_acopy
      | 107, _ => zs9_f2bits
      | 108, _ => zs9_objinit
      | 109, _ => zs9_dldc
      | 110, _ => zSd_no
      | 111, _ => zs9_fall
      | 112, _ => zs9_sald
      | 113, _ => zs9_slen
      | n + 114, h => by omega
    exact key o ho
  · intro E l S m pc a b c D len k L st n sh d u r next jump call hl hS hck
    exfalso
    have : zckF o m pc a b c k = none := by
      unfold zckF
      split <;> first | omega | rfl
    rw [this] at hck
    cases hck
/-- a block, from pc on -/
def zckB (m : Nat) : Nat → List zI → Bool
  | _, [] => false
  | pc, (o, a, b, c, k) :: is => match zckF o m pc a b c k with
    | some len => if ztm o = true then is.isEmpty else zckB m (pc + len) is
    | none => false
def zckBs (m : Nat) : List Nat → List (List zI) → Bool
  | [], [] => true
  | p :: ps, b :: bs => zckB m p b && zckBs m ps bs
  | _, _ => false
def zckM (m : Nat) : Bool := zckBs m (zBPl.getD m []) (zCD.getD m []) && decide (zbp m 0 = 0)
theorem zckBs_ok {m : Nat} : ∀ {ps : List Nat} {bs : List (List zI)}, zckBs m ps bs = true → ∀ b, bs.getD b [] ≠ [] → zckB m (ps.getD b 0) (bs.getD b []) = true
  | [], [], _, b, hb => by simp at hb
  | [], _ :: _, h, b, hb => by cases h
  | _ :: _, [], h, b, hb => by cases h
  | p :: ps, x :: bs, h, 0, hb => by
    simp only [zckBs, Bool.and_eq_true] at h
    exact h.1
  | p :: ps, x :: bs, h, b + 1, hb => by
    simp only [zckBs, Bool.and_eq_true] at h
    simpa using zckBs_ok h.2 b (by simpa using hb)
theorem zckM_ok {m b : Nat} (h : zckM m = true) (hb : zcd m b ≠ []) : zckB m (zbp m b) (zcd m b) = true := by
  unfold zckM at h
  rw [Bool.and_eq_true] at h
  exact zckBs_ok h.1 b hb
theorem zarg_len : ∀ (n : Nat) (vs : List zv_V), (zarg n vs).length = n
  | 0, _ => by unfold zarg; rfl
  | n + 1, [] => by simp [zarg, zarg_len n []]
  | n + 1, .inl x :: vs => by simp [zarg, zarg_len n vs]
  | n + 1, .inr (.inr (.inr x)) :: vs => by simp [zarg, zarg_len n vs]
  | 1, .inr (.inl x) :: vs => by simp [zarg]
  | 1, .inr (.inr (.inl x)) :: vs => by simp [zarg]
  | n + 2, .inr (.inl x) :: vs => by simp [zarg, zarg_len n vs]
  | n + 2, .inr (.inr (.inl x)) :: vs => by simp [zarg, zarg_len n vs]
theorem zarg_get : ∀ (n : Nat) (vs : List zv_V) (i j : Nat) (w : zv_V), zget (zarg n vs) j = some w → zl_get (zl_args i vs) (i + j) = some w
  | 0, vs, i, j, w, h => by unfold zarg at h; cases j <;> cases h
  | n + 1, [], i, 0, w, h => by simp [zarg, zget] at h
  | n + 1, [], i, j + 1, w, h => by
    simp only [zarg, zget] at h
    have := zarg_get n [] (i + 1) j w h
    simp [zl_args, zl_get] at this
  | n + 1, .inl x :: vs, i, 0, w, h => by simp [zarg, zget] at h; simp [zl_args, zl_get, h]
  | n + 1, .inl x :: vs, i, j + 1, w, h => by
    simp only [zarg, zget] at h
    have hb : Nat.beq i (i + (j + 1)) = false := zn_beq (by omega)
    simp only [zl_args, zl_get, hb, cond_false, zv_k, if_neg (show ¬ (1 : Nat) = 2 by omega)]
    rw [show i + (j + 1) = (i + 1) + j by omega]
    exact zarg_get n vs (i + 1) j w h
  | n + 1, .inr (.inr (.inr x)) :: vs, i, 0, w, h => by simp [zarg, zget] at h; simp [zl_args, zl_get, h]
  | n + 1, .inr (.inr (.inr x)) :: vs, i, j + 1, w, h => by
    simp only [zarg, zget] at h
    have hb : Nat.beq i (i + (j + 1)) = false := zn_beq (by omega)
    simp only [zl_args, zl_get, hb, cond_false, zv_k, if_neg (show ¬ (1 : Nat) = 2 by omega)]
    rw [show i + (j + 1) = (i + 1) + j by omega]
    exact zarg_get n vs (i + 1) j w h
  | 1, .inr (.inl x) :: vs, i, j, w, h => by cases j <;> simp [zarg, zget] at h
  | 1, .inr (.inr (.inl x)) :: vs, i, j, w, h => by cases j <;> simp [zarg, zget] at h
  | n + 2, .inr (.inl x) :: vs, i, 0, w, h => by simp [zarg, zget] at h; simp [zl_args, zl_get, h]
  | n + 2, .inr (.inl x) :: vs, i, 1, w, h => by simp [zarg, zget] at h
  | n + 2, .inr (.inl x) :: vs, i, j + 2, w, h => by
    simp only [zarg, zget] at h
    have hb : Nat.beq i (i + (j + 2)) = false := zn_beq (by omega)
    simp only [zl_args, zl_get, hb, cond_false, zv_k, if_true]
    rw [show i + (j + 2) = (i + 2) + j by omega]
    exact zarg_get n vs (i + 2) j w h
  | n + 2, .inr (.inr (.inl x)) :: vs, i, 0, w, h => by simp [zarg, zget] at h; simp [zl_args, zl_get, h]
  | n + 2, .inr (.inr (.inl x)) :: vs, i, 1, w, h => by simp [zarg, zget] at h
  | n + 2, .inr (.inr (.inl x)) :: vs, i, j + 2, w, h => by
    simp only [zarg, zget] at h
    have hb : Nat.beq i (i + (j + 2)) = false := zn_beq (by omega)
    simp only [zl_args, zl_get, hb, cond_false, zv_k, if_true]
    rw [show i + (j + 2) = (i + 2) + j by omega]
    exact zarg_get n vs (i + 2) j w h
theorem zsound {E : ze_E} {l : Launch} {S : zSs} (hl : l.stackTraces = false) (hS : S = zsE E ∧ ze_L E ≤ 1000000) (hM : ∀ m, m < 383 → zckM m = true) : ∀ (N D m pc : Nat) (is : List zI) (L : zN) (st : List zv_V) (n : Nat) (sh : zk_S) (d : zm_D) (u : Nat) (r : zRr),
    zrun S N D m is L st (n, sh, d, u) = some r → m < 383 → zckB m pc is = true → L.length = znl m → zG E l m D pc L st n sh d u r
  | 0, _, _, _, _, _, _, _, _, _, _, _, h, _, _, _ => by cases h
  | N + 1, D, m, pc, [], _, _, _, _, _, _, _, h, _, _, _ => by cases h
  | N + 1, D, m, pc, (o, a, b, c, k) :: is, L, st, n, sh, d, u, r, h, hm, hb, hL => by
    simp only [zckB] at hb
    cases hk : zckF o m pc a b c k with
    | none => rw [hk] at hb; cases hb
    | some len =>
      rw [hk] at hb
      dsimp only at hb
      refine zSd_all o E l S m pc a b c D len k L st n sh d u r _ _ _ hl hS hk hL (fun ht => ?_) (fun b' => ?_) (fun m' As => ?_) h
      · intro L' st' n' sh' d' u' r' h' hL'
        rw [if_neg (by rw [ht]; decide)] at hb
        exact zsound hl hS hM N D m (pc + len) is L' st' n' sh' d' u' r' h' hm hb hL'
      · intro L' st' n' sh' d' u' r' h' hL'
        have hne : zcd m b' ≠ [] := by
          intro e
          rw [e] at h'
          cases N <;> cases h'
        exact zsound hl hS hM N D m (zbp m b') (zcd m b') L' st' n' sh' d' u' r' h' hm (zckM_ok (hM m hm) hne) hL'
      · intro n' sh' d' u' r' h' hm'
        by_cases hw : zs_w As ≤ znl m'
        · rw [if_pos hw] at h'
          have hne : zcd m' 0 ≠ [] := by
            intro e
            rw [e] at h'
            cases N <;> cases h'
          have hck := zckM_ok (b := 0) (hM m' (by omega)) hne
          obtain ⟨g1, g2, g3⟩ := zsound hl hS hM N (D - 1) m' (zbp m' 0) (zcd m' 0) (zarg (znl m') As) [] n' sh' d' u' r' h' (by omega) hck (zarg_len _ _)
          have h0 : zbp m' 0 = 0 := by
            have := hM m' (by omega)
            unfold zckM at this
            rw [Bool.and_eq_true] at this
            exact of_decide_eq_true this.2
          rw [h0] at g3
          refine ⟨g1, g2, fun kc ks q1 q2 => ?_⟩
          have g4 := ev_subg (L := zl_args 0 As) (fun i w hi => by
            rw [zlp_0] at hi
            have := zarg_get (znl m') As 0 i w hi
            rwa [Nat.zero_add] at this) (g3 kc ks q1 q2)
          obtain ⟨kp, hzo, hp1, hp2⟩ := zM_ok hm'
          cases hzh : zm_h (zMM m') with
          | nil => exact mt_of (hp1 hzh) hzh hw g4
          | cons h9 t9 => exact mt_ofH (hp2 (by rw [hzh]; exact List.cons_ne_nil _ _)) hzh hw g4
        · rw [if_neg hw] at h'
          cases h'
