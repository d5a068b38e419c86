/-! ===== RUN: an interpreter over the pure memory. zI: an operation and its four numbers; zN: the locals; zMm: number of cells, shapes, memory, slots made ===== -/
abbrev zI : Type := Nat × (Nat × (Nat × (Nat × Int)))
abbrev zN : Type := List (Option zv_V)
abbrev zRr : Type := ((Option zv_V) ⊕ Nat) × zMm
abbrev zKk : Type := zN → List zv_V → zMm → Option zRr
abbrev zSs : Type := Nat × (Nat → Int)
def zw (x : Int) : Int := (x + 2147483648) % 4294967296 - 2147483648
def zwl (x : Int) : Int := (x + 9223372036854775808) % 18446744073709551616 - 9223372036854775808
def zlc (x y : Int) : Int := if zwl x < zwl y then -1 else if zwl x = zwl y then 0 else 1
def zn64 (x : UInt64) : Bool := decide (x &&& 0x7fffffffffffffff ≤ 0x7ff0000000000000)
def zn32 (x : UInt32) : Bool := decide (x &&& 0x7fffffff ≤ 0x7f800000)
def zget : zN → Nat → Option zv_V
  | [], _ => none
  | v :: _, 0 => v
  | _ :: L, i + 1 => zget L i
def zk1 : Option zv_V → Option zv_V
  | some (.inl x) => some (.inl x)
  | some (.inr (.inr (.inr x))) => some (.inr (.inr (.inr x)))
  | _ => none
def zst1 : zN → Nat → zv_V → zN
  | [], _, _ => []
  | _ :: L, 0, v => some v :: L
  | x :: L, 1, v => zk1 x :: zst1 L 0 v
  | x :: L, n + 2, v => x :: zst1 L (n + 1) v
def zst2 : zN → Nat → zv_V → zN
  | [], _, _ => []
  | [_], 0, _ => [none]
  | _ :: _ :: L, 0, v => some v :: none :: L
  | x :: L, 1, v => zk1 x :: zst2 L 0 v
  | x :: L, n + 2, v => x :: zst2 L (n + 1) v
def zclr : zN → Nat → zN
  | [], _ => []
  | _ :: L, 0 => none :: L
  | x :: L, 1 => zk1 x :: zclr L 0
  | x :: L, n + 2 => x :: zclr L (n + 1)
def zpop : Nat → List zv_V → List zv_V → Option (List zv_V × List zv_V)
  | 0, st, acc => some (acc, st)
  | k + 1, v :: st, acc => zpop k st (v :: acc)
  | _ + 1, [], _ => none
def zlook : List (Nat × (Nat × Nat)) → Nat → Option (Nat × Nat)
  | [], _ => none
  | (x, b) :: r, y => if x = y then some b else zlook r y
def zaft (hl : List (Nat × (Nat × Nat))) (next : zKk) (jump : Nat → zKk) (L : zN) (rest : List zv_V) : Option zRr → Option zRr
  | none => none
  | some (.inl v, M) => next L (v.toList ++ rest) M
  | some (.inr x, M) => match hl with
    | [] => some (.inr x, M)
    | h :: t => match zlook (h :: t) x with
      | some (b, k) => jump b (zclr L k) [] M
      | none => none
def zaI : zk_K → Option Nat
  | some (.inr (.int, N)) => some N
  | _ => none
def zaL : zk_K → Option Nat
  | some (.inr (.long, N)) => some N
  | _ => none
def zaD : zk_K → Option Nat
  | some (.inr (.double, N)) => some N
  | _ => none
def zaC : zk_K → Option Nat
  | some (.inr (.char, N)) => some N
  | _ => none
def zaZ : zk_K → Option Nat
  | some (.inr (.boolean, N)) => some N
  | _ => none
def zaR : zk_K → Option Nat
  | some (.inr (.object _, N)) => some N
  | some (.inr (.array _, N)) => some N
  | _ => none
def zaO : zk_K → Option (String × Nat)
  | some (.inr (.object C, N)) => some (C, N)
  | _ => none
def zaX : zk_K → Option Nat
  | some (.inr (_, N)) => some N
  | _ => none
def zaB : zk_K → Option Nat
  | some (.inl c) => some c
  | _ => none
def zm_z (d : zm_D) (r : Int) : zm_D := fun a k => if a = r then 0 else d a k
def zm_zz (d : zm_D) (r : Int) : zm_D := fun a k => if r ≤ a then 0 else d a k
abbrev znA : Nat → FieldType := znA9
/-- an object of the class that is called C -/
def zoc (k : zk_K) (C : String) : Bool := match k with
  | some (.inl c) => decide ((zk_cl[c]?).map (fun q => q.1) = some C)
  | _ => false
/-- what an operation is given: two numbers more, the depth, the script, what comes next, the blocks, calls, handlers -/
abbrev zOo : Type := Nat → Nat → Nat → Int → Nat → zSs → List (Nat × (Nat × Nat)) → List Nat → zKk → (Nat → zKk) → (Nat → List zv_V → zMm → Option zRr) → zKk
def zo_iadd : zOo := fun a b c k D S hl sw next jump call L st M => match st with
  | .inl (.inl y) :: .inl (.inl x) :: st => next L ((zv_i (x + y)) :: st) M
  | _ => none
def zo_isub : zOo := fun a b c k D S hl sw next jump call L st M => match st with
  | .inl (.inl y) :: .inl (.inl x) :: st => next L ((zv_i (x - y)) :: st) M
  | _ => none
def zo_imul : zOo := fun a b c k D S hl sw next jump call L st M => match st with
  | .inl (.inl y) :: .inl (.inl x) :: st => next L ((zv_i (x * y)) :: st) M
  | _ => none
def zo_idiv : zOo := fun a b c k D S hl sw next jump call L st M => match st with
  | .inl (.inl y) :: .inl (.inl x) :: st => if zw y ≠ 0 then next L ((zv_i ((zw x).tdiv (zw y))) :: st) M else none
  | _ => none
def zo_irem : zOo := fun a b c k D S hl sw next jump call L st M => match st with
  | .inl (.inl y) :: .inl (.inl x) :: st => if zw y ≠ 0 then next L ((zv_i ((zw x).tmod (zw y))) :: st) M else none
  | _ => none
def zo_iand : zOo := fun a b c k D S hl sw next jump call L st M => match st with
  | .inl (.inl y) :: .inl (.inl x) :: st => next L ((zv_i (zb_and x y)) :: st) M
  | _ => none
def zo_ior : zOo := fun a b c k D S hl sw next jump call L st M => match st with
  | .inl (.inl y) :: .inl (.inl x) :: st => next L ((zv_i (zb_or x y)) :: st) M
  | _ => none
def zo_ishl : zOo := fun a b c k D S hl sw next jump call L st M => match st with
  | .inl (.inl y) :: .inl (.inl x) :: st => next L ((zv_i (zb_shl x y)) :: st) M
  | _ => none
def zo_iushr : zOo := fun a b c k D S hl sw next jump call L st M => match st with
  | .inl (.inl y) :: .inl (.inl x) :: st => next L ((zv_i (zb_ushr x y)) :: st) M
  | _ => none
def zo_ixor : zOo := fun a b c k D S hl sw next jump call L st M => match st with
  | .inl (.inl y) :: .inl (.inl x) :: st => next L ((zv_i (zb_xor x y)) :: st) M
  | _ => none
def zo_i2l : zOo := fun a b c k D S hl sw next jump call L st M => match st with
  | .inl (.inl x) :: st => next L ((zv_l (zw x)) :: st) M
  | _ => none
def zo_l2i : zOo := fun a b c k D S hl sw next jump call L st M => match st with
  | .inr (.inl x) :: st => next L ((zv_i x) :: st) M
  | _ => none
def zo_ladd : zOo := fun a b c k D S hl sw next jump call L st M => match st with
  | .inr (.inl y) :: .inr (.inl x) :: st => next L ((zv_l (x + y)) :: st) M
  | _ => none
def zo_lsub : zOo := fun a b c k D S hl sw next jump call L st M => match st with
  | .inr (.inl y) :: .inr (.inl x) :: st => next L ((zv_l (x - y)) :: st) M
  | _ => none
def zo_lmul : zOo := fun a b c k D S hl sw next jump call L st M => match st with
  | .inr (.inl y) :: .inr (.inl x) :: st => next L ((zv_l (x * y)) :: st) M
  | _ => none
def zo_ldiv : zOo := fun a b c k D S hl sw next jump call L st M => match st with
  | .inr (.inl y) :: .inr (.inl x) :: st => if zwl y ≠ 0 then next L ((zv_l ((zwl x).tdiv (zwl y))) :: st) M else none
  | _ => none
def zo_lrem : zOo := fun a b c k D S hl sw next jump call L st M => match st with
  | .inr (.inl y) :: .inr (.inl x) :: st => if zwl y ≠ 0 then next L ((zv_l ((zwl x).tmod (zwl y))) :: st) M else none
  | _ => none
def zo_lcmp : zOo := fun a b c k D S hl sw next jump call L st M => match st with
  | .inr (.inl y) :: .inr (.inl x) :: st => next L ((zv_i (zlc x y)) :: st) M
  | _ => none
def zo_dadd : zOo := fun a b c k D S hl sw next jump call L st M => match st with
  | .inr (.inr (.inl y)) :: .inr (.inr (.inl x)) :: st => if zn64 (FP.dadd x y) = true then next L ((zv_d (FP.dadd x y)) :: st) M else none
  | _ => none
def zo_dmul : zOo := fun a b c k D S hl sw next jump call L st M => match st with
  | .inr (.inr (.inl y)) :: .inr (.inr (.inl x)) :: st => if zn64 (FP.dmul x y) = true then next L ((zv_d (FP.dmul x y)) :: st) M else none
  | _ => none
def zo_ddiv : zOo := fun a b c k D S hl sw next jump call L st M => match st with
  | .inr (.inr (.inl y)) :: .inr (.inr (.inl x)) :: st => if zn64 (FP.ddiv x y) = true then next L ((zv_d (FP.ddiv x y)) :: st) M else none
  | _ => none
def zo_i2d : zOo := fun a b c k D S hl sw next jump call L st M => match st with
  | .inl (.inl x) :: st => next L ((zv_d (FP.i2d (Int32.ofInt x))) :: st) M
  | _ => none
def zo_fdiv : zOo := fun a b c k D S hl sw next jump call L st M => match st with
  | .inr (.inr (.inr y)) :: .inr (.inr (.inr x)) :: st => if zn32 (FP.fdiv x y) = true then next L ((zv_f (FP.fdiv x y)) :: st) M else none
  | _ => none
def zo_fmul : zOo := fun a b c k D S hl sw next jump call L st M => match st with
  | .inr (.inr (.inr y)) :: .inr (.inr (.inr x)) :: st => if zn32 (FP.fmul x y) = true then next L ((zv_f (FP.fmul x y)) :: st) M else none
  | _ => none
def zo_fsub : zOo := fun a b c k D S hl sw next jump call L st M => match st with
  | .inr (.inr (.inr y)) :: .inr (.inr (.inr x)) :: st => if zn32 (FP.fsub x y) = true then next L ((zv_f (FP.fsub x y)) :: st) M else none
  | _ => none
def zo_fneg : zOo := fun a b c k D S hl sw next jump call L st M => match st with
  | .inr (.inr (.inr x)) :: st => next L ((zv_f (FP.fneg x)) :: st) M
  | _ => none
def zo_i2f : zOo := fun a b c k D S hl sw next jump call L st M => match st with
  | .inl (.inl x) :: st => next L ((zv_f (FP.i2f (Int32.ofInt x))) :: st) M
  | _ => none
def zo_f2i : zOo := fun a b c k D S hl sw next jump call L st M => match st with
  | .inr (.inr (.inr x)) :: st => next L ((zv_i ((FP.f2i x).toInt)) :: st) M
  | _ => none
def zo_f2d : zOo := fun a b c k D S hl sw next jump call L st M => match st with
  | .inr (.inr (.inr x)) :: st => if zn64 (FP.f2d x) = true then next L ((zv_d (FP.f2d x)) :: st) M else none
  | _ => none
def zo_i2c : zOo := fun a b c k D S hl sw next jump call L st M => match st with
  | .inl (.inl x) :: st => next L ((zv_i ((zw x) % 65536)) :: st) M
  | _ => none
def zo_dcmp : zOo := fun a b c k D S hl sw next jump call L st M => match st with
  | .inr (.inr (.inl y)) :: .inr (.inr (.inl x)) :: st => next L ((zv_i (Op.cmpValue (FP.dcmp x y) (if a = 1 then .g else .l)).toInt) :: st) M
  | _ => none
def zo_fcmp : zOo := fun a b c k D S hl sw next jump call L st M => match st with
  | .inr (.inr (.inr y)) :: .inr (.inr (.inr x)) :: st => next L ((zv_i (Op.cmpValue (FP.fcmp x y) (if a = 1 then .g else .l)).toInt) :: st) M
  | _ => none
def zo_iconst : zOo := fun a b c k D S hl sw next jump call L st M => next L ((zv_i k) :: st) M
def zo_lconst : zOo := fun a b c k D S hl sw next jump call L st M => next L ((zv_l k) :: st) M
def zo_fldc : zOo := fun a b c k D S hl sw next jump call L st M => next L ((zv_f (UInt32.ofNat k.toNat)) :: st) M
def zo_dldc : zOo := fun a b c k D S hl sw next jump call L st M => next L ((zv_d (UInt64.ofNat k.toNat)) :: st) M
def zo_fconst : zOo := fun a b c k D S hl sw next jump call L st M => next L ((zv_f (if a = 0 then FP.fconst0 else if a = 1 then FP.fconst1 else FP.fconst2)) :: st) M
def zo_dconst : zOo := fun a b c k D S hl sw next jump call L st M => next L ((zv_d (if a = 0 then FP.dconst0 else FP.dconst1)) :: st) M
def zo_null : zOo := fun a b c k D S hl sw next jump call L st M => next L ((zv_a 0) :: st) M
def zo_f2bits : zOo := fun a b c k D S hl sw next jump call L st M => match st with
  | .inr (.inr (.inr x)) :: st => if st.length ≤ 4 ∧ 0 < D then next L ((zv_i (x.toInt32.toInt)) :: st) M else none
  | _ => none
def zo_objinit : zOo := fun a b c k D S hl sw next jump call L st M => match st with
  | .inl (.inr x) :: st => if 0 < x ∧ (st.length ≤ 4 ∧ 0 < D) then next L (st) M else none
  | _ => none
def zo_aload : zOo := fun a b c k D S hl sw next jump call L st M => match zget L a with
  | some (.inl (.inr x)) => next L (zv_a x :: st) M
  | _ => none
def zo_iload : zOo := fun a b c k D S hl sw next jump call L st M => match zget L a with
  | some (.inl (.inl x)) => next L (zv_i x :: st) M
  | _ => none
def zo_lload : zOo := fun a b c k D S hl sw next jump call L st M => match zget L a with
  | some (.inr (.inl x)) => next L (zv_l x :: st) M
  | _ => none
def zo_dload : zOo := fun a b c k D S hl sw next jump call L st M => match zget L a with
  | some (.inr (.inr (.inl x))) => next L (zv_d x :: st) M
  | _ => none
def zo_fload : zOo := fun a b c k D S hl sw next jump call L st M => match zget L a with
  | some (.inr (.inr (.inr x))) => next L (zv_f x :: st) M
  | _ => none
def zo_astore : zOo := fun a b c k D S hl sw next jump call L st M => match st with
  | .inl (.inr x) :: st => next (zst1 L a (zv_a x)) st M
  | _ => none
def zo_istore : zOo := fun a b c k D S hl sw next jump call L st M => match st with
  | .inl (.inl x) :: st => next (zst1 L a (zv_i x)) st M
  | _ => none
def zo_lstore : zOo := fun a b c k D S hl sw next jump call L st M => match st with
  | .inr (.inl x) :: st => next (zst2 L a (zv_l x)) st M
  | _ => none
def zo_dstore : zOo := fun a b c k D S hl sw next jump call L st M => match st with
  | .inr (.inr (.inl x)) :: st => next (zst2 L a (zv_d x)) st M
  | _ => none
def zo_fstore : zOo := fun a b c k D S hl sw next jump call L st M => match st with
  | .inr (.inr (.inr x)) :: st => next (zst1 L a (zv_f x)) st M
  | _ => none
def zo_if14 : zOo := fun a b c k D S hl sw next jump call L st M => match st with
  | .inl (.inl x) :: st => if zw x = 0 then jump a L st M else next L st M
  | _ => none
def zo_if15 : zOo := fun a b c k D S hl sw next jump call L st M => match st with
  | .inl (.inl x) :: st => if ¬ zw x = 0 then jump a L st M else next L st M
  | _ => none
def zo_if16 : zOo := fun a b c k D S hl sw next jump call L st M => match st with
  | .inl (.inl x) :: st => if zw x < 0 then jump a L st M else next L st M
  | _ => none
def zo_if17 : zOo := fun a b c k D S hl sw next jump call L st M => match st with
  | .inl (.inl x) :: st => if 0 ≤ zw x then jump a L st M else next L st M
  | _ => none
def zo_if18 : zOo := fun a b c k D S hl sw next jump call L st M => match st with
  | .inl (.inl x) :: st => if 0 < zw x then jump a L st M else next L st M
  | _ => none
def zo_if19 : zOo := fun a b c k D S hl sw next jump call L st M => match st with
  | .inl (.inl x) :: st => if zw x ≤ 0 then jump a L st M else next L st M
  | _ => none
def zo_ic20 : zOo := fun a b c k D S hl sw next jump call L st M => match st with
  | .inl (.inl y) :: .inl (.inl x) :: st => if zw x = zw y then jump a L st M else next L st M
  | _ => none
def zo_ic21 : zOo := fun a b c k D S hl sw next jump call L st M => match st with
  | .inl (.inl y) :: .inl (.inl x) :: st => if ¬ zw x = zw y then jump a L st M else next L st M
  | _ => none
def zo_ic22 : zOo := fun a b c k D S hl sw next jump call L st M => match st with
  | .inl (.inl y) :: .inl (.inl x) :: st => if zw x < zw y then jump a L st M else next L st M
  | _ => none
def zo_ic23 : zOo := fun a b c k D S hl sw next jump call L st M => match st with
  | .inl (.inl y) :: .inl (.inl x) :: st => if zw y ≤ zw x then jump a L st M else next L st M
  | _ => none
def zo_ic24 : zOo := fun a b c k D S hl sw next jump call L st M => match st with
  | .inl (.inl y) :: .inl (.inl x) :: st => if zw y < zw x then jump a L st M else next L st M
  | _ => none
def zo_ic25 : zOo := fun a b c k D S hl sw next jump call L st M => match st with
  | .inl (.inl y) :: .inl (.inl x) :: st => if zw x ≤ zw y then jump a L st M else next L st M
  | _ => none
def zo_in26 : zOo := fun a b c k D S hl sw next jump call L st M => match st with
  | .inl (.inr x) :: st => if x = 0 then jump a L st M else next L st M
  | _ => none
def zo_in27 : zOo := fun a b c k D S hl sw next jump call L st M => match st with
  | .inl (.inr x) :: st => if ¬ x = 0 then jump a L st M else next L st M
  | _ => none
def zo_ia28 : zOo := fun a b c k D S hl sw next jump call L st M => match st with
  | .inl (.inr y) :: .inl (.inr x) :: st => if 0 ≤ x ∧ 0 ≤ y then (if x = y then jump a L st M else next L st M) else none
  | _ => none
def zo_ia29 : zOo := fun a b c k D S hl sw next jump call L st M => match st with
  | .inl (.inr y) :: .inl (.inr x) :: st => if 0 ≤ x ∧ 0 ≤ y then (if ¬ x = y then jump a L st M else next L st M) else none
  | _ => none
def zo_goto : zOo := fun a b c k D S hl sw next jump call L st M => jump a L st M
def zo_fall : zOo := fun a b c k D S hl sw next jump call L st M => jump a L st M
def zo_iinc : zOo := fun a b c k D S hl sw next jump call L st M => match zget L a with
  | some (.inl (.inl x)) => next (zst1 L a (zv_i (x + k))) st M
  | _ => none
def zo_dup : zOo := fun a b c k D S hl sw next jump call L st M => match st with
  | .inl x :: st => next L (.inl x :: .inl x :: st) M
  | .inr (.inr (.inr x)) :: st => next L (zv_f x :: zv_f x :: st) M
  | _ => none
def zo_dup2 : zOo := fun a b c k D S hl sw next jump call L st M => match st with
  | .inl x :: .inl y :: st => next L (.inl x :: .inl y :: .inl x :: .inl y :: st) M
  | _ => none
def zo_pop : zOo := fun a b c k D S hl sw next jump call L st M => match st with
  | .inl _ :: st => next L st M
  | _ => none
def zo_pop2 : zOo := fun a b c k D S hl sw next jump call L st M => match st with
  | .inr (.inl _) :: st => next L st M
  | .inr (.inr (.inl _)) :: st => next L st M
  | _ => none
def zo_getI : zOo := fun a b c k D S hl sw next jump call L st M => match st with
  | .inl (.inr r) :: st => if 0 < r ∧ zaB (M.2.1 r) = some a then next L (zv_i (M.2.2.1 r k) :: st) M else none
  | _ => none
def zo_getA : zOo := fun a b c k D S hl sw next jump call L st M => match st with
  | .inl (.inr r) :: st => if 0 < r ∧ zaB (M.2.1 r) = some a then next L (zv_a (M.2.2.1 r k) :: st) M else none
  | _ => none
def zo_putI : zOo := fun a b c k D S hl sw next jump call L st M => match st with
  | .inl (.inl x) :: .inl (.inr r) :: st => if 0 < r ∧ zaB (M.2.1 r) = some a then next L st (M.1, (M.2.1, (zm_u M.2.2.1 r k x, M.2.2.2))) else none
  | _ => none
def zo_putZ : zOo := fun a b c k D S hl sw next jump call L st M => match st with
  | .inl (.inl x) :: .inl (.inr r) :: st => if (0 < r ∧ zaB (M.2.1 r) = some a) ∧ (x = 0 ∨ x = 1) then next L st (M.1, (M.2.1, (zm_u M.2.2.1 r k x, M.2.2.2))) else none
  | _ => none
def zo_putA : zOo := fun a b c k D S hl sw next jump call L st M => match st with
  | .inl (.inr x) :: .inl (.inr r) :: st => if 0 < r ∧ zaB (M.2.1 r) = some a then next L st (M.1, (M.2.1, (zm_u M.2.2.1 r k x, M.2.2.2))) else none
  | _ => none
def zo_iaload : zOo := fun a b c k D S hl sw next jump call L st M => match st with
  | .inl (.inl i) :: .inl (.inr r) :: st => (match zaI (M.2.1 r) with
    | some N => if (0 < r ∧ N ≤ 1000000) ∧ (0 ≤ zw i ∧ zw i < N) then next L (zv_i (M.2.2.1 r (zw i)) :: st) M else none
    | none => none)
  | _ => none
def zo_aaload : zOo := fun a b c k D S hl sw next jump call L st M => match st with
  | .inl (.inl i) :: .inl (.inr r) :: st => (match zaR (M.2.1 r) with
    | some N => if (0 < r ∧ N ≤ 1000000) ∧ (0 ≤ zw i ∧ zw i < N) then next L (zv_a (M.2.2.1 r (zw i)) :: st) M else none
    | none => none)
  | _ => none
def zo_laload : zOo := fun a b c k D S hl sw next jump call L st M => match st with
  | .inl (.inl i) :: .inl (.inr r) :: st => (match zaL (M.2.1 r) with
    | some N => if (0 < r ∧ N ≤ 1000000) ∧ (0 ≤ zw i ∧ zw i < N) then next L (zv_l (M.2.2.1 r (zw i)) :: st) M else none
    | none => none)
  | _ => none
def zo_daload : zOo := fun a b c k D S hl sw next jump call L st M => match st with
  | .inl (.inl i) :: .inl (.inr r) :: st => (match zaD (M.2.1 r) with
    | some N => if (0 < r ∧ N ≤ 1000000) ∧ (0 ≤ zw i ∧ zw i < N) then next L (zv_d (UInt64.ofNat (M.2.2.1 r (zw i)).toNat) :: st) M else none
    | none => none)
  | _ => none
def zo_caload : zOo := fun a b c k D S hl sw next jump call L st M => match st with
  | .inl (.inl i) :: .inl (.inr r) :: st => (match zaC (M.2.1 r) with
    | some N => if (0 < r ∧ N ≤ 1000000) ∧ (0 ≤ zw i ∧ zw i < N) then next L (zv_i (M.2.2.1 r (zw i)) :: st) M else none
    | none => none)
  | _ => none
def zo_zaload : zOo := fun a b c k D S hl sw next jump call L st M => match st with
  | .inl (.inl i) :: .inl (.inr r) :: st => (match zaZ (M.2.1 r) with
    | some N => if (0 < r ∧ N ≤ 1000000) ∧ (0 ≤ zw i ∧ zw i < N) then next L (zv_i (M.2.2.1 r (zw i)) :: st) M else none
    | none => none)
  | _ => none
def zo_iastore : zOo := fun a b c k D S hl sw next jump call L st M => match st with
  | .inl (.inl x) :: .inl (.inl i) :: .inl (.inr r) :: st => (match zaI (M.2.1 r) with
    | some N => if ((0 < r ∧ N ≤ 1000000) ∧ (0 ≤ zw i ∧ zw i < N)) then next L st (M.1, (M.2.1, (zm_u M.2.2.1 r (zw i) x, M.2.2.2))) else none
    | none => none)
  | _ => none
def zo_lastore : zOo := fun a b c k D S hl sw next jump call L st M => match st with
  | .inr (.inl x) :: .inl (.inl i) :: .inl (.inr r) :: st => (match zaL (M.2.1 r) with
    | some N => if ((0 < r ∧ N ≤ 1000000) ∧ (0 ≤ zw i ∧ zw i < N)) then next L st (M.1, (M.2.1, (zm_u M.2.2.1 r (zw i) x, M.2.2.2))) else none
    | none => none)
  | _ => none
def zo_dastore : zOo := fun a b c k D S hl sw next jump call L st M => match st with
  | .inr (.inr (.inl x)) :: .inl (.inl i) :: .inl (.inr r) :: st => (match zaD (M.2.1 r) with
    | some N => if ((0 < r ∧ N ≤ 1000000) ∧ (0 ≤ zw i ∧ zw i < N)) then next L st (M.1, (M.2.1, (zm_u M.2.2.1 r (zw i) x.toNat, M.2.2.2))) else none
    | none => none)
  | _ => none
def zo_castore : zOo := fun a b c k D S hl sw next jump call L st M => match st with
  | .inl (.inl x) :: .inl (.inl i) :: .inl (.inr r) :: st => (match zaC (M.2.1 r) with
    | some N => if ((0 < r ∧ N ≤ 1000000) ∧ (0 ≤ zw i ∧ zw i < N)) ∧ (0 ≤ x ∧ x < 65536) then next L st (M.1, (M.2.1, (zm_u M.2.2.1 r (zw i) x, M.2.2.2))) else none
    | none => none)
  | _ => none
def zo_zastore : zOo := fun a b c k D S hl sw next jump call L st M => match st with
  | .inl (.inl x) :: .inl (.inl i) :: .inl (.inr r) :: st => (match zaZ (M.2.1 r) with
    | some N => if ((0 < r ∧ N ≤ 1000000) ∧ (0 ≤ zw i ∧ zw i < N)) ∧ (x = 0 ∨ x = 1) then next L st (M.1, (M.2.1, (zm_u M.2.2.1 r (zw i) x, M.2.2.2))) else none
    | none => none)
  | _ => none
def zo_aastore : zOo := fun a b c k D S hl sw next jump call L st M => match st with
  | .inl (.inr x) :: .inl (.inl i) :: .inl (.inr r) :: st => (match zaO (M.2.1 r) with
    | some (C, N) => if ((0 < r ∧ N ≤ 1000000) ∧ (0 ≤ zw i ∧ zw i < N)) ∧ (x = 0 ∨ (0 < x ∧ zoc (M.2.1 x) C = true)) then next L st (M.1, (M.2.1, (zm_u M.2.2.1 r (zw i) x, M.2.2.2))) else none
    | none => none)
  | _ => none
def zo_alen : zOo := fun a b c k D S hl sw next jump call L st M => match st with
  | .inl (.inr r) :: st => (match zaX (M.2.1 r) with
    | some N => if 0 < r then next L (zv_i (N : Int) :: st) M else none
    | none => none)
  | _ => none
def zo_sald : zOo := fun a b c k D S hl sw next jump call L st M => match st with
  | .inl (.inl i) :: .inl (.inr r) :: st => if r = -1 ∧ (0 ≤ zw i ∧ zw i < S.1) then next L (zv_i (S.2 (zw i).toNat) :: st) M else none
  | _ => none
def zo_slen : zOo := fun a b c k D S hl sw next jump call L st M => match st with
  | .inl (.inr r) :: st => if r = -1 then next L (zv_i (S.1 : Int) :: st) M else none
  | _ => none
def zo_vret : zOo := fun a b c k D S hl sw next jump call L st M => match st with
  | [] => some (.inl none, M)
  | _ => none
def zo_iret : zOo := fun a b c k D S hl sw next jump call L st M => match st with
  | [.inl (.inl x)] => some (.inl (some (zv_i x)), M)
  | _ => none
def zo_zret : zOo := fun a b c k D S hl sw next jump call L st M => match st with
  | [.inl (.inl x)] => if x = 0 ∨ x = 1 then some (.inl (some (zv_i x)), M) else none
  | _ => none
def zo_aret : zOo := fun a b c k D S hl sw next jump call L st M => match st with
  | [.inl (.inr x)] => some (.inl (some (zv_a x)), M)
  | _ => none
def zo_lret : zOo := fun a b c k D S hl sw next jump call L st M => match st with
  | [.inr (.inl x)] => some (.inl (some (zv_l x)), M)
  | _ => none
def zo_dret : zOo := fun a b c k D S hl sw next jump call L st M => match st with
  | [.inr (.inr (.inl x))] => some (.inl (some (zv_d x)), M)
  | _ => none
def zo_fret : zOo := fun a b c k D S hl sw next jump call L st M => match st with
  | [.inr (.inr (.inr x))] => some (.inl (some (zv_f x)), M)
  | _ => none
def zo_throw : zOo := fun a b c k D S hl sw next jump call L st M => if 12 ≤ D ∧ st.length ≤ 8 then some (.inr a, (M.1 + 1, (M.2.1, (M.2.2.1, M.2.2.2 + 6)))) else none
def zo_throwW : zOo := fun a b c k D S hl sw next jump call L st M => if 12 ≤ D ∧ st.length ≤ 8 then some (.inr a, (M.1 + 1, (M.2.1, (M.2.2.1, M.2.2.2 + 6)))) else none
def zo_new : zOo := fun a b c k D S hl sw next jump call L st M => next L (zv_a ((M.1 : Int) + 1) :: st) (M.1 + 1, (zk_u M.2.1 ((M.1 : Int) + 1) (some (.inl a)), (zm_z M.2.2.1 ((M.1 : Int) + 1), M.2.2.2 + b)))
def zo_newarr : zOo := fun a b c k D S hl sw next jump call L st M => match st with
  | .inl (.inl x) :: st => if 0 ≤ x ∧ x ≤ 65536 then next L (zv_a ((M.1 : Int) + 1) :: st) (M.1 + 1, (zk_u M.2.1 ((M.1 : Int) + 1) (some (.inr (znA a, x.toNat))), (zm_z M.2.2.1 ((M.1 : Int) + 1), M.2.2.2 + x.toNat))) else none
  | _ => none
def zo_anew : zOo := fun a b c k D S hl sw next jump call L st M => match st with
  | .inl (.inl x) :: st => if 0 ≤ x ∧ x ≤ 65536 then next L (zv_a ((M.1 : Int) + 1) :: st) (M.1 + 1, (zk_u M.2.1 ((M.1 : Int) + 1) (some (.inr (.object (zcn a), x.toNat))), (zm_z M.2.2.1 ((M.1 : Int) + 1), M.2.2.2 + x.toNat))) else none
  | _ => none
def zo_multi2 : zOo := fun a b c k D S hl sw next jump call L st M => match st with
  | .inl (.inl y) :: .inl (.inl x) :: st => if (0 ≤ x ∧ x ≤ 1000) ∧ (0 ≤ y ∧ y ≤ 1000) then next L (zv_a ((M.1 : Int) + 1) :: st) (zmul2 M x.toNat y.toNat) else none
  | _ => none
def zo_multi3 : zOo := fun a b c k D S hl sw next jump call L st M => match st with
  | .inl (.inl z) :: .inl (.inl y) :: .inl (.inl x) :: st => if (0 ≤ x ∧ x ≤ 100) ∧ ((0 ≤ y ∧ y ≤ 100) ∧ (0 ≤ z ∧ z ≤ 100)) then next L (zv_a ((M.1 : Int) + 1) :: st) (zmul3 M x.toNat y.toNat z.toNat) else none
  | _ => none
def zo_callS : zOo := fun a b c k D S hl sw next jump call L st M => match zpop b st [] with
  | some (As, rest) => if rest.length ≤ 4 ∧ 0 < D then zaft hl next jump L rest (call a As M) else none
  | none => none
def zo_callV : zOo := fun a b c k D S hl sw next jump call L st M => match zpop b st [] with
  | some (As, .inl (.inr r) :: rest) => if (0 < r ∧ zaB (M.2.1 r) = some c) ∧ (rest.length ≤ 4 ∧ 0 < D) then zaft hl next jump L rest (call a (zv_a r :: As) M) else none
  | _ => none
def zo_callI : zOo := fun a b c k D S hl sw next jump call L st M => match zpop b st [] with
  | some (As, .inl (.inr r) :: rest) => if 0 < r ∧ (rest.length ≤ 4 ∧ 0 < D) then zaft hl next jump L rest (call a (zv_a r :: As) M) else none
  | _ => none
def zo_acopy : zOo := fun a b c k D S hl sw next jump call L st M => match st with
  | .inl (.inl x) :: .inl (.inl q) :: .inl (.inr r2) :: .inl (.inl p) :: .inl (.inr r1) :: st => (match zaI (M.2.1 r1), zaI (M.2.1 r2) with
    | some N1, some N2 => if (((0 < r1 ∧ 0 < r2) ∧ (N1 ≤ 1000000 ∧ N2 ≤ 1000000)) ∧ (0 ≤ zw p ∧ 0 ≤ zw q)) ∧ ((0 ≤ zw x ∧ zw p + zw x ≤ N1) ∧ (zw q + zw x ≤ N2 ∧ (st.length ≤ 4 ∧ 0 < D))) then next L st (M.1, (M.2.1, (zm_cp M.2.2.1 r1 (zw p) r2 (zw q) (zw x), M.2.2.2))) else none
    | _, _ => none)
  | _ => none
def zo_tsw : zOo := fun a b c k D S hl sw next jump call L st M => match st with
  | .inl (.inl x) :: st => (match (if 0 ≤ zw x then sw[(zw x).toNat]? else none) with
    | some t => jump t L st M
    | none => jump a L st M)
  | _ => none
def zstep : Nat → zOo
  | 0 => zo_aload
  | 1 => zo_getI
  | 2 => zo_getA
  | 3 => zo_iconst
  | 4 => zo_iload
  | 5 => zo_callS
  | 6 => zo_callV
  | 7 => zo_callI
  | 8 => zo_iret
  | 9 => zo_zret
  | 10 => zo_goto
  | 11 => zo_putI
  | 12 => zo_putZ
  | 13 => zo_putA
  | 14 => zo_if14
  | 15 => zo_if15
  | 16 => zo_if16
  | 17 => zo_if17
  | 18 => zo_if18
  | 19 => zo_if19
  | 20 => zo_ic20
  | 21 => zo_ic21
  | 22 => zo_ic22
  | 23 => zo_ic23
  | 24 => zo_ic24
  | 25 => zo_ic25
  | 26 => zo_in26
  | 27 => zo_in27
  | 28 => zo_ia28
  | 29 => zo_ia29
  | 30 => zo_istore
  | 31 => zo_astore
  | 32 => zo_iinc
  | 33 => zo_iaload
  | 34 => zo_aaload
  | 35 => zo_iastore
  | 36 => zo_alen
  | 37 => zo_iadd
  | 38 => zo_isub
  | 39 => zo_imul
  | 40 => zo_idiv
  | 41 => zo_irem
  | 42 => zo_iand
  | 43 => zo_ior
  | 44 => zo_ishl
  | 45 => zo_iushr
  | 46 => zo_ixor
  | 47 => zo_dup
  | 48 => zo_dup2
  | 49 => zo_pop
  | 50 => zo_vret
  | 51 => zo_aret
  | 52 => zo_lret
  | 53 => zo_dret
  | 54 => zo_fret
  | 55 => zo_throw
  | 56 => zo_throwW
  | 57 => zo_new
  | 58 => zo_newarr
  | 59 => zo_anew
  | 60 => zo_multi2
  | 61 => zo_multi3
  | 62 => zo_aastore
  | 63 => zo_pop2
  | 64 => zo_lconst
  | 65 => zo_i2l
  | 66 => zo_l2i
  | 67 => zo_ladd
  | 68 => zo_lsub
  | 69 => zo_lmul
  | 70 => zo_ldiv
  | 71 => zo_lrem
  | 72 => zo_lcmp
  | 73 => zo_lload
  | 74 => zo_lstore
  | 75 => zo_laload
  | 76 => zo_lastore
  | 77 => zo_dconst
  | 78 => zo_dload
  | 79 => zo_dstore
  | 80 => zo_daload
  | 81 => zo_dastore
  | 82 => zo_dadd
  | 83 => zo_dmul
  | 84 => zo_ddiv
  | 85 => zo_dcmp
  | 86 => zo_i2d
  | 87 => zo_fconst
  | 88 => zo_fload
  | 89 => zo_fstore
  | 90 => zo_fdiv
  | 91 => zo_fmul
  | 92 => zo_fsub
  | 93 => zo_fneg
  | 94 => zo_fcmp
  | 95 => zo_i2f
  | 96 => zo_f2i
  | 97 => zo_f2d
  | 98 => zo_fldc
  | 99 => zo_caload
  | 100 => zo_castore
  | 101 => zo_zaload
  | 102 => zo_zastore
  | 103 => zo_i2c
  | 104 => zo_tsw
  | 105 => zo_null
  | 106 => zo_acopy
  | 107 => zo_f2bits
  | 108 => zo_objinit
  | 109 => zo_dldc
  | 111 => zo_fall
  | 112 => zo_sald
  | 113 => zo_slen
  | _ => fun _ _ _ _ _ _ _ _ _ _ _ _ _ _ => none
/-- the blocks of a method, its handlers, its switch, its locals -/
def zcd (m b : Nat) : List zI := (zCD.getD m []).getD b []
def zhl (m : Nat) : List (Nat × (Nat × Nat)) := zHDl.getD m []
def zsw (m : Nat) : List Nat := zSWl.getD m []
def znl (m : Nat) : Nat := zm_n (zMM m)
def zarg : Nat → List zv_V → zN
  | 0, _ => []
  | n + 1, [] => none :: zarg n []
  | n + 1, .inl x :: vs => some (.inl x) :: zarg n vs
  | n + 1, .inr (.inr (.inr x)) :: vs => some (zv_f x) :: zarg n vs
  | n + 2, v :: vs => some v :: none :: zarg n vs
  | 1, _ :: _ => [none]
def zrun (S : zSs) : Nat → Nat → Nat → List zI → zKk
  | 0, _, _, _ => fun _ _ _ => none
  | _ + 1, _, _, [] => fun _ _ _ => none
  | N + 1, D, m, (o, a, b, c, k) :: is => zstep o a b c k D S (zhl m) (zsw m) (zrun S N D m is) (fun b => zrun S N D m (zcd m b)) (fun m' As M => if zs_w As ≤ znl m' then zrun S N (D - 1) m' (zcd m' 0) (zarg (znl m') As) [] M else none)
/-- from here the run ends with Q -/
def zB (S : zSs) (D m : Nat) (is : List zI) (L : zN) (st : List zv_V) (n : Nat) (sh : zk_S) (d : zm_D) (u : Nat) (Q : ((Option zv_V) ⊕ Nat) → Nat → zk_S → zm_D → Nat → Prop) : Prop :=
  ∃ N r, zrun S N D m is L st (n, sh, d, u) = some r ∧ Q r.1 r.2.1 r.2.2.1 r.2.2.2.1 r.2.2.2.2
def zJ (S : zSs) (D m b : Nat) (L : zN) (st : List zv_V) (n : Nat) (sh : zk_S) (d : zm_D) (u : Nat) (Q : ((Option zv_V) ⊕ Nat) → Nat → zk_S → zm_D → Nat → Prop) : Prop := zB S D m (zcd m b) L st n sh d u Q
def zE (S : zSs) (D m : Nat) (As : List zv_V) (n : Nat) (sh : zk_S) (d : zm_D) (u : Nat) (Q : ((Option zv_V) ⊕ Nat) → Nat → zk_S → zm_D → Nat → Prop) : Prop := zs_w As ≤ znl m ∧ zB S D m (zcd m 0) (zarg (znl m) As) [] n sh d u Q
