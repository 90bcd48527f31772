/-! THE MINI MACHINE: values are whole numbers; objects and arrays by number; a run is a function -/
abbrev zV : Type := Int ⊕ (Int ⊕ (Option (Option Nat)))
abbrev zS : Type := List (Nat ⊕ (FieldType × Nat)) × (Nat → Nat → Option Nat)
abbrev zM : Type := Nat → Nat → Int
abbrev vi (x : Int) : zV := .inl x
abbrev vl (x : Int) : zV := .inr (.inl x)
abbrev vo (r : Option Nat) : zV := .inr (.inr (some r))
abbrev vn : zV := .inr (.inr (some none))
abbrev vr (a : Nat) : zV := .inr (.inr (some (some a)))
abbrev vU : zV := .inr (.inr none)
def w32 (x : Int) : Int := (x + 2147483648) % 4294967296 - 2147483648
def w64 (x : Int) : Int := (x + 9223372036854775808) % 18446744073709551616 - 9223372036854775808
def w16 (x : Int) : Int := (x + 32768) % 65536 - 32768
def w8 (x : Int) : Int := (x + 128) % 256 - 128
def zand (x y : Int) : Int := (Int32.ofInt x &&& Int32.ofInt y).toInt
def zor (x y : Int) : Int := (Int32.ofInt x ||| Int32.ofInt y).toInt
def zxor (x y : Int) : Int := (Int32.ofInt x ^^^ Int32.ofInt y).toInt
def zshl (x y : Int) : Int := (Int32.ofInt x <<< (Int32.ofInt y &&& 31)).toInt
def zshr (x y : Int) : Int := (Int32.ofInt x >>> (Int32.ofInt y &&& 31)).toInt
def zush (x y : Int) : Int := ((Int32.ofInt x).toUInt32 >>> ((Int32.ofInt y).toUInt32 &&& 31)).toInt32.toInt
def zlcmp (x y : Int) : Int := if y < x then 1 else if x = y then 0 else -1
/-- locals: read, write -/
def zg : List zV → Nat → zV
  | [], _ => vU
  | a :: _, 0 => a
  | _ :: L, k + 1 => zg L k
def zkl : zV → zV
  | .inr (.inl _) => vU
  | v => v
def zst : List zV → Nat → zV → List zV
  | [], _, _ => []
  | _ :: L, 0, v => v :: L
  | a :: L, 1, v => zkl a :: zst L 0 v
  | a :: L, k + 2, v => a :: zst L (k + 1) v
def zraw : List zV → Nat → zV → List zV
  | [], _, _ => []
  | _ :: L, 0, v => v :: L
  | a :: L, k + 1, v => a :: zraw L k v
/-- arguments as locals: a long takes two -/
def zla : List zV → List zV
  | [] => []
  | .inr (.inl x) :: r => .inr (.inl x) :: vU :: zla r
  | v :: r => v :: zla r
def zen (n : Nat) (av : List zV) : List zV := zla av ++ List.replicate (n - (zla av).length) vU
def zcat : zV → Nat
  | .inr (.inl _) => 2
  | _ => 1
def zok : zV → Bool
  | .inr (.inr none) => false
  | _ => true
/-- memory and references: write, make new -/
def ua (μ : zM) (a k : Nat) (x : Int) : zM := fun b j => if b = a ∧ j = k then x else μ b j
def ur (ρ : Nat → Nat → Option Nat) (a k : Nat) (x : Option Nat) : Nat → Nat → Option Nat := fun b j => if b = a ∧ j = k then x else ρ b j
def zm0 (μ : zM) (n : Nat) : zM := fun b j => if n ≤ b then 0 else μ b j
def zr0 (ρ : Nat → Nat → Option Nat) (n : Nat) : Nat → Nat → Option Nat := fun b j => if n ≤ b then none else ρ b j
def zob (θ : zS) (a c : Nat) : Bool := θ.1[a]? == some (.inl c)
/-- an index within an array of such a type -/
def zix (θ : zS) (t : FieldType) (a : Nat) (i : Int) : Bool := match θ.1[a]? with
  | some (.inr (u, n)) => u == t && decide (0 ≤ i ∧ i < (n : Int))
  | _ => false
def zty (t : ArrayType) : Option FieldType := match t with
  | .boolean => some .boolean
  | .byte => some .byte
  | .int => some .int
  | .long => some .long
  | _ => none
def zcond (c : ClassFile.Cond) (x y : Int) : Bool := match c with
  | .eq => decide (x = y)
  | .ne => decide (x ≠ y)
  | .lt => decide (x < y)
  | .ge => decide (y ≤ x)
  | .gt => decide (y < x)
  | .le => decide (x ≤ y)
def zjmp (pc : Nat) (off : Int) : Nat := ((pc : Int) + off).toNat
def zcopy (μ : zM) (a sp b dp n : Nat) : zM := fun q j => if q = b ∧ dp ≤ j ∧ j < dp + n then μ a (sp + (j - dp)) else μ q j
/-- the bytes of the one String constant -/
def zStr : List Nat := "roof weigh lap nail clip years moss nailed clipped warn suck press holds far door open if or and not row col third edge bare holes inlet outlet gust way age grown nails ".toList.map Char.toNat
/-- the length that an instruction has (0: any) -/
def zlen (i : Instr) : Nat := match i with
  | .iload _ => 2
  | .lload _ => 2
  | .aload _ => 2
  | .istore _ => 2
  | .lstore _ => 2
  | .astore _ => 2
  | .bipush _ => 2
  | .ldc _ => 2
  | .newarray _ => 2
  | .iinc _ _ => 3
  | .sipush _ => 3
  | .ldc_w _ => 3
  | .ldc2_w _ => 3
  | .getfield _ => 3
  | .putfield _ => 3
  | .new _ => 3
  | .anewarray _ => 3
  | .goto _ => 3
  | .ifCond _ _ => 3
  | .if_icmp _ _ => 3
  | .invokevirtual _ => 3
  | .invokestatic _ => 3
  | .invokespecial _ => 3
  | .multianewarray _ _ => 4
  | .tableswitch _ _ _ _ => 0
  | .lookupswitch _ _ => 0
  | _ => 1
def ft (z pc : Nat) : Option (Instr × Nat) := match decode (zcb z) pc with
  | .ok r => if zlen r.1 = 0 ∨ r.2 = zlen r.1 then some r else none
  | .error _ => none
/-- a simple step -/
def zstep (z : Nat) (i : Instr) (n pc : Nat) (L S : List zV) (θ : zS) (μ : zM) : Option (Nat × List zV × List zV × zS × zM) := match i, S with
  | .iload_n k, S => (match zg L k with | .inl x => some (pc + n, L, vi x :: S, θ, μ) | _ => none)
  | .iload k, S => (match zg L k with | .inl x => some (pc + n, L, vi x :: S, θ, μ) | _ => none)
  | .lload_n k, S => (match zg L k with | .inr (.inl x) => some (pc + n, L, vl x :: S, θ, μ) | _ => none)
  | .lload k, S => (match zg L k with | .inr (.inl x) => some (pc + n, L, vl x :: S, θ, μ) | _ => none)
  | .aload_n k, S => (match zg L k with | .inr (.inr (some r)) => some (pc + n, L, vo r :: S, θ, μ) | _ => none)
  | .aload k, S => (match zg L k with | .inr (.inr (some r)) => some (pc + n, L, vo r :: S, θ, μ) | _ => none)
  | .istore_n k, .inl x :: S => if (k : Nat) < L.length then some (pc + n, zst L k (vi x), S, θ, μ) else none
  | .istore k, .inl x :: S => if k < L.length then some (pc + n, zst L k (vi x), S, θ, μ) else none
  | .lstore_n k, .inr (.inl x) :: S => if (k : Nat) + 1 < L.length then some (pc + n, zst (zraw L (k + 1) vU) k (vl x), S, θ, μ) else none
  | .lstore k, .inr (.inl x) :: S => if k + 1 < L.length then some (pc + n, zst (zraw L (k + 1) vU) k (vl x), S, θ, μ) else none
  | .astore_n k, .inr (.inr (some r)) :: S => if (k : Nat) < L.length then some (pc + n, zst L k (vo r), S, θ, μ) else none
  | .astore k, .inr (.inr (some r)) :: S => if k < L.length then some (pc + n, zst L k (vo r), S, θ, μ) else none
  | .iinc k c, S => (match zg L k with | .inl x => if n = 3 ∧ k < L.length then some (pc + n, zst L k (vi (w32 (x + c))), S, θ, μ) else none | _ => none)
  | .iconst c, S => some (pc + n, L, vi (w32 c) :: S, θ, μ)
  | .bipush c, S => some (pc + n, L, vi (w8 c) :: S, θ, μ)
  | .sipush c, S => some (pc + n, L, vi (w16 c) :: S, θ, μ)
  | .lconst c, S => some (pc + n, L, vl ((c : Nat) : Int) :: S, θ, μ)
  | .ldc k, S => if zcz z = 7 ∧ k = 29 then some (pc + n, L, vr 0 :: S, θ, μ) else (match zci (zcz z) k with | some x => some (pc + n, L, vi x :: S, θ, μ) | none => none)
  | .ldc_w k, S => (match zci (zcz z) k with | some x => some (pc + n, L, vi x :: S, θ, μ) | none => none)
  | .ldc2_w k, S => (match zcg (zcz z) k with | some x => some (pc + n, L, vl x :: S, θ, μ) | none => none)
  | .iadd, .inl y :: .inl x :: S => some (pc + n, L, vi (w32 (x + y)) :: S, θ, μ)
  | .isub, .inl y :: .inl x :: S => some (pc + n, L, vi (w32 (x - y)) :: S, θ, μ)
  | .imul, .inl y :: .inl x :: S => some (pc + n, L, vi (w32 (x * y)) :: S, θ, μ)
  | .idiv, .inl y :: .inl x :: S => if y = 0 then none else some (pc + n, L, vi (w32 (x.tdiv y)) :: S, θ, μ)
  | .irem, .inl y :: .inl x :: S => if y = 0 then none else some (pc + n, L, vi (x.tmod y) :: S, θ, μ)
  | .iand, .inl y :: .inl x :: S => some (pc + n, L, vi (zand x y) :: S, θ, μ)
  | .ior, .inl y :: .inl x :: S => some (pc + n, L, vi (zor x y) :: S, θ, μ)
  | .ixor, .inl y :: .inl x :: S => some (pc + n, L, vi (zxor x y) :: S, θ, μ)
  | .ishl, .inl y :: .inl x :: S => some (pc + n, L, vi (zshl x y) :: S, θ, μ)
  | .ishr, .inl y :: .inl x :: S => some (pc + n, L, vi (zshr x y) :: S, θ, μ)
  | .iushr, .inl y :: .inl x :: S => some (pc + n, L, vi (zush x y) :: S, θ, μ)
  | .i2l, .inl x :: S => some (pc + n, L, vl x :: S, θ, μ)
  | .i2b, .inl x :: S => some (pc + n, L, vi (w8 x) :: S, θ, μ)
  | .l2i, .inr (.inl x) :: S => some (pc + n, L, vi (w32 x) :: S, θ, μ)
  | .ladd, .inr (.inl y) :: .inr (.inl x) :: S => some (pc + n, L, vl (w64 (x + y)) :: S, θ, μ)
  | .lsub, .inr (.inl y) :: .inr (.inl x) :: S => some (pc + n, L, vl (w64 (x - y)) :: S, θ, μ)
  | .lmul, .inr (.inl y) :: .inr (.inl x) :: S => some (pc + n, L, vl (w64 (x * y)) :: S, θ, μ)
  | .ldiv, .inr (.inl y) :: .inr (.inl x) :: S => if y = 0 then none else some (pc + n, L, vl (w64 (x.tdiv y)) :: S, θ, μ)
  | .lcmp, .inr (.inl y) :: .inr (.inl x) :: S => some (pc + n, L, vi (zlcmp x y) :: S, θ, μ)
  | .dup, v :: S => if zcat v = 1 ∧ zok v = true then some (pc + n, L, v :: v :: S, θ, μ) else none
  | .pop, v :: S => if zcat v = 1 ∧ zok v = true then some (pc + n, L, S, θ, μ) else none
  | .dup2, v :: u :: S => if zcat v = 1 ∧ zok v = true ∧ zcat u = 1 ∧ zok u = true then some (pc + n, L, v :: u :: v :: u :: S, θ, μ) else none
  | .getfield k, .inr (.inr (some (some a))) :: S => (match zfr (zcz z) k with
    | some (c, j) => if zob θ a c = true then (match zfk c j % 10 with
      | 0 => some (pc + n, L, vi (μ a j) :: S, θ, μ)
      | 3 => some (pc + n, L, vi (μ a j) :: S, θ, μ)
      | 1 => some (pc + n, L, vl (μ a j) :: S, θ, μ)
      | 2 => some (pc + n, L, vo (θ.2 a j) :: S, θ, μ)
      | _ => none) else none
    | none => none)
  | .putfield k, v :: .inr (.inr (some (some a))) :: S => (match zfr (zcz z) k with
    | some (c, j) => if zob θ a c = true ∧ 2 ≤ a ∧ (zfk c j < 10 ∨ ((zyn z).name = "<init>" ∧ zcz z = c)) then (match zfk c j % 10, v with
      | 0, .inl x => some (pc + n, L, S, θ, ua μ a j x)
      | 3, .inl x => if x = 0 ∨ x = 1 then some (pc + n, L, S, θ, ua μ a j x) else none
      | 1, .inr (.inl x) => some (pc + n, L, S, θ, ua μ a j x)
      | 2, .inr (.inr (some r)) => some (pc + n, L, S, (θ.1, ur θ.2 a j r), μ)
      | _, _ => none) else none
    | none => none)
  | .iaload, .inl i :: .inr (.inr (some (some a))) :: S => if zix θ .int a i = true then some (pc + n, L, vi (μ a i.toNat) :: S, θ, μ) else none
  | .baload, .inl i :: .inr (.inr (some (some a))) :: S => if (zix θ .byte a i = true ∨ zix θ .boolean a i = true) ∧ 2 ≤ a then some (pc + n, L, vi (μ a i.toNat) :: S, θ, μ) else none
  | .laload, .inl i :: .inr (.inr (some (some a))) :: S => if zix θ .long a i = true ∧ 2 ≤ a then some (pc + n, L, vl (μ a i.toNat) :: S, θ, μ) else none
  | .aaload, .inl i :: .inr (.inr (some (some a))) :: S => if (zix θ (.array .int) a i = true ∨ zix θ (.object "GaleRoof$Scene") a i = true) ∧ 2 ≤ a then some (pc + n, L, vo (θ.2 a i.toNat) :: S, θ, μ) else none
  | .iastore, .inl x :: .inl i :: .inr (.inr (some (some a))) :: S => if zix θ .int a i = true ∧ 2 ≤ a then some (pc + n, L, S, θ, ua μ a i.toNat x) else none
  | .bastore, .inl x :: .inl i :: .inr (.inr (some (some a))) :: S => if zix θ .byte a i = true ∧ 2 ≤ a then some (pc + n, L, S, θ, ua μ a i.toNat (w8 x)) else if zix θ .boolean a i = true ∧ 2 ≤ a ∧ (x = 0 ∨ x = 1) then some (pc + n, L, S, θ, ua μ a i.toNat x) else none
  | .lastore, .inr (.inl x) :: .inl i :: .inr (.inr (some (some a))) :: S => if zix θ .long a i = true ∧ 2 ≤ a then some (pc + n, L, S, θ, ua μ a i.toNat x) else none
  | .aastore, .inr (.inr (some (some b))) :: .inl i :: .inr (.inr (some (some a))) :: S => if zix θ (.object "GaleRoof$Scene") a i = true ∧ 2 ≤ a ∧ 2 ≤ b ∧ zob θ b 6 = true then some (pc + n, L, S, (θ.1, ur θ.2 a i.toNat (some b)), μ) else none
  | .arraylength, .inr (.inr (some (some a))) :: S => (match θ.1[a]? with
    | some (.inr (t, m)) => if t = .int then some (pc + n, L, vi m :: S, θ, μ) else none
    | _ => none)
  | .new k, S => (match znw (zcz z) k with
    | some c => some (pc + n, L, vr θ.1.length :: S, (θ.1 ++ [.inl c], zr0 θ.2 θ.1.length), zm0 μ θ.1.length)
    | none => none)
  | .newarray t, .inl m :: S => (match zty t with
    | some u => if 0 ≤ m ∧ m ≤ 4096 then some (pc + n, L, vr θ.1.length :: S, (θ.1 ++ [.inr (u, m.toNat)], zr0 θ.2 θ.1.length), zm0 μ θ.1.length) else none
    | none => none)
  | .anewarray k, .inl m :: S => if zcz z = 11 ∧ k = 21 ∧ 0 ≤ m ∧ m ≤ 4096 then some (pc + n, L, vr θ.1.length :: S, (θ.1 ++ [.inr (.object "GaleRoof$Scene", m.toNat)], zr0 θ.2 θ.1.length), zm0 μ θ.1.length) else none
  | .multianewarray k 2, .inl m :: .inl l :: S => if zcz z = 5 ∧ k = 9 ∧ 0 ≤ m ∧ m ≤ 4096 ∧ 0 ≤ l ∧ l ≤ 4096 then some (pc + n, L, vr θ.1.length :: S, (θ.1 ++ (.inr (.array .int, l.toNat) :: List.replicate l.toNat (.inr (.int, m.toNat))), fun b j => if θ.1.length ≤ b then (if b = θ.1.length ∧ j < l.toNat then some (b + 1 + j) else none) else θ.2 b j), zm0 μ θ.1.length) else none
  | .goto off, S => if 0 ≤ (pc : Int) + off then some (zjmp pc off, L, S, θ, μ) else none
  | .ifCond c off, .inl x :: S => if 0 ≤ (pc : Int) + off then (if zcond c x 0 = true then some (zjmp pc off, L, S, θ, μ) else some (pc + n, L, S, θ, μ)) else none
  | .if_icmp c off, .inl y :: .inl x :: S => if 0 ≤ (pc : Int) + off then (if zcond c x y = true then some (zjmp pc off, L, S, θ, μ) else some (pc + n, L, S, θ, μ)) else none
  | .tableswitch dflt lo hi offs, .inl x :: S => if x < lo ∨ hi < x then (if 0 ≤ (pc : Int) + dflt then some (zjmp pc dflt, L, S, θ, μ) else none) else (match offs[(x - lo).toNat]? with
    | some off => if 0 ≤ (pc : Int) + off then some (zjmp pc off, L, S, θ, μ) else none
    | none => none)
  | .lookupswitch dflt ps, .inl x :: S => if (ps.toList.zip (ps.toList.drop 1)).all (fun (a, next) => a.1 < next.1) = true ∧ 0 ≤ (pc : Int) + Op.lookupswitch.offset ps.toList dflt x then some (zjmp pc (Op.lookupswitch.offset ps.toList dflt x), L, S, θ, μ) else none
  | _, _ => none
/-- what ends a method: its answer -/
def zret (z : Nat) (i : Instr) (S : List zV) : Option (Option zV) := match i, S with
  | .ireturn, [.inl x] => if zrt z = some .int ∨ (zrt z = some .boolean ∧ (x = 0 ∨ x = 1)) then some (some (vi x)) else none
  | .lreturn, [.inr (.inl x)] => if zrt z = some .long then some (some (vl x)) else none
  | .return_, [] => if zrt z = none then some none else none
  | _, _ => none
/-- which instruction calls: the pool's entry and the form -/
def zinv (i : Instr) : Option (Nat × Nat) := match i with
  | .invokevirtual k => some (k, 0)
  | .invokestatic k => some (k, 1)
  | .invokespecial k => some (k, 2)
  | _ => none
/-- a call: of a method (its number, its arguments, what stays on the stack), or of one of the library's (the stack behind it, the memory) -/
def zcall (z k f : Nat) (S : List zV) (θ : zS) (μ : zM) : Option ((Nat × List zV × List zV) ⊕ (List zV × zM)) := match zmr (zcz z) k with
  | none => none
  | some (kd, y, n) =>
    if kd = 0 ∧ f = 0 then (match S.drop n with
      | .inr (.inr (some (some a))) :: S' => if zob θ a (zcz y) = true ∧ S'.length ≤ 4 ∧ (S.take n).all zok = true ∧ (zla (vr a :: (S.take n).reverse)).length ≤ zmx y then some (.inl (y, vr a :: (S.take n).reverse, S')) else none
      | _ => none)
    else if (kd = 2 ∨ kd = 3) ∧ f = 2 then (match S.drop n with
      | .inr (.inr (some (some a))) :: S' => if zob θ a (zcz y) = true ∧ S'.length ≤ 4 ∧ (S.take n).all zok = true ∧ (zla (vr a :: (S.take n).reverse)).length ≤ zmx y then some (.inl (y, vr a :: (S.take n).reverse, S')) else none
      | _ => none)
    else if (kd = 1 ∨ kd = 4) ∧ f = 1 then (if n ≤ S.length ∧ (S.drop n).length ≤ 4 ∧ (S.take n).all zok = true ∧ (zla (S.take n).reverse).length ≤ zmx y then some (.inl (y, (S.take n).reverse, S.drop n)) else none)
    else if kd = 5 ∧ f = 2 then (match S with
      | .inr (.inr (some (some _))) :: S' => if S'.length ≤ 4 then some (.inr (S', μ)) else none
      | _ => none)
    else if kd = 6 ∧ f = 1 then (match S with
      | .inl m :: .inl dp :: .inr (.inr (some (some b))) :: .inl sp :: .inr (.inr (some (some a))) :: S' =>
        if S'.length ≤ 4 ∧ 2 ≤ a ∧ 2 ≤ b ∧ 0 ≤ m ∧ 0 ≤ sp ∧ 0 ≤ dp ∧ (zix θ .int a (sp + m - 1) = true ∧ zix θ .int b (dp + m - 1) = true) ∧ zix θ .int a 0 = true ∧ zix θ .int b 0 = true then some (.inr (S', zcopy μ a sp.toNat b dp.toNat m.toNat)) else none
      | _ => none)
    else if kd = 7 ∧ f = 0 then (match S with
      | .inr (.inr (some (some 0))) :: S' => if S'.length ≤ 4 then some (.inr (vi zStr.length :: S', μ)) else none
      | _ => none)
    else if kd = 8 ∧ f = 0 then (match S with
      | .inl i :: .inr (.inr (some (some 0))) :: S' => if S'.length ≤ 4 ∧ 0 ≤ i ∧ i < zStr.length then some (.inr (vi (zStr.getD i.toNat 0) :: S', μ)) else none
      | _ => none)
    else none
def zrun : Nat → Nat → Nat → Nat → List zV → List zV → zS → zM → Option (Option zV × zS × zM)
  | 0, _, _, _, _, _, _, _ => none
  | f + 1, d, z, pc, L, S, θ, μ => match ft z pc with
    | none => none
    | some (i, n) => match zret z i S with
      | some v => some (v, θ, μ)
      | none => match zinv i with
        | none => (match zstep z i n pc L S θ μ with
          | none => none
          | some c => zrun f d z c.1 c.2.1 c.2.2.1 c.2.2.2.1 c.2.2.2.2)
        | some (k, fm) => if n = 3 then (match zcall z k fm S θ μ with
          | none => none
          | some (.inr (S', μ')) => zrun f d z (pc + 3) L S' θ μ'
          | some (.inl (y, av, S')) => (match d with
            | 0 => none
            | d' + 1 => (match zrun f d' y 0 (zen (zmx y) av) [] θ μ with
              | none => none
              | some r => zrun f (d' + 1) z (pc + 3) L (r.1.toList ++ S') r.2.1 r.2.2))) else none
def Ex (d z pc : Nat) (L S : List zV) (θ : zS) (μ : zM) (Q : Option zV → zS → zM → Prop) : Prop := ∃ f r, zrun f d z pc L S θ μ = some r ∧ Q r.1 r.2.1 r.2.2
