/-! THE SMALL MACHINE: the same bytecode over whole numbers, addresses 1, 2 .. and one memory; what it answers the machine answers (part 20) -/
abbrev MV : Type := Int ⊕ (Int ⊕ Int)
abbrev vI (x : Int) : MV := Sum.inl x
abbrev vL (x : Int) : MV := Sum.inr (Sum.inl x)
abbrev vR (x : Int) : MV := Sum.inr (Sum.inr x)
/-- what each address holds at each place -/
abbrev MM : Type := Int → Int → Int
/-- kind and length of each address; the next address; how many places were made -/
abbrev MG : Type := (Int → Int × Int) × Int × Int
abbrev ML : Type := List (Option MV)
abbrev MC : Type := Nat × ML × List MV × MM × MG
abbrev MR : Type := Option MV × MM × MG
def gk (G : MG) (a : Int) : Int := (G.1 a).1
def gl (G : MG) (a : Int) : Int := (G.1 a).2
def mset (μ : MM) (a k v : Int) : MM := fun b j => if b = a ∧ j = k then v else μ b j
def mzero (μ : MM) (a : Int) : MM := fun b j => if b = a then 0 else μ b j
/-- places of a from k on, n of them, get what f says -/
def mcopy (μ : MM) (a k n : Int) (f : Int → Int) : MM := fun b j => if b = a ∧ k ≤ j ∧ j < k + n then f (j - k) else μ b j
def gnew (G : MG) (kd ln sl : Int) : MG := (fun b => if b = G.2.1 then (kd, ln) else G.1 b, G.2.1 + 1, G.2.2 + sl)
def w32 (x : Int) : Int := (x + 2147483648) % 4294967296 - 2147483648
def w64 (x : Int) : Int := (x + 9223372036854775808) % 18446744073709551616 - 9223372036854775808
def mm_and (a b : Int) : Int := ((Int32.ofInt a) &&& (Int32.ofInt b)).toInt
def mm_or (a b : Int) : Int := ((Int32.ofInt a) ||| (Int32.ofInt b)).toInt
def mm_xor (a b : Int) : Int := ((Int32.ofInt a) ^^^ (Int32.ofInt b)).toInt
def mm_shl (a b : Int) : Int := ((Int32.ofInt a) <<< ((Int32.ofInt b) &&& 31)).toInt
def mm_shr (a b : Int) : Int := ((Int32.ofInt a) >>> ((Int32.ofInt b) &&& 31)).toInt
def mm_div (a b : Int) : Int := ((Int32.ofInt a) / (Int32.ofInt b)).toInt
def mm_rem (a b : Int) : Int := (Int32.ofInt a - Int32.ofInt a / Int32.ofInt b * Int32.ofInt b).toInt
def mm_ldiv (a b : Int) : Int := ((Int64.ofInt a) / (Int64.ofInt b)).toInt
def mm_cmp (a b : Int) : Int := if a < b then -1 else if a = b then 0 else 1
def mm_i2b (a : Int) : Int := ((Int32.ofInt a).toInt8.toInt32).toInt
def mm_i2c (a : Int) : Int := ((Int32.ofInt a).toUInt32.toUInt16.toUInt32.toInt32).toInt
/-- first writable address: below it the script and the tables of numbers -/
abbrev mm_lo : Int := 10
def mm_cnd (c : ClassFile.Cond) (a b : Int) : Bool := match c with
  | .eq => decide (a = b)
  | .ne => decide (¬ a = b)
  | .lt => decide (a < b)
  | .ge => decide (b ≤ a)
  | .gt => decide (b < a)
  | .le => decide (a ≤ b)
def mm_nl (ls : ML) (i : Nat) : Bool := match i with
  | 0 => true
  | j + 1 => match ls[j]? with
    | some (some (Sum.inr (Sum.inl _))) => false
    | _ => true
def mm_cat (v : MV) : Nat := match v with
  | Sum.inr (Sum.inl _) => 2
  | _ => 1
def mm_cats (st : List MV) : Nat := (st.map mm_cat).sum
def mm_ldI (i nx : Nat) (ls : ML) (st : List MV) (μ : MM) (G : MG) : Option MC := match ls[i]? with
  | some (some (Sum.inl x)) => some (nx, ls, Sum.inl x :: st, μ, G)
  | _ => none
def mm_ldL (i nx : Nat) (ls : ML) (st : List MV) (μ : MM) (G : MG) : Option MC := match ls[i]? with
  | some (some (Sum.inr (Sum.inl x))) => some (nx, ls, Sum.inr (Sum.inl x) :: st, μ, G)
  | _ => none
def mm_ldR (i nx : Nat) (ls : ML) (st : List MV) (μ : MM) (G : MG) : Option MC := match ls[i]? with
  | some (some (Sum.inr (Sum.inr x))) => some (nx, ls, Sum.inr (Sum.inr x) :: st, μ, G)
  | _ => none
def mm_stI (i nx : Nat) (ls : ML) (st : List MV) (μ : MM) (G : MG) : Option MC := match st with
  | Sum.inl x :: r => if mm_nl ls i = true ∧ i < ls.length then some (nx, ls.set i (some (Sum.inl x)), r, μ, G) else none
  | _ => none
def mm_stR (i nx : Nat) (ls : ML) (st : List MV) (μ : MM) (G : MG) : Option MC := match st with
  | Sum.inr (Sum.inr x) :: r => if mm_nl ls i = true ∧ i < ls.length then some (nx, ls.set i (some (Sum.inr (Sum.inr x))), r, μ, G) else none
  | _ => none
def mm_stL (i nx : Nat) (ls : ML) (st : List MV) (μ : MM) (G : MG) : Option MC := match st with
  | Sum.inr (Sum.inl x) :: r => if mm_nl ls i = true ∧ i + 1 < ls.length then some (nx, (ls.set i (some (Sum.inr (Sum.inl x)))).set (i + 1) none, r, μ, G) else none
  | _ => none
def mm_bin (f : Int → Int → Int) (nx : Nat) (ls : ML) (st : List MV) (μ : MM) (G : MG) : Option MC := match st with
  | Sum.inl b :: Sum.inl a :: r => some (nx, ls, Sum.inl (f a b) :: r, μ, G)
  | _ => none
def mm_dvd (f : Int → Int → Int) (nx : Nat) (ls : ML) (st : List MV) (μ : MM) (G : MG) : Option MC := match st with
  | Sum.inl b :: Sum.inl a :: r => if b = 0 then none else some (nx, ls, Sum.inl (f a b) :: r, μ, G)
  | _ => none
def mm_lbin (f : Int → Int → Int) (nx : Nat) (ls : ML) (st : List MV) (μ : MM) (G : MG) : Option MC := match st with
  | Sum.inr (Sum.inl b) :: Sum.inr (Sum.inl a) :: r => some (nx, ls, Sum.inr (Sum.inl (f a b)) :: r, μ, G)
  | _ => none
def mm_ldvd (nx : Nat) (ls : ML) (st : List MV) (μ : MM) (G : MG) : Option MC := match st with
  | Sum.inr (Sum.inl b) :: Sum.inr (Sum.inl a) :: r => if b = 0 then none else some (nx, ls, Sum.inr (Sum.inl (mm_ldiv a b)) :: r, μ, G)
  | _ => none
def mm_una (f : Int → Int) (nx : Nat) (ls : ML) (st : List MV) (μ : MM) (G : MG) : Option MC := match st with
  | Sum.inl a :: r => some (nx, ls, Sum.inl (f a) :: r, μ, G)
  | _ => none
/-- a switch: keys and where they lead -/
def mm_sw (x d : Int) : List Int → Int
  | k :: t :: r => if x = k then t else mm_sw x d r
  | _ => d
/-- a field's type: 0 int, 1 boolean, 2 a reference, 3 byte -/
def mm_fits (ty x : Int) : Bool := if ty = 1 then decide (x = 0 ∨ x = 1) else if ty = 3 then decide (-128 ≤ x ∧ x < 128) else true
def mm_getf (c k ty : Int) (nx : Nat) (ls : ML) (st : List MV) (μ : MM) (G : MG) : Option MC := match st with
  | Sum.inr (Sum.inr a) :: r => if gk G a = c then some (nx, ls, (if ty = 2 then Sum.inr (Sum.inr (μ a k)) else Sum.inl (μ a k)) :: r, μ, G) else none
  | _ => none
def mm_putI (c k ty : Int) (nx : Nat) (ls : ML) (st : List MV) (μ : MM) (G : MG) : Option MC := match st with
  | Sum.inl x :: Sum.inr (Sum.inr a) :: r => if ¬ ty = 2 ∧ gk G a = c ∧ mm_fits ty x = true then some (nx, ls, r, mset μ a k x, G) else none
  | Sum.inr (Sum.inr x) :: Sum.inr (Sum.inr a) :: r => if ty = 2 ∧ gk G a = c then some (nx, ls, r, mset μ a k x, G) else none
  | _ => none
/-- kinds of arrays: 100 int, 101 byte, 102 and 103 of references -/
def mm_ald (kd : Int) (nx : Nat) (ls : ML) (st : List MV) (μ : MM) (G : MG) : Option MC := match st with
  | Sum.inl i :: Sum.inr (Sum.inr a) :: r => if gk G a = kd ∧ 0 ≤ i ∧ i < gl G a then some (nx, ls, Sum.inl (μ a i) :: r, μ, G) else none
  | _ => none
def mm_aldR (kd : Int) (nx : Nat) (ls : ML) (st : List MV) (μ : MM) (G : MG) : Option MC := match st with
  | Sum.inl i :: Sum.inr (Sum.inr a) :: r => if gk G a = kd ∧ 0 ≤ i ∧ i < gl G a then some (nx, ls, Sum.inr (Sum.inr (μ a i)) :: r, μ, G) else none
  | _ => none
def mm_ast (kd : Int) (f : Int → Int) (nx : Nat) (ls : ML) (st : List MV) (μ : MM) (G : MG) : Option MC := match st with
  | Sum.inl x :: Sum.inl i :: Sum.inr (Sum.inr a) :: r => if gk G a = kd ∧ 0 ≤ i ∧ i < gl G a ∧ mm_lo ≤ a then some (nx, ls, r, mset μ a i (f x), G) else none
  | _ => none
/-- of references: of the class c alone -/
def mm_astR (kd c : Int) (nx : Nat) (ls : ML) (st : List MV) (μ : MM) (G : MG) : Option MC := match st with
  | Sum.inr (Sum.inr x) :: Sum.inl i :: Sum.inr (Sum.inr a) :: r => if gk G a = kd ∧ 0 ≤ i ∧ i < gl G a ∧ mm_lo ≤ a ∧ gk G x = c ∧ 0 < x then some (nx, ls, r, mset μ a i x, G) else none
  | _ => none
def mm_alen (nx : Nat) (ls : ML) (st : List MV) (μ : MM) (G : MG) : Option MC := match st with
  | Sum.inr (Sum.inr a) :: r => if 100 ≤ gk G a then some (nx, ls, Sum.inl (gl G a) :: r, μ, G) else none
  | _ => none
def mm_newa (kd : Int) (nx : Nat) (ls : ML) (st : List MV) (μ : MM) (G : MG) : Option MC := match st with
  | Sum.inl n :: r => if 0 ≤ n ∧ n ≤ 100000 then some (nx, ls, Sum.inr (Sum.inr G.2.1) :: r, mzero μ G.2.1, gnew G kd n n) else none
  | _ => none
/-- System.arraycopy of ints, two rows that aren't one -/
def mm_acpy (nx : Nat) (ls : ML) (st : List MV) (μ : MM) (G : MG) : Option MC := match st with
  | Sum.inl n :: Sum.inl j :: Sum.inr (Sum.inr b) :: Sum.inl i :: Sum.inr (Sum.inr a) :: r => if gk G a = 100 ∧ gk G b = 100 ∧ ¬ a = b ∧ mm_lo ≤ b ∧ 0 ≤ n ∧ 0 ≤ i ∧ 0 ≤ j ∧ i + n ≤ gl G a ∧ j + n ≤ gl G b ∧ mm_cats r ≤ 8 then some (nx, ls, r, mcopy μ b j n (fun q => μ a (i + q)), G) else none
  | _ => none
/-- Math.max, Math.min -/
def mm_bin2 (f : Int → Int → Int) (nx : Nat) (ls : ML) (st : List MV) (μ : MM) (G : MG) : Option MC := match st with
  | Sum.inl b :: Sum.inl a :: r => if mm_cats r ≤ 8 then some (nx, ls, Sum.inl (f a b) :: r, μ, G) else none
  | _ => none
def mm_lmin (nx : Nat) (ls : ML) (st : List MV) (μ : MM) (G : MG) : Option MC := match st with
  | Sum.inr (Sum.inl b) :: Sum.inr (Sum.inl a) :: r => if mm_cats r ≤ 8 then some (nx, ls, Sum.inr (Sum.inl (min a b)) :: r, μ, G) else none
  | _ => none
/-- a step that isn't a call and no return: the instruction, its pc, the next one's, what its links say -/
def mm_stp (ins : Instr) (pc nx : Nat) (xs : List Int) (ls : ML) (st : List MV) (μ : MM) (G : MG) : Option MC := match ins with
  | .iconst n => some (nx, ls, Sum.inl n :: st, μ, G)
  | .bipush n => some (nx, ls, Sum.inl n :: st, μ, G)
  | .sipush n => some (nx, ls, Sum.inl n :: st, μ, G)
  | .ldc _ => some (nx, ls, Sum.inl (xs.getD 0 0) :: st, μ, G)
  | .ldc_w _ => some (nx, ls, Sum.inl (xs.getD 0 0) :: st, μ, G)
  | .ldc2_w _ => some (nx, ls, Sum.inr (Sum.inl (xs.getD 0 0)) :: st, μ, G)
  | .lconst n => some (nx, ls, Sum.inr (Sum.inl ((n : Nat) : Int)) :: st, μ, G)
  | .aconst_null => some (nx, ls, Sum.inr (Sum.inr 0) :: st, μ, G)
  | .iload i => mm_ldI i nx ls st μ G
  | .iload_n i => mm_ldI i nx ls st μ G
  | .lload i => mm_ldL i nx ls st μ G
  | .lload_n i => mm_ldL i nx ls st μ G
  | .aload i => mm_ldR i nx ls st μ G
  | .aload_n i => mm_ldR i nx ls st μ G
  | .istore i => mm_stI i nx ls st μ G
  | .istore_n i => mm_stI i nx ls st μ G
  | .lstore i => mm_stL i nx ls st μ G
  | .lstore_n i => mm_stL i nx ls st μ G
  | .astore i => mm_stR i nx ls st μ G
  | .astore_n i => mm_stR i nx ls st μ G
  | .iinc i n => match ls[i]? with
    | some (some (Sum.inl x)) => if mm_nl ls i = true ∧ i < ls.length then some (nx, ls.set i (some (Sum.inl (w32 (x + n)))), st, μ, G) else none
    | _ => none
  | .iadd => mm_bin (fun a b => w32 (a + b)) nx ls st μ G
  | .isub => mm_bin (fun a b => w32 (a - b)) nx ls st μ G
  | .imul => mm_bin (fun a b => w32 (a * b)) nx ls st μ G
  | .iand => mm_bin mm_and nx ls st μ G
  | .ior => mm_bin mm_or nx ls st μ G
  | .ixor => mm_bin mm_xor nx ls st μ G
  | .ishl => mm_bin mm_shl nx ls st μ G
  | .ishr => mm_bin mm_shr nx ls st μ G
  | .idiv => mm_dvd mm_div nx ls st μ G
  | .irem => mm_dvd mm_rem nx ls st μ G
  | .ineg => mm_una (fun a => w32 (-a)) nx ls st μ G
  | .i2b => mm_una mm_i2b nx ls st μ G
  | .i2c => mm_una mm_i2c nx ls st μ G
  | .ladd => mm_lbin (fun a b => w64 (a + b)) nx ls st μ G
  | .lsub => mm_lbin (fun a b => w64 (a - b)) nx ls st μ G
  | .lmul => mm_lbin (fun a b => w64 (a * b)) nx ls st μ G
  | .ldiv => mm_ldvd nx ls st μ G
  | .i2l => match st with
    | Sum.inl a :: r => some (nx, ls, Sum.inr (Sum.inl a) :: r, μ, G)
    | _ => none
  | .l2i => match st with
    | Sum.inr (Sum.inl a) :: r => some (nx, ls, Sum.inl (w32 a) :: r, μ, G)
    | _ => none
  | .lcmp => match st with
    | Sum.inr (Sum.inl b) :: Sum.inr (Sum.inl a) :: r => some (nx, ls, Sum.inl (mm_cmp a b) :: r, μ, G)
    | _ => none
  | .dup => match st with
    | Sum.inl a :: r => some (nx, ls, Sum.inl a :: Sum.inl a :: r, μ, G)
    | Sum.inr (Sum.inr a) :: r => some (nx, ls, Sum.inr (Sum.inr a) :: Sum.inr (Sum.inr a) :: r, μ, G)
    | _ => none
  | .pop => match st with
    | Sum.inl _ :: r => some (nx, ls, r, μ, G)
    | Sum.inr (Sum.inr _) :: r => some (nx, ls, r, μ, G)
    | _ => none
  | .dup_x1 => match st with
    | Sum.inl a :: Sum.inr (Sum.inr b) :: r => some (nx, ls, Sum.inl a :: Sum.inr (Sum.inr b) :: Sum.inl a :: r, μ, G)
    | _ => none
  | .dup2 => match st with
    | Sum.inl a :: Sum.inr (Sum.inr b) :: r => some (nx, ls, Sum.inl a :: Sum.inr (Sum.inr b) :: Sum.inl a :: Sum.inr (Sum.inr b) :: r, μ, G)
    | _ => none
  | .goto off => some (((pc : Int) + off).toNat, ls, st, μ, G)
  | .ifCond c off => match st with
    | Sum.inl a :: r => if mm_cnd c a 0 = true then some (((pc : Int) + off).toNat, ls, r, μ, G) else some (nx, ls, r, μ, G)
    | _ => none
  | .if_icmp c off => match st with
    | Sum.inl b :: Sum.inl a :: r => if mm_cnd c a b = true then some (((pc : Int) + off).toNat, ls, r, μ, G) else some (nx, ls, r, μ, G)
    | _ => none
  | .ifnull off => match st with
    | Sum.inr (Sum.inr a) :: r => if a = 7 then none else some ((if a = 0 then ((pc : Int) + off).toNat else nx), ls, r, μ, G)
    | _ => none
  | .ifnonnull off => match st with
    | Sum.inr (Sum.inr a) :: r => if a = 7 then none else some ((if a = 0 then nx else ((pc : Int) + off).toNat), ls, r, μ, G)
    | _ => none
  | .lookupswitch _ _ => match st with
    | Sum.inl x :: r => some ((mm_sw x (xs.getD 0 0) (xs.drop 1)).toNat, ls, r, μ, G)
    | _ => none
  | .tableswitch _ _ _ _ => match st with
    | Sum.inl x :: r => some ((mm_sw x (xs.getD 0 0) (xs.drop 1)).toNat, ls, r, μ, G)
    | _ => none
  | .getfield _ => mm_getf (xs.getD 0 0) (xs.getD 1 0) (xs.getD 2 0) nx ls st μ G
  | .putfield _ => mm_putI (xs.getD 0 0) (xs.getD 1 0) (xs.getD 2 0) nx ls st μ G
  | .getstatic _ => some (nx, ls, (if xs.getD 0 0 = 2 then Sum.inr (Sum.inr (xs.getD 1 0)) else Sum.inl (xs.getD 1 0)) :: st, μ, G)
  | .iaload => mm_ald 100 nx ls st μ G
  | .baload => mm_ald 101 nx ls st μ G
  | .aaload => mm_aldR (xs.getD 0 0) nx ls st μ G
  | .iastore => mm_ast 100 (fun x => x) nx ls st μ G
  | .bastore => mm_ast 101 mm_i2b nx ls st μ G
  | .aastore => mm_astR (xs.getD 0 0) (xs.getD 1 0) nx ls st μ G
  | .arraylength => mm_alen nx ls st μ G
  | .new _ => some (nx, ls, Sum.inr (Sum.inr G.2.1) :: st, mzero μ G.2.1, gnew G (xs.getD 0 0) 0 (xs.getD 1 0))
  | .newarray _ => mm_newa (xs.getD 0 0) nx ls st μ G
  | .anewarray _ => mm_newa (xs.getD 0 0) nx ls st μ G
  | .invokestatic _ => match xs with
    | [] => mm_acpy nx ls st μ G
    | [_] => mm_bin2 max nx ls st μ G
    | [_, _] => mm_bin2 min nx ls st μ G
    | _ => mm_lmin nx ls st μ G
  | .invokespecial _ => match st with
    | Sum.inr (Sum.inr a) :: r => if 10 ≤ a ∧ mm_cats r ≤ 8 then some (nx, ls, r, μ, G) else none
    | _ => none
  | _ => none
def mm_lay : List MV → ML
  | [] => []
  | Sum.inr (Sum.inl x) :: r => some (Sum.inr (Sum.inl x)) :: none :: mm_lay r
  | v :: r => some v :: mm_lay r
def mm_pad (n : Nat) (as : List MV) : ML := mm_lay as ++ List.replicate (n - (mm_lay as).length) none
/-- a call's data: 1 or 0: on an object; the method; how many arguments; the object's class -/
def mm_cal (xs : List Int) (st : List MV) (G : MG) : Option (Nat × List MV × List MV) :=
  if (st.length : Int) < xs.getD 2 0 then none else
  if xs.getD 0 0 = 0 then
    (if mm_cats (st.drop (xs.getD 2 0).toNat) ≤ 8 then some ((xs.getD 1 0).toNat, (st.take (xs.getD 2 0).toNat).reverse, st.drop (xs.getD 2 0).toNat) else none)
  else match st.drop (xs.getD 2 0).toNat with
    | Sum.inr (Sum.inr a) :: r => if gk G a = xs.getD 3 0 ∧ 0 < a ∧ mm_cats r ≤ 8 then some ((xs.getD 1 0).toNat, Sum.inr (Sum.inr a) :: (st.take (xs.getD 2 0).toNat).reverse, r) else none
    | _ => none
def mm_ret (ins : Instr) (xs : List Int) (st : List MV) : Option (Option MV) := match ins, st with
  | .ireturn, [Sum.inl x] => if xs.getD 0 0 = 1 ∧ ¬ (x = 0 ∨ x = 1) then none else if xs.getD 0 0 = 5 ∧ ¬ (0 ≤ x ∧ x < 65536) then none else some (some (Sum.inl x))
  | .lreturn, [Sum.inr (Sum.inl x)] => some (some (Sum.inr (Sum.inl x)))
  | .areturn, [Sum.inr (Sum.inr x)] => some (some (Sum.inr (Sum.inr x)))
  | .return_, [] => some none
  | _, _ => none
/-- what an entry of the program is: 0 a step, 1 a call, 2 a return -/
abbrev ME : Type := Nat × Instr × Nat × List Int
