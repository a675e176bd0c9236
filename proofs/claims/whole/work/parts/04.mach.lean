/-! THE ABSTRACT MACHINE. Memory: ints, longs, kind, length, refs by label and place; how many cells, how many slots. -/
abbrev ab_M : Type := (Nat → Nat → Int32) × (Nat → Nat → Int64) × (Nat → Nat) × (Nat → Nat) × (Nat → Nat → Option Nat) × Nat × Nat
def mI (M : ab_M) : Nat → Nat → Int32 := M.1
def mJ (M : ab_M) : Nat → Nat → Int64 := M.2.1
def mK (M : ab_M) : Nat → Nat := M.2.2.1
def mN (M : ab_M) : Nat → Nat := M.2.2.2.1
def mR (M : ab_M) : Nat → Nat → Option Nat := M.2.2.2.2.1
def mZ (M : ab_M) : Nat := M.2.2.2.2.2.1
def mS (M : ab_M) : Nat := M.2.2.2.2.2.2
def u1 {α : Type} (f : Nat → α) (a : Nat) (v : α) : Nat → α := fun b => if b = a then v else f b
def u2 {α : Type} (f : Nat → Nat → α) (a k : Nat) (v : α) : Nat → Nat → α := fun b j => if b = a ∧ j = k then v else f b j
def wI (M : ab_M) (a k : Nat) (v : Int32) : ab_M := (u2 (mI M) a k v, M.2)
def wJ (M : ab_M) (a k : Nat) (v : Int64) : ab_M := (mI M, u2 (mJ M) a k v, M.2.2)
def wR (M : ab_M) (a k : Nat) (v : Option Nat) : ab_M := (mI M, mJ M, mK M, mN M, u2 (mR M) a k v, M.2.2.2.2.2)
def mNew (M : ab_M) (kind len sl : Nat) : ab_M := (u1 (mI M) (mZ M) (fun _ => 0), u1 (mJ M) (mZ M) (fun _ => 0), u1 (mK M) (mZ M) kind, u1 (mN M) (mZ M) len, u1 (mR M) (mZ M) (fun _ => none), mZ M + 1, mS M + sl)
def cpF (f g : Nat → Int32) (sp dp n : Nat) : Nat → Int32 := fun k => if dp ≤ k ∧ k < dp + n then f (sp + (k - dp)) else g k
def mCpy (M : ab_M) (a sp b dp n : Nat) : ab_M := (u1 (mI M) b (cpF (mI M a) (mI M b) sp dp n), M.2)
abbrev ab_L : Type := List (Option Value)
abbrev ab_R : Type := Option ((Nat × ab_L × List Value × ab_M) ⊕ ((Option Value × ab_M) ⊕ (Nat × List Value × List Value)))
/-! locals -/
def lg : ab_L → Nat → Option Value
  | [], _ => none
  | x :: _, 0 => x
  | _ :: r, k + 1 => lg r k
def lcl (o : Option Value) : Option Value := match o with
  | some (.long _) => none
  | some (.double _) => none
  | o => o
def ls1 : ab_L → Nat → Value → Option ab_L
  | [], _, _ => none
  | _ :: r, 0, v => some (some v :: r)
  | a :: r, 1, v => match r with
    | [] => none
    | _ :: r' => some (lcl a :: some v :: r')
  | a :: r, k + 2, v => match ls1 r (k + 1) v with
    | none => none
    | some r' => some (a :: r')
def lsn : ab_L → Nat → Option ab_L
  | [], _ => none
  | _ :: r, 0 => some (none :: r)
  | a :: r, k + 1 => match lsn r k with
    | none => none
    | some r' => some (a :: r')
def ls2 (ls : ab_L) (i : Nat) (v : Value) : Option ab_L := match ls1 ls i v with
  | none => none
  | some l => lsn l (i + 1)
/-! tables -/
def ab_me (mi : Nat) : ab_E := ab_mL.getD mi ab_m0
def ab_o (mi : Nat) : Nat := (ab_me mi).2.1.1
def ab_rk (mi : Nat) : Nat := (ab_me mi).2.1.2.1
def ab_ini (mi : Nat) : Bool := (ab_me mi).2.1.2.2.2
def ab_ret (mi : Nat) : Option FieldType := (ab_me mi).1.2.2.2
def ab_ml (mi : Nat) : Nat := (ab_me mi).1.2.2.1
def lkC (mi pc : Nat) : Option Instr := match (ab_me mi).2.2.find? (fun r => r.1 == pc) with
  | some r => some r.2
  | none => none
def lkF (o i : Nat) : Option (Nat × Nat × Nat × Bool) := match ab_fL.find? (fun f => f.1 == o && f.2.1 == i) with
  | some f => some (f.2.2.1, f.2.2.2.1, f.2.2.2.2.1, f.2.2.2.2.2.1)
  | none => none
def lkK (o i : Nat) : Option Int32 := match ab_kL.find? (fun f => f.1 == o && f.2.1 == i) with
  | some f => some f.2.2.1
  | none => none
def lkJ (o i : Nat) : Option Int64 := match ab_jL.find? (fun f => f.1 == o && f.2.1 == i) with
  | some f => some f.2.2.1
  | none => none
def lkN (o i : Nat) : Option Nat := match ab_nL.find? (fun f => f.1 == o && f.2.1 == i) with
  | some f => some f.2.2.1
  | none => none
def lkY (o i : Nat) : Option (Nat × Nat × Nat) := match ab_yL.find? (fun f => f.1 == o && f.2.1 == i) with
  | some f => some (f.2.2.1, f.2.2.2.1, f.2.2.2.2.1)
  | none => none
/-! one instruction -/
def qI (st : List Value) (k : Int32 → List Value → ab_R) : ab_R := match st with
  | .int x :: r => k x r
  | _ => none
def qII (st : List Value) (k : Int32 → Int32 → List Value → ab_R) : ab_R := match st with
  | .int y :: .int x :: r => k x y r
  | _ => none
def qJJ (st : List Value) (k : Int64 → Int64 → List Value → ab_R) : ab_R := match st with
  | .long y :: .long x :: r => k x y r
  | _ => none
def qN (pc : Nat) (ls : ab_L) (st : List Value) (M : ab_M) : ab_R := some (.inl (pc, ls, st, M))
def qT (pc : Nat) (off : Int) (k : Nat → ab_R) : ab_R := match (pc : Int) + off with
  | .ofNat t => k t
  | .negSucc _ => none
def qL (l : Option ab_L) (k : ab_L → ab_R) : ab_R := match l with
  | some l => k l
  | none => none
def lvI (ls : ab_L) (i : Nat) (k : Int32 → ab_R) : ab_R := match lg ls i with
  | some (.int x) => k x
  | _ => none
def lvJ (ls : ab_L) (i : Nat) (k : Int64 → ab_R) : ab_R := match lg ls i with
  | some (.long x) => k x
  | _ => none
def lvA (ls : ab_L) (i : Nat) (k : Nat → ab_R) : ab_R := match lg ls i with
  | some (.ref x) => k x
  | _ => none
def okR : Nat → List Value → Bool
  | _, [] => true
  | n + 2, .long _ :: r => okR n r
  | _, .long _ :: _ => false
  | _, .double _ :: _ => false
  | n + 1, _ :: r => okR n r
  | 0, _ :: _ => false
def popN : Nat → List Value → List Value → Option (List Value × List Value)
  | 0, st, acc => some (acc, st)
  | _ + 1, [], _ => none
  | n + 1, v :: r, acc => popN n r (v :: acc)
abbrev inX (i : Int32) (n : Nat) : Prop := ¬ (i < 0 ∨ n ≤ i.toNatClampNeg)
def fvl (M : ab_M) (a k t : Nat) : Value := match t with
  | 2 => va_rf (mR M a k)
  | _ => .int (mI M a k)
def bGet (M : ab_M) (mi i a : Nat) (k : Value → ab_R) : ab_R := match lkF (ab_o mi) i with
  | some (ci, f, t, _) => if mK M a = ci then k (fvl M a f t) else none
  | none => none
def bPut (M : ab_M) (mi i a : Nat) (v : Value) (k : ab_M → ab_R) : ab_R := match lkF (ab_o mi) i with
  | some (ci, f, t, fin) => if mK M a = ci ∧ (fin = false ∨ (ab_ini mi = true ∧ ab_o mi = ci)) then (match t, v with
      | 0, .int x => k (wI M a f x)
      | 1, .int x => if x = 0 ∨ x = 1 then k (wI M a f x) else none
      | 2, .ref b => k (wR M a f (some b))
      | _, _ => none) else none
  | none => none
def bCall (y : Nat) (args rest : List Value) : ab_R := if okR 8 rest = true then some (.inr (.inr (y, args, rest))) else none
def bV (M : ab_M) (mi i : Nat) (st : List Value) : ab_R := match lkY (ab_o mi) i with
  | some (0, y, n) => (match popN n st [] with
    | some (as, .ref a :: r) => if mK M a = ab_o y then bCall y (.ref a :: as) r else none
    | _ => none)
  | _ => none
def bSp (pc : Nat) (ls : ab_L) (M : ab_M) (mi i : Nat) (st : List Value) : ab_R := match lkY (ab_o mi) i with
  | some (6, _, _) => (match st with
    | .ref _ :: r => if okR 8 r = true then qN (pc + 3) ls r M else none
    | _ => none)
  | some (2, y, n) => (match popN n st [] with
    | some (as, .ref a :: r) => bCall y (.ref a :: as) r
    | _ => none)
  | some (5, y, n) => (match popN n st [] with
    | some (as, .ref a :: r) => bCall y (.ref a :: as) r
    | _ => none)
  | _ => none
def bSt (pc : Nat) (ls : ab_L) (M : ab_M) (mi i : Nat) (st : List Value) : ab_R := match lkY (ab_o mi) i with
  | some (1, y, n) => (match popN n st [] with
    | some (as, r) => bCall y as r
    | _ => none)
  | some (4, y, n) => (match popN n st [] with
    | some (as, r) => bCall y as r
    | _ => none)
  | some (7, _, _) => (match st with
    | .int n :: .int dp :: .ref b :: .int sp :: .ref a :: r => if mK M a = 20 ∧ mK M b = 20 ∧ a ≠ b ∧ ¬ sp < 0 ∧ ¬ dp < 0 ∧ ¬ n < 0 ∧ sp.toNatClampNeg + n.toNatClampNeg ≤ mN M a ∧ dp.toNatClampNeg + n.toNatClampNeg ≤ mN M b ∧ okR 8 r = true then qN (pc + 3) ls r (mCpy M a sp.toNatClampNeg b dp.toNatClampNeg n.toNatClampNeg) else none
    | _ => none)
  | some (8, _, _) => (match st with
    | .int x :: r => if okR 8 r = true then qN (pc + 3) ls (.int (if 0 ≤ x then x else 0 - x) :: r) M else none
    | _ => none)
  | some (9, _, _) => (match st with
    | .int y :: .int x :: r => if okR 8 r = true then qN (pc + 3) ls (.int (if y < x then y else x) :: r) M else none
    | _ => none)
  | _ => none
def akd (t : ArrayType) : Option Nat := match t with
  | .int => some 20
  | .long => some 21
  | .boolean => some 22
  | _ => none
def bIld (M : ab_M) (kd pc : Nat) (ls : ab_L) (st : List Value) : ab_R := match st with
  | .int i :: .ref a :: r => if mK M a = kd ∧ inX i (mN M a) then qN (pc + 1) ls (.int (mI M a i.toNatClampNeg) :: r) M else none
  | _ => none
def stp (mi pc : Nat) (ins : Instr) (ls : ab_L) (st : List Value) (M : ab_M) : ab_R := match ins with
  | .iconst n => qN (pc + 1) ls (.int (Int32.ofInt n) :: st) M
  | .bipush n => qN (pc + 2) ls (.int (Int8.ofInt n).toInt32 :: st) M
  | .sipush n => qN (pc + 3) ls (.int (Int16.ofInt n).toInt32 :: st) M
  | .lconst n => qN (pc + 1) ls (.long (Int64.ofNat (n : Nat)) :: st) M
  | .ldc i => (match lkK (ab_o mi) i with
    | some v => qN (pc + 2) ls (.int v :: st) M
    | none => none)
  | .ldc_w i => (match lkK (ab_o mi) i with
    | some v => qN (pc + 3) ls (.int v :: st) M
    | none => none)
  | .ldc2_w i => (match lkJ (ab_o mi) i with
    | some v => qN (pc + 3) ls (.long v :: st) M
    | none => none)
  | .iload_n k => lvI ls (k : Nat) fun x => qN (pc + 1) ls (.int x :: st) M
  | .iload i => lvI ls i fun x => qN (pc + 2) ls (.int x :: st) M
  | .lload_n k => lvJ ls (k : Nat) fun x => qN (pc + 1) ls (.long x :: st) M
  | .lload i => lvJ ls i fun x => qN (pc + 2) ls (.long x :: st) M
  | .aload_n k => lvA ls (k : Nat) fun x => qN (pc + 1) ls (.ref x :: st) M
  | .aload i => lvA ls i fun x => qN (pc + 2) ls (.ref x :: st) M
  | .istore_n k => qI st fun x r => qL (ls1 ls (k : Nat) (.int x)) fun l => qN (pc + 1) l r M
  | .istore i => qI st fun x r => qL (ls1 ls i (.int x)) fun l => qN (pc + 2) l r M
  | .lstore_n k => (match st with
    | .long x :: r => qL (ls2 ls (k : Nat) (.long x)) fun l => qN (pc + 1) l r M
    | _ => none)
  | .lstore i => (match st with
    | .long x :: r => qL (ls2 ls i (.long x)) fun l => qN (pc + 2) l r M
    | _ => none)
  | .astore_n k => (match st with
    | .ref x :: r => qL (ls1 ls (k : Nat) (.ref x)) fun l => qN (pc + 1) l r M
    | _ => none)
  | .astore i => (match st with
    | .ref x :: r => qL (ls1 ls i (.ref x)) fun l => qN (pc + 2) l r M
    | _ => none)
  | .iinc i n => lvI ls i fun x => qL (ls1 ls i (.int (x + Int32.ofInt n))) fun l => qN (pc + 3) l st M
  | .iadd => qII st fun x y r => qN (pc + 1) ls (.int (x + y) :: r) M
  | .isub => qII st fun x y r => qN (pc + 1) ls (.int (x - y) :: r) M
  | .imul => qII st fun x y r => qN (pc + 1) ls (.int (x * y) :: r) M
  | .iand => qII st fun x y r => qN (pc + 1) ls (.int (x &&& y) :: r) M
  | .ior => qII st fun x y r => qN (pc + 1) ls (.int (x ||| y) :: r) M
  | .ixor => qII st fun x y r => qN (pc + 1) ls (.int (x ^^^ y) :: r) M
  | .idiv => qII st fun x y r => if y = 0 then none else qN (pc + 1) ls (.int (x / y) :: r) M
  | .irem => qII st fun x y r => if y = 0 then none else qN (pc + 1) ls (.int (x - x / y * y) :: r) M
  | .ishl => qII st fun x y r => qN (pc + 1) ls (.int (x <<< (y &&& 31)) :: r) M
  | .ishr => qII st fun x y r => qN (pc + 1) ls (.int (x >>> (y &&& 31)) :: r) M
  | .iushr => qII st fun x y r => qN (pc + 1) ls (.int (x.toUInt32 >>> (y.toUInt32 &&& Int32.toUInt32 31)).toInt32 :: r) M
  | .ineg => qI st fun x r => qN (pc + 1) ls (.int (-x) :: r) M
  | .ladd => qJJ st fun x y r => qN (pc + 1) ls (.long (x + y) :: r) M
  | .lsub => qJJ st fun x y r => qN (pc + 1) ls (.long (x - y) :: r) M
  | .lmul => qJJ st fun x y r => qN (pc + 1) ls (.long (x * y) :: r) M
  | .ldiv => qJJ st fun x y r => if y = 0 then none else qN (pc + 1) ls (.long (x / y) :: r) M
  | .lrem => qJJ st fun x y r => if y = 0 then none else qN (pc + 1) ls (.long (x - x / y * y) :: r) M
  | .lcmp => qJJ st fun x y r => qN (pc + 1) ls (.int (lg_cmp x y) :: r) M
  | .i2l => qI st fun x r => qN (pc + 1) ls (.long x.toInt64 :: r) M
  | .l2i => (match st with
    | .long x :: r => qN (pc + 1) ls (.int x.toInt32 :: r) M
    | _ => none)
  | .dup => (match st with
    | v :: r => if v.category = 1 then qN (pc + 1) ls (v :: v :: r) M else none
    | [] => none)
  | .pop => (match st with
    | v :: r => if v.category = 1 then qN (pc + 1) ls r M else none
    | [] => none)
  | .dup2 => (match st with
    | v :: w :: r => if v.category = 1 ∧ w.category = 1 then qN (pc + 1) ls (v :: w :: v :: w :: r) M else none
    | _ => none)
  | .goto off => qT pc off fun t => qN t ls st M
  | .if_icmp c off => qII st fun x y r => qT pc off fun t => (match c with
    | .eq => qN (if x = y then t else pc + 3) ls r M
    | .ne => qN (if x = y then pc + 3 else t) ls r M
    | .lt => qN (if x < y then t else pc + 3) ls r M
    | .ge => qN (if y ≤ x then t else pc + 3) ls r M
    | .gt => qN (if y < x then t else pc + 3) ls r M
    | .le => qN (if x ≤ y then t else pc + 3) ls r M)
  | .ifCond c off => qI st fun x r => qT pc off fun t => (match c with
    | .eq => qN (if x = 0 then t else pc + 3) ls r M
    | .ne => qN (if x = 0 then pc + 3 else t) ls r M
    | .lt => qN (if x < 0 then t else pc + 3) ls r M
    | .ge => qN (if 0 ≤ x then t else pc + 3) ls r M
    | .gt => qN (if 0 < x then t else pc + 3) ls r M
    | .le => qN (if x ≤ 0 then t else pc + 3) ls r M)
  | .tableswitch d lo hi offs => qI st fun x r => if x.toInt < lo ∨ hi < x.toInt then qT pc d fun t => qN t ls r M else (match offs[(x.toInt - lo).toNat]? with
    | some off => qT pc off fun t => qN t ls r M
    | none => none)
  | .getfield i => (match st with
    | .ref a :: r => bGet M mi i a fun v => qN (pc + 3) ls (v :: r) M
    | _ => none)
  | .putfield i => (match st with
    | v :: .ref a :: r => bPut M mi i a v fun M' => qN (pc + 3) ls r M'
    | _ => none)
  | .iaload => bIld M 20 pc ls st
  | .baload => bIld M 22 pc ls st
  | .laload => (match st with
    | .int i :: .ref a :: r => if mK M a = 21 ∧ inX i (mN M a) then qN (pc + 1) ls (.long (mJ M a i.toNatClampNeg) :: r) M else none
    | _ => none)
  | .aaload => (match st with
    | .int i :: .ref a :: r => if mK M a = 23 ∧ inX i (mN M a) then qN (pc + 1) ls (va_rf (mR M a i.toNatClampNeg) :: r) M else none
    | _ => none)
  | .iastore => (match st with
    | .int x :: .int i :: .ref a :: r => if mK M a = 20 ∧ inX i (mN M a) then qN (pc + 1) ls r (wI M a i.toNatClampNeg x) else none
    | _ => none)
  | .bastore => (match st with
    | .int x :: .int i :: .ref a :: r => if mK M a = 22 ∧ inX i (mN M a) ∧ (x = 0 ∨ x = 1) then qN (pc + 1) ls r (wI M a i.toNatClampNeg x) else none
    | _ => none)
  | .lastore => (match st with
    | .long x :: .int i :: .ref a :: r => if mK M a = 21 ∧ inX i (mN M a) then qN (pc + 1) ls r (wJ M a i.toNatClampNeg x) else none
    | _ => none)
  | .aastore => (match st with
    | .ref b :: .int i :: .ref a :: r => if mK M a = 23 ∧ inX i (mN M a) ∧ mK M b = 7 then qN (pc + 1) ls r (wR M a i.toNatClampNeg (some b)) else none
    | _ => none)
  | .new i => (match lkN (ab_o mi) i with
    | some ci => qN (pc + 3) ls (.ref (mZ M) :: st) (mNew M ci 0 (ab_nF ci))
    | none => none)
  | .newarray t => (match akd t with
    | some kd => qI st fun n r => if ¬ n < 0 ∧ n.toNatClampNeg ≤ 1000 then qN (pc + 2) ls (.ref (mZ M) :: r) (mNew M kd n.toNatClampNeg n.toNatClampNeg) else none
    | none => none)
  | .anewarray i => (match lkN (ab_o mi) i with
    | some 7 => qI st fun n r => if ¬ n < 0 ∧ n.toNatClampNeg ≤ 1000 then qN (pc + 3) ls (.ref (mZ M) :: r) (mNew M 23 n.toNatClampNeg n.toNatClampNeg) else none
    | _ => none)
  | .invokevirtual i => bV M mi i st
  | .invokespecial i => bSp pc ls M mi i st
  | .invokestatic i => bSt pc ls M mi i st
  | .ireturn => (match st with
    | [.int x] => (match ab_ret mi with
      | some .int => some (.inr (.inl (some (.int x), M)))
      | some .boolean => if x = 0 ∨ x = 1 then some (.inr (.inl (some (.int x), M))) else none
      | _ => none)
    | _ => none)
  | .lreturn => (match st with
    | [.long x] => (match ab_ret mi with
      | some .long => some (.inr (.inl (some (.long x), M)))
      | _ => none)
    | _ => none)
  | .areturn => (match st with
    | [.ref x] => (match ab_ret mi with
      | some (.object _) => some (.inr (.inl (some (.ref x), M)))
      | _ => none)
    | _ => none)
  | .return_ => (match st with
    | [] => (match ab_ret mi with
      | none => some (.inr (.inl (none, M)))
      | _ => none)
    | _ => none)
  | _ => none
/-! runs -/
def pushR (r : Option Value) (st : List Value) : List Value := match r with
  | some v => v :: st
  | none => st
def padA (ml : Nat) (as : List Value) : ab_L := (as.flatMap fun v => if v.category = 2 then [some v, none] else [some v]) ++ List.replicate (ml - (as.flatMap fun v => if v.category = 2 then [some v, none] else [some v]).length) none
def xs (call : Nat → List Value → ab_M → Option (Option Value × ab_M)) (mi : Nat) : Nat → Nat → ab_L → List Value → ab_M → Option (Option Value × ab_M)
  | 0, _, _, _, _ => none
  | f + 1, pc, ls, st, M => match lkC mi pc with
    | none => none
    | some ins => match stp mi pc ins ls st M with
      | none => none
      | some (.inl (pc', ls', st', M')) => xs call mi f pc' ls' st' M'
      | some (.inr (.inl r)) => some r
      | some (.inr (.inr (y, as, rest))) => match call y as M with
        | none => none
        | some (r, M') => xs call mi f (pc + 3) ls (pushR r rest) M'
def xm : Nat → Nat → Nat → List Value → ab_M → Option (Option Value × ab_M)
  | 0, _, _, _, _ => none
  | d + 1, f, y, as, M => if ab_rk y ≤ d then xm d f y as M else if (padA (ab_ml y) as).length = ab_ml y then xs (xm d f) y f 0 (padA (ab_ml y) as) [] M else none
abbrev ab_Q : Type := Option Value → ab_M → Prop
def EvD (d y : Nat) (as : List Value) (M : ab_M) (K : ab_Q) : Prop := ∃ f r M', xm d f y as M = some (r, M') ∧ K r M'
def Ev (d mi pc : Nat) (ls : ab_L) (st : List Value) (M : ab_M) (K : ab_Q) : Prop := ∃ f r M', xs (xm d f) mi f pc ls st M = some (r, M') ∧ K r M'
/-! fuel -/
theorem xs_mono {c1 c2 : Nat → List Value → ab_M → Option (Option Value × ab_M)} (hc : ∀ y as M r, c1 y as M = some r → c2 y as M = some r) (mi : Nat) : ∀ (f g : Nat), f ≤ g → ∀ pc ls st M r, xs c1 mi f pc ls st M = some r → xs c2 mi g pc ls st M = some r := by
  intro f
  induction f with
  | zero => intro g _ pc ls st M r h; simp [xs] at h
  | succ f ih =>
    intro g hg pc ls st M r h
    obtain ⟨g, rfl⟩ : ∃ k, g = k + 1 := ⟨g - 1, by omega⟩
    have hg' : f ≤ g := by omega
    unfold xs at h ⊢
    cases h1 : lkC mi pc with
    | none => rw [h1] at h; simp at h
    | some ins =>
      rw [h1] at h
      dsimp only at h ⊢
      cases h2 : stp mi pc ins ls st M with
      | none => rw [h2] at h; simp at h
      | some q =>
        rw [h2] at h
        rcases q with ⟨pc', ls', st', M'⟩ | q | ⟨y, as, rest⟩
        · exact ih g hg' _ _ _ _ _ h
        · exact h
        · dsimp only at h ⊢
          cases h3 : c1 y as M with
          | none => rw [h3] at h; simp at h
          | some q =>
            obtain ⟨r1, M1⟩ := q
            rw [h3] at h
            rw [hc _ _ _ _ h3]
            exact ih g hg' _ _ _ _ _ h
theorem xm_mono : ∀ (d f g : Nat), f ≤ g → ∀ y as M r, xm d f y as M = some r → xm d g y as M = some r := by
  intro d
  induction d with
  | zero => intro f g _ y as M r h; simp [xm] at h
  | succ d ih =>
    intro f g hg y as M r h
    unfold xm at h ⊢
    by_cases hr : ab_rk y ≤ d
    · rw [if_pos hr] at h ⊢
      exact ih f g hg _ _ _ _ h
    · rw [if_neg hr] at h ⊢
      by_cases hl : (padA (ab_ml y) as).length = ab_ml y
      · rw [if_pos hl] at h ⊢
        exact xs_mono (fun y as M r => ih f g hg y as M r) y f g hg _ _ _ _ _ h
      · rw [if_neg hl] at h
        cases h
theorem xm_rank {y : Nat} (f : Nat) (as : List Value) (M : ab_M) : ∀ d, ab_rk y ≤ d → xm d f y as M = xm (ab_rk y) f y as M := by
  intro d
  induction d with
  | zero => intro h; rw [Nat.le_zero.mp h]
  | succ d ih =>
    intro h
    by_cases hr : ab_rk y ≤ d
    · rw [← ih hr]
      show (if ab_rk y ≤ d then xm d f y as M else _) = _
      rw [if_pos hr]
    · rw [show ab_rk y = d + 1 by omega]
theorem EvD_rank {d y : Nat} {as : List Value} {M : ab_M} {K : ab_Q} (h : ab_rk y ≤ d) : EvD d y as M K = EvD (ab_rk y) y as M K := by
  unfold EvD
  simp only [xm_rank _ _ _ d h]
theorem EvD_body {d y : Nat} {as : List Value} {M : ab_M} {K : ab_Q} (h : ¬ ab_rk y ≤ d) (hl : (padA (ab_ml y) as).length = ab_ml y) : EvD (d + 1) y as M K = Ev d y 0 (padA (ab_ml y) as) [] M K := by
  unfold EvD Ev
  simp only [xm, if_neg h, if_pos hl]
theorem EvD_mono {d y : Nat} {as : List Value} {M : ab_M} {K K' : ab_Q} (h : EvD d y as M K) (hk : ∀ r M', K r M' → K' r M') : EvD d y as M K' := by
  obtain ⟨f, r, M', h1, h2⟩ := h
  exact ⟨f, r, M', h1, hk _ _ h2⟩
theorem Ev_mono {d mi pc : Nat} {ls : ab_L} {st : List Value} {M : ab_M} {K K' : ab_Q} (h : Ev d mi pc ls st M K) (hk : ∀ r M', K r M' → K' r M') : Ev d mi pc ls st M K' := by
  obtain ⟨f, r, M', h1, h2⟩ := h
  exact ⟨f, r, M', h1, hk _ _ h2⟩
def aftr (d mi pc : Nat) (ls : ab_L) (M : ab_M) (q : ab_R) (K : ab_Q) : Prop := match q with
  | none => False
  | some (.inl (pc', ls', st', M')) => Ev d mi pc' ls' st' M' K
  | some (.inr (.inl (r, M'))) => K r M'
  | some (.inr (.inr (y, as, rest))) => EvD d y as M fun r M' => Ev d mi (pc + 3) ls (pushR r rest) M' K
theorem Ev_step {d mi pc : Nat} {ins : Instr} {ls : ab_L} {st : List Value} {M : ab_M} {K : ab_Q} (h : lkC mi pc = some ins) : Ev d mi pc ls st M K = aftr d mi pc ls M (stp mi pc ins ls st M) K := by
  apply propext
  constructor
  · rintro ⟨f, r, M', h1, h2⟩
    cases f with
    | zero => simp [xs] at h1
    | succ f =>
      unfold xs at h1
      rw [h] at h1
      dsimp only at h1
      unfold aftr
      cases h3 : stp mi pc ins ls st M with
      | none => rw [h3] at h1; simp at h1
      | some q =>
        rw [h3] at h1
        rcases q with ⟨pc', ls', st', M1⟩ | q | ⟨y, as, rest⟩
        · exact ⟨f + 1, r, M', xs_mono (fun _ _ _ _ e => e) mi f (f + 1) (by omega) _ _ _ _ _ h1, h2⟩
        · obtain ⟨r1, M1⟩ := q
          cases h1
          exact h2
        · dsimp only at h1 ⊢
          cases h4 : xm d (f + 1) y as M with
          | none => rw [h4] at h1; simp at h1
          | some q =>
            obtain ⟨r1, M1⟩ := q
            rw [h4] at h1
            exact ⟨f + 1, r1, M1, h4, f + 1, r, M', xs_mono (fun _ _ _ _ e => e) mi f (f + 1) (by omega) _ _ _ _ _ h1, h2⟩
  · intro h1
    unfold aftr at h1
    cases h3 : stp mi pc ins ls st M with
    | none => rw [h3] at h1; exact h1.elim
    | some q =>
      rw [h3] at h1
      rcases q with ⟨pc', ls', st', M1⟩ | q | ⟨y, as, rest⟩
      · obtain ⟨f, r, M', h4, h5⟩ := h1
        refine ⟨f + 1, r, M', ?_, h5⟩
        unfold xs
        rw [h]
        dsimp only
        rw [h3]
        exact xs_mono (fun y as M r => xm_mono d f (f + 1) (by omega) y as M r) mi f f (Nat.le_refl f) _ _ _ _ _ h4
      · obtain ⟨r1, M1⟩ := q
        refine ⟨1, r1, M1, ?_, h1⟩
        unfold xs
        rw [h]
        dsimp only
        rw [h3]
      · obtain ⟨f1, r1, M1, h4, f, r, M', h5, h6⟩ := h1
        refine ⟨f + f1 + 1, r, M', ?_, h6⟩
        unfold xs
        rw [h]
        dsimp only
        rw [h3]
        dsimp only
        rw [xm_mono d f1 (f + f1 + 1) (by omega) _ _ _ _ h4]
        exact xs_mono (fun y as M r => xm_mono d f (f + f1 + 1) (by omega) y as M r) mi f (f + f1) (by omega) _ _ _ _ _ h5
