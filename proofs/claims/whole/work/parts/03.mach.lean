/-! A small machine over a pure heap. Keys are cells in the order in which they are made: the real address is the size of the heap at the law's start plus the key.
Sh: what a cell is: an array (type, length) or an object (number of its kind in vwCl). Om: how many cells, how many slots, shapes, ints, longs, references. -/
abbrev Sh : Type := (FieldType × Nat) ⊕ Nat
abbrev Om : Type := Nat × Nat × (Nat → Sh) × (Nat → Nat → Int32) × (Nat → Nat → Int64) × (Nat → Nat → Option Nat)
abbrev Ent : Type := Nat × Instr × Nat × Nat × Nat × Value
abbrev Cfg : Type := Nat × List (Option Value) × List Value × Om
abbrev Res : Type := Om × Option Value
abbrev oN (w : Om) : Nat := w.1
abbrev oS (w : Om) : Nat := w.2.1
abbrev oH (w : Om) : Nat → Sh := w.2.2.1
abbrev oI (w : Om) : Nat → Nat → Int32 := w.2.2.2.1
abbrev oL (w : Om) : Nat → Nat → Int64 := w.2.2.2.2.1
abbrev oP (w : Om) : Nat → Nat → Option Nat := w.2.2.2.2.2
def up2 {α : Type} (f : Nat → Nat → α) (k j : Nat) (v : α) : Nat → Nat → α := fun k' j' => if k' = k then (if j' = j then v else f k' j') else f k' j'
def upr {α : Type} (f : Nat → Nat → α) (k : Nat) (g : Nat → α) : Nat → Nat → α := fun k' => if k' = k then g else f k'
def up1 {α : Type} (f : Nat → α) (k : Nat) (v : α) : Nat → α := fun k' => if k' = k then v else f k'
def tyOf (ci : Nat) : Nat → FieldType := match ci with
  | 0 => tyX0
  | 1 => tyX1
  | 2 => tyX2
  | 3 => tyX3
  | 4 => tyX4
  | 5 => tyX5
  | 6 => tyX6
  | 7 => tyX7
  | 8 => tyX8
  | 9 => tyX9
  | 10 => tyX10
  | 11 => tyX11
  | _ => fun _ => .int
def nF (ci : Nat) : Nat := match ci with
  | 0 => 5
  | 1 => 3
  | 2 => 5
  | 3 => 15
  | 4 => 17
  | 5 => 7
  | 6 => 14
  | 7 => 4
  | 8 => 2
  | 9 => 5
  | 10 => 15
  | 11 => 43
  | _ => 0
def rfv (r : Option Nat) : Value := match r with
  | none => .null
  | some k => .ref k
def vOf (w : Om) (k : Nat) (ty : FieldType) (j : Nat) : Value := match ty with
  | .long => .long (oL w k j)
  | .object _ => rfv (oP w k j)
  | .array _ => rfv (oP w k j)
  | _ => .int (oI w k j)
/-- a value written into cell k at place j -/
def wV (w : Om) (k j : Nat) (v : Value) : Option Om := match v with
  | .int x => some (oN w, oS w, oH w, up2 (oI w) k j x, oL w, oP w)
  | .long x => some (oN w, oS w, oH w, oI w, up2 (oL w) k j x, oP w)
  | .ref q => some (oN w, oS w, oH w, oI w, oL w, up2 (oP w) k j (some q))
  | .null => some (oN w, oS w, oH w, oI w, oL w, up2 (oP w) k j none)
  | _ => none
/-- a new cell of a shape, of n slots, all default -/
def mk (w : Om) (sh : Sh) (n : Nat) : Om := (oN w + 1, oS w + n, up1 (oH w) (oN w) sh, upr (oI w) (oN w) (fun _ => 0), upr (oL w) (oN w) (fun _ => 0), upr (oP w) (oN w) (fun _ => none))
def tyL : List FieldType := [.int, .long, .byte, .boolean, .object RX1, .object RX4]
def lget (l : List (Option Value)) (i : Nat) : Option Value := match l[i]? with
  | some (some v) => some v
  | _ => none
def lclr (l : List (Option Value)) (i : Nat) : List (Option Value) := match i with
  | 0 => l
  | j + 1 => match lget l j with
    | some v => if v.category = 2 then l.set j none else l
    | none => l
def lset (l : List (Option Value)) (i : Nat) (v : Value) : List (Option Value) := (lclr l i).set i (some v)
def lset2 (l : List (Option Value)) (i : Nat) (v : Value) : List (Option Value) := ((lclr l i).set i (some v)).set (i + 1) none
def pI1 {α : Type} (st : List Value) (k : Int32 → List Value → Option α) : Option α := match st with
  | .int x :: t => k x t
  | _ => none
def pI2 {α : Type} (st : List Value) (k : Int32 → Int32 → List Value → Option α) : Option α := match st with
  | .int y :: .int x :: t => k x y t
  | _ => none
def pL1 {α : Type} (st : List Value) (k : Int64 → List Value → Option α) : Option α := match st with
  | .long x :: t => k x t
  | _ => none
def pL2 {α : Type} (st : List Value) (k : Int64 → Int64 → List Value → Option α) : Option α := match st with
  | .long y :: .long x :: t => k x y t
  | _ => none
def pR1 {α : Type} (st : List Value) (k : Nat → List Value → Option α) : Option α := match st with
  | .ref a :: t => k a t
  | _ => none
def pV1 {α : Type} (st : List Value) (k : Value → List Value → Option α) : Option α := match st with
  | v :: t => k v t
  | _ => none
def pA {α : Type} (w : Om) (k : Nat) (f : FieldType → Nat → Option α) : Option α := match oH w k with
  | .inl (ty, n) => f ty n
  | _ => none
/-- cell k is an object of kind ci (a cell that isn't made yet has the shape .inr 99) -/
def isObj (w : Om) (k ci : Nat) : Bool := Nat.blt ci 12 && (match oH w k with
  | .inr c => Nat.beq c ci
  | _ => false)
def isRf (v : Value) : Bool := match v with
  | .ref _ => true
  | .null => true
  | .retAddr _ => true
  | _ => false
def cndB (c : ClassFile.Cond) (x y : Int32) : Bool := match c with
  | .eq => decide (x = y)
  | .ne => !decide (x = y)
  | .lt => decide (x < y)
  | .ge => decide (y ≤ x)
  | .gt => decide (y < x)
  | .le => decide (x ≤ y)
def catS (st : List Value) : Nat := (st.map fun v => v.category).sum
/-- may v stand in a field of type ty -/
def okV (ty : FieldType) (v : Value) : Bool := match ty, v with
  | .int, .int _ => true
  | .boolean, .int x => decide (x = 0 ∨ x = 1)
  | .long, .long _ => true
  | .object _, .ref _ => true
  | .object _, .null => true
  | .array _, .ref _ => true
  | .array _, .null => true
  | _, _ => false
def okR (rt : Option FieldType) (v : Value) : Bool := match rt, v with
  | some .int, .int _ => true
  | some .boolean, .int x => decide (x = 0 ∨ x = 1)
  | some .byte, .int x => decide (x.toInt8.toInt32 = x)
  | some .char, .int x => decide (x.toUInt32.toUInt16.toUInt32.toInt32 = x)
  | some .long, .long _ => true
  | some (.object _), .ref _ => true
  | some (.object _), .null => true
  | some (.array _), .ref _ => true
  | some (.array _), .null => true
  | _, _ => false
def aTy (t : ArrayType) : Option FieldType := match t with
  | .int => some .int
  | .long => some .long
  | .byte => some .byte
  | .boolean => some .boolean
  | _ => none
/-- which kind of object an array of this type holds -/
def elK (ty : FieldType) : Nat := if ty = .object RX1 then 1 else if ty = .object RX4 then 4 else 99
def cpy (f g : Nat → Int32) (sp dp n : Nat) : Nat → Int32 := fun k => if dp ≤ k ∧ k < dp + n then f (sp + (k - dp)) else g k
def nmL : List Int32 := [108, 101, 97, 100, 115, 32, 98, 97, 114, 114, 101, 100, 32, 105, 102, 32, 111, 114, 32, 97, 110, 100, 32, 110, 111, 116, 32, 119, 111, 114, 100, 32, 112, 108, 97, 99, 101, 32, 107, 105, 110, 100, 32, 99, 111, 108, 111, 117, 114, 32, 110, 111, 114, 116, 104, 32, 101, 97, 115, 116, 32, 119, 101, 115, 116, 32]
def nmB (i : Nat) : Int32 := nmL.getD i 0
abbrev Call : Type := Nat → List Value → Om → Option Res
def go1 (pc : Nat) (l : List (Option Value)) (st : List Value) (w : Om) : Option (Cfg ⊕ Res) := some (.inl (pc, l, st, w))
def xCopy (pc : Nat) (l : List (Option Value)) (st : List Value) (w : Om) : Option (Cfg ⊕ Res) := match st with
  | .int n :: .int dp :: .ref a :: .int sp :: .ref a0 :: t => pA w a0 fun ty0 n0 => pA w a fun ty1 n1 =>
      if ty0 = .int ∧ ty1 = .int ∧ ¬ sp < 0 ∧ ¬ dp < 0 ∧ ¬ n < 0 ∧ sp.toNatClampNeg + n.toNatClampNeg ≤ n0 ∧ dp.toNatClampNeg + n.toNatClampNeg ≤ n1 ∧ catS t ≤ 8
      then go1 pc l t (oN w, oS w, oH w, upr (oI w) a (cpy (oI w a0) (oI w a) sp.toNatClampNeg dp.toNatClampNeg n.toNatClampNeg), oL w, oP w) else none
  | _ => none
def xClone (pc : Nat) (l : List (Option Value)) (st : List Value) (w : Om) : Option (Cfg ⊕ Res) := match st with
  | .ref a :: t => pA w a fun ty n => if ty = .int ∧ catS t ≤ 8 then go1 pc l (.ref (oN w) :: t) (oN w + 1, oS w + n, up1 (oH w) (oN w) (.inl (.int, n)), upr (oI w) (oN w) (oI w a), upr (oL w) (oN w) (fun _ => 0), upr (oP w) (oN w) (fun _ => none)) else none
  | _ => none
/-- the receiver of a call is an object of the method's kind -/
def rcv (w : Om) (as : List Value) (ci : Nat) : Bool := match as with
  | .ref k :: _ => isObj w k ci
  | .retAddr 1 :: _ => Nat.beq ci 90
  | _ => false
def xCall (call : Call) (v : Bool) (a b pc : Nat) (l : List (Option Value)) (st : List Value) (w : Om) : Option (Cfg ⊕ Res) :=
  if b ≤ st.length ∧ catS (st.drop b) ≤ 8 then
    (match mI a with
    | some q => if v = false ∨ rcv w (st.take b).reverse q.2.2.2.2 = true then
        (match call a (st.take b).reverse w with
        | some (w', r) => go1 pc l (r.toList ++ st.drop b) w'
        | none => none) else none
    | none => none) else none
def exec1 (rt : Option FieldType) (xs : Nat → Int32) (Ln : Nat) (call : Call) (e : Ent) (l : List (Option Value)) (st : List Value) (w : Om) : Option (Cfg ⊕ Res) :=
  let pc := e.1
  let nx := pc + e.2.2.1
  let a := e.2.2.2.1
  let b := e.2.2.2.2.1
  let v := e.2.2.2.2.2
  match e.2.1 with
  | .iconst _ => go1 nx l (v :: st) w
  | .bipush _ => go1 nx l (v :: st) w
  | .sipush _ => go1 nx l (v :: st) w
  | .lconst _ => go1 nx l (v :: st) w
  | .aconst_null => go1 nx l (v :: st) w
  | .ldc _ => go1 nx l (v :: st) w
  | .ldc_w _ => go1 nx l (v :: st) w
  | .ldc2_w _ => go1 nx l (v :: st) w
  | .iload_n i => (match lget l i with
    | some (.int x) => go1 nx l (.int x :: st) w
    | _ => none)
  | .iload i => (match lget l i with
    | some (.int x) => go1 nx l (.int x :: st) w
    | _ => none)
  | .lload_n i => (match lget l i with
    | some (.long x) => go1 nx l (.long x :: st) w
    | _ => none)
  | .lload i => (match lget l i with
    | some (.long x) => go1 nx l (.long x :: st) w
    | _ => none)
  | .aload_n i => (match lget l i with
    | some u => if isRf u then go1 nx l (u :: st) w else none
    | _ => none)
  | .aload i => (match lget l i with
    | some u => if isRf u then go1 nx l (u :: st) w else none
    | _ => none)
  | .istore_n i => pI1 st fun x t => if i < l.length then go1 nx (lset l i (.int x)) t w else none
  | .istore i => pI1 st fun x t => if i < l.length then go1 nx (lset l i (.int x)) t w else none
  | .lstore_n i => pL1 st fun x t => if i + 1 < l.length then go1 nx (lset2 l i (.long x)) t w else none
  | .lstore i => pL1 st fun x t => if i + 1 < l.length then go1 nx (lset2 l i (.long x)) t w else none
  | .astore_n i => pV1 st fun u t => if isRf u = true ∧ i < l.length then go1 nx (lset l i u) t w else none
  | .astore i => pV1 st fun u t => if isRf u = true ∧ i < l.length then go1 nx (lset l i u) t w else none
  | .iinc i _ => (match lget l i, v with
    | some (.int x), .int d => if i < l.length then go1 nx (lset l i (.int (x + d))) st w else none
    | _, _ => none)
  | .iadd => pI2 st fun x y t => go1 nx l (.int (x + y) :: t) w
  | .isub => pI2 st fun x y t => go1 nx l (.int (x - y) :: t) w
  | .imul => pI2 st fun x y t => go1 nx l (.int (x * y) :: t) w
  | .iand => pI2 st fun x y t => go1 nx l (.int (x &&& y) :: t) w
  | .ior => pI2 st fun x y t => go1 nx l (.int (x ||| y) :: t) w
  | .ixor => pI2 st fun x y t => go1 nx l (.int (x ^^^ y) :: t) w
  | .ishl => pI2 st fun x y t => go1 nx l (.int (x <<< (y &&& 31)) :: t) w
  | .ishr => pI2 st fun x y t => go1 nx l (.int (x >>> (y &&& 31)) :: t) w
  | .iushr => pI2 st fun x y t => go1 nx l (.int (x.toUInt32 >>> (y.toUInt32 &&& Int32.toUInt32 31)).toInt32 :: t) w
  | .idiv => pI2 st fun x y t => if y = 0 then none else go1 nx l (.int (x / y) :: t) w
  | .irem => pI2 st fun x y t => if y = 0 then none else go1 nx l (.int (x - x / y * y) :: t) w
  | .ineg => pI1 st fun x t => go1 nx l (.int (-x) :: t) w
  | .ladd => pL2 st fun x y t => go1 nx l (.long (x + y) :: t) w
  | .lsub => pL2 st fun x y t => go1 nx l (.long (x - y) :: t) w
  | .lmul => pL2 st fun x y t => go1 nx l (.long (x * y) :: t) w
  | .ldiv => pL2 st fun x y t => if y = 0 then none else go1 nx l (.long (x / y) :: t) w
  | .lrem => pL2 st fun x y t => if y = 0 then none else go1 nx l (.long (x - x / y * y) :: t) w
  | .lcmp => pL2 st fun x y t => go1 nx l (.int (lg_cmp x y) :: t) w
  | .i2l => pI1 st fun x t => go1 nx l (.long x.toInt64 :: t) w
  | .l2i => pL1 st fun x t => go1 nx l (.int x.toInt32 :: t) w
  | .i2c => pI1 st fun x t => go1 nx l (.int (x.toUInt32 % 65536).toInt32 :: t) w
  | .pop => pV1 st fun u t => if u.category = 1 then go1 nx l t w else none
  | .i2b => pI1 st fun x t => go1 nx l (.int x.toInt8.toInt32 :: t) w
  | .dup => pV1 st fun u t => if u.category = 1 then go1 nx l (u :: u :: t) w else none
  | .dup2 => pV1 st fun u t => if u.category = 2 then go1 nx l (u :: u :: t) w else pV1 t fun z t' => if z.category = 1 ∧ u.category = 1 then go1 nx l (u :: z :: u :: z :: t') w else none
  | .ifCond c _ => pI1 st fun x t => if cndB c x 0 = true then go1 a l t w else go1 nx l t w
  | .if_icmp c _ => pI2 st fun x y t => if cndB c x y = true then go1 a l t w else go1 nx l t w
  | .goto _ => go1 a l st w
  | .ifnull _ => (match st with
    | .null :: t => go1 a l t w
    | .ref _ :: t => go1 nx l t w
    | _ => none)
  | .ifnonnull _ => (match st with
    | .null :: t => go1 nx l t w
    | .ref _ :: t => go1 a l t w
    | _ => none)
  | .tableswitch _ lo hi offs => pI1 st fun x t => if x.toInt < lo ∨ hi < x.toInt then go1 a l t w else
    (match offs[(x.toInt - lo).toNat]? with
    | some off => if 0 ≤ (pc : Int) + off then go1 ((pc : Int) + off).toNat l t w else none
    | none => none)
  | .getfield _ => pV1 st fun u t => (match u with
    | .ref k => if isObj w k a = true then go1 nx l (vOf w k (tyOf a b) b :: t) w else none
    | .retAddr 1 => if a = 90 ∧ b = 0 then go1 nx l (.int 0 :: t) w else if a = 90 ∧ b = 1 then go1 nx l (.retAddr 2 :: t) w else none
    | _ => none)
  | .getstatic _ => go1 nx l (v :: st) w
  | .putfield _ => pV1 st fun u t => pR1 t fun k t' => if isObj w k a = true ∧ okV (tyOf a b) u = true then (match wV w k b u with
    | some w' => go1 nx l t' w'
    | none => none) else none
  | .iaload => pI1 st fun i t => pV1 t fun u t' => (match u with
    | .ref k => pA w k fun ty n => if ty = .int ∧ ¬ (i < 0 ∨ n ≤ i.toNatClampNeg) then go1 nx l (.int (oI w k i.toNatClampNeg) :: t') w else none
    | .retAddr 0 => if ¬ (i < 0 ∨ Ln ≤ i.toNatClampNeg) then go1 nx l (.int (xs i.toNatClampNeg) :: t') w else none
    | _ => none)
  | .baload => pI1 st fun i t => pV1 t fun u t' => (match u with
    | .ref k => pA w k fun ty n => if (ty = .byte ∨ ty = .boolean) ∧ ¬ (i < 0 ∨ n ≤ i.toNatClampNeg) then go1 nx l (.int (oI w k i.toNatClampNeg) :: t') w else none
    | .retAddr 2 => if ¬ (i < 0 ∨ 66 ≤ i.toNatClampNeg) then go1 nx l (.int (nmB i.toNatClampNeg) :: t') w else none
    | _ => none)
  | .laload => pI1 st fun i t => pR1 t fun k t' => pA w k fun ty n => if ty = .long ∧ ¬ (i < 0 ∨ n ≤ i.toNatClampNeg) then go1 nx l (.long (oL w k i.toNatClampNeg) :: t') w else none
  | .aaload => pI1 st fun i t => pR1 t fun k t' => pA w k fun ty n => if elK ty ≠ 99 ∧ ¬ (i < 0 ∨ n ≤ i.toNatClampNeg) then go1 nx l (rfv (oP w k i.toNatClampNeg) :: t') w else none
  | .iastore => pI2 st fun i x t => pR1 t fun k t' => pA w k fun ty n => if ty = .int ∧ ¬ (i < 0 ∨ n ≤ i.toNatClampNeg) then go1 nx l t' (oN w, oS w, oH w, up2 (oI w) k i.toNatClampNeg x, oL w, oP w) else none
  | .bastore => pI2 st fun i x t => pR1 t fun k t' => pA w k fun ty n => if (ty = .byte ∨ ty = .boolean) ∧ ¬ (i < 0 ∨ n ≤ i.toNatClampNeg) then go1 nx l t' (oN w, oS w, oH w, up2 (oI w) k i.toNatClampNeg (vp_nar ty x), oL w, oP w) else none
  | .lastore => pL1 st fun x t0 => pI1 t0 fun i t => pR1 t fun k t' => pA w k fun ty n => if ty = .long ∧ ¬ (i < 0 ∨ n ≤ i.toNatClampNeg) then go1 nx l t' (oN w, oS w, oH w, oI w, up2 (oL w) k i.toNatClampNeg x, oP w) else none
  | .aastore => pV1 st fun u t0 => pI1 t0 fun i t => pR1 t fun k t' => pA w k fun ty n => if elK ty ≠ 99 ∧ ¬ (i < 0 ∨ n ≤ i.toNatClampNeg) then (match u with
    | .null => go1 nx l t' (oN w, oS w, oH w, oI w, oL w, up2 (oP w) k i.toNatClampNeg none)
    | .ref q => if isObj w q (elK ty) = true then go1 nx l t' (oN w, oS w, oH w, oI w, oL w, up2 (oP w) k i.toNatClampNeg (some q)) else none
    | _ => none) else none
  | .arraylength => pV1 st fun u t => (match u with
    | .ref k => pA w k fun _ n => go1 nx l (.int (Int32.ofNat n) :: t) w
    | .retAddr 0 => go1 nx l (.int (Int32.ofNat Ln) :: t) w
    | .retAddr 2 => go1 nx l (.int 66 :: t) w
    | _ => none)
  | .newarray at' => pI1 st fun x t => (match aTy at' with
    | some ty => if ¬ x < 0 ∧ x.toNatClampNeg ≤ 1000000 then go1 nx l (.ref (oN w) :: t) (mk w (.inl (ty, x.toNatClampNeg)) x.toNatClampNeg) else none
    | none => none)
  | .anewarray _ => pI1 st fun x t => if (a = 1 ∨ a = 4) ∧ ¬ x < 0 ∧ x.toNatClampNeg ≤ 1000000 then go1 nx l (.ref (oN w) :: t) (mk w (.inl (if a = 1 then .object RX1 else .object RX4, x.toNatClampNeg)) x.toNatClampNeg) else none
  | .new _ => if a < 12 then go1 nx l (.ref (oN w) :: st) (mk w (.inr a) (nF a)) else none
  | .checkcast _ => (match st with
    | .ref k :: t => pA w k fun ty _ => if ty = .int then go1 nx l (.ref k :: t) w else none
    | _ => none)
  | .invokespecial _ => if a = 1000 then pR1 st fun _ t => if catS t ≤ 8 then go1 nx l t w else none else xCall call true a b nx l st w
  | .invokevirtual _ => if a = 1002 then xClone nx l st w else xCall call true a b nx l st w
  | .invokestatic _ => if a = 1001 then xCopy nx l st w else if a = 1005 then (pI2 st fun x y t => if catS t ≤ 8 then go1 nx l (.int (if x < y then y else x) :: t) w else none) else if a = 1006 then (pI2 st fun x y t => if catS t ≤ 8 then go1 nx l (.int (if y < x then y else x) :: t) w else none) else xCall call false a b nx l st w
  | .ireturn => (match st with
    | [.int x] => if okR rt (.int x) = true then some (.inr (w, some (.int x))) else none
    | _ => none)
  | .lreturn => (match st with
    | [.long x] => if okR rt (.long x) = true then some (.inr (w, some (.long x))) else none
    | _ => none)
  | .areturn => (match st with
    | [u] => if isRf u = true ∧ okR rt u = true then some (.inr (w, some u)) else none
    | _ => none)
  | .return_ => if rt = none ∧ st = [] then some (.inr (w, none)) else none
  | _ => none
def fnd (T : List Ent) (pc : Nat) : Option Ent := T.find? (fun e => Nat.beq e.1 pc)
def run (T : List Ent) (rt : Option FieldType) (xs : Nat → Int32) (Ln : Nat) (call : Call) : Nat → Nat → List (Option Value) → List Value → Om → Option Res
  | 0, _, _, _, _ => none
  | n + 1, pc, l, st, w => match fnd T pc with
    | none => none
    | some e => match exec1 rt xs Ln call e l st w with
      | none => none
      | some (.inr r) => some r
      | some (.inl q) => run T rt xs Ln call n q.1 q.2.1 q.2.2.1 q.2.2.2
