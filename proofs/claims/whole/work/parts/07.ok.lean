def mem2 (x a : Nat) : List (Nat × Nat) → Bool
  | [] => false
  | e :: t => (Nat.beq e.1 x && Nat.beq e.2 a) || mem2 x a t
def mem3 (x a b : Nat) : List (Nat × Nat × Nat) → Bool
  | [] => false
  | e :: t => (Nat.beq e.1 x && Nat.beq e.2.1 a && Nat.beq e.2.2 b) || mem3 x a b t
def memV (x : Nat) (v : Value) : List (Nat × Value) → Bool
  | [] => false
  | e :: t => (Nat.beq e.1 x && decide (e.2 = v)) || memV x v t
theorem mem2_s {x a : Nat} : ∀ {l : List (Nat × Nat)}, mem2 x a l = true → (x, a) ∈ l
  | [], h => by cases h
  | e :: t, h => by
    rw [mem2, Bool.or_eq_true, Bool.and_eq_true] at h
    rcases h with ⟨h1, h2⟩ | h
    · rw [← Nat.eq_of_beq_eq_true h1, ← Nat.eq_of_beq_eq_true h2]; exact List.mem_cons_self
    · exact List.mem_cons_of_mem _ (mem2_s h)
theorem mem3_s {x a b : Nat} : ∀ {l : List (Nat × Nat × Nat)}, mem3 x a b l = true → (x, a, b) ∈ l
  | [], h => by cases h
  | e :: t, h => by
    rw [mem3, Bool.or_eq_true, Bool.and_eq_true, Bool.and_eq_true] at h
    rcases h with ⟨⟨h1, h2⟩, h3⟩ | h
    · rw [← Nat.eq_of_beq_eq_true h1, ← Nat.eq_of_beq_eq_true h2, ← Nat.eq_of_beq_eq_true h3]; exact List.mem_cons_self
    · exact List.mem_cons_of_mem _ (mem3_s h)
theorem memV_s {x : Nat} {v : Value} : ∀ {l : List (Nat × Value)}, memV x v l = true → (x, v) ∈ l
  | [], h => by cases h
  | e :: t, h => by
    rw [memV, Bool.or_eq_true, Bool.and_eq_true, decide_eq_true_eq] at h
    rcases h with ⟨h1, h2⟩ | h
    · rw [← Nat.eq_of_beq_eq_true h1, ← h2]; exact List.mem_cons_self
    · exact List.mem_cons_of_mem _ (memV_s h)
/-- the entry is as the tables have it (co: the number of the owner, ini: is the method a constructor) -/
def okE (co : Nat) (ini : Bool) (e : Ent) : Bool :=
  let pc := e.1
  let len := e.2.2.1
  let a := e.2.2.2.1
  let b := e.2.2.2.2.1
  let v := e.2.2.2.2.2
  match e.2.1 with
  | .iconst n => Nat.beq len 1 && decide (v = .int (Int32.ofInt n))
  | .bipush n => Nat.beq len 2 && decide (v = .int (Int8.ofInt n).toInt32)
  | .sipush n => Nat.beq len 3 && decide (v = .int (Int16.ofInt n).toInt32)
  | .lconst n => Nat.beq len 1 && decide (v = .long (Int64.ofNat (n : Nat)))
  | .aconst_null => Nat.beq len 1 && decide (v = .null)
  | .ldc x => Nat.beq len 2 && (match v with
    | .int _ => memV x v (CK co)
    | .retAddr 1 => Nat.beq co 9 && Nat.beq x 52
    | _ => false)
  | .ldc_w x => Nat.beq len 3 && memV x v (CK co) && (match v with
    | .int _ => true
    | _ => false)
  | .ldc2_w x => Nat.beq len 3 && memV x v (CK co) && (match v with
    | .long _ => true
    | _ => false)
  | .iload _ => Nat.beq len 2
  | .lload _ => Nat.beq len 2
  | .aload _ => Nat.beq len 2
  | .istore _ => Nat.beq len 2
  | .lstore _ => Nat.beq len 2
  | .astore _ => Nat.beq len 2
  | .iinc _ n => Nat.beq len 3 && decide (v = .int (Int32.ofInt n))
  | .ifCond _ off => Nat.beq len 3 && decide ((pc : Int) + off = (a : Int))
  | .if_icmp _ off => Nat.beq len 3 && decide ((pc : Int) + off = (a : Int))
  | .goto off => Nat.beq len 3 && decide ((pc : Int) + off = (a : Int))
  | .ifnull off => Nat.beq len 3 && decide ((pc : Int) + off = (a : Int))
  | .ifnonnull off => Nat.beq len 3 && decide ((pc : Int) + off = (a : Int))
  | .tableswitch d _ _ _ => decide ((pc : Int) + d = (a : Int))
  | .getfield x => Nat.beq len 3 && (mem3 x a b (FLK co) || (Nat.beq a 90 && Nat.beq co 16 && ((Nat.beq x 15 && Nat.beq b 0) || (Nat.beq x 9 && Nat.beq b 1))))
  | .getstatic x => Nat.beq len 3 && Nat.beq co 16 && ((Nat.beq x 38 && decide (v = .int 1)) || (Nat.beq x 1053 && decide (v = .retAddr 3)))
  | .putfield x => Nat.beq len 3 && mem3 x a b (FLK co) && (!(Tn a b).2.2.2 || (ini && Nat.beq a co))
  | .new x => Nat.beq len 3 && mem2 x a (CLK co)
  | .anewarray x => Nat.beq len 3 && mem2 x a (CLK co)
  | .newarray _ => Nat.beq len 2
  | .checkcast x => Nat.beq len 3 && Nat.beq co 14 && Nat.beq x 317
  | .invokespecial x => Nat.beq a 1999 || Nat.beq len 3 && mem2 x a (MLK co) && (Nat.beq a 1000 || (Nat.blt a 280 && mIn a && Nat.beq b (mNp a + 1)))
  | .invokevirtual x => Nat.beq a 1999 || Nat.beq len 3 && mem2 x a (MLK co) && (Nat.beq a 1002 || (Nat.blt a 280 && !mIn a && !mSt a && Nat.beq b (mNp a + 1)))
  | .invokestatic x => Nat.beq a 1999 || Nat.beq len 3 && mem2 x a (MLK co) && (Nat.beq a 1001 || Nat.beq a 1005 || Nat.beq a 1006 || (Nat.blt a 280 && mSt a && Nat.beq b (mNp a)))
  | _ => Nat.beq len 1
def chkM (co : Nat) (ini : Bool) (bytes : ByteArray) (T : List Ent) : Bool := T.all (fun e => okE co ini e && decide (decode bytes e.1 = .ok (e.2.1, e.2.2.1)))
