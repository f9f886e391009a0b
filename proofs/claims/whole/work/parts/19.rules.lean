/-! Rules for single instructions. -/
def c1 (u : Option Value) : Bool := match u with
  | none => true
  | some v => Nat.beq v.category 1
theorem c1_s {u : Option Value} (h : c1 u = true) : ∀ v, u = some v → v.category = 1 := fun v hv => by
  subst hv
  exact Nat.eq_of_beq_eq_true h
theorem lclr_c1 {l : List (Option Value)} {i : Nat} {u : Option Value} (hu : l[i]? = some u) (h : c1 u = true) : lclr l (i + 1) = l := by
  unfold lclr
  dsimp only
  split
  · rename_i v hv
    have h1 := lget_some hv
    rw [hu] at h1
    rw [if_neg (by rw [c1_s h v (Option.some.inj h1)]; decide)]
  · rfl
theorem lset_c1 {l : List (Option Value)} {i : Nat} {u : Option Value} {v : Value} (hu : l[i]? = some u) (h : c1 u = true) : lset l (i + 1) v = l.set (i + 1) (some v) := by
  unfold lset
  rw [lclr_c1 hu h]
theorem lset2_c1 {l : List (Option Value)} {i : Nat} {u : Option Value} {v : Value} (hu : l[i]? = some u) (h : c1 u = true) : lset2 l (i + 1) v = (l.set (i + 1) (some v)).set (i + 2) none := by
  unfold lset2
  rw [lclr_c1 hu h]
section RULES
variable {T : List Ent} {rt : Option FieldType} {xs : Nat → Int32} {Ln : Nat} {call : Call} {pc len a b : Nat} {v : Value} {l : List (Option Value)} {t : List Value} {w : Om} {r : Res}
theorem Ev.nxt {e : Ent} {st st' : List Value} {pc' : Nat} {l' : List (Option Value)} {w' : Om} (hf : fnd T pc = some e) (hx : exec1 rt xs Ln call e l st w = some (.inl (pc', l', st', w'))) : Ev T rt xs Ln call pc l st w r = Ev T rt xs Ln call pc' l' st' w' r := Ev.nx hf hx
theorem Ev.ifc {e : Ent} {st st1 st2 : List Value} {p1 p2 : Nat} {c : Prop} [hdc : Decidable c] (hf : fnd T pc = some e) (hx : exec1 rt xs Ln call e l st w = if c then some (.inl (p1, l, st1, w)) else some (.inl (p2, l, st2, w))) : Ev T rt xs Ln call pc l st w r = if c then Ev T rt xs Ln call p1 l st1 w r else Ev T rt xs Ln call p2 l st2 w r := by
  by_cases h : c
  · rw [if_pos h] at hx ⊢
    exact Ev.nx hf hx
  · rw [if_neg h] at hx ⊢
    exact Ev.nx hf hx
theorem Ev.ife {e : Ent} {st : List Value} {q1 q2 : Cfg} {c : Prop} [hdc : Decidable c] (hf : fnd T pc = some e) (hx : exec1 rt xs Ln call e l st w = if c then some (.inl q1) else some (.inl q2)) : Ev T rt xs Ln call pc l st w r = if c then Ev T rt xs Ln call q1.1 q1.2.1 q1.2.2.1 q1.2.2.2 r else Ev T rt xs Ln call q2.1 q2.2.1 q2.2.2.1 q2.2.2.2 r := by
  by_cases h : c
  · rw [if_pos h] at hx ⊢
    exact Ev.nx hf hx
  · rw [if_neg h] at hx ⊢
    exact Ev.nx hf hx
theorem iteB {α : Type} {c : Prop} [hdc : Decidable c] {x y : α} : (if decide c = true then x else y) = if c then x else y := by
  by_cases h : c <;> simp [h]
theorem iteNB {α : Type} {c : Prop} [hdc : Decidable c] {x y : α} : (if (!decide c) = true then x else y) = if c then y else x := by
  by_cases h : c <;> simp [h]
theorem X_iald {k n : Nat} {i : Int32} (hk : oH w k = .inl (.int, n)) (hi : ¬ (i < 0 ∨ n ≤ i.toNatClampNeg)) : exec1 rt xs Ln call (pc, .iaload, len, a, b, v) l (.int i :: .ref k :: t) w = some (.inl (pc + len, l, .int (oI w k i.toNatClampNeg) :: t, w)) := by
  simp only [exec1, pI1, pV1, pA, hk]
  exact if_pos ⟨trivial, hi⟩
theorem X_istn {i : Fin 4} {x : Int32} {l' : List (Option Value)} (hi : (i : Nat) < l.length) (hl : lset l i (.int x) = l') : exec1 rt xs Ln call (pc, .istore_n i, len, a, b, v) l (.int x :: t) w = some (.inl (pc + len, l', t, w)) := by subst hl; exact if_pos hi
theorem X_ist {i : Nat} {x : Int32} {l' : List (Option Value)} (hi : i < l.length) (hl : lset l i (.int x) = l') : exec1 rt xs Ln call (pc, .istore i, len, a, b, v) l (.int x :: t) w = some (.inl (pc + len, l', t, w)) := by subst hl; exact if_pos hi
theorem X_astn {i : Fin 4} {x : Value} {l' : List (Option Value)} (hx : isRf x = true) (hi : (i : Nat) < l.length) (hl : lset l i x = l') : exec1 rt xs Ln call (pc, .astore_n i, len, a, b, v) l (x :: t) w = some (.inl (pc + len, l', t, w)) := by subst hl; exact if_pos ⟨hx, hi⟩
theorem X_ast {i : Nat} {x : Value} {l' : List (Option Value)} (hx : isRf x = true) (hi : i < l.length) (hl : lset l i x = l') : exec1 rt xs Ln call (pc, .astore i, len, a, b, v) l (x :: t) w = some (.inl (pc + len, l', t, w)) := by subst hl; exact if_pos ⟨hx, hi⟩
theorem X_lstn {i : Fin 4} {x : Int64} {l' : List (Option Value)} (hi : (i : Nat) + 1 < l.length) (hl : lset2 l i (.long x) = l') : exec1 rt xs Ln call (pc, .lstore_n i, len, a, b, v) l (.long x :: t) w = some (.inl (pc + len, l', t, w)) := by subst hl; exact if_pos hi
theorem X_lst {i : Nat} {x : Int64} {l' : List (Option Value)} (hi : i + 1 < l.length) (hl : lset2 l i (.long x) = l') : exec1 rt xs Ln call (pc, .lstore i, len, a, b, v) l (.long x :: t) w = some (.inl (pc + len, l', t, w)) := by subst hl; exact if_pos hi
theorem X_iinc {i : Nat} {n : Int} {x d : Int32} {l' : List (Option Value)} (hg : lget l i = some (.int x)) (hi : i < l.length) (hl : lset l i (.int (x + d)) = l') : exec1 rt xs Ln call (pc, .iinc i n, len, a, b, .int d) l t w = some (.inl (pc + len, l', t, w)) := by
  subst hl
  simp only [exec1, hg]
  exact if_pos hi
theorem X_sld {i : Int32} (hi : ¬ (i < 0 ∨ Ln ≤ i.toNatClampNeg)) : exec1 rt xs Ln call (pc, .iaload, len, a, b, v) l (.int i :: .retAddr 0 :: t) w = some (.inl (pc + len, l, .int (xs i.toNatClampNeg) :: t, w)) := if_pos hi
theorem X_bald {k n : Nat} {i : Int32} {ty : FieldType} (hk : oH w k = .inl (ty, n)) (hty : ty = .byte ∨ ty = .boolean) (hi : ¬ (i < 0 ∨ n ≤ i.toNatClampNeg)) : exec1 rt xs Ln call (pc, .baload, len, a, b, v) l (.int i :: .ref k :: t) w = some (.inl (pc + len, l, .int (oI w k i.toNatClampNeg) :: t, w)) := by
  simp only [exec1, pI1, pV1, pA, hk]
  exact if_pos ⟨hty, hi⟩
theorem X_lald {k n : Nat} {i : Int32} (hk : oH w k = .inl (.long, n)) (hi : ¬ (i < 0 ∨ n ≤ i.toNatClampNeg)) : exec1 rt xs Ln call (pc, .laload, len, a, b, v) l (.int i :: .ref k :: t) w = some (.inl (pc + len, l, .long (oL w k i.toNatClampNeg) :: t, w)) := by
  simp only [exec1, pI1, pR1, pA, hk]
  exact if_pos ⟨trivial, hi⟩
theorem X_aald {k n : Nat} {i : Int32} {ty : FieldType} (hk : oH w k = .inl (ty, n)) (hty : elK ty ≠ 99) (hi : ¬ (i < 0 ∨ n ≤ i.toNatClampNeg)) : exec1 rt xs Ln call (pc, .aaload, len, a, b, v) l (.int i :: .ref k :: t) w = some (.inl (pc + len, l, rfv (oP w k i.toNatClampNeg) :: t, w)) := by
  simp only [exec1, pI1, pR1, pA, hk]
  exact if_pos ⟨hty, hi⟩
theorem X_iast {k n : Nat} {i x : Int32} (hk : oH w k = .inl (.int, n)) (hi : ¬ (i < 0 ∨ n ≤ i.toNatClampNeg)) : exec1 rt xs Ln call (pc, .iastore, len, a, b, v) l (.int x :: .int i :: .ref k :: t) w = some (.inl (pc + len, l, t, (oN w, oS w, oH w, up2 (oI w) k i.toNatClampNeg x, oL w, oP w))) := by
  simp only [exec1, pI2, pR1, pA, hk]
  exact if_pos ⟨trivial, hi⟩
theorem X_bast {k n : Nat} {i x : Int32} {ty : FieldType} (hk : oH w k = .inl (ty, n)) (hty : ty = .byte ∨ ty = .boolean) (hi : ¬ (i < 0 ∨ n ≤ i.toNatClampNeg)) : exec1 rt xs Ln call (pc, .bastore, len, a, b, v) l (.int x :: .int i :: .ref k :: t) w = some (.inl (pc + len, l, t, (oN w, oS w, oH w, up2 (oI w) k i.toNatClampNeg (vp_nar ty x), oL w, oP w))) := by
  simp only [exec1, pI2, pR1, pA, hk]
  exact if_pos ⟨hty, hi⟩
theorem X_last {k n : Nat} {i : Int32} {x : Int64} (hk : oH w k = .inl (.long, n)) (hi : ¬ (i < 0 ∨ n ≤ i.toNatClampNeg)) : exec1 rt xs Ln call (pc, .lastore, len, a, b, v) l (.long x :: .int i :: .ref k :: t) w = some (.inl (pc + len, l, t, (oN w, oS w, oH w, oI w, up2 (oL w) k i.toNatClampNeg x, oP w))) := by
  simp only [exec1, pI1, pL1, pR1, pA, hk]
  exact if_pos ⟨trivial, hi⟩
theorem X_alen {k n : Nat} {ty : FieldType} (hk : oH w k = .inl (ty, n)) : exec1 rt xs Ln call (pc, .arraylength, len, a, b, v) l (.ref k :: t) w = some (.inl (pc + len, l, .int (Int32.ofNat n) :: t, w)) := by
  simp only [exec1, pV1, pA, hk, go1]
theorem X_copy {x k0 k n0 n1 : Nat} {sp dp n : Int32} (h0 : oH w k0 = .inl (.int, n0)) (h1 : oH w k = .inl (.int, n1)) (hc : ¬ sp < 0 ∧ ¬ dp < 0 ∧ ¬ n < 0 ∧ sp.toNatClampNeg + n.toNatClampNeg ≤ n0 ∧ dp.toNatClampNeg + n.toNatClampNeg ≤ n1) (ht : catS t ≤ 8) : exec1 rt xs Ln call (pc, .invokestatic x, len, 1001, b, v) l (.int n :: .int dp :: .ref k :: .int sp :: .ref k0 :: t) w = some (.inl (pc + len, l, t, (oN w, oS w, oH w, upr (oI w) k (cpy (oI w k0) (oI w k) sp.toNatClampNeg dp.toNatClampNeg n.toNatClampNeg), oL w, oP w))) := by
  have hcond : FieldType.int = .int ∧ FieldType.int = .int ∧ ¬ sp < 0 ∧ ¬ dp < 0 ∧ ¬ n < 0 ∧ sp.toNatClampNeg + n.toNatClampNeg ≤ n0 ∧ dp.toNatClampNeg + n.toNatClampNeg ≤ n1 ∧ catS t ≤ 8 := ⟨rfl, rfl, hc.1, hc.2.1, hc.2.2.1, hc.2.2.2.1, hc.2.2.2.2, ht⟩
  show xCopy (pc + len) l (.int n :: .int dp :: .ref k :: .int sp :: .ref k0 :: t) w = _
  unfold xCopy pA
  dsimp only
  rw [h0]
  dsimp only
  rw [h1]
  exact if_pos hcond
theorem X_vret : exec1 none xs Ln call (pc, .return_, len, a, b, v) l [] w = some (.inr (w, none)) := by simp [exec1]
theorem X_obj {x k : Nat} (ht : catS t ≤ 8) : exec1 rt xs Ln call (pc, .invokespecial x, len, 1000, b, v) l (.ref k :: t) w = some (.inl (pc + len, l, t, w)) := if_pos ht
theorem X_max {x : Nat} {i1 i0 : Int32} (ht : catS t ≤ 8) : exec1 rt xs Ln call (pc, .invokestatic x, len, 1005, b, v) l (.int i0 :: .int i1 :: t) w = some (.inl (pc + len, l, .int (if i1 < i0 then i0 else i1) :: t, w)) := if_pos ht
theorem X_min {x : Nat} {i1 i0 : Int32} (ht : catS t ≤ 8) : exec1 rt xs Ln call (pc, .invokestatic x, len, 1006, b, v) l (.int i0 :: .int i1 :: t) w = some (.inl (pc + len, l, .int (if i0 < i1 then i0 else i1) :: t, w)) := if_pos ht
theorem X_put {x k : Nat} {u : Value} {w' : Om} (h : isObj w k a = true) (ho : okV (tyOf a b) u = true) (hw : wV w k b u = some w') : exec1 rt xs Ln call (pc, .putfield x, len, a, b, v) l (u :: .ref k :: t) w = some (.inl (pc + len, l, t, w')) := by
  simp only [exec1, pV1, pR1, h, ho, hw]
  rfl
/-- what follows a call -/
def aft (T : List Ent) (rt : Option FieldType) (xs : Nat → Int32) (Ln : Nat) (call : Call) (pc : Nat) (l : List (Option Value)) (t : List Value) (r : Res) (o : Option Res) : Prop := match o with
  | some q => Ev T rt xs Ln call pc l (q.2.toList ++ t) q.1 r
  | none => False
theorem aft_s {w : Om} {u : Option Value} : aft T rt xs Ln call pc l t r (some (w, u)) = Ev T rt xs Ln call pc l (u.toList ++ t) w r := rfl
theorem Ev.cl {e : Ent} {st : List Value} {vv : Bool} {k n nx : Nat} {i : MInf} (hf : fnd T pc = some e) (hx : exec1 rt xs Ln call e l st w = xCall call vv k n nx l st w) (hn : n ≤ st.length) (hc : catS (st.drop n) ≤ 8) (hi : mI k = some i) (hr : vv = false ∨ rcv w (st.take n).reverse i.2.2.2.2 = true) : Ev T rt xs Ln call pc l st w r = aft T rt xs Ln call nx l (st.drop n) r (call k (st.take n).reverse w) := by
  cases hq : call k (st.take n).reverse w with
  | none =>
    apply propext
    constructor
    · rintro ⟨m, h⟩
      cases m with
      | zero => cases h
      | succ m =>
        rw [run_succ, hf] at h
        dsimp only at h
        rw [hx, xCall, if_pos ⟨hn, hc⟩, hi] at h
        dsimp only at h
        rw [if_pos hr, hq] at h
        cases h
    · intro h
      cases h
  | some q =>
    obtain ⟨w', u⟩ := q
    exact Ev.nx hf (q := (nx, l, u.toList ++ st.drop n, w')) (by
      rw [hx, xCall, if_pos ⟨hn, hc⟩, hi]
      dsimp only
      rw [if_pos hr, hq]
      rfl)
end RULES
