/-! A run with what it ends in: Gv; a call with what it ends in: Ok; numbers as nI. -/
def m1 : Int32 := -1
def m2 : Int32 := -2
def m3 : Int32 := -3
def m5 : Int32 := -5
def m6 : Int32 := -6
def shlI (x y : Int32) : Int32 := x <<< (y &&& 31)
def shrI (x y : Int32) : Int32 := x >>> (y &&& 31)
def ushI (x y : Int32) : Int32 := (x.toUInt32 >>> (y.toUInt32 &&& Int32.toUInt32 31)).toInt32
def Ok (o : Option Res) (P : Res → Prop) : Prop := ∃ q, o = some q ∧ P q
theorem Ok_s {q : Res} {P : Res → Prop} : Ok (some q) P = P q := by
  apply propext
  constructor
  · rintro ⟨q', h, hp⟩
    cases h
    exact hp
  · intro h
    exact ⟨q, rfl, h⟩
theorem Ok.mono {o : Option Res} {P P' : Res → Prop} (h : Ok o P) (hp : ∀ q, P q → P' q) : Ok o P' := by
  obtain ⟨q, h1, h2⟩ := h
  exact ⟨q, h1, hp q h2⟩
theorem Ok.eq {o : Option Res} {r : Res} (h : Ok o (fun q => q = r)) : o = some r := by
  obtain ⟨q, h1, rfl⟩ := h
  exact h1
theorem Ok.of {o : Option Res} {r : Res} {P : Res → Prop} (h : o = some r) (hp : P r) : Ok o P := ⟨r, h, hp⟩
def Gv (T : List Ent) (rt : Option FieldType) (xs : Nat → Int32) (Ln : Nat) (call : Call) (pc : Nat) (l : List (Option Value)) (st : List Value) (w : Om) (Q : Res → Prop) : Prop := ∃ r, Ev T rt xs Ln call pc l st w r ∧ Q r
section GV
variable {T : List Ent} {rt : Option FieldType} {xs : Nat → Int32} {Ln : Nat} {call : Call} {pc len a b : Nat} {v : Value} {l : List (Option Value)} {t : List Value} {w : Om} {Q : Res → Prop}
theorem Gv.nxt {e : Ent} {st st' : List Value} {pc' : Nat} {l' : List (Option Value)} {w' : Om} (hf : fnd T pc = some e) (hx : exec1 rt xs Ln call e l st w = some (.inl (pc', l', st', w'))) : Gv T rt xs Ln call pc l st w Q = Gv T rt xs Ln call pc' l' st' w' Q := by
  have h : ∀ r, Ev T rt xs Ln call pc l st w r = Ev T rt xs Ln call pc' l' st' w' r := fun r => Ev.nxt hf hx
  unfold Gv
  simp only [h]
theorem Gv.ifc {e : Ent} {st st1 st2 : List Value} {p1 p2 : Nat} {c : Prop} [hdc : Decidable c] (hf : fnd T pc = some e) (hx : exec1 rt xs Ln call e l st w = if c then some (.inl (p1, l, st1, w)) else some (.inl (p2, l, st2, w))) : Gv T rt xs Ln call pc l st w Q = if c then Gv T rt xs Ln call p1 l st1 w Q else Gv T rt xs Ln call p2 l st2 w Q := by
  by_cases h : c
  · rw [if_pos h] at hx ⊢
    exact Gv.nxt hf hx
  · rw [if_neg h] at hx ⊢
    exact Gv.nxt hf hx
theorem Gv.ret {st : List Value} {r' : Res} {e : Ent} (hf : fnd T pc = some e) (hx : exec1 rt xs Ln call e l st w = some (.inr r')) : Gv T rt xs Ln call pc l st w Q = Q r' := by
  have h : ∀ r, Ev T rt xs Ln call pc l st w r = (r = r') := fun r => Ev.rt hf hx
  unfold Gv
  simp only [h, exists_eq_left]
theorem Gv.cl {e : Ent} {st : List Value} {vv : Bool} {k n nx : Nat} {i : MInf} (hf : fnd T pc = some e) (hx : exec1 rt xs Ln call e l st w = xCall call vv k n nx l st w) (hn : n ≤ st.length) (hc : catS (st.drop n) ≤ 8) (hi : mI k = some i) (hr : vv = false ∨ rcv w (st.take n).reverse i.2.2.2.2 = true) : Gv T rt xs Ln call pc l st w Q = Ok (call k (st.take n).reverse w) (fun q => Gv T rt xs Ln call nx l (q.2.toList ++ st.drop n) q.1 Q) := by
  have h : ∀ r, Ev T rt xs Ln call pc l st w r = aft T rt xs Ln call nx l (st.drop n) r (call k (st.take n).reverse w) := fun r => Ev.cl hf hx hn hc hi hr
  unfold Gv
  simp only [h]
  apply propext
  constructor
  · rintro ⟨r, h1, h2⟩
    unfold aft at h1
    split at h1
    · rename_i q hq
      exact ⟨q, hq, r, h1, h2⟩
    · cases h1
  · rintro ⟨q, hq, r, h1, h2⟩
    refine ⟨r, ?_, h2⟩
    rw [hq]
    exact h1
theorem semG {d k : Nat} {as : List Value} {q : MInf} {lo : List (Option Value)} (hm : mI k = some q) (hT : cdT k = some T) (hl : (loA as).length ≤ q.2.2.1) (hlo : loOf q.2.2.1 as = lo) (h : Gv T q.2.2.2.1 xs Ln (callD xs Ln d) 0 lo [] w Q) : Ok (callD xs Ln (d + 1) k as w) Q := by
  obtain ⟨r, h1, h2⟩ := h
  exact ⟨r, semI hm hT hl hlo h1, h2⟩
theorem Y_div {i c : Nat} (ha : i < 2147483648) (h0 : 0 < c) (hb : c < 2147483648) : exec1 rt xs Ln call (pc, .idiv, len, a, b, v) l (.int (nI c) :: .int (nI i) :: t) w = some (.inl (pc + len, l, .int (nI (i / c)) :: t, w)) := by
  have h := nI_ne0 h0 hb
  simp only [exec1, pI2, if_neg h, pk_div ha h0 hb, go1]
theorem Y_rem {i c : Nat} (ha : i < 2147483648) (h0 : 0 < c) (hb : c < 2147483648) : exec1 rt xs Ln call (pc, .irem, len, a, b, v) l (.int (nI c) :: .int (nI i) :: t) w = some (.inl (pc + len, l, .int (nI (i % c)) :: t, w)) := by
  have h := nI_ne0 h0 hb
  simp only [exec1, pI2, if_neg h, pk_rem ha h0 hb, go1]
theorem Y_nm {i : Nat} (hi : i < 66) : exec1 rt xs Ln call (pc, .baload, len, a, b, v) l (.int (nI i) :: .retAddr 2 :: t) w = some (.inl (pc + len, l, .int (nmB i) :: t, w)) := by
  have h := n_bd hi (by decide)
  show (if ¬ (nI i < 0 ∨ 66 ≤ (nI i).toNatClampNeg) then go1 (pc + len) l (.int (nmB (nI i).toNatClampNeg) :: t) w else none) = _
  rw [if_pos h, n_cl (show i < 2147483648 by omega)]
  rfl
section YW
variable {D : Dyn} {I : Nat → Nat → Int32} {L : Nat → Nat → Int64}
theorem Y_iald {k n i : Nat} (hk : shF D k = .inl (.int, n)) (hi : i < n) (hn : n < 2147483648) : exec1 rt xs Ln call (pc, .iaload, len, a, b, v) l (.int (nI i) :: .ref k :: t) (mkW D I L) = some (.inl (pc + len, l, .int (I k i) :: t, mkW D I L)) := by
  have h := X_iald (rt := rt) (xs := xs) (Ln := Ln) (call := call) (pc := pc) (len := len) (a := a) (b := b) (v := v) (l := l) (t := t) (w := mkW D I L) (i := nI i) hk (n_bd hi hn)
  rw [n_cl (by omega)] at h
  exact h
theorem Y_lald {k n i : Nat} (hk : shF D k = .inl (.long, n)) (hi : i < n) (hn : n < 2147483648) : exec1 rt xs Ln call (pc, .laload, len, a, b, v) l (.int (nI i) :: .ref k :: t) (mkW D I L) = some (.inl (pc + len, l, .long (L k i) :: t, mkW D I L)) := by
  have h := X_lald (rt := rt) (xs := xs) (Ln := Ln) (call := call) (pc := pc) (len := len) (a := a) (b := b) (v := v) (l := l) (t := t) (w := mkW D I L) (i := nI i) hk (n_bd hi hn)
  rw [n_cl (by omega)] at h
  exact h
theorem Y_bald {k n i : Nat} {ty : FieldType} (hk : shF D k = .inl (ty, n)) (hty : ty = .byte ∨ ty = .boolean) (hi : i < n) (hn : n < 2147483648) : exec1 rt xs Ln call (pc, .baload, len, a, b, v) l (.int (nI i) :: .ref k :: t) (mkW D I L) = some (.inl (pc + len, l, .int (I k i) :: t, mkW D I L)) := by
  have h := X_bald (rt := rt) (xs := xs) (Ln := Ln) (call := call) (pc := pc) (len := len) (a := a) (b := b) (v := v) (l := l) (t := t) (w := mkW D I L) (i := nI i) hk hty (n_bd hi hn)
  rw [n_cl (by omega)] at h
  exact h
theorem Y_aald {k n i : Nat} {ty : FieldType} (hk : shF D k = .inl (ty, n)) (hty : elK ty ≠ 99) (hi : i < n) (hn : n < 2147483648) : exec1 rt xs Ln call (pc, .aaload, len, a, b, v) l (.int (nI i) :: .ref k :: t) (mkW D I L) = some (.inl (pc + len, l, rfv (pF D k i) :: t, mkW D I L)) := by
  have h := X_aald (rt := rt) (xs := xs) (Ln := Ln) (call := call) (pc := pc) (len := len) (a := a) (b := b) (v := v) (l := l) (t := t) (w := mkW D I L) (i := nI i) hk hty (n_bd hi hn)
  rw [n_cl (by omega)] at h
  exact h
theorem Y_iast {k n i : Nat} {x : Int32} (hk : shF D k = .inl (.int, n)) (hi : i < n) (hn : n < 2147483648) : exec1 rt xs Ln call (pc, .iastore, len, a, b, v) l (.int x :: .int (nI i) :: .ref k :: t) (mkW D I L) = some (.inl (pc + len, l, t, mkW D (up2 I k i x) L)) := by
  have h := X_iast (rt := rt) (xs := xs) (Ln := Ln) (call := call) (pc := pc) (len := len) (a := a) (b := b) (v := v) (l := l) (t := t) (w := mkW D I L) (i := nI i) (x := x) hk (n_bd hi hn)
  rw [n_cl (by omega)] at h
  exact h
theorem Y_last {k n i : Nat} {x : Int64} (hk : shF D k = .inl (.long, n)) (hi : i < n) (hn : n < 2147483648) : exec1 rt xs Ln call (pc, .lastore, len, a, b, v) l (.long x :: .int (nI i) :: .ref k :: t) (mkW D I L) = some (.inl (pc + len, l, t, mkW D I (up2 L k i x))) := by
  have h := X_last (rt := rt) (xs := xs) (Ln := Ln) (call := call) (pc := pc) (len := len) (a := a) (b := b) (v := v) (l := l) (t := t) (w := mkW D I L) (i := nI i) (x := x) hk (n_bd hi hn)
  rw [n_cl (by omega)] at h
  exact h
theorem Y_bast {k n i : Nat} {x : Int32} {ty : FieldType} (hk : shF D k = .inl (ty, n)) (hty : ty = .byte ∨ ty = .boolean) (hi : i < n) (hn : n < 2147483648) : exec1 rt xs Ln call (pc, .bastore, len, a, b, v) l (.int x :: .int (nI i) :: .ref k :: t) (mkW D I L) = some (.inl (pc + len, l, t, mkW D (up2 I k i (vp_nar ty x)) L)) := by
  have h := X_bast (rt := rt) (xs := xs) (Ln := Ln) (call := call) (pc := pc) (len := len) (a := a) (b := b) (v := v) (l := l) (t := t) (w := mkW D I L) (i := nI i) (x := x) hk hty (n_bd hi hn)
  rw [n_cl (by omega)] at h
  exact h
def dNew (D : Dyn) (sh : Sh) (n : Nat) : Dyn := (D.1 + 1, D.2.1 + n, up1 D.2.2.1 (103 + D.1) sh, upr D.2.2.2 (103 + D.1) (fun _ => none))
def dPutN (D : Dyn) (k j : Nat) (q : Option Nat) : Dyn := (D.1, D.2.1, D.2.2.1, up2 D.2.2.2 k j q)
abbrev dPut (D : Dyn) (k j q : Nat) : Dyn := dPutN D k j (some q)
theorem p0_hi {k : Nat} (h : 103 ≤ k) (j : Nat) : p0 k j = none := by
  unfold p0
  split <;> first | omega | rfl
theorem sh_new (D : Dyn) (sh : Sh) (n : Nat) : up1 (shF D) (103 + D.1) sh = shF (dNew D sh n) := by
  funext k
  unfold up1 shF dNew
  by_cases h : k < 103
  · rw [if_neg (by omega), if_pos h, if_pos h]
  · rw [if_neg h, if_neg h]
    unfold up1
    rfl
theorem pF_new (D : Dyn) (sh : Sh) (n : Nat) : upr (pF D) (103 + D.1) (fun _ => none) = pF (dNew D sh n) := by
  funext k j
  by_cases h : k = 103 + D.1
  · have e : pF (dNew D sh n) k j = none := by
      unfold pF
      rw [p0_hi (by omega)]
      simp [dNew, upr, h]
    rw [e]
    simp [upr, h]
  · have e : (dNew D sh n).2.2.2 k = D.2.2.2 k := by simp [dNew, upr, h]
    have e2 : upr (pF D) (103 + D.1) (fun _ => none) k j = pF D k j := by simp [upr, h]
    rw [e2]
    simp only [pF, e]
theorem pF_put (D : Dyn) {k j : Nat} (q : Option Nat) (h : p0 k j = none) : up2 (pF D) k j q = pF (dPutN D k j q) := by
  funext k' j'
  by_cases h1 : k' = k
  · subst h1
    by_cases h2 : j' = j
    · subst h2
      unfold pF dPutN
      rw [up2_s, h]
      dsimp only
      rw [up2_s]
    · unfold pF dPutN
      rw [up2_j _ _ _ h2]
      dsimp only
      rw [up2_j _ _ _ h2]
  · unfold pF dPutN
    rw [up2_k _ _ _ _ h1]
    dsimp only
    rw [up2_k _ _ _ _ h1]
theorem mk_new (D : Dyn) (I : Nat → Nat → Int32) (L : Nat → Nat → Int64) (sh : Sh) (n : Nat) : mk (mkW D I L) sh n = mkW (dNew D sh n) (upr I (103 + D.1) (fun _ => 0)) (upr L (103 + D.1) (fun _ => 0)) := by
  show ((103 + D.1 + 1, D.2.1 + n, up1 (shF D) (103 + D.1) sh, upr I (103 + D.1) (fun _ => 0), upr L (103 + D.1) (fun _ => 0), upr (pF D) (103 + D.1) (fun _ => none)) : Om) = _
  rw [sh_new D sh n, pF_new D sh n]
  rfl
theorem Y_newa {at' : ArrayType} {ty : FieldType} {n : Nat} (h : n ≤ 1000000) (hty : aTy at' = some ty) : exec1 rt xs Ln call (pc, .newarray at', len, a, b, v) l (.int (nI n) :: t) (mkW D I L) = some (.inl (pc + len, l, .ref (103 + D.1) :: t, mkW (dNew D (.inl (ty, n)) n) (upr I (103 + D.1) (fun _ => 0)) (upr L (103 + D.1) (fun _ => 0)))) := by
  have h1 : ¬ nI n < 0 ∧ (nI n).toNatClampNeg ≤ 1000000 := by
    rw [n_cl (by omega)]
    exact ⟨nI_pos (by omega), h⟩
  simp only [exec1, pI1, hty, if_pos h1]
  rw [n_cl (by omega), mk_new]
  rfl
theorem Y_new {x : Nat} (h : Nat.blt a 12 = true) : exec1 rt xs Ln call (pc, .new x, len, a, b, v) l t (mkW D I L) = some (.inl (pc + len, l, .ref (103 + D.1) :: t, mkW (dNew D (.inr a) (nF a)) (upr I (103 + D.1) (fun _ => 0)) (upr L (103 + D.1) (fun _ => 0)))) := by
  have h1 : a < 12 := by rw [← Nat.blt_eq]; exact h
  simp only [exec1, if_pos h1]
  rw [mk_new]
  rfl
theorem Y_cast {x k n : Nat} (hk : shF D k = .inl (.int, n)) : exec1 rt xs Ln call (pc, .checkcast x, len, a, b, v) l (.ref k :: t) (mkW D I L) = some (.inl (pc + len, l, .ref k :: t, mkW D I L)) := by
  have hk' : oH (mkW D I L) k = .inl (.int, n) := hk
  simp only [exec1, pA, hk']
  rfl
theorem Y_clone {x k n : Nat} (hk : shF D k = .inl (.int, n)) (ht : catS t ≤ 8) : exec1 rt xs Ln call (pc, .invokevirtual x, len, 1002, b, v) l (.ref k :: t) (mkW D I L) = some (.inl (pc + len, l, .ref (103 + D.1) :: t, mkW (dNew D (.inl (.int, n)) n) (upr I (103 + D.1) (I k)) (upr L (103 + D.1) (fun _ => 0)))) := by
  have hk' : oH (mkW D I L) k = .inl (.int, n) := hk
  show xClone (pc + len) l (.ref k :: t) (mkW D I L) = _
  unfold xClone pA
  dsimp only
  rw [hk']
  dsimp only
  rw [if_pos ⟨rfl, ht⟩]
  show (some (Sum.inl (pc + len, l, .ref (103 + D.1) :: t, ((103 + D.1 + 1, D.2.1 + n, up1 (shF D) (103 + D.1) (.inl (.int, n)), upr I (103 + D.1) (I k), upr L (103 + D.1) (fun _ => 0), upr (pF D) (103 + D.1) (fun _ => none)) : Om))) : Option (Cfg ⊕ Res)) = _
  rw [sh_new D _ n, pF_new D (.inl (.int, n)) n]
  rfl
theorem Y_putP {x k q : Nat} (h : isObj (mkW D I L) k a = true) (ho : okV (tyOf a b) (.ref q) = true) (h3 : p0 k b = none) : exec1 rt xs Ln call (pc, .putfield x, len, a, b, v) l (.ref q :: .ref k :: t) (mkW D I L) = some (.inl (pc + len, l, t, mkW (dPut D k b q) I L)) := by
  have hw : wV (mkW D I L) k b (.ref q) = some (mkW (dPut D k b q) I L) := by
    show some (((103 + D.1), D.2.1, shF D, I, L, up2 (pF D) k b (some q)) : Om) = _
    rw [pF_put D (some q) h3]
    rfl
  exact X_put h ho hw
theorem Y_aastz {k n i : Nat} {ty : FieldType} (hk : shF D k = .inl (ty, n)) (hty : elK ty ≠ 99) (hi : i < n) (hn : n < 2147483648) (h3 : p0 k i = none) : exec1 rt xs Ln call (pc, .aastore, len, a, b, v) l (.null :: .int (nI i) :: .ref k :: t) (mkW D I L) = some (.inl (pc + len, l, t, mkW (dPutN D k i none) I L)) := by
  have hk' : oH (mkW D I L) k = .inl (ty, n) := hk
  have hb := n_bd hi hn
  simp only [exec1, pI1, pR1, pV1, pA, hk']
  rw [if_pos ⟨hty, hb⟩, n_cl (by omega)]
  show (some (Sum.inl (pc + len, l, t, (((103 + D.1), D.2.1, shF D, I, L, up2 (pF D) k i none) : Om))) : Option (Cfg ⊕ Res)) = _
  rw [pF_put D none h3]
  rfl
theorem Y_aastr {k n i q : Nat} {ty : FieldType} (hk : shF D k = .inl (ty, n)) (hty : elK ty ≠ 99) (hi : i < n) (hn : n < 2147483648) (h3 : p0 k i = none) (ho : isObj (mkW D I L) q (elK ty) = true) : exec1 rt xs Ln call (pc, .aastore, len, a, b, v) l (.ref q :: .int (nI i) :: .ref k :: t) (mkW D I L) = some (.inl (pc + len, l, t, mkW (dPutN D k i (some q)) I L)) := by
  have hk' : oH (mkW D I L) k = .inl (ty, n) := hk
  have hb := n_bd hi hn
  simp only [exec1, pI1, pR1, pV1, pA, hk']
  rw [if_pos ⟨hty, hb⟩]
  simp only [ho, if_true]
  rw [n_cl (by omega)]
  show (some (Sum.inl (pc + len, l, t, (((103 + D.1), D.2.1, shF D, I, L, up2 (pF D) k i (some q)) : Om))) : Option (Cfg ⊕ Res)) = _
  rw [pF_put D (some q) h3]
  rfl
theorem Y_copy {x k0 k n0 n1 i j c : Nat} (h0 : shF D k0 = .inl (.int, n0)) (h1 : shF D k = .inl (.int, n1)) (ha : i + c ≤ n0) (hb : j + c ≤ n1) (hna : n0 < 2147483648) (hnb : n1 < 2147483648) (ht : catS t ≤ 8) : exec1 rt xs Ln call (pc, .invokestatic x, len, 1001, b, v) l (.int (nI c) :: .int (nI j) :: .ref k :: .int (nI i) :: .ref k0 :: t) (mkW D I L) = some (.inl (pc + len, l, t, mkW D (upr I k (cpy (I k0) (I k) i j c)) L)) := by
  have h := X_copy (rt := rt) (xs := xs) (Ln := Ln) (call := call) (pc := pc) (len := len) (b := b) (v := v) (l := l) (t := t) (w := mkW D I L) (x := x) (sp := nI i) (dp := nI j) (n := nI c) h0 h1 (by rw [n_cl (by omega), n_cl (by omega), n_cl (by omega)]; exact ⟨nI_pos (by omega), nI_pos (by omega), nI_pos (by omega), ha, hb⟩) ht
  rw [n_cl (by omega), n_cl (by omega), n_cl (by omega)] at h
  exact h
end YW
end GV
/-- a loop that counts -/
theorem Lp {σ : Sort _} {n : Nat} {E Inv : Nat → σ → Prop} (hx : ∀ s, Inv n s → E n s) (hs : ∀ i s, i < n → Inv i s → (∀ s', Inv (i + 1) s' → E (i + 1) s') → E i s) : ∀ i s, i ≤ n → Inv i s → E i s := by
  have : ∀ m i s, n - i = m → i ≤ n → Inv i s → E i s := by
    intro m
    induction m with
    | zero =>
      intro i s h hi hv
      have : i = n := by omega
      subst this
      exact hx s hv
    | succ m ih =>
      intro i s h hi hv
      exact hs i s (by omega) hv (fun s' hv' => ih (i + 1) s' (by omega) (by omega) hv')
  intro i s hi hv
  exact this (n - i) i s rfl hi hv
/-- a loop whose measure falls -/
theorem Wl {σ : Sort _} (m : σ → Nat) {E Inv : σ → Prop} (hs : ∀ s, Inv s → (∀ s', m s' < m s → Inv s' → E s') → E s) : ∀ s, Inv s → E s := by
  have : ∀ n s, m s < n → Inv s → E s := by
    intro n
    induction n with
    | zero => intro s h; omega
    | succ n ih =>
      intro s h hv
      exact hs s hv (fun s' hm hv' => ih s' (by omega) hv')
  intro s hv
  exact this (m s + 1) s (by omega) hv
