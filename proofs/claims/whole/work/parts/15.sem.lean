/-! What a method answers, without the fuel: Ev, and the calls by depth: callD. -/
def Ev (T : List Ent) (rt : Option FieldType) (xs : Nat → Int32) (Ln : Nat) (call : Call) (pc : Nat) (l : List (Option Value)) (st : List Value) (w : Om) (r : Res) : Prop := ∃ n, run T rt xs Ln call n pc l st w = some r
theorem run_more {T : List Ent} {rt : Option FieldType} {xs : Nat → Int32} {Ln : Nat} {call : Call} {r : Res} : ∀ (n pc : Nat) (l : List (Option Value)) (st : List Value) (w : Om), run T rt xs Ln call n pc l st w = some r → run T rt xs Ln call (n + 1) pc l st w = some r := by
  intro n
  induction n with
  | zero => intro pc l st w h; cases h
  | succ n ih =>
    intro pc l st w h
    rw [run_succ] at h ⊢
    split at h
    · cases h
    · split at h
      · cases h
      · exact h
      · rename_i hex
        exact ih _ _ _ _ h
theorem run_add {T : List Ent} {rt : Option FieldType} {xs : Nat → Int32} {Ln : Nat} {call : Call} {r : Res} {n pc : Nat} {l : List (Option Value)} {st : List Value} {w : Om} (h : run T rt xs Ln call n pc l st w = some r) : ∀ k, run T rt xs Ln call (n + k) pc l st w = some r
  | 0 => h
  | k + 1 => run_more _ _ _ _ _ (run_add h k)
theorem Ev.one {T : List Ent} {rt : Option FieldType} {xs : Nat → Int32} {Ln : Nat} {call : Call} {pc : Nat} {l : List (Option Value)} {st : List Value} {w : Om} {r r' : Res} (h : Ev T rt xs Ln call pc l st w r) (h' : Ev T rt xs Ln call pc l st w r') : r = r' := by
  obtain ⟨n, h⟩ := h
  obtain ⟨k, h'⟩ := h'
  have h1 := run_add h k
  have h2 := run_add h' n
  rw [Nat.add_comm] at h2
  exact Option.some.inj (h1.symm.trans h2)
/-- one instruction -/
theorem Ev.nx {T : List Ent} {rt : Option FieldType} {xs : Nat → Int32} {Ln : Nat} {call : Call} {pc : Nat} {l : List (Option Value)} {st : List Value} {w : Om} {r : Res} {e : Ent} {q : Cfg} (hf : fnd T pc = some e) (hx : exec1 rt xs Ln call e l st w = some (.inl q)) : Ev T rt xs Ln call pc l st w r = Ev T rt xs Ln call q.1 q.2.1 q.2.2.1 q.2.2.2 r := by
  apply propext
  constructor
  · rintro ⟨n, h⟩
    cases n with
    | zero => cases h
    | succ n =>
      rw [run_succ, hf] at h
      dsimp only at h
      rw [hx] at h
      exact ⟨n, h⟩
  · rintro ⟨n, h⟩
    refine ⟨n + 1, ?_⟩
    rw [run_succ, hf]
    dsimp only
    rw [hx]
    exact h
theorem Ev.rt {T : List Ent} {rt : Option FieldType} {xs : Nat → Int32} {Ln : Nat} {call : Call} {pc : Nat} {l : List (Option Value)} {st : List Value} {w : Om} {r r' : Res} {e : Ent} (hf : fnd T pc = some e) (hx : exec1 rt xs Ln call e l st w = some (.inr r')) : Ev T rt xs Ln call pc l st w r = (r = r') := by
  apply propext
  constructor
  · rintro ⟨n, h⟩
    cases n with
    | zero => cases h
    | succ n =>
      rw [run_succ, hf] at h
      dsimp only at h
      rw [hx] at h
      exact (Option.some.inj h).symm
  · rintro rfl
    refine ⟨1, ?_⟩
    rw [run_succ, hf]
    dsimp only
    rw [hx]
def loA : List Value → List (Option Value)
  | [] => []
  | v :: t => if v.category = 2 then some v :: none :: loA t else some v :: loA t
def loOf (nL : Nat) (as : List Value) : List (Option Value) := loA as ++ List.replicate (nL - (loA as).length) none
def Sem (xs : Nat → Int32) (Ln : Nat) (call : Call) (a : Nat) (as : List Value) (w : Om) (r : Res) : Prop := match mI a, cdT a with
  | some q, some T => (loA as).length ≤ q.2.2.1 ∧ Ev T q.2.2.2.1 xs Ln call 0 (loOf q.2.2.1 as) [] w r
  | _, _ => False
theorem Sem.one {xs : Nat → Int32} {Ln : Nat} {call : Call} {a : Nat} {as : List Value} {w : Om} {r r' : Res} (h : Sem xs Ln call a as w r) (h' : Sem xs Ln call a as w r') : r = r' := by
  unfold Sem at h h'
  split at h
  · rename_i q T hq hT
    rw [hq, hT] at h'
    exact h.2.one h'.2
  · cases h
noncomputable def callD (xs : Nat → Int32) (Ln : Nat) : Nat → Call
  | 0 => fun _ _ _ => none
  | d + 1 => fun a as w => @dite _ (∃ r, Sem xs Ln (callD xs Ln d) a as w r) (Classical.propDecidable _) (fun h => some (Classical.choose h)) (fun _ => none)
theorem callD_succ {xs : Nat → Int32} {Ln d a : Nat} {as : List Value} {w : Om} : callD xs Ln (d + 1) a as w = @dite _ (∃ r, Sem xs Ln (callD xs Ln d) a as w r) (Classical.propDecidable _) (fun h => some (Classical.choose h)) (fun _ => none) := rfl
theorem callD_iff {xs : Nat → Int32} {Ln d a : Nat} {as : List Value} {w : Om} {r : Res} : callD xs Ln (d + 1) a as w = some r ↔ Sem xs Ln (callD xs Ln d) a as w r := by
  rw [callD_succ]
  constructor
  · intro h
    split at h
    · rename_i h1
      cases h
      exact Classical.choose_spec h1
    · cases h
  · intro h
    have h1 : ∃ r, Sem xs Ln (callD xs Ln d) a as w r := ⟨r, h⟩
    rw [dif_pos h1]
    exact congrArg some ((Classical.choose_spec h1).one h)
def CallLe (c c' : Call) : Prop := ∀ a as w r, c a as w = some r → c' a as w = some r
theorem xCall_le {c c' : Call} (h : CallLe c c') {v : Bool} {a b pc : Nat} {l : List (Option Value)} {st : List Value} {w : Om} {o : Cfg ⊕ Res} (hx : xCall c v a b pc l st w = some o) : xCall c' v a b pc l st w = some o := by
  unfold xCall at hx ⊢
  obtain ⟨h1, h2⟩ := ite_s hx
  rw [if_pos h1]
  split at h2
  · rename_i q hq
    obtain ⟨h3, h4⟩ := ite_s h2
    rw [if_pos h3]
    split at h4
    · rename_i w' r hc
      rw [h _ _ _ _ hc]
      exact h4
    · cases h4
  · cases h2
theorem exec1_le {c c' : Call} (h : CallLe c c') {rt : Option FieldType} {xs : Nat → Int32} {Ln : Nat} {e : Ent} {l : List (Option Value)} {st : List Value} {w : Om} {o : Cfg ⊕ Res} (hx : exec1 rt xs Ln c e l st w = some o) : exec1 rt xs Ln c' e l st w = some o := by
  obtain ⟨pc, i, len, a, bb, v⟩ := e
  cases i <;> first | exact hx | skip
  all_goals simp only [exec1] at hx ⊢
  · split at hx
    · rename_i ha
      rw [if_pos ha]
      exact hx
    · rename_i ha
      rw [if_neg ha]
      exact xCall_le h hx
  · split at hx
    · rename_i ha
      rw [if_pos ha]
      exact hx
    · rename_i ha
      rw [if_neg ha]
      split at hx
      · rename_i hb
        rw [if_pos hb]
        exact hx
      · rename_i hb
        rw [if_neg hb]
        split at hx
        · rename_i hc
          rw [if_pos hc]
          exact hx
        · rename_i hc
          rw [if_neg hc]
          exact xCall_le h hx
  · split at hx
    · rename_i ha
      rw [if_pos ha]
      exact hx
    · rename_i ha
      rw [if_neg ha]
      exact xCall_le h hx
theorem run_le {c c' : Call} (h : CallLe c c') {T : List Ent} {rt : Option FieldType} {xs : Nat → Int32} {Ln : Nat} {r : Res} : ∀ (n pc : Nat) (l : List (Option Value)) (st : List Value) (w : Om), run T rt xs Ln c n pc l st w = some r → run T rt xs Ln c' n pc l st w = some r := by
  intro n
  induction n with
  | zero => intro pc l st w h; cases h
  | succ n ih =>
    intro pc l st w hr
    rw [run_succ] at hr ⊢
    split at hr
    · cases hr
    · split at hr
      · cases hr
      · rename_i hex
        rw [exec1_le h hex]
        exact hr
      · rename_i hex
        rw [exec1_le h hex]
        exact ih _ _ _ _ hr
theorem Sem.le {c c' : Call} (h : CallLe c c') {xs : Nat → Int32} {Ln : Nat} {a : Nat} {as : List Value} {w : Om} {r : Res} (hs : Sem xs Ln c a as w r) : Sem xs Ln c' a as w r := by
  unfold Sem at hs ⊢
  split at hs
  · obtain ⟨h1, n, h2⟩ := hs
    exact ⟨h1, n, run_le h _ _ _ _ _ h2⟩
  · cases hs
theorem callD_le1 (xs : Nat → Int32) (Ln : Nat) : ∀ d, CallLe (callD xs Ln d) (callD xs Ln (d + 1))
  | 0 => fun a as w r h => by cases h
  | d + 1 => fun a as w r h => callD_iff.mpr ((callD_iff.mp h).le (callD_le1 xs Ln d))
theorem callD_le {xs : Nat → Int32} {Ln d : Nat} {a : Nat} {as : List Value} {w : Om} {r : Res} (h : callD xs Ln d a as w = some r) : ∀ k, callD xs Ln (d + k) a as w = some r
  | 0 => h
  | k + 1 => callD_le1 xs Ln (d + k) a as w r (callD_le h k)
theorem callD_up {xs : Nat → Int32} {Ln d d' : Nat} {a : Nat} {as : List Value} {w : Om} {r : Res} (h : callD xs Ln d a as w = some r) (hd : d ≤ d') : callD xs Ln d' a as w = some r := by
  rw [show d' = d + (d' - d) by omega]
  exact callD_le h _
