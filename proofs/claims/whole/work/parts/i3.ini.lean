section Pi3
/-! constructors run by the kernel -/
def nSc (i : Instr) : Bool := match i with
  | .iaload => false
  | .arraylength => false
  | _ => true
theorem exec1_x {rt : Option FieldType} {xs xs' : Nat → Int32} {Ln Ln' : Nat} {c : Call} {e : Ent} {l : List (Option Value)} {st : List Value} {w : Om} (h : nSc e.2.1 = true) : exec1 rt xs Ln c e l st w = exec1 rt xs' Ln' c e l st w := by
  obtain ⟨pc, i, len, a, bb, v⟩ := e
  cases i <;> first | rfl | cases h
def runX (T : List Ent) (rt : Option FieldType) (call : Call) : Nat → Nat → List (Option Value) → List Value → Om → Option Res
  | 0, _, _, _, _ => none
  | n + 1, pc, l, st, w => match fnd T pc with
    | none => none
    | some e => if nSc e.2.1 = true then (match exec1 rt (fun _ => 0) 0 call e l st w with
      | none => none
      | some (.inr r) => some r
      | some (.inl q) => runX T rt call n q.1 q.2.1 q.2.2.1 q.2.2.2) else none
theorem runX_s (T : List Ent) (rt : Option FieldType) (call : Call) (n pc : Nat) (l : List (Option Value)) (st : List Value) (w : Om) : runX T rt call (n + 1) pc l st w = match fnd T pc with
    | none => none
    | some e => if nSc e.2.1 = true then (match exec1 rt (fun _ => 0) 0 call e l st w with
      | none => none
      | some (.inr r) => some r
      | some (.inl q) => runX T rt call n q.1 q.2.1 q.2.2.1 q.2.2.2) else none := id rfl
theorem runX_le {c c' : Call} (h : CallLe c c') {T : List Ent} {rt : Option FieldType} {xs : Nat → Int32} {Ln : Nat} {r : Res} : ∀ (n pc : Nat) (l : List (Option Value)) (st : List Value) (w : Om), runX T rt c n pc l st w = some r → run T rt xs Ln c' n pc l st w = some r := by
  intro n
  induction n with
  | zero => intro pc l st w h; cases h
  | succ n ih =>
    intro pc l st w hr
    rw [runX_s] at hr
    rw [run_succ]
    split at hr
    · cases hr
    · rename_i e hf
      obtain ⟨hn, hr⟩ := ite_s hr
      rw [hf]
      dsimp only
      split at hr
      · cases hr
      · rename_i hex
        rw [exec1_le h ((exec1_x (xs := xs) (xs' := fun _ => 0) (Ln := Ln) (Ln' := 0) hn).trans hex)]
        exact hr
      · rename_i hex
        rw [exec1_le h ((exec1_x (xs := xs) (xs' := fun _ => 0) (Ln := Ln) (Ln' := 0) hn).trans hex)]
        exact ih _ _ _ _ hr
def cE : Nat → Call
  | 0 => fun _ _ _ => none
  | d + 1 => fun a as w => match mI a, cdT a with
    | some q, some T => if (loA as).length ≤ q.2.2.1 then runX T q.2.2.2.1 (cE d) 2000 0 (loOf q.2.2.1 as) [] w else none
    | _, _ => none
theorem cE_s (d a : Nat) (as : List Value) (w : Om) : cE (d + 1) a as w = match mI a, cdT a with
    | some q, some T => if (loA as).length ≤ q.2.2.1 then runX T q.2.2.2.1 (cE d) 2000 0 (loOf q.2.2.1 as) [] w else none
    | _, _ => none := id rfl
theorem cE_le {xs : Nat → Int32} {Ln : Nat} : ∀ d, CallLe (cE d) (callD xs Ln d)
  | 0 => fun a as w r h => by cases h
  | d + 1 => fun a as w r h => by
    rw [cE_s] at h
    refine callD_iff.mpr ?_
    unfold Sem
    split at h
    · rename_i q T hq hT
      rw [hq, hT]
      obtain ⟨h1, h2⟩ := ite_s h
      exact ⟨h1, 2000, runX_le (cE_le d) _ _ _ _ _ h2⟩
    · cases h
def w00 : Om := (0, 0, fun _ => .inr 99, fun _ _ => 0, fun _ _ => 0, fun _ _ => none)
def ky0 (i : Nat) : Nat := if i ≤ 4 then 29 + i else if i ≤ 10 then 31 + i else 33 + i
def ln0 (i : Nat) : Nat := if i = 0 then 0 else if i = 10 ∨ i = 16 then 128 else 16
def fl0 : List (Nat × Nat × Int32) := [(1, 0, 0), (1, 1, 0), (1, 2, 0), (1, 3, 0), (1, 4, -1), (1, 5, 0), (1, 6, 0), (11, 0, 0), (11, 1, 0), (79, 0, 0), (79, 1, 0), (0, 12, 0), (0, 14, 0), (0, 13, -1), (14, 0, 0), (50, 0, 0), (29, 2, 0), (29, 8, -1), (23, 0, 0), (34, 5, 0), (34, 3, -1), (42, 5, 0), (42, 3, -1), (82, 1, 0), (82, 27, -1), (82, 39, -1), (86, 0, 0), (86, 1, 0), (82, 0, 0), (82, 6, 0), (82, 11, -1), (82, 10, 0), (82, 41, -1)]
def rw0 : List (Nat × Nat) := [(26, 16), (27, 8), (28, 8), (80, 7), (15, 400), (30, 16), (36, 16), (44, 16), (83, 7), (88, 400)]
def pL0 : List (Nat × Nat × Nat) := [(0, 0, 1), (0, 1, 14), (0, 2, 16), (0, 3, 23), (0, 4, 29), (0, 5, 34), (0, 6, 42), (0, 7, 50), (0, 8, 52), (0, 9, 79), (0, 10, 80), (0, 11, 81), (1, 7, 2), (1, 8, 3), (1, 9, 4), (1, 10, 5), (1, 11, 6), (1, 12, 7), (1, 13, 8), (1, 14, 9), (1, 15, 10), (1, 16, 11), (11, 2, 12), (11, 3, 13), (14, 1, 15), (16, 0, 17), (16, 3, 21), (16, 4, 22), (17, 2, 18), (17, 3, 19), (17, 4, 20), (23, 1, 1), (23, 2, 24), (23, 3, 25), (23, 4, 26), (23, 5, 27), (23, 6, 28), (29, 9, 23), (34, 7, 23), (34, 8, 35), (42, 7, 23), (42, 8, 43), (50, 3, 51), (52, 0, 53), (52, 1, 66), (53, 7, 54), (53, 8, 55), (53, 9, 56), (53, 10, 57), (53, 11, 58), (53, 12, 59), (53, 13, 60), (53, 14, 61), (53, 15, 62), (53, 16, 63), (63, 2, 64), (63, 3, 65), (66, 7, 67), (66, 8, 68), (66, 9, 69), (66, 10, 70), (66, 11, 71), (66, 12, 72), (66, 13, 73), (66, 14, 74), (66, 15, 75), (66, 16, 76), (76, 2, 77), (76, 3, 78), (82, 2, 83), (82, 3, 84), (82, 4, 85), (82, 5, 86), (82, 7, 87), (82, 8, 88), (82, 9, 89), (82, 12, 90), (82, 13, 91), (82, 14, 92), (82, 22, 93), (82, 25, 94), (82, 26, 95), (82, 30, 96), (82, 31, 97), (82, 32, 98), (82, 33, 99), (82, 37, 100), (82, 38, 101), (82, 40, 102)]
def chB (p : Om → Bool) : Bool := match cE 4 85 [.ref 0] (mk w00 (.inr 10) (nF 10)) with
  | some (wB, none) => decide (oN wB = 82) && (match cE 2 159 [.ref 82] (mk wB (.inr 11) (nF 11)) with
    | some (w1, none) => p w1
    | _ => false)
  | _ => false
theorem chB_1 : chB (fun w => decide (oN w = 103) && decide (oS w ≤ 500000)) = true := by decide +kernel
theorem chB_2 : chB (fun w => allB (fun k => decide (oH w k = sh0 k)) 103) = true := by decide +kernel
theorem chB_3 : chB (fun w => fl0.all (fun x => decide (oI w x.1 x.2.1 = x.2.2))) = true := by decide +kernel
theorem chB_4 : chB (fun w => rw0.all (fun x => allB (fun j => decide (oI w x.1 j = 0)) x.2)) = true := by decide +kernel
theorem chB_at {p : Om → Bool} {wB w1 : Om} (h : chB p = true) (h1 : cE 4 85 [.ref 0] (mk w00 (.inr 10) (nF 10)) = some (wB, none)) (h2 : cE 2 159 [.ref 82] (mk wB (.inr 11) (nF 11)) = some (w1, none)) : p w1 = true := by
  unfold chB at h
  rw [h1] at h
  dsimp only at h
  rw [h2, Bool.and_eq_true] at h
  exact h.2
theorem chB_ex {p : Om → Bool} (h : chB p = true) : ∃ wB w1, cE 4 85 [.ref 0] (mk w00 (.inr 10) (nF 10)) = some (wB, none) ∧ oN wB = 82 ∧ cE 2 159 [.ref 82] (mk wB (.inr 11) (nF 11)) = some (w1, none) := by
  unfold chB at h
  split at h
  · rename_i wB hB
    rw [Bool.and_eq_true] at h
    obtain ⟨hn, h⟩ := h
    split at h
    · rename_i w1 h1
      exact ⟨wB, w1, hB, of_decide_eq_true hn, h1⟩
    · cases h
  · cases h
end Pi3
