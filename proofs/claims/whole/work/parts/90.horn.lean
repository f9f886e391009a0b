section P90
variable {xs : Nat → Int32} {Ln d : Nat} {D : Dyn} {I : Nat → Nat → Int32} {L : Nat → Nat → Int64} {w : Om}
-- horn
def unb (a : Nat → Nat) (e w : Nat) : Bool := !brA a w e
def hnC (a : Nat → Nat) (e : Nat) : Nat := cntB (unb a e) (a 4321)
def hnP (a : Nat → Nat) (e r : Nat) : Nat := match lst (fun w => unb a e w && decide (cntB (unb a e) w = r)) (a 4321) with
  | some w => w
  | none => 0
theorem cntB_hit (p : Nat → Bool) : ∀ n v, v < cntB p n → ∃ i, i < n ∧ p i = true ∧ cntB p i = v
  | 0, v, h => by
    have : cntB p 0 = 0 := rfl
    omega
  | n + 1, v, h => by
    rw [cntB_s] at h
    by_cases h1 : v < cntB p n
    · obtain ⟨i, h2, h3⟩ := cntB_hit p n v h1
      exact ⟨i, by omega, h3⟩
    · cases h2 : p n
      · rw [h2, if_neg (by decide)] at h
        omega
      · rw [h2, if_pos rfl] at h
        exact ⟨n, by omega, h2, by omega⟩
theorem hnP_s {a : Nat → Nat} {e r : Nat} (h : r < hnC a e) : hnP a e r < a 4321 ∧ brA a (hnP a e r) e = false ∧ cntB (unb a e) (hnP a e r) = r ∧ ∀ i, i < hnP a e r → brA a i e = true ∨ cntB (unb a e) i < r := by
  have hx : ∃ i, lst (fun w => unb a e w && decide (cntB (unb a e) w = r)) (a 4321) = some i := by
    cases hl : lst (fun w => unb a e w && decide (cntB (unb a e) w = r)) (a 4321) with
    | some i => exact ⟨i, rfl⟩
    | none =>
      have hn := (lst_n _ _).mp hl
      obtain ⟨i, q1, q2, q3⟩ := cntB_hit (unb a e) (a 4321) r h
      have := hn i q1
      rw [q2, decide_eq_true q3] at this
      cases this
  obtain ⟨i, hi⟩ := hx
  have he : hnP a e r = i := by unfold hnP; rw [hi]
  rw [he]
  obtain ⟨q1, q2, q3⟩ := (lst_s _ _ _).mp hi
  rw [Bool.and_eq_true] at q2
  have q4 := of_decide_eq_true q2.2
  refine ⟨q1, ?_, q4, fun j hj => ?_⟩
  · have := q2.1
    unfold unb at this
    cases hb : brA a i e
    · rfl
    · rw [hb] at this; cases this
  · have h3 := q3 j hj
    cases hb : brA a j e
    · refine Or.inr ?_
      have hu : unb a e j = true := by unfold unb; rw [hb]; rfl
      rw [hu, Bool.true_and] at h3
      have h3 := of_decide_eq_false h3
      have hm : ∀ n, j ≤ n → cntB (unb a e) j ≤ cntB (unb a e) n := by
        intro n
        induction n with
        | zero =>
          intro hn
          rw [show j = 0 by omega]
          exact Nat.le_refl _
        | succ n ih =>
          intro hn
          by_cases e0 : j = n + 1
          · rw [e0]; exact Nat.le_refl _
          · have := ih (by omega)
            rw [cntB_s]
            omega
      have := hm i (by omega)
      omega
    · exact Or.inl rfl
def hnS (s : Nat) : Nat := (1103 * s + 12345) % 1000003
def hnI (a : Nat → Nat) (s : Nat) : Nat → Nat × Nat × (Nat → Nat)
  | 0 => (s, a 4327, fun i => a (140 + 2 * i))
  | n + 1 => (hnS (hnI a s n).1, dbA a (hnP a (hnI a s n).2.1 (hnS (hnI a s n).1 % hnC a (hnI a s n).2.1)) (hnI a s n).2.1, fun i => goA a (a (140 + 2 * i + 1)) (hnP a (hnI a s n).2.1 (hnS (hnI a s n).1 % hnC a (hnI a s n).2.1)) (hnI a s n).2.1 ((hnI a s n).2.2 i))
theorem hnI_s (a : Nat → Nat) (s n : Nat) : hnI a s (n + 1) = (hnS (hnI a s n).1, dbA a (hnP a (hnI a s n).2.1 (hnS (hnI a s n).1 % hnC a (hnI a s n).2.1)) (hnI a s n).2.1, fun i => goA a (a (140 + 2 * i + 1)) (hnP a (hnI a s n).2.1 (hnS (hnI a s n).1 % hnC a (hnI a s n).2.1)) (hnI a s n).2.1 ((hnI a s n).2.2 i)) := id rfl
def hnK (a : Nat → Nat) (s n : Nat) : Nat := match lst (fun i => decide (hnC a (hnI a s i).2.1 = 0)) n with
  | some i => i
  | none => n
theorem hnK_s {a : Nat → Nat} {s n i : Nat} (hi : i < n) (h0 : hnC a (hnI a s i).2.1 = 0) (h : ∀ j, j < i → hnC a (hnI a s j).2.1 ≠ 0) : hnK a s n = i := by
  have : lst (fun i => decide (hnC a (hnI a s i).2.1 = 0)) n = some i := (lst_s _ _ _).mpr ⟨hi, decide_eq_true h0, fun j hj => decide_eq_false (h j hj)⟩
  unfold hnK
  rw [this]
theorem hnK_n {a : Nat → Nat} {s n : Nat} (h : ∀ j, j < n → hnC a (hnI a s j).2.1 ≠ 0) : hnK a s n = n := by
  have : lst (fun i => decide (hnC a (hnI a s i).2.1 = 0)) n = none := (lst_n _ _).mpr (fun j hj => decide_eq_false (h j hj))
  unfold hnK
  rw [this]
theorem hnI_b {a : Nat → Nat} (hA : AW a) {s : Nat} (hs : s ≤ 1000002) : ∀ n, (∀ j, j < n → hnC a (hnI a s j).2.1 ≠ 0) → (hnI a s n).1 ≤ 1000002 ∧ (hnI a s n).2.1 < 8 ∧ ∀ i, i < a 4322 → (hnI a s n).2.2 i < a 4320
  | 0, _ => ⟨hs, hA.2.2.2.2.2.2.2.1, fun i hi => (hA.2.2.2.2.2.2.2.2.2.2.2.2.1 i hi).1⟩
  | n + 1, h => by
    obtain ⟨h1, h2, h3⟩ := hnI_b hA hs n (fun j hj => h j (by omega))
    have h0 := h n (by omega)
    have hp := (hnP_s (a := a) (e := (hnI a s n).2.1) (r := hnS (hnI a s n).1 % hnC a (hnI a s n).2.1) (Nat.mod_lt _ (by omega))).1
    rw [hnI_s]
    refine ⟨?_, dbA_lt hA hp h2, fun i hi => goA_lt hA (hA.2.2.2.2.2.2.2.2.2.2.2.2.1 i hi).2 hp (h3 i hi)⟩
    show hnS _ ≤ _
    unfold hnS
    omega
end P90
