section Ph0
variable {xs : Nat → Int32} {Ln d : Nat} {D D' D'' : Dyn} {I I' I'' J : Nat → Nat → Int32} {L : Nat → Nat → Int64} {w : Om} {Q : Res → Prop} {ow ow' ow'' ky ky' ky'' ln ln' ln'' a a' : Nat → Nat} {o be sr : Nat} {A A' : As} {nn : Nat}
/-! texts cut into tokens, in whole numbers -/
def nmN (i : Nat) : Nat := [108, 101, 97, 100, 115, 32, 98, 97, 114, 114, 101, 100, 32, 105, 102, 32, 111, 114, 32, 97, 110, 100, 32, 110, 111, 116, 32, 119, 111, 114, 100, 32, 112, 108, 97, 99, 101, 32, 107, 105, 110, 100, 32, 99, 111, 108, 111, 117, 114, 32, 110, 111, 114, 116, 104, 32, 101, 97, 115, 116, 32, 119, 101, 115, 116, 32].getD i 0
theorem nm_B : ∀ i, i < 66 → nmB i = nI (nmN i) := by decide +kernel
theorem nm_lt : ∀ i, i < 66 → nmN i < 128 := by decide +kernel
theorem nm_65 : nmN 65 = 32 := by decide +kernel
/-- where the name at i begins, how many came before -/
def nsO : Nat → Nat
  | 0 => 0
  | i + 1 => if nmN i = 32 then i + 1 else nsO i
def nwO : Nat → Nat
  | 0 => 0
  | i + 1 => if nmN i = 32 then nwO i + 1 else nwO i
theorem nsO_s (i : Nat) : nsO (i + 1) = if nmN i = 32 then i + 1 else nsO i := id rfl
theorem nwO_s (i : Nat) : nwO (i + 1) = if nmN i = 32 then nwO i + 1 else nwO i := id rfl
theorem nsO_le : ∀ i, nsO i ≤ i
  | 0 => Nat.le_refl _
  | i + 1 => by
    have := nsO_le i
    rw [nsO_s]
    split <;> omega
theorem nwO_13 : ∀ i, i < 66 → nwO i ≤ 12 := by decide +kernel
def allB (p : Nat → Bool) : Nat → Bool
  | 0 => true
  | n + 1 => allB p n && p n
theorem allB_s (p : Nat → Bool) (n : Nat) : allB p (n + 1) = (allB p n && p n) := id rfl
theorem allB_c {p q : Nat → Bool} : ∀ n, (∀ i, i < n → p i = q i) → allB p n = allB q n
  | 0, _ => rfl
  | n + 1, h => by rw [allB_s, allB_s, allB_c n (fun i hi => h i (by omega)), h n (by omega)]
theorem allB_f {p : Nat → Bool} {i : Nat} (h : allB p i = false) : ∀ n, i ≤ n → allB p n = false
  | 0, hn => by rw [show i = 0 by omega] at h; exact h
  | n + 1, hn => by
    by_cases e : i = n + 1
    · rw [← e]; exact h
    · rw [allB_s, allB_f h n (by omega), Bool.false_and]
def smA (b : Nat → Nat) (fr to i : Nat) : Bool := allB (fun j => decide (fr + j < to) && decide (b (fr + j) = nmN (nsO i + j))) (i - nsO i)
def wP (b : Nat → Nat) (fr to i : Nat) : Bool := decide (nmN i = 32) && (smA b fr to i && decide (fr + (i - nsO i) = to))
def wrd (b : Nat → Nat) (fr to : Nat) : Nat := match lst (wP b fr to) 66 with
  | some i => nwO i + 1
  | none => 0
theorem wrd_le {b : Nat → Nat} {fr to : Nat} : wrd b fr to ≤ 13 := by
  unfold wrd
  cases h : lst (wP b fr to) 66 with
  | none => exact Nat.zero_le _
  | some i =>
    have := nwO_13 i ((lst_s _ _ _).mp h).1
    show nwO i + 1 ≤ 13
    omega
/-- how far a run goes -/
def rnE (p : Nat → Bool) (n : Nat) : Nat → Nat → Nat
  | 0, k => k
  | f + 1, k => if k < n ∧ p k = true then rnE p n f (k + 1) else k
theorem rnE_s (p : Nat → Bool) (n f k : Nat) : rnE p n (f + 1) k = if k < n ∧ p k = true then rnE p n f (k + 1) else k := id rfl
theorem rnE_sp {p : Nat → Bool} {n : Nat} : ∀ f k, k ≤ n → n ≤ k + f → k ≤ rnE p n f k ∧ rnE p n f k ≤ n ∧ (∀ j, k ≤ j → j < rnE p n f k → p j = true) ∧ (rnE p n f k = n ∨ p (rnE p n f k) = false)
  | 0, k, h1, h2 => ⟨Nat.le_refl _, h1, fun j a b => by unfold rnE at b; omega, Or.inl (by unfold rnE; omega)⟩
  | f + 1, k, h1, h2 => by
    rw [rnE_s]
    by_cases hc : k < n ∧ p k = true
    · rw [if_pos hc]
      obtain ⟨q1, q2, q3, q4⟩ := rnE_sp (p := p) (n := n) f (k + 1) (by omega) (by omega)
      refine ⟨by omega, q2, fun j a b => ?_, q4⟩
      by_cases e : j = k
      · rw [e]; exact hc.2
      · exact q3 j (by omega) b
    · rw [if_neg hc]
      refine ⟨Nat.le_refl _, h1, fun j a b => by omega, ?_⟩
      by_cases e : k = n
      · exact Or.inl e
      · right
        cases hp : p k
        · rfl
        · exact absurd ⟨by omega, hp⟩ hc
def smB (x : Nat) : Bool := decide (97 ≤ x) && decide (x ≤ 122)
def dgB (x : Nat) : Bool := decide (48 ≤ x) && decide (x ≤ 57)
/-- what a run of digits is worth, for the one and for the other -/
def rvl (b : Nat → Nat) (k : Nat) : Nat → Nat
  | 0 => 0
  | i + 1 => if 1000000 < rvl b k i then rvl b k i else 10 * rvl b k i + (b (k + i) - 48)
def cvl (b : Nat → Nat) (k : Nat) : Nat → Nat
  | 0 => 0
  | i + 1 => min 1001 (cvl b k i * 10 + (b (k + i) - 48))
theorem rvl_s (b : Nat → Nat) (k i : Nat) : rvl b k (i + 1) = if 1000000 < rvl b k i then rvl b k i else 10 * rvl b k i + (b (k + i) - 48) := id rfl
theorem cvl_s (b : Nat → Nat) (k i : Nat) : cvl b k (i + 1) = min 1001 (cvl b k i * 10 + (b (k + i) - 48)) := id rfl
theorem cvl_r (b : Nat → Nat) (k : Nat) : ∀ i, cvl b k i = min 1001 (rvl b k i)
  | 0 => by unfold cvl rvl; omega
  | i + 1 => by
    rw [cvl_s, rvl_s, cvl_r b k i]
    split <;> omega
theorem rvl_b {b : Nat → Nat} (hb : ∀ j, j < 400 → b j < 256) {k : Nat} : ∀ i, k + i ≤ 400 → rvl b k i ≤ 10000300
  | 0, _ => by unfold rvl; omega
  | i + 1, h => by
    have h1 := rvl_b hb (k := k) i (by omega)
    have h2 := hb (k + i) (by omega)
    rw [rvl_s]
    split <;> omega
def tkE (b : Nat → Nat) (n k : Nat) : Nat := if smB (b k) = true then rnE (fun j => smB (b j)) n 400 (k + 1) else if dgB (b k) = true then rnE (fun j => dgB (b j)) n 400 (k + 1) else k + 1
def tkC (b : Nat → Nat) (n k : Nat) : Nat := if smB (b k) = true then wrd b k (tkE b n k) else if dgB (b k) = true then 50 else 100 + b k
def tkV (b : Nat → Nat) (n k : Nat) : Nat := if dgB (b k) = true then rvl b k (tkE b n k - k) else 0
theorem tkE_b {b : Nat → Nat} {n k : Nat} (hk : k < n) (hn : n ≤ 400) : k + 1 ≤ tkE b n k ∧ tkE b n k ≤ n := by
  unfold tkE
  split
  · have := rnE_sp (p := fun j => smB (b j)) (n := n) 400 (k + 1) (by omega) (by omega)
    omega
  · split
    · have := rnE_sp (p := fun j => dgB (b j)) (n := n) 400 (k + 1) (by omega) (by omega)
      omega
    · omega
/-- where, how many, codes, values, places -/
abbrev Tz : Type := Nat × Nat × (Nat → Nat) × (Nat → Nat) × (Nat → Nat)
def tzS (b : Nat → Nat) (n : Nat) (s : Tz) : Tz := if b s.1 = 32 then (s.1 + 1, s.2) else (tkE b n s.1, s.2.1 + 1, up1 s.2.2.1 s.2.1 (tkC b n s.1), up1 s.2.2.2.1 s.2.1 (tkV b n s.1), up1 s.2.2.2.2 s.2.1 s.1)
def tzR (b : Nat → Nat) (n : Nat) : Nat → Tz → Tz
  | 0, s => s
  | f + 1, s => if s.1 < n then tzR b n f (tzS b n s) else s
theorem tzR_s (b : Nat → Nat) (n f : Nat) (s : Tz) : tzR b n (f + 1) s = if s.1 < n then tzR b n f (tzS b n s) else s := id rfl
theorem tzR_e {b : Nat → Nat} {n : Nat} {s : Tz} (h : ¬ s.1 < n) : ∀ f, tzR b n f s = s
  | 0 => rfl
  | f + 1 => by rw [tzR_s, if_neg h]
def tz0 : Tz := (0, 0, fun _ => 0, fun _ => 0, fun _ => 0)
def TzI (n : Nat) (s : Tz) : Prop := s.2.1 ≤ s.1 ∧ s.1 ≤ n ∧ (∀ j, s.2.1 ≤ j → s.2.2.1 j = 0 ∧ s.2.2.2.1 j = 0) ∧ (∀ j, s.2.2.1 j < 356) ∧ (∀ j, s.2.2.2.1 j ≤ 10000300) ∧ (∀ j, s.2.2.2.2 j ≤ 400)
theorem TzI.st {b : Nat → Nat} {n : Nat} {s : Tz} (h : TzI n s) (hn : n ≤ 400) (hb : ∀ j, j < 400 → b j < 256) (hk : s.1 < n) : TzI n (tzS b n s) ∧ s.1 + 1 ≤ (tzS b n s).1 := by
  obtain ⟨h1, h2, h3, h4, h5, h6⟩ := h
  unfold tzS
  by_cases c : b s.1 = 32
  · rw [if_pos c]
    exact ⟨⟨by dsimp only; omega, by dsimp only; omega, h3, h4, h5, h6⟩, Nat.le_refl _⟩
  · rw [if_neg c]
    have he := tkE_b (b := b) hk hn
    have hbk := hb s.1 (by omega)
    refine ⟨⟨by dsimp only; omega, he.2, fun j hj => ?_, fun j => ?_, fun j => ?_, fun j => ?_⟩, he.1⟩
    · dsimp only at hj ⊢
      rw [up1_n _ _ (by omega), up1_n _ _ (by omega)]
      exact h3 j (by omega)
    · dsimp only
      by_cases e : j = s.2.1
      · rw [e, up1_s]
        unfold tkC
        split
        · have := wrd_le (b := b) (fr := s.1) (to := tkE b n s.1)
          omega
        · split <;> omega
      · rw [up1_n _ _ e]; exact h4 j
    · dsimp only
      by_cases e : j = s.2.1
      · rw [e, up1_s]
        unfold tkV
        split
        · exact rvl_b hb _ (by omega)
        · omega
      · rw [up1_n _ _ e]; exact h5 j
    · dsimp only
      by_cases e : j = s.2.1
      · rw [e, up1_s]; omega
      · rw [up1_n _ _ e]; exact h6 j
theorem tz_i {b : Nat → Nat} {n : Nat} (hn : n ≤ 400) (hb : ∀ j, j < 400 → b j < 256) : ∀ f (s : Tz), TzI n s → n ≤ s.1 + f → TzI n (tzR b n f s) ∧ ¬ (tzR b n f s).1 < n
  | 0, s, h, hf => ⟨h, by show ¬ s.1 < n; omega⟩
  | f + 1, s, h, hf => by
    rw [tzR_s]
    by_cases c : s.1 < n
    · rw [if_pos c]
      obtain ⟨q1, q2⟩ := h.st hn hb c
      exact tz_i hn hb f _ q1 (by omega)
    · rw [if_neg c]
      exact ⟨h, c⟩
theorem tz0_i (n : Nat) : TzI n tz0 := ⟨Nat.le_refl _, Nat.zero_le _, fun _ _ => ⟨rfl, rfl⟩, fun _ => by show 0 < 356; decide, fun _ => Nat.zero_le _, fun _ => Nat.zero_le _⟩
def tokF (b : Nat → Nat) (n : Nat) : Tz := tzR b n 400 tz0
end Ph0
