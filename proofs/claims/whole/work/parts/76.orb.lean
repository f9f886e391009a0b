section P76
/-! A map of twelve points comes back within 12 + 60 steps. -/
def itf (f : Nat → Nat) : Nat → Nat → Nat
  | 0, x => x
  | n + 1, x => f (itf f n x)
section OR
variable {f : Nat → Nat}
theorem itf_add (n m x : Nat) : itf f (n + m) x = itf f n (itf f m x) := by
  induction n with
  | zero => rw [Nat.zero_add]; rfl
  | succ n ih => rw [show n + 1 + m = n + m + 1 by omega]; show f _ = f _; rw [ih]
theorem itf_lt (hf : ∀ i, i < 12 → f i < 12) {x : Nat} (hx : x < 12) : ∀ n, itf f n x < 12
  | 0 => hx
  | n + 1 => hf _ (itf_lt hf hx n)
theorem itf_mul {l y : Nat} (h : itf f l y = y) : ∀ c, itf f (c * l) y = y
  | 0 => by rw [Nat.zero_mul]; rfl
  | c + 1 => by rw [Nat.add_mul, Nat.one_mul, itf_add, h, itf_mul h c]
/-- an injective row of l numbers with P: at least l have it -/
theorem cntB_inj {P : Nat → Bool} {N : Nat} {g : Nat → Nat} : ∀ l, (∀ i, i < l → g i < N ∧ P (g i) = true) → (∀ i j, i < j → j < l → g i ≠ g j) → l ≤ cntB P N := by
  intro l hP hi
  have : ∀ k, k ≤ l → ∃ Q : Nat → Bool, cntB Q N = k ∧ (∀ t, Q t = true → P t = true) ∧ (∀ t, Q t = true → ∃ i, i < k ∧ g i = t) := by
    intro k
    induction k with
    | zero =>
      intro _
      refine ⟨fun _ => false, ?_, fun t h => (by cases h), fun t h => (by cases h)⟩
      have : ∀ m, cntB (fun _ => false) m = 0 := by
        intro m
        induction m with
        | zero => rfl
        | succ m ih => rw [cntB_s, ih]; rfl
      exact this N
    | succ k ih =>
      intro hk
      obtain ⟨Q, q1, q2, q3⟩ := ih (by omega)
      have hg := hP k (by omega)
      refine ⟨fun t => decide (t = g k) || Q t, ?_, ?_, ?_⟩
      · rw [cntB_up (p := Q) (t := g k) ?_ (by simp) (fun i hi => by simp [hi]) N hg.1, q1]
        cases hq : Q (g k) with
        | false => rfl
        | true =>
          obtain ⟨i, h1, h2⟩ := q3 _ hq
          exact absurd h2 (hi i k h1 (by omega))
      · intro t ht
        rw [Bool.or_eq_true, decide_eq_true_eq] at ht
        rcases ht with rfl | h
        · exact hg.2
        · exact q2 t h
      · intro t ht
        rw [Bool.or_eq_true, decide_eq_true_eq] at ht
        rcases ht with rfl | h
        · exact ⟨k, by omega, rfl⟩
        · obtain ⟨i, h1, h2⟩ := q3 t h
          exact ⟨i, by omega, h2⟩
  obtain ⟨Q, q1, q2, _⟩ := this l (Nat.le_refl l)
  rw [← q1]
  exact cntB_mono q2 N
/-- thirteen numbers below twelve: two are the same -/
theorem pig12 {g : Nat → Nat} (hg : ∀ i, i < 13 → g i < 12) : ∃ i j, i < j ∧ j < 13 ∧ g i = g j := by
  apply Classical.byContradiction
  intro hno
  have := cntB_inj (P := fun _ => true) (N := 12) (g := g) 13 (fun i hi => ⟨hg i hi, rfl⟩) (fun i j hij hj he => hno ⟨i, j, hij, hj, he⟩)
  have h2 := cntB_le (fun _ => true) 12
  omega
/-- the period of a point -/
def per (f : Nat → Nat) (y : Nat) : Option Nat := lst (fun l => decide (1 ≤ l) && decide (itf f l y = y)) 13
theorem per_s {y l : Nat} : per f y = some l ↔ l < 13 ∧ 1 ≤ l ∧ itf f l y = y ∧ ∀ k, 1 ≤ k → k < l → itf f k y ≠ y := by
  unfold per
  rw [lst_s]
  simp only [Bool.and_eq_true, decide_eq_true_eq, Bool.and_eq_false_iff, decide_eq_false_iff_not]
  constructor
  · rintro ⟨h1, ⟨h2, h3⟩, h4⟩
    refine ⟨h1, h2, h3, fun k hk1 hkl => ?_⟩
    rcases h4 k hkl with h | h
    · exact absurd hk1 h
    · exact h
  · rintro ⟨h1, h2, h3, h4⟩
    refine ⟨h1, ⟨h2, h3⟩, fun j hj => ?_⟩
    by_cases h : 1 ≤ j
    · exact Or.inr (h4 j h hj)
    · exact Or.inl h
theorem per_orb {y l k : Nat} (h : per f y = some l) : per f (itf f k y) = some l := by
  obtain ⟨h1, h2, h3, h4⟩ := per_s.mp h
  refine per_s.mpr ⟨h1, h2, ?_, ?_⟩
  · rw [← itf_add, Nat.add_comm, itf_add, h3]
  · intro q hq1 hql he
    apply h4 q hq1 hql
    have hm := itf_mul h3 k
    have hkl : k ≤ k * l := Nat.le_mul_of_pos_right k (by omega)
    have e1 : itf f (k * l - k) (itf f q (itf f k y)) = itf f (k * l - k) (itf f k y) := by rw [he]
    rw [← itf_add, ← itf_add, ← itf_add, show k * l - k + k = k * l by omega, show k * l - k + q + k = q + k * l by omega, itf_add, hm] at e1
    exact e1
theorem per_ne {y l i j : Nat} (h : per f y = some l) (hij : i < j) (hj : j < l) : itf f i y ≠ itf f j y := by
  obtain ⟨h1, h2, h3, h4⟩ := per_s.mp h
  intro he
  apply h4 (l - j + i) (by omega) (by omega)
  have e1 : itf f (l - j) (itf f i y) = itf f (l - j) (itf f j y) := by rw [he]
  rw [← itf_add, ← itf_add, show l - j + j = l by omega, h3] at e1
  exact e1
/-- which periods there are -/
def dP (f : Nat → Nat) (l : Nat) : Bool := anyN (fun y => decide (per f y = some l)) 12
def smP (d : Nat → Bool) : Nat → Nat
  | 0 => 0
  | n + 1 => smP d n + (if d (n + 1) = true then n + 1 else 0)
def lcP (d : Nat → Bool) : Nat → Nat
  | 0 => 1
  | n + 1 => if d (n + 1) = true then Nat.lcm (lcP d n) (n + 1) else lcP d n
def cnP (f : Nat → Nat) (N : Nat) : Nat → Nat
  | 0 => 0
  | n + 1 => cnP f N n + cntB (fun y => decide (per f y = some (n + 1))) N
theorem cnP_le (n : Nat) : ∀ N, cnP f N n ≤ N := by
  intro N
  induction N with
  | zero =>
    have : ∀ n, cnP f 0 n = 0 := by
      intro n
      induction n with
      | zero => rfl
      | succ n ih =>
        show cnP f 0 n + 0 = 0
        rw [ih]
    rw [this]
    exact Nat.le_refl _
  | succ N ih =>
    have : ∀ n, cnP f (N + 1) n = cnP f N n + (match per f N with
      | none => 0
      | some l => if 1 ≤ l ∧ l ≤ n then 1 else 0) := by
      intro n
      induction n with
      | zero =>
        show 0 = 0 + _
        cases per f N with
        | none => rfl
        | some l =>
          show 0 = 0 + (if 1 ≤ l ∧ l ≤ 0 then 1 else 0)
          rw [if_neg (by omega)]
      | succ n ihn =>
        show cnP f (N + 1) n + cntB (fun y => decide (per f y = some (n + 1))) (N + 1) = cnP f N n + cntB (fun y => decide (per f y = some (n + 1))) N + _
        rw [ihn, cntB_s]
        cases hp : per f N with
        | none => simp
        | some l =>
          by_cases hl : l = n + 1
          · subst hl
            have e1 : ¬ (1 ≤ n + 1 ∧ n + 1 ≤ n) := by omega
            have e2 : 1 ≤ n + 1 ∧ n + 1 ≤ n + 1 := by omega
            simp only [decide_true, if_true, if_neg e1, if_pos e2]
            omega
          · have e0 : decide (some l = some (n + 1)) = false := decide_eq_false (fun h => hl (Option.some.inj h))
            rw [e0]
            by_cases h1 : 1 ≤ l ∧ l ≤ n
            · have h2 : 1 ≤ l ∧ l ≤ n + 1 := by omega
              simp only [if_pos h1, if_pos h2, Bool.false_eq_true, if_false]
              omega
            · have h2 : ¬ (1 ≤ l ∧ l ≤ n + 1) := by omega
              simp only [if_neg h1, if_neg h2, Bool.false_eq_true, if_false]
              omega
    rw [this]
    split
    · omega
    · split <;> omega
theorem smP_le (hf : ∀ i, i < 12 → f i < 12) : ∀ n, smP (dP f) n ≤ cnP f 12 n
  | 0 => Nat.le_refl _
  | n + 1 => by
    have ih := smP_le hf n
    show smP (dP f) n + _ ≤ cnP f 12 n + _
    by_cases hd : dP f (n + 1) = true
    · rw [if_pos hd]
      obtain ⟨y, hy, hp⟩ := (anyN_iff _ _).mp hd
      rw [decide_eq_true_eq] at hp
      have := cntB_inj (P := fun y => decide (per f y = some (n + 1))) (N := 12) (g := fun i => itf f i y) (n + 1) (fun i _ => ⟨itf_lt hf hy i, decide_eq_true (per_orb hp)⟩) (fun i j hij hj => per_ne hp hij hj)
      omega
    · rw [if_neg hd]
      omega
theorem lc_bd : ∀ b1 b2 b3 b4 b5 b6 b7 b8 b9 b10 b11 b12 : Bool, smP (fun l => match l with
    | 1 => b1 | 2 => b2 | 3 => b3 | 4 => b4 | 5 => b5 | 6 => b6 | 7 => b7 | 8 => b8 | 9 => b9 | 10 => b10 | 11 => b11 | 12 => b12 | _ => false) 12 ≤ 12 → lcP (fun l => match l with
    | 1 => b1 | 2 => b2 | 3 => b3 | 4 => b4 | 5 => b5 | 6 => b6 | 7 => b7 | 8 => b8 | 9 => b9 | 10 => b10 | 11 => b11 | 12 => b12 | _ => false) 12 ≤ 60 := by decide +kernel
theorem smP_c {d d' : Nat → Bool} : ∀ n, (∀ l, 1 ≤ l → l ≤ n → d l = d' l) → smP d n = smP d' n
  | 0, _ => rfl
  | n + 1, h => by
    show smP d n + _ = smP d' n + _
    rw [smP_c n (fun l h1 h2 => h l h1 (by omega)), h (n + 1) (by omega) (Nat.le_refl _)]
theorem lcP_c {d d' : Nat → Bool} : ∀ n, (∀ l, 1 ≤ l → l ≤ n → d l = d' l) → lcP d n = lcP d' n
  | 0, _ => rfl
  | n + 1, h => by
    show (if d (n + 1) = true then _ else _) = (if d' (n + 1) = true then _ else _)
    rw [lcP_c n (fun l h1 h2 => h l h1 (by omega)), h (n + 1) (by omega) (Nat.le_refl _)]
theorem lcP_le {d : Nat → Bool} (h : smP d 12 ≤ 12) : lcP d 12 ≤ 60 := by
  have hc : ∀ l, 1 ≤ l → l ≤ 12 → d l = (fun l => match l with
    | 1 => d 1 | 2 => d 2 | 3 => d 3 | 4 => d 4 | 5 => d 5 | 6 => d 6 | 7 => d 7 | 8 => d 8 | 9 => d 9 | 10 => d 10 | 11 => d 11 | 12 => d 12 | _ => false) l := by
    intro l h1 h2
    have : l = 1 ∨ l = 2 ∨ l = 3 ∨ l = 4 ∨ l = 5 ∨ l = 6 ∨ l = 7 ∨ l = 8 ∨ l = 9 ∨ l = 10 ∨ l = 11 ∨ l = 12 := by omega
    rcases this with rfl | rfl | rfl | rfl | rfl | rfl | rfl | rfl | rfl | rfl | rfl | rfl <;> rfl
  rw [smP_c 12 hc] at h
  rw [lcP_c 12 hc]
  exact lc_bd _ _ _ _ _ _ _ _ _ _ _ _ h
theorem lcP_pos (d : Nat → Bool) : ∀ n, 0 < lcP d n
  | 0 => Nat.one_pos
  | n + 1 => by
    show 0 < (if _ then _ else _)
    split
    · exact Nat.lcm_pos (lcP_pos d n) (by omega)
    · exact lcP_pos d n
theorem lcP_dvd {d : Nat → Bool} {l : Nat} (h1 : 1 ≤ l) (hd : d l = true) : ∀ n, l ≤ n → l ∣ lcP d n
  | 0, h => by omega
  | n + 1, h => by
    show l ∣ (if _ then _ else _)
    by_cases hl : l = n + 1
    · subst hl
      rw [if_pos hd]
      exact Nat.dvd_lcm_right _ _
    · have ih := lcP_dvd h1 hd n (by omega)
      split
      · exact Nat.dvd_trans ih (Nat.dvd_lcm_left _ _)
      · exact ih
/-- twelve steps and so many more -/
theorem orb12 (hf : ∀ i, i < 12 → f i < 12) : ∃ p, 1 ≤ p ∧ p ≤ 60 ∧ ∀ i, i < 12 → itf f (12 + p) i = itf f 12 i := by
  have hs : smP (dP f) 12 ≤ 12 := Nat.le_trans (smP_le hf 12) (cnP_le 12 12)
  refine ⟨lcP (dP f) 12, lcP_pos _ _, lcP_le hs, fun i hi => ?_⟩
  obtain ⟨x, y, hxy, hy13, he⟩ := pig12 (g := fun n => itf f n i) (fun n _ => itf_lt hf hi n)
  have he' : itf f x i = itf f y i := he
  have hback : itf f (y - x) (itf f 12 i) = itf f 12 i := by
    rw [← itf_add, show y - x + 12 = 12 - x + y by omega, itf_add, ← he', ← itf_add, show 12 - x + x = 12 by omega]
  have hex : ∃ l, per f (itf f 12 i) = some l := by
    cases hp : per f (itf f 12 i) with
    | some l => exact ⟨l, rfl⟩
    | none =>
      have := (lst_n _ _).mp hp (y - x) (by omega)
      rw [hback] at this
      simp at this
      omega
  obtain ⟨l, hl⟩ := hex
  obtain ⟨h1, h2, h3, _⟩ := per_s.mp hl
  have hdl : dP f l = true := (anyN_iff _ _).mpr ⟨itf f 12 i, itf_lt hf hi 12, decide_eq_true hl⟩
  obtain ⟨c, hc⟩ := lcP_dvd h2 hdl 12 (by omega)
  rw [Nat.add_comm, itf_add, hc, Nat.mul_comm]
  exact itf_mul h3 c
end OR
end P76
