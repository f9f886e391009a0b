section P64
/-! A search in whole numbers. n, queue, how far, how many rows, from which edge. An edge is 8 times a position, and a word. -/
abbrev Bs : Type := Nat × (Nat → Nat) × (Nat → Option Nat) × (Nat → Nat) × (Nat → Nat)
abbrev bN (s : Bs) : Nat := s.1
abbrev bQ (s : Bs) : Nat → Nat := s.2.1
abbrev bF (s : Bs) : Nat → Option Nat := s.2.2.1
abbrev bM (s : Bs) : Nat → Nat := s.2.2.2.1
abbrev bP (s : Bs) : Nat → Nat := s.2.2.2.2
/-- how far the place i of the queue is -/
def Fi (s : Bs) (i : Nat) : Nat := (bF s (bQ s i)).getD 0
def addS (x y : Nat) : Nat := if 1000000000 < x + y then 1000000000 else x + y
def bput (s : Bs) (e t : Nat) : Bs := if bF s t = none then (bN s + 1, up1 (bQ s) (bN s) t, up1 (bF s) t (some (Fi s (e / 8) + 1)), up1 (bM s) t (bM s (bQ s (e / 8))), up1 (bP s) (bN s) e)
  else if bF s t = some (Fi s (e / 8) + 1) then (bN s, bQ s, bF s, up1 (bM s) t (addS (bM s t) (bM s (bQ s (e / 8)))), bP s) else s
def bstep (beh : Nat → Nat → Option Nat) (s : Bs) (e : Nat) : Bs := if e / 8 < bN s then (match beh (bQ s (e / 8)) (e % 8) with
  | none => s
  | some t => bput s e t) else s
def b0 (st : Nat) : Bs := (1, fun _ => st, up1 (fun _ => none) st (some 0), up1 (fun _ => 0) st 1, fun _ => 0)
def bfs (beh : Nat → Nat → Option Nat) (st : Nat) : Nat → Bs
  | 0 => b0 st
  | e + 1 => bstep beh (bfs beh st e) e
/-- what holds when all edges below e are through -/
def BI (beh : Nat → Nat → Option Nat) (V : Nat → Prop) (st : Nat) (s : Bs) (e : Nat) : Prop :=
  (1 ≤ bN s ∧ cntB (fun t => (bF s t).isSome) 32768 = bN s) ∧
  (∀ i, i < bN s → V (bQ s i)) ∧
  (∀ i, i < bN s → bF s (bQ s i) = some (Fi s i) ∧ Fi s i ≤ i) ∧
  (∀ t f, bF s t = some f → ∃ i, i < bN s ∧ bQ s i = t) ∧
  (∀ i j, i < bN s → j < bN s → bQ s i = bQ s j → i = j) ∧
  (∀ i j, i < j → j < bN s → Fi s i ≤ Fi s j) ∧
  (e / 8 < bN s → ∀ j, j < bN s → Fi s j ≤ Fi s (e / 8) + 1) ∧
  (∀ i, 0 < i → i < bN s → bP s i < e ∧ bP s i / 8 < i ∧ beh (bQ s (bP s i / 8)) (bP s i % 8) = some (bQ s i) ∧ Fi s i = Fi s (bP s i / 8) + 1) ∧
  (∀ i j, 0 < i → i < j → j < bN s → bP s i < bP s j) ∧
  (∀ e', e' < e → e' / 8 < bN s → ∀ t, beh (bQ s (e' / 8)) (e' % 8) = some t → ∃ j, j < bN s ∧ bQ s j = t ∧ Fi s j ≤ Fi s (e' / 8) + 1 ∧ (0 < j → bP s j ≤ e')) ∧
  (∀ t, bM s t ≤ 1000000000) ∧ (∀ t, bF s t = none → bM s t = 0) ∧
  (bQ s 0 = st ∧ Fi s 0 = 0)
theorem cntB_up {p q : Nat → Bool} {t : Nat} (hp : p t = false) (hq : q t = true) (he : ∀ i, i ≠ t → q i = p i) : ∀ n, t < n → cntB q n = cntB p n + 1
  | 0, h => by omega
  | n + 1, h => by
    rw [cntB_s, cntB_s]
    by_cases htn : t = n
    · subst htn
      have hlow : ∀ m, m ≤ t → cntB q m = cntB p m := by
        intro m
        induction m with
        | zero => intro _; rfl
        | succ m ih =>
          intro hm
          rw [cntB_s, cntB_s, ih (by omega), he m (by omega)]
      rw [hlow t (by omega), hp, hq]
      simp
    · rw [cntB_up hp hq he n (by omega), he n (by omega)]
      omega
theorem cntB_lt {p : Nat → Bool} {t : Nat} (hp : p t = false) : ∀ n, t < n → cntB p n < n
  | 0, h => by omega
  | n + 1, h => by
    rw [cntB_s]
    by_cases htn : t = n
    · subst htn
      rw [hp]
      have := cntB_le p t
      simp
      omega
    · have := cntB_lt hp n (by omega)
      split <;> omega
theorem cntB_one {t : Nat} {p : Nat → Bool} (hp : p t = true) (he : ∀ i, i ≠ t → p i = false) (n : Nat) (h : t < n) : cntB p n = 1 := by
  have := cntB_up (p := fun _ => false) (q := p) (t := t) rfl hp (fun i hi => he i hi) n h
  rw [this]
  have : ∀ m, cntB (fun _ => false) m = 0 := by
    intro m
    induction m with
    | zero => rfl
    | succ m ih => rw [cntB_s, ih]; rfl
  rw [this]
section BF
variable {beh : Nat → Nat → Option Nat} {V : Nat → Prop} {st : Nat}
theorem BI0 (hV : V st) (h32 : st < 32768) : BI beh V st (b0 st) 0 := by
  have hF : ∀ i, Fi (b0 st) i = 0 := by
    intro i
    unfold Fi
    simp [b0, bF, bQ, up1]
  refine ⟨⟨Nat.le_refl 1, ?_⟩, ?_, ?_, ?_, ?_, ?_, ?_, ?_, ?_, ?_, ?_, ?_, ?_⟩
  · exact cntB_one (t := st) (by simp [b0, bF, bQ, bM, up1]) (fun i hi => by simp [b0, bF, bQ, bM, up1, hi]) 32768 h32
  · intro i hi
    exact hV
  · intro i hi
    refine ⟨?_, by rw [hF]; omega⟩
    rw [hF]
    simp [b0, bF, bQ, bM, up1]
  · intro t f h
    refine ⟨0, Nat.lt_succ_self 0, ?_⟩
    by_cases ht : t = st
    · rw [ht]; rfl
    · simp [b0, bF, bQ, bM, up1, ht] at h
  · intro i j hi hj _
    have h1 : i < 1 := hi
    have h2 : j < 1 := hj
    omega
  · intro i j h hj
    rw [hF, hF]
    omega
  · intro _ j _
    rw [hF, hF]
    omega
  · intro i h0 hi
    have h1 : i < 1 := hi
    omega
  · intro i j h0 hij hj
    have h1 : j < 1 := hj
    omega
  · intro e' he
    omega
  · intro t
    by_cases ht : t = st <;> simp [b0, bF, bQ, bM, up1, ht]
  · intro t h
    by_cases ht : t = st
    · simp [b0, bF, bQ, bM, up1, ht] at h
    · simp [b0, bF, bQ, bM, up1, ht]
  · exact ⟨rfl, hF 0⟩
/-- a state whose far, queue and parents are another's -/
theorem BI_m {s : Bs} {e : Nat} {mm : Nat → Nat} (h : BI beh V st s e) (h1 : ∀ t, mm t ≤ 1000000000) (h2 : ∀ t, bF s t = none → mm t = 0) : BI beh V st (bN s, bQ s, bF s, mm, bP s) e := by
  obtain ⟨a1, a2, a3, a4, a5, a6, a7, a8, a9, a10, _, _, a13⟩ := h
  exact ⟨a1, a2, a3, a4, a5, a6, a7, a8, a9, a10, h1, h2, a13⟩
/-- one edge more, nothing changed -/
theorem BI_e {s : Bs} {e : Nat} (h : BI beh V st s e) (he : e / 8 < bN s → ∀ t, beh (bQ s (e / 8)) (e % 8) = some t → ∃ f, bF s t = some f) : BI beh V st s (e + 1) := by
  obtain ⟨a1, a2, a3, a4, a5, a6, a7, a8, a9, a10, a11, a12, a13⟩ := h
  refine ⟨a1, a2, a3, a4, a5, a6, ?_, ?_, a9, ?_, a11, a12, a13⟩
  · intro h j hj
    have := a7 (by omega) j hj
    by_cases hk : (e + 1) / 8 = e / 8
    · rw [hk]; exact this
    · have := a6 (e / 8) ((e + 1) / 8) (by omega) h
      omega
  · intro i h0 hi
    have := a8 i h0 hi
    exact ⟨by omega, this.2⟩
  · intro e' he' hk t ht
    by_cases hee : e' = e
    · subst hee
      obtain ⟨f, hf⟩ := he hk t ht
      obtain ⟨i, hi, rfl⟩ := a4 t f hf
      exact ⟨i, hi, rfl, a7 hk i hi, fun h0 => Nat.le_of_lt (a8 i h0 hi).1⟩
    · exact a10 e' (by omega) hk t ht
theorem addS_le (x y : Nat) : addS x y ≤ 1000000000 := by
  unfold addS
  split <;> omega
theorem BIs (hc : ∀ x w t, V x → beh x w = some t → V t) (h32 : ∀ x, V x → x < 32768) {s : Bs} {e : Nat} (h : BI beh V st s e) : BI beh V st (bstep beh s e) (e + 1) := by
  unfold bstep
  by_cases hk : e / 8 < bN s
  · rw [if_pos hk]
    cases hb : beh (bQ s (e / 8)) (e % 8) with
    | none => exact BI_e h (fun _ t ht => by rw [hb] at ht; cases ht)
    | some t =>
      show BI beh V st (bput s e t) (e + 1)
      unfold bput
      by_cases hn : bF s t = none
      · rw [if_pos hn]
        obtain ⟨⟨a1, a1'⟩, a2, a3, a4, a5, a6, a7, a8, a9, a10, a11, a12, a13, a13'⟩ := h
        have ht32 := h32 t (hc _ _ _ (a2 _ hk) hb)
        have hq : ∀ i, i < bN s → up1 (bQ s) (bN s) t i = bQ s i := fun i hi => up1_n _ _ (by omega)
        have hqn : up1 (bQ s) (bN s) t (bN s) = t := up1_s _ _ _
        have hne : ∀ i, i < bN s → bQ s i ≠ t := by
          intro i hi he
          have := (a3 i hi).1
          rw [he, hn] at this
          cases this
        have hF : ∀ i, i < bN s → Fi (bN s + 1, up1 (bQ s) (bN s) t, up1 (bF s) t (some (Fi s (e / 8) + 1)), up1 (bM s) t (bM s (bQ s (e / 8))), up1 (bP s) (bN s) e) i = Fi s i := by
          intro i hi
          show (up1 (bF s) t (some (Fi s (e / 8) + 1)) (up1 (bQ s) (bN s) t i)).getD 0 = _
          rw [hq i hi, up1_n _ _ (hne i hi)]
          rfl
        have hFn : Fi (bN s + 1, up1 (bQ s) (bN s) t, up1 (bF s) t (some (Fi s (e / 8) + 1)), up1 (bM s) t (bM s (bQ s (e / 8))), up1 (bP s) (bN s) e) (bN s) = Fi s (e / 8) + 1 := by
          show (up1 (bF s) t (some (Fi s (e / 8) + 1)) (up1 (bQ s) (bN s) t (bN s))).getD 0 = _
          rw [hqn, up1_s]
          rfl
        have hp : ∀ i, i < bN s → up1 (bP s) (bN s) e i = bP s i := fun i hi => up1_n _ _ (by omega)
        have hle := a3 (e / 8) hk
        generalize hS : ((bN s + 1, up1 (bQ s) (bN s) t, up1 (bF s) t (some (Fi s (e / 8) + 1)), up1 (bM s) t (bM s (bQ s (e / 8))), up1 (bP s) (bN s) e) : Bs) = S at hF hFn
        have sN : bN S = bN s + 1 := by rw [← hS]
        have sQ : bQ S = up1 (bQ s) (bN s) t := by rw [← hS]
        have sF : bF S = up1 (bF s) t (some (Fi s (e / 8) + 1)) := by rw [← hS]
        have sM : bM S = up1 (bM s) t (bM s (bQ s (e / 8))) := by rw [← hS]
        have sP : bP S = up1 (bP s) (bN s) e := by rw [← hS]
        unfold BI
        rw [sN, sQ, sF, sM, sP]
        refine ⟨⟨by omega, ?_⟩, ?_, ?_, ?_, ?_, ?_, ?_, ?_, ?_, ?_, ?_, ?_, ?_⟩
        · rw [cntB_up (p := fun t => (bF s t).isSome) (t := t) (by simp [hn]) (by simp [up1]) (fun i hi => by simp [up1, hi]) 32768 ht32, a1']
        · intro i hi
          by_cases hin : i = bN s
          · subst hin; rw [hqn]; exact hc _ _ _ (a2 _ hk) hb
          · rw [hq i (by omega)]; exact a2 i (by omega)
        · intro i hi
          by_cases hin : i = bN s
          · subst hin
            rw [hqn, hFn, up1_s]
            exact ⟨rfl, by omega⟩
          · rw [hq i (by omega), hF i (by omega), up1_n _ _ (hne i (by omega))]
            exact a3 i (by omega)
        · intro t' f hf
          by_cases htt : t' = t
          · exact ⟨bN s, by omega, by rw [hqn, htt]⟩
          · rw [up1_n _ _ htt] at hf
            obtain ⟨i, hi, he⟩ := a4 t' f hf
            exact ⟨i, by omega, by rw [hq i hi]; exact he⟩
        · intro i j hi hj hij
          by_cases hin : i = bN s
          · by_cases hjn : j = bN s
            · omega
            · subst hin
              rw [hqn, hq j (by omega)] at hij
              exact absurd hij.symm (hne j (by omega))
          · by_cases hjn : j = bN s
            · subst hjn
              rw [hqn, hq i (by omega)] at hij
              exact absurd hij (hne i (by omega))
            · rw [hq i (by omega), hq j (by omega)] at hij
              exact a5 i j (by omega) (by omega) hij
        · intro i j hij hj
          by_cases hjn : j = bN s
          · subst hjn
            rw [hFn, hF i (by omega)]
            exact a7 hk i (by omega)
          · rw [hF i (by omega), hF j (by omega)]
            exact a6 i j hij (by omega)
        · intro hk2 j hj
          have key : ∀ j, j < bN s + 1 → Fi S j ≤ Fi s (e / 8) + 1 := by
            intro j hj
            by_cases hjn : j = bN s
            · subst hjn; rw [hFn]; omega
            · rw [hF j (by omega)]; exact a7 hk j (by omega)
          have h1 := key j hj
          by_cases hk3 : (e + 1) / 8 = e / 8
          · rw [hk3, hF _ hk]; exact h1
          · by_cases hk4 : (e + 1) / 8 = bN s
            · rw [hk4, hFn]; omega
            · rw [hF ((e + 1) / 8) (by omega)]
              have := a6 (e / 8) ((e + 1) / 8) (by omega) (by omega)
              omega
        · intro i h0 hi
          by_cases hin : i = bN s
          · subst hin
            rw [up1_s, hqn, hFn, hq _ hk, hF _ hk]
            exact ⟨by omega, hk, hb, rfl⟩
          · have := a8 i h0 (by omega)
            rw [hp i (by omega), hq _ (show bP s i / 8 < bN s by omega), hq i (by omega), hF i (by omega), hF _ (show bP s i / 8 < bN s by omega)]
            exact ⟨by omega, this.2⟩
        · intro i j h0 hij hj
          by_cases hjn : j = bN s
          · subst hjn
            rw [up1_s, hp i (by omega)]
            exact (a8 i h0 (by omega)).1
          · rw [hp i (by omega), hp j (by omega)]
            exact a9 i j h0 hij (by omega)
        · intro e' he' hk' t' ht'
          have hk'' : e' / 8 < bN s := by omega
          rw [hq _ hk''] at ht'
          rw [hF _ hk'']
          by_cases hee : e' = e
          · subst hee
            rw [hb] at ht'
            cases ht'
            exact ⟨bN s, by omega, hqn, by rw [hFn]; omega, fun _ => by rw [up1_s]; omega⟩
          · obtain ⟨j, hj, h1, h2, h3⟩ := a10 e' (by omega) hk'' t' ht'
            exact ⟨j, by omega, by rw [hq j hj]; exact h1, by rw [hF j hj]; exact h2, fun h0 => by rw [hp j hj]; exact h3 h0⟩
        · intro t'
          by_cases htt : t' = t
          · subst htt; rw [up1_s]; exact a11 _
          · rw [up1_n _ _ htt]; exact a11 t'
        · intro t' h'
          by_cases htt : t' = t
          · subst htt; rw [up1_s] at h'; cases h'
          · rw [up1_n _ _ htt] at h' ⊢; exact a12 t' h'
        · rw [hq 0 (by omega), hF 0 (by omega)]
          exact ⟨a13, a13'⟩
      · rw [if_neg hn]
        have h' := BI_e h (fun _ t' ht' => by
          rw [hb] at ht'
          cases ht'
          cases hf : bF s t with
          | none => exact absurd hf hn
          | some f => exact ⟨f, rfl⟩)
        by_cases hf : bF s t = some (Fi s (e / 8) + 1)
        · rw [if_pos hf]
          refine BI_m h' ?_ ?_
          · intro t'
            by_cases htt : t' = t
            · subst htt; rw [up1_s]; exact addS_le _ _
            · rw [up1_n _ _ htt]; exact h.2.2.2.2.2.2.2.2.2.2.1 t'
          · intro t' ht'
            by_cases htt : t' = t
            · subst htt; exact absurd ht' hn
            · rw [up1_n _ _ htt]; exact h.2.2.2.2.2.2.2.2.2.2.2.1 t' ht'
        · rw [if_neg hf]
          exact h'
  · rw [if_neg hk]
    exact BI_e h (fun h' => absurd h' hk)
theorem bfs_I (hV : V st) (hc : ∀ x w t, V x → beh x w = some t → V t) (h32 : ∀ x, V x → x < 32768) : ∀ e, BI beh V st (bfs beh st e) e
  | 0 => BI0 hV (h32 _ hV)
  | e + 1 => BIs hc h32 (bfs_I hV hc h32 e)
end BF
end P64
