section Pc2
/-! Levels in whole numbers. -/
def gW (beh : Nat → Nat → Option Nat) (sg : Nat → Nat) (k : Nat) : Nat → Nat → Bool
  | 0, x => decide (pcN (x / 8) 12 = 1)
  | N + 1, x => gW beh sg k N x || anyN (fun w => match beh x w with
    | none => false
    | some y => allN (fun c => decide (pcN (y / 8 &&& sg c) 12 = 0) || gW beh sg k N (prS sg y c)) k) 8
section LVP
variable {beh : Nat → Nat → Option Nat} {sg : Nat → Nat} {k n : Nat} {q : Nat → Nat}
theorem gW_iff (N x : Nat) : gW beh sg k (N + 1) x = true ↔ gW beh sg k N x = true ∨ ∃ w y, w < 8 ∧ beh x w = some y ∧ ∀ c, c < k → pcN (y / 8 &&& sg c) 12 = 0 ∨ gW beh sg k N (prS sg y c) = true := by
  show (gW beh sg k N x || anyN _ 8) = true ↔ _
  rw [Bool.or_eq_true, anyN_iff]
  constructor
  · rintro (h | ⟨w, h8, h⟩)
    · exact Or.inl h
    · cases hb : beh x w with
      | none => rw [hb] at h; cases h
      | some y =>
        rw [hb] at h
        refine Or.inr ⟨w, y, h8, hb, fun c hc => ?_⟩
        have := (allN_iff _ _).mp h c hc
        rw [Bool.or_eq_true] at this
        rcases this with h1 | h1
        · exact Or.inl (of_decide_eq_true h1)
        · exact Or.inr h1
  · rintro (h | ⟨w, y, h8, hb, h⟩)
    · exact Or.inl h
    · refine Or.inr ⟨w, h8, ?_⟩
      rw [hb]
      refine (allN_iff _ _).mpr (fun c hc => ?_)
      rw [Bool.or_eq_true]
      rcases h c hc with h1 | h1
      · exact Or.inl (decide_eq_true h1)
      · exact Or.inr h1
theorem gW_up {N x : Nat} (h : gW beh sg k N x = true) : ∀ M, gW beh sg k (N + M) x = true
  | 0 => h
  | M + 1 => (gW_iff _ _).mpr (Or.inl (gW_up h M))
theorem gW_le {N M x : Nat} (h : gW beh sg k N x = true) (hM : N ≤ M) : gW beh sg k M x = true := by
  have := gW_up h (M - N)
  rw [show N + (M - N) = M by omega] at this
  exact this
/-- levels, their order, how many, who waits for whom -/
abbrev LSt : Type := (Nat → Nat) × (Nat → Nat) × Nat × (Nat → List Nat)
abbrev lvl' (s : LSt) : Nat → Nat := s.1
abbrev ord' (s : LSt) : Nat → Nat := s.2.1
abbrev svd (s : LSt) : Nat := s.2.2.1
abbrev wls (s : LSt) : Nat → List Nat := s.2.2.2
/-- i are settled, words so many, edges Pd are to be looked at -/
def CL (beh : Nat → Nat → Option Nat) (sg : Nat → Nat) (k n : Nat) (q : Nat → Nat) (l i : Nat) (Pd : Nat → Prop) (s : LSt) : Prop :=
  ((∀ p, p < n → ∀ e, e ∈ wls s p → e < 8 * n) ∧ (∀ p, p < n → (wls s p).Nodup) ∧ (∀ p p', p < n → p' < n → ∀ e, e ∈ wls s p → e ∈ wls s p' → p = p') ∧ (∀ e, Pd e → ∀ p, p < n → e ∉ wls s p)) ∧
  (∀ e, e < 8 * n → lvl' s (e / 8) = 0 → ∀ y, beh (q (e / 8)) (e % 8) = some y → Pd e ∨ ∃ r, r < n ∧ e ∈ wls s r ∧ (∃ c, c < k ∧ q r = prS sg y c) ∧ ∀ i', i' < i → ord' s i' ≠ r) ∧
  (∀ p, p < n → lvl' s p ≠ 0 → gW beh sg k (lvl' s p) (q p) = true ∧ gW beh sg k (lvl' s p - 1) (q p) = false) ∧
  ((∀ i1 i2, i1 ≤ i2 → i2 < svd s → lvl' s (ord' s i1) ≤ lvl' s (ord' s i2)) ∧ (∀ i1, i1 < svd s → ord' s i1 < n ∧ lvl' s (ord' s i1) ≠ 0 ∧ lvl' s (ord' s i1) ≤ i1 + 1) ∧ (∀ p, p < n → lvl' s p ≠ 0 → ∃ i1, i1 < svd s ∧ ord' s i1 = p)) ∧
  svd s = cntB (fun p => decide (lvl' s p ≠ 0)) n ∧
  ((∀ i1, i1 < svd s → lvl' s (ord' s i1) ≤ l + 1) ∧ (∀ i', i' < i → lvl' s (ord' s i') ≤ l) ∧ i ≤ svd s ∧ l ≤ i ∧ ∀ i1, i ≤ i1 → i1 < svd s → l ≤ lvl' s (ord' s i1)) ∧
  (∀ p, p < n → gW beh sg k l (q p) = true → lvl' s p ≠ 0)
variable {l i : Nat} {Pd : Nat → Prop} {s : LSt}
theorem CL.pd {Pd' : Nat → Prop} (h : CL beh sg k n q l i Pd s) (h1 : ∀ e, Pd' e → Pd e) (h2 : ∀ e, e < 8 * n → Pd e → ¬ Pd' e → lvl' s (e / 8) = 0 → beh (q (e / 8)) (e % 8) = none) : CL beh sg k n q l i Pd' s := by
  obtain ⟨⟨a1, a2, a3, a4⟩, b, c⟩ := h
  refine ⟨⟨a1, a2, a3, fun e he => a4 e (h1 e he)⟩, fun e he hl y hy => ?_, c⟩
  rcases b e he hl y hy with hp | hr
  · by_cases hp' : Pd' e
    · exact Or.inl hp'
    · rw [h2 e he hp hp' hl] at hy; cases hy
  · exact Or.inr hr
/-- an edge waits -/
theorem CL.wt {e y r : Nat} (h : CL beh sg k n q l i Pd s) (he : e < 8 * n) (hp : Pd e) (hy : beh (q (e / 8)) (e % 8) = some y) (hr : r < n) (hc : ∃ c, c < k ∧ q r = prS sg y c) (hl : lvl' s r = 0 ∨ l < lvl' s r) : CL beh sg k n q l i (fun e' => Pd e' ∧ e' ≠ e) (lvl' s, ord' s, svd s, fun p => if p = r then e :: wls s r else wls s p) := by
  obtain ⟨⟨a1, a2, a3, a4⟩, b, c1, c2, c3, c4, c5⟩ := h
  have hne := a4 e hp
  have mem : ∀ p e', p < n → (e' ∈ (if p = r then e :: wls s r else wls s p) ↔ (p = r ∧ e' = e) ∨ e' ∈ wls s p) := by
    intro p e' _
    by_cases hpr : p = r
    · subst hpr; simp
    · rw [if_neg hpr]; simp [hpr]
  refine ⟨⟨fun p hp' e' he' => ?_, fun p hp' => ?_, fun p p' hp1 hp2 e' h1 h2 => ?_, fun e' he' p hp' h1 => ?_⟩, fun e' he' hl' y' hy' => ?_, c1, c2, c3, c4, c5⟩
  · have he'' : e' ∈ (if p = r then e :: wls s r else wls s p) := he'
    rcases (mem p e' hp').mp he'' with ⟨-, rfl⟩ | h
    · exact he
    · exact a1 p hp' e' h
  · show (if p = r then e :: wls s r else wls s p).Nodup
    by_cases hpr : p = r
    · subst hpr
      rw [if_pos rfl]
      exact List.nodup_cons.mpr ⟨hne p hp', a2 p hp'⟩
    · rw [if_neg hpr]; exact a2 p hp'
  · have g1 := (mem p e' hp1).mp h1
    have g2 := (mem p' e' hp2).mp h2
    rcases g1 with ⟨rfl, rfl⟩ | g1
    · rcases g2 with ⟨rfl, -⟩ | g2
      · rfl
      · exact absurd g2 (hne p' hp2)
    · rcases g2 with ⟨rfl, rfl⟩ | g2
      · exact absurd g1 (hne p hp1)
      · exact a3 p p' hp1 hp2 e' g1 g2
  · rcases (mem p e' hp').mp h1 with ⟨-, h⟩ | h
    · exact he'.2 h
    · exact a4 e' he'.1 p hp' h
  · by_cases ee : e' = e
    · subst ee
      rw [hy] at hy'
      cases hy'
      refine Or.inr ⟨r, hr, (mem r e' hr).mpr (Or.inl ⟨rfl, rfl⟩), hc, fun i' hi' e2 => ?_⟩
      have hle := c4.2.1 i' hi'
      have hnz := (c2.2.1 i' (by omega)).2.1
      have e2' : ord' s i' = r := e2
      rw [e2'] at hle hnz
      omega
    · rcases b e' he' hl' y' hy' with h | ⟨r', r1, r2, r3, r4⟩
      · exact Or.inl ⟨h, ee⟩
      · exact Or.inr ⟨r', r1, (mem r' e' r1).mpr (Or.inr r2), r3, r4⟩
/-- an edge settles its stand -/
theorem CL.sv {e y : Nat} (h : CL beh sg k n q l i Pd s) (he : e < 8 * n) (hl0 : lvl' s (e / 8) = 0) (hy : beh (q (e / 8)) (e % 8) = some y) (hc : ∀ c, c < k → pcN (y / 8 &&& sg c) 12 < 2 ∨ ∃ r, r < n ∧ q r = prS sg y c ∧ lvl' s r ≠ 0 ∧ lvl' s r ≤ l) : CL beh sg k n q l i (fun e' => Pd e' ∧ e' ≠ e) (up1 (lvl' s) (e / 8) (l + 1), up1 (ord' s) (svd s) (e / 8), svd s + 1, wls s) := by
  obtain ⟨⟨a1, a2, a3, a4⟩, b, c1, c2, c3, c4, c5⟩ := h
  have hp : e / 8 < n := by omega
  have ordn : ∀ i1, i1 < svd s → ord' s i1 ≠ e / 8 := by
    intro i1 h1 h2
    have := (c2.2.1 i1 h1).2.1
    rw [h2] at this
    exact this hl0
  have lo : ∀ i1, i1 < svd s → up1 (lvl' s) (e / 8) (l + 1) (up1 (ord' s) (svd s) (e / 8) i1) = lvl' s (ord' s i1) := by
    intro i1 h1
    rw [up1_n (ord' s) _ (by omega), up1_n _ _ (ordn i1 h1)]
  have ln' : up1 (lvl' s) (e / 8) (l + 1) (up1 (ord' s) (svd s) (e / 8) (svd s)) = l + 1 := by rw [up1_s, up1_s]
  have gl : gW beh sg k (l + 1) (q (e / 8)) = true := by
    refine (gW_iff _ _).mpr (Or.inr ⟨e % 8, y, by omega, hy, fun c hck => ?_⟩)
    rcases hc c hck with h2 | ⟨r, r1, r2, r3, r4⟩
    · by_cases h0 : pcN (y / 8 &&& sg c) 12 = 0
      · exact Or.inl h0
      · refine Or.inr (gW_le (N := 0) ?_ (Nat.zero_le _))
        show decide (pcN (prS sg y c / 8) 12 = 1) = true
        rw [prS8]
        exact decide_eq_true (by omega)
    · refine Or.inr ?_
      rw [← r2]
      exact gW_le (c1 r r1 r3).1 r4
  have gf : gW beh sg k l (q (e / 8)) = false := by
    cases hg : gW beh sg k l (q (e / 8)) with
    | false => rfl
    | true => exact absurd hl0 (c5 _ hp hg)
  refine ⟨⟨a1, a2, a3, fun e' he' => a4 e' he'.1⟩, fun e' he' hl' y' hy' => ?_, fun p hpn hpl => ?_, ⟨fun i1 i2 h1 h2 => ?_, fun i1 h1 => ?_, fun p hpn hpl => ?_⟩, ?_, ⟨fun i1 h1 => ?_, fun i' h1 => ?_, by show i ≤ svd s + 1; have := c4.2.2.1; omega, c4.2.2.2.1, fun i1 h1 h2 => ?_⟩, fun p hpn hg => ?_⟩
  · have hl'' : up1 (lvl' s) (e / 8) (l + 1) (e' / 8) = 0 := hl'
    by_cases ep : e' / 8 = e / 8
    · rw [ep, up1_s] at hl''; omega
    · rw [up1_n _ _ ep] at hl''
      rcases b e' he' hl'' y' hy' with h | ⟨r', r1, r2, r3, r4⟩
      · exact Or.inl ⟨h, fun e2 => ep (by rw [e2])⟩
      · refine Or.inr ⟨r', r1, r2, r3, fun i' hi' => ?_⟩
        show up1 (ord' s) (svd s) (e / 8) i' ≠ r'
        rw [up1_n _ _ (by have := c4.2.2.1; omega)]
        exact r4 i' hi'
  · show gW beh sg k (up1 (lvl' s) (e / 8) (l + 1) p) (q p) = true ∧ gW beh sg k (up1 (lvl' s) (e / 8) (l + 1) p - 1) (q p) = false
    by_cases ep : p = e / 8
    · subst ep; rw [up1_s, Nat.add_sub_cancel]; exact ⟨gl, gf⟩
    · have hpl' : up1 (lvl' s) (e / 8) (l + 1) p ≠ 0 := hpl
      rw [up1_n _ _ ep] at hpl' ⊢
      exact c1 p hpn hpl'
  · show up1 (lvl' s) (e / 8) (l + 1) (up1 (ord' s) (svd s) (e / 8) i1) ≤ up1 (lvl' s) (e / 8) (l + 1) (up1 (ord' s) (svd s) (e / 8) i2)
    have h2' : i2 < svd s + 1 := h2
    by_cases e2 : i2 = svd s
    · rw [e2, ln']
      by_cases e1 : i1 = svd s
      · rw [e1, ln']; omega
      · rw [lo i1 (by omega)]; exact c4.1 i1 (by omega)
    · rw [lo i1 (by omega), lo i2 (by omega)]
      exact c2.1 i1 i2 h1 (by omega)
  · have h1' : i1 < svd s + 1 := h1
    show up1 (ord' s) (svd s) (e / 8) i1 < n ∧ up1 (lvl' s) (e / 8) (l + 1) (up1 (ord' s) (svd s) (e / 8) i1) ≠ 0 ∧ up1 (lvl' s) (e / 8) (l + 1) (up1 (ord' s) (svd s) (e / 8) i1) ≤ i1 + 1
    by_cases e1 : i1 = svd s
    · rw [e1, ln', up1_s]
      exact ⟨hp, by omega, by have := c4.2.2.1; have := c4.2.2.2.1; omega⟩
    · rw [lo i1 (by omega), up1_n _ _ e1]
      exact c2.2.1 i1 (by omega)
  · by_cases ep : p = e / 8
    · exact ⟨svd s, Nat.lt_succ_self _, by rw [ep]; exact up1_s _ _ _⟩
    · have hpl' : up1 (lvl' s) (e / 8) (l + 1) p ≠ 0 := hpl
      rw [up1_n _ _ ep] at hpl'
      obtain ⟨i1, j1, j2⟩ := c2.2.2 p hpn hpl'
      exact ⟨i1, Nat.lt_succ_of_lt j1, by show up1 (ord' s) (svd s) (e / 8) i1 = p; rw [up1_n _ _ (by omega)]; exact j2⟩
  · show svd s + 1 = cntB (fun p => decide (up1 (lvl' s) (e / 8) (l + 1) p ≠ 0)) n
    rw [cntB_up (p := fun p => decide (lvl' s p ≠ 0)) (t := e / 8) (by simp [hl0]) (by simp [up1_s]) (by intro p hp'; rw [up1_n _ _ hp']) n hp]
    omega
  · have h1' : i1 < svd s + 1 := h1
    show up1 (lvl' s) (e / 8) (l + 1) (up1 (ord' s) (svd s) (e / 8) i1) ≤ l + 1
    by_cases e1 : i1 = svd s
    · rw [e1, ln']; omega
    · rw [lo i1 (by omega)]; exact c4.1 i1 (by omega)
  · show up1 (lvl' s) (e / 8) (l + 1) (up1 (ord' s) (svd s) (e / 8) i') ≤ l
    rw [lo i' (by have := c4.2.2.1; omega)]
    exact c4.2.1 i' h1
  · have h2' : i1 < svd s + 1 := h2
    show l ≤ up1 (lvl' s) (e / 8) (l + 1) (up1 (ord' s) (svd s) (e / 8) i1)
    by_cases e1 : i1 = svd s
    · rw [e1, ln']; omega
    · rw [lo i1 (by omega)]; exact c4.2.2.2.2 i1 h1 (by omega)
  · show up1 (lvl' s) (e / 8) (l + 1) p ≠ 0
    by_cases ep : p = e / 8
    · rw [ep, up1_s]; omega
    · rw [up1_n _ _ ep]; exact c5 p hpn hg
/-- the next to be settled -/
theorem CL.nx (hq : ∀ p, p < n → 2 ≤ pcN (q p / 8) 12) (h : CL beh sg k n q l i (fun _ => False) s) (hi : i < svd s) : CL beh sg k n q (lvl' s (ord' s i)) (i + 1) (fun e => e ∈ wls s (ord' s i)) (lvl' s, ord' s, svd s, fun p => if p = ord' s i then [] else wls s p) := by
  obtain ⟨⟨a1, a2, a3, a4⟩, b, c1, c2, c3, c4, c5⟩ := h
  have hoi := c2.2.1 i hi
  refine ⟨⟨fun p hp e he => ?_, fun p hp => ?_, fun p p' hp hp' e h1 h2 => ?_, fun e he p hp h1 => ?_⟩, fun e he hl y hy => ?_, c1, c2, c3, ⟨fun i1 h1 => ?_, fun i' h1 => ?_, by show i + 1 ≤ svd s; omega, by have := hoi.2.2; omega, fun i1 h1 h2 => c2.1 i i1 (by omega) h2⟩, ?_⟩
  · have he' : e ∈ (if p = ord' s i then [] else wls s p) := he
    by_cases ep : p = ord' s i
    · rw [if_pos ep] at he'; cases he'
    · rw [if_neg ep] at he'; exact a1 p hp e he'
  · show (if p = ord' s i then [] else wls s p).Nodup
    by_cases ep : p = ord' s i
    · rw [if_pos ep]; exact List.nodup_nil
    · rw [if_neg ep]; exact a2 p hp
  · have h1' : e ∈ (if p = ord' s i then [] else wls s p) := h1
    have h2' : e ∈ (if p' = ord' s i then [] else wls s p') := h2
    by_cases ep : p = ord' s i
    · rw [if_pos ep] at h1'; cases h1'
    · by_cases ep' : p' = ord' s i
      · rw [if_pos ep'] at h2'; cases h2'
      · rw [if_neg ep] at h1'; rw [if_neg ep'] at h2'
        exact a3 p p' hp hp' e h1' h2'
  · have h1' : e ∈ (if p = ord' s i then [] else wls s p) := h1
    by_cases ep : p = ord' s i
    · rw [if_pos ep] at h1'; cases h1'
    · rw [if_neg ep] at h1'
      exact ep (a3 p (ord' s i) hp hoi.1 e h1' he)
  · rcases b e he hl y hy with h | ⟨r, r1, r2, r3, r4⟩
    · exact h.elim
    · by_cases er : r = ord' s i
      · rw [er] at r2; exact Or.inl r2
      · refine Or.inr ⟨r, r1, ?_, r3, fun i' hi' => ?_⟩
        · show e ∈ (if r = ord' s i then [] else wls s r)
          rw [if_neg er]; exact r2
        · by_cases ei : i' = i
          · subst ei; exact fun h => er h.symm
          · exact r4 i' (by omega)
  · show lvl' s (ord' s i1) ≤ lvl' s (ord' s i) + 1
    have := c4.1 i1 h1
    have := c4.2.2.2.2 i (Nat.le_refl _) hi
    omega
  · exact c2.1 i' i (by omega) hi
  · have key : ∀ N, N ≤ lvl' s (ord' s i) → ∀ p, p < n → gW beh sg k N (q p) = true → lvl' s p ≠ 0 := by
      intro N
      induction N with
      | zero =>
        intro _ p hp hg
        have : pcN (q p / 8) 12 = 1 := of_decide_eq_true hg
        have := hq p hp
        omega
      | succ N ih =>
        intro hN p hp hg hl
        rcases (gW_iff _ _).mp hg with h1 | ⟨w, y, h8, hy, hall⟩
        · exact ih (by omega) p hp h1 hl
        · have e8 : (8 * p + w) / 8 = p := by omega
          have e8' : (8 * p + w) % 8 = w := by omega
          rcases b (8 * p + w) (by omega) (by rw [e8]; exact hl) y (by rw [e8, e8']; exact hy) with h | ⟨r, r1, r2, ⟨c, hc, hrc⟩, r4⟩
          · exact h
          · have hpr : gW beh sg k N (q r) = true := by
              rcases hall c hc with h0 | h0
              · have := hq r r1
                rw [hrc, prS8] at this
                omega
              · rw [hrc]; exact h0
            have hrl := ih (by omega) r r1 hpr
            obtain ⟨i2, j1, j2⟩ := c2.2.2 r r1 hrl
            have hi2 : i ≤ i2 := by
              by_cases h : i2 < i
              · exact absurd j2 (r4 i2 h)
              · omega
            have hge := c2.1 i i2 hi2 j1
            rw [j2] at hge
            have := gW_le hpr (show N ≤ lvl' s r - 1 by omega)
            rw [(c1 r r1 hrl).2] at this
            cases this
    exact fun p hp hg => key _ (Nat.le_refl _) p hp hg
/-- what never meets -/
theorem CL.fin (hq : ∀ p, p < n → 2 ≤ pcN (q p / 8) 12) (h : CL beh sg k n q l i (fun _ => False) s) (hi : i = svd s) : ∀ p, p < n → (lvl' s p = 0 → ∀ N, gW beh sg k N (q p) = false) ∧ (lvl' s p ≠ 0 → gW beh sg k (lvl' s p) (q p) = true ∧ gW beh sg k (lvl' s p - 1) (q p) = false ∧ lvl' s p ≤ n) := by
  obtain ⟨⟨a1, a2, a3, a4⟩, b, c1, c2, c3, c4, c5⟩ := h
  have hsn : svd s ≤ n := by rw [c3]; exact cntB_le _ _
  intro p hp
  refine ⟨fun hl N => ?_, fun hl => ⟨(c1 p hp hl).1, (c1 p hp hl).2, ?_⟩⟩
  · have key : ∀ N p, p < n → lvl' s p = 0 → gW beh sg k N (q p) = false := by
      intro N
      induction N with
      | zero =>
        intro p hp _
        apply decide_eq_false
        have := hq p hp
        omega
      | succ N ih =>
        intro p hp hl
        cases hg : gW beh sg k (N + 1) (q p) with
        | false => rfl
        | true =>
          exfalso
          rcases (gW_iff _ _).mp hg with h1 | ⟨w, y, h8, hy, hall⟩
          · rw [ih p hp hl] at h1; cases h1
          · have e8 : (8 * p + w) / 8 = p := by omega
            have e8' : (8 * p + w) % 8 = w := by omega
            rcases b (8 * p + w) (by omega) (by rw [e8]; exact hl) y (by rw [e8, e8']; exact hy) with h | ⟨r, r1, r2, ⟨c, hc, hrc⟩, r4⟩
            · exact h
            · have hrl : lvl' s r = 0 := by
                by_cases h : lvl' s r = 0
                · exact h
                · obtain ⟨i2, j1, j2⟩ := c2.2.2 r r1 h
                  exact absurd j2 (r4 i2 (by omega))
              have := ih r r1 hrl
              rcases hall c hc with h0 | h0
              · have := hq r r1
                rw [hrc, prS8] at this
                omega
              · rw [← hrc, this] at h0; cases h0
    exact key N p hp hl
  · obtain ⟨i1, j1, j2⟩ := c2.2.2 p hp hl
    have := (c2.2.1 i1 j1).2.2
    rw [j2] at this
    omega
end LVP
end Pc2
