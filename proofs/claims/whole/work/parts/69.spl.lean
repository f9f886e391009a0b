section P69
/-! The first row of fewest words. -/
section BF
variable {beh : Nat → Nat → Option Nat} {V : Nat → Prop} {st b : Nat} {G : Nat → Bool}
theorem dG_min (hI : ∀ e, BI beh V st (bfs beh st e) e) (hb : dG beh G st = some b) {k j : Nat} (hj : j < bN (bZ beh st)) (h : cnG beh G k (bQ (bZ beh st) j) = true) : b ≤ Fi (bZ beh st) j + k := by
  have h1 := cn_back hI j hj k h
  obtain ⟨h2, h3, h4⟩ := (lst_s _ _ _).mp hb
  by_cases hc : b ≤ Fi (bZ beh st) j + k
  · exact hc
  · have := h4 (k + Fi (bZ beh st) j) (by omega)
    rw [this] at h1
    cases h1
noncomputable def ldS (beh : Nat → Nat → Option Nat) (G : Nat → Bool) (st b y : Nat) : Bool := match bF (bZ beh st) y with
  | none => false
  | some f => decide (f ≤ b) && cnG beh G (b - f) y
noncomputable def cwZ (beh : Nat → Nat → Option Nat) (G : Nat → Bool) (st b x f w : Nat) : Bool := match beh x w with
  | none => false
  | some y => decide (bF (bZ beh st) y = some (f + 1)) && ldS beh G st b y
/-- the least word behind which r words more are enough -/
def nxw (beh : Nat → Nat → Option Nat) (G : Nat → Bool) (r x : Nat) : Option Nat := lst (fun w => match beh x w with
  | none => false
  | some y => cnG beh G r y) 8
def spx (beh : Nat → Nat → Option Nat) (G : Nat → Bool) (b st : Nat) : Nat → Nat
  | 0 => st
  | k + 1 => (beh (spx beh G b st k) ((nxw beh G (b - (k + 1)) (spx beh G b st k)).getD 0)).getD 0
def spw (beh : Nat → Nat → Option Nat) (G : Nat → Bool) (b st k : Nat) : Nat := (nxw beh G (b - (k + 1)) (spx beh G b st k)).getD 0
theorem bZ_edge (hI : ∀ e, BI beh V st (bfs beh st e) e) {i w y : Nat} (hi : i < bN (bZ beh st)) (hw : w < 8) (hy : beh (bQ (bZ beh st) i) w = some y) : ∃ j, j < bN (bZ beh st) ∧ bQ (bZ beh st) j = y ∧ Fi (bZ beh st) j ≤ Fi (bZ beh st) i + 1 ∧ (0 < j → bP (bZ beh st) j ≤ 8 * i + w) := by
  have hZ := bZ_I hI
  have e1 : (8 * i + w) / 8 = i := by omega
  have e2 : (8 * i + w) % 8 = w := by omega
  obtain ⟨j, q1, q2, q3, q4⟩ := hZ.2.2.2.2.2.2.2.2.2.1 (8 * i + w) (by omega) (by rw [e1]; exact hi) y (by rw [e1, e2]; exact hy)
  rw [e1] at q3
  exact ⟨j, q1, q2, q3, q4⟩
theorem ldS_q (hI : ∀ e, BI beh V st (bfs beh st e) e) {i : Nat} (hi : i < bN (bZ beh st)) : ldS beh G st b (bQ (bZ beh st) i) = (decide (Fi (bZ beh st) i ≤ b) && cnG beh G (b - Fi (bZ beh st) i) (bQ (bZ beh st) i)) := by
  unfold ldS
  rw [((bZ_I hI).2.2.1 i hi).1]
/-- an edge to a stand from which the rest is enough leads one word farther -/
theorem cw_nx (hI : ∀ e, BI beh V st (bfs beh st e) e) (hb : dG beh G st = some b) {i w : Nat} (hi : i < bN (bZ beh st)) (hw : w < 8) (hf : Fi (bZ beh st) i < b) : cwZ beh G st b (bQ (bZ beh st) i) (Fi (bZ beh st) i) w = (match beh (bQ (bZ beh st) i) w with
  | none => false
  | some y => cnG beh G (b - (Fi (bZ beh st) i + 1)) y) := by
  unfold cwZ
  cases hy : beh (bQ (bZ beh st) i) w with
  | none => rfl
  | some y =>
    obtain ⟨j, hj, hq, hF, _⟩ := bZ_edge hI hi hw hy
    have hfj := ((bZ_I hI).2.2.1 j hj).1
    show (decide (bF (bZ beh st) y = some (Fi (bZ beh st) i + 1)) && ldS beh G st b y) = cnG beh G (b - (Fi (bZ beh st) i + 1)) y
    rw [← hq, hfj, ldS_q hI hj]
    by_cases he : Fi (bZ beh st) j = Fi (bZ beh st) i + 1
    · rw [he, decide_eq_true rfl, decide_eq_true (by omega)]
      simp
    · rw [decide_eq_false (fun h => he (Option.some.inj h))]
      cases hc : cnG beh G (b - (Fi (bZ beh st) i + 1)) (bQ (bZ beh st) j) with
      | false => rfl
      | true =>
        have := dG_min hI hb hj hc
        omega
theorem ldS_iff (hI : ∀ e, BI beh V st (bfs beh st e) e) (hb : dG beh G st = some b) {i : Nat} (hi : i < bN (bZ beh st)) : ldS beh G st b (bQ (bZ beh st) i) = ((decide (Fi (bZ beh st) i = b) && G (bQ (bZ beh st) i)) || (decide (Fi (bZ beh st) i < b) && anyN (cwZ beh G st b (bQ (bZ beh st) i) (Fi (bZ beh st) i)) 8)) := by
  rw [ldS_q hI hi]
  rcases Nat.lt_trichotomy (Fi (bZ beh st) i) b with h | h | h
  · rw [decide_eq_true (Nat.le_of_lt h), decide_eq_false (by omega), decide_eq_true h, Bool.true_and, Bool.false_and, Bool.false_or, Bool.true_and]
    obtain ⟨r, hr⟩ : ∃ r, b - Fi (bZ beh st) i = r + 1 := ⟨b - Fi (bZ beh st) i - 1, by omega⟩
    have hr2 : b - (Fi (bZ beh st) i + 1) = r := by omega
    apply Bool.eq_iff_iff.mpr
    rw [hr, cnG_iff, anyN_iff]
    constructor
    · rintro (hg | ⟨w, y, hw, hy, hc⟩)
      · have := dG_min (k := 0) hI hb hi hg
        omega
      · refine ⟨w, hw, ?_⟩
        rw [cw_nx hI hb hi hw h, hy, hr2]
        exact hc
    · rintro ⟨w, hw, hc⟩
      rw [cw_nx hI hb hi hw h] at hc
      split at hc
      · cases hc
      · rename_i y hy
        rw [hr2] at hc
        exact Or.inr ⟨w, y, hw, hy, hc⟩
  · rw [decide_eq_true (show Fi (bZ beh st) i ≤ b by omega), decide_eq_true h, decide_eq_false (by omega), show b - Fi (bZ beh st) i = 0 by omega]
    simp [cnG]
  · rw [decide_eq_false (by omega), decide_eq_false (by omega), decide_eq_false (by omega)]
    rfl
theorem cnG0_0 (hb : dG beh G st = some b) : cnG beh G b st = true := ((lst_s _ _ _).mp hb).2.1
/-- the row goes through the queue -/
theorem spx_q (hI : ∀ e, BI beh V st (bfs beh st e) e) (hb : dG beh G st = some b) : ∀ k, k ≤ b → ∃ i, i < bN (bZ beh st) ∧ spx beh G b st k = bQ (bZ beh st) i ∧ Fi (bZ beh st) i = k ∧ cnG beh G (b - k) (bQ (bZ beh st) i) = true := by
  intro k
  induction k with
  | zero =>
    intro _
    have hZ := bZ_I hI
    have h0 := hZ.2.2.2.2.2.2.2.2.2.2.2.2
    refine ⟨0, hZ.1.1, h0.1.symm, h0.2, ?_⟩
    rw [h0.1]
    exact cnG0_0 hb
  | succ k ih =>
    intro hk
    obtain ⟨i, hi, hx, hF, hc⟩ := ih (by omega)
    obtain ⟨r, hr⟩ : ∃ r, b - k = r + 1 := ⟨b - k - 1, by omega⟩
    have hr2 : b - (k + 1) = r := by omega
    rw [hr, cnG_iff] at hc
    have hex : ∃ w y, w < 8 ∧ beh (bQ (bZ beh st) i) w = some y ∧ cnG beh G r y = true := by
      rcases hc with hg | h
      · have := dG_min (k := 0) hI hb hi hg
        omega
      · exact h
    obtain ⟨w, y, hw, hy, hc2⟩ := hex
    cases hn : nxw beh G r (bQ (bZ beh st) i) with
    | none =>
      have := (lst_n _ _).mp hn w hw
      rw [hy] at this
      have this' : cnG beh G r y = false := this
      rw [this'] at hc2
      cases hc2
    | some w' =>
      obtain ⟨q1, q2, q3⟩ := (lst_s _ _ _).mp hn
      cases hy' : beh (bQ (bZ beh st) i) w' with
      | none => rw [hy'] at q2; cases q2
      | some y' =>
        rw [hy'] at q2
        have q2' : cnG beh G r y' = true := q2
        obtain ⟨j, hj, hq, hFj, _⟩ := bZ_edge hI hi q1 hy'
        rw [← hq] at q2'
        have hm := dG_min hI hb hj q2'
        refine ⟨j, hj, ?_, by omega, by rw [hr2]; exact q2'⟩
        show (beh (spx beh G b st k) ((nxw beh G (b - (k + 1)) (spx beh G b st k)).getD 0)).getD 0 = _
        rw [hx, hr2, hn]
        show (beh (bQ (bZ beh st) i) w').getD 0 = _
        rw [hy', hq]
        rfl
theorem spw_s (hI : ∀ e, BI beh V st (bfs beh st e) e) (hb : dG beh G st = some b) {k i : Nat} (hk : k < b) (hi : i < bN (bZ beh st)) (hx : spx beh G b st k = bQ (bZ beh st) i) (hF : Fi (bZ beh st) i = k) : spw beh G b st k < 8 ∧ beh (bQ (bZ beh st) i) (spw beh G b st k) = some (spx beh G b st (k + 1)) ∧ cwZ beh G st b (bQ (bZ beh st) i) k (spw beh G b st k) = true ∧ ∀ w, w < spw beh G b st k → cwZ beh G st b (bQ (bZ beh st) i) k w = false := by
  obtain ⟨i', hi', hx', hF', hc⟩ := spx_q hI hb k (by omega)
  have hii : i' = i := (bZ_I hI).2.2.2.2.1 i' i hi' hi (by rw [← hx', hx])
  subst hii
  obtain ⟨r, hr⟩ : ∃ r, b - k = r + 1 := ⟨b - k - 1, by omega⟩
  have hr2 : b - (k + 1) = r := by omega
  rw [hr, cnG_iff] at hc
  have hex : ∃ w y, w < 8 ∧ beh (bQ (bZ beh st) i') w = some y ∧ cnG beh G r y = true := by
    rcases hc with hg | h
    · have := dG_min (k := 0) hI hb hi hg
      omega
    · exact h
  obtain ⟨w, y, hw, hy, hc2⟩ := hex
  cases hn : nxw beh G r (bQ (bZ beh st) i') with
  | none =>
    have := (lst_n _ _).mp hn w hw
    rw [hy] at this
    have this' : cnG beh G r y = false := this
    rw [this'] at hc2
    cases hc2
  | some w' =>
    obtain ⟨q1, q2, q3⟩ := (lst_s _ _ _).mp hn
    have hsw : spw beh G b st k = w' := by
      unfold spw
      rw [hx, hr2, hn]
      rfl
    rw [hsw]
    have hcw : ∀ w, w < 8 → cwZ beh G st b (bQ (bZ beh st) i') k w = (match beh (bQ (bZ beh st) i') w with
      | none => false
      | some y => cnG beh G r y) := by
      intro w hw
      have := cw_nx hI hb hi hw (by omega)
      rw [hF, hr2] at this
      exact this
    cases hy' : beh (bQ (bZ beh st) i') w' with
    | none => rw [hy'] at q2; cases q2
    | some y' =>
      refine ⟨q1, ?_, ?_, ?_⟩
      · show _ = some ((beh (spx beh G b st k) ((nxw beh G (b - (k + 1)) (spx beh G b st k)).getD 0)).getD 0)
        rw [hx, hr2, hn]
        show some y' = some ((beh (bQ (bZ beh st) i') w').getD 0)
        rw [hy']
        rfl
      · rw [hcw w' q1]
        exact q2
      · intro w hw
        rw [hcw w (by omega)]
        exact q3 w hw
end BF
end P69
