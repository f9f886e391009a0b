section Pb0
variable {xs : Nat → Int32} {Ln d : Nat} {D D' D'' : Dyn} {I I' I'' : Nat → Nat → Int32} {L : Nat → Nat → Int64} {w : Om} {Q : Res → Prop} {ow ow' ow'' ky ky' ky'' ln ln' ln'' a : Nat → Nat}
/-! The rows that grow: 1 to 4 the search's, 5 to 10 the pairs', 11 to 16 the sights'. ow: whose a row is; ky: where a row lies; ln: how long it is. -/
def ob (i : Nat) : Nat := if i ≤ 4 then 29 else if i ≤ 10 then 34 else 42
def fl (i : Nat) : Nat := if i ≤ 4 then i + 9 else if i ≤ 10 then i + 4 else i - 2
def dy (k : Nat) : Prop := (30 ≤ k ∧ k ≤ 33) ∨ (36 ≤ k ∧ k ≤ 41) ∨ (44 ≤ k ∧ k ≤ 49) ∨ 103 ≤ k
def DA (D : Dyn) (ow ky ln : Nat → Nat) : Prop := ∀ i, 1 ≤ i → i ≤ 16 → pF D (ob i) (fl i) = some (ky i) ∧ shF D (ky i) = .inl (.int, ln i) ∧ ow (ky i) = i ∧ dy (ky i) ∧ ky i < 103 + D.1 ∧ 16 ≤ ln i ∧ ln i ≤ 262144
/-- rows of the first 103 that are nobody's of these -/
def OwS (ow : Nat → Nat) : Prop := ∀ k, k < 103 → 1 ≤ ow k → ow k ≤ 16 → dy k
theorem DA.ne (h : DA D ow ky ln) {i j : Nat} (hi : 1 ≤ i ∧ i ≤ 16) (hj : 1 ≤ j ∧ j ≤ 16) (hij : i ≠ j) : ky i ≠ ky j := by
  intro e
  have h1 := (h i hi.1 hi.2).2.2.1
  have h2 := (h j hj.1 hj.2).2.2.1
  rw [e, h2] at h1
  exact hij h1.symm
theorem DA.st (h : DA D ow ky ln) {i k : Nat} (hi : 1 ≤ i ∧ i ≤ 16) (hk : ¬ dy k) : k ≠ ky i := by
  intro e
  rw [e] at hk
  exact hk (h i hi.1 hi.2).2.2.2.1
/-- room -/
def Rm (D : Dyn) (ln : Nat → Nat) (z : Nat) : Prop := D.2.1 ≤ z + 2 * smN ln 17 ∧ 16 * D.1 ≤ D.2.1 ∧ ln 0 = 0
/-- what growing leaves: the rows lo to hi of the object o may have changed -/
def GX (lo hi o : Nat) (D : Dyn) (I : Nat → Nat → Int32) (ow ky ln : Nat → Nat) (D' : Dyn) (I' : Nat → Nat → Int32) (ow' ky' ln' : Nat → Nat) : Prop :=
  D.1 ≤ D'.1 ∧ (∀ k, k < 103 + D.1 → shF D' k = shF D k ∧ ow' k = ow k) ∧ (∀ k j, k < 103 + D.1 → k ≠ o → pF D' k j = pF D k j) ∧ (∀ k, k < 103 + D.1 → k ≠ o → ¬ (lo ≤ ow k ∧ ow k ≤ hi) → I' k = I k) ∧ (∀ i, ¬ (lo ≤ i ∧ i ≤ hi) → ky' i = ky i ∧ ln' i = ln i)
theorem GX.rf {lo hi o : Nat} : GX lo hi o D I ow ky ln D I ow ky ln := ⟨Nat.le_refl _, fun _ _ => ⟨rfl, rfl⟩, fun _ _ _ _ => rfl, fun _ _ _ _ => rfl, fun _ _ => ⟨rfl, rfl⟩⟩
theorem GX.tr {lo hi o : Nat} (h : GX lo hi o D I ow ky ln D' I' ow' ky' ln') (h' : GX lo hi o D' I' ow' ky' ln' D'' I'' ow'' ky'' ln'') : GX lo hi o D I ow ky ln D'' I'' ow'' ky'' ln'' := by
  obtain ⟨a1, a2, a3, a4, a5⟩ := h
  obtain ⟨b1, b2, b3, b4, b5⟩ := h'
  refine ⟨by omega, fun k hk => ⟨?_, ?_⟩, fun k j hk ho => ?_, fun k hk ho hn => ?_, fun i hi => ⟨?_, ?_⟩⟩
  · rw [(b2 k (by omega)).1, (a2 k hk).1]
  · rw [(b2 k (by omega)).2, (a2 k hk).2]
  · rw [b3 k j (by omega) ho, a3 k j hk ho]
  · rw [b4 k (by omega) ho (by rw [(a2 k hk).2]; exact hn), a4 k hk ho hn]
  · rw [(b5 i hi).1, (a5 i hi).1]
  · rw [(b5 i hi).2, (a5 i hi).2]
/-- a change of a row of o, or of o itself -/
theorem GX.u {lo hi o k j : Nat} {x : Int32} (h : GX lo hi o D I ow ky ln D' I' ow' ky' ln') (hk : k = o ∨ (lo ≤ ow' k ∧ ow' k ≤ hi)) : GX lo hi o D I ow ky ln D' (up2 I' k j x) ow' ky' ln' := by
  obtain ⟨a1, a2, a3, a4, a5⟩ := h
  refine ⟨a1, a2, a3, fun k' hk' ho hn => ?_, a5⟩
  rw [up2_ro _ _ _ ?_, a4 k' hk' ho hn]
  rintro rfl
  rcases hk with h | h
  · exact ho h
  · rw [(a2 k' hk').2] at h; exact hn h
def dGr (D : Dyn) (i n : Nat) : Dyn := dPut (dNew D (.inl (.int, n)) n) (ob i) (fl i) (103 + D.1)
theorem ob_fl : ∀ i, i < 17 → 1 ≤ i → p0 (ob i) (fl i) = none ∧ ob i < 103 := by decide
theorem ob_in : ∀ i, i < 17 → ∀ j, j < 17 → (1 ≤ i ∧ 1 ≤ j ∧ ob i = ob j ∧ fl i = fl j) → i = j := by decide
theorem dGr_sh (D : Dyn) (i n k : Nat) : shF (dGr D i n) k = if k = 103 + D.1 then .inl (.int, n) else shF D k := by
  show shF (dNew D (.inl (.int, n)) n) k = _
  rw [← sh_new]
  rfl
theorem dGr_p (D : Dyn) {i : Nat} (n k j : Nat) (hi : i < 17) (h1 : 1 ≤ i) : pF (dGr D i n) k j = if k = ob i ∧ j = fl i then some (103 + D.1) else if k = 103 + D.1 then none else pF D k j := by
  unfold dGr
  show pF (dPutN (dNew D (.inl (.int, n)) n) (ob i) (fl i) (some (103 + D.1))) k j = _
  rw [← pF_put _ _ (ob_fl i hi h1).1, up2_c]
  split
  · rfl
  · rw [← pF_new]
    unfold upr
    split <;> rfl
theorem smN_ch (f : Nat → Nat) (i v : Nat) : ∀ n, i < n → smN (up1 f i v) n + f i = smN f n + v
  | 0, h => by omega
  | n + 1, h => by
    unfold smN
    by_cases e : i = n
    · subst e
      have hlow : ∀ m, m ≤ i → smN (up1 f i v) m = smN f m := by
        intro m
        induction m with
        | zero => intro _; rfl
        | succ m ih => intro hm; unfold smN; rw [ih (by omega), up1_n _ _ (by omega)]
      rw [hlow i (Nat.le_refl _), up1_s]
      omega
    · rw [up1_n _ _ (show n ≠ i by omega)]
      have := smN_ch f i v n (by omega)
      omega
/-- a row grows -/
theorem grow {i n z : Nat} (h : DA D ow ky ln) (hr : Rm D ln z) (hi : 1 ≤ i ∧ i ≤ 16) (hn : 2 * ln i ≤ n) (hb : n ≤ 262144) (hI : ∀ k, k ≠ 103 + D.1 → I' k = I k) :
    DA (dGr D i n) (up1 ow (103 + D.1) i) (up1 ky i (103 + D.1)) (up1 ln i n) ∧ Rm (dGr D i n) (up1 ln i n) z ∧ ∀ lo hi', lo ≤ i → i ≤ hi' → GX lo hi' (ob i) D I ow ky ln (dGr D i n) I' (up1 ow (103 + D.1) i) (up1 ky i (103 + D.1)) (up1 ln i n) := by
  have h16 := (h i hi.1 hi.2).2.2.2.2.2.1
  refine ⟨fun j j1 j2 => ?_, ⟨?_, ?_, by rw [up1_n _ _ (by omega)]; exact hr.2.2⟩, fun lo hi' hlo hhi => ⟨?_, fun k hk => ⟨?_, ?_⟩, fun k j hk ho => ?_, fun k hk ho hn => ?_, fun j hj => ⟨?_, ?_⟩⟩⟩
  · rw [dGr_p D n _ _ (by omega) hi.1, dGr_sh]
    by_cases e : j = i
    · subst e
      rw [if_pos ⟨rfl, rfl⟩, up1_s, up1_s, if_pos rfl, up1_s]
      exact ⟨rfl, rfl, rfl, by unfold dy; omega, by show 103 + D.1 < 103 + (D.1 + 1); omega, by omega, hb⟩
    · obtain ⟨q1, q2, q3, q4, q5, q6, q7⟩ := h j j1 j2
      have hob := (ob_fl j (by omega) j1).2
      rw [if_neg (fun e2 => e (ob_in j (by omega) i (by omega) ⟨j1, hi.1, e2.1, e2.2⟩)), if_neg (by omega), up1_n _ _ e, up1_n _ _ e, if_neg (by omega), up1_n _ _ (by omega)]
      exact ⟨q1, q2, q3, q4, by show ky j < 103 + (D.1 + 1); omega, q6, q7⟩
  · show D.2.1 + n ≤ _
    have := smN_ch ln i n 17 (by omega)
    have := hr.1
    omega
  · show 16 * (D.1 + 1) ≤ D.2.1 + n
    have := hr.2.1
    omega
  · show D.1 ≤ D.1 + 1
    omega
  · rw [dGr_sh, if_neg (by omega)]
  · rw [up1_n _ _ (by omega)]
  · rw [dGr_p D n _ _ (by omega) hi.1, if_neg (fun e => ho e.1), if_neg (by omega)]
  · exact hI k (by omega)
  · rw [up1_n _ _ (by omega)]
  · rw [up1_n _ _ (by omega)]
/-- the static rows and the laws stay -/
theorem GX.i {lo hi o k : Nat} (h : GX lo hi o D I ow ky ln D' I' ow' ky' ln') (hS : OwS ow) (h1 : 1 ≤ lo) (h16 : hi ≤ 16) (hk : k < 103) (hd : ¬ dy k) (ho : k ≠ o) : I' k = I k := h.2.2.2.1 k (by omega) ho (fun hc => hd (hS k hk (by omega) (by omega)))
theorem GX.os {lo hi o : Nat} (h : GX lo hi o D I ow ky ln D' I' ow' ky' ln') (hS : OwS ow) : OwS ow' := by
  intro k hk h1 h2
  rw [(h.2.1 k (by omega)).2] at h1 h2
  exact hS k hk h1 h2
theorem GX.lw {lo hi o q n0 : Nat} {tk vl : Nat → Nat} {c : List Nat} {cls : List Cl} (h : GX lo hi o D I ow ky ln D' I' ow' ky' ln') (ho : o < 103) (h1 : 1 ≤ lo) (hq : ow (q + 1) = 0) (hq2 : ow (q + 2) = 0) (hL : LwC D I q tk vl n0 c cls) : LwC D' I' q tk vl n0 c cls ∧ ow' (q + 1) = 0 ∧ ow' (q + 2) = 0 := by
  obtain ⟨⟨s1, s2, s3, s4, s5, s6, s7, s8, s9, s10, s11⟩, l2, l3, l4, l5⟩ := hL
  obtain ⟨a1, a2, a3, a4, a5⟩ := h
  refine ⟨⟨⟨s1, by omega, ?_, ?_, ?_, ?_, ?_, ?_, ?_, s10, s11⟩, l2, ?_, ?_, l5⟩, ?_, ?_⟩
  · rw [(a2 q (by omega)).1]; exact s3
  · rw [a3 q 0 (by omega) (by omega)]; exact s4
  · rw [a3 q 1 (by omega) (by omega)]; exact s5
  · rw [a3 q 2 (by omega) (by omega)]; exact s6
  · rw [(a2 (q + 1) (by omega)).1]; exact s7
  · rw [(a2 (q + 2) (by omega)).1]; exact s8
  · rw [(a2 (q + 3) (by omega)).1]; exact s9
  · rw [a4 (q + 1) (by omega) (by omega) (by omega)]; exact l3
  · rw [a4 (q + 2) (by omega) (by omega) (by omega)]; exact l4
  · rw [(a2 (q + 1) (by omega)).2]; exact hq
  · rw [(a2 (q + 2) (by omega)).2]; exact hq2
theorem GX.la {lo hi o b : Nat} (h : GX lo hi o D I ow ky ln D' I' ow' ky' ln') (ho : o < 103) (h1 : 1 ≤ lo) (hb : b + 9 < 103) (hbo : b + 9 ≠ o) (hL : LaI ow D I b a) : LaI ow' D' I' b a := by
  refine ⟨fun t ht => ?_, fun t ht q hq => ?_⟩
  rotate_left
  · rw [h.2.2.1 _ _ (by omega) hbo] at hq
    obtain ⟨p1, p2, p3⟩ := hL.2 t ht q hq
    have := h.1
    exact ⟨by rw [(h.2.1 q p3).1]; exact p1, p2, by omega⟩
  obtain ⟨q, c, cls, g1, g2, g3, g4⟩ := hL.1 t ht
  obtain ⟨k1, k2, k3⟩ := h.lw ho h1 g2 g3 g4
  exact ⟨q, c, cls, by rw [h.2.2.1 _ _ (by omega) hbo]; exact g1, k2, k3, k1⟩
theorem ndy_lo {k : Nat} (h : k < 30) : ¬ dy k := by unfold dy; omega
theorem GX.mm {lo hi o : Nat} (h : GX lo hi o D I ow ky ln D' I' ow' ky' ln') (hS : OwS ow) (h1 : 1 ≤ lo) (h16 : hi ≤ 16) (ho : o = 29 ∨ o = 34 ∨ o = 42) (hM : MM ow D I a) : MM ow' D' I' a := by
  obtain ⟨m1', hA, m3', m4'⟩ := hM
  have r : ∀ k, k < 29 → I' k = I k := fun k hk => h.i hS h1 h16 (by omega) (ndy_lo (by omega)) (by omega)
  refine ⟨?_, hA, h.la (by omega) h1 (by omega) (by omega) m3', ?_⟩
  · obtain ⟨n0, n1, n2, n3, n4, n5, n6, n7, n8, n9, n10, n11, n12⟩ := m1'.m
    apply Mz1.i
    unfold Mz1
    rw [r 1 (by omega), r 2 (by omega), r 3 (by omega), r 4 (by omega), r 5 (by omega), r 6 (by omega), r 7 (by omega), r 8 (by omega), r 9 (by omega)]
    exact ⟨n0, n1, n2, n3, n4, n5, n6, n7, n8, n9, n10, n11, n12⟩
  · unfold MvC TbI at m4' ⊢
    rw [r 25 (by omega), r 26 (by omega), r 27 (by omega), r 28 (by omega)]
    exact m4'
theorem GX.rdy {lo hi o m e : Nat} (h : GX lo hi o D I ow ky ln D' I' ow' ky' ln') (hS : OwS ow) (h1 : 1 ≤ lo) (h16 : hi ≤ 16) (ho : o = 29 ∨ o = 34 ∨ o = 42) (hR : Rdy I a m e) : Rdy I' a m e := by
  have r : ∀ k, k < 29 → I' k = I k := fun k hk => h.i hS h1 h16 (by omega) (ndy_lo (by omega)) (by omega)
  unfold Rdy TbI at hR ⊢
  rw [r 25 (by omega), r 28 (by omega)]
  exact hR
end Pb0
