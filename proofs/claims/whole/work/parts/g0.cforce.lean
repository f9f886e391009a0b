section Pg0
variable {xs : Nat → Int32} {Ln d : Nat} {D D' D'' : Dyn} {I I' I'' J : Nat → Nat → Int32} {L : Nat → Nat → Int64} {w : Om} {Q : Res → Prop} {ow ow' ow'' ky ky' ky'' ln ln' ln'' a a' : Nat → Nat} {o be sr : Nat} {A A' : As} {nn : Nat}
theorem C_force {z : Int32} (h : CI D I A nn) (hn : nn < 99999) : CCall xs Ln (d + 8) 98 [.ref 0, .int z] D I L (nForce A z).1 nn (nForce A z).2 := by
  obtain ⟨hMz, hA, _⟩ := h.mz
  have g3 : I 1 3 = nI (sa A 4325) := hMz.m.2.2.2.1
  have g4 : I 1 4 = nM (sa A 4326) := hMz.m.2.2.2.2.1
  have hl6 := hA.2.2.2.2.2.1
  have tm : (-1 : Int32).toInt = -1 := by decide
  have t0 : (0 : Int32).toInt = 0 := by decide
  have key : ∀ c, c ≤ sa A 4325 → z = nM c → ¬ z < -1 → z < nI (sa A 4325) → CCall xs Ln (d + 8) 98 [.ref 0, .int z] D I L (aGr A (up1 (sa A) 4326 c)) nn (nM (sa A 4326)) := by
    intro c hcl hz h1 h2
    have hc := c_force (xs := xs) (Ln := Ln) (d := d + 5) (D := D) (I := I) (L := L) (v := z) h1 (by rw [g3]; exact h2)
    rw [g4, hz] at hc
    rw [hz]
    obtain ⟨ow, ky, ln, h⟩ := h
    have hM := h.2.2.2.1
    obtain ⟨f1, f2, f3, f4, f5⟩ := fg_f I
    have hk : ∀ k, k ≠ 1 → up2 (fgC I) 1 4 (nM c) k = fgC I k := fun k h1 => up2_ro _ _ _ h1
    have hs : ∀ j, j ≠ 4326 → up1 (sa A) 4326 c j = sa A j := fun j h1 => up1_n _ _ h1
    have hMf : MzI (fgC I) 1 (sa A) := hM.1.k (fun k k1 k2 => f1 k (by omega) (by omega))
    have hg := h.fg (I' := up2 (fgC I) 1 4 (nM c)) (a' := up1 (sa A) 4326 c) hn (fun k k1 k2 k3 => by rw [hk k (by omega)]; exact f1 k k2 k3) (by rw [hk 23 (by decide)]; exact f2) (fun j hj => by rw [hk 26 (by decide)]; exact f3 j hj) (fun j hj => by rw [hk 27 (by decide)]; exact f4 j hj) (fun j hj => by rw [hk 28 (by decide)]; exact f5 j hj) (fun j => by rw [hk 0 (by decide), f1 0 (by decide) (by omega)]) ((hM.2.2.1.e2 (fun j hj => hs j (by omega)) (hs _ (by omega))).i2 (fun k hk' => by rw [hk k (by omega)]; exact f1 k (by omega) (by omega))) (AW_force hA hcl) (MzI_fo hMf hA) ((h.2.2.2.2.1.fr (by rw [hk _ (by decide)]; exact f1 _ (by decide) (by decide)) (by rw [hk _ (by decide)]; exact f1 _ (by decide) (by decide)) (by rw [hk _ (by decide)]; exact f1 _ (by decide) (by decide))).e (hs _ (by omega)) (fun x hx => hs _ (by omega)))
    exact Ok.of hc ⟨_, _, _, rfl, ⟨ow, ky, ln, hg.1⟩, hg.2⟩
  have t5 : (0 : Int32) ≤ nI (sa A 4325) := by
    show nI 0 ≤ nI (sa A 4325)
    rw [n_le (by decide) (by omega)]
    omega
  rw [Int32.le_iff_toInt_le, t0] at t5
  unfold nForce
  by_cases h3 : z = m1
  · rw [decide_eq_true h3, if_pos (by rfl), show tM z = 0 by rw [h3]; exact tM_1]
    have hz1 : z = -1 := h3
    exact key 0 (by omega) h3 (by rw [hz1, Int32.lt_iff_toInt_lt]; omega) (by rw [hz1, Int32.lt_iff_toInt_lt, tm]; omega)
  · rw [decide_eq_false h3]
    have hne : z.toInt ≠ -1 := fun e => h3 (Int32.toInt_inj.mp (by rw [e]; exact tm.symm))
    cases h4 : inN z (nI (sa A 4325)) with
    | false =>
      rw [Bool.or_false, if_neg (by decide)]
      refine CC_rf rc2 h (c_force2 (d := d + 5) ?_)
      rw [g3]
      unfold inN at h4
      by_cases hl : z < 0
      · left
        rw [Int32.lt_iff_toInt_lt] at hl ⊢
        omega
      · right
        rw [decide_eq_false hl, Bool.not_false, Bool.true_and, Bool.not_eq_false', decide_eq_true_eq] at h4
        exact h4
    | true =>
      rw [if_pos (by rfl)]
      obtain ⟨i, hi, e⟩ := inN_t (by omega) h4
      rw [show tM z = i + 1 by rw [e]; exact tM_n (by omega)]
      have hnn := n_nn (n := i) (by omega)
      exact key (i + 1) (by omega) (by rw [e]; rfl) (by rw [e]; rw [Int32.lt_iff_toInt_lt] at hnn ⊢; omega) (by rw [e, n_lt (by omega) (by omega)]; exact hi)
end Pg0
