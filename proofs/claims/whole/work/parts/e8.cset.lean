section Pe8
variable {xs : Nat → Int32} {Ln d : Nat} {D D' D'' : Dyn} {I I' I'' : Nat → Nat → Int32} {L : Nat → Nat → Int64} {w : Om} {Q : Res → Prop} {ow ow' ow'' ky ky' ky'' ln ln' ln'' a a' : Nat → Nat} {o be sr : Nat} {A A' : As} {nn : Nat}
/-! A call that changes the maze, the status, the drawn or the tape, and no word's way. -/
theorem LaI.e {b : Nat} (h : LaI ow D I b a) (he : MvE a a') (h25 : a' 4325 = a 4325) : LaI ow D I b a' := by
  refine ⟨fun t ht => ?_, h.2⟩
  rw [h25] at ht
  obtain ⟨q, c, cls, g1, g2, g3, g4⟩ := h.1 t ht
  refine ⟨q, c, cls, g1, g2, g3, ?_⟩
  rw [tkA_c he, vlA_c he, he (4328 + t) (by unfold mvI; omega)]
  exact g4
theorem CIx.gen (h : CIx ow ky ln D I A nn) (hr : ∀ k, 16 ≤ k → k ≠ 24 → k ≠ 50 → k ≠ 51 → k ≠ 80 → I' k = I k) (hs : SMv (sa A) (sa A')) (hM : MzI I' 1 (sa A')) (hA' : AW (sa A')) (hL : LaI ow D I' 1 (sa A')) (hSt : StI I' 1 (sa A')) (hC : CS ow D I' A') : CIx ow ky ln D I' A' nn ∧ CFr I I' := by
  obtain ⟨h1, h2, h3, h4, h5, h6, h7, h8, h9, ver, h10, h11⟩ := h
  have hA := h4.2.1
  have hk : ∀ i, 1 ≤ i → i ≤ 16 → I' (ky i) = I (ky i) ∧ ln i = ln i := fun i hi1 hi2 => ⟨by have := h2.hi hi1 hi2; exact hr _ (by omega) (by omega) (by omega) (by omega) (by omega), rfl⟩
  have r : ∀ k, 16 ≤ k → k ≠ 24 → k ≠ 50 → k ≠ 51 → k ≠ 80 → I' k = I k := hr
  have hRS : ∀ m S e, RS I (sa A') m S e → RS I' (sa A') m S e := by
    intro m S e hR
    refine ⟨hR.1, fun e he hs => ⟨?_, (hR.2 e he hs).2⟩⟩
    have := (hR.2 e he hs).1
    unfold Rdy TbI at this ⊢
    rw [r 25 (by omega) (by omega) (by omega) (by omega) (by omega), r 28 (by omega) (by omega) (by omega) (by omega) (by omega)]
    exact this
  have rr : ∀ k, (k = 23 ∨ (25 ≤ k ∧ k ≤ 29) ∨ (34 ≤ k ∧ k ≤ 35) ∨ (42 ≤ k ∧ k ≤ 43)) → I' k = I k := fun k hk => r k (by omega) (by omega) (by omega) (by omega) (by omega)
  refine ⟨⟨h1, h2, h3, ⟨hM, hA', hL, ?_⟩, hSt, hC, (hs.srC hA h7).fr (rr _ (by omega)) (rr _ (by omega)) (fun i a b => hk i (by omega) (by omega)), (hs.pr hA h8).fr (rr _ (by omega)) (rr _ (by omega)) (rr _ (by omega)) (fun i a b => hk i (by omega) (by omega)) hRS, (hs.si hA h9).fr (rr _ (by omega)) (rr _ (by omega)) (rr _ (by omega)) (fun i a b => hk i (by omega) (by omega)) hRS, ver, ?_, h11⟩, fun k k1 k2 => r k (by omega) (by omega) (by omega) (by omega) (by omega)⟩
  · have := hs.mv h4.2.2.2
    unfold MvC TbI at this ⊢
    rw [rr 25 (by omega), rr 26 (by omega), rr 27 (by omega), rr 28 (by omega)]
    exact this
  · unfold VrC
    rw [rr 23 (by omega), rr 29 (by omega), rr 34 (by omega), rr 42 (by omega)]
    exact h10
theorem CS.img {b : Nat → Nat} (h : CS ow D I A) (hr : ∀ k, 53 ≤ k → k ≠ 80 → I' k = I k) : ∀ k, k < 2 → I' 79 k = b2i (sim A k).isSome ∧ ∀ b, sim A k = some b → MzI I' (53 + 13 * k) b ∧ AW b ∧ LaI ow D I' (53 + 13 * k) b ∧ StI I' (53 + 13 * k) b := by
  intro k hk
  refine ⟨by rw [hr 79 (by omega) (by omega)]; exact (h.1 k hk).1, fun b hb => ?_⟩
  obtain ⟨g1, g2, g3, g4⟩ := (h.1 k hk).2 b hb
  refine ⟨?_, g2, g3.i2 (fun k hk => hr k (by omega) (by omega)), g4.fr (hr _ (by omega) (by omega)) (hr _ (by omega) (by omega)) (hr _ (by omega) (by omega))⟩
  unfold MzI
  rw [hr (53 + 13 * k) (by omega) (by omega), hr (53 + 13 * k + 1) (by omega) (by omega), hr (53 + 13 * k + 2) (by omega) (by omega), hr (53 + 13 * k + 3) (by omega) (by omega), hr (53 + 13 * k + 4) (by omega) (by omega), hr (53 + 13 * k + 5) (by omega) (by omega), hr (53 + 13 * k + 6) (by omega) (by omega), hr (53 + 13 * k + 7) (by omega) (by omega), hr (53 + 13 * k + 8) (by omega) (by omega)]
  exact g1
theorem CS.gr (h : CS ow D I A) (hr : ∀ k, 14 ≤ k → k ≠ 24 → I' k = I k) (h0 : I' 0 12 = 0) (h0' : ∀ j, j ≠ 12 → I' 0 j = I 0 j) : CS ow D I' (aGr A a') := by
  have hi := h.img (b := a') (fun k hk _ => hr k (by omega) (by omega))
  obtain ⟨h1, h2, h3, h4, h5, h6, h7⟩ := h
  refine ⟨hi, h0, by rw [hr 80 (by omega) (by omega)]; exact h3, by rw [h0' 14 (by decide)]; exact h4, by rw [h0' 13 (by decide)]; exact h5, by rw [hr 14 (by omega) (by omega), hr 15 (by omega) (by omega)]; exact h6, ?_⟩
  show HnC I' (shn A)
  unfold HnC
  rw [hr 50 (by omega) (by omega), hr 51 (by omega) (by omega)]
  exact h7
theorem CS.rf {y : Int32} (hy : isRc y) (h : CS ow D I A) : CS ow D (rfC I y) (aRf A y) := by
  have h7y := isRc_lt hy
  have hk : ∀ k, k ≠ 0 → k ≠ 80 → rfC I y k = I k := fun k q1 q2 => by
    unfold rfC
    rw [up2_ro _ _ _ q2, up2_ro _ _ _ q1]
  have h0 : ∀ j, j ≠ 12 → rfC I y 0 j = I 0 j := fun j hj => by
    unfold rfC
    rw [up2_ro _ _ _ (show (0 : Nat) ≠ 80 by decide), up2_j _ _ _ hj]
  have h80 : ∀ j, rfC I y 80 j = if j = (-y).toNatClampNeg then I 80 (-y).toNatClampNeg + 1 else I 80 j := fun j => by
    unfold rfC
    by_cases e : j = (-y).toNatClampNeg
    · rw [if_pos e, e, up2_s]
    · rw [if_neg e, up2_j _ _ _ e, up2_ro _ _ _ (show (80 : Nat) ≠ 0 by decide)]
  have hi := h.img (b := sa A) (I' := rfC I y) (fun k hk1 hk2 => hk k (by omega) (by omega))
  obtain ⟨h1, h2, h3, h4, h5, h6, h7⟩ := h
  refine ⟨hi, ?_, fun j hj => ?_, by rw [h0 14 (by decide)]; exact h4, by rw [h0 13 (by decide)]; exact h5, by rw [hk 14 (by omega) (by omega), hk 15 (by omega) (by omega)]; exact h6, ?_⟩
  · unfold rfC
    rw [up2_ro _ _ _ (show (0 : Nat) ≠ 80 by decide), up2_s]
    rfl
  · rw [h80]
    show _ = nI (up1 (srf A) (-y).toNatClampNeg (srf A (-y).toNatClampNeg + 1) j)
    by_cases e : j = (-y).toNatClampNeg
    · rw [if_pos e, e, up1_s, h3 _ h7y]
      exact nI_1 _
    · rw [if_neg e, up1_n _ _ e, h3 j hj]
  · show HnC (rfC I y) (shn A)
    unfold HnC
    rw [hk 50 (by omega) (by omega), hk 51 (by omega) (by omega)]
    exact h7
theorem CIx.rf {y : Int32} (hy : isRc y) (h : CIx ow ky ln D I A nn) : CIx ow ky ln D (rfC I y) (aRf A y) nn ∧ CFr I (rfC I y) := by
  have hk : ∀ k, k ≠ 0 → k ≠ 80 → rfC I y k = I k := fun k q1 q2 => by
    unfold rfC
    rw [up2_ro _ _ _ q2, up2_ro _ _ _ q1]
  have hM := h.2.2.2.1
  refine h.gen (A' := aRf A y) (fun k h1 _ _ _ h5 => hk k (by omega) h5) (SMv.rf _) ?_ hM.2.1 (hM.2.2.1.i2 (fun k hk' => hk k (by omega) (by omega))) (h.2.2.2.2.1.fr (hk _ (by omega) (by omega)) (hk _ (by omega) (by omega)) (hk _ (by omega) (by omega))) (h.2.2.2.2.2.1.rf hy)
  have := hM.1
  unfold MzI at this ⊢
  rw [hk 1 (by omega) (by omega), hk (1 + 1) (by omega) (by omega), hk (1 + 2) (by omega) (by omega), hk (1 + 3) (by omega) (by omega), hk (1 + 4) (by omega) (by omega), hk (1 + 5) (by omega) (by omega), hk (1 + 6) (by omega) (by omega), hk (1 + 7) (by omega) (by omega), hk (1 + 8) (by omega) (by omega)]
  exact this
/-- granted, the moves as they were -/
theorem CIx.gr (h : CIx ow ky ln D I A nn) (hr : ∀ k, 14 ≤ k → k ≠ 24 → I' k = I k) (h0 : ∀ j, I' 0 j = I 0 j) (he : MvE (sa A) a') (h25 : a' 4325 = sa A 4325) (hA' : AW a') (hM : MzI I' 1 a') (hSt : StI I' 1 a') : CIx ow ky ln D (up2 I' 0 12 0) (aGr A a') nn ∧ CFr I (up2 I' 0 12 0) := by
  have hM0 := h.2.2.2.1
  have hk : ∀ k, k ≠ 0 → up2 I' 0 12 0 k = I' k := fun k q => up2_ro _ _ _ q
  refine h.gen (A' := aGr A a') (fun k h1 h2 _ _ _ => by rw [hk k (by omega)]; exact hr k (by omega) h2) (SMv.of hM0.2.1 he) ?_ hA' ((hM0.2.2.1.e he h25).i2 (fun k hk' => by rw [hk k (by omega)]; exact hr k (by omega) (by omega))) (hSt.fr (hk _ (by omega)) (hk _ (by omega)) (hk _ (by omega))) (h.2.2.2.2.2.1.gr (fun k h1 h2 => by rw [hk k (by omega)]; exact hr k h1 h2) (up2_s _ _ _ _) (fun j hj => by rw [up2_j _ _ _ hj]; exact h0 j))
  unfold MzI at hM ⊢
  rw [hk 1 (by omega), hk (1 + 1) (by omega), hk (1 + 2) (by omega), hk (1 + 3) (by omega), hk (1 + 4) (by omega), hk (1 + 5) (by omega), hk (1 + 6) (by omega), hk (1 + 7) (by omega), hk (1 + 8) (by omega)]
  exact hM
end Pe8
