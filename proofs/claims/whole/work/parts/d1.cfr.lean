section Pd1
variable {xs : Nat → Int32} {Ln d : Nat} {D D' D'' : Dyn} {I I' I'' : Nat → Nat → Int32} {L : Nat → Nat → Int64} {w : Om} {Q : Res → Prop} {ow ow' ow'' ky ky' ky'' ln ln' ln'' a a' : Nat → Nat} {o be sr : Nat}
theorem SS.fr {s : Bs} (h : SS I ky ln s) (h29 : I' 29 = I 29) (hk : ∀ i, 1 ≤ i → i ≤ 4 → I' (ky' i) = I (ky i) ∧ ln' i = ln i) : SS I' ky' ln' s := by
  obtain ⟨c1, c2, c3, c4, c5, c6, c7, c8⟩ := h
  unfold SS
  rw [h29, (hk 1 (by omega) (by omega)).1, (hk 2 (by omega) (by omega)).1, (hk 3 (by omega) (by omega)).1, (hk 4 (by omega) (by omega)).1, (hk 1 (by omega) (by omega)).2, (hk 2 (by omega) (by omega)).2, (hk 3 (by omega) (by omega)).2, (hk 4 (by omega) (by omega)).2]
  exact ⟨c1, c2, c3, c4, c5, c6, c7, c8⟩
theorem SrC.fr (h : SrC I ky ln a) (h29 : I' 29 = I 29) (h23 : I' 23 = I 23) (hk : ∀ i, 1 ≤ i → i ≤ 4 → I' (ky' i) = I (ky i) ∧ ln' i = ln i) : SrC I' ky' ln' a := by
  obtain ⟨⟨s, hs⟩, h2⟩ := h
  refine ⟨⟨s, hs.fr h29 hk⟩, fun hv => ?_⟩
  rw [h29, h23] at hv
  obtain ⟨m, v, wo, st, g1, g2, g3, g4, g5, g6, g7, g8, g9, s', r1, r2, r3, r4⟩ := h2 hv
  refine ⟨m, v, wo, st, g1, g2, by rw [h29]; exact g3, by rw [h29]; exact g4, g5, by rw [h29]; exact g6, by rw [h29]; exact g7, g8, g9, s', r1.fr h29 hk, r2, r3, ?_⟩
  rw [h29]
  exact r4
theorem LE.fr {n : Nat} {q : Nat → Nat} (h : LE I ky ln o be n q) (ho : I' o = I o) (hk : ∀ i, be ≤ i → i ≤ be + 5 → I' (ky' i) = I (ky i) ∧ ln' i = ln i) : LE I' ky' ln' o be n q := by
  obtain ⟨c1, c2, c3, c4, c5, c6, c7, c8, c9, c10⟩ := h
  unfold LE
  rw [ho, (hk be (by omega) (by omega)).1, (hk (be + 1) (by omega) (by omega)).1, (hk be (by omega) (by omega)).2, (hk (be + 1) (by omega) (by omega)).2, (hk (be + 2) (by omega) (by omega)).2, (hk (be + 3) (by omega) (by omega)).2, (hk (be + 4) (by omega) (by omega)).2, (hk (be + 5) (by omega) (by omega)).2]
  exact ⟨c1, c2, c3, c4, c5, c6, c7, c8, c9, c10⟩
theorem Lvd.fr {m k e n : Nat} {sg q lev : Nat → Nat} {S : Nat → Bool} (h : Lvd a I ky ln o be sr m k sg e S n q lev) (ho : I' o = I o) (hs : I' sr = I sr) (hk : ∀ i, be ≤ i → i ≤ be + 5 → I' (ky' i) = I (ky i) ∧ ln' i = ln i) (hR : ∀ m S e, RS I a m S e → RS I' a m S e) : Lvd a I' ky' ln' o be sr m k sg e S n q lev := by
  obtain ⟨h1, h2, h3, h4, h5, h6, h7, l1, l2, l3, l4, l5, l6⟩ := h
  refine ⟨h1, h2, by rw [ho]; exact h3, by rw [ho]; exact h4, h5, ?_, hR _ _ _ h7, l1.fr ho hk, ?_, l3, l4, l5, l6⟩
  · unfold SgR
    rw [ho, hs]
    exact h6
  · rw [(hk (be + 2) (by omega) (by omega)).1]
    exact l2
theorem PrC.fr (h : PrC I ky ln a) (h34 : I' 34 = I 34) (h35 : I' 35 = I 35) (h23 : I' 23 = I 23) (hk : ∀ i, 5 ≤ i → i ≤ 10 → I' (ky' i) = I (ky i) ∧ ln' i = ln i) (hR : ∀ m S e, RS I a m S e → RS I' a m S e) : PrC I' ky' ln' a := by
  obtain ⟨⟨n, q, hE⟩, h2⟩ := h
  refine ⟨⟨n, q, hE.fr h34 hk⟩, fun hv => ?_⟩
  rw [h34, h23] at hv
  obtain ⟨m, sg, e, S, n, q, lev, g1, g2, g3⟩ := h2 hv
  exact ⟨m, sg, e, S, n, q, lev, g1.fr h34 h35 hk hR, by rw [h34]; exact g2, g3⟩
theorem SiC.fr (h : SiC I ky ln a) (h42 : I' 42 = I 42) (h43 : I' 43 = I 43) (h23 : I' 23 = I 23) (hk : ∀ i, 11 ≤ i → i ≤ 16 → I' (ky' i) = I (ky i) ∧ ln' i = ln i) (hR : ∀ m S e, RS I a m S e → RS I' a m S e) : SiC I' ky' ln' a := by
  obtain ⟨⟨n, q, hE⟩, h2⟩ := h
  refine ⟨⟨n, q, hE.fr h42 hk⟩, fun hv => ?_⟩
  rw [h42, h23] at hv
  obtain ⟨k, sg, e, S, n, q, lev, r, g1, g2, g3⟩ := h2 hv
  exact ⟨k, sg, e, S, n, q, lev, r, g1.fr h42 h43 hk hR, by rw [h42]; exact g2, g3⟩
theorem StI.fr {b : Nat} (h : StI I b a) (h0 : I' (b + 10) = I (b + 10)) (h1 : I' (b + 11) = I (b + 11)) (h2 : I' (b + 12) = I (b + 12)) : StI I' b a := by
  unfold StI
  rw [h0, h1, h2]
  exact h
theorem DA.hi (h : DA D ow ky ln) {i : Nat} (h1 : 1 ≤ i) (h2 : i ≤ 16) : 30 ≤ ky i ∧ ¬ (50 ≤ ky i ∧ ky i < 103) ∧ ky i ≠ 34 ∧ ky i ≠ 35 ∧ ky i ≠ 42 ∧ ky i ≠ 43 := by
  have := (h i h1 h2).2.2.2.1
  unfold dy at this
  omega
/-- tables were made, words judged -/
theorem CIx.kp {A : As} {nn : Nat} (h : CIx ow ky ln D I A nn) (hM : MM ow D I' (sa A)) (hK : Kp (sa A) I I') : CIx ow ky ln D I' A nn ∧ CFr I I' := by
  obtain ⟨h1, h2, h3, h4, h5, h6, h7, h8, h9, ver, h10, h11⟩ := h
  have hf := hK.1
  have h8' := h4.2.1.2.1
  have hk : ∀ i, 1 ≤ i → i ≤ 16 → I' (ky i) = I (ky i) ∧ ln i = ln i := fun i hi1 hi2 => ⟨hf _ (by have := h2.hi hi1 hi2; omega), rfl⟩
  have hRS : ∀ m S e, RS I (sa A) m S e → RS I' (sa A) m S e := fun m S e hr => hr.k hK h8'
  refine ⟨⟨h1, h2, h3, hM, h5.fr (hf _ (by omega)) (hf _ (by omega)) (hf _ (by omega)), h6.fr (fun k hk => hf k (by omega)) (fun b a _ hl => hl.mv hf), h7.fr (hf _ (by omega)) (hf _ (by omega)) (fun i a b => hk i (by omega) (by omega)), h8.fr (hf _ (by omega)) (hf _ (by omega)) (hf _ (by omega)) (fun i a b => hk i (by omega) (by omega)) hRS, h9.fr (hf _ (by omega)) (hf _ (by omega)) (hf _ (by omega)) (fun i a b => hk i (by omega) (by omega)) hRS, ver, ?_, h11⟩, fun k k1 k2 => hf k (by omega)⟩
  unfold VrC
  rw [hf 23 (by omega), hf 29 (by omega), hf 34 (by omega), hf 42 (by omega)]
  exact h10
theorem GX.cs {lo hi : Nat} {A : As} (h : GX lo hi o D I ow ky ln D' I' ow' ky' ln') (hS : OwS ow) (h1 : 1 ≤ lo) (h16 : hi ≤ 16) (ho : o = 29 ∨ o = 34 ∨ o = 42) (hC : CS ow D I A) : CS ow' D' I' A := hC.fr (fun k hk => h.i hS h1 h16 (by omega) (by unfold dy; omega) (by omega)) (fun b a hb hl => h.la (by omega) h1 (by omega) (by omega) hl)
theorem GX.cf {lo hi : Nat} (h : GX lo hi o D I ow ky ln D' I' ow' ky' ln') (hS : OwS ow) (h1 : 1 ≤ lo) (h16 : hi ≤ 16) (ho : o = 29 ∨ o = 34 ∨ o = 42) : CFr I I' := fun k k1 k2 => h.i hS h1 h16 (by omega) (by unfold dy; omega) (by omega)
theorem GX.kr {lo hi i : Nat} (h : GX lo hi o D I ow ky ln D' I' ow' ky' ln') (hD : DA D ow ky ln) (ho : o = 29 ∨ o = 34 ∨ o = 42) (h1 : 1 ≤ i) (h16 : i ≤ 16) (hn : ¬ (lo ≤ i ∧ i ≤ hi)) : I' (ky' i) = I (ky i) ∧ ln' i = ln i := by
  obtain ⟨g1, g2⟩ := h.2.2.2.2 i hn
  have hd := hD i h1 h16
  have hh := hD.hi h1 h16
  refine ⟨?_, g2⟩
  rw [g1]
  exact h.2.2.2.1 _ hd.2.2.2.2.1 (by omega) (by rw [hd.2.2.1]; exact hn)
theorem GX.rs {lo hi : Nat} (h : GX lo hi o D I ow ky ln D' I' ow' ky' ln') (hS : OwS ow) (h1 : 1 ≤ lo) (h16 : hi ≤ 16) (ho : o = 29 ∨ o = 34 ∨ o = 42) : ∀ m S e, RS I a m S e → RS I' a m S e := fun _ _ _ hr => ⟨hr.1, fun e he hs => ⟨h.rdy hS h1 h16 ho (hr.2 e he hs).1, (hr.2 e he hs).2⟩⟩
/-- a search was made -/
theorem CIx.g6 {A : As} {nn : Nat} (h : CIx ow ky ln D I A nn) (hG : GX 1 4 29 D I ow ky ln D' I' ow' ky' ln') (hD' : DA D' ow' ky' ln') (hR' : Rm D' ln' (zB + 600 * nn)) (hS' : SrC I' ky' ln' (sa A)) (hv : I' 29 8 = I 29 8 ∨ I' 29 8 = I 23 0) : CIx ow' ky' ln' D' I' A nn ∧ CFr I I' := by
  obtain ⟨h1, h2, h3, h4, h5, h6, h7, h8, h9, ver, h10, h11⟩ := h
  have ri : ∀ k, k < 103 → ¬ dy k → k ≠ 29 → I' k = I k := fun k hk hd ho => hG.i h1 (by omega) (by omega) hk hd ho
  have hRS := hG.rs (a := sa A) h1 (by omega) (by omega) (Or.inl rfl)
  refine ⟨⟨hG.os h1, hD', hR', hG.mm h1 (by omega) (by omega) (Or.inl rfl) h4, h5.fr (ri _ (by omega) (by unfold dy; omega) (by omega)) (ri _ (by omega) (by unfold dy; omega) (by omega)) (ri _ (by omega) (by unfold dy; omega) (by omega)), hG.cs h1 (by omega) (by omega) (Or.inl rfl) h6, hS', h8.fr (ri _ (by omega) (by unfold dy; omega) (by omega)) (ri _ (by omega) (by unfold dy; omega) (by omega)) (ri _ (by omega) (by unfold dy; omega) (by omega)) (fun i a b => hG.kr h2 (Or.inl rfl) (by omega) (by omega) (by omega)) hRS, h9.fr (ri _ (by omega) (by unfold dy; omega) (by omega)) (ri _ (by omega) (by unfold dy; omega) (by omega)) (ri _ (by omega) (by unfold dy; omega) (by omega)) (fun i a b => hG.kr h2 (Or.inl rfl) (by omega) (by omega) (by omega)) hRS, ver, ?_, h11⟩, hG.cf h1 (by omega) (by omega) (Or.inl rfl)⟩
  obtain ⟨v1, v2, v3, v4⟩ := h10
  refine ⟨by rw [ri 23 (by omega) (by unfold dy; omega) (by omega)]; exact v1, ?_, by rw [ri 34 (by omega) (by unfold dy; omega) (by omega)]; exact v3, by rw [ri 42 (by omega) (by unfold dy; omega) (by omega)]; exact v4⟩
  rcases hv with hv | hv
  · rw [hv]; exact v2
  · exact ⟨some ver, by rw [hv, v1]; rfl, fun x hx => by cases hx; exact Nat.le_refl _⟩
/-- all but what the 34 object keeps -/
def CIm (ow ky ln : Nat → Nat) (D : Dyn) (I : Nat → Nat → Int32) (A : As) (nn : Nat) : Prop := OwS ow ∧ DA D ow ky ln ∧ Rm D ln (zB + 600 * nn) ∧ MM ow D I (sa A) ∧ StI I 1 (sa A) ∧ CS ow D I A ∧ SrC I ky ln (sa A) ∧ SiC I ky ln (sa A) ∧ ∃ ver, VrC I ver ∧ ver ≤ nn
theorem CIm.g {A : As} {nn : Nat} (h : CIm ow ky ln D I A nn) (hG : GX 5 10 34 D I ow ky ln D' I' ow' ky' ln') (hD' : DA D' ow' ky' ln') (hR' : Rm D' ln' (zB + 600 * nn)) (hv : I' 34 3 = I 34 3 ∨ I' 34 3 = I 23 0) : CIm ow' ky' ln' D' I' A nn ∧ CFr I I' := by
  obtain ⟨h1, h2, h3, h4, h5, h6, h7, h8, ver, h10, h11⟩ := h
  have ri : ∀ k, k < 103 → ¬ dy k → k ≠ 34 → I' k = I k := fun k hk hd ho => hG.i h1 (by omega) (by omega) hk hd ho
  have hRS := hG.rs (a := sa A) h1 (by omega) (by omega) (Or.inr (Or.inl rfl))
  refine ⟨⟨hG.os h1, hD', hR', hG.mm h1 (by omega) (by omega) (Or.inr (Or.inl rfl)) h4, h5.fr (ri _ (by omega) (by unfold dy; omega) (by omega)) (ri _ (by omega) (by unfold dy; omega) (by omega)) (ri _ (by omega) (by unfold dy; omega) (by omega)), hG.cs h1 (by omega) (by omega) (Or.inr (Or.inl rfl)) h6, h7.fr (ri _ (by omega) (by unfold dy; omega) (by omega)) (ri _ (by omega) (by unfold dy; omega) (by omega)) (fun i a b => hG.kr h2 (Or.inr (Or.inl rfl)) (by omega) (by omega) (by omega)), h8.fr (ri _ (by omega) (by unfold dy; omega) (by omega)) (ri _ (by omega) (by unfold dy; omega) (by omega)) (ri _ (by omega) (by unfold dy; omega) (by omega)) (fun i a b => hG.kr h2 (Or.inr (Or.inl rfl)) (by omega) (by omega) (by omega)) hRS, ver, ?_, h11⟩, hG.cf h1 (by omega) (by omega) (Or.inr (Or.inl rfl))⟩
  obtain ⟨v1, v2, v3, v4⟩ := h10
  have vv : ∃ s, I' 34 3 = nO s ∧ ∀ x, s = some x → x ≤ ver := by
    rcases hv with hv | hv
    · rw [hv]; exact v3
    · exact ⟨some ver, by rw [hv, v1]; rfl, fun x hx => by cases hx; exact Nat.le_refl _⟩
  exact ⟨by rw [ri 23 (by omega) (by unfold dy; omega) (by omega)]; exact v1, by rw [ri 29 (by omega) (by unfold dy; omega) (by omega)]; exact v2, vv, by rw [ri 42 (by omega) (by unfold dy; omega) (by omega)]; exact v4⟩
theorem CIm.ad {A : As} {nn : Nat} (h : CIm ow ky ln D I A nn) (hr : ∀ k, k ≠ 34 → k ≠ 35 → I' k = I k) (hv : I' 34 3 = I 34 3) : CIm ow ky ln D I' A nn ∧ CFr I I' := by
  obtain ⟨h1, h2, h3, h4, h5, h6, h7, h8, ver, h10, h11⟩ := h
  have hk : ∀ i, 1 ≤ i → i ≤ 16 → I' (ky i) = I (ky i) ∧ ln i = ln i := fun i hi1 hi2 => ⟨hr _ (by have := h2.hi hi1 hi2; omega) (by have := h2.hi hi1 hi2; omega), rfl⟩
  have hRS : ∀ m S e, RS I (sa A) m S e → RS I' (sa A) m S e := by
    intro m S e hR
    refine ⟨hR.1, fun e he hs => ⟨?_, (hR.2 e he hs).2⟩⟩
    have := (hR.2 e he hs).1
    unfold Rdy TbI at this ⊢
    rw [hr 25 (by omega) (by omega), hr 28 (by omega) (by omega)]
    exact this
  refine ⟨⟨h1, h2, h3, ?_, h5.fr (hr _ (by omega) (by omega)) (hr _ (by omega) (by omega)) (hr _ (by omega) (by omega)), h6.fr (fun k hk => hr k (by omega) (by omega)) (fun b a _ hl => hl.i2 (fun k hk => hr k (by omega) (by omega))), h7.fr (hr _ (by omega) (by omega)) (hr _ (by omega) (by omega)) (fun i a b => hk i (by omega) (by omega)), h8.fr (hr _ (by omega) (by omega)) (hr _ (by omega) (by omega)) (hr _ (by omega) (by omega)) (fun i a b => hk i (by omega) (by omega)) hRS, ver, ?_, h11⟩, fun k k1 k2 => hr k (by omega) (by omega)⟩
  · obtain ⟨m1', m2', m3', m4'⟩ := h4
    refine ⟨?_, m2', m3'.i2 (fun k hk => hr k (by omega) (by omega)), ?_⟩
    · unfold MzI at m1' ⊢
      rw [hr 1 (by omega) (by omega), hr (1 + 1) (by omega) (by omega), hr (1 + 2) (by omega) (by omega), hr (1 + 3) (by omega) (by omega), hr (1 + 4) (by omega) (by omega), hr (1 + 5) (by omega) (by omega), hr (1 + 6) (by omega) (by omega), hr (1 + 7) (by omega) (by omega), hr (1 + 8) (by omega) (by omega)]
      exact m1'
    · unfold MvC TbI at m4' ⊢
      rw [hr 25 (by omega) (by omega), hr 26 (by omega) (by omega), hr 27 (by omega) (by omega), hr 28 (by omega) (by omega)]
      exact m4'
  · unfold VrC
    rw [hr 23 (by omega) (by omega), hr 29 (by omega) (by omega), hv, hr 42 (by omega) (by omega)]
    exact h10
/-- all but what the 42 object keeps -/
def CIn (ow ky ln : Nat → Nat) (D : Dyn) (I : Nat → Nat → Int32) (A : As) (nn : Nat) : Prop := OwS ow ∧ DA D ow ky ln ∧ Rm D ln (zB + 600 * nn) ∧ MM ow D I (sa A) ∧ StI I 1 (sa A) ∧ CS ow D I A ∧ SrC I ky ln (sa A) ∧ PrC I ky ln (sa A) ∧ ∃ ver, VrC I ver ∧ ver ≤ nn
theorem CIn.g {A : As} {nn : Nat} (h : CIn ow ky ln D I A nn) (hG : GX 11 16 42 D I ow ky ln D' I' ow' ky' ln') (hD' : DA D' ow' ky' ln') (hR' : Rm D' ln' (zB + 600 * nn)) (hv : I' 42 3 = I 42 3 ∨ I' 42 3 = I 23 0) : CIn ow' ky' ln' D' I' A nn ∧ CFr I I' := by
  obtain ⟨h1, h2, h3, h4, h5, h6, h7, h8, ver, h10, h11⟩ := h
  have ri : ∀ k, k < 103 → ¬ dy k → k ≠ 42 → I' k = I k := fun k hk hd ho => hG.i h1 (by omega) (by omega) hk hd ho
  have hRS := hG.rs (a := sa A) h1 (by omega) (by omega) (Or.inr (Or.inr rfl))
  refine ⟨⟨hG.os h1, hD', hR', hG.mm h1 (by omega) (by omega) (Or.inr (Or.inr rfl)) h4, h5.fr (ri _ (by omega) (by unfold dy; omega) (by omega)) (ri _ (by omega) (by unfold dy; omega) (by omega)) (ri _ (by omega) (by unfold dy; omega) (by omega)), hG.cs h1 (by omega) (by omega) (Or.inr (Or.inr rfl)) h6, h7.fr (ri _ (by omega) (by unfold dy; omega) (by omega)) (ri _ (by omega) (by unfold dy; omega) (by omega)) (fun i a b => hG.kr h2 (Or.inr (Or.inr rfl)) (by omega) (by omega) (by omega)), h8.fr (ri _ (by omega) (by unfold dy; omega) (by omega)) (ri _ (by omega) (by unfold dy; omega) (by omega)) (ri _ (by omega) (by unfold dy; omega) (by omega)) (fun i a b => hG.kr h2 (Or.inr (Or.inr rfl)) (by omega) (by omega) (by omega)) hRS, ver, ?_, h11⟩, hG.cf h1 (by omega) (by omega) (Or.inr (Or.inr rfl))⟩
  obtain ⟨v1, v2, v3, v4⟩ := h10
  have vv : ∃ s, I' 42 3 = nO s ∧ ∀ x, s = some x → x ≤ ver := by
    rcases hv with hv | hv
    · rw [hv]; exact v4
    · exact ⟨some ver, by rw [hv, v1]; rfl, fun x hx => by cases hx; exact Nat.le_refl _⟩
  exact ⟨by rw [ri 23 (by omega) (by unfold dy; omega) (by omega)]; exact v1, by rw [ri 29 (by omega) (by unfold dy; omega) (by omega)]; exact v2, by rw [ri 34 (by omega) (by unfold dy; omega) (by omega)]; exact v3, vv⟩
theorem CIn.ad {A : As} {nn : Nat} (h : CIn ow ky ln D I A nn) (hr : ∀ k, k ≠ 42 → k ≠ 43 → I' k = I k) (hv : I' 42 3 = I 42 3) : CIn ow ky ln D I' A nn ∧ CFr I I' := by
  obtain ⟨h1, h2, h3, h4, h5, h6, h7, h8, ver, h10, h11⟩ := h
  have hk : ∀ i, 1 ≤ i → i ≤ 16 → I' (ky i) = I (ky i) ∧ ln i = ln i := fun i hi1 hi2 => ⟨hr _ (by have := h2.hi hi1 hi2; omega) (by have := h2.hi hi1 hi2; omega), rfl⟩
  have hRS : ∀ m S e, RS I (sa A) m S e → RS I' (sa A) m S e := by
    intro m S e hR
    refine ⟨hR.1, fun e he hs => ⟨?_, (hR.2 e he hs).2⟩⟩
    have := (hR.2 e he hs).1
    unfold Rdy TbI at this ⊢
    rw [hr 25 (by omega) (by omega), hr 28 (by omega) (by omega)]
    exact this
  refine ⟨⟨h1, h2, h3, ?_, h5.fr (hr _ (by omega) (by omega)) (hr _ (by omega) (by omega)) (hr _ (by omega) (by omega)), h6.fr (fun k hk => hr k (by omega) (by omega)) (fun b a _ hl => hl.i2 (fun k hk => hr k (by omega) (by omega))), h7.fr (hr _ (by omega) (by omega)) (hr _ (by omega) (by omega)) (fun i a b => hk i (by omega) (by omega)), h8.fr (hr _ (by omega) (by omega)) (hr _ (by omega) (by omega)) (hr _ (by omega) (by omega)) (fun i a b => hk i (by omega) (by omega)) hRS, ver, ?_, h11⟩, fun k k1 k2 => hr k (by omega) (by omega)⟩
  · obtain ⟨m1', m2', m3', m4'⟩ := h4
    refine ⟨?_, m2', m3'.i2 (fun k hk => hr k (by omega) (by omega)), ?_⟩
    · unfold MzI at m1' ⊢
      rw [hr 1 (by omega) (by omega), hr (1 + 1) (by omega) (by omega), hr (1 + 2) (by omega) (by omega), hr (1 + 3) (by omega) (by omega), hr (1 + 4) (by omega) (by omega), hr (1 + 5) (by omega) (by omega), hr (1 + 6) (by omega) (by omega), hr (1 + 7) (by omega) (by omega), hr (1 + 8) (by omega) (by omega)]
      exact m1'
    · unfold MvC TbI at m4' ⊢
      rw [hr 25 (by omega) (by omega), hr 26 (by omega) (by omega), hr 27 (by omega) (by omega), hr 28 (by omega) (by omega)]
      exact m4'
  · unfold VrC
    rw [hr 23 (by omega) (by omega), hr 29 (by omega) (by omega), hv, hr 34 (by omega) (by omega)]
    exact h10
/-- with the reference's rows changed -/
theorem CI.r {A : As} {nn : Nat} (h : CI D I A nn) (hr : ∀ k, (k < 82 ∨ 102 < k) → I' k = I k) : CI D I' A nn := by
  obtain ⟨ow, ky, ln, h1, h2, h3, h4, h5, h6, h7, h8, h9, ver, h10, h11⟩ := h
  have hf : FMv I I' ∨ True := Or.inr trivial
  have hk : ∀ i, 1 ≤ i → i ≤ 16 → I' (ky i) = I (ky i) ∧ ln i = ln i := fun i hi1 hi2 => ⟨hr _ (by have := h2.hi hi1 hi2; omega), rfl⟩
  have hRS : ∀ m S e, RS I (sa A) m S e → RS I' (sa A) m S e := by
    intro m S e hR
    refine ⟨hR.1, fun e he hs => ⟨?_, (hR.2 e he hs).2⟩⟩
    have := (hR.2 e he hs).1
    unfold Rdy TbI at this ⊢
    rw [hr 25 (by omega), hr 28 (by omega)]
    exact this
  refine ⟨ow, ky, ln, h1, h2, h3, ?_, h5.fr (hr _ (by omega)) (hr _ (by omega)) (hr _ (by omega)), h6.fr (fun k hk => hr k (by omega)) (fun b a _ hl => hl.i2 (fun k hk => hr k (by omega))), h7.fr (hr _ (by omega)) (hr _ (by omega)) (fun i a b => hk i (by omega) (by omega)), h8.fr (hr _ (by omega)) (hr _ (by omega)) (hr _ (by omega)) (fun i a b => hk i (by omega) (by omega)) hRS, h9.fr (hr _ (by omega)) (hr _ (by omega)) (hr _ (by omega)) (fun i a b => hk i (by omega) (by omega)) hRS, ver, ?_, h11⟩
  · obtain ⟨m1', m2', m3', m4'⟩ := h4
    refine ⟨?_, m2', m3'.i2 (fun k hk => hr k (by omega)), ?_⟩
    · unfold MzI at m1' ⊢
      rw [hr 1 (by omega), hr (1 + 1) (by omega), hr (1 + 2) (by omega), hr (1 + 3) (by omega), hr (1 + 4) (by omega), hr (1 + 5) (by omega), hr (1 + 6) (by omega), hr (1 + 7) (by omega), hr (1 + 8) (by omega)]
      exact m1'
    · unfold MvC TbI at m4' ⊢
      rw [hr 25 (by omega), hr 26 (by omega), hr 27 (by omega), hr 28 (by omega)]
      exact m4'
  · unfold VrC
    rw [hr 23 (by omega), hr 29 (by omega), hr 34 (by omega), hr 42 (by omega)]
    exact h10
theorem CIx.m {A : As} {nn : Nat} (h : CIx ow ky ln D I A nn) : CIm ow ky ln D I A nn ∧ PrC I ky ln (sa A) := by
  obtain ⟨h1, h2, h3, h4, h5, h6, h7, h8, h9, h10⟩ := h
  exact ⟨⟨h1, h2, h3, h4, h5, h6, h7, h9, h10⟩, h8⟩
theorem CIm.x {A : As} {nn : Nat} (h : CIm ow ky ln D I A nn) (h8 : PrC I ky ln (sa A)) : CIx ow ky ln D I A nn := by
  obtain ⟨h1, h2, h3, h4, h5, h6, h7, h9, h10⟩ := h
  exact ⟨h1, h2, h3, h4, h5, h6, h7, h8, h9, h10⟩
theorem CIx.n {A : As} {nn : Nat} (h : CIx ow ky ln D I A nn) : CIn ow ky ln D I A nn ∧ SiC I ky ln (sa A) := by
  obtain ⟨h1, h2, h3, h4, h5, h6, h7, h8, h9, h10⟩ := h
  exact ⟨⟨h1, h2, h3, h4, h5, h6, h7, h8, h10⟩, h9⟩
theorem CIn.x {A : As} {nn : Nat} (h : CIn ow ky ln D I A nn) (h9 : SiC I ky ln (sa A)) : CIx ow ky ln D I A nn := by
  obtain ⟨h1, h2, h3, h4, h5, h6, h7, h8, h10⟩ := h
  exact ⟨h1, h2, h3, h4, h5, h6, h7, h8, h9, h10⟩
end Pd1
