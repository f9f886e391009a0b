section Pf7
variable {xs : Nat → Int32} {Ln d : Nat} {D D' D'' : Dyn} {I I' I'' J : Nat → Nat → Int32} {L : Nat → Nat → Int64} {w : Om} {Q : Res → Prop} {ow ow' ow'' ky ky' ky'' ln ln' ln'' a a' : Nat → Nat} {o be sr : Nat} {A A' : As} {nn : Nat}
theorem LaI.e2 {b : Nat} (h : LaI ow D I b a) (he : ∀ j, 4328 ≤ j → a' j = a j) (h25 : a' 4325 = a 4325) : LaI ow D I b a' := by
  refine ⟨fun t ht => ?_, h.2⟩
  rw [h25] at ht
  obtain ⟨q, c, cls, g1, g2, g3, g4⟩ := h.1 t ht
  refine ⟨q, c, cls, g1, g2, g3, ?_⟩
  have e1 : tkA a' t = tkA a t := by
    funext j
    unfold tkA
    rw [he _ (by omega), he _ (by omega)]
  have e2 : vlA a' t = vlA a t := by
    funext j
    unfold vlA
    rw [he _ (by omega), he _ (by omega)]
  rw [e1, e2, he (4328 + t) (by omega)]
  exact g4
theorem C_paint {q v : Int32} (h : CI D I A nn) (hn : nn < 99999) : CCall xs Ln (d + 8) 87 [.ref 0, .int q, .int v] D I L (nPaint A q v).1 nn (nPaint A q v).2 := by
  obtain ⟨hMz, hA, _⟩ := h.mz
  have g0 : I 1 0 = nI (sa A 4320) := hMz.m.1
  have hP := hA.1
  unfold nPaint
  cases h0 : inN v (nI 4)
  · rw [if_pos rfl]
    exact CC_rf rc1 h (c_paint1 (d := d + 5) h0)
  · rw [if_neg (by decide)]
    cases h1 : inN q (nI (sa A 4320))
    · rw [if_pos rfl]
      exact CC_rf rc2 h (c_paint2 (d := d + 5) h0 (by rw [g0]; exact h1))
    · rw [if_neg (by decide)]
      obtain ⟨p, hp, rfl⟩ := inN_t (by omega) h1
      obtain ⟨c, hc4, rfl⟩ := inN_t (by decide) h0
      have hc := c_paint (xs := xs) (Ln := Ln) (d := d + 5) (D := D) (I := I) (L := L) (q := nI p) (v := nI c) h0 (by rw [g0]; exact h1) (by rw [n_cl (by omega)]; rintro (h | h); exact n_nn (by omega) h; omega)
      rw [n_cl (by omega), show I 2 p = nI (sa A p) from hMz.m.2.2.2.2.2.2.2.1 p hp] at hc
      rw [n_cl (by omega), n_cl (by omega)]
      obtain ⟨ow, ky, ln, h⟩ := h
      have hM := h.2.2.2.1
      obtain ⟨f1, f2, f3, f4, f5⟩ := fg_f I
      have hk : ∀ k, k ≠ 2 → up2 (fgC I) 2 p (nI c) k = fgC I k := fun k h1 => up2_ro _ _ _ h1
      have hs : ∀ j, j ≠ p → up1 (sa A) p c j = sa A j := fun j h1 => up1_n _ _ h1
      have hMf : MzI (fgC I) 1 (sa A) := hM.1.k (fun k k1 k2 => f1 k (by omega) (by omega))
      have hg := h.fg (I' := up2 (fgC I) 2 p (nI c)) (a' := up1 (sa A) p c) hn (fun k k1 k2 k3 => by rw [hk k (by omega)]; exact f1 k k2 k3) (by rw [hk 23 (by decide)]; exact f2) (fun j hj => by rw [hk 26 (by decide)]; exact f3 j hj) (fun j hj => by rw [hk 27 (by decide)]; exact f4 j hj) (fun j hj => by rw [hk 28 (by decide)]; exact f5 j hj) (fun j => by rw [hk 0 (by decide), f1 0 (by decide) (by omega)]) ((hM.2.2.1.e2 (fun j hj => hs j (by omega)) (hs _ (by omega))).i2 (fun k hk' => by rw [hk k (by omega)]; exact f1 k (by omega) (by omega))) (AW_paint hA hp hc4) (MzI_pt hMf hA hp) ((h.2.2.2.2.1.fr (by rw [hk _ (by decide)]; exact f1 _ (by decide) (by decide)) (by rw [hk _ (by decide)]; exact f1 _ (by decide) (by decide)) (by rw [hk _ (by decide)]; exact f1 _ (by decide) (by decide))).e (hs _ (by omega)) (fun x hx => hs _ (by omega)))
      exact Ok.of hc ⟨_, _, _, rfl, ⟨ow, ky, ln, hg.1⟩, hg.2⟩
end Pf7
