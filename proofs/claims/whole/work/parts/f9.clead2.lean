section Pf9
variable {xs : Nat → Int32} {Ln d : Nat} {D D' D'' : Dyn} {I I' I'' J : Nat → Nat → Int32} {L : Nat → Nat → Int64} {w : Om} {Q : Res → Prop} {ow ow' ow'' ky ky' ky'' ln ln' ln'' a a' : Nat → Nat} {o be sr : Nat} {A A' : As} {nn : Nat}
theorem C_lead {x y z : Int32} (h : CI D I A nn) (hn : nn < 99999) : CCall xs Ln (d + 8) 89 [.ref 0, .int x, .int y, .int z] D I L (nLead A x y z).1 nn (nLead A x y z).2 := by
  obtain ⟨hMz, hA, _⟩ := h.mz
  have g0 : I 1 0 = nI (sa A 4320) := hMz.m.1
  have g1 : I 1 1 = nI (sa A 4321) := hMz.m.2.1
  have hP := hA.1
  have hW := hA.2.1
  have no : (inN x (nI (sa A 4321)) = false ∨ inN y (nI (sa A 4320)) = false ∨ inN z (nI (sa A 4320)) = false) → CCall xs Ln (d + 8) 89 [.ref 0, .int x, .int y, .int z] D I L (aRf A (-2)) nn (-2) := fun hh => CC_rf rc2 h (c_lead2 (d := d + 5) (by rw [g0, g1]; exact hh))
  unfold nLead
  cases h0 : inN x (nI (sa A 4321))
  · rw [Bool.false_and, Bool.false_and, if_neg (by decide)]; exact no (Or.inl h0)
  · cases h1 : inN y (nI (sa A 4320))
    · rw [Bool.and_false, Bool.false_and, if_neg (by decide)]; exact no (Or.inr (Or.inl h1))
    · cases h2 : inN z (nI (sa A 4320))
      · rw [Bool.and_false, if_neg (by decide)]; exact no (Or.inr (Or.inr h2))
      · rw [if_pos (by decide)]
        obtain ⟨w0, hw0, rfl⟩ := inN_t (by omega) h0
        obtain ⟨p, hp, rfl⟩ := inN_t (by omega) h1
        obtain ⟨c, hc4, rfl⟩ := inN_t (by omega) h2
        have ei : nI w0 * 12 + nI p = nI (w0 * 12 + p) := by
          show nI w0 * nI 12 + nI p = _
          rw [pk_mul, nI_add]
        have hc := c_lead (xs := xs) (Ln := Ln) (d := d + 5) (D := D) (I := I) (L := L) (a := nI w0) (b := nI p) (c := nI c) (by rw [g1]; exact h0) (by rw [g0]; exact h1) (by rw [g0]; exact h2) (by rw [ei, n_cl (by omega)]; rintro (h | h); exact n_nn (by omega) h; omega)
        rw [ei, n_cl (by omega), show I 5 (w0 * 12 + p) = nI (sa A (28 + 12 * w0 + p)) from hMz.m.2.2.2.2.2.2.2.2.2.1 w0 p hw0 (by omega)] at hc
        rw [n_cl (by omega), n_cl (by omega), n_cl (by omega)]
        obtain ⟨ow, ky, ln, h⟩ := h
        have hM := h.2.2.2.1
        obtain ⟨f1, f2, f3, f4, f5⟩ := fg_f I
        have hk : ∀ k, k ≠ 5 → up2 (fgC I) 5 (w0 * 12 + p) (nI c) k = fgC I k := fun k h1 => up2_ro _ _ _ h1
        have hs : ∀ j, j ≠ 28 + 12 * w0 + p → up1 (sa A) (28 + 12 * w0 + p) c j = sa A j := fun j h1 => up1_n _ _ h1
        have hMf : MzI (fgC I) 1 (sa A) := hM.1.k (fun k k1 k2 => f1 k (by omega) (by omega))
        have hg := h.fg (I' := up2 (fgC I) 5 (w0 * 12 + p) (nI c)) (a' := up1 (sa A) (28 + 12 * w0 + p) c) hn (fun k k1 k2 k3 => by rw [hk k (by omega)]; exact f1 k k2 k3) (by rw [hk 23 (by decide)]; exact f2) (fun j hj => by rw [hk 26 (by decide)]; exact f3 j hj) (fun j hj => by rw [hk 27 (by decide)]; exact f4 j hj) (fun j hj => by rw [hk 28 (by decide)]; exact f5 j hj) (fun j => by rw [hk 0 (by decide), f1 0 (by decide) (by omega)]) ((hM.2.2.1.e2 (fun j hj => hs j (by omega)) (hs _ (by omega))).i2 (fun k hk' => by rw [hk k (by omega)]; exact f1 k (by omega) (by omega))) (AW_lead hA hw0 hp hc4) (MzI_ld hMf hA hw0 (by omega)) ((h.2.2.2.2.1.fr (by rw [hk _ (by decide)]; exact f1 _ (by decide) (by decide)) (by rw [hk _ (by decide)]; exact f1 _ (by decide) (by decide)) (by rw [hk _ (by decide)]; exact f1 _ (by decide) (by decide))).e (hs _ (by omega)) (fun x hx => hs _ (by omega)))
        exact Ok.of hc ⟨_, _, _, rfl, ⟨ow, ky, ln, hg.1⟩, hg.2⟩
end Pf9
