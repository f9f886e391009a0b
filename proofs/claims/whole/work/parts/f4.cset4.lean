section Pf4
variable {xs : Nat → Int32} {Ln d : Nat} {D D' D'' : Dyn} {I I' I'' J : Nat → Nat → Int32} {L : Nat → Nat → Int64} {w : Om} {Q : Res → Prop} {ow ow' ow'' ky ky' ky'' ln ln' ln'' a a' : Nat → Nat} {o be sr : Nat} {A A' : As} {nn : Nat}
theorem n_nn {n : Nat} (h : n < 2147483648) : ¬ nI n < 0 := by
  have := n_lt (a := n) (b := 0) h (by decide)
  show ¬ nI n < nI 0
  rw [this]
  omega
theorem C_walker {x k : Int32} (h : CI D I A nn) : CCall xs Ln (d + 8) 128 [.ref 0, .int x, .int k] D I L (nWalker A x k).1 nn (nWalker A x k).2 := by
  obtain ⟨hMz, hA, _⟩ := h.mz
  have g0 : I 1 0 = nI (sa A 4320) := hMz.m.1
  have g6 : I 1 6 = nI (sa A 4322) := hMz.m.2.2.2.2.2.2.1
  have hP := hA.1
  have h12 := hA.2.2.1
  unfold nWalker
  cases h0 : inN k (nI 2)
  · rw [if_pos rfl]
    exact CC_rf rc1 h (c_walker1 (d := d + 6) (by rw [isK_N]; exact h0))
  · rw [if_neg (by decide)]
    cases h1 : inN x (nI (sa A 4320))
    · rw [if_pos rfl]
      exact CC_rf rc2 h (c_walker2 (d := d + 6) (by rw [isK_N]; exact h0) (by rw [g0]; exact h1))
    · rw [if_neg (by decide)]
      have e12 : (nI (sa A 4322) < 12) = (sa A 4322 < 12) := n_lt (b := 12) (by omega) (by decide)
      by_cases h5 : 12 ≤ sa A 4322
      · rw [if_pos h5]
        exact CC_rf rc5 h (c_walker5 (d := d + 6) (by rw [isK_N]; exact h0) (by rw [g0]; exact h1) (by rw [g6, e12]; omega))
      · rw [if_neg h5]
        obtain ⟨p, hp, rfl⟩ := inN_t (by omega) h1
        obtain ⟨c, hc2, rfl⟩ := inN_t (by decide) h0
        have hc := c_walker (xs := xs) (Ln := Ln) (d := d + 6) (D := D) (I := I) (L := L) (a := nI p) (b := nI c) (by rw [isK_N]; exact h0) (by rw [g0]; exact h1) (by rw [g6, e12]; omega) (by rw [g6, n_cl (by omega)]; rintro (h | h); exact n_nn (by omega) h; omega)
        rw [g6, n_cl (by omega), show nI (sa A 4322) + 1 = nI (sa A 4322 + 1) from nI_1 _, show nI (sa A 4322 + 1) - 1 = nI (sa A 4322) from nI_sb (b := 1) (by omega)] at hc
        obtain ⟨ow, ky, ln, h⟩ := h
        have hM := h.2.2.2.1
        rw [n_cl (by omega), n_cl (by omega)]
        have hr : ∀ q, q ≠ 1 → q ≠ 8 → q ≠ 9 → up2 (up2 (up2 I 8 (sa A 4322) (nI p)) 9 (sa A 4322) (nI c)) 1 6 (nI (sa A 4322 + 1)) q = I q := fun q h1 h2 h3 => by rw [up2_ro _ _ _ h1, up2_ro _ _ _ h3, up2_ro _ _ _ h2]
        have hs : ∀ j, j ≠ 4322 → j ≠ 140 + 2 * sa A 4322 → j ≠ 140 + 2 * sa A 4322 + 1 → up1 (up1 (up1 (sa A) (140 + 2 * sa A 4322) p) (140 + 2 * sa A 4322 + 1) c) 4322 (sa A 4322 + 1) j = sa A j := fun j h1 h2 h3 => by rw [up1_n _ _ h1, up1_n _ _ h3, up1_n _ _ h2]
        have hgr := h.gr (I' := up2 (up2 (up2 I 8 (sa A 4322) (nI p)) 9 (sa A 4322) (nI c)) 1 6 (nI (sa A 4322 + 1))) (a' := up1 (up1 (up1 (sa A) (140 + 2 * sa A 4322) p) (140 + 2 * sa A 4322 + 1) c) 4322 (sa A 4322 + 1)) (fun k h1 h2 => hr k (by omega) (by omega) (by omega)) (fun j => by rw [hr 0 (by decide) (by decide) (by decide)]) (fun j hj => by unfold mvI at hj; exact hs j (by omega) (by omega) (by omega)) (hs _ (by decide) (by omega) (by omega)) (AW_walker hA (by omega) hp hc2) (MzI_wk hM.1 hA rfl (by omega)) ((h.2.2.2.2.1.fr (hr _ (by decide) (by decide) (by decide)) (hr _ (by decide) (by decide) (by decide)) (hr _ (by decide) (by decide) (by decide))).e (hs _ (by decide) (by omega) (by omega)) (fun x hx => hs _ (by omega) (by omega) (by omega)))
        exact Ok.of hc ⟨_, _, _, rfl, ⟨ow, ky, ln, hgr.1.up⟩, hgr.2⟩
theorem C_end {v : Int32} (h : CI D I A nn) : CCall xs Ln (d + 8) 93 [.ref 0, .int v] D I L (nEnd A v).1 nn (nEnd A v).2 := by
  obtain ⟨ow0, hs0⟩ := h.cs
  obtain ⟨g14, hst, g15⟩ := hs0.2.2.2.2.2.1
  unfold nEnd
  cases h0 : inN v (nI (stn A + 1))
  · rw [if_neg (by decide)]
    refine CC_id h (c_endN (d := d + 7) ?_)
    rw [g14]
    unfold inN at h0
    by_cases hl : v < 0
    · exact Or.inl hl
    · right
      rw [decide_eq_false hl, Bool.not_false, Bool.true_and, Bool.not_eq_false', decide_eq_true_eq] at h0
      have e1 : nI (stn A) < nI (stn A + 1) := by rw [n_lt (by omega) (by omega)]; omega
      rw [Int32.lt_iff_toInt_lt] at e1 ⊢
      rw [Int32.le_iff_toInt_le] at h0
      omega
  · rw [if_pos rfl]
    obtain ⟨m, hm, rfl⟩ := inN_t (by omega) h0
    have hc := c_end (xs := xs) (Ln := Ln) (d := d + 7) (D := D) (I := I) (L := L) (v := nI m) (n_nn (by omega)) (by rw [g14, n_lt (by omega) (by omega)]; omega)
    obtain ⟨ow, ky, ln, h⟩ := h
    have hM := h.2.2.2.1
    have hk : ∀ k, k ≠ 14 → up2 I 14 0 (nI m) k = I k := fun k h1 => up2_ro _ _ _ h1
    have hi := h.2.2.2.2.2.1.img (b := sa A) (I' := up2 I 14 0 (nI m)) (fun k h1 h2 => hk k (by omega))
    obtain ⟨s1, s2, s3, s4, s5, s6, s7⟩ := h.2.2.2.2.2.1
    have hcs : CS ow D (up2 I 14 0 (nI m)) (aTp A m) := by
      refine ⟨hi, by rw [hk 0 (by decide)]; exact s2, by rw [hk 80 (by decide)]; exact s3, by rw [hk 0 (by decide)]; exact s4, by rw [hk 0 (by decide)]; exact s5, ⟨up2_s _ _ _ _, by show m ≤ 400; omega, by rw [hk 15 (by decide)]; exact s6.2.2⟩, ?_⟩
      show HnC _ (shn A)
      unfold HnC
      rw [hk 50 (by decide), hk 51 (by decide)]
      exact s7
    rw [n_cl (by omega)]
    have hg := h.gen (A' := aTp A m) (I' := up2 I 14 0 (nI m)) (fun k h1 _ _ _ _ => hk k (by omega)) (SMv.rf _) (hM.1.k (fun k k1 k2 => hk k (by omega))) hM.2.1 (hM.2.2.1.i2 (fun k hk' => hk k (by omega))) (h.2.2.2.2.1.fr (hk _ (by decide)) (hk _ (by decide)) (hk _ (by decide))) hcs
    exact Ok.of hc ⟨_, _, _, rfl, ⟨ow, ky, ln, hg.1.up⟩, hg.2⟩
end Pf4
