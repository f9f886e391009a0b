section Pf2
variable {xs : Nat → Int32} {Ln d : Nat} {D D' D'' : Dyn} {I I' I'' J : Nat → Nat → Int32} {L : Nat → Nat → Int64} {w : Om} {Q : Res → Prop} {ow ow' ow'' ky ky' ky'' ln ln' ln'' a a' : Nat → Nat} {o be sr : Nat} {A A' : As} {nn : Nat}
theorem CC_rf {num e : Nat} {as : List Value} {y : Int32} (hy : isRc y) (h : CI D I A nn) (hc : callD xs Ln e num as (mkW D I L) = some (mkW D (rfC I y) L, some (.int y))) : CCall xs Ln e num as D I L (aRf A y) nn y := by
  obtain ⟨ow, ky, ln, h⟩ := h
  have hrf := h.rf hy
  exact Ok.of hc ⟨_, _, _, rfl, ⟨ow, ky, ln, hrf.1.up⟩, hrf.2⟩
theorem C_doors {v : Int32} (h : CI D I A nn) : CCall xs Ln (d + 8) 91 [.ref 0, .int v] D I L (nDoors A v).1 nn (nDoors A v).2 := by
  have hc := c_doors (xs := xs) (Ln := Ln) (d := d + 6) (D := D) (I := I) (L := L) (v := v)
  unfold nDoors
  cases h0 : inN v (nI 8)
  · rw [if_neg (by rw [show inN v 8 = false from h0]; decide)] at hc
    rw [if_neg (by decide)]
    exact CC_rf rc1 h hc
  · rw [if_pos (show inN v 8 = true from h0)] at hc
    obtain ⟨e, he, rfl⟩ := inN_t (by decide) h0
    obtain ⟨ow, ky, ln, h⟩ := h
    have hM := h.2.2.2.1
    have hA := hM.2.1
    rw [show I 1 2 = nI (sa A 4327) from hM.1.m.2.2.1] at hc
    have hgr := h.gr (I' := up2 I 1 2 (nI e)) (a' := up1 (sa A) 4327 e) (fun k h1 h2 => up2_ro _ _ _ (by omega)) (fun j => by rw [up2_ro _ _ _ (by decide)]) (MvE_o _ _) (up1_n _ _ (by decide)) (AW_o hA he) (MzI_o hM.1 hA) ((h.2.2.2.2.1.fr (up2_ro _ _ _ (by decide)) (up2_ro _ _ _ (by decide)) (up2_ro _ _ _ (by decide))).e (up1_n _ _ (by decide)) (fun x hx => up1_n _ _ (by omega)))
    rw [if_pos rfl, n_cl (by omega)]
    exact Ok.of hc ⟨_, _, _, rfl, ⟨ow, ky, ln, hgr.1.up⟩, hgr.2⟩
/-- the list of called words, up to n -/
theorem MzI_cl {n v : Nat} (hM : MzI I 1 a) (hA : AW a) (hn : n ≤ a 4323) : MzI (up2 (up2 I 7 n (nI v)) 1 5 (nI (n + 1))) 1 (up1 (up1 a (164 + n) v) 4323 (n + 1)) := by
  have hP := hA.1
  have hW := hA.2.1
  have hw12 := hA.2.2.1
  have hc60 := hA.2.2.2.1
  obtain ⟨m0, m1', m2', m3', m4, m5, m6, m7, m8, m9, m10, m11, m12⟩ := hM.m
  have hs : ∀ j, j ≠ 4323 → j ≠ 164 + n → up1 (up1 a (164 + n) v) 4323 (n + 1) j = a j := fun j h1 h2 => by rw [up1_n _ _ h1, up1_n _ _ h2]
  have hk : ∀ k, k ≠ 1 → k ≠ 7 → up2 (up2 I 7 n (nI v)) 1 5 (nI (n + 1)) k = I k := fun k h1 h2 => by rw [up2_ro _ _ _ h1, up2_ro _ _ _ h2]
  have h1 : ∀ j, j ≠ 5 → up2 (up2 I 7 n (nI v)) 1 5 (nI (n + 1)) 1 j = I 1 j := fun j h => by rw [up2_j _ _ _ h, up2_ro _ _ _ (by decide)]
  have h7 : up2 (up2 I 7 n (nI v)) 1 5 (nI (n + 1)) 7 = up2 I 7 n (nI v) 7 := up2_ro _ _ _ (by decide)
  show Mz1 (up2 (up2 I 7 n (nI v)) 1 5 (nI (n + 1))) (up1 (up1 a (164 + n) v) 4323 (n + 1))
  unfold Mz1
  rw [hs 4320 (by decide) (by omega), hs 4321 (by decide) (by omega), hs 4322 (by decide) (by omega), hs 4325 (by decide) (by omega), hs 4326 (by decide) (by omega), hs 4327 (by decide) (by omega), up1_s, hk 2 (by decide) (by decide), hk 3 (by decide) (by decide), hk 4 (by decide) (by decide), hk 5 (by decide) (by decide), hk 6 (by decide) (by decide), h7, hk 8 (by decide) (by decide), hk 9 (by decide) (by decide), h1 0 (by decide), h1 1 (by decide), h1 2 (by decide), h1 3 (by decide), h1 4 (by decide), h1 6 (by decide), up2_s]
  refine ⟨m0, m1', m2', m3', m4, rfl, m6, fun p hp => ?_, fun w hw => ?_, fun w p hw hp => ?_, fun k w hk hw => ?_, fun i hi => ?_, fun i hi => ?_⟩
  · rw [hs p (by omega) (by omega)]; exact m7 p hp
  · rw [hs (12 + 2 * w) (by omega) (by omega), hs (12 + 2 * w + 1) (by omega) (by omega)]; exact m8 w hw
  · rw [hs (28 + 12 * w + p) (by omega) (by omega)]; exact m9 w p hw hp
  · rw [hs (124 + (8 * k + w)) (by omega) (by omega)]; exact m10 k w hk hw
  · by_cases e : i = n
    · subst e
      rw [up2_s, up1_n _ _ (by omega), up1_s]
    · rw [up2_j _ _ _ e, hs (164 + i) (by omega) (by omega)]; exact m11 i (by omega)
  · rw [hs (140 + 2 * i) (by omega) (by omega), hs (140 + 2 * i + 1) (by omega) (by omega)]; exact m12 i hi
theorem C_call {v : Int32} (h : CI D I A nn) : CCall xs Ln (d + 8) 101 [.ref 0, .int v] D I L (nCall A v).1 nn (nCall A v).2 := by
  obtain ⟨hMz, hA, _⟩ := h.mz
  have g1 : I 1 1 = nI (sa A 4321) := hMz.m.2.1
  have g5 : I 1 5 = nI (sa A 4323) := hMz.m.2.2.2.2.2.1
  have hW := hA.2.1
  have hc60 := hA.2.2.2.1
  unfold nCall
  cases h0 : inN v (nI (sa A 4321))
  · rw [if_pos rfl]
    exact CC_rf rc2 h (c_call2 (d := d + 6) (by rw [g1]; exact h0))
  · rw [if_neg (by decide)]
    have e60 : (nI (sa A 4323) < 60) = (sa A 4323 < 60) := n_lt (b := 60) (by omega) (by decide)
    by_cases h5 : 60 ≤ sa A 4323
    · rw [if_pos h5]
      exact CC_rf rc5 h (c_call5 (d := d + 6) (by rw [g1]; exact h0) (by rw [g5, e60]; omega))
    · rw [if_neg h5]
      obtain ⟨e, he, rfl⟩ := inN_t (by omega) h0
      have hn0 : ¬ nI (sa A 4323) < 0 := by
        have := n_lt (a := sa A 4323) (b := 0) (by omega) (by decide)
        show ¬ nI (sa A 4323) < nI 0
        rw [this]
        omega
      have hc := c_call (xs := xs) (Ln := Ln) (d := d + 6) (D := D) (I := I) (L := L) (v := nI e) (by rw [g1]; exact h0) (by rw [g5, e60]; omega) (by rw [g5, n_cl (by omega)]; rintro (h | h); exact hn0 h; omega)
      rw [g5, n_cl (by omega), show nI (sa A 4323) + 1 = nI (sa A 4323 + 1) from nI_1 _] at hc
      obtain ⟨ow, ky, ln, h⟩ := h
      have hM := h.2.2.2.1
      rw [n_cl (by omega)]
      have hgr := h.gr (I' := up2 (up2 I 7 (sa A 4323) (nI e)) 1 5 (nI (sa A 4323 + 1))) (a' := up1 (up1 (sa A) (164 + sa A 4323) e) 4323 (sa A 4323 + 1)) (fun k h1 h2 => by rw [up2_ro _ _ _ (by omega), up2_ro _ _ _ (by omega)]) (fun j => by rw [up2_ro _ _ _ (by decide), up2_ro _ _ _ (by decide)]) (fun j hj => by unfold mvI at hj; rw [up1_n _ _ (by omega), up1_n _ _ (by omega)]) (by rw [up1_n _ _ (by decide), up1_n _ _ (by omega)]) (AW_call hA (by omega) he) (MzI_cl hM.1 hA (Nat.le_refl _)) ((h.2.2.2.2.1.fr (by rw [up2_ro _ _ _ (by decide), up2_ro _ _ _ (by decide)]) (by rw [up2_ro _ _ _ (by decide), up2_ro _ _ _ (by decide)]) (by rw [up2_ro _ _ _ (by decide), up2_ro _ _ _ (by decide)])).e (by rw [up1_n _ _ (by decide), up1_n _ _ (by omega)]) (fun x hx => by rw [up1_n _ _ (by omega), up1_n _ _ (by omega)]))
      exact Ok.of hc ⟨_, _, _, rfl, ⟨ow, ky, ln, hgr.1.up⟩, hgr.2⟩
end Pf2
