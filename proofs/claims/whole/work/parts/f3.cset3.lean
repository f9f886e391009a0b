section Pf3
variable {xs : Nat → Int32} {Ln d : Nat} {D D' D'' : Dyn} {I I' I'' J : Nat → Nat → Int32} {L : Nat → Nat → Int64} {w : Om} {Q : Res → Prop} {ow ow' ow'' ky ky' ky'' ln ln' ln'' a a' : Nat → Nat} {o be sr : Nat} {A A' : As} {nn : Nat}
theorem MzI_tr (hM : MzI I 1 a) (hA : AW a) : MzI (up2 I 1 5 (nI 0)) 1 (up1 a 4323 0) := by
  have hP := hA.1
  have hW := hA.2.1
  have hw12 := hA.2.2.1
  obtain ⟨m0, m1', m2', m3', m4, m5, m6, m7, m8, m9, m10, m11, m12⟩ := hM.m
  have hs : ∀ j, j ≠ 4323 → up1 a 4323 0 j = a j := fun j h1 => up1_n _ _ h1
  have hk : ∀ k, k ≠ 1 → up2 I 1 5 (nI 0) k = I k := fun k h1 => up2_ro _ _ _ h1
  have h1 : ∀ j, j ≠ 5 → up2 I 1 5 (nI 0) 1 j = I 1 j := fun j h => up2_j _ _ _ h
  show Mz1 (up2 I 1 5 (nI 0)) (up1 a 4323 0)
  unfold Mz1
  rw [hs 4320 (by decide), hs 4321 (by decide), hs 4322 (by decide), hs 4325 (by decide), hs 4326 (by decide), hs 4327 (by decide), up1_s, hk 2 (by decide), hk 3 (by decide), hk 4 (by decide), hk 5 (by decide), hk 6 (by decide), hk 7 (by decide), hk 8 (by decide), hk 9 (by decide), h1 0 (by decide), h1 1 (by decide), h1 2 (by decide), h1 3 (by decide), h1 4 (by decide), h1 6 (by decide), up2_s]
  refine ⟨m0, m1', m2', m3', m4, rfl, m6, fun p hp => ?_, fun w hw => ?_, fun w p hw hp => ?_, fun k w hk hw => ?_, fun i hi => absurd hi (Nat.not_lt_zero i), fun i hi => ?_⟩
  · rw [hs p (by omega)]; exact m7 p hp
  · rw [hs (12 + 2 * w) (by omega), hs (12 + 2 * w + 1) (by omega)]; exact m8 w hw
  · rw [hs (28 + 12 * w + p) (by omega)]; exact m9 w p hw hp
  · rw [hs (124 + (8 * k + w)) (by omega)]; exact m10 k w hk hw
  · rw [hs (140 + 2 * i) (by omega), hs (140 + 2 * i + 1) (by omega)]; exact m12 i hi
theorem C_tear (h : CI D I A nn) : CCall xs Ln (d + 8) 102 [.ref 0] D I L (nTear A).1 nn (nTear A).2 := by
  obtain ⟨ow, ky, ln, h⟩ := h
  have hM := h.2.2.2.1
  have hA := hM.2.1
  have hc := c_tear (xs := xs) (Ln := Ln) (d := d + 7) (D := D) (I := I) (L := L)
  rw [show I 1 5 = nI (sa A 4323) from hM.1.m.2.2.2.2.2.1] at hc
  have hk : ∀ k, k ≠ 1 → up2 I 1 5 (nI 0) k = I k := fun k h1 => up2_ro _ _ _ h1
  have hmv : MvE (sa A) (up1 (sa A) 4323 0) := fun j hj => by unfold mvI at hj; exact up1_n _ _ (by omega)
  have hcs : CS ow D (up2 I 1 5 (nI 0)) A := h.2.2.2.2.2.1.fr (fun k hk' => hk k (by omega)) (fun b a _ hl => hl.i2 (fun k hk' => hk k (by omega)))
  have hst : StI (up2 I 1 5 (nI 0)) 1 (up1 (sa A) 4323 0) := (h.2.2.2.2.1.fr (hk _ (by decide)) (hk _ (by decide)) (hk _ (by decide))).e (up1_n _ _ (by decide)) (fun x hx => up1_n _ _ (by omega))
  have hg := h.gen (A' := (nTear A).1) (I' := up2 I 1 5 (nI 0)) (fun k h1 _ _ _ _ => hk k (by omega)) (SMv.of hA hmv) (MzI_tr hM.1 hA) (AW_tear hA) ((hM.2.2.1.e hmv (up1_n _ _ (by decide))).i2 (fun k hk' => hk k (by omega))) hst hcs
  exact Ok.of hc ⟨_, _, _, rfl, ⟨ow, ky, ln, hg.1.up⟩, hg.2⟩
theorem MzI_wk {n p c : Nat} (hM : MzI I 1 a) (hA : AW a) (hn : n = a 4322) (hn12 : n < 12) : MzI (up2 (up2 (up2 I 8 n (nI p)) 9 n (nI c)) 1 6 (nI (n + 1))) 1 (up1 (up1 (up1 a (140 + 2 * n) p) (140 + 2 * n + 1) c) 4322 (n + 1)) := by
  have hP := hA.1
  have hW := hA.2.1
  have hc60 := hA.2.2.2.1
  obtain ⟨m0, m1', m2', m3', m4, m5, m6, m7, m8, m9, m10, m11, m12⟩ := hM.m
  have hs : ∀ j, j ≠ 4322 → j ≠ 140 + 2 * n → j ≠ 140 + 2 * n + 1 → up1 (up1 (up1 a (140 + 2 * n) p) (140 + 2 * n + 1) c) 4322 (n + 1) j = a j := fun j h1 h2 h3 => by rw [up1_n _ _ h1, up1_n _ _ h3, up1_n _ _ h2]
  have hk : ∀ k, k ≠ 1 → k ≠ 8 → k ≠ 9 → up2 (up2 (up2 I 8 n (nI p)) 9 n (nI c)) 1 6 (nI (n + 1)) k = I k := fun k h1 h2 h3 => by rw [up2_ro _ _ _ h1, up2_ro _ _ _ h3, up2_ro _ _ _ h2]
  have h1 : ∀ j, j ≠ 6 → up2 (up2 (up2 I 8 n (nI p)) 9 n (nI c)) 1 6 (nI (n + 1)) 1 j = I 1 j := fun j h => by rw [up2_j _ _ _ h, up2_ro _ _ _ (by decide), up2_ro _ _ _ (by decide)]
  have h8 : up2 (up2 (up2 I 8 n (nI p)) 9 n (nI c)) 1 6 (nI (n + 1)) 8 = up2 I 8 n (nI p) 8 := by rw [up2_ro _ _ _ (by decide), up2_ro _ _ _ (by decide)]
  have h9 : ∀ j, up2 (up2 (up2 I 8 n (nI p)) 9 n (nI c)) 1 6 (nI (n + 1)) 9 j = if j = n then nI c else I 9 j := fun j => by
    rw [up2_ro _ _ _ (by decide)]
    by_cases e : j = n
    · rw [if_pos e, e, up2_s]
    · rw [if_neg e, up2_j _ _ _ e, up2_ro _ _ _ (by decide)]
  show Mz1 (up2 (up2 (up2 I 8 n (nI p)) 9 n (nI c)) 1 6 (nI (n + 1))) (up1 (up1 (up1 a (140 + 2 * n) p) (140 + 2 * n + 1) c) 4322 (n + 1))
  unfold Mz1
  rw [hs 4320 (by decide) (by omega) (by omega), hs 4321 (by decide) (by omega) (by omega), hs 4323 (by decide) (by omega) (by omega), hs 4325 (by decide) (by omega) (by omega), hs 4326 (by decide) (by omega) (by omega), hs 4327 (by decide) (by omega) (by omega), up1_s, hk 2 (by decide) (by decide) (by decide), hk 3 (by decide) (by decide) (by decide), hk 4 (by decide) (by decide) (by decide), hk 5 (by decide) (by decide) (by decide), hk 6 (by decide) (by decide) (by decide), hk 7 (by decide) (by decide) (by decide), h8, h1 0 (by decide), h1 1 (by decide), h1 2 (by decide), h1 3 (by decide), h1 4 (by decide), h1 5 (by decide), up2_s]
  refine ⟨m0, m1', m2', m3', m4, m5, rfl, fun q hq => ?_, fun w hw => ?_, fun w q hw hq => ?_, fun k w hk hw => ?_, fun i hi => ?_, fun i hi => ?_⟩
  · rw [hs q (by omega) (by omega) (by omega)]; exact m7 q hq
  · rw [hs (12 + 2 * w) (by omega) (by omega) (by omega), hs (12 + 2 * w + 1) (by omega) (by omega) (by omega)]; exact m8 w hw
  · rw [hs (28 + 12 * w + q) (by omega) (by omega) (by omega)]; exact m9 w q hw hq
  · rw [hs (124 + (8 * k + w)) (by omega) (by omega) (by omega)]; exact m10 k w hk hw
  · rw [hs (164 + i) (by omega) (by omega) (by omega)]; exact m11 i hi
  · rw [h9]
    by_cases e : i = n
    · subst e
      rw [up2_s, if_pos rfl, up1_n _ _ (by omega), up1_n _ _ (by omega), up1_s, up1_n _ _ (by omega), up1_s]
      exact ⟨rfl, rfl⟩
    · rw [up2_j _ _ _ e, if_neg e, hs (140 + 2 * i) (by omega) (by omega) (by omega), hs (140 + 2 * i + 1) (by omega) (by omega) (by omega)]; exact m12 i (by omega)
end Pf3
