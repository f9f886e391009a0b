section Pi2
variable {xs : Nat → Int32} {Ln d : Nat} {D D' D'' : Dyn} {I I' I'' J : Nat → Nat → Int32} {L : Nat → Nat → Int64} {w : Om} {Q : Res → Prop} {ow ow' ow'' ky ky' ky'' ln ln' ln'' a a' : Nat → Nat} {o be sr : Nat} {A A' : As} {nn : Nat}
/-! law -/
theorem SMv_law {m : Nat} {tk vl : Nat → Nat} (hA : AW a) (ht : a 4325 < 6) (hm : m ≤ 400) : SMv a (lawA a m tk vl) := by
  have hn : ∀ j, j < 4328 → j ≠ 4325 → lawA a m tk vl j = a j := fun j q1 q2 => lawA_o ht hm q1 q2
  have h7 := hA.2.2.2.2.2.2.1
  have h2 := hA.2.1
  have hcl : clsA (lawA a m tk vl) = clsA a := by
    unfold clsA
    rw [hn 4326 (by decide) (by decide)]
    by_cases h0 : a 4326 = 0
    · rw [if_pos h0, if_pos h0]
    · rw [if_neg h0, if_neg h0]
      have hL := hA.2.2.2.2.2.2.2.2.2.2.2.2.2.2.1 (a 4326 - 1) (by omega)
      obtain ⟨k1, k2, k3⟩ := lawA_tt (tk := tk) (vl := vl) ht hm (show a 4326 - 1 < a 4325 by omega) hL.1
      unfold clsT
      rw [k1, k2, k3]
  refine ⟨hn _ (by decide) (by decide), hn _ (by decide) (by decide), fun p hp => hn p (by omega) (by omega), fun k w e p hk hw hp => ?_, fun w e => ?_, fun w e hw => ?_⟩
  · have hh := hA.2.2.2.2.2.2.2.2.2.2.2.1 k w hk hw
    unfold goA
    rw [hn (124 + (8 * k + w)) (by omega) (by omega), hn p (by omega) (by omega), hn 4320 (by decide) (by decide), hcl]
    by_cases h0 : a (124 + (8 * k + w)) = 0
    · rw [if_pos h0, if_pos h0]
    · rw [if_neg h0, if_neg h0, hn (28 + 12 * (a (124 + (8 * k + w)) - 1) + p) (by omega) (by omega)]
  · unfold brA
    rw [hcl]
  · unfold dbA
    rw [hn _ (by omega) (by omega), hn _ (by omega) (by omega)]
theorem MzI_lw {m : Nat} {tk vl : Nat → Nat} (hM : MzI I 1 a) (hA : AW a) (ht : a 4325 < 6) (hm : m ≤ 400) : MzI (up2 I 1 3 (nI (a 4325 + 1))) 1 (lawA a m tk vl) := by
  have hP := hA.1
  have hW := hA.2.1
  have hw12 := hA.2.2.1
  have hc60 := hA.2.2.2.1
  have hs : ∀ j, j < 4328 → j ≠ 4325 → lawA a m tk vl j = a j := fun j q1 q2 => lawA_o ht hm q1 q2
  have h25 : lawA a m tk vl 4325 = a 4325 + 1 := by unfold lawA; rw [up1_s]
  obtain ⟨m0, m1', m2', m3', m4, m5, m6, m7, m8, m9, m10, m11, m12⟩ := hM.m
  have hk : ∀ k, k ≠ 1 → up2 I 1 3 (nI (a 4325 + 1)) k = I k := fun k h1 => up2_ro _ _ _ h1
  have h1 : ∀ j, j ≠ 3 → up2 I 1 3 (nI (a 4325 + 1)) 1 j = I 1 j := fun j h => up2_j _ _ _ h
  show Mz1 (up2 I 1 3 (nI (a 4325 + 1))) (lawA a m tk vl)
  unfold Mz1
  rw [hs 4320 (by decide) (by decide), hs 4321 (by decide) (by decide), hs 4322 (by decide) (by decide), hs 4323 (by decide) (by decide), h25, hs 4326 (by decide) (by decide), hs 4327 (by decide) (by decide), hk 2 (by decide), hk 3 (by decide), hk 4 (by decide), hk 5 (by decide), hk 6 (by decide), hk 7 (by decide), hk 8 (by decide), hk 9 (by decide), h1 0 (by decide), h1 1 (by decide), h1 2 (by decide), h1 4 (by decide), h1 5 (by decide), h1 6 (by decide), up2_s]
  refine ⟨m0, m1', m2', rfl, m4, m5, m6, fun p hp => ?_, fun w hw => ?_, fun w p hw hp => ?_, fun k w hk hw => ?_, fun i hi => ?_, fun i hi => ?_⟩
  · rw [hs p (by omega) (by omega)]; exact m7 p hp
  · rw [hs (12 + 2 * w) (by omega) (by omega), hs (12 + 2 * w + 1) (by omega) (by omega)]; exact m8 w hw
  · rw [hs (28 + 12 * w + p) (by omega) (by omega)]; exact m9 w p hw hp
  · rw [hs (124 + (8 * k + w)) (by omega) (by omega)]; exact m10 k w hk hw
  · rw [hs (164 + i) (by omega) (by omega)]; exact m11 i hi
  · rw [hs (140 + 2 * i) (by omega) (by omega), hs (140 + 2 * i + 1) (by omega) (by omega)]; exact m12 i hi
/-- objects added, one pointer of the laws' row set -/
def LwH (D D' : Dyn) (t : Nat) : Prop := D.1 ≤ D'.1 ∧ (∀ k, k < 103 + D.1 → shF D' k = shF D k) ∧ (∀ k j, k < 103 + D.1 → ¬ (k = 10 ∧ j = t) → pF D' k j = pF D k j)
theorem LwH.lw {t q n0 : Nat} {tk vl : Nat → Nat} {cc : List Nat} {cls : List Cl} (h : LwH D D' t) (hr : ∀ k, 103 ≤ k → k < 103 + D.1 → I' k = I k) (hl : LwC D I q tk vl n0 cc cls) : LwC D' I' q tk vl n0 cc cls := by
  obtain ⟨⟨l1, l2, l3, l4, l5, l6, l7, l8, l9, l10⟩, g1, g2, g3, g4⟩ := hl
  have ep : ∀ j, pF D' q j = pF D q j := fun j => h.2.2 q j (by omega) (by omega)
  have hd := h.1
  refine ⟨⟨l1, by omega, by rw [h.2.1 _ (by omega)]; exact l3, by rw [ep]; exact l4, by rw [ep]; exact l5, by rw [ep]; exact l6, by rw [h.2.1 _ (by omega)]; exact l7, by rw [h.2.1 _ (by omega)]; exact l8, by rw [h.2.1 _ (by omega)]; exact l9, l10⟩, g1, by rw [hr _ (by omega) (by omega)]; exact g2, by rw [hr _ (by omega) (by omega)]; exact g3, g4⟩
theorem LwH.la {t b : Nat} (h : LwH D D' t) (hb : b = 53 ∨ b = 66) (hr : ∀ k, 103 ≤ k → k < 103 + D.1 → I' k = I k) (how : ∀ k, k < 103 + D.1 → ow' k = ow k) (hL : LaI ow D I b a) : LaI ow' D' I' b a := by
  have ep : ∀ j, pF D' (b + 9) j = pF D (b + 9) j := fun j => h.2.2 _ j (by omega) (by omega)
  refine ⟨fun t ht => ?_, fun t ht q hq => ?_⟩
  · obtain ⟨q, cc, cls, g1, g2, g3, g4⟩ := hL.1 t ht
    have hq3 := g4.1.2.1
    exact ⟨q, cc, cls, by rw [ep]; exact g1, by rw [how _ (by omega)]; exact g2, by rw [how _ (by omega)]; exact g3, h.lw hr g4⟩
  · rw [ep] at hq
    obtain ⟨p1, p2, p3⟩ := hL.2 t ht q hq
    have hd := h.1
    exact ⟨by rw [h.2.1 _ p3]; exact p1, p2, by omega⟩
theorem CI_lw {m n q : Nat} {tk vl : Nat → Nat} {c : List Nat} {cls : List Cl} (h : CIx ow ky ln D I A nn) (ht : sa A 4325 < 6) (hm : m ≤ 400) (hz : ∀ j, m ≤ j → tk j = 0 ∧ vl j = 0) (h4 : ∀ j, tk j < 400) (hv : ∀ j, vl j < 2147483648) (hr : rdL tk vl m 12 0 0 0 = .inr (c, cls)) (hG : LwG D D' c.length cls.length) (hj : ∀ k, (k < 16 ∨ 22 < k) → k < 103 + D.1 → J k = I k) (hc : cod (J (103 + D.1 + 1)) 0 c) (hcl : clR (J (103 + D.1 + 2)) cls) : CI (dPutN D' 10 (sa A 4325) (some (103 + D.1))) (up2 (up2 (up2 (up2 J 14 0 (nI 0)) 0 13 m1) 1 3 (nI (sa A 4325 + 1))) 0 12 0) (aGr (aFl (aTp A 0) none) (lawA (sa A) m tk vl)) (nn + 1) ∧ CFr I (up2 (up2 (up2 (up2 J 14 0 (nI 0)) 0 13 m1) 1 3 (nI (sa A 4325 + 1))) 0 12 0) := by
  obtain ⟨g1, g2, g3, g4⟩ := hG
  have hM := h.2.2.2.1
  have hA := hM.2.1
  obtain ⟨K, hK⟩ : ∃ K, K = up2 (up2 (up2 (up2 J 14 0 (nI 0)) 0 13 m1) 1 3 (nI (sa A 4325 + 1))) 0 12 0 := ⟨_, rfl⟩
  rw [← hK]
  have kr : ∀ k, k ≠ 0 → k ≠ 1 → k ≠ 14 → K k = J k := fun k a b c => by rw [hK, up2_ro _ _ _ a, up2_ro _ _ _ b, up2_ro _ _ _ a, up2_ro _ _ _ c]
  have ki : ∀ k, k ≠ 0 → k ≠ 1 → k ≠ 14 → (k < 16 ∨ 22 < k) → k < 103 + D.1 → K k = I k := fun k a b c e f => by rw [kr k a b c]; exact hj k e f
  have k1 : ∀ k, 1 ≤ k → k ≤ 13 → K k = up2 I 1 3 (nI (sa A 4325 + 1)) k := fun k a b => by
    by_cases e : k = 1
    · rw [e, hK, up2_ro _ _ _ (by decide), up2_rs, up2_rs, up2_ro _ _ _ (by decide), up2_ro _ _ _ (by decide), hj 1 (by omega) (by omega)]
    · rw [ki k (by omega) e (by omega) (by omega) (by omega), up2_ro _ _ _ e]
  have k0 : ∀ j, j ≠ 12 → j ≠ 13 → K 0 j = I 0 j := fun j a b => by rw [hK, up2_j _ _ _ a, up2_ro _ _ _ (by decide), up2_j _ _ _ b, up2_ro _ _ _ (by decide), hj 0 (by omega) (by omega)]
  have hp10 := p0_10 (sa A 4325)
  have hH : LwH D (dPutN D' 10 (sa A 4325) (some (103 + D.1))) (sa A 4325) := ⟨by show D.1 ≤ D'.1; omega, fun k hk => (g3 k hk).1, fun k j hk hne => by rw [pF_pn hp10, if_neg hne]; exact (g3 k hk).2 j⟩
  have how : ∀ k, k < 103 + D.1 → (fun k => if 103 + D.1 ≤ k then 0 else ow k) k = ow k := fun k hk => by dsimp only; rw [if_neg (by omega)]
  have hrow : ∀ k, 103 ≤ k → k < 103 + D.1 → K k = I k := fun k a b => ki k (by omega) (by omega) (by omega) (by omega) b
  obtain ⟨t1, t2, t3⟩ := lawA_tk (vl := vl) (tk := tk) ht hm hz
  obtain ⟨h1, h2, h3, h4', h5, h6, h7⟩ := h
  have hAW := AW_law hA ht hm hz h4 hv hr
  have hLa : LaI (fun k => if 103 + D.1 ≤ k then 0 else ow k) (dPutN D' 10 (sa A 4325) (some (103 + D.1))) K 1 (lawA (sa A) m tk vl) := by
    have h25 : lawA (sa A) m tk vl 4325 = sa A 4325 + 1 := by unfold lawA; rw [up1_s]
    refine ⟨fun t htt => ?_, fun t htt q hq => ?_⟩
    · rw [h25] at htt
      by_cases e : t = sa A 4325
      · rw [e]
        refine ⟨103 + D.1, c, cls, by rw [pF_pn hp10, if_pos ⟨rfl, rfl⟩], by dsimp only; rw [if_pos (by omega)], by dsimp only; rw [if_pos (by omega)], ?_⟩
        rw [t1, t2, t3]
        have ep : ∀ j, pF (dPutN D' 10 (sa A 4325) (some (103 + D.1))) (103 + D.1) j = pF D' (103 + D.1) j := fun j => by rw [pF_pn hp10, if_neg (by omega)]
        obtain ⟨l1, l2, l3, l4, l5, l6, l7, l8, l9, l10⟩ := g4
        exact ⟨⟨l1, l2, l3, by rw [ep]; exact l4, by rw [ep]; exact l5, by rw [ep]; exact l6, l7, l8, l9, l10⟩, hr, by rw [kr _ (by omega) (by omega) (by omega)]; exact hc, by rw [kr _ (by omega) (by omega) (by omega)]; exact hcl, fun j hj => (hz j hj).1⟩
      · obtain ⟨q, cc, cls', r1, r2, r3, r4⟩ := hM.2.2.1.1 t (by omega)
        have hL := hA.2.2.2.2.2.2.2.2.2.2.2.2.2.2.1 t (by omega)
        obtain ⟨s1, s2, s3⟩ := lawA_tt (tk := tk) (vl := vl) ht hm (show t < sa A 4325 by omega) hL.1
        have hq3 := r4.1.2.1
        refine ⟨q, cc, cls', by rw [hH.2.2 _ _ (by omega) (by omega)]; exact r1, by rw [how _ (by omega)]; exact r2, by rw [how _ (by omega)]; exact r3, ?_⟩
        rw [s1, s2, s3]
        exact hH.lw hrow r4
    · rw [pF_pn hp10] at hq
      by_cases e : t = sa A 4325
      · rw [if_pos ⟨rfl, e⟩] at hq
        have hq' : 103 + D.1 = q := by cases hq; rfl
        rw [← hq']
        exact ⟨g4.2.2.1, by omega, by show 103 + D.1 < 103 + D'.1; omega⟩
      · rw [if_neg (by omega), (g3 (1 + 9) (by omega)).2] at hq
        obtain ⟨p1, p2, p3⟩ := hM.2.2.1.2 t htt q hq
        exact ⟨by show shF D' q = _; rw [(g3 q p3).1]; exact p1, p2, by show q < 103 + D'.1; omega⟩
  have hStt : StI K 1 (lawA (sa A) m tk vl) := (h5.fr (I' := K) (by rw [k1 _ (by decide) (by decide), up2_ro _ _ _ (by decide)]) (by rw [k1 _ (by decide) (by decide), up2_ro _ _ _ (by decide)]) (by rw [k1 _ (by decide) (by decide), up2_ro _ _ _ (by decide)])).e (a' := lawA (sa A) m tk vl) (lawA_o ht hm (by decide) (by decide)) (fun x hx => lawA_o ht hm (by omega) (by omega))
  have hres := CIx.gen2 (A := A) (A' := aGr (aFl (aTp A 0) none) (lawA (sa A) m tk vl)) (D' := dPutN D' 10 (sa A 4325) (some (103 + D.1))) (I' := K) (ow' := fun k => if 103 + D.1 ≤ k then 0 else ow k) (nn' := nn + 1) ⟨h1, h2, h3, h4', h5, h6, h7⟩ (by omega) (fun k hk a b => by rw [how k (by omega)] at a b; exact h1 k hk a b) (fun i a b => by
      obtain ⟨q1, q2, q3, q4, q5, q6⟩ := h2 i a b
      have : ob i = 29 ∨ ob i = 34 ∨ ob i = 42 := by
        unfold ob
        split
        · exact Or.inl rfl
        · split
          · exact Or.inr (Or.inl rfl)
          · exact Or.inr (Or.inr rfl)
      exact ⟨by rw [hH.2.2 _ _ (by omega) (by omega)]; exact q1, by rw [hH.2.1 _ q5]; exact q2, by rw [how _ q5]; exact q3, q4, by have := hH.1; omega, q6⟩) ⟨by
      show D'.2.1 ≤ _
      have := h3.1
      have hl1 := g4.2.2.2.2.2.2.2.2.2.1
      have hl2 := g4.2.2.2.2.2.2.2.2.2.2
      omega, by
      show 16 * D'.1 ≤ D'.2.1
      have := h3.2.1
      omega, h3.2.2⟩ (fun k a b => ki k (by omega) (by omega) (by omega) (by omega) (by omega)) (SMv_law hA ht hm) ((MzI_lw hM.1 hA ht hm).k (fun k a b => k1 k (by omega) (by omega))) hAW hLa hStt ?_
  · exact ⟨⟨_, ky, ln, hres.1⟩, hres.2⟩
  · obtain ⟨c1', c2, c3, c4, c5, c6, c7⟩ := h6
    refine ⟨fun i hi => ?_, by rw [hK, up2_s]; rfl, by rw [ki 80 (by decide) (by decide) (by decide) (by omega) (by omega)]; exact c3, by rw [k0 14 (by decide) (by decide)]; exact c4, ?_, ?_, ?_⟩
    · refine ⟨by rw [ki 79 (by decide) (by decide) (by decide) (by omega) (by omega)]; exact (c1' i hi).1, fun b hb => ?_⟩
      obtain ⟨e1, e2, e3, e4⟩ := (c1' i hi).2 b hb
      exact ⟨e1.k (fun j a b => ki j (by omega) (by omega) (by omega) (by omega) (by omega)), e2, hH.la (by omega) hrow how e3, e4.fr (ki _ (by omega) (by omega) (by omega) (by omega) (by omega)) (ki _ (by omega) (by omega) (by omega) (by omega) (by omega)) (ki _ (by omega) (by omega) (by omega) (by omega) (by omega))⟩
    · rw [hK, up2_j _ _ _ (by decide), up2_ro _ _ _ (by decide), up2_s]
      rfl
    · refine ⟨?_, Nat.zero_le _, ?_⟩
      · rw [hK, up2_ro _ _ _ (by decide), up2_ro _ _ _ (by decide), up2_ro _ _ _ (by decide), up2_s]
        rfl
      · rw [ki 15 (by decide) (by decide) (by decide) (by omega) (by omega)]
        exact c6.2.2
    · show HnC _ (shn A)
      unfold HnC
      rw [ki 50 (by decide) (by decide) (by decide) (by omega) (by omega), ki 51 (by decide) (by decide) (by decide) (by omega) (by omega)]
      exact c7
theorem CI_bad {fl : Nat} (h : CIx ow ky ln D I A nn) (hj : ∀ k, (k < 16 ∨ 22 < k) → J k = I k) : CIx ow ky ln D (up2 (up2 J 14 0 (nI 0)) 0 13 (nI fl)) (aFl (aTp A 0) (some fl)) nn ∧ CFr I (up2 (up2 J 14 0 (nI 0)) 0 13 (nI fl)) := by
  have hM := h.2.2.2.1
  have hA := hM.2.1
  obtain ⟨K, hK⟩ : ∃ K, K = up2 (up2 J 14 0 (nI 0)) 0 13 (nI fl) := ⟨_, rfl⟩
  rw [← hK]
  have ki : ∀ k, k ≠ 0 → k ≠ 14 → (k < 16 ∨ 22 < k) → K k = I k := fun k a b c => by rw [hK, up2_ro _ _ _ a, up2_ro _ _ _ b]; exact hj k c
  have k0 : ∀ j, j ≠ 13 → K 0 j = I 0 j := fun j b => by rw [hK, up2_j _ _ _ b, up2_ro _ _ _ (by decide), hj 0 (by omega)]
  obtain ⟨h1, h2, h3, h4', h5, h6, h7⟩ := h
  refine CIx.gen2 (A := A) (A' := aFl (aTp A 0) (some fl)) ⟨h1, h2, h3, h4', h5, h6, h7⟩ (Nat.le_refl _) h1 h2 h3 (fun k a b => ki k (by omega) (by omega) (by omega)) (SMv.rf _) (hM.1.k (fun k a b => ki k (by omega) (by omega) (by omega))) hA (hM.2.2.1.i2 (fun k hk => ki k (by omega) (by omega) (by omega))) (h5.fr (ki _ (by decide) (by decide) (by omega)) (ki _ (by decide) (by decide) (by omega)) (ki _ (by decide) (by decide) (by omega))) ?_
  obtain ⟨c1', c2, c3, c4, c5, c6, c7⟩ := h6
  refine ⟨fun i hi => ?_, by rw [k0 12 (by decide)]; exact c2, by rw [ki 80 (by decide) (by decide) (by omega)]; exact c3, by rw [k0 14 (by decide)]; exact c4, by rw [hK, up2_s]; rfl, ?_, ?_⟩
  · refine ⟨by rw [ki 79 (by decide) (by decide) (by omega)]; exact (c1' i hi).1, fun b hb => ?_⟩
    obtain ⟨e1, e2, e3, e4⟩ := (c1' i hi).2 b hb
    exact ⟨e1.k (fun j a b => ki j (by omega) (by omega) (by omega)), e2, e3.i2 (fun k hk => ki k (by omega) (by omega) (by omega)), e4.fr (ki _ (by omega) (by omega) (by omega)) (ki _ (by omega) (by omega) (by omega)) (ki _ (by omega) (by omega) (by omega))⟩
  · refine ⟨?_, Nat.zero_le _, ?_⟩
    · rw [hK, up2_ro _ _ _ (by decide), up2_s]
      rfl
    · rw [ki 15 (by decide) (by decide) (by omega)]
      exact c6.2.2
  · show HnC _ (shn A)
    unfold HnC
    rw [ki 50 (by decide) (by decide) (by omega), ki 51 (by decide) (by decide) (by omega)]
    exact c7
theorem C_law (h : CI D I A nn) : CCall xs Ln (d + 113) 96 [.ref 0] D I L (nLaw A).1 nn (nLaw A).2 := by
  obtain ⟨hMz, hA, _⟩ := h.mz
  have g3 : I 1 3 = nI (sa A 4325) := hMz.m.2.2.2.1
  have hl6 := hA.2.2.2.2.2.1
  obtain ⟨ow0, hs0⟩ := h.cs
  obtain ⟨g14, hst, g15⟩ := hs0.2.2.2.2.2.1
  obtain ⟨ow, ky, ln, h⟩ := h
  refine semG (lo := [some (.ref 0), none]) rfl rfl (Nat.le_of_ble_eq_true rfl) rfl (show G_X10_law xs Ln _ 0 [some (.ref 0), none] [] _ _ from ?_)
  unfold nLaw
  by_cases c6 : 6 ≤ sa A 4325
  · rw [if_pos c6]
    have hi := (h.tp (I' := up2 I 14 0 (nI 0)) (b := stB A) (m := 0) (by omega) (fun k k1 k2 => up2_ro _ _ _ k1) (up2_s _ _ _ _) (by rw [up2_ro _ _ _ (by decide)]; exact g15))
    have hi2 := hi.1.rf rc5
    simp (disch := first | omega | exact c1_int _ | exact c1_none | exact c1_ref _ | exact isRf_ref _ | assumption | exact okRb _ | exact okN1 | exact okN0 | exact rfl) only [N_X10_law_0, N_X10_law_1, N_X10_law_4, N_X10_law_7, N_X10_law_9, N_X10_law_12, N_X10_law_13, N_X10_law_16, N_X10_law_17, N_X10_law_20, N_X10_law_21, N_X10_law_23, N_X10_law_26, N_X10_law_27, N_X10_law_28, N_X10_law_31, N_X10_law_32, N_X10_law_35, N_X10_law_38, N_X10_law_39, N_X10_law_42, N_X10_law_45, N_X10_law_48, N_X10_law_49, N_X10_law_50, N_X10_law_53, N_X10_law_54, N_X10_law_57, N_X10_law_58_z, N_X10_law_58_r, N_X10_law_61, N_X10_law_62, N_X10_law_63, N_X10_law_66, N_X10_law_69, N_X10_law_72, N_X10_law_75, N_X10_law_76, N_X10_law_78, N_X10_law_81, N_X10_law_82, N_X10_law_83, N_X10_law_84, N_X10_law_87, N_X10_law_88, N_X10_law_91, N_X10_law_94, N_X10_law_95, N_X10_law_98, N_X10_law_101, N_X10_law_102_z, N_X10_law_102_r, N_X10_law_103, N_X10_law_104, N_X10_law_107, N_X10_law_108, N_X10_law_111, N_X10_law_112, N_X10_law_113, N_X10_law_116, N_X10_law_117, N_X10_law_118, N_X10_law_121, N_X10_law_124, N_X10_law_125, N_X10_law_126, N_X10_law_129, if_true, if_false, ite_true, ite_false, not_false_eq_true, not_true_eq_false, isRf_ref, isRf_null, c1_int, c1_ref, c1_null, c1_none, rfv_some, rfv_none, Ok_s, tl_some, tl_none, List.nil_append, b2i_n1, b2i_n0, ↓reduceIte, nI_add, pk_mul, pk_sub, n_leT, n_leF, n_ltT, n_ltF, n_eqT, n_eqF, n_shl1, n_shl, n_shr, nI_and, nI_or, nI_xor, b2i_z, b2i_o, m1_n, n_m1, m1_lt, m1_le, n_lm1, n_em1, nI_m1, and1, and3, and7, and15, and63, and255, Bool.true_eq_false, Bool.false_eq_true, reduceCtorEq, Nat.reduceAdd, Nat.reduceMul, Nat.reduceSub, Nat.reduceDiv, Nat.reduceMod, Nat.reducePow, Nat.zero_add, Nat.one_mul, g3]
    rw [c_refuse (y := m5) rc5]
    simp (disch := first | omega | exact c1_int _ | exact c1_none | exact c1_ref _ | exact isRf_ref _ | assumption | exact okRb _ | exact okN1 | exact okN0 | exact rfl) only [N_X10_law_0, N_X10_law_1, N_X10_law_4, N_X10_law_7, N_X10_law_9, N_X10_law_12, N_X10_law_13, N_X10_law_16, N_X10_law_17, N_X10_law_20, N_X10_law_21, N_X10_law_23, N_X10_law_26, N_X10_law_27, N_X10_law_28, N_X10_law_31, N_X10_law_32, N_X10_law_35, N_X10_law_38, N_X10_law_39, N_X10_law_42, N_X10_law_45, N_X10_law_48, N_X10_law_49, N_X10_law_50, N_X10_law_53, N_X10_law_54, N_X10_law_57, N_X10_law_58_z, N_X10_law_58_r, N_X10_law_61, N_X10_law_62, N_X10_law_63, N_X10_law_66, N_X10_law_69, N_X10_law_72, N_X10_law_75, N_X10_law_76, N_X10_law_78, N_X10_law_81, N_X10_law_82, N_X10_law_83, N_X10_law_84, N_X10_law_87, N_X10_law_88, N_X10_law_91, N_X10_law_94, N_X10_law_95, N_X10_law_98, N_X10_law_101, N_X10_law_102_z, N_X10_law_102_r, N_X10_law_103, N_X10_law_104, N_X10_law_107, N_X10_law_108, N_X10_law_111, N_X10_law_112, N_X10_law_113, N_X10_law_116, N_X10_law_117, N_X10_law_118, N_X10_law_121, N_X10_law_124, N_X10_law_125, N_X10_law_126, N_X10_law_129, if_true, if_false, ite_true, ite_false, not_false_eq_true, not_true_eq_false, isRf_ref, isRf_null, c1_int, c1_ref, c1_null, c1_none, rfv_some, rfv_none, Ok_s, tl_some, tl_none, List.nil_append, b2i_n1, b2i_n0, ↓reduceIte, nI_add, pk_mul, pk_sub, n_leT, n_leF, n_ltT, n_ltF, n_eqT, n_eqF, n_shl1, n_shl, n_shr, nI_and, nI_or, nI_xor, b2i_z, b2i_o, m1_n, n_m1, m1_lt, m1_le, n_lm1, n_em1, nI_m1, and1, and3, and7, and15, and63, and255, Bool.true_eq_false, Bool.false_eq_true, reduceCtorEq, Nat.reduceAdd, Nat.reduceMul, Nat.reduceSub, Nat.reduceDiv, Nat.reduceMod, Nat.reducePow, Nat.zero_add, Nat.one_mul]
    exact ⟨_, _, _, rfl, ⟨ow, ky, ln, hi2.1.up⟩, hi.2.tr hi2.2⟩
  · rw [if_neg c6]
    simp (disch := first | omega | exact c1_int _ | exact c1_none | exact c1_ref _ | exact isRf_ref _ | assumption | exact okRb _ | exact okN1 | exact okN0 | exact rfl) only [N_X10_law_0, N_X10_law_1, N_X10_law_4, N_X10_law_7, N_X10_law_9, N_X10_law_12, N_X10_law_13, N_X10_law_16, N_X10_law_17, N_X10_law_20, N_X10_law_21, N_X10_law_23, N_X10_law_26, N_X10_law_27, N_X10_law_28, N_X10_law_31, N_X10_law_32, N_X10_law_35, N_X10_law_38, N_X10_law_39, N_X10_law_42, N_X10_law_45, N_X10_law_48, N_X10_law_49, N_X10_law_50, N_X10_law_53, N_X10_law_54, N_X10_law_57, N_X10_law_58_z, N_X10_law_58_r, N_X10_law_61, N_X10_law_62, N_X10_law_63, N_X10_law_66, N_X10_law_69, N_X10_law_72, N_X10_law_75, N_X10_law_76, N_X10_law_78, N_X10_law_81, N_X10_law_82, N_X10_law_83, N_X10_law_84, N_X10_law_87, N_X10_law_88, N_X10_law_91, N_X10_law_94, N_X10_law_95, N_X10_law_98, N_X10_law_101, N_X10_law_102_z, N_X10_law_102_r, N_X10_law_103, N_X10_law_104, N_X10_law_107, N_X10_law_108, N_X10_law_111, N_X10_law_112, N_X10_law_113, N_X10_law_116, N_X10_law_117, N_X10_law_118, N_X10_law_121, N_X10_law_124, N_X10_law_125, N_X10_law_126, N_X10_law_129, if_true, if_false, ite_true, ite_false, not_false_eq_true, not_true_eq_false, isRf_ref, isRf_null, c1_int, c1_ref, c1_null, c1_none, rfv_some, rfv_none, Ok_s, tl_some, tl_none, List.nil_append, b2i_n1, b2i_n0, ↓reduceIte, nI_add, pk_mul, pk_sub, n_leT, n_leF, n_ltT, n_ltF, n_eqT, n_eqF, n_shl1, n_shl, n_shr, nI_and, nI_or, nI_xor, b2i_z, b2i_o, m1_n, n_m1, m1_lt, m1_le, n_lm1, n_em1, nI_m1, and1, and3, and7, and15, and63, and255, Bool.true_eq_false, Bool.false_eq_true, reduceCtorEq, Nat.reduceAdd, Nat.reduceMul, Nat.reduceSub, Nat.reduceDiv, Nat.reduceMod, Nat.reducePow, Nat.zero_add, Nat.one_mul, g3, g14]
    refine Ok.mono (c_read (d := d) (tk := tkB A) (vl := vlB A) (ps := psB A) (m := mB A) hst g15 rfl rfl rfl rfl) ?_
    rintro q ⟨J, hT, hJ, hP⟩
    have hm4 : mB A ≤ 400 := hT.1
    obtain ⟨⟨t1, t2, t3, t4, t5, t6⟩, _⟩ := tz_i hst (fun j hj => (g15 j hj).2) 400 tz0 (tz0_i _) (by show stn A ≤ 0 + 400; omega)
    cases hr : rdL (tkB A) (vlB A) (mB A) 12 0 0 0 with
    | inl p =>
      rw [hr] at hP
      obtain ⟨hp, K, rfl, hK, hK1⟩ := hP
      have hb := CI_bad (fl := psB A p) (J := K) h (fun k hk => by rw [hK k (by omega), hJ k (by omega)])
      have hb2 := hb.1.rf rc6
      have e19 : up2 K 14 0 (nI 0) 19 p = nI (psB A p) := by rw [up2_ro _ _ _ (by decide), hK 19 (by omega)]; exact hT.2.2.2.2.1 p hp
      have e17 : up2 K 14 0 (nI 0) 17 1 = nI p := by rw [up2_ro _ _ _ (by decide)]; exact hK1
      have hst2 : callD xs Ln (d + 112) 78 [.ref 17] (mkW D (up2 K 14 0 (nI 0)) L) = some (mkW D (up2 K 14 0 (nI 0)) L, some (.int (nI (psB A p)))) := by
        refine Ok.eq ?_
        refine semG (lo := [some (.ref 17)]) rfl rfl (Nat.le_of_ble_eq_true rfl) rfl (show G_X9_start xs Ln _ 0 [some (.ref 17)] [] _ _ from ?_)
        simp (disch := first | omega | exact c1_int _ | exact c1_none | exact c1_ref _ | exact isRf_ref _ | assumption | exact okRb _ | exact okN1 | exact okN0 | exact rfl) only [N_X9_start_0, N_X9_start_1, N_X9_start_4, N_X9_start_5, N_X9_start_8, N_X9_start_9, if_true, if_false, ite_true, ite_false, not_false_eq_true, not_true_eq_false, isRf_ref, isRf_null, c1_int, c1_ref, c1_null, c1_none, rfv_some, rfv_none, Ok_s, tl_some, tl_none, List.nil_append, b2i_n1, b2i_n0, ↓reduceIte, nI_add, pk_mul, pk_sub, n_leT, n_leF, n_ltT, n_ltF, n_eqT, n_eqF, n_shl1, n_shl, n_shr, nI_and, nI_or, nI_xor, b2i_z, b2i_o, m1_n, n_m1, m1_lt, m1_le, n_lm1, n_em1, nI_m1, and1, and3, and7, and15, and63, and255, Bool.true_eq_false, Bool.false_eq_true, reduceCtorEq, Nat.reduceAdd, Nat.reduceMul, Nat.reduceSub, Nat.reduceDiv, Nat.reduceMod, Nat.reducePow, Nat.zero_add, Nat.one_mul, e17, e19]
      have hnl : isRf .null = true := rfl
      simp (disch := first | omega | exact c1_int _ | exact c1_none | exact c1_ref _ | exact isRf_ref _ | assumption | exact okRb _ | exact okN1 | exact okN0 | exact rfl) only [N_X10_law_0, N_X10_law_1, N_X10_law_4, N_X10_law_7, N_X10_law_9, N_X10_law_12, N_X10_law_13, N_X10_law_16, N_X10_law_17, N_X10_law_20, N_X10_law_21, N_X10_law_23, N_X10_law_26, N_X10_law_27, N_X10_law_28, N_X10_law_31, N_X10_law_32, N_X10_law_35, N_X10_law_38, N_X10_law_39, N_X10_law_42, N_X10_law_45, N_X10_law_48, N_X10_law_49, N_X10_law_50, N_X10_law_53, N_X10_law_54, N_X10_law_57, N_X10_law_58_z, N_X10_law_58_r, N_X10_law_61, N_X10_law_62, N_X10_law_63, N_X10_law_66, N_X10_law_69, N_X10_law_72, N_X10_law_75, N_X10_law_76, N_X10_law_78, N_X10_law_81, N_X10_law_82, N_X10_law_83, N_X10_law_84, N_X10_law_87, N_X10_law_88, N_X10_law_91, N_X10_law_94, N_X10_law_95, N_X10_law_98, N_X10_law_101, N_X10_law_102_z, N_X10_law_102_r, N_X10_law_103, N_X10_law_104, N_X10_law_107, N_X10_law_108, N_X10_law_111, N_X10_law_112, N_X10_law_113, N_X10_law_116, N_X10_law_117, N_X10_law_118, N_X10_law_121, N_X10_law_124, N_X10_law_125, N_X10_law_126, N_X10_law_129, if_true, if_false, ite_true, ite_false, not_false_eq_true, not_true_eq_false, isRf_ref, isRf_null, c1_int, c1_ref, c1_null, c1_none, rfv_some, rfv_none, Ok_s, tl_some, tl_none, List.nil_append, b2i_n1, b2i_n0, ↓reduceIte, nI_add, pk_mul, pk_sub, n_leT, n_leF, n_ltT, n_ltF, n_eqT, n_eqF, n_shl1, n_shl, n_shr, nI_and, nI_or, nI_xor, b2i_z, b2i_o, m1_n, n_m1, m1_lt, m1_le, n_lm1, n_em1, nI_m1, and1, and3, and7, and15, and63, and255, Bool.true_eq_false, Bool.false_eq_true, reduceCtorEq, Nat.reduceAdd, Nat.reduceMul, Nat.reduceSub, Nat.reduceDiv, Nat.reduceMod, Nat.reducePow, Nat.zero_add, Nat.one_mul, hst2]
      rw [c_refuse (y := m6) rc6]
      simp (disch := first | omega | exact c1_int _ | exact c1_none | exact c1_ref _ | exact isRf_ref _ | assumption | exact okRb _ | exact okN1 | exact okN0 | exact rfl) only [N_X10_law_0, N_X10_law_1, N_X10_law_4, N_X10_law_7, N_X10_law_9, N_X10_law_12, N_X10_law_13, N_X10_law_16, N_X10_law_17, N_X10_law_20, N_X10_law_21, N_X10_law_23, N_X10_law_26, N_X10_law_27, N_X10_law_28, N_X10_law_31, N_X10_law_32, N_X10_law_35, N_X10_law_38, N_X10_law_39, N_X10_law_42, N_X10_law_45, N_X10_law_48, N_X10_law_49, N_X10_law_50, N_X10_law_53, N_X10_law_54, N_X10_law_57, N_X10_law_58_z, N_X10_law_58_r, N_X10_law_61, N_X10_law_62, N_X10_law_63, N_X10_law_66, N_X10_law_69, N_X10_law_72, N_X10_law_75, N_X10_law_76, N_X10_law_78, N_X10_law_81, N_X10_law_82, N_X10_law_83, N_X10_law_84, N_X10_law_87, N_X10_law_88, N_X10_law_91, N_X10_law_94, N_X10_law_95, N_X10_law_98, N_X10_law_101, N_X10_law_102_z, N_X10_law_102_r, N_X10_law_103, N_X10_law_104, N_X10_law_107, N_X10_law_108, N_X10_law_111, N_X10_law_112, N_X10_law_113, N_X10_law_116, N_X10_law_117, N_X10_law_118, N_X10_law_121, N_X10_law_124, N_X10_law_125, N_X10_law_126, N_X10_law_129, if_true, if_false, ite_true, ite_false, not_false_eq_true, not_true_eq_false, isRf_ref, isRf_null, c1_int, c1_ref, c1_null, c1_none, rfv_some, rfv_none, Ok_s, tl_some, tl_none, List.nil_append, b2i_n1, b2i_n0, ↓reduceIte, nI_add, pk_mul, pk_sub, n_leT, n_leF, n_ltT, n_ltF, n_eqT, n_eqF, n_shl1, n_shl, n_shr, nI_and, nI_or, nI_xor, b2i_z, b2i_o, m1_n, n_m1, m1_lt, m1_le, n_lm1, n_em1, nI_m1, and1, and3, and7, and15, and63, and255, Bool.true_eq_false, Bool.false_eq_true, reduceCtorEq, Nat.reduceAdd, Nat.reduceMul, Nat.reduceSub, Nat.reduceDiv, Nat.reduceMod, Nat.reducePow, Nat.zero_add, Nat.one_mul]
      exact ⟨_, _, _, rfl, ⟨ow, ky, ln, hb2.1.up⟩, hb.2.tr hb2.2⟩
    | inr y =>
      rw [hr] at hP
      obtain ⟨D', K, L', rfl, hK, hG, hc, hcl⟩ := hP
      have hlw := CI_lw (n := 0) (q := 0) (m := mB A) (tk := tkB A) (vl := vlB A) (J := K) h (by omega) hm4 t3 (fun j => by have := t4 j; show (tzR (stB A) (stn A) 400 tz0).2.2.1 j < 400; omega) (fun j => by have := t5 j; show (tzR (stB A) (stn A) 400 tz0).2.2.2.1 j < 2147483648; omega) hr hG (fun k hk hk2 => by rw [hK k hk hk2, hJ k (by omega)]) hc hcl
      have hob : ∀ I L, isObj (mkW D' I L) (103 + D.1) 1 = true := fun I L => ob_sh hG.2.2.2.2.2.1 (by decide)
      have hp10 := p0_10 (sa A 4325)
      have e13 : K 1 3 = nI (sa A 4325) := by rw [hK 1 (by omega) (by omega), hJ 1 (by omega)]; exact g3
      simp (disch := first | omega | exact c1_int _ | exact c1_none | exact c1_ref _ | exact isRf_ref _ | assumption | exact hob _ _ | exact rfl) only [N_X10_law_0, N_X10_law_1, N_X10_law_4, N_X10_law_7, N_X10_law_9, N_X10_law_12, N_X10_law_13, N_X10_law_16, N_X10_law_17, N_X10_law_20, N_X10_law_21, N_X10_law_23, N_X10_law_26, N_X10_law_27, N_X10_law_28, N_X10_law_31, N_X10_law_32, N_X10_law_35, N_X10_law_38, N_X10_law_39, N_X10_law_42, N_X10_law_45, N_X10_law_48, N_X10_law_49, N_X10_law_50, N_X10_law_53, N_X10_law_54, N_X10_law_57, N_X10_law_58_z, N_X10_law_58_r, N_X10_law_61, N_X10_law_62, N_X10_law_63, N_X10_law_66, N_X10_law_69, N_X10_law_72, N_X10_law_75, N_X10_law_76, N_X10_law_78, N_X10_law_81, N_X10_law_82, N_X10_law_83, N_X10_law_84, N_X10_law_87, N_X10_law_88, N_X10_law_91, N_X10_law_94, N_X10_law_95, N_X10_law_98, N_X10_law_101, N_X10_law_102_z, N_X10_law_102_r, N_X10_law_103, N_X10_law_104, N_X10_law_107, N_X10_law_108, N_X10_law_111, N_X10_law_112, N_X10_law_113, N_X10_law_116, N_X10_law_117, N_X10_law_118, N_X10_law_121, N_X10_law_124, N_X10_law_125, N_X10_law_126, N_X10_law_129, if_true, if_false, ite_true, ite_false, not_false_eq_true, not_true_eq_false, isRf_ref, isRf_null, c1_int, c1_ref, c1_null, c1_none, rfv_some, rfv_none, Ok_s, tl_some, tl_none, List.nil_append, b2i_n1, b2i_n0, ↓reduceIte, nI_add, pk_mul, pk_sub, n_leT, n_leF, n_ltT, n_ltF, n_eqT, n_eqF, n_shl1, n_shl, n_shr, nI_and, nI_or, nI_xor, b2i_z, b2i_o, m1_n, n_m1, m1_lt, m1_le, n_lm1, n_em1, nI_m1, and1, and3, and7, and15, and63, and255, Bool.true_eq_false, Bool.false_eq_true, reduceCtorEq, Nat.reduceAdd, Nat.reduceMul, Nat.reduceSub, Nat.reduceDiv, Nat.reduceMod, Nat.reducePow, Nat.zero_add, Nat.one_mul, up2_ro, e13, up2_s, c_grant]
      exact ⟨_, _, _, rfl, hlw.1, hlw.2⟩
end Pi2
