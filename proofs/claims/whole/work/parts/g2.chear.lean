section Pg2
variable {xs : Nat → Int32} {Ln d : Nat} {D D' D'' : Dyn} {I I' I'' J : Nat → Nat → Int32} {L : Nat → Nat → Int64} {w : Om} {Q : Res → Prop} {ow ow' ow'' ky ky' ky'' ln ln' ln'' a a' : Nat → Nat} {o be sr : Nat} {A A' : As} {nn : Nat}
/-! hear, place, word -/
theorem CIx.fg2 (h : CIx ow ky ln D I A nn) (hn : nn < 99999) (hk : ∀ k, 14 ≤ k ∨ k = 0 → I' k = fgC I k) (h43 : ∀ j, 4322 ≤ j → a' j = sa A j) (h22 : ∀ j, 224 ≤ j → j < 4320 → a' j = sa A j) (hA' : AW a') (hM : MzI I' 1 a') (hkk : ∀ k, 10 ≤ k → I' k = fgC I k) : CIx ow ky ln D (up2 I' 0 12 0) (aGr A a') (nn + 1) ∧ CFr I (up2 I' 0 12 0) := by
  obtain ⟨f1, f2, f3, f4, f5⟩ := fg_f I
  have hM0 := h.2.2.2.1
  exact h.fg (I' := I') (a' := a') hn (fun k k1 k2 k3 => by rw [hk k (by omega)]; exact f1 k k2 k3) (by rw [hk 23 (by omega)]; exact f2) (fun j hj => by rw [hk 26 (by omega)]; exact f3 j hj) (fun j hj => by rw [hk 27 (by omega)]; exact f4 j hj) (fun j hj => by rw [hk 28 (by omega)]; exact f5 j hj) (fun j => by rw [hk 0 (by omega), f1 0 (by decide) (by omega)]) ((hM0.2.2.1.e2 (fun j hj => h43 j (by omega)) (h43 _ (by omega))).i2 (fun k hk' => by rw [hk k (by omega)]; exact f1 k (by omega) (by omega))) hA' hM ((h.2.2.2.2.1.fr (by rw [hkk _ (by decide)]; exact f1 _ (by decide) (by decide)) (by rw [hkk _ (by decide)]; exact f1 _ (by decide) (by decide)) (by rw [hkk _ (by decide)]; exact f1 _ (by decide) (by decide))).e (h43 _ (by omega)) (fun x hx => h22 _ (by omega) (by omega)))
theorem MzI_he {k0 w0 c : Nat} (hM : MzI I 1 a) (hA : AW a) (hk0 : k0 < 2) (hw0 : w0 < a 4321) : MzI (up2 I 6 (k0 * 8 + w0) (nM c)) 1 (up1 a (124 + (8 * k0 + w0)) c) := by
  have hP := hA.1
  have hW := hA.2.1
  have hw12 := hA.2.2.1
  have hc60 := hA.2.2.2.1
  obtain ⟨m0, m1', m2', m3', m4, m5, m6, m7, m8, m9, m10, m11, m12⟩ := hM.m
  have hs : ∀ j, j ≠ 124 + (8 * k0 + w0) → up1 a (124 + (8 * k0 + w0)) c j = a j := fun j h1 => up1_n _ _ h1
  have hk : ∀ k, k ≠ 6 → up2 I 6 (k0 * 8 + w0) (nM c) k = I k := fun k h1 => up2_ro _ _ _ h1
  show Mz1 (up2 I 6 (k0 * 8 + w0) (nM c)) (up1 a (124 + (8 * k0 + w0)) c)
  unfold Mz1
  rw [hs 4320 (by omega), hs 4321 (by omega), hs 4322 (by omega), hs 4323 (by omega), hs 4325 (by omega), hs 4326 (by omega), hs 4327 (by omega), hk 1 (by decide), hk 2 (by decide), hk 3 (by decide), hk 4 (by decide), hk 5 (by decide), hk 7 (by decide), hk 8 (by decide), hk 9 (by decide)]
  refine ⟨m0, m1', m2', m3', m4, m5, m6, fun p hp => ?_, fun w hw => ?_, fun w p hw hp => ?_, fun k w hk hw => ?_, fun i hi => ?_, fun i hi => ?_⟩
  · rw [hs p (by omega)]; exact m7 p hp
  · rw [hs (12 + 2 * w) (by omega), hs (12 + 2 * w + 1) (by omega)]; exact m8 w hw
  · rw [hs (28 + 12 * w + p) (by omega)]; exact m9 w p hw hp
  · by_cases e : k = k0 ∧ w = w0
    · obtain ⟨rfl, rfl⟩ := e
      rw [up2_s, up1_s]
    · rw [up2_j _ _ _ (by omega), hs (124 + (8 * k + w)) (by omega)]; exact m10 k w hk hw
  · rw [hs (164 + i) (by omega)]; exact m11 i hi
  · rw [hs (140 + 2 * i) (by omega), hs (140 + 2 * i + 1) (by omega)]; exact m12 i hi
theorem C_hear {x y z : Int32} (h : CI D I A nn) (hn : nn < 99999) : CCall xs Ln (d + 8) 90 [.ref 0, .int x, .int y, .int z] D I L (nHear A x y z).1 nn (nHear A x y z).2 := by
  obtain ⟨hMz, hA, _⟩ := h.mz
  have g1 : I 1 1 = nI (sa A 4321) := hMz.m.2.1
  have hW := hA.2.1
  unfold nHear
  cases h1 : inN x (nI 2) with
  | false => exact CC_rf rc1 h (c_hear1 (d := d + 5) (by rw [isK_N]; exact h1))
  | true =>
    rw [if_neg (by decide)]
    cases h2 : inN y (nI (sa A 4321)) with
    | false => exact CC_rf rc2 h (c_hear2 (d := d + 5) (by rw [isK_N]; exact h1) (by rw [g1, h2]; exact Or.inl rfl))
    | true =>
      obtain ⟨x, hx, rfl⟩ := inN_t (by decide) h1
      obtain ⟨y, hy, rfl⟩ := inN_t (by omega) h2
      have ei : nI x * 8 + nI y = nI (x * 8 + y) := by
        show nI x * nI 8 + nI y = _
        rw [pk_mul, nI_add]
      have key : ∀ c, c ≤ sa A 4321 → z = nM c → (z = -1 ∨ inN z (I 1 1) = true) → CCall xs Ln (d + 8) 90 [.ref 0, .int (nI x), .int (nI y), .int z] D I L (aGr A (up1 (sa A) (124 + (8 * x + y)) c)) nn (nM (sa A (124 + (8 * x + y)))) := by
        intro c hcl hz hzz
        have hc := c_hear (xs := xs) (Ln := Ln) (d := d + 5) (D := D) (I := I) (L := L) (a := nI x) (b := nI y) (c := z) (by rw [isK_N]; exact h1) (by rw [g1]; exact h2) hzz (by rw [ei, n_cl (by omega)]; rintro (h | h); exact n_nn (by omega) h; omega)
        rw [ei, n_cl (by omega), show I 6 (x * 8 + y) = nM (sa A (124 + (8 * x + y))) from hMz.m.2.2.2.2.2.2.2.2.2.2.1 x y hx hy, hz] at hc
        rw [hz]
        obtain ⟨ow, ky, ln, h⟩ := h
        obtain ⟨f1, f2, f3, f4, f5⟩ := fg_f I
        have hMf : MzI (fgC I) 1 (sa A) := h.2.2.2.1.1.k (fun k k1 k2 => f1 k (by omega) (by omega))
        have hg := h.fg2 (I' := up2 (fgC I) 6 (x * 8 + y) (nM c)) (a' := up1 (sa A) (124 + (8 * x + y)) c) hn (fun k k1 => up2_ro _ _ _ (by omega)) (fun j hj => up1_n _ _ (by omega)) (fun j hj hj2 => up1_n _ _ (by omega)) (AW_hear hA hx hy hcl) (MzI_he hMf hA hx hy) (fun k k1 => up2_ro _ _ _ (by omega))
        exact Ok.of hc ⟨_, _, _, rfl, ⟨ow, ky, ln, hg.1⟩, hg.2⟩
      by_cases h3 : z = m1
      · rw [decide_eq_true h3, if_pos (by rfl), n_cl (by omega), n_cl (by omega), h3, show tM m1 = 0 from tM_1]
        rw [h3] at key
        exact key 0 (by omega) rfl (Or.inl rfl)
      · rw [decide_eq_false h3]
        cases h4 : inN z (nI (sa A 4321)) with
        | false => exact CC_rf rc2 h (c_hear2 (d := d + 5) (by rw [isK_N]; exact h1) (by rw [g1, h4]; exact Or.inr ⟨h3, rfl⟩))
        | true =>
          rw [if_pos (by decide), n_cl (by omega), n_cl (by omega)]
          obtain ⟨z, hz, rfl⟩ := inN_t (by omega) h4
          rw [tM_n (by omega)]
          exact key (z + 1) (by omega) (nM_s z).symm (Or.inr (by rw [g1, h4]))
theorem MzI_pl {v : Nat} (hM : MzI I 1 a) (hA : AW a) (h12 : a 4320 < 12) : MzI (up2 (up2 I 2 (a 4320) (nI v)) 1 0 (nI (a 4320 + 1))) 1 (up1 (plcA a (a 4320) v 8) 4320 (a 4320 + 1)) := by
  have hP := hA.1
  have hW := hA.2.1
  have hw12 := hA.2.2.1
  have hc60 := hA.2.2.2.1
  have hld := hA.2.2.2.2.2.2.2.2.2.2.1
  obtain ⟨m0, m1', m2', m3', m4, m5, m6, m7, m8, m9, m10, m11, m12⟩ := hM.m
  have hs : ∀ j, ((12 ≤ j ∧ j < 28) ∨ 124 ≤ j) → j ≠ 4320 → up1 (plcA a (a 4320) v 8) 4320 (a 4320 + 1) j = a j := fun j q1 q2 => by rw [up1_n _ _ q2, plcA_o (by omega) 8 (fun i hi => by omega)]
  have hk : ∀ k, k ≠ 1 → k ≠ 2 → up2 (up2 I 2 (a 4320) (nI v)) 1 0 (nI (a 4320 + 1)) k = I k := fun k h1 h2 => by rw [up2_ro _ _ _ h1, up2_ro _ _ _ h2]
  have h1 : ∀ j, j ≠ 0 → up2 (up2 I 2 (a 4320) (nI v)) 1 0 (nI (a 4320 + 1)) 1 j = I 1 j := fun j h => by rw [up2_j _ _ _ h, up2_ro _ _ _ (by decide)]
  have h2 : up2 (up2 I 2 (a 4320) (nI v)) 1 0 (nI (a 4320 + 1)) 2 = up2 I 2 (a 4320) (nI v) 2 := up2_ro _ _ _ (by decide)
  show Mz1 (up2 (up2 I 2 (a 4320) (nI v)) 1 0 (nI (a 4320 + 1))) (up1 (plcA a (a 4320) v 8) 4320 (a 4320 + 1))
  unfold Mz1
  rw [up1_s, hs 4321 (by omega) (by decide), hs 4322 (by omega) (by decide), hs 4323 (by omega) (by decide), hs 4325 (by omega) (by decide), hs 4326 (by omega) (by decide), hs 4327 (by omega) (by decide), hk 3 (by decide) (by decide), hk 4 (by decide) (by decide), hk 5 (by decide) (by decide), hk 6 (by decide) (by decide), hk 7 (by decide) (by decide), hk 8 (by decide) (by decide), hk 9 (by decide) (by decide), h1 1 (by decide), h1 2 (by decide), h1 3 (by decide), h1 4 (by decide), h1 5 (by decide), h1 6 (by decide), h2, up2_s]
  refine ⟨rfl, m1', m2', m3', m4, m5, m6, fun p hp => ?_, fun w hw => ?_, fun w p hw hp => ?_, fun k w hk hw => ?_, fun i hi => ?_, fun i hi => ?_⟩
  · rw [up1_n _ _ (by omega)]
    by_cases e : p = a 4320
    · rw [e, up2_s, plcA_p]
    · rw [up2_j _ _ _ e, plcA_o e 8 (fun i hi => by omega)]; exact m7 p (by omega)
  · rw [hs (12 + 2 * w) (by omega) (by omega), hs (12 + 2 * w + 1) (by omega) (by omega)]; exact m8 w hw
  · rw [m9 w p hw hp, up1_n _ _ (by omega)]
    by_cases e : p = a 4320
    · rw [e, plcA_s 8 (by omega), (hld w (a 4320) hw h12).2 (Nat.le_refl _)]
    · rw [plcA_o (by omega) 8 (fun i hi => by omega)]
  · rw [hs (124 + (8 * k + w)) (by omega) (by omega)]; exact m10 k w hk hw
  · rw [hs (164 + i) (by omega) (by omega)]; exact m11 i hi
  · rw [hs (140 + 2 * i) (by omega) (by omega), hs (140 + 2 * i + 1) (by omega) (by omega)]; exact m12 i hi
theorem C_place {v : Int32} (h : CI D I A nn) (hn : nn < 99999) : CCall xs Ln (d + 8) 86 [.ref 0, .int v] D I L (nPlace A v).1 nn (nPlace A v).2 := by
  obtain ⟨hMz, hA, _⟩ := h.mz
  have g0 : I 1 0 = nI (sa A 4320) := hMz.m.1
  have hP := hA.1
  unfold nPlace
  cases h0 : inN v (nI 4)
  · rw [if_pos rfl]
    exact CC_rf rc1 h (c_place1 (d := d + 5) h0)
  · rw [if_neg (by decide)]
    have e12 : (nI (sa A 4320) < 12) = (sa A 4320 < 12) := n_lt (b := 12) (by omega) (by decide)
    by_cases h5 : 12 ≤ sa A 4320
    · rw [if_pos h5]
      exact CC_rf rc5 h (c_place5 (d := d + 5) h0 (by rw [g0, e12]; omega))
    · rw [if_neg h5]
      have hc := c_place (xs := xs) (Ln := Ln) (d := d + 5) (D := D) (I := I) (L := L) (v := v) (p := sa A 4320) h0 g0 (by omega)
      obtain ⟨v, hv, rfl⟩ := inN_t (by decide) h0
      rw [n_cl (by omega)]
      obtain ⟨ow, ky, ln, h⟩ := h
      obtain ⟨f1, f2, f3, f4, f5⟩ := fg_f I
      have hMf : MzI (fgC I) 1 (sa A) := h.2.2.2.1.1.k (fun k k1 k2 => f1 k (by omega) (by omega))
      have hs : ∀ j, 124 ≤ j → j ≠ 4320 → up1 (plcA (sa A) (sa A 4320) v 8) 4320 (sa A 4320 + 1) j = sa A j := fun j q1 q2 => by rw [up1_n _ _ q2, plcA_o (by omega) 8 (fun i hi => by omega)]
      have hk : ∀ k, k ≠ 1 → k ≠ 2 → up2 (up2 (fgC I) 2 (sa A 4320) (nI v)) 1 0 (nI (sa A 4320 + 1)) k = fgC I k := fun k h1 h2 => by rw [up2_ro _ _ _ h1, up2_ro _ _ _ h2]
      have hg := h.fg2 (I' := up2 (up2 (fgC I) 2 (sa A 4320) (nI v)) 1 0 (nI (sa A 4320 + 1))) (a' := up1 (plcA (sa A) (sa A 4320) v 8) 4320 (sa A 4320 + 1)) hn (fun k k1 => hk k (by omega) (by omega)) (fun j hj => hs j (by omega) (by omega)) (fun j hj hj2 => hs j (by omega) (by omega)) (AW_place hA (by omega) hv) (MzI_pl hMf hA (by omega)) (fun k k1 => hk k (by omega) (by omega))
      exact Ok.of hc ⟨_, _, _, rfl, ⟨ow, ky, ln, hg.1⟩, hg.2⟩
theorem awC_5 {p : Nat} {x y : Int32} : ∀ n, ∀ j, awC I p n x y 5 j = if 12 * p ≤ j ∧ j < 12 * p + n then nI (j - 12 * p) else I 5 j
  | 0, j => by
    rw [if_neg (by omega)]
    show up2 (up2 (up2 (up2 I 3 p x) 4 p y) 6 p (nI p)) 6 (8 + p) (nI p) 5 j = I 5 j
    rw [up2_ro _ _ _ (by decide), up2_ro _ _ _ (by decide), up2_ro _ _ _ (by decide), up2_ro _ _ _ (by decide)]
  | n + 1, j => by
    show up2 (awC I p n x y) 5 (12 * p + n) (nI n) 5 j = _
    by_cases e : j = 12 * p + n
    · rw [e, up2_s, if_pos (by omega), show 12 * p + n - 12 * p = n by omega]
    · rw [up2_j _ _ _ e, awC_5 n j]
      by_cases e2 : 12 * p ≤ j ∧ j < 12 * p + n
      · rw [if_pos e2, if_pos (by omega)]
      · rw [if_neg e2, if_neg (by omega)]
theorem MzI_wd {x y : Nat} (hM : MzI I 1 a) (hA : AW a) (h8 : a 4321 < 8) : MzI (up2 (awC I (a 4321) 12 (nI x) (nI y)) 1 1 (nI (a 4321 + 1))) 1 (wrB a (a 4321) x y) := by
  have hP := hA.1
  have hW := hA.2.1
  have hw12 := hA.2.2.1
  have hc60 := hA.2.2.2.1
  obtain ⟨m0, m1', m2', m3', m4, m5, m6, m7, m8, m9, m10, m11, m12⟩ := hM.m
  have hs : ∀ j, (j < 12 ∨ 140 ≤ j) → j ≠ 4321 → wrB a (a 4321) x y j = a j := fun j q1 q2 => by unfold wrB; rw [up1_n _ _ q2, up1_n _ _ (by omega), up1_n _ _ (by omega), wrA_o 12 (fun i hi => by omega), up1_n _ _ (by omega), up1_n _ _ (by omega)]
  have h21 : wrB a (a 4321) x y 4321 = a 4321 + 1 := by unfold wrB; rw [up1_s]
  have hk : ∀ k, k ≠ 1 → k ≠ 5 → up2 (awC I (a 4321) 12 (nI x) (nI y)) 1 1 (nI (a 4321 + 1)) k = up2 (up2 (up2 (up2 I 3 (a 4321) (nI x)) 4 (a 4321) (nI y)) 6 (a 4321) (nI (a 4321))) 6 (8 + a 4321) (nI (a 4321)) k := fun k h1 h2 => by rw [up2_ro _ _ _ h1, awC_ro h2]
  have hk0 : ∀ k, k ≠ 1 → k ≠ 3 → k ≠ 4 → k ≠ 5 → k ≠ 6 → up2 (awC I (a 4321) 12 (nI x) (nI y)) 1 1 (nI (a 4321 + 1)) k = I k := fun k h1 h2 h3 h4 h5 => by rw [hk k h1 h4, up2_ro _ _ _ h5, up2_ro _ _ _ h5, up2_ro _ _ _ h3, up2_ro _ _ _ h2]
  have h1 : ∀ j, j ≠ 1 → up2 (awC I (a 4321) 12 (nI x) (nI y)) 1 1 (nI (a 4321 + 1)) 1 j = I 1 j := fun j h => by rw [up2_j _ _ _ h, awC_ro (by decide), up2_ro _ _ _ (by decide), up2_ro _ _ _ (by decide), up2_ro _ _ _ (by decide), up2_ro _ _ _ (by decide)]
  have h5 : ∀ j, up2 (awC I (a 4321) 12 (nI x) (nI y)) 1 1 (nI (a 4321 + 1)) 5 j = if 12 * a 4321 ≤ j ∧ j < 12 * a 4321 + 12 then nI (j - 12 * a 4321) else I 5 j := fun j => by rw [up2_ro _ _ _ (by decide)]; exact awC_5 12 j
  show Mz1 (up2 (awC I (a 4321) 12 (nI x) (nI y)) 1 1 (nI (a 4321 + 1))) (wrB a (a 4321) x y)
  unfold Mz1
  rw [h21, hs 4320 (by omega) (by decide), hs 4322 (by omega) (by decide), hs 4323 (by omega) (by decide), hs 4325 (by omega) (by decide), hs 4326 (by omega) (by decide), hs 4327 (by omega) (by decide), hk0 2 (by decide) (by decide) (by decide) (by decide) (by decide), hk0 7 (by decide) (by decide) (by decide) (by decide) (by decide), hk0 8 (by decide) (by decide) (by decide) (by decide) (by decide), hk0 9 (by decide) (by decide) (by decide) (by decide) (by decide), h1 0 (by decide), h1 2 (by decide), h1 3 (by decide), h1 4 (by decide), h1 5 (by decide), h1 6 (by decide), up2_s, hk 3 (by decide) (by decide), hk 4 (by decide) (by decide), hk 6 (by decide) (by decide)]
  refine ⟨m0, rfl, m2', m3', m4, m5, m6, fun p hp => ?_, fun w hw => ?_, fun w p hw hp => ?_, fun k w hk hw => ?_, fun i hi => ?_, fun i hi => ?_⟩
  · rw [hs p (by omega) (by omega)]; exact m7 p hp
  · have e1 : ∀ j, j = 12 + 2 * w ∨ j = 12 + 2 * w + 1 → wrB a (a 4321) x y j = up1 (up1 a (12 + 2 * a 4321) x) (12 + 2 * a 4321 + 1) y j := fun j hj => by unfold wrB; rw [up1_n _ _ (by omega), up1_n _ _ (by omega), up1_n _ _ (by omega), wrA_o 12 (fun i hi => by omega)]
    have r3 : up2 (up2 (up2 (up2 I 3 (a 4321) (nI x)) 4 (a 4321) (nI y)) 6 (a 4321) (nI (a 4321))) 6 (8 + a 4321) (nI (a 4321)) 3 = up2 I 3 (a 4321) (nI x) 3 := by rw [up2_ro _ _ _ (show (3 : Nat) ≠ 6 by decide), up2_ro _ _ _ (show (3 : Nat) ≠ 6 by decide), up2_ro _ _ _ (show (3 : Nat) ≠ 4 by decide)]
    have r4 : up2 (up2 (up2 (up2 I 3 (a 4321) (nI x)) 4 (a 4321) (nI y)) 6 (a 4321) (nI (a 4321))) 6 (8 + a 4321) (nI (a 4321)) 4 = up2 (up2 I 3 (a 4321) (nI x)) 4 (a 4321) (nI y) 4 := by rw [up2_ro _ _ _ (show (4 : Nat) ≠ 6 by decide), up2_ro _ _ _ (show (4 : Nat) ≠ 6 by decide)]
    rw [e1 _ (Or.inl rfl), e1 _ (Or.inr rfl), r3, r4]
    by_cases e : w = a 4321
    · rw [e, up2_s, up2_s, up1_n _ _ (by omega), up1_s, up1_s]; exact ⟨rfl, rfl⟩
    · rw [up2_j _ _ _ e, up2_j _ _ _ e, up2_k _ _ _ _ (by decide), up1_n _ _ (by omega), up1_n _ _ (by omega), up1_n _ _ (by omega), up1_n _ _ (by omega)]; exact m8 w (by omega)
  · rw [h5]
    unfold wrB
    rw [up1_n _ _ (by omega), up1_n _ _ (by omega), up1_n _ _ (by omega)]
    by_cases e : w = a 4321
    · rw [e, wrA_s 12 hp, if_pos (by omega), show a 4321 * 12 + p - 12 * a 4321 = p by omega]
    · rw [wrA_o 12 (fun i hi => by omega), up1_n _ _ (by omega), up1_n _ _ (by omega), if_neg (by omega)]
      exact m9 w p (by omega) hp
  · unfold wrB
    rw [up1_n _ _ (by omega)]
    by_cases e : w = a 4321
    · rw [e]
      have : k = 0 ∨ k = 1 := by omega
      rcases this with rfl | rfl
      · rw [show 0 * 8 + a 4321 = a 4321 by omega, up2_j _ _ _ (by omega), up2_s, up1_n _ _ (by omega), up1_s]; rfl
      · rw [show 1 * 8 + a 4321 = 8 + a 4321 by omega, show 124 + (8 * 1 + a 4321) = 132 + a 4321 by omega, up2_s, up1_s]; rfl
    · rw [up2_j _ _ _ (by omega), up2_j _ _ _ (by omega), up2_ro _ _ _ (by decide), up2_ro _ _ _ (by decide), up1_n _ _ (by omega), up1_n _ _ (by omega), wrA_o 12 (fun i hi => by omega), up1_n _ _ (by omega), up1_n _ _ (by omega)]
      exact m10 k w hk (by omega)
  · rw [hs (164 + i) (by omega) (by omega)]; exact m11 i hi
  · rw [hs (140 + 2 * i) (by omega) (by omega), hs (140 + 2 * i + 1) (by omega) (by omega)]; exact m12 i hi
theorem C_word {x y : Int32} (h : CI D I A nn) (hn : nn < 99999) : CCall xs Ln (d + 8) 88 [.ref 0, .int x, .int y] D I L (nWord A x y).1 nn (nWord A x y).2 := by
  obtain ⟨hMz, hA, _⟩ := h.mz
  have g1 : I 1 1 = nI (sa A 4321) := hMz.m.2.1
  have hW := hA.2.1
  unfold nWord
  cases h0 : inN x (nI 8)
  · rw [if_pos (by rfl)]
    exact CC_rf rc1 h (c_word1 (d := d + 5) (Or.inl h0))
  · cases h1 : inN y (nI 8)
    · rw [if_pos (by rfl)]
      exact CC_rf rc1 h (c_word1 (d := d + 5) (Or.inr h1))
    · rw [if_neg (by decide)]
      have e8 : (nI (sa A 4321) < 8) = (sa A 4321 < 8) := n_lt (b := 8) (by omega) (by decide)
      by_cases h5 : 8 ≤ sa A 4321
      · rw [if_pos h5]
        exact CC_rf rc5 h (c_word5 (d := d + 5) h0 h1 (by rw [g1, e8]; omega))
      · rw [if_neg h5]
        have hc := c_word (xs := xs) (Ln := Ln) (d := d + 5) (D := D) (I := I) (L := L) (a := x) (b := y) (p := sa A 4321) h0 h1 g1 (by omega)
        obtain ⟨x, hx, rfl⟩ := inN_t (by decide) h0
        obtain ⟨y, hy, rfl⟩ := inN_t (by decide) h1
        rw [n_cl (by omega), n_cl (by omega)]
        obtain ⟨ow, ky, ln, h⟩ := h
        obtain ⟨f1, f2, f3, f4, f5⟩ := fg_f I
        have hMf : MzI (fgC I) 1 (sa A) := h.2.2.2.1.1.k (fun k k1 k2 => f1 k (by omega) (by omega))
        have hs : ∀ j, 140 ≤ j → j ≠ 4321 → wrB (sa A) (sa A 4321) x y j = sa A j := fun j q1 q2 => by unfold wrB; rw [up1_n _ _ q2, up1_n _ _ (by omega), up1_n _ _ (by omega), wrA_o 12 (fun i hi => by omega), up1_n _ _ (by omega), up1_n _ _ (by omega)]
        have hk : ∀ k, k = 0 ∨ 10 ≤ k → up2 (awC (fgC I) (sa A 4321) 12 (nI x) (nI y)) 1 1 (nI (sa A 4321 + 1)) k = fgC I k := fun k h1 => by rw [up2_ro _ _ _ (by omega), awC_ro (by omega), up2_ro _ _ _ (by omega), up2_ro _ _ _ (by omega), up2_ro _ _ _ (by omega), up2_ro _ _ _ (by omega)]
        have hg := h.fg2 (I' := up2 (awC (fgC I) (sa A 4321) 12 (nI x) (nI y)) 1 1 (nI (sa A 4321 + 1))) (a' := wrB (sa A) (sa A 4321) x y) hn (fun k k1 => hk k (by omega)) (fun j hj => hs j (by omega) (by omega)) (fun j hj hj2 => hs j (by omega) (by omega)) (AW_word hA (by omega) hx hy) (MzI_wd hMf hA (by omega)) (fun k k1 => hk k (by omega))
        exact Ok.of hc ⟨_, _, _, rfl, ⟨ow, ky, ln, hg.1⟩, hg.2⟩
end Pg2
