section Pg7
variable {xs : Nat → Int32} {Ln d : Nat} {D D' D'' : Dyn} {I I' I'' J : Nat → Nat → Int32} {L : Nat → Nat → Int64} {w : Om} {Q : Res → Prop} {ow ow' ow'' ky ky' ky'' ln ln' ln'' a a' : Nat → Nat} {o be sr : Nat} {A A' : As} {nn : Nat}
/-! images: what the copied rows say -/
theorem MzI_cp {b c : Nat} (hM : MzI I c a) (hA : AW a) : MzI (cpS b c (cpM b c I)) b a := by
  have hP := hA.1
  have hW := hA.2.1
  have hw12 := hA.2.2.1
  have hc60 := hA.2.2.2.1
  obtain ⟨m0, m1', m2', m3', m4, m5, m6, m7, m8, m9, m10, m11, m12⟩ := hM
  have e : ∀ k, k ≤ b + 9 → cpS b c (cpM b c I) k = cpM b c I k := fun k hk => cpS_o (by omega)
  unfold MzI
  rw [e b (by omega), e (b + 1) (by omega), e (b + 2) (by omega), e (b + 3) (by omega), e (b + 4) (by omega), e (b + 5) (by omega), e (b + 6) (by omega), e (b + 7) (by omega), e (b + 8) (by omega)]
  refine ⟨by rw [cpM_b (by decide)]; exact m0, by rw [cpM_b (by decide)]; exact m1', by rw [cpM_b (by decide)]; exact m2', by rw [cpM_b (by decide)]; exact m3', by rw [cpM_b (by decide)]; exact m4, by rw [cpM_b (by decide)]; exact m5, by rw [cpM_b (by decide)]; exact m6, fun p hp => ?_, fun w hw => ?_, fun w p hw hp => ?_, fun k w hk hw => ?_, fun i hi => ?_, fun i hi => ?_⟩
  · rw [cpM_1 (by omega)]; exact m7 p hp
  · rw [cpM_2 (by omega), cpM_3 (by omega)]; exact m8 w hw
  · rw [cpM_4 (by omega)]; exact m9 w p hw hp
  · rw [cpM_5 (by omega)]; exact m10 k w hk hw
  · rw [cpM_6 (by omega)]; exact m11 i hi
  · rw [cpM_7 (by omega), cpM_8 (by omega)]; exact m12 i hi
theorem StI_cp {b c : Nat} (h : StI I c a) (hbc : c + 12 < b ∨ b + 12 < c) : StI (cpS b c (cpM b c I)) b a := by
  obtain ⟨n, s, s1, s2, s3, s4, s5, s6⟩ := h
  have e : ∀ k, c + 10 ≤ k → k ≤ c + 12 → cpM b c I k = I k := fun k h1 h2 => cpM_o (by omega)
  refine ⟨n, s, s1, by rw [cpS_0, e _ (by omega) (by omega)]; exact s2, by rw [cpS_1, e _ (by omega) (by omega)]; exact s3, fun i hi => ?_, s5, s6⟩
  rw [cpS_2 (by omega), cpS_3 (by omega), e _ (by omega) (by omega), e _ (by omega) (by omega)]
  exact s4 i hi
theorem cp_o {b c k : Nat} (h : k < b ∨ b + 12 < k) : cpS b c (cpM b c I) k = I k := by rw [cpS_o (by omega), cpM_o (by omega)]
theorem DC.sh {b c : Nat} (h : DC b c D D') (k : Nat) : shF D' k = shF D k := by
  unfold shF
  rw [h.2.2.1]
theorem DC.lw {b c q n0 : Nat} {tk vl : Nat → Nat} {cc : List Nat} {cls : List Cl} (h : DC b c D D') (hb : b + 9 < 103) (hr : ∀ k, 103 ≤ k → I' k = I k) (hl : LwC D I q tk vl n0 cc cls) : LwC D' I' q tk vl n0 cc cls := by
  obtain ⟨⟨l1, l2, l3, l4, l5, l6, l7, l8, l9, l10⟩, g1, g2, g3, g4⟩ := hl
  have ep : ∀ j, pF D' q j = pF D q j := fun j => by rw [h.2.2.2, if_neg (by omega)]
  refine ⟨⟨l1, by rw [h.1]; exact l2, by rw [h.sh]; exact l3, by rw [ep]; exact l4, by rw [ep]; exact l5, by rw [ep]; exact l6, by rw [h.sh]; exact l7, by rw [h.sh]; exact l8, by rw [h.sh]; exact l9, l10⟩, g1, by rw [hr _ (by omega)]; exact g2, by rw [hr _ (by omega)]; exact g3, g4⟩
theorem DC.la {b c b' : Nat} (h : DC b c D D') (hb : b + 9 < 103) (hne : b' ≠ b) (hr : ∀ k, 103 ≤ k → I' k = I k) (hL : LaI ow D I b' a) : LaI ow D' I' b' a := by
  have ep : ∀ j, pF D' (b' + 9) j = pF D (b' + 9) j := fun j => by rw [h.2.2.2, if_neg (by omega)]
  refine ⟨fun t ht => ?_, fun t ht q hq => ?_⟩
  · obtain ⟨q, cc, cls, g1, g2, g3, g4⟩ := hL.1 t ht
    exact ⟨q, cc, cls, by rw [ep]; exact g1, g2, g3, h.lw hb hr g4⟩
  · rw [ep] at hq
    obtain ⟨p1, p2, p3⟩ := hL.2 t ht q hq
    exact ⟨by rw [h.sh]; exact p1, p2, by rw [h.1]; exact p3⟩
theorem DC.lb {b c : Nat} (h : DC b c D D') (hb : b + 9 < 103) (hA : AW a) (hr : ∀ k, 103 ≤ k → I' k = I k) (hL : LaI ow D I c a) : LaI ow D' I' b a := by
  have h6 := hA.2.2.2.2.2.1
  have ep : ∀ j, j < 6 → pF D' (b + 9) j = pF D (c + 9) j := fun j hj => by rw [h.2.2.2, if_pos ⟨rfl, hj⟩]
  refine ⟨fun t ht => ?_, fun t ht q hq => ?_⟩
  · obtain ⟨q, cc, cls, g1, g2, g3, g4⟩ := hL.1 t ht
    exact ⟨q, cc, cls, by rw [ep t (by omega)]; exact g1, g2, g3, h.lw hb hr g4⟩
  · rw [ep t ht] at hq
    obtain ⟨p1, p2, p3⟩ := hL.2 t ht q hq
    exact ⟨by rw [h.sh]; exact p1, p2, by rw [h.1]; exact p3⟩
theorem DC.da {b c : Nat} (h : DC b c D D') (hb : b = 1 ∨ b = 53 ∨ b = 66) (hD : DA D ow ky ln) : DA D' ow ky ln := by
  intro i h1 h2
  obtain ⟨g1, g2, g3, g4, g5, g6⟩ := hD i h1 h2
  have : ob i = 29 ∨ ob i = 34 ∨ ob i = 42 := by
    unfold ob
    split
    · exact Or.inl rfl
    · split
      · exact Or.inr (Or.inl rfl)
      · exact Or.inr (Or.inr rfl)
  exact ⟨by rw [h.2.2.2, if_neg (by omega)]; exact g1, by rw [h.sh]; exact g2, g3, g4, by rw [h.1]; exact g5, g6⟩
theorem DC.rm {b c z : Nat} (h : DC b c D D') (hR : Rm D ln z) : Rm D' ln z := by
  unfold Rm
  rw [h.1, h.2.1]
  exact hR
/-- a step that keeps the moves, the objects changed -/
theorem CIx.gen2 {nn' : Nat} (h : CIx ow ky ln D I A nn) (hnn : nn ≤ nn') (hOw : OwS ow') (hDA : DA D' ow' ky ln) (hRm : Rm D' ln (zB + 600 * nn')) (hr : ∀ k, 16 ≤ k → ((k = 23 ∨ (25 ≤ k ∧ k ≤ 49)) ∨ (82 ≤ k ∧ k < 103 + D.1)) → I' k = I k) (hs : SMv (sa A) (sa A')) (hM : MzI I' 1 (sa A')) (hA' : AW (sa A')) (hL : LaI ow' D' I' 1 (sa A')) (hSt : StI I' 1 (sa A')) (hC : CS ow' D' I' A') : CIx ow' ky ln D' I' A' nn' ∧ CFr I I' := by
  obtain ⟨h1, h2, h3, h4, h5, h6, h7, h8, h9, ver, h10, h11⟩ := h
  have hA := h4.2.1
  have hk : ∀ i, 1 ≤ i → i ≤ 16 → I' (ky i) = I (ky i) ∧ ln i = ln i := fun i hi1 hi2 => ⟨by
    obtain ⟨_, _, _, q4, q5, _⟩ := h2 i hi1 hi2
    unfold dy at q4
    exact hr _ (by omega) (by omega), rfl⟩
  have hRS : ∀ m S e, RS I (sa A') m S e → RS I' (sa A') m S e := by
    intro m S e hR
    refine ⟨hR.1, fun e he hs => ⟨?_, (hR.2 e he hs).2⟩⟩
    have := (hR.2 e he hs).1
    unfold Rdy TbI at this ⊢
    rw [hr 25 (by omega) (by omega), hr 28 (by omega) (by omega)]
    exact this
  have rr : ∀ k, (k = 23 ∨ (25 ≤ k ∧ k ≤ 29) ∨ (34 ≤ k ∧ k ≤ 35) ∨ (42 ≤ k ∧ k ≤ 43)) → I' k = I k := fun k hk => hr k (by omega) (by omega)
  refine ⟨⟨hOw, hDA, hRm, ⟨hM, hA', hL, ?_⟩, hSt, hC, (hs.srC hA h7).fr (rr _ (by omega)) (rr _ (by omega)) (fun i a b => hk i (by omega) (by omega)), (hs.pr hA h8).fr (rr _ (by omega)) (rr _ (by omega)) (rr _ (by omega)) (fun i a b => hk i (by omega) (by omega)) hRS, (hs.si hA h9).fr (rr _ (by omega)) (rr _ (by omega)) (rr _ (by omega)) (fun i a b => hk i (by omega) (by omega)) hRS, ver, ?_, by omega⟩, fun k k1 k2 => hr k (by omega) (by omega)⟩
  · have := hs.mv h4.2.2.2
    unfold MvC TbI at this ⊢
    rw [rr 25 (by omega), rr 26 (by omega), rr 27 (by omega), rr 28 (by omega)]
    exact this
  · unfold VrC
    rw [rr 23 (by omega), rr 29 (by omega), rr 34 (by omega), rr 42 (by omega)]
    exact h10
/-- all that was found out is forgotten, the objects changed -/
theorem CIx.fgD (h : CIx ow ky ln D I A nn) (hn : nn < 99999) (hDA : DA D' ow ky ln) (hRm : Rm D' ln (zB + 600 * nn)) (hla : ∀ b a, b = 53 ∨ b = 66 → LaI ow D I b a → LaI ow D' I' b a) (hr : ∀ k, 14 ≤ k → k ≠ 23 → ¬ (26 ≤ k ∧ k ≤ 28) → I' k = I k) (hv : I' 23 0 = I 23 0 + 1) (h26 : ∀ j, j < 16 → I' 26 j = nI 0) (h27 : ∀ j, j < 8 → I' 27 j = nI 0) (h28 : ∀ j, j < 8 → I' 28 j = nI 0) (h0 : ∀ j, I' 0 j = I 0 j) (hL : LaI ow D' I' 1 a') (hA' : AW a') (hM : MzI I' 1 a') (hSt : StI I' 1 a') : CIx ow ky ln D' (up2 I' 0 12 0) (aGr A a') (nn + 1) ∧ CFr I (up2 I' 0 12 0) := by
  obtain ⟨h1, h2, h3, h4, h5, h6, h7, h8, h9, ver, ⟨v1, ⟨s1, v2, v3⟩, ⟨s2, v4, v5⟩, ⟨s3, v6, v7⟩⟩, h11⟩ := h
  have hz : ∀ k, k ≠ 0 → up2 I' 0 12 0 k = I' k := fun k q => up2_ro _ _ _ q
  have hr' : ∀ k, 14 ≤ k → k ≠ 23 → ¬ (26 ≤ k ∧ k ≤ 28) → up2 I' 0 12 0 k = I k := fun k q1 q2 q3 => by rw [hz k (by omega)]; exact hr k q1 q2 q3
  have hk : ∀ i, 1 ≤ i → i ≤ 16 → up2 I' 0 12 0 (ky i) = I (ky i) ∧ ln i = ln i := fun i hi1 hi2 => ⟨by have := h2.hi hi1 hi2; exact hr' _ (by omega) (by omega) (by omega), rfl⟩
  have e23 : up2 I' 0 12 0 23 0 = nI (ver + 1) := by rw [hz 23 (by decide), hv, v1]; exact nI_1 _
  have e29 := hr' 29 (by omega) (by omega) (by omega)
  have e34 := hr' 34 (by omega) (by omega) (by omega)
  have e42 := hr' 42 (by omega) (by omega) (by omega)
  have e0 : I' 0 = I 0 := funext h0
  refine ⟨⟨h1, hDA, hRm.up (by omega), ⟨hM.k (fun k k1 k2 => hz k (by omega)), hA', hL.i2 (fun k hk' => hz k (by omega)), ?_, ?_⟩, hSt.fr (hz _ (by decide)) (hz _ (by decide)) (hz _ (by decide)), ?_, ?_, ?_, ?_, ver + 1, ?_, by omega⟩, fun k k1 k2 => hr' k (by omega) (by omega) (by omega)⟩
  · intro e he
    refine ⟨0, 0, by decide, by decide, by rw [hz 27 (by decide)]; exact h27 e he, by rw [hz 28 (by decide)]; exact h28 e he, fun w hw => ?_, fun w => ?_⟩
    · rw [Nat.zero_testBit] at hw; cases hw
    · rw [Nat.zero_testBit, Bool.false_and]
  · intro k e hk' he
    refine ⟨0, by decide, by rw [hz 26 (by decide)]; exact h26 _ (by omega), fun w hw => ?_⟩
    rw [Nat.zero_testBit] at hw; cases hw
  · have hc1 : CS ow D' I' A := h6.fr (fun k hk => by
      by_cases c : k = 0
      · rw [c]; exact e0
      · exact hr k (by omega) (by omega) (by omega)) hla
    exact hc1.gr (fun k q1 q2 => hz k (by omega)) (up2_s _ _ _ _) (fun j hj => up2_j _ _ _ hj)
  · obtain ⟨⟨s, hs⟩, _⟩ := h7
    refine ⟨⟨s, hs.fr e29 (fun i q1 q2 => hk i (by omega) (by omega))⟩, fun he => ?_⟩
    rw [e29, e23, v2] at he
    exact absurd he (nO_ver v3 (by omega))
  · obtain ⟨⟨n, q, hE⟩, _⟩ := h8
    refine ⟨⟨n, q, hE.fr e34 (fun i q1 q2 => hk i (by omega) (by omega))⟩, fun he => ?_⟩
    rw [e34, e23, v4] at he
    exact absurd he (nO_ver v5 (by omega))
  · obtain ⟨⟨n, q, hE⟩, _⟩ := h9
    refine ⟨⟨n, q, hE.fr e42 (fun i q1 q2 => hk i (by omega) (by omega))⟩, fun he => ?_⟩
    rw [e42, e23, v6] at he
    exact absurd he (nO_ver v7 (by omega))
  · refine ⟨e23, ⟨s1, by rw [e29]; exact v2, fun x hx => by have := v3 x hx; omega⟩, ⟨s2, by rw [e34]; exact v4, fun x hx => by have := v5 x hx; omega⟩, ⟨s3, by rw [e42]; exact v6, fun x hx => by have := v7 x hx; omega⟩⟩
end Pg7
