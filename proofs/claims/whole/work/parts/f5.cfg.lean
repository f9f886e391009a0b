section Pf5
variable {xs : Nat → Int32} {Ln d : Nat} {D D' D'' : Dyn} {I I' I'' J : Nat → Nat → Int32} {L : Nat → Nat → Int64} {w : Om} {Q : Res → Prop} {ow ow' ow'' ky ky' ky'' ln ln' ln'' a a' : Nat → Nat} {o be sr : Nat} {A A' : As} {nn : Nat}
theorem nO_ver {s : Option Nat} {ver : Nat} (hs : ∀ x, s = some x → x ≤ ver) (hv : ver < 100000) : nO s ≠ nI (ver + 1) := by
  intro h
  cases s with
  | none =>
    have h' : m1 = nI (ver + 1) := h
    have := n_m1 (a := ver + 1) (by omega)
    rw [← h'] at this
    exact (this ▸ (rfl : m1 = m1) : False)
  | some x =>
    rw [nO_s, n_eq (by have := hs x rfl; omega) (by omega)] at h
    have := hs x rfl
    omega
/-- all that was found out is forgotten, the step granted -/
theorem CIx.fg (h : CIx ow ky ln D I A nn) (hn : nn < 99999) (hr : ∀ k, 14 ≤ k → k ≠ 23 → ¬ (26 ≤ k ∧ k ≤ 28) → I' k = I k) (hv : I' 23 0 = I 23 0 + 1) (h26 : ∀ j, j < 16 → I' 26 j = nI 0) (h27 : ∀ j, j < 8 → I' 27 j = nI 0) (h28 : ∀ j, j < 8 → I' 28 j = nI 0) (h0 : ∀ j, I' 0 j = I 0 j) (hL : LaI ow D I' 1 a') (hA' : AW a') (hM : MzI I' 1 a') (hSt : StI I' 1 a') : CIx ow ky ln D (up2 I' 0 12 0) (aGr A a') (nn + 1) ∧ CFr I (up2 I' 0 12 0) := by
  obtain ⟨h1, h2, h3, h4, h5, h6, h7, h8, h9, ver, ⟨v1, ⟨s1, v2, v3⟩, ⟨s2, v4, v5⟩, ⟨s3, v6, v7⟩⟩, h11⟩ := h
  have hz : ∀ k, k ≠ 0 → up2 I' 0 12 0 k = I' k := fun k q => up2_ro _ _ _ q
  have hr' : ∀ k, 14 ≤ k → k ≠ 23 → ¬ (26 ≤ k ∧ k ≤ 28) → up2 I' 0 12 0 k = I k := fun k q1 q2 q3 => by rw [hz k (by omega)]; exact hr k q1 q2 q3
  have hk : ∀ i, 1 ≤ i → i ≤ 16 → up2 I' 0 12 0 (ky i) = I (ky i) ∧ ln i = ln i := fun i hi1 hi2 => ⟨by have := h2.hi hi1 hi2; exact hr' _ (by omega) (by omega) (by omega), rfl⟩
  have e23 : up2 I' 0 12 0 23 0 = nI (ver + 1) := by rw [hz 23 (by decide), hv, v1]; exact nI_1 _
  have e29 := hr' 29 (by omega) (by omega) (by omega)
  have e34 := hr' 34 (by omega) (by omega) (by omega)
  have e42 := hr' 42 (by omega) (by omega) (by omega)
  refine ⟨⟨h1, h2, h3.up (by omega), ⟨hM.k (fun k k1 k2 => hz k (by omega)), hA', hL.i2 (fun k hk' => hz k (by omega)), ?_, ?_⟩, hSt.fr (hz _ (by decide)) (hz _ (by decide)) (hz _ (by decide)), ?_, ?_, ?_, ?_, ver + 1, ?_, by omega⟩, fun k k1 k2 => hr' k (by omega) (by omega) (by omega)⟩
  · intro e he
    refine ⟨0, 0, by decide, by decide, by rw [hz 27 (by decide)]; exact h27 e he, by rw [hz 28 (by decide)]; exact h28 e he, fun w hw => ?_, fun w => ?_⟩
    · rw [Nat.zero_testBit] at hw; cases hw
    · rw [Nat.zero_testBit, Bool.false_and]
  · intro k e hk' he
    refine ⟨0, by decide, by rw [hz 26 (by decide)]; exact h26 _ (by omega), fun w hw => ?_⟩
    rw [Nat.zero_testBit] at hw; cases hw
  · have hi := h6.img (b := a') (I' := up2 I' 0 12 0) (fun k q1 q2 => hr' k (by omega) (by omega) (by omega))
    obtain ⟨c1', c2, c3, c4, c5, c6, c7⟩ := h6
    refine ⟨hi, up2_s _ _ _ _, by rw [hr' 80 (by omega) (by omega) (by omega)]; exact c3, by rw [up2_j _ _ _ (by decide), h0]; exact c4, by rw [up2_j _ _ _ (by decide), h0]; exact c5, by rw [hr' 14 (by omega) (by omega) (by omega), hr' 15 (by omega) (by omega) (by omega)]; exact c6, ?_⟩
    show HnC _ (shn A)
    unfold HnC
    rw [hr' 50 (by omega) (by omega) (by omega), hr' 51 (by omega) (by omega) (by omega)]
    exact c7
  · obtain ⟨⟨s, hs⟩, _⟩ := h7
    refine ⟨⟨s, hs.fr e29 (fun i q1 q2 => hk i (by omega) (by omega))⟩, fun he => ?_⟩
    rw [e29, e23, v2] at he
    exact absurd he (nO_ver v3 (by omega))
  · obtain ⟨⟨n, q, hE⟩, _⟩ := h8
    refine ⟨⟨n, q, hE.fr e34 (fun i q1 q2 => hk i (by omega) (by omega))⟩, fun he => ?_⟩
    rw [e34, e23, v4] at he
    exact absurd he (nO_ver v5 (by omega))
  · obtain ⟨⟨n, q, hE⟩, _⟩ := h9
    refine ⟨⟨n, q, hE.fr e42 (fun i q1 q2 => hk i (by omega) (by omega))⟩, fun he => ?_⟩
    rw [e42, e23, v6] at he
    exact absurd he (nO_ver v7 (by omega))
  · refine ⟨e23, ⟨s1, by rw [e29]; exact v2, fun x hx => by have := v3 x hx; omega⟩, ⟨s2, by rw [e34]; exact v4, fun x hx => by have := v5 x hx; omega⟩, ⟨s3, by rw [e42]; exact v6, fun x hx => by have := v7 x hx; omega⟩⟩
end Pf5
