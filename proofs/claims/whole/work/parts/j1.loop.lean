section Pj1
variable {xs : Nat → Int32} {Ln d : Nat} {D D' D'' : Dyn} {I I' I'' J : Nat → Nat → Int32} {L : Nat → Nat → Int64} {w : Om} {Q : Res → Prop} {ow ow' ow'' ky ky' ky'' ln ln' ln'' a a' : Nat → Nat} {o be sr : Nat} {A A' : As} {nn : Nat}
/-! the law's loop -/
theorem RI.c (h : RI I A nn) (hf : CFr I I') : RI I' A nn := by
  obtain ⟨h1, h2, ⟨v, hc, hv⟩, h4, h5, h6, h7, h8, h9, h10, h11⟩ := h
  have hr : ∀ i, 82 ≤ i → i ≤ 102 → I' i = I i := hf
  refine ⟨?_, h2, ⟨v, ?_, hv⟩, ?_, ?_, ?_, ?_, ?_, ?_, ?_, ?_⟩
  · unfold RK; rw [hr 84 (by decide) (by decide)]; exact h1
  · unfold RIc RLk LKb LKg RSi
    rw [hr 94 (by decide) (by decide), hr 95 (by decide) (by decide), hr 101 (by decide) (by decide), hr 82 (by decide) (by decide)]
    exact hc
  · rw [hr 85 (by decide) (by decide), hr 86 (by decide) (by decide)]; exact h4
  · rw [hr 82 (by decide) (by decide)]; exact h5
  · rw [hr 83 (by decide) (by decide)]; exact h6
  · rw [hr 82 (by decide) (by decide)]; exact h7
  · rw [hr 82 (by decide) (by decide)]; exact h8
  · rw [hr 82 (by decide) (by decide), hr 88 (by decide) (by decide)]; exact h9
  · unfold HnR
    rw [hr 82 (by decide) (by decide), hr 102 (by decide) (by decide)]
    exact h10
  · rw [hr 87 (by decide) (by decide)]; exact h11
theorem both {d1 d2 n1 n2 t : Nat} {as1 as2 : List Value} {x : Int32} (hR : RI I A t) (hc : CCall xs Ln d1 n1 as1 D I L A' t x) (hr : ∀ D I L, RI I A t → RCall xs Ln d2 n2 as2 D I L A' t x) (h1 : d1 ≤ 1000) (h2 : d2 ≤ 1000) : ∃ D' I1 L1 I2 L2, callD xs Ln 1000 n1 as1 (mkW D I L) = some (mkW D' I1 L1, some (.int x)) ∧ callD xs Ln 1000 n2 as2 (mkW D' I1 L1) = some (mkW D' I2 L2, some (.int x)) ∧ CI D' I2 A' (t + 1) ∧ RI I2 A' (t + 1) := by
  obtain ⟨_, hc1, D', I1, L1, rfl, hCI, hF⟩ := hc
  obtain ⟨_, hr1, I2, L2, rfl, hRI, hFr⟩ := hr D' I1 L1 (hR.c hF)
  exact ⟨D', I1, L1, I2, L2, callD_up hc1 h1, callD_up hr1 h2, hCI.r hFr, hRI⟩
theorem qa {d2 n2 t : Nat} {as2 : List Value} {x : Int32} (f : ∀ D I L v, RK I (sa A) → AW (sa A) → RIc I (sa A) v → Ans xs Ln d2 n2 as2 D I L (sa A) v x) : ∀ D I L, RI I A t → RCall xs Ln d2 n2 as2 D I L A t x := by
  intro D I L hR
  obtain ⟨v, hv, hvn⟩ := hR.2.2.1
  exact Ans.r hR hvn (f D I L v hR.1 hR.2.1 hv)
theorem o10 (D : Dyn) (I : Nat → Nat → Int32) (L : Nat → Nat → Int64) : isObj (mkW D I L) 0 10 = true := id rfl
theorem o11 (D : Dyn) (I : Nat → Nat → Int32) (L : Nat → Nat → Int64) : isObj (mkW D I L) 82 11 = true := id rfl
/-- room -/
theorem CI.room (h : CI D I A nn) (hn : nn ≤ 64) : 103 + D.1 ≤ 600000 ∧ D.2.1 ≤ 7302250 := by
  obtain ⟨ow, ky, ln, h1, h2, ⟨r1, r2, r3⟩, h4, h5, h6, ⟨⟨s, hS⟩, _⟩, ⟨⟨n, q, hE⟩, _⟩, ⟨⟨n', q', hE'⟩, _⟩, _⟩ := h
  have p15 : ∀ j x, j ≤ 15 → x = 2 ^ j → x ≤ 32768 := fun j x hj hx => by
    rw [hx]
    exact Nat.pow_le_pow_right (n := 2) (by decide) hj
  obtain ⟨-, -, s3, s4, ⟨j2, k2, l2⟩, ⟨j1, k1, l1⟩, -⟩ := hS
  obtain ⟨-, -, e3, e4, e5, e6, ⟨i1, m1', g1⟩, ⟨i2, m2', g2⟩, -⟩ := hE
  obtain ⟨-, -, f3, f4, f5, f6, ⟨u1, v1, w1⟩, ⟨u2, v2, w2⟩, -⟩ := hE'
  have b1 := p15 _ _ k1 l1
  have b2 := p15 _ _ k2 l2
  have b3 := p15 _ _ m1' g1
  have b4 := p15 _ _ m2' g2
  have b5 := p15 _ _ v1 w1
  have b6 := p15 _ _ v2 w2
  have hsm : smN ln 17 = ln 0 + ln 1 + ln 2 + ln 3 + ln 4 + ln 5 + ln 6 + ln 7 + ln 8 + ln 9 + ln 10 + ln 11 + ln 12 + ln 13 + ln 14 + ln 15 + ln 16 := by
    simp only [smN, Nat.zero_add]
  rw [hsm] at r1
  unfold zB at r1
  simp only [Nat.reduceAdd] at e3 e4 e5 e6 b3 b4 f3 f4 f5 f6 b5 b6
  omega
end Pj1
