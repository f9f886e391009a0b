section Pf6
variable {xs : Nat → Int32} {Ln d : Nat} {D D' D'' : Dyn} {I I' I'' J : Nat → Nat → Int32} {L : Nat → Nat → Int64} {w : Om} {Q : Res → Prop} {ow ow' ow'' ky ky' ky'' ln ln' ln'' a a' : Nat → Nat} {o be sr : Nat} {A A' : As} {nn : Nat}
theorem fg_f (I : Nat → Nat → Int32) : (∀ k, k ≠ 23 → ¬ (26 ≤ k ∧ k ≤ 28) → fgC I k = I k) ∧ fgC I 23 0 = I 23 0 + 1 ∧ (∀ j, j < 16 → fgC I 26 j = nI 0) ∧ (∀ j, j < 8 → fgC I 27 j = nI 0) ∧ (∀ j, j < 8 → fgC I 28 j = nI 0) := by
  unfold fgC filR
  refine ⟨fun k h1 h2 => ?_, ?_, fun j hj => ?_, fun j hj => ?_, fun j hj => ?_⟩
  · rw [upr_o _ _ (by omega), upr_o _ _ (by omega), upr_o _ _ (by omega), up2_ro _ _ _ h1]
  · rw [upr_o _ _ (by decide), upr_o _ _ (by decide), upr_o _ _ (by decide), up2_s]
  · rw [upr_o _ _ (by decide), upr_o _ _ (by decide), upr_s, if_pos hj]; rfl
  · rw [upr_o _ _ (by decide), upr_s, if_pos hj]; rfl
  · rw [upr_s, if_pos hj]; rfl
theorem MzI_pt {p v : Nat} (hM : MzI I 1 a) (hA : AW a) (hp : p < a 4320) : MzI (up2 I 2 p (nI v)) 1 (up1 a p v) := by
  have hP := hA.1
  have hW := hA.2.1
  have hw12 := hA.2.2.1
  have hc60 := hA.2.2.2.1
  obtain ⟨m0, m1', m2', m3', m4, m5, m6, m7, m8, m9, m10, m11, m12⟩ := hM.m
  have hs : ∀ j, j ≠ p → up1 a p v j = a j := fun j h1 => up1_n _ _ h1
  have hk : ∀ k, k ≠ 2 → up2 I 2 p (nI v) k = I k := fun k h1 => up2_ro _ _ _ h1
  show Mz1 (up2 I 2 p (nI v)) (up1 a p v)
  unfold Mz1
  rw [hs 4320 (by omega), hs 4321 (by omega), hs 4322 (by omega), hs 4323 (by omega), hs 4325 (by omega), hs 4326 (by omega), hs 4327 (by omega), hk 1 (by decide), hk 3 (by decide), hk 4 (by decide), hk 5 (by decide), hk 6 (by decide), hk 7 (by decide), hk 8 (by decide), hk 9 (by decide)]
  refine ⟨m0, m1', m2', m3', m4, m5, m6, fun q hq => ?_, fun w hw => ?_, fun w q hw hq => ?_, fun k w hk hw => ?_, fun i hi => ?_, fun i hi => ?_⟩
  · by_cases e : q = p
    · subst e; rw [up2_s, up1_s]
    · rw [up2_j _ _ _ e, hs q e]; exact m7 q hq
  · rw [hs (12 + 2 * w) (by omega), hs (12 + 2 * w + 1) (by omega)]; exact m8 w hw
  · rw [hs (28 + 12 * w + q) (by omega)]; exact m9 w q hw hq
  · rw [hs (124 + (8 * k + w)) (by omega)]; exact m10 k w hk hw
  · rw [hs (164 + i) (by omega)]; exact m11 i hi
  · rw [hs (140 + 2 * i) (by omega), hs (140 + 2 * i + 1) (by omega)]; exact m12 i hi
end Pf6
