section Pf8
variable {xs : Nat → Int32} {Ln d : Nat} {D D' D'' : Dyn} {I I' I'' J : Nat → Nat → Int32} {L : Nat → Nat → Int64} {w : Om} {Q : Res → Prop} {ow ow' ow'' ky ky' ky'' ln ln' ln'' a a' : Nat → Nat} {o be sr : Nat} {A A' : As} {nn : Nat}
theorem MzI_fo {c : Nat} (hM : MzI I 1 a) (hA : AW a) : MzI (up2 I 1 4 (nM c)) 1 (up1 a 4326 c) := by
  have hP := hA.1
  have hW := hA.2.1
  have hw12 := hA.2.2.1
  have hc60 := hA.2.2.2.1
  obtain ⟨m0, m1', m2', m3', m4, m5, m6, m7, m8, m9, m10, m11, m12⟩ := hM.m
  have hs : ∀ j, j ≠ 4326 → up1 a 4326 c j = a j := fun j h1 => up1_n _ _ h1
  have hk : ∀ k, k ≠ 1 → up2 I 1 4 (nM c) k = I k := fun k h1 => up2_ro _ _ _ h1
  have h1 : ∀ j, j ≠ 4 → up2 I 1 4 (nM c) 1 j = I 1 j := fun j h => up2_j _ _ _ h
  show Mz1 (up2 I 1 4 (nM c)) (up1 a 4326 c)
  unfold Mz1
  rw [hs 4320 (by decide), hs 4321 (by decide), hs 4322 (by decide), hs 4323 (by decide), hs 4325 (by decide), hs 4327 (by decide), up1_s, hk 2 (by decide), hk 3 (by decide), hk 4 (by decide), hk 5 (by decide), hk 6 (by decide), hk 7 (by decide), hk 8 (by decide), hk 9 (by decide), h1 0 (by decide), h1 1 (by decide), h1 2 (by decide), h1 3 (by decide), h1 5 (by decide), h1 6 (by decide), up2_s]
  refine ⟨m0, m1', m2', m3', rfl, m5, m6, fun p hp => ?_, fun w hw => ?_, fun w p hw hp => ?_, fun k w hk hw => ?_, fun i hi => ?_, fun i hi => ?_⟩
  · rw [hs p (by omega)]; exact m7 p hp
  · rw [hs (12 + 2 * w) (by omega), hs (12 + 2 * w + 1) (by omega)]; exact m8 w hw
  · rw [hs (28 + 12 * w + p) (by omega)]; exact m9 w p hw hp
  · rw [hs (124 + (8 * k + w)) (by omega)]; exact m10 k w hk hw
  · rw [hs (164 + i) (by omega)]; exact m11 i hi
  · rw [hs (140 + 2 * i) (by omega), hs (140 + 2 * i + 1) (by omega)]; exact m12 i hi
theorem MzI_ld {w0 p0 c : Nat} (hM : MzI I 1 a) (hA : AW a) (hw0 : w0 < a 4321) (hp0 : p0 < 12) : MzI (up2 I 5 (w0 * 12 + p0) (nI c)) 1 (up1 a (28 + 12 * w0 + p0) c) := by
  have hP := hA.1
  have hW := hA.2.1
  have hw12 := hA.2.2.1
  have hc60 := hA.2.2.2.1
  obtain ⟨m0, m1', m2', m3', m4, m5, m6, m7, m8, m9, m10, m11, m12⟩ := hM.m
  have hs : ∀ j, j ≠ 28 + 12 * w0 + p0 → up1 a (28 + 12 * w0 + p0) c j = a j := fun j h1 => up1_n _ _ h1
  have hk : ∀ k, k ≠ 5 → up2 I 5 (w0 * 12 + p0) (nI c) k = I k := fun k h1 => up2_ro _ _ _ h1
  show Mz1 (up2 I 5 (w0 * 12 + p0) (nI c)) (up1 a (28 + 12 * w0 + p0) c)
  unfold Mz1
  rw [hs 4320 (by omega), hs 4321 (by omega), hs 4322 (by omega), hs 4323 (by omega), hs 4325 (by omega), hs 4326 (by omega), hs 4327 (by omega), hk 1 (by decide), hk 2 (by decide), hk 3 (by decide), hk 4 (by decide), hk 6 (by decide), hk 7 (by decide), hk 8 (by decide), hk 9 (by decide)]
  refine ⟨m0, m1', m2', m3', m4, m5, m6, fun p hp => ?_, fun w hw => ?_, fun w p hw hp => ?_, fun k w hk hw => ?_, fun i hi => ?_, fun i hi => ?_⟩
  · rw [hs p (by omega)]; exact m7 p hp
  · rw [hs (12 + 2 * w) (by omega), hs (12 + 2 * w + 1) (by omega)]; exact m8 w hw
  · by_cases e : w = w0 ∧ p = p0
    · obtain ⟨rfl, rfl⟩ := e
      rw [up2_s, up1_s]
    · rw [up2_j _ _ _ (by omega), hs (28 + 12 * w + p) (by omega)]; exact m9 w p hw hp
  · rw [hs (124 + (8 * k + w)) (by omega)]; exact m10 k w hk hw
  · rw [hs (164 + i) (by omega)]; exact m11 i hi
  · rw [hs (140 + 2 * i) (by omega), hs (140 + 2 * i + 1) (by omega)]; exact m12 i hi
end Pf8
