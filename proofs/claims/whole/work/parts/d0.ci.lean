section Pd0
variable {xs : Nat → Int32} {Ln d : Nat} {D D' D'' : Dyn} {I I' I'' : Nat → Nat → Int32} {L : Nat → Nat → Int64} {w : Om} {Q : Res → Prop} {ow ow' ow'' ky ky' ky'' ln ln' ln'' a a' : Nat → Nat} {o be sr : Nat}
/-! What the class keeps. -/
/-- the same moves -/
def SMv (a a' : Nat → Nat) : Prop := a' 4320 = a 4320 ∧ a' 4321 = a 4321 ∧ (∀ p, p < 12 → a' p = a p) ∧ (∀ k w e p, k < 2 → w < a 4321 → p < 12 → goA a' k w e p = goA a k w e p) ∧ (∀ w e, brA a' w e = brA a w e) ∧ (∀ w e, w < 8 → dbA a' w e = dbA a w e)
theorem SMv.rf (a : Nat → Nat) : SMv a a := ⟨rfl, rfl, fun _ _ => rfl, fun _ _ _ _ _ _ _ => rfl, fun _ _ => rfl, fun _ _ _ => rfl⟩
theorem SMv.of (hA : AW a) (h : MvE a a') : SMv a a' := ⟨h 4320 (by unfold mvI; omega), h 4321 (by unfold mvI; omega), fun p hp => h p (by unfold mvI; omega), fun k w e p hk hw hp => goA_c hA h hk hw hp e, fun w e => by rw [brA_c h], fun w e hw => dbA_c h hw e⟩
theorem SMv.beh (hA : AW a) (h : SMv a a') {m : Nat} (hm : 1 ≤ m) (hm3 : m ≤ 3) : behA a' m = behA a m := by
  have hw8 := hA.2.1
  obtain ⟨h1, h2, h3, h4, h5, h6⟩ := h
  funext st w
  unfold behA
  rw [h2, h5]
  by_cases hw : w < a 4321 ∧ brA a w (st % 8) = false
  · rw [if_pos hw, if_pos hw, h6 w _ (by omega)]
    have : sbN (goA a') m (st / 8) w (st % 8) = sbN (goA a) m (st / 8) w (st % 8) := by
      unfold sbN
      refine im_c 12 (fun i hi => ?_)
      unfold tgt
      by_cases h3 : m = 3
      · rw [if_pos h3, if_pos h3, h4 _ _ _ _ (by omega) hw.1 (by omega)]
      · rw [if_neg h3, if_neg h3, h4 _ _ _ _ (by omega) hw.1 hi]
    rw [this]
  · rw [if_neg hw, if_neg hw]
theorem SMv.bw (hA : AW a) (h : SMv a a') {m : Nat} (hm : 1 ≤ m) (hm3 : m ≤ 3) (wo : Option Nat) : behW a' m wo = behW a m wo := by
  funext st w
  unfold behW
  rw [h.beh hA hm hm3]
theorem SMv.al (h : SMv a a') (e : Nat) : alN a' e = alN a e := by
  unfold alN
  rw [h.2.1]
  have : (fun w => !brA a' w e) = (fun w => !brA a w e) := by funext w; rw [h.2.2.2.2.1]
  rw [this]
theorem SMv.tb (h : SMv a a') {k w e : Nat} (hk : k < 2) (hw : w < a 4321) (hT : TbI I a k w e) : TbI I a' k w e := by
  refine ⟨fun s hs hs2 => ?_, fun s hs hs2 => ?_⟩
  · rw [h.1] at hs2
    rw [hT.1 s hs hs2, im_c 6 (fun i hi => (h.2.2.2.1 k w e (6 * 0 + i) hk hw (by omega)).symm)]
  · rw [h.1] at hs2
    rw [hT.2 s hs hs2, im_c 6 (fun i hi => (h.2.2.2.1 k w e (6 * 1 + i) hk hw (by omega)).symm)]
theorem SMv.mv (h : SMv a a') (hM : MvC I a) : MvC I a' := by
  obtain ⟨m1', m2'⟩ := hM
  refine ⟨fun e he => ?_, fun k e hk he => ?_⟩
  · obtain ⟨x, y, x1, x2, x3, x4, x5, x6⟩ := m1' e he
    exact ⟨x, y, x1, x2, x3, x4, fun w hw => by rw [h.2.1]; exact x5 w hw, fun w => by rw [h.2.2.2.2.1]; exact x6 w⟩
  · obtain ⟨x, x1, x2, x3⟩ := m2' k e hk he
    exact ⟨x, x1, x2, fun w hw => ⟨by rw [h.2.1]; exact (x3 w hw).1, h.tb hk (x3 w hw).1 (x3 w hw).2⟩⟩
theorem SMv.vs (h : SMv a a') {m st : Nat} : vSt a' m st = vSt a m st := by
  unfold vSt
  rw [h.1]
/-- from doors e on, within S, all is ready -/
def RS (I : Nat → Nat → Int32) (a : Nat → Nat) (m : Nat) (S : Nat → Bool) (e0 : Nat) : Prop := S e0 = true ∧ ∀ e, e < 8 → S e = true → Rdy I a m e ∧ ∀ w, w < a 4321 → brA a w e = false → S (dbA a w e) = true
theorem SMv.rs (hA : AW a) (h : SMv a a') {m e : Nat} {S : Nat → Bool} (hR : RS I a m S e) : RS I a' m S e := by
  have hw8 := hA.2.1
  refine ⟨hR.1, fun e' he' hs => ?_⟩
  obtain ⟨⟨r1, r2⟩, r3⟩ := hR.2 e' he' hs
  refine ⟨⟨by rw [h.al]; exact r1, fun k hk hm w hw hb => ?_⟩, fun w hw hb => ?_⟩
  · rw [h.2.1] at hw
    rw [h.2.2.2.2.1] at hb
    exact h.tb hk hw (r2 k hk hm w hw hb)
  · rw [h.2.1] at hw
    rw [h.2.2.2.2.1] at hb
    rw [h.2.2.2.2.2 w e' (by omega)]
    exact r3 w hw hb
theorem RS.k {m e : Nat} {S : Nat → Bool} (h : RS I a m S e) (hk : Kp a I I') (h2 : a 4321 ≤ 8) : RS I' a m S e := ⟨h.1, fun e he hs => ⟨(h.2 e he hs).1.k hk he h2, (h.2 e he hs).2⟩⟩
/-- stands that are not empty, with doors of S -/
def VP (a : Nat → Nat) (m : Nat) (S : Nat → Bool) (x : Nat) : Prop := vSt a m x ∧ S (x % 8) = true
def Lvd (a : Nat → Nat) (I : Nat → Nat → Int32) (ky ln : Nat → Nat) (o be sr m k : Nat) (sg : Nat → Nat) (e : Nat) (S : Nat → Bool) (n : Nat) (q lev : Nat → Nat) : Prop := 1 ≤ m ∧ m ≤ 2 ∧ I o 0 = nI m ∧ I o 2 = nI e ∧ e < 8 ∧ SgR I o sr k sg ∧ RS I a m S e ∧ LF (behA a m) sg k I ky ln o be (VP a m S) n q lev
def PrC (I : Nat → Nat → Int32) (ky ln a : Nat → Nat) : Prop := (∃ n q, LE I ky ln 34 5 n q) ∧ (I 34 3 = I 23 0 → ∃ m sg e S n q lev, Lvd a I ky ln 34 5 35 m 1 sg e S n q lev ∧ I 34 1 = m1 ∧ sg 0 = 4095 ∧ ∀ x y, x < y → y < a 4320 → ∃ p, p < n ∧ q p = 8 * (2 ^ x ||| 2 ^ y) + e)
/-- the sights are the colours -/
def SgC (a : Nat → Nat) (k : Nat) (sg : Nat → Nat) : Prop := (∀ j, j < k → ∃ c, c < 4 ∧ sg j = cpl a c (a 4320)) ∧ (∀ c, c < 4 → cpl a c (a 4320) = 0 ∨ ∃ j, j < k ∧ sg j = cpl a c (a 4320))
def SiC (I : Nat → Nat → Int32) (ky ln a : Nat → Nat) : Prop := (∃ n q, LE I ky ln 42 11 n q) ∧ (I 42 3 = I 23 0 → ∃ k sg e S n q lev r, Lvd a I ky ln 42 11 43 1 k sg e S n q lev ∧ I 42 1 = nI r ∧ r < 4096 ∧ SgC a k sg ∧ (2 ≤ pcN r 12 → ∃ p, p < n ∧ q p = 8 * r + e))
theorem SMv.cp (h : SMv a a') (c : Nat) : cpl a' c (a' 4320) = cpl a c (a' 4320) ∨ 12 < a' 4320 := by
  by_cases hP : a' 4320 ≤ 12
  · left
    have : ∀ n, n ≤ 12 → cpl a' c n = cpl a c n := by
      intro n
      induction n with
      | zero => intro _; rfl
      | succ n ih =>
        intro hn
        unfold cpl
        rw [ih (by omega), h.2.2.1 n (by omega)]
    exact this _ hP
  · right; omega
theorem SMv.sgc (hA : AW a) (h : SMv a a') {k : Nat} {sg : Nat → Nat} (hS : SgC a k sg) : SgC a' k sg := by
  have hP := hA.1
  have hc : ∀ c, cpl a' c (a' 4320) = cpl a c (a 4320) := by
    intro c
    rcases h.cp c with h1 | h1
    · rw [h1, h.1]
    · rw [h.1] at h1; omega
  unfold SgC
  simp only [hc]
  exact hS
theorem SMv.lvd (hA : AW a) (h : SMv a a') {m k e n : Nat} {sg q lev : Nat → Nat} {S : Nat → Bool} (hL : Lvd a I ky ln o be sr m k sg e S n q lev) : Lvd a' I ky ln o be sr m k sg e S n q lev := by
  obtain ⟨h1, h2, h3, h4, h5, h6, h7, h8⟩ := hL
  refine ⟨h1, h2, h3, h4, h5, h6, h.rs hA h7, ?_⟩
  have hV : VP a' m S = VP a m S := by
    funext x
    unfold VP
    rw [h.vs]
  rw [h.beh hA h1 (by omega), hV]
  exact h8
theorem SMv.pr (hA : AW a) (h : SMv a a') (hP : PrC I ky ln a) : PrC I ky ln a' := by
  refine ⟨hP.1, fun hv => ?_⟩
  obtain ⟨m, sg, e, S, n, q, lev, h1, h2, h3, h4⟩ := hP.2 hv
  exact ⟨m, sg, e, S, n, q, lev, h.lvd hA h1, h2, h3, by rw [h.1]; exact h4⟩
theorem SMv.si (hA : AW a) (h : SMv a a') (hP : SiC I ky ln a) : SiC I ky ln a' := by
  refine ⟨hP.1, fun hv => ?_⟩
  obtain ⟨k, sg, e, S, n, q, lev, r, h1, h2, h3, h4, h5⟩ := hP.2 hv
  exact ⟨k, sg, e, S, n, q, lev, r, h.lvd hA h1, h2, h3, h.sgc hA h4, h5⟩
theorem SMv.srC (hA : AW a) (h : SMv a a') (hP : SrC I ky ln a) : SrC I ky ln a' := by
  refine ⟨hP.1, fun hv => ?_⟩
  obtain ⟨m, v, wo, st, h1, h2, h3, h4, h5, h6, h7, h8, h9, h10⟩ := hP.2 hv
  refine ⟨m, v, wo, st, h1, h2, h3, h4, by rw [h.vs]; exact h5, h6, h7, h8, h9, ?_⟩
  unfold SR
  rw [h.bw hA h1 h2]
  exact h10
/-- the versions that were looked at -/
def VrC (I : Nat → Nat → Int32) (ver : Nat) : Prop := I 23 0 = nI ver ∧ (∃ s, I 29 8 = nO s ∧ ∀ x, s = some x → x ≤ ver) ∧ (∃ s, I 34 3 = nO s ∧ ∀ x, s = some x → x ≤ ver) ∧ (∃ s, I 42 3 = nO s ∧ ∀ x, s = some x → x ≤ ver)
/-- the store at b -/
def StI (I : Nat → Nat → Int32) (b : Nat) (a : Nat → Nat) : Prop := ∃ (n : Nat) (s : Nat → Nat), n ≤ 200 ∧ I (b + 10) 0 = nI n ∧ I (b + 10) 1 = nI (a 4324) ∧ (∀ i, i < n → I (b + 11) i = nI (s i) ∧ I (b + 12) i = nI (a (224 + s i)) ∧ s i < 4096 ∧ 0 < a (224 + s i)) ∧ (∀ i j, i < j → j < n → s i < s j) ∧ (∀ x, x < 4096 → 0 < a (224 + x) → ∃ i, i < n ∧ s i = x)
def HnC (I : Nat → Nat → Int32) (h : Option (Nat × Nat × (Nat → Nat))) : Prop := match h with
  | none => I 50 0 = nI 0
  | some q => I 50 0 = nI 1 ∧ I 50 2 = nI q.1 ∧ q.1 ≤ 12 ∧ I 50 1 = nI q.2.1 ∧ q.2.1 < 8 ∧ ∀ i, i < q.1 → I 51 i = nI (q.2.2 i)
def zB : Nat := 500000
/-- what is not moves, rows that grow, caches -/
def CS (ow : Nat → Nat) (D : Dyn) (I : Nat → Nat → Int32) (A : As) : Prop := (∀ k, k < 2 → I 79 k = b2i (sim A k).isSome ∧ ∀ b, sim A k = some b → MzI I (53 + 13 * k) b ∧ AW b ∧ LaI ow D I (53 + 13 * k) b ∧ StI I (53 + 13 * k) b) ∧ I 0 12 = sst A ∧ (∀ j, j < 7 → I 80 j = nI (srf A j)) ∧ I 0 14 = nI (ssy A) ∧ I 0 13 = nO (sfl A) ∧ (I 14 0 = nI (stn A) ∧ stn A ≤ 400 ∧ ∀ j, j < 400 → I 15 j = nI (stB A j) ∧ stB A j < 256) ∧ HnC I (shn A)
def CIx (ow ky ln : Nat → Nat) (D : Dyn) (I : Nat → Nat → Int32) (A : As) (nn : Nat) : Prop := OwS ow ∧ DA D ow ky ln ∧ Rm D ln (zB + 600 * nn) ∧ MM ow D I (sa A) ∧ StI I 1 (sa A) ∧ CS ow D I A ∧ SrC I ky ln (sa A) ∧ PrC I ky ln (sa A) ∧ SiC I ky ln (sa A) ∧ ∃ ver, VrC I ver ∧ ver ≤ nn
def CI (D : Dyn) (I : Nat → Nat → Int32) (A : As) (nn : Nat) : Prop := ∃ ow ky ln, CIx ow ky ln D I A nn
/-- the class leaves the reference's rows -/
def CFr (I I' : Nat → Nat → Int32) : Prop := ∀ k, 82 ≤ k → k ≤ 102 → I' k = I k
theorem CFr.rf (I : Nat → Nat → Int32) : CFr I I := fun _ _ _ => rfl
theorem CFr.tr (h : CFr I I') (h' : CFr I' I'') : CFr I I'' := fun k h1 h2 => by rw [h' k h1 h2, h k h1 h2]
/-- a call of the class -/
def CCall (xs : Nat → Int32) (Ln d num : Nat) (as : List Value) (D : Dyn) (I : Nat → Nat → Int32) (L : Nat → Nat → Int64) (A' : As) (nn : Nat) (x : Int32) : Prop := Ok (callD xs Ln d num as (mkW D I L)) (fun r => ∃ D' I' L', r = (mkW D' I' L', some (.int x)) ∧ CI D' I' A' (nn + 1) ∧ CFr I I')
theorem Rm.up {z z' : Nat} (h : Rm D ln z) (hz : z ≤ z') : Rm D ln z' := ⟨by have := h.1; omega, h.2⟩
theorem CIx.up {A : As} {nn : Nat} (h : CIx ow ky ln D I A nn) : CIx ow ky ln D I A (nn + 1) := by
  obtain ⟨h1, h2, h3, h4, h5, h6, h7, h8, h9, ver, h10, h11⟩ := h
  exact ⟨h1, h2, h3.up (by omega), h4, h5, h6, h7, h8, h9, ver, h10, by omega⟩
theorem CS.fr {A : As} (h : CS ow D I A) (hr : ∀ k, (k = 0 ∨ k = 14 ∨ k = 15 ∨ (50 ≤ k ∧ k ≤ 51) ∨ (53 ≤ k ∧ k ≤ 80)) → I' k = I k) (hla : ∀ b a, b = 53 ∨ b = 66 → LaI ow D I b a → LaI ow' D' I' b a) : CS ow' D' I' A := by
  obtain ⟨h1, h2, h3, h4, h5, h6, h7⟩ := h
  refine ⟨fun k hk => ⟨by rw [hr 79 (by omega)]; exact (h1 k hk).1, fun b hb => ?_⟩, by rw [hr 0 (by omega)]; exact h2, by rw [hr 80 (by omega)]; exact h3, by rw [hr 0 (by omega)]; exact h4, by rw [hr 0 (by omega)]; exact h5, by rw [hr 14 (by omega), hr 15 (by omega)]; exact h6, ?_⟩
  · obtain ⟨g1, g2, g3, g4⟩ := (h1 k hk).2 b hb
    refine ⟨?_, g2, hla _ b (by omega) g3, ?_⟩
    · unfold MzI
      rw [hr (53 + 13 * k) (by omega), hr (53 + 13 * k + 1) (by omega), hr (53 + 13 * k + 2) (by omega), hr (53 + 13 * k + 3) (by omega), hr (53 + 13 * k + 4) (by omega), hr (53 + 13 * k + 5) (by omega), hr (53 + 13 * k + 6) (by omega), hr (53 + 13 * k + 7) (by omega), hr (53 + 13 * k + 8) (by omega)]
      exact g1
    · unfold StI
      rw [hr (53 + 13 * k + 10) (by omega), hr (53 + 13 * k + 11) (by omega), hr (53 + 13 * k + 12) (by omega)]
      exact g4
  · unfold HnC
    rw [hr 50 (by omega), hr 51 (by omega)]
    exact h7
theorem LaI.i2 {b : Nat} (h : LaI ow D I b a) (hr : ∀ k, 103 ≤ k → I' k = I k) : LaI ow D I' b a := by
  refine ⟨fun t ht => ?_, h.2⟩
  obtain ⟨q, c, cls, g1, g2, g3, g4⟩ := h.1 t ht
  have := g4.1.1
  exact ⟨q, c, cls, g1, g2, g3, g4.i (hr _ (by omega)) (hr _ (by omega))⟩
end Pd0
