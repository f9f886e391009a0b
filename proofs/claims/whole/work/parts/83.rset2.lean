section P83
variable {xs : Nat → Int32} {Ln d : Nat} {D : Dyn} {I : Nat → Nat → Int32} {L : Nat → Nat → Int64} {w : Om}
theorem RI.e {A : As} {nn : Nat} (h : RI I A nn) {j : Nat} (h1 : 140 ≤ j) (h2 : j < 9134) (h3 : j ≠ 4326) : I 84 j = nI (sa A j) := h.1.2.2.1 j h1 h2 h3
theorem RI.pl {A : As} {nn : Nat} (h : RI I A nn) (q : Int32) : inR q 0 (I 84 4320 - 1) = inN q (nI (sa A 4320)) := by
  have := h.2.1.1
  rw [h.e (by decide) (by decide) (by decide)]
  exact inR_inN (by omega)
theorem RI.wd {A : As} {nn : Nat} (h : RI I A nn) (q : Int32) : inR q 0 (I 84 4321 - 1) = inN q (nI (sa A 4321)) := by
  have := h.2.1.2.1
  rw [h.e (by decide) (by decide) (by decide)]
  exact inR_inN (by omega)
theorem AW_lead {a : Nat → Nat} {w p c : Nat} (hA : AW a) (hw : w < a 4321) (hp : p < a 4320) (hc : c < a 4320) : AW (up1 a (28 + 12 * w + p) c) := by
  have hA' := hA
  obtain ⟨h1, h2, h3, h4, h5, h6, h7, h8, h9, h10, h11, h12, h13, h14, h15, h16⟩ := hA
  have hn : ∀ j, (j < 28 ∨ 124 ≤ j) → (up1 a (28 + 12 * w + p) c) j = a j := fun j hj => up1_n _ _ (by omega)
  unfold AW
  rw [hn 4320 (by decide), hn 4321 (by decide), hn 4322 (by decide), hn 4323 (by decide), hn 4324 (by decide), hn 4325 (by decide), hn 4326 (by decide), hn 4327 (by decide)]
  refine ⟨h1, h2, h3, h4, h5, h6, h7, h8, ?_, ?_, ?_, ?_, ?_, ?_, ?_, ?_⟩
  · intro p hp
    rw [hn _ (by omega)]
    exact h9 p hp
  · intro w hw
    rw [hn _ (by omega), hn _ (by omega)]
    exact h10 w hw
  · intro w2 p2 hw2 hp2
    by_cases e : 28 + 12 * w2 + p2 = 28 + 12 * w + p
    · rw [e, up1_s]
      exact ⟨fun _ => hc, fun h => by omega⟩
    · rw [up1_n _ _ e]
      exact h11 w2 p2 hw2 hp2
  · intro k w hk hw
    rw [hn _ (by omega)]
    exact h12 k w hk hw
  · intro i hi
    rw [hn _ (by omega), hn _ (by omega)]
    exact h13 i hi
  · intro i hi
    rw [hn _ (by omega)]
    exact h14 i hi
  · intro t ht
    rw [LwOK_e (fun j hj => hn j (by omega))]
    exact h15 t ht
  · rw [← h16]
    exact smN_c 4096 (fun i hi => hn _ (by omega))
def nLead (A : As) (x y z : Int32) : As × Int32 := if (inN x (nI (sa A 4321)) && inN y (nI (sa A 4320)) && inN z (nI (sa A 4320))) = true then (aGr A (up1 (sa A) (28 + 12 * x.toNatClampNeg + y.toNatClampNeg) z.toNatClampNeg), nI (sa A (28 + 12 * x.toNatClampNeg + y.toNatClampNeg))) else (aRf A (-2), -2)
theorem R_lead {A : As} {nn : Nat} {x y z : Int32} (h : RI I A nn) (hn : nn < 99999) : RCall xs Ln (d + 3) 171 [.ref 82, .int x, .int y, .int z] D I L (nLead A x y z).1 nn (nLead A x y z).2 := by
  have hA := h.2.1
  have hp12 := hA.1
  have hw8 := hA.2.1
  unfold nLead
  cases h1 : inN x (nI (sa A 4321)) with
  | false => exact RC_rf rc2 h (r_lead2 (by rw [h.wd, h.pl, h.pl, h1]; exact Or.inl rfl))
  | true =>
    cases h2 : inN y (nI (sa A 4320)) with
    | false => exact RC_rf rc2 h (r_lead2 (by rw [h.wd, h.pl, h.pl, h2]; exact Or.inr (Or.inl rfl)))
    | true =>
      cases h3 : inN z (nI (sa A 4320)) with
      | false => exact RC_rf rc2 h (r_lead2 (by rw [h.wd, h.pl, h.pl, h3]; exact Or.inr (Or.inr rfl)))
      | true =>
        rw [if_pos (by rfl)]
        obtain ⟨x, hx, rfl⟩ := inN_t (by omega) h1
        obtain ⟨y, hy, rfl⟩ := inN_t (by omega) h2
        obtain ⟨z, hz, rfl⟩ := inN_t (by omega) h3
        have hc := r_lead (xs := xs) (Ln := Ln) (d := d) (D := D) (I := I) (L := L) (a := x) (b := y) (c := z) (by rw [h.wd, h1]) (by rw [h.pl, h2]) (by rw [h.pl, h3]) (by omega) (by omega)
        rw [h.1.1 _ (by omega)] at hc
        rw [n_cl (by omega), n_cl (by omega), n_cl (by omega)]
        exact RC_gr h hn (CF_84 (CF.rf I)) (RK_u (by omega) (by omega) h.1) (AW_lead hA hx hy hz) hc
theorem AW_hear {a : Nat → Nat} {k w c : Nat} (hA : AW a) (hk : k < 2) (hw : w < a 4321) (hc : c ≤ a 4321) : AW (up1 a (124 + (8 * k + w)) c) := by
  have hA' := hA
  obtain ⟨h1, h2, h3, h4, h5, h6, h7, h8, h9, h10, h11, h12, h13, h14, h15, h16⟩ := hA
  have hn : ∀ j, (j < 124 ∨ 140 ≤ j) → (up1 a (124 + (8 * k + w)) c) j = a j := fun j hj => up1_n _ _ (by omega)
  unfold AW
  rw [hn 4320 (by decide), hn 4321 (by decide), hn 4322 (by decide), hn 4323 (by decide), hn 4324 (by decide), hn 4325 (by decide), hn 4326 (by decide), hn 4327 (by decide)]
  refine ⟨h1, h2, h3, h4, h5, h6, h7, h8, ?_, ?_, ?_, ?_, ?_, ?_, ?_, ?_⟩
  · intro p hp
    rw [hn _ (by omega)]
    exact h9 p hp
  · intro w hw
    rw [hn _ (by omega), hn _ (by omega)]
    exact h10 w hw
  · intro w p hw hp
    rw [hn _ (by omega)]
    exact h11 w p hw hp
  · intro k2 w2 hk2 hw2
    by_cases e : 124 + (8 * k2 + w2) = 124 + (8 * k + w)
    · rw [e, up1_s]
      exact hc
    · rw [up1_n _ _ e]
      exact h12 k2 w2 hk2 hw2
  · intro i hi
    rw [hn _ (by omega), hn _ (by omega)]
    exact h13 i hi
  · intro i hi
    rw [hn _ (by omega)]
    exact h14 i hi
  · intro t ht
    rw [LwOK_e (fun j hj => hn j (by omega))]
    exact h15 t ht
  · rw [← h16]
    exact smN_c 4096 (fun i hi => hn _ (by omega))
def tM (c : Int32) : Nat := if c = m1 then 0 else c.toNatClampNeg + 1
theorem tM_1 : tM (-1) = 0 := if_pos rfl
theorem tM_n {n : Nat} (hn : n < 2147483647) : tM (nI n) = n + 1 := by
  unfold tM
  rw [if_neg (fun h => by rw [show (nI n = m1) = (m1 = nI n) from propext ⟨Eq.symm, Eq.symm⟩, m1_n (by omega)] at h; exact h), n_cl (by omega)]
def nHear (A : As) (x y z : Int32) : As × Int32 := if inN x (nI 2) = false then (aRf A (-1), -1) else if (inN y (nI (sa A 4321)) && (decide (z = m1) || inN z (nI (sa A 4321)))) = true then (aGr A (up1 (sa A) (124 + (8 * x.toNatClampNeg + y.toNatClampNeg)) (tM z)), nM (sa A (124 + (8 * x.toNatClampNeg + y.toNatClampNeg)))) else (aRf A (-2), -2)
theorem R_hear {A : As} {nn : Nat} {x y z : Int32} (h : RI I A nn) (hn : nn < 99999) : RCall xs Ln (d + 3) 172 [.ref 82, .int x, .int y, .int z] D I L (nHear A x y z).1 nn (nHear A x y z).2 := by
  have hA := h.2.1
  have hp12 := hA.1
  have hw8 := hA.2.1
  unfold nHear
  cases h1 : inN x (nI 2) with
  | false => exact RC_rf rc1 h (r_hear1 (by rw [iR2, h1]))
  | true =>
    rw [if_neg (by decide)]
    cases h2 : inN y (nI (sa A 4321)) with
    | false => exact RC_rf rc2 h (r_hear2 (by rw [iR2, h1]) (by rw [h.wd, h2]; exact Or.inl rfl))
    | true =>
      obtain ⟨x, hx, rfl⟩ := inN_t (by decide) h1
      obtain ⟨y, hy, rfl⟩ := inN_t (by omega) h2
      have key : ∀ c, c ≤ sa A 4321 → z = nM c → (z = -1 ∨ inR z 0 (I 84 4321 - 1) = true) → RCall xs Ln (d + 3) 172 [.ref 82, .int (nI x), .int (nI y), .int z] D I L (aGr A (up1 (sa A) (124 + (8 * x + y)) c)) nn (nM (sa A (124 + (8 * x + y)))) := by
        intro c hcl hz hzz
        have hc := r_hear (xs := xs) (Ln := Ln) (d := d) (D := D) (I := I) (L := L) (a := x) (b := y) (c := z) (by rw [iR2, h1]) (by rw [h.wd, h2]) hzz hx (by omega)
        rw [Nat.add_assoc, h.1.2.1 _ (by omega), hz] at hc
        rw [hz]
        exact RC_gr h hn (CF_84 (CF.rf I)) (RK_um (by omega) h.1) (AW_hear hA hx hy hcl) hc
      by_cases h3 : z = m1
      · rw [decide_eq_true h3, if_pos (by rfl), n_cl (by omega), n_cl (by omega), h3, show tM m1 = 0 from tM_1]
        rw [h3] at key
        exact key 0 (by omega) rfl (Or.inl rfl)
      · rw [decide_eq_false h3]
        cases h4 : inN z (nI (sa A 4321)) with
        | false => exact RC_rf rc2 h (r_hear2 (by rw [iR2, h1]) (by rw [h.wd, h.wd, h4]; exact Or.inr ⟨h3, rfl⟩))
        | true =>
          rw [if_pos (by decide), n_cl (by omega), n_cl (by omega)]
          obtain ⟨z, hz, rfl⟩ := inN_t (by omega) h4
          rw [tM_n (by omega)]
          exact key (z + 1) (by omega) (nM_s z).symm (Or.inr (by rw [h.wd, h4]))
theorem AW_force {a : Nat → Nat} {c : Nat} (hA : AW a) (hc : c ≤ a 4325) : AW (up1 a 4326 c) := by
  have hA' := hA
  obtain ⟨h1, h2, h3, h4, h5, h6, h7, h8, h9, h10, h11, h12, h13, h14, h15, h16⟩ := hA
  have hn : ∀ j, j ≠ 4326 → (up1 a 4326 c) j = a j := fun j hj => up1_n _ _ (by omega)
  unfold AW
  rw [hn 4320 (by decide), hn 4321 (by decide), hn 4322 (by decide), hn 4323 (by decide), hn 4324 (by decide), hn 4325 (by decide), up1_s, hn 4327 (by decide)]
  refine ⟨h1, h2, h3, h4, h5, h6, hc, h8, ?_, ?_, ?_, ?_, ?_, ?_, ?_, ?_⟩
  · intro p hp
    rw [hn _ (by omega)]
    exact h9 p hp
  · intro w hw
    rw [hn _ (by omega), hn _ (by omega)]
    exact h10 w hw
  · intro w p hw hp
    rw [hn _ (by omega)]
    exact h11 w p hw hp
  · intro k w hk hw
    rw [hn _ (by omega)]
    exact h12 k w hk hw
  · intro i hi
    rw [hn _ (by omega), hn _ (by omega)]
    exact h13 i hi
  · intro i hi
    rw [hn _ (by omega)]
    exact h14 i hi
  · intro t ht
    rw [LwOK_e (fun j hj => hn j (by omega))]
    exact h15 t ht
  · rw [← h16]
    exact smN_c 4096 (fun i hi => hn _ (by omega))
def nForce (A : As) (z : Int32) : As × Int32 := if (decide (z = m1) || inN z (nI (sa A 4325))) = true then (aGr A (up1 (sa A) 4326 (tM z)), nM (sa A 4326)) else (aRf A (-2), -2)
theorem R_force {A : As} {nn : Nat} {z : Int32} (h : RI I A nn) (hn : nn < 99999) : RCall xs Ln (d + 3) 198 [.ref 82, .int z] D I L (nForce A z).1 nn (nForce A z).2 := by
  have hA := h.2.1
  have hl6 := hA.2.2.2.2.2.1
  have hl : inR z 0 (I 84 4325 - 1) = inN z (nI (sa A 4325)) := by
    rw [h.e (by decide) (by decide) (by decide)]
    exact inR_inN (by omega)
  have key : ∀ c, c ≤ sa A 4325 → z = nM c → (z = -1 ∨ inR z 0 (I 84 4325 - 1) = true) → RCall xs Ln (d + 3) 198 [.ref 82, .int z] D I L (aGr A (up1 (sa A) 4326 c)) nn (nM (sa A 4326)) := by
    intro c hcl hz hzz
    have hc := r_force (xs := xs) (Ln := Ln) (d := d) (D := D) (I := I) (L := L) (v := z) hzz
    rw [h.1.2.2.2, hz] at hc
    rw [hz]
    exact RC_gr h hn (CF_84 (CF.rf I)) (RK_um (by omega) h.1) (AW_force hA hcl) hc
  unfold nForce
  by_cases h3 : z = m1
  · rw [decide_eq_true h3, if_pos (by rfl), show tM z = 0 by rw [h3]; exact tM_1]
    exact key 0 (by omega) h3 (Or.inl h3)
  · rw [decide_eq_false h3]
    cases h4 : inN z (nI (sa A 4325)) with
    | false => exact RC_rf rc2 h (r_force2 h3 (by rw [hl, h4]))
    | true =>
      rw [if_pos (by rfl)]
      obtain ⟨i, hi, e⟩ := inN_t (by omega) h4
      rw [show tM z = i + 1 by rw [e]; exact tM_n (by omega)]
      exact key (i + 1) (by omega) (by rw [e]; rfl) (Or.inr (by rw [hl, h4]))
end P83
