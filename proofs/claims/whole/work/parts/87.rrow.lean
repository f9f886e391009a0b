section P87
variable {xs : Nat → Int32} {Ln d : Nat} {D : Dyn} {I : Nat → Nat → Int32} {L : Nat → Nat → Int64} {w : Om}
-- row
def rwA (a : Nat → Nat) (b : Nat → Nat) (v n : Nat) : Nat → Nat := itr (fun i a' => if rc (a 4320) b i = true then up1 a' (28 + 12 * v + i) (b i) else a') n a
theorem rwA_s (a : Nat → Nat) (b : Nat → Nat) (v n : Nat) : rwA a b v (n + 1) = if rc (a 4320) b n = true then up1 (rwA a b v n) (28 + 12 * v + n) (b n) else rwA a b v n := id rfl
theorem rc_i {P : Nat} {b : Nat → Nat} {i : Nat} (h : rc P b i = true) : i < P ∧ b i < P := by
  unfold rc at h
  simp at h
  exact h
theorem rwA_o {a b : Nat → Nat} {v j : Nat} (h : ∀ i, i < a 4320 → j ≠ 28 + 12 * v + i) : ∀ n, rwA a b v n j = a j
  | 0 => rfl
  | n + 1 => by
    rw [rwA_s]
    by_cases hr : rc (a 4320) b n = true
    · rw [if_pos hr, up1_n _ _ (h n (rc_i hr).1)]
      exact rwA_o h n
    · rw [if_neg hr]
      exact rwA_o h n
theorem AW_row {a b : Nat → Nat} {v : Nat} (hA : AW a) (hv : v < a 4321) : ∀ n, AW (rwA a b v n)
  | 0 => hA
  | n + 1 => by
    have ih := AW_row (b := b) hA hv n
    have h1 := hA.1
    have h2 := hA.2.1
    rw [rwA_s]
    by_cases hr : rc (a 4320) b n = true
    · rw [if_pos hr]
      have e1 := rwA_o (a := a) (b := b) (v := v) (j := 4320) (fun i hi => by omega) n
      have e2 := rwA_o (a := a) (b := b) (v := v) (j := 4321) (fun i hi => by omega) n
      exact AW_lead ih (by rw [e2]; exact hv) (by rw [e1]; exact (rc_i hr).1) (by rw [e1]; exact (rc_i hr).2)
    · rw [if_neg hr]
      exact ih
theorem RK_row {a b : Nat → Nat} {v : Nat} {J : Nat → Nat → Int32} (hK : RK J a) (hv : v < 8) (h12 : a 4320 ≤ 12) : ∀ n, RK (itr (fun i J => if rc (a 4320) b i = true then up2 J 84 (28 + 12 * v + i) (nI (b i)) else J) n J) (rwA a b v n)
  | 0 => hK
  | n + 1 => by
    have ih := RK_row (b := b) hK hv h12 n
    rw [rwA_s, itr_s]
    by_cases hr : rc (a 4320) b n = true
    · rw [if_pos hr, if_pos hr]
      have := (rc_i hr).1
      exact RK_u (by omega) (by omega) ih
    · rw [if_neg hr, if_neg hr]
      exact ih
def nRow (A : As) (v : Int32) : As × Int32 := if inN v (nI (sa A 4321)) = false then (aRf A (-2), -2) else if stn A = 0 then (aRf (aTp A 0) (-6), -6) else (aGr (aSy (aTp A 0) (stn A - cntB (rc (sa A 4320) (stB A)) (stn A))) (rwA (sa A) (stB A) v.toNatClampNeg (stn A)), nI (cntB (rc (sa A 4320) (stB A)) (stn A)))
theorem R_row {A : As} {nn : Nat} {v : Int32} (h : RI I A nn) (hn : nn < 99999) : RCall xs Ln (d + 3) 174 [.ref 82, .int v] D I L (nRow A v).1 nn (nRow A v).2 := by
  have hA := h.2.1
  have hp12 := hA.1
  have hw8 := hA.2.1
  have h9 := h.2.2.2.2.2.2.2.2.1
  unfold nRow
  cases h0 : inN v (nI (sa A 4321)) with
  | false => exact RC_rf rc2 h (r_row2 (by rw [h.wd, h0]))
  | true =>
    rw [if_neg (by decide)]
    by_cases h5 : stn A = 0
    · rw [if_pos h5]
      have hc := r_row6 (xs := xs) (Ln := Ln) (d := d) (D := D) (I := I) (L := L) (v := v) (by rw [h.wd, h0]) (by rw [h9.1, h5]; rfl)
      refine Ok.of hc ⟨_, _, rfl, (RI_rf rc6 (RI_tp (m := 0) h (by omega))).up, fun k hk => ?_⟩
      rw [RFr_rf k hk, up2_ro _ _ _ (by omega)]
    · rw [if_neg h5]
      obtain ⟨v, hv, rfl⟩ := inN_t (by omega) h0
      rw [n_cl (by omega)]
      have hc := r_row (xs := xs) (Ln := Ln) (d := d) (D := D) (I := I) (L := L) (v := v) (n := stn A) (P := sa A 4320) (b := stB A) (by rw [h.wd, h0]) (by omega) h9.1 (by omega) h9.2.1 (h.e (by decide) (by decide) (by decide)) hp12 h9.2.2
      have hi := RI_sy (s := stn A - cntB (rc (sa A 4320) (stB A)) (stn A)) (RI_tp (m := 0) h (by omega))
      have hro : ∀ k, k ≠ 84 → up2 (rwR I (sa A 4320) (stB A) v (stn A)) 82 6 (nI (stn A - cntB (rc (sa A 4320) (stB A)) (stn A))) k = up2 (up2 I 82 10 (nI 0)) 82 6 (nI (stn A - cntB (rc (sa A 4320) (stB A)) (stn A))) k := fun k hk => by
        by_cases e : k = 82
        · rw [e, up2_rs, up2_rs, rwR_ro (by decide)]
          rfl
        · rw [up2_ro _ _ _ e, up2_ro _ _ _ e, rwR_ro hk]
          rfl
      refine RC_g2 hi (fun k hk => ?_) hn ⟨fun k hk => hro k (by omega), fun j _ => by rw [hro 82 (by decide)]⟩ ?_ (AW_row hA hv _) hc
      · rw [up2_ro _ _ _ (by omega), up2_ro _ _ _ (by omega)]
      · have hK : RK (up2 I 82 10 0) (sa A) := by
          unfold RK
          rw [up2_ro _ _ _ (by decide)]
          exact h.1
        have := RK_row (b := stB A) (v := v) hK (by omega) hp12 (stn A)
        unfold RK
        rw [up2_ro _ _ _ (by decide)]
        exact this
end P87
