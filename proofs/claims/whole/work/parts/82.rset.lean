section P82
variable {xs : Nat → Int32} {Ln d : Nat} {D : Dyn} {I : Nat → Nat → Int32} {L : Nat → Nat → Int64} {w : Om}
/-! The reference's setters, as steps of As. -/
theorem nI_8 : nI 8 - 1 = (7 : Int32) := by decide
theorem nI_4 : nI 4 - 1 = (3 : Int32) := by decide
theorem nI_2 : nI 2 - 1 = (1 : Int32) := by decide
theorem nI_40 : nI 4096 - 1 = (4095 : Int32) := by decide
theorem iR8 (v : Int32) : inR v 0 7 = inN v (nI 8) := by rw [← nI_8]; exact inR_inN (by decide)
theorem iR4 (v : Int32) : inR v 0 3 = inN v (nI 4) := by rw [← nI_4]; exact inR_inN (by decide)
theorem iR2 (v : Int32) : inR v 0 1 = inN v (nI 2) := by rw [← nI_2]; exact inR_inN (by decide)
theorem iR40 (v : Int32) : inR v 0 4095 = inN v (nI 4096) := by rw [← nI_40]; exact inR_inN (by decide)
theorem RK_u {J : Nat → Nat → Int32} {a : Nat → Nat} {j v : Nat} (h1 : j < 124 ∨ 140 ≤ j) (h2 : j ≠ 4326) (hK : RK J a) : RK (up2 J 84 j (nI v)) (up1 a j v) := by
  obtain ⟨k1, k2, k3, k4⟩ := hK
  refine ⟨fun i hi => ?_, fun i hi => ?_, fun i q1 q2 q3 => ?_, ?_⟩
  · by_cases hj : i = j
    · rw [hj, up2_s, up1_s]
    · rw [up2_j _ _ _ hj, up1_n _ _ hj]; exact k1 i hi
  · rw [up2_j _ _ _ (by omega), up1_n _ _ (by omega)]; exact k2 i hi
  · by_cases hj : i = j
    · rw [hj, up2_s, up1_s]
    · rw [up2_j _ _ _ hj, up1_n _ _ hj]; exact k3 i q1 q2 q3
  · rw [up2_j _ _ _ (by omega), up1_n _ _ (by omega)]; exact k4
theorem RK_um {J : Nat → Nat → Int32} {a : Nat → Nat} {j v : Nat} (h1 : (124 ≤ j ∧ j < 140) ∨ j = 4326) (hK : RK J a) : RK (up2 J 84 j (nM v)) (up1 a j v) := by
  obtain ⟨k1, k2, k3, k4⟩ := hK
  refine ⟨fun i hi => ?_, fun i hi => ?_, fun i q1 q2 q3 => ?_, ?_⟩
  · rw [up2_j _ _ _ (by omega), up1_n _ _ (by omega)]; exact k1 i hi
  · by_cases hj : 124 + i = j
    · rw [hj, up2_s, up1_s]
    · rw [up2_j _ _ _ hj, up1_n _ _ hj]; exact k2 i hi
  · rw [up2_j _ _ _ (by omega), up1_n _ _ (by omega)]; exact k3 i q1 q2 q3
  · by_cases hj : 4326 = j
    · rw [hj, up2_s, up1_s]
    · rw [up2_j _ _ _ hj, up1_n _ _ hj]; exact k4
theorem LwOK_e {a a' : Nat → Nat} (h : ∀ j, 4328 ≤ j → a' j = a j) (t : Nat) : LwOK a' t = LwOK a t := by
  have e1 : tkA a' t = tkA a t := by
    funext j
    unfold tkA
    rw [h _ (by omega), h _ (by omega)]
  have e2 : vlA a' t = vlA a t := by
    funext j
    unfold vlA
    rw [h _ (by omega), h _ (by omega)]
  unfold LwOK
  rw [e1, e2, h _ (by omega)]
theorem CF_84 {J : Nat → Nat → Int32} {j : Nat} {x : Int32} (h : CF I J) : CF I (up2 J 84 j x) := ⟨fun k hk => by rw [up2_ro _ _ _ (by omega)]; exact h.1 k hk, fun i hi => by rw [up2_k _ _ _ _ (by decide)]; exact h.2 i hi⟩
theorem RC_rf {A : As} {nn num : Nat} {as : List Value} {y : Int32} (hy : isRc y) (h : RI I A nn) (hc : callD xs Ln d num as (mkW D I L) = some (mkW D (rfR I y) L, some (.int y))) : RCall xs Ln d num as D I L (aRf A y) nn y :=
  Ok.of hc ⟨_, _, rfl, (RI_rf hy h).up, RFr_rf⟩
theorem RC_gr {A : As} {nn num : Nat} {as : List Value} {x : Int32} {J : Nat → Nat → Int32} {a' : Nat → Nat} (h : RI I A nn) (hn : nn < 99999) (hf : CF I J) (hK : RK J a') (hA : AW a') (hc : callD xs Ln d num as (mkW D I L) = some (mkW D (grR J) L, some (.int x))) : RCall xs Ln d num as D I L (aGr A a') nn x :=
  Ok.of hc ⟨_, _, rfl, RI_gr h hn hf hK hA, RFr_gr hf⟩
theorem RC_id {A : As} {nn num : Nat} {as : List Value} {x : Int32} (h : RI I A nn) (hc : callD xs Ln d num as (mkW D I L) = some (mkW D I L, some (.int x))) : RCall xs Ln d num as D I L A nn x :=
  Ok.of hc ⟨_, _, rfl, h.up, RFr.rf I⟩
-- doors
def nDoors (A : As) (v : Int32) : As × Int32 := if inN v (nI 8) = true then (aGr A (up1 (sa A) 4327 v.toNatClampNeg), nI (sa A 4327)) else (aRf A (-1), -1)
theorem R_doors {A : As} {nn : Nat} {v : Int32} (h : RI I A nn) (hn : nn < 99999) : RCall xs Ln (d + 3) 173 [.ref 82, .int v] D I L (nDoors A v).1 nn (nDoors A v).2 := by
  have hc := r_doors (xs := xs) (Ln := Ln) (d := d) (D := D) (I := I) (L := L) (v := v)
  rw [iR8] at hc
  unfold nDoors
  cases hb : inN v (nI 8) with
  | false =>
    rw [hb] at hc
    exact RC_rf rc1 h hc
  | true =>
    rw [hb] at hc
    obtain ⟨i, hi, rfl⟩ := inN_t (by decide) hb
    rw [if_pos rfl, h.1.2.2.1 4327 (by decide) (by decide) (by decide)] at hc
    rw [if_pos rfl, n_cl (by omega)]
    exact RC_gr h hn (CF_84 (CF.rf I)) (RK_u (by omega) (by omega) h.1) (AW_o h.2.1 hi) hc
-- paint
theorem AW_paint {a : Nat → Nat} {p v : Nat} (hA : AW a) (hp : p < a 4320) (hv : v < 4) : AW (up1 a p v) := by
  obtain ⟨h1, h2, h3, h4, h5, h6, h7, h8, h9, h10, h11, h12, h13, h14, h15, h16⟩ := hA
  have hn : ∀ j, 12 ≤ j → up1 a p v j = a j := fun j hj => up1_n _ _ (by omega)
  unfold AW
  rw [hn 4320 (by decide), hn 4321 (by decide), hn 4322 (by decide), hn 4323 (by decide), hn 4324 (by decide), hn 4325 (by decide), hn 4326 (by decide), hn 4327 (by decide)]
  refine ⟨h1, h2, h3, h4, h5, h6, h7, h8, ?_, ?_, ?_, ?_, ?_, ?_, ?_, ?_⟩
  · intro q hq
    by_cases e : q = p
    · rw [e, up1_s]; exact hv
    · rw [up1_n _ _ e]; exact h9 q hq
  · intro w hw
    rw [hn _ (by omega), hn _ (by omega)]
    exact h10 w hw
  · intro w p hw hp
    rw [hn _ (by omega)]
    exact h11 w p hw hp
  · intro k w hk hw
    rw [hn _ (by omega)]
    exact h12 k w hk hw
  · intro i hi
    rw [hn _ (by omega), hn _ (by omega)]
    exact h13 i hi
  · intro i hi
    rw [hn _ (by omega)]
    exact h14 i hi
  · intro t ht
    rw [LwOK_e (fun j hj => hn j (by omega))]
    exact h15 t ht
  · rw [← h16]
    exact smN_c 4096 (fun i hi => hn _ (by omega))
def nPaint (A : As) (q v : Int32) : As × Int32 := if inN v (nI 4) = false then (aRf A (-1), -1) else if inN q (nI (sa A 4320)) = false then (aRf A (-2), -2) else (aGr A (up1 (sa A) q.toNatClampNeg v.toNatClampNeg), nI (sa A q.toNatClampNeg))
theorem R_paint {A : As} {nn : Nat} {q v : Int32} (h : RI I A nn) (hn : nn < 99999) : RCall xs Ln (d + 3) 169 [.ref 82, .int q, .int v] D I L (nPaint A q v).1 nn (nPaint A q v).2 := by
  have hA := h.2.1
  have hp12 := hA.1
  have e4 := h.1.2.2.1 4320 (by decide) (by decide) (by decide)
  have i4 : inR q 0 (I 84 4320 - 1) = inN q (nI (sa A 4320)) := by rw [e4]; exact inR_inN (by omega)
  unfold nPaint
  cases hb : inN v (nI 4) with
  | false => exact RC_rf rc1 h (r_paint1 (by rw [iR4, hb]))
  | true =>
    rw [if_neg (by decide)]
    cases hq : inN q (nI (sa A 4320)) with
    | false => exact RC_rf rc2 h (r_paint2 (by rw [iR4, hb]) (by rw [i4, hq]))
    | true =>
      rw [if_neg (by decide)]
      obtain ⟨v, hv, rfl⟩ := inN_t (by decide) hb
      obtain ⟨p, hp, rfl⟩ := inN_t (by omega) hq
      have hc := r_paint (xs := xs) (Ln := Ln) (d := d) (D := D) (I := I) (L := L) (q := nI p) (v := nI v) (by rw [iR4, hb]) (by rw [i4, hq]) (by rw [Int32.zero_add]; exact n_bd (by omega) (by decide))
      rw [Int32.zero_add, n_cl (by omega), h.1.1 p (by omega)] at hc
      rw [n_cl (by omega), n_cl (by omega)]
      exact RC_gr h hn (CF_84 (CF.rf I)) (RK_u (by omega) (by omega) h.1) (AW_paint hA hp hv) hc
end P82
