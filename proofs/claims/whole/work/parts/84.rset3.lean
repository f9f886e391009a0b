section P84
variable {xs : Nat → Int32} {Ln d : Nat} {D : Dyn} {I : Nat → Nat → Int32} {L : Nat → Nat → Int64} {w : Om}
theorem RI_gs {J : Nat → Nat → Int32} {A : As} {nn : Nat} {a' : Nat → Nat} (h : RI I A nn) (hn : nn < 99999) (hf : CF I J) (hK : RK J a') (hA : AW a') : RI (up2 J 82 1 (J 82 1 + 1)) (a', sim A, sst A, srf A, ssy A, sfl A, stB A, stn A, shn A) (nn + 1) := by
  obtain ⟨h1, h2, ⟨v, hc, hv⟩, h4, h5, h6, h7, h8, h9, h10, h11⟩ := h
  have hk : ∀ k, k ≠ 82 → up2 J 82 1 (J 82 1 + 1) k = J k := fun k q1 => up2_ro _ _ _ q1
  have hj : ∀ j, j ≠ 1 → up2 J 82 1 (J 82 1 + 1) 82 j = J 82 j := fun j q1 => up2_j _ _ _ q1
  have h1j : up2 J 82 1 (J 82 1 + 1) 82 1 = nI (v + 1) := by
    rw [up2_s, hf.2 1 (by omega), hc.1]
    exact nI_1 _
  refine ⟨?_, hA, ⟨v + 1, RIc_v hc (by omega) h1j (by rw [hj 27 (by decide), hf.2 27 (by omega)]) (by rw [hj 39 (by decide), hf.2 39 (by omega)]), by omega⟩, ?_, ?_, ?_, ?_, ?_, ?_, ?_, ?_⟩
  · unfold RK; rw [hk 84 (by decide)]; exact hK
  · rw [hk 85 (by decide), hk 86 (by decide), hf.1 85 (by omega), hf.1 86 (by omega)]; exact h4
  · rw [hj 0 (by decide), hf.2 0 (by omega)]; exact h5
  · rw [hk 83 (by decide), hf.1 83 (by omega)]; exact h6
  · rw [hj 6 (by decide), hf.2 6 (by omega)]; exact h7
  · rw [hj 11 (by decide), hf.2 11 (by omega)]; exact h8
  · rw [hj 10 (by decide), hk 88 (by decide), hf.2 10 (by omega), hf.1 88 (by omega)]; exact h9
  · show HnR _ (shn A)
    unfold HnR
    rw [hj 41 (by decide), hj 42 (by decide), hk 102 (by decide), hf.2 41 (by omega), hf.2 42 (by omega), hf.1 102 (by omega)]
    exact h10
  · rw [hk 87 (by decide), hf.1 87 (by omega)]; exact h11
theorem AW_tear {a : Nat → Nat} (hA : AW a) : AW (up1 a 4323 0) := by
  have hA' := hA
  obtain ⟨h1, h2, h3, h4, h5, h6, h7, h8, h9, h10, h11, h12, h13, h14, h15, h16⟩ := hA
  have hn : ∀ j, j ≠ 4323 → (up1 a 4323 0) j = a j := fun j hj => up1_n _ _ (by omega)
  unfold AW
  rw [hn 4320 (by decide), hn 4321 (by decide), hn 4322 (by decide), up1_s, hn 4324 (by decide), hn 4325 (by decide), hn 4326 (by decide), hn 4327 (by decide)]
  refine ⟨h1, h2, h3, (by omega), h5, h6, h7, h8, ?_, ?_, ?_, ?_, ?_, ?_, ?_, ?_⟩
  · intro p hp
    rw [hn _ (by omega)]
    exact h9 p hp
  · intro w hw
    rw [hn _ (by omega), hn _ (by omega)]
    exact h10 w hw
  · intro w p hw hp
    rw [hn _ (by omega)]
    exact h11 w p hw hp
  · intro k w hk hw
    rw [hn _ (by omega)]
    exact h12 k w hk hw
  · intro i hi
    rw [hn _ (by omega), hn _ (by omega)]
    exact h13 i hi
  · intro i hi
    omega
  · intro t ht
    rw [LwOK_e (fun j hj => hn j (by omega))]
    exact h15 t ht
  · rw [← h16]
    exact smN_c 4096 (fun i hi => hn _ (by omega))
def nTear (A : As) : As × Int32 := ((up1 (sa A) 4323 0, sim A, sst A, srf A, ssy A, sfl A, stB A, stn A, shn A), nI (sa A 4323))
theorem R_tear {A : As} {nn : Nat} (h : RI I A nn) (hn : nn < 99999) : RCall xs Ln (d + 1) 221 [.ref 82] D I L (nTear A).1 nn (nTear A).2 := by
  have hc := r_tear (xs := xs) (Ln := Ln) (d := d) (D := D) (I := I) (L := L)
  rw [h.e (by decide) (by decide) (by decide)] at hc
  have hf : CF I (up2 I 84 4323 (nI 0)) := CF_84 (CF.rf I)
  have e : up2 I 84 4323 (nI 0) 82 1 = I 82 1 := hf.2 1 (by omega)
  have hr := RI_gs h hn hf (RK_u (by omega) (by omega) h.1) (AW_tear h.2.1)
  rw [e] at hr
  refine Ok.of hc ⟨_, _, rfl, hr, fun k hk => ?_⟩
  rw [up2_ro _ _ _ (by omega), up2_ro _ _ _ (by omega)]
theorem AW_call {a : Nat → Nat} {c : Nat} (hA : AW a) (hn60 : a 4323 < 60) (hc : c < a 4321) : AW (up1 (up1 a (164 + a 4323) c) 4323 (a 4323 + 1)) := by
  have hA' := hA
  obtain ⟨h1, h2, h3, h4, h5, h6, h7, h8, h9, h10, h11, h12, h13, h14, h15, h16⟩ := hA
  have hn : ∀ j, (j < 164 ∨ 224 ≤ j) → j ≠ 4323 → (up1 (up1 a (164 + a 4323) c) 4323 (a 4323 + 1)) j = a j := fun j q1 q2 => by rw [up1_n _ _ q2, up1_n _ _ (by omega)]
  unfold AW
  rw [hn 4320 (by decide) (by decide), hn 4321 (by decide) (by decide), hn 4322 (by decide) (by decide), up1_s, hn 4324 (by decide) (by decide), hn 4325 (by decide) (by decide), hn 4326 (by decide) (by decide), hn 4327 (by decide) (by decide)]
  refine ⟨h1, h2, h3, (by omega), h5, h6, h7, h8, ?_, ?_, ?_, ?_, ?_, ?_, ?_, ?_⟩
  · intro p hp
    rw [hn _ (by omega) (by omega)]
    exact h9 p hp
  · intro w hw
    rw [hn _ (by omega) (by omega), hn _ (by omega) (by omega)]
    exact h10 w hw
  · intro w p hw hp
    rw [hn _ (by omega) (by omega)]
    exact h11 w p hw hp
  · intro k w hk hw
    rw [hn _ (by omega) (by omega)]
    exact h12 k w hk hw
  · intro i hi
    rw [hn _ (by omega) (by omega), hn _ (by omega) (by omega)]
    exact h13 i hi
  · intro i hi
    rw [up1_n _ _ (by omega)]
    by_cases e : i = a 4323
    · rw [e, up1_s]; exact hc
    · rw [up1_n _ _ (by omega)]; exact h14 i (by omega)
  · intro t ht
    rw [LwOK_e (fun j hj => hn j (by omega) (by omega))]
    exact h15 t ht
  · rw [← h16]
    exact smN_c 4096 (fun i hi => hn _ (by omega) (by omega))
theorem rc_5 {A : As} {nn : Nat} {x : Int32} {j k : Nat} (h : RI I A nn) (h1 : 140 ≤ j) (h2 : j < 9134) (h3 : j ≠ 4326) (he : sa A j = k) (hx : nI k = x) : I 84 j = x := by rw [h.e h1 h2 h3, he, hx]
def nCall (A : As) (v : Int32) : As × Int32 := if inN v (nI (sa A 4321)) = false then (aRf A (-2), -2) else if 60 ≤ sa A 4323 then (aRf A (-5), -5) else (aGr A (up1 (up1 (sa A) (164 + sa A 4323) v.toNatClampNeg) 4323 (sa A 4323 + 1)), nI (sa A 4323 + 1))
theorem R_call {A : As} {nn : Nat} {v : Int32} (h : RI I A nn) (hn : nn < 99999) : RCall xs Ln (d + 3) 220 [.ref 82, .int v] D I L (nCall A v).1 nn (nCall A v).2 := by
  have hA := h.2.1
  have hw8 := hA.2.1
  have h60 := hA.2.2.2.1
  unfold nCall
  cases h1 : inN v (nI (sa A 4321)) with
  | false => exact RC_rf rc2 h (r_call2 (by rw [h.wd, h1]))
  | true =>
    rw [if_neg (by decide)]
    by_cases h5 : 60 ≤ sa A 4323
    · rw [if_pos h5]
      exact RC_rf rc5 h (r_call5 (by rw [h.wd, h1]) (rc_5 h (by decide) (by decide) (by decide) (show sa A 4323 = 60 by omega) rfl))
    · rw [if_neg h5]
      obtain ⟨v, hv, rfl⟩ := inN_t (by omega) h1
      have hc := r_call (xs := xs) (Ln := Ln) (d := d) (D := D) (I := I) (L := L) (v := nI v) (n := sa A 4323) (by rw [h.wd, h1]) (h.e (by decide) (by decide) (by decide)) (by omega)
      rw [n_cl (by omega)]
      exact RC_gr h hn (CF_84 (CF_84 (CF.rf I))) (RK_u (by omega) (by omega) (RK_u (by omega) (by omega) h.1)) (AW_call hA (by omega) hv) hc
theorem AW_walker {a : Nat → Nat} {p k : Nat} (hA : AW a) (hn12 : a 4322 < 12) (hp : p < a 4320) (hk : k < 2) : AW (up1 (up1 (up1 a (140 + 2 * a 4322) p) (140 + 2 * a 4322 + 1) k) 4322 (a 4322 + 1)) := by
  have hA' := hA
  obtain ⟨h1, h2, h3, h4, h5, h6, h7, h8, h9, h10, h11, h12, h13, h14, h15, h16⟩ := hA
  have hn : ∀ j, (j < 140 ∨ 164 ≤ j) → j ≠ 4322 → (up1 (up1 (up1 a (140 + 2 * a 4322) p) (140 + 2 * a 4322 + 1) k) 4322 (a 4322 + 1)) j = a j := fun j q1 q2 => by rw [up1_n _ _ q2, up1_n _ _ (by omega), up1_n _ _ (by omega)]
  unfold AW
  rw [hn 4320 (by decide) (by decide), hn 4321 (by decide) (by decide), up1_s, hn 4323 (by decide) (by decide), hn 4324 (by decide) (by decide), hn 4325 (by decide) (by decide), hn 4326 (by decide) (by decide), hn 4327 (by decide) (by decide)]
  refine ⟨h1, h2, (by omega), h4, h5, h6, h7, h8, ?_, ?_, ?_, ?_, ?_, ?_, ?_, ?_⟩
  · intro p hp
    rw [hn _ (by omega) (by omega)]
    exact h9 p hp
  · intro w hw
    rw [hn _ (by omega) (by omega), hn _ (by omega) (by omega)]
    exact h10 w hw
  · intro w p hw hp
    rw [hn _ (by omega) (by omega)]
    exact h11 w p hw hp
  · intro k w hk hw
    rw [hn _ (by omega) (by omega)]
    exact h12 k w hk hw
  · intro i hi
    rw [up1_n _ _ (by omega), up1_n (j := 140 + 2 * i + 1) _ _ (by omega)]
    by_cases e : i = a 4322
    · rw [e, up1_s, up1_n _ _ (by omega), up1_s]; exact ⟨hp, hk⟩
    · rw [up1_n _ _ (by omega), up1_n _ _ (by omega), up1_n _ _ (by omega), up1_n _ _ (by omega)]; exact h13 i (by omega)
  · intro i hi
    rw [hn _ (by omega) (by omega)]
    exact h14 i hi
  · intro t ht
    rw [LwOK_e (fun j hj => hn j (by omega) (by omega))]
    exact h15 t ht
  · rw [← h16]
    exact smN_c 4096 (fun i hi => hn _ (by omega) (by omega))
def nWalker (A : As) (x k : Int32) : As × Int32 := if inN k (nI 2) = false then (aRf A (-1), -1) else if inN x (nI (sa A 4320)) = false then (aRf A (-2), -2) else if 12 ≤ sa A 4322 then (aRf A (-5), -5) else (aGr A (up1 (up1 (up1 (sa A) (140 + 2 * sa A 4322) x.toNatClampNeg) (140 + 2 * sa A 4322 + 1) k.toNatClampNeg) 4322 (sa A 4322 + 1)), nI (sa A 4322))
theorem R_walker {A : As} {nn : Nat} {x k : Int32} (h : RI I A nn) (hn : nn < 99999) : RCall xs Ln (d + 3) 260 [.ref 82, .int x, .int k] D I L (nWalker A x k).1 nn (nWalker A x k).2 := by
  have hA := h.2.1
  have hp12 := hA.1
  have h12 := hA.2.2.1
  unfold nWalker
  cases h0 : inN k (nI 2) with
  | false => exact RC_rf rc1 h (r_walker1 (by rw [iR2, h0]))
  | true =>
    rw [if_neg (by decide)]
    cases h1 : inN x (nI (sa A 4320)) with
    | false => exact RC_rf rc2 h (r_walker2 (by rw [iR2, h0]) (by rw [h.pl, h1]))
    | true =>
      rw [if_neg (by decide)]
      by_cases h5 : 12 ≤ sa A 4322
      · rw [if_pos h5]
        exact RC_rf rc5 h (r_walker5 (by rw [iR2, h0]) (by rw [h.pl, h1]) (rc_5 h (by decide) (by decide) (by decide) (show sa A 4322 = 12 by omega) rfl))
      · rw [if_neg h5]
        obtain ⟨x, hx, rfl⟩ := inN_t (by omega) h1
        obtain ⟨k, hk, rfl⟩ := inN_t (by omega) h0
        have hc := r_walker (xs := xs) (Ln := Ln) (d := d) (D := D) (I := I) (L := L) (a := nI x) (b := nI k) (n := sa A 4322) (by rw [iR2, h0]) (by rw [h.pl, h1]) (h.e (by decide) (by decide) (by decide)) (by omega)
        rw [n_cl (by omega), n_cl (by omega)]
        exact RC_gr h hn (CF_84 (CF_84 (CF_84 (CF.rf I)))) (RK_u (by omega) (by omega) (RK_u (by omega) (by omega) (RK_u (by omega) (by omega) h.1))) (AW_walker hA (by omega) hx hk) hc
theorem smN_up {f : Nat → Nat} {v x : Nat} : ∀ n, smN (up1 f v x) n + (if v < n then f v else 0) = smN f n + (if v < n then x else 0)
  | 0 => by rw [if_neg (by omega), if_neg (by omega)]; rfl
  | n + 1 => by
    have := smN_up (f := f) (v := v) (x := x) n
    unfold smN
    by_cases e : n = v
    · rw [if_neg (by omega), if_neg (by omega)] at this
      rw [if_pos (by omega), if_pos (by omega), e, up1_s]
      rw [e] at this
      omega
    · rw [up1_n _ _ e]
      by_cases e2 : v < n
      · rw [if_pos e2, if_pos e2] at this
        rw [if_pos (by omega), if_pos (by omega)]
        omega
      · rw [if_neg e2, if_neg e2] at this
        rw [if_neg (by omega), if_neg (by omega)]
        omega
theorem smN_ge {f : Nat → Nat} {v : Nat} : ∀ n, v < n → f v ≤ smN f n
  | 0, h => by omega
  | n + 1, h => by
    unfold smN
    by_cases e : v = n
    · rw [e]; omega
    · have := smN_ge (f := f) (v := v) n (by omega)
      omega
theorem AW_store {a : Nat → Nat} {v m n : Nat} (hA : AW a) (hv : v < 4096) (hn200 : n ≤ 200) (hmn : n + a (224 + v) = a 4324 + m) : AW (up1 (up1 a 4324 n) (224 + v) m) := by
  have hA' := hA
  obtain ⟨h1, h2, h3, h4, h5, h6, h7, h8, h9, h10, h11, h12, h13, h14, h15, h16⟩ := hA
  have hn : ∀ j, (j < 224 ∨ 4320 ≤ j) → j ≠ 4324 → (up1 (up1 a 4324 n) (224 + v) m) j = a j := fun j q1 q2 => by rw [up1_n _ _ (by omega), up1_n _ _ q2]
  have h44 : up1 (up1 a 4324 n) (224 + v) m 4324 = n := by rw [up1_n _ _ (by omega), up1_s]
  unfold AW
  rw [hn 4320 (by decide) (by decide), hn 4321 (by decide) (by decide), hn 4322 (by decide) (by decide), hn 4323 (by decide) (by decide), h44, hn 4325 (by decide) (by decide), hn 4326 (by decide) (by decide), hn 4327 (by decide) (by decide)]
  refine ⟨h1, h2, h3, h4, hn200, h6, h7, h8, ?_, ?_, ?_, ?_, ?_, ?_, ?_, ?_⟩
  · intro p hp
    rw [hn _ (by omega) (by omega)]
    exact h9 p hp
  · intro w hw
    rw [hn _ (by omega) (by omega), hn _ (by omega) (by omega)]
    exact h10 w hw
  · intro w p hw hp
    rw [hn _ (by omega) (by omega)]
    exact h11 w p hw hp
  · intro k w hk hw
    rw [hn _ (by omega) (by omega)]
    exact h12 k w hk hw
  · intro i hi
    rw [hn _ (by omega) (by omega), hn _ (by omega) (by omega)]
    exact h13 i hi
  · intro i hi
    rw [hn _ (by omega) (by omega)]
    exact h14 i hi
  · intro t ht
    rw [LwOK_e (fun j hj => hn j (by omega) (by omega))]
    exact h15 t ht
  · have e : (fun s => up1 (up1 a 4324 n) (224 + v) m (224 + s)) = up1 (fun s => up1 a 4324 n (224 + s)) v m := by
      funext s
      by_cases e : s = v
      · rw [e, up1_s, up1_s]
      · rw [up1_n _ _ e, up1_n _ _ (by omega)]
    have hs := smN_up (f := fun s => up1 a 4324 n (224 + s)) (v := v) (x := m) 4096
    rw [if_pos hv, if_pos hv, smN_c (f := fun s => up1 a 4324 n (224 + s)) (g := fun s => a (224 + s)) 4096 (fun i hi => up1_n _ _ (by omega)), h16, up1_n _ _ (show 224 + v ≠ 4324 by omega)] at hs
    rw [e]
    omega
theorem RI.sm {A : As} {nn : Nat} (h : RI I A nn) {v : Nat} (hv : v < 4096) : sa A (224 + v) ≤ sa A 4324 := by
  have := smN_ge (f := fun s => sa A (224 + s)) 4096 hv
  rw [h.2.1.2.2.2.2.2.2.2.2.2.2.2.2.2.2.2] at this
  exact this
def nHold (A : As) (v : Int32) : As × Int32 := if inN v (nI 4096) = false then (aRf A (-1), -1) else if 200 ≤ sa A 4324 then (aRf A (-5), -5) else (aGr A (up1 (up1 (sa A) 4324 (sa A 4324 + 1)) (224 + v.toNatClampNeg) (sa A (224 + v.toNatClampNeg) + 1)), nI (sa A (224 + v.toNatClampNeg) + 1))
theorem R_hold {A : As} {nn : Nat} {v : Int32} (h : RI I A nn) (hn : nn < 99999) : RCall xs Ln (d + 3) 251 [.ref 82, .int v] D I L (nHold A v).1 nn (nHold A v).2 := by
  have hA := h.2.1
  have h200 := hA.2.2.2.2.1
  unfold nHold
  cases h0 : inN v (nI 4096) with
  | false => exact RC_rf rc1 h (r_hold1 (by rw [iR40, h0]))
  | true =>
    rw [if_neg (by decide)]
    by_cases h5 : 200 ≤ sa A 4324
    · rw [if_pos h5]
      exact RC_rf rc5 h (r_hold5 (by rw [iR40, h0]) (rc_5 h (by decide) (by decide) (by decide) (show sa A 4324 = 200 by omega) rfl))
    · rw [if_neg h5]
      obtain ⟨v, hv, rfl⟩ := inN_t (by decide) h0
      have hc := r_hold (xs := xs) (Ln := Ln) (d := d) (D := D) (I := I) (L := L) (v := v) (n := sa A 4324) (m := sa A (224 + v)) (by rw [iR40, h0]) hv (h.e (by decide) (by decide) (by decide)) (by omega) (h.e (by omega) (by omega) (by omega))
      rw [n_cl (by omega)]
      exact RC_gr h hn (CF_84 (CF_84 (CF.rf I))) (RK_u (by omega) (by omega) (RK_u (by omega) (by omega) h.1)) (AW_store hA hv (by omega) (by omega)) hc
def nDrop (A : As) (v : Int32) : As × Int32 := if inN v (nI 4096) = false then (aRf A (-1), -1) else if sa A (224 + v.toNatClampNeg) = 0 then (aRf A (-3), -3) else (aGr A (up1 (up1 (sa A) 4324 (sa A 4324 - 1)) (224 + v.toNatClampNeg) (sa A (224 + v.toNatClampNeg) - 1)), nI (sa A (224 + v.toNatClampNeg) - 1))
theorem R_drop {A : As} {nn : Nat} {v : Int32} (h : RI I A nn) (hn : nn < 99999) : RCall xs Ln (d + 3) 252 [.ref 82, .int v] D I L (nDrop A v).1 nn (nDrop A v).2 := by
  have hA := h.2.1
  have h200 := hA.2.2.2.2.1
  unfold nDrop
  cases h0 : inN v (nI 4096) with
  | false => exact RC_rf rc1 h (r_drop1 (by rw [iR40, h0]))
  | true =>
    rw [if_neg (by decide)]
    obtain ⟨v, hv, rfl⟩ := inN_t (by decide) h0
    rw [n_cl (by omega)]
    have hs := h.sm hv
    by_cases h5 : sa A (224 + v) = 0
    · rw [if_pos h5]
      exact RC_rf rc3 h (r_drop3 (by rw [iR40, h0]) hv (rc_5 h (by omega) (by omega) (by omega) h5 rfl))
    · rw [if_neg h5]
      have hc := r_drop (xs := xs) (Ln := Ln) (d := d) (D := D) (I := I) (L := L) (v := v) (n := sa A 4324 - 1) (m := sa A (224 + v) - 1) (by rw [iR40, h0]) hv (rc_5 h (by decide) (by decide) (by decide) (show sa A 4324 = sa A 4324 - 1 + 1 by omega) rfl) (rc_5 h (by omega) (by omega) (by omega) (show sa A (224 + v) = sa A (224 + v) - 1 + 1 by omega) rfl) (by omega)
      exact RC_gr h hn (CF_84 (CF_84 (CF.rf I))) (RK_u (by omega) (by omega) (RK_u (by omega) (by omega) h.1)) (AW_store hA hv (by omega) (by omega)) hc
end P84
