section P85
variable {xs : Nat → Int32} {Ln d : Nat} {D : Dyn} {I : Nat → Nat → Int32} {L : Nat → Nat → Int64} {w : Om}
-- place
def plcA (a : Nat → Nat) (p v n : Nat) : Nat → Nat := itr (fun i b => up1 b (28 + 12 * i + p) p) n (up1 a p v)
theorem plcA_o {a : Nat → Nat} {p v j : Nat} (h0 : j ≠ p) : ∀ n, (∀ i, i < n → j ≠ 28 + 12 * i + p) → plcA a p v n j = a j
  | 0, _ => up1_n _ _ h0
  | n + 1, h => by
    show up1 (plcA a p v n) (28 + 12 * n + p) p j = a j
    rw [up1_n _ _ (h n (by omega))]
    exact plcA_o h0 n (fun i hi => h i (by omega))
theorem plcA_p {a : Nat → Nat} {p v : Nat} : ∀ n, plcA a p v n p = v
  | 0 => up1_s _ _ _
  | n + 1 => by
    show up1 (plcA a p v n) (28 + 12 * n + p) p p = v
    rw [up1_n _ _ (by omega)]
    exact plcA_p n
theorem plcA_s {a : Nat → Nat} {p v i : Nat} : ∀ n, i < n → plcA a p v n (28 + 12 * i + p) = p
  | 0, h => by omega
  | n + 1, h => by
    show up1 (plcA a p v n) (28 + 12 * n + p) p (28 + 12 * i + p) = p
    by_cases e : i = n
    · rw [e, up1_s]
    · rw [up1_n _ _ (by omega)]
      exact plcA_s n (by omega)
theorem RK_place {a : Nat → Nat} {p v : Nat} (hK : RK I a) (hp : p < 12) : ∀ n, n ≤ 8 → RK (itr (fun i J => up2 J 84 (28 + 12 * i + p) (nI p)) n (up2 I 84 p (nI v))) (plcA a p v n)
  | 0, _ => RK_u (by omega) (by omega) hK
  | n + 1, h => RK_u (by omega) (by omega) (RK_place hK hp n (by omega))
theorem CF_place {p : Nat} {v : Int32} : ∀ n, CF I (itr (fun i J => up2 J 84 (28 + 12 * i + p) (nI p)) n (up2 I 84 p v))
  | 0 => CF_84 (CF.rf I)
  | n + 1 => CF_84 (CF_place n)
theorem AW_place {a : Nat → Nat} {v : Nat} (hA : AW a) (h12 : a 4320 < 12) (hv : v < 4) : AW (up1 (plcA a (a 4320) v 8) 4320 (a 4320 + 1)) := by
  have hA' := hA
  obtain ⟨h1, h2, h3, h4, h5, h6, h7, h8, h9, h10, h11, h12', h13, h14, h15, h16⟩ := hA
  have hn : ∀ j, ((12 ≤ j ∧ j < 28) ∨ 124 ≤ j) → j ≠ 4320 → (up1 (plcA a (a 4320) v 8) 4320 (a 4320 + 1)) j = a j := fun j q1 q2 => by rw [up1_n _ _ q2, plcA_o (by omega) 8 (fun i hi => by omega)]
  unfold AW
  rw [up1_s, hn 4321 (by decide) (by decide), hn 4322 (by decide) (by decide), hn 4323 (by decide) (by decide), hn 4324 (by decide) (by decide), hn 4325 (by decide) (by decide), hn 4326 (by decide) (by decide), hn 4327 (by decide) (by decide)]
  refine ⟨(by omega), h2, h3, h4, h5, h6, h7, h8, ?_, ?_, ?_, ?_, ?_, ?_, ?_, ?_⟩
  · intro p hp
    rw [up1_n _ _ (by omega)]
    by_cases e : p = a 4320
    · rw [e, plcA_p]; exact hv
    · rw [plcA_o e 8 (fun i hi => by omega)]; exact h9 p (by omega)
  · intro w hw
    rw [hn _ (by omega) (by omega), hn _ (by omega) (by omega)]
    exact h10 w hw
  · intro w p hw hp
    rw [up1_n _ _ (by omega)]
    by_cases e : p = a 4320
    · rw [e, plcA_s 8 (by omega)]; omega
    · rw [plcA_o (by omega) 8 (fun i hi => by omega)]
      have := h11 w p hw hp
      omega
  · intro k w hk hw
    rw [hn _ (by omega) (by omega)]
    exact h12' k w hk hw
  · intro i hi
    rw [hn _ (by omega) (by omega), hn _ (by omega) (by omega)]
    have := h13 i hi
    omega
  · intro i hi
    rw [hn _ (by omega) (by omega)]
    exact h14 i hi
  · intro t ht
    rw [LwOK_e (fun j hj => hn j (by omega) (by omega))]
    exact h15 t ht
  · rw [← h16]
    exact smN_c 4096 (fun i hi => hn _ (by omega) (by omega))
def nPlace (A : As) (v : Int32) : As × Int32 := if inN v (nI 4) = false then (aRf A (-1), -1) else if 12 ≤ sa A 4320 then (aRf A (-5), -5) else (aGr A (up1 (plcA (sa A) (sa A 4320) v.toNatClampNeg 8) 4320 (sa A 4320 + 1)), nI (sa A 4320))
theorem R_place {A : As} {nn : Nat} {v : Int32} (h : RI I A nn) (hn : nn < 99999) : RCall xs Ln (d + 2) 168 [.ref 82, .int v] D I L (nPlace A v).1 nn (nPlace A v).2 := by
  have hA := h.2.1
  have hp12 := hA.1
  unfold nPlace
  cases h0 : inN v (nI 4) with
  | false => exact RC_rf rc1 h (r_place1 (by rw [iR4, h0]))
  | true =>
    rw [if_neg (by decide)]
    by_cases h5 : 12 ≤ sa A 4320
    · rw [if_pos h5]
      exact RC_rf rc5 h (r_place5 (by rw [iR4, h0]) (rc_5 h (by decide) (by decide) (by decide) (show sa A 4320 = 12 by omega) rfl))
    · rw [if_neg h5]
      obtain ⟨v, hv, rfl⟩ := inN_t (by decide) h0
      have hc := r_place (xs := xs) (Ln := Ln) (d := d) (D := D) (I := I) (L := L) (v := nI v) (p := sa A 4320) (by rw [iR4, h0]) (h.e (by decide) (by decide) (by decide)) (by omega)
      rw [n_cl (by omega)]
      exact RC_gr h hn (CF_84 (CF_place 8)) (RK_u (by omega) (by omega) (RK_place h.1 (by omega) 8 (by omega))) (AW_place hA (by omega) hv) hc
-- word
def wrA (a : Nat → Nat) (p x y n : Nat) : Nat → Nat := itr (fun i b => up1 b (28 + 12 * p + i) i) n (up1 (up1 a (12 + 2 * p) x) (12 + 2 * p + 1) y)
theorem wrA_o {a : Nat → Nat} {p x y j : Nat} : ∀ n, (∀ i, i < n → j ≠ 28 + 12 * p + i) → wrA a p x y n j = up1 (up1 a (12 + 2 * p) x) (12 + 2 * p + 1) y j
  | 0, _ => rfl
  | n + 1, h => by
    show up1 (wrA a p x y n) (28 + 12 * p + n) n j = _
    rw [up1_n _ _ (h n (by omega))]
    exact wrA_o n (fun i hi => h i (by omega))
theorem wrA_s {a : Nat → Nat} {p x y i : Nat} : ∀ n, i < n → wrA a p x y n (28 + 12 * p + i) = i
  | 0, h => by omega
  | n + 1, h => by
    show up1 (wrA a p x y n) (28 + 12 * p + n) n (28 + 12 * p + i) = i
    by_cases e : i = n
    · rw [e, up1_s]
    · rw [up1_n _ _ (by omega)]
      exact wrA_s n (by omega)
theorem RK_word {a : Nat → Nat} {p x y : Nat} (hK : RK I a) (hp : p < 8) : ∀ n, n ≤ 12 → RK (wrdR I p n (nI x) (nI y)) (wrA a p x y n)
  | 0, _ => RK_u (by omega) (by omega) (RK_u (by omega) (by omega) hK)
  | n + 1, h => RK_u (by omega) (by omega) (RK_word hK hp n (by omega))
theorem CF_word {p : Nat} {x y : Int32} : ∀ n, CF I (wrdR I p n x y)
  | 0 => CF_84 (CF_84 (CF.rf I))
  | n + 1 => CF_84 (CF_word n)
def wrB (a : Nat → Nat) (p x y : Nat) : Nat → Nat := up1 (up1 (up1 (wrA a p x y 12) (124 + p) (p + 1)) (132 + p) (p + 1)) 4321 (p + 1)
theorem AW_word {a : Nat → Nat} {x y : Nat} (hA : AW a) (h8w : a 4321 < 8) (hx : x < 8) (hy : y < 8) : AW (wrB a (a 4321) x y) := by
  have hA' := hA
  obtain ⟨h1, h2, h3, h4, h5, h6, h7, h8, h9, h10, h11, h12, h13, h14, h15, h16⟩ := hA
  have hn : ∀ j, (j < 12 ∨ 140 ≤ j) → j ≠ 4321 → (wrB a (a 4321) x y) j = a j := fun j q1 q2 => by unfold wrB; rw [up1_n _ _ q2, up1_n _ _ (by omega), up1_n _ _ (by omega), wrA_o 12 (fun i hi => by omega), up1_n _ _ (by omega), up1_n _ _ (by omega)]
  have h21 : wrB a (a 4321) x y 4321 = a 4321 + 1 := by unfold wrB; rw [up1_s]
  unfold AW
  rw [hn 4320 (by decide) (by decide), h21, hn 4322 (by decide) (by decide), hn 4323 (by decide) (by decide), hn 4324 (by decide) (by decide), hn 4325 (by decide) (by decide), hn 4326 (by decide) (by decide), hn 4327 (by decide) (by decide)]
  refine ⟨h1, (by omega), h3, h4, h5, h6, h7, h8, ?_, ?_, ?_, ?_, ?_, ?_, ?_, ?_⟩
  · intro p hp
    rw [hn _ (by omega) (by omega)]
    exact h9 p hp
  · intro w hw
    unfold wrB
    rw [up1_n _ _ (by omega), up1_n _ _ (by omega), up1_n _ _ (by omega), wrA_o 12 (fun i hi => by omega), up1_n (j := 12 + 2 * w + 1) (k := 4321) _ _ (by omega), up1_n (j := 12 + 2 * w + 1) (k := 132 + a 4321) _ _ (by omega), up1_n (j := 12 + 2 * w + 1) (k := 124 + a 4321) _ _ (by omega), wrA_o 12 (fun i hi => by omega)]
    by_cases e : w = a 4321
    · rw [e, up1_n _ _ (by omega), up1_s, up1_s]; exact ⟨hx, hy⟩
    · rw [up1_n _ _ (by omega), up1_n _ _ (by omega), up1_n _ _ (by omega), up1_n _ _ (by omega)]; exact h10 w (by omega)
  · intro w p hw hp
    unfold wrB
    rw [up1_n _ _ (by omega), up1_n _ _ (by omega), up1_n _ _ (by omega)]
    by_cases e : w = a 4321
    · rw [e, wrA_s 12 (by omega)]; exact ⟨fun h => h, fun _ => rfl⟩
    · rw [wrA_o 12 (fun i hi => by omega), up1_n _ _ (by omega), up1_n _ _ (by omega)]
      exact h11 w p (by omega) hp
  · intro k w hk hw
    unfold wrB
    rw [up1_n _ _ (by omega)]
    by_cases e : 124 + (8 * k + w) = 132 + a 4321
    · rw [e, up1_s]; exact Nat.le_refl _
    · rw [up1_n _ _ e]
      by_cases e2 : 124 + (8 * k + w) = 124 + a 4321
      · rw [e2, up1_s]; exact Nat.le_refl _
      · rw [up1_n _ _ e2, wrA_o 12 (fun i hi => by omega), up1_n _ _ (by omega), up1_n _ _ (by omega)]
        have := h12 k w hk (by omega)
        omega
  · intro i hi
    rw [hn _ (by omega) (by omega), hn _ (by omega) (by omega)]
    exact h13 i hi
  · intro i hi
    rw [hn _ (by omega) (by omega)]
    have := h14 i hi
    omega
  · intro t ht
    rw [LwOK_e (fun j hj => hn j (by omega) (by omega))]
    exact h15 t ht
  · rw [← h16]
    exact smN_c 4096 (fun i hi => hn _ (by omega) (by omega))
def nWord (A : As) (x y : Int32) : As × Int32 := if (inN x (nI 8) && inN y (nI 8)) = false then (aRf A (-1), -1) else if 8 ≤ sa A 4321 then (aRf A (-5), -5) else (aGr A (wrB (sa A) (sa A 4321) x.toNatClampNeg y.toNatClampNeg), nI (sa A 4321))
theorem R_word {A : As} {nn : Nat} {x y : Int32} (h : RI I A nn) (hn : nn < 99999) : RCall xs Ln (d + 2) 170 [.ref 82, .int x, .int y] D I L (nWord A x y).1 nn (nWord A x y).2 := by
  have hA := h.2.1
  have hp12 := hA.2.1
  unfold nWord
  cases h0 : inN x (nI 8) with
  | false => exact RC_rf rc1 h (r_word1 (by rw [iR8, h0]; exact Or.inl rfl))
  | true =>
    cases h1 : inN y (nI 8) with
    | false => exact RC_rf rc1 h (r_word1 (by rw [iR8, iR8, h1]; exact Or.inr rfl))
    | true =>
      rw [if_neg (by decide)]
      by_cases h5 : 8 ≤ sa A 4321
      · rw [if_pos h5]
        exact RC_rf rc5 h (r_word5 (by rw [iR8, h0]) (by rw [iR8, h1]) (rc_5 h (by decide) (by decide) (by decide) (show sa A 4321 = 8 by omega) rfl))
      · rw [if_neg h5]
        obtain ⟨x, hx, rfl⟩ := inN_t (by decide) h0
        obtain ⟨y, hy, rfl⟩ := inN_t (by decide) h1
        have hc := r_word (xs := xs) (Ln := Ln) (d := d) (D := D) (I := I) (L := L) (a := nI x) (b := nI y) (p := sa A 4321) (by rw [iR8, h0]) (by rw [iR8, h1]) (h.e (by decide) (by decide) (by decide)) (by omega)
        rw [n_cl (by omega), n_cl (by omega)]
        exact RC_gr h hn (CF_84 (CF_84 (CF_84 (CF_word 12)))) (RK_u (by omega) (by omega) (RK_um (v := sa A 4321 + 1) (by omega) (RK_um (v := sa A 4321 + 1) (by omega) (RK_word h.1 (by omega) 12 (by omega))))) (AW_word hA (by omega) hx hy) hc
end P85
