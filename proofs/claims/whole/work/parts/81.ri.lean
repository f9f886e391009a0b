section P81
variable {xs : Nat → Int32} {Ln d : Nat} {D : Dyn} {I : Nat → Nat → Int32} {L : Nat → Nat → Int64} {w : Om}
/-! All that answers rest on: the maze, two images, status, refusals, stray, fault, tape and its length, what was drawn. -/
abbrev As : Type := (Nat → Nat) × (Nat → Option (Nat → Nat)) × Int32 × (Nat → Nat) × Nat × Option Nat × (Nat → Nat) × Nat × Option (Nat × Nat × (Nat → Nat))
abbrev sa (A : As) : Nat → Nat := A.1
abbrev sim (A : As) : Nat → Option (Nat → Nat) := A.2.1
abbrev sst (A : As) : Int32 := A.2.2.1
abbrev srf (A : As) : Nat → Nat := A.2.2.2.1
abbrev ssy (A : As) : Nat := A.2.2.2.2.1
abbrev sfl (A : As) : Option Nat := A.2.2.2.2.2.1
abbrev stB (A : As) : Nat → Nat := A.2.2.2.2.2.2.1
abbrev stn (A : As) : Nat := A.2.2.2.2.2.2.2.1
abbrev shn (A : As) : Option (Nat × Nat × (Nat → Nat)) := A.2.2.2.2.2.2.2.2
def RKr (r : Nat → Int32) (a : Nat → Nat) : Prop := (∀ j, j < 124 → r j = nI (a j)) ∧ (∀ j, j < 16 → r (124 + j) = nM (a (124 + j))) ∧ (∀ j, 140 ≤ j → j < 9134 → j ≠ 4326 → r j = nI (a j)) ∧ r 4326 = nM (a 4326)
def HnR (I : Nat → Nat → Int32) (h : Option (Nat × Nat × (Nat → Nat))) : Prop := match h with
  | none => I 82 41 = m1
  | some q => I 82 41 = nI q.1 ∧ q.1 ≤ 12 ∧ I 82 42 = nI q.2.1 ∧ q.2.1 < 8 ∧ ∀ i, i < q.1 → I 102 i = nI (q.2.2 i)
def RI (I : Nat → Nat → Int32) (A : As) (nn : Nat) : Prop :=
  RK I (sa A) ∧ AW (sa A) ∧ (∃ v, RIc I (sa A) v ∧ v ≤ nn) ∧
  (∀ k, k < 2 → I 86 k = b2i (sim A k).isSome ∧ ∀ b, sim A k = some b → RKr (fun j => I 85 (9134 * k + j)) b ∧ AW b) ∧
  I 82 0 = sst A ∧ (∀ j, j < 7 → I 83 j = nI (srf A j)) ∧ I 82 6 = nI (ssy A) ∧ I 82 11 = nO (sfl A) ∧
  (I 82 10 = nI (stn A) ∧ stn A ≤ 400 ∧ ∀ j, j < 400 → I 88 j = tb (stB A j) ∧ stB A j < 256) ∧
  HnR I (shn A) ∧ (∀ j, j < 66 → I 87 j = nmB j)
theorem RI.q {I' : Nat → Nat → Int32} {A : As} {nn : Nat} (h : RI I A nn) (hf : QF I I') {v : Nat} (hc : RIc I' (sa A) v) (hv : v ≤ nn) : RI I' A nn := by
  obtain ⟨h1, h2, h3, h4, h5, h6, h7, h8, h9, h10, h11⟩ := h
  refine ⟨hf.rk h1, h2, ⟨v, hc, hv⟩, ?_, ?_, ?_, ?_, ?_, ?_, ?_, ?_⟩
  · rw [hf.1 85 (by omega), hf.1 86 (by omega)]; exact h4
  · rw [hf.2 0 (by omega)]; exact h5
  · rw [hf.1 83 (by omega)]; exact h6
  · rw [hf.2 6 (by omega)]; exact h7
  · rw [hf.2 11 (by omega)]; exact h8
  · rw [hf.2 10 (by omega), hf.1 88 (by omega)]; exact h9
  · unfold HnR
    rw [hf.2 41 (by omega), hf.2 42 (by omega), hf.1 102 (by omega)]
    exact h10
  · rw [hf.1 87 (by omega)]; exact h11
/-- what the class leaves to the reference -/
def RFr (I I' : Nat → Nat → Int32) : Prop := ∀ k, (k < 82 ∨ 102 < k) → I' k = I k
theorem RFr.rf (I : Nat → Nat → Int32) : RFr I I := fun _ _ => rfl
theorem RFr.tr {I I' I'' : Nat → Nat → Int32} (h : RFr I I') (h' : RFr I' I'') : RFr I I'' := fun k hk => by rw [h' k hk, h k hk]
theorem QF.r {I' : Nat → Nat → Int32} (h : QF I I') : RFr I I' := fun k hk => h.1 k (by omega)
/-- a call of the reference: its answer, and what it leaves -/
def RCall (xs : Nat → Int32) (Ln d num : Nat) (as : List Value) (D : Dyn) (I : Nat → Nat → Int32) (L : Nat → Nat → Int64) (A' : As) (nn : Nat) (x : Int32) : Prop := Ok (callD xs Ln d num as (mkW D I L)) (fun q => ∃ I' L', q = (mkW D I' L', some (.int x)) ∧ RI I' A' (nn + 1) ∧ RFr I I')
theorem RI.up {A : As} {nn : Nat} (h : RI I A nn) : RI I A (nn + 1) := by
  obtain ⟨h1, h2, ⟨v, hc, hv⟩, h4⟩ := h
  exact ⟨h1, h2, ⟨v, hc, by omega⟩, h4⟩
theorem Ans.r {A : As} {nn v num : Nat} {as : List Value} {x : Int32} (h : RI I A nn) (hv : v ≤ nn) (ha : Ans xs Ln d num as D I L (sa A) v x) : RCall xs Ln d num as D I L A nn x := by
  refine Ok.mono ha ?_
  rintro q ⟨I', L', rfl, hf, hc⟩
  exact ⟨_, _, rfl, (h.q hf hc hv).up, hf.r⟩
/-- refused -/
def aRf (A : As) (y : Int32) : As := (sa A, sim A, y, up1 (srf A) (-y).toNatClampNeg (srf A (-y).toNatClampNeg + 1), ssy A, sfl A, stB A, stn A, shn A)
theorem isRc_lt {y : Int32} (hy : isRc y) : (-y).toNatClampNeg < 7 := by
  rcases hy with rfl | rfl | rfl | rfl | rfl <;> decide
theorem RI_rf {A : As} {nn : Nat} {y : Int32} (hy : isRc y) (h : RI I A nn) : RI (rfR I y) (aRf A y) nn := by
  obtain ⟨h1, h2, ⟨v, hc, hv⟩, h4, h5, h6, h7, h8, h9, h10, h11⟩ := h
  have h7y := isRc_lt hy
  have hk : ∀ k, k ≠ 82 → k ≠ 83 → rfR I y k = I k := fun k q1 q2 => by
    unfold rfR
    rw [up2_ro _ _ _ q2, up2_ro _ _ _ q1]
  have hj : ∀ j, j ≠ 0 → rfR I y 82 j = I 82 j := fun j q => by
    unfold rfR
    rw [up2_k _ _ _ _ (by decide), up2_j _ _ _ q]
  refine ⟨?_, h2, ⟨v, ?_, hv⟩, ?_, ?_, ?_, ?_, ?_, ?_, ?_, ?_⟩
  · unfold RK; rw [hk 84 (by decide) (by decide)]; exact h1
  · unfold RIc RLk LKb LKg RSi
    rw [hk 94 (by decide) (by decide), hk 95 (by decide) (by decide), hk 101 (by decide) (by decide), hj 1 (by decide), hj 27 (by decide), hj 39 (by decide)]
    exact hc
  · rw [hk 85 (by decide) (by decide), hk 86 (by decide) (by decide)]; exact h4
  · unfold rfR; rw [up2_k _ _ _ _ (by decide), up2_s]; rfl
  · intro j hj7
    show _ = nI (up1 (srf A) (-y).toNatClampNeg (srf A (-y).toNatClampNeg + 1) j)
    unfold rfR
    by_cases hjy : j = (-y).toNatClampNeg
    · rw [hjy, up2_s, up1_s, h6 _ h7y]
      exact nI_1 _
    · rw [up2_j _ _ _ hjy, up2_k _ _ _ _ (by decide), up1_n _ _ hjy]
      exact h6 j hj7
  · rw [hj 6 (by decide)]; exact h7
  · rw [hj 11 (by decide)]; exact h8
  · rw [hj 10 (by decide), hk 88 (by decide) (by decide)]; exact h9
  · show HnR _ (shn A)
    unfold HnR
    rw [hj 41 (by decide), hj 42 (by decide), hk 102 (by decide) (by decide)]
    exact h10
  · rw [hk 87 (by decide) (by decide)]; exact h11
theorem RFr_rf {y : Int32} : RFr I (rfR I y) := fun k hk => by
  unfold rfR
  rw [up2_ro _ _ _ (by omega), up2_ro _ _ _ (by omega)]
/-- granted, with another maze -/
def aGr (A : As) (a' : Nat → Nat) : As := (a', sim A, 0, srf A, ssy A, sfl A, stB A, stn A, shn A)
theorem RIc_v {I' : Nat → Nat → Int32} {a a' : Nat → Nat} {v : Nat} (hc : RIc I a v) (hv : v + 1 < 100000) (e1 : I' 82 1 = nI (v + 1)) (e27 : I' 82 27 = I 82 27) (e39 : I' 82 39 = I 82 39) : RIc I' a' (v + 1) := by
  obtain ⟨c1', c2, ⟨mb, c3, c4⟩, c5, ⟨sb, c6, c7⟩, c8⟩ := hc
  have hno : ∀ (mb : Option Nat), (∀ x, mb = some x → x ≤ v) → nO mb ≠ nI (v + 1) := by
    intro mb h he
    cases mb with
    | none => rw [nO_n, m1_n (by omega)] at he; exact he
    | some x =>
      have := h x rfl
      rw [nO_s, n_eq (by omega) (by omega)] at he
      omega
  refine ⟨e1, hv, ⟨mb, by rw [e27, c3], fun x hx => by have := c4 x hx; omega⟩, fun h => ?_, ⟨sb, by rw [e39, c6], fun x hx => by have := c7 x hx; omega⟩, fun h => ?_⟩
  · rw [e27, c3, e1] at h
    exact absurd h (hno mb c4)
  · rw [e39, c6, e1] at h
    exact absurd h (hno sb c7)
/-- what a change of the maze leaves of the rest -/
def CF (I J : Nat → Nat → Int32) : Prop := (∀ k, (k < 82 ∨ 102 < k ∨ k = 83 ∨ (85 ≤ k ∧ k ≤ 88) ∨ k = 102) → J k = I k) ∧ (∀ j, (j < 15 ∨ j = 27 ∨ 39 ≤ j) → J 82 j = I 82 j)
theorem CF.rf (I : Nat → Nat → Int32) : CF I I := ⟨fun _ _ => rfl, fun _ _ => rfl⟩
theorem RI_gr {J : Nat → Nat → Int32} {A : As} {nn : Nat} {a' : Nat → Nat} (h : RI I A nn) (hn : nn < 99999) (hf : CF I J) (hK : RK J a') (hA : AW a') : RI (grR J) (aGr A a') (nn + 1) := by
  obtain ⟨h1, h2, ⟨v, hc, hv⟩, h4, h5, h6, h7, h8, h9, h10, h11⟩ := h
  have hk : ∀ k, k ≠ 82 → grR J k = J k := fun k q1 => by
    unfold grR
    rw [up2_ro _ _ _ q1, up2_ro _ _ _ q1]
  have hj : ∀ j, j ≠ 0 → j ≠ 1 → grR J 82 j = J 82 j := fun j q q1 => by
    unfold grR
    rw [up2_j _ _ _ q1, up2_j _ _ _ q]
  have h1j : grR J 82 1 = nI (v + 1) := by
    unfold grR
    rw [up2_s, hf.2 1 (by omega), hc.1]
    exact nI_1 _
  refine ⟨?_, hA, ⟨v + 1, RIc_v hc (by omega) h1j (by rw [hj 27 (by decide) (by decide), hf.2 27 (by omega)]) (by rw [hj 39 (by decide) (by decide), hf.2 39 (by omega)]), by omega⟩, ?_, ?_, ?_, ?_, ?_, ?_, ?_, ?_⟩
  · unfold RK; rw [hk 84 (by decide)]; exact hK
  · rw [hk 85 (by decide), hk 86 (by decide), hf.1 85 (by omega), hf.1 86 (by omega)]; exact h4
  · unfold grR; rw [up2_j _ _ _ (by decide), up2_s]; rfl
  · rw [hk 83 (by decide), hf.1 83 (by omega)]; exact h6
  · rw [hj 6 (by decide) (by decide), hf.2 6 (by omega)]; exact h7
  · rw [hj 11 (by decide) (by decide), hf.2 11 (by omega)]; exact h8
  · rw [hj 10 (by decide) (by decide), hk 88 (by decide), hf.2 10 (by omega), hf.1 88 (by omega)]; exact h9
  · show HnR _ (shn A)
    unfold HnR
    rw [hj 41 (by decide) (by decide), hj 42 (by decide) (by decide), hk 102 (by decide), hf.2 41 (by omega), hf.2 42 (by omega), hf.1 102 (by omega)]
    exact h10
  · rw [hk 87 (by decide), hf.1 87 (by omega)]; exact h11
theorem RFr_gr {J : Nat → Nat → Int32} (hf : CF I J) : RFr I (grR J) := fun k hk => by
  unfold grR
  rw [up2_ro _ _ _ (by omega), up2_ro _ _ _ (by omega)]
  exact hf.1 k (by omega)
/-- what say leaves -/
def sayA (a : Nat → Nat) (wd : Nat) (n : Nat) (j : Nat) : Nat := if 140 ≤ j ∧ j < 140 + 2 * n ∧ (j - 140) % 2 = 0 then goA a (a (j + 1)) wd (a 4327) (a j) else a j
def tkn (a : Nat → Nat) (wd : Nat) : Nat → Nat
  | 0 => 0
  | n + 1 => tkn a wd n ||| 2 ^ goA a (a (140 + 2 * n + 1)) wd (a 4327) (a (140 + 2 * n))
theorem tkn_lt {a : Nat → Nat} (hA : AW a) {wd : Nat} (hw : wd < a 4321) : ∀ n, n ≤ a 4322 → tkn a wd n < 4096
  | 0, _ => by show 0 < _; decide
  | n + 1, h => by
    have h13 := hA.2.2.2.2.2.2.2.2.2.2.2.2.1 n (by omega)
    have := goA_lt hA (e := a 4327) h13.2 hw h13.1
    have h1 := hA.1
    exact Nat.or_lt_two_pow (n := 12) (tkn_lt hA hw n (by omega)) (Nat.pow_lt_pow_right (by decide) (by omega))
def pcN (s : Nat) : Nat → Nat
  | 0 => 0
  | n + 1 => pcN s n + s / 2 ^ n % 2
theorem pcN_le (s : Nat) : ∀ n, pcN s n ≤ n
  | 0 => Nat.le_refl _
  | n + 1 => by
    have := pcN_le s n
    unfold pcN
    omega
end P81
