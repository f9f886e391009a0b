section P62
variable {xs : Nat → Int32} {Ln d : Nat} {D : Dyn} {I : Nat → Nat → Int32} {L : Nat → Nat → Int64} {w : Om}
def anyN (p : Nat → Bool) : Nat → Bool
  | 0 => false
  | n + 1 => anyN p n || p n
def allN (p : Nat → Bool) : Nat → Bool
  | 0 => true
  | n + 1 => allN p n && p n
theorem anyN_iff (p : Nat → Bool) : ∀ n, anyN p n = true ↔ ∃ i, i < n ∧ p i = true
  | 0 => by simp [anyN]
  | n + 1 => by
    unfold anyN
    rw [Bool.or_eq_true, anyN_iff p n]
    constructor
    · rintro (⟨i, h1, h2⟩ | h)
      · exact ⟨i, by omega, h2⟩
      · exact ⟨n, by omega, h⟩
    · rintro ⟨i, h1, h2⟩
      by_cases h : i = n
      · subst h; exact Or.inr h2
      · exact Or.inl ⟨i, by omega, h2⟩
theorem allN_iff (p : Nat → Bool) : ∀ n, allN p n = true ↔ ∀ i, i < n → p i = true
  | 0 => by simp [allN]
  | n + 1 => by
    unfold allN
    rw [Bool.and_eq_true, allN_iff p n]
    constructor
    · rintro ⟨h1, h2⟩ i hi
      by_cases h : i = n
      · subst h; exact h2
      · exact h1 i (by omega)
    · intro h
      exact ⟨fun i hi => h i (by omega), h n (by omega)⟩
/-- the least number below n with p -/
def lst (p : Nat → Bool) : Nat → Option Nat
  | 0 => none
  | n + 1 => match lst p n with
    | some i => some i
    | none => if p n = true then some n else none
theorem lst_s (p : Nat → Bool) : ∀ n i, lst p n = some i ↔ i < n ∧ p i = true ∧ ∀ j, j < i → p j = false
  | 0, i => by simp [lst]
  | n + 1, i => by
    unfold lst
    cases h : lst p n with
    | some k =>
      have hk := (lst_s p n k).mp h
      dsimp only
      constructor
      · intro e
        cases e
        exact ⟨by omega, hk.2⟩
      · rintro ⟨h1, h2, h3⟩
        by_cases hin : i < n
        · have := (lst_s p n i).mpr ⟨hin, h2, h3⟩
          rw [h] at this
          exact this
        · have hin' : i = n := by omega
          subst hin'
          have := h3 k hk.1
          rw [hk.2.1] at this
          cases this
    | none =>
      dsimp only
      have hn : ∀ j, j < n → p j = false := by
        intro j hj
        cases hp : p j
        · rfl
        · exfalso
          have : ∀ m, m < n → (∀ j, j < m → p j = false) ∨ (∃ j, j < m ∧ lst p n = some j) := by
            intro m
            induction m with
            | zero => intro _; exact Or.inl (fun j hj => by omega)
            | succ m ih =>
              intro hm
              rcases ih (by omega) with q | ⟨j, q1, q2⟩
              · cases hpm : p m
                · left
                  intro j hj
                  by_cases hjm : j = m
                  · subst hjm; exact hpm
                  · exact q j (by omega)
                · right
                  exact ⟨m, by omega, (lst_s p n m).mpr ⟨by omega, hpm, q⟩⟩
              · right
                exact ⟨j, by omega, q2⟩
          rcases this j hj with q | ⟨k, q1, q2⟩
          · have := (lst_s p n j).mpr ⟨hj, hp, q⟩
            rw [h] at this
            cases this
          · rw [h] at q2
            cases q2
      constructor
      · intro e
        split at e
        · rename_i hp
          cases e
          exact ⟨by omega, hp, hn⟩
        · cases e
      · rintro ⟨h1, h2, h3⟩
        by_cases hin : i < n
        · rw [hn i hin] at h2
          cases h2
        · have hin' : i = n := by omega
          subst hin'
          rw [if_pos h2]
theorem lst_n (p : Nat → Bool) (n : Nat) : lst p n = none ↔ ∀ i, i < n → p i = false := by
  constructor
  · intro h i
    induction i using Nat.strongRecOn with
    | ind i ih =>
      intro hi
      cases hp : p i
      · rfl
      · have := (lst_s p n i).mpr ⟨hi, hp, fun j hj => ih j hj (by omega)⟩
        rw [h] at this
        cases this
  · intro h
    cases hl : lst p n with
    | none => rfl
    | some i =>
      have := (lst_s p n i).mp hl
      rw [h i this.1] at this
      cases this.2.1
/-- the places of a colour -/
def cpl (a : Nat → Nat) (c : Nat) : Nat → Nat
  | 0 => 0
  | n + 1 => cpl a c n ||| (if a n = c then 2 ^ n else 0)
def ptA (a : Nat → Nat) (st w c : Nat) : Nat := sbN (goA a) 1 (st / 8) w (st % 8) &&& cpl a c (a 4320)
/-- found out within n words -/
def sgW (a : Nat → Nat) : Nat → Nat → Bool
  | 0, st => (tog 1 (st / 8)).isSome
  | n + 1, st => sgW a n st || anyN (fun w => !brA a w (st % 8) && allN (fun c => decide (ptA a st w c = 0) || sgW a n (8 * ptA a st w c + dbA a w (st % 8))) 4) (a 4321)
theorem bnd_ex : ∃ n : Nat, n = 32769 := ⟨_, rfl⟩
noncomputable def bnd : Nat := Classical.choose bnd_ex
theorem bnd_e : bnd = 32769 := Classical.choose_spec bnd_ex
noncomputable def sgA (a : Nat → Nat) (st : Nat) : Option Nat := lst (fun n => sgW a n st) bnd
def RSi (I : Nat → Nat → Int32) (a : Nat → Nat) : Prop := ∀ k, 8 ≤ k → k < 8 * 2 ^ a 4320 → I 101 k = nO (sgA a k)
/-- what the reference keeps of its own -/
def RIc (I : Nat → Nat → Int32) (a : Nat → Nat) (v : Nat) : Prop := I 82 1 = nI v ∧ v < 100000 ∧ (∃ mb, I 82 27 = nO mb ∧ ∀ x, mb = some x → x ≤ v) ∧ (I 82 27 = I 82 1 → RLk I a) ∧ (∃ sb, I 82 39 = nO sb ∧ ∀ x, sb = some x → x ≤ v) ∧ (I 82 39 = I 82 1 → RSi I a)
/-- what a question to the reference leaves -/
def QF (I I' : Nat → Nat → Int32) : Prop := (∀ k, (k < 82 ∨ 102 < k ∨ (83 ≤ k ∧ k ≤ 88) ∨ k = 102) → I' k = I k) ∧ (∀ j, (j < 15 ∨ 39 < j) → I' 82 j = I 82 j)
theorem QF.rf (I : Nat → Nat → Int32) : QF I I := ⟨fun _ _ => rfl, fun _ _ => rfl⟩
theorem QF.tr {I I' I'' : Nat → Nat → Int32} (h : QF I I') (h' : QF I' I'') : QF I I'' := ⟨fun k hk => by rw [h'.1 k hk, h.1 k hk], fun j hj => by rw [h'.2 j hj, h.2 j hj]⟩
theorem QF.fk {I I' : Nat → Nat → Int32} (h : FK I I') : QF I I' := ⟨fun k hk => h.1 k (by omega) (by omega) (by omega) (by omega), fun j hj => h.2 j (by omega)⟩
theorem QF.rk {I I' : Nat → Nat → Int32} {a : Nat → Nat} (h : QF I I') (hK : RK I a) : RK I' a := by
  have := h.1 84 (by omega)
  unfold RK
  rw [this]
  exact hK
/-- what lies behind a look, and stays: rows 94, 95, 101 and the numbers of the caches -/
def SF (I I' : Nat → Nat → Int32) : Prop := (∀ k, (k < 82 ∨ 102 < k ∨ (83 ≤ k ∧ k ≤ 88) ∨ k = 102 ∨ k = 94 ∨ k = 95 ∨ k = 101) → I' k = I k) ∧ (∀ j, (j < 15 ∨ 39 ≤ j ∨ j = 27) → I' 82 j = I 82 j)
theorem SF.rf (I : Nat → Nat → Int32) : SF I I := ⟨fun _ _ => rfl, fun _ _ => rfl⟩
theorem SF.tr {I I' I'' : Nat → Nat → Int32} (h : SF I I') (h' : SF I' I'') : SF I I'' := ⟨fun k hk => by rw [h'.1 k hk, h.1 k hk], fun j hj => by rw [h'.2 j hj, h.2 j hj]⟩
theorem SF.q {I I' : Nat → Nat → Int32} (h : SF I I') : QF I I' := ⟨fun k hk => h.1 k (by omega), fun j hj => h.2 j (by omega)⟩
theorem SF.lk {I I' : Nat → Nat → Int32} {a : Nat → Nat} (h : SF I I') (hL : RLk I a) : RLk I' a := by
  unfold RLk LKb LKg
  rw [h.1 94 (by omega), h.1 95 (by omega)]
  exact hL
theorem SF.c {I I' : Nat → Nat → Int32} {a : Nat → Nat} {v : Nat} (h : SF I I') (hc : RIc I a v) : RIc I' a v := by
  unfold RIc RLk LKb LKg RSi
  rw [h.1 94 (by omega), h.1 95 (by omega), h.1 101 (by omega), h.2 1 (by omega), h.2 27 (by omega), h.2 39 (by omega)]
  exact hc
/-- the reference has looked -/
def Lkd (I : Nat → Nat → Int32) (a : Nat → Nat) (v : Nat) : Prop := RK I a ∧ RIc I a v ∧ RLk I a ∧ I 82 27 = I 82 1
theorem SF.lkd {I I' : Nat → Nat → Int32} {a : Nat → Nat} {v : Nat} (h : SF I I') (hd : Lkd I a v) : Lkd I' a v := ⟨h.q.rk hd.1, h.c hd.2.1, h.lk hd.2.2.1, by rw [h.2 27 (by omega), h.2 1 (by omega)]; exact hd.2.2.2⟩
theorem r_look {a : Nat → Nat} {v : Nat} (hK : RK I a) (hA : AW a) (hc : RIc I a v) : Ok (callD xs Ln (d + 103) 213 [.ref 82] (mkW D I L)) (fun q => ∃ I' L', q = (mkW D I' L', none) ∧ QF I I' ∧ Lkd I' a v) := by
  refine Ok.mono (r_looks hK hA hc.2.2.2.1) ?_
  rintro q ⟨I', L', rfl, hf, h27, hL⟩
  refine ⟨_, _, rfl, QF.fk hf, hf.rk hK, ?_, hL, h27⟩
  have e1 : I' 82 1 = I 82 1 := hf.2 1 (by omega)
  have e39 : I' 82 39 = I 82 39 := hf.2 39 (by omega)
  have e101 : I' 101 = I 101 := hf.1 101 (by decide) (by decide) (by decide) (by decide)
  refine ⟨by rw [e1]; exact hc.1, hc.2.1, ⟨some v, by rw [h27, e1, hc.1]; rfl, fun x hx => by cases hx; exact Nat.le_refl _⟩, fun _ => hL, ?_, ?_⟩
  · rw [e39]
    exact hc.2.2.2.2.1
  · unfold RSi
    rw [e39, e1, e101]
    exact hc.2.2.2.2.2
theorem inR_N {v : Int32} {k : Nat} (hk : k < 2147483647) : inR v (nI 0) (nI k) = inN v (nI (k + 1)) := by
  have h := inR_inN (v := v) (n := k + 1) (by omega)
  rw [nI_pred] at h
  exact h
theorem r_isKd {v : Int32} : callD xs Ln (d + 2) 166 [.int v] w = some (w, some (.int (b2i (inN v (nI 2))))) := by
  rw [c_isKindR]
  have := inR_N (v := v) (k := 1) (by decide)
  rw [← this]
  rfl
theorem r_isWd {a : Nat → Nat} {v : Int32} (hK : RK I a) (hA : AW a) : callD xs Ln (d + 2) 165 [.ref 82, .int v] (mkW D I L) = some (mkW D I L, some (.int (b2i (inN v (nI (a 4321)))))) := by
  have h := hA.2.1
  rw [c_isWord, hK.2.2.1 4321 (by decide) (by decide) (by decide), inR_inN (by omega)]
theorem r_isPl {a : Nat → Nat} {v : Int32} (hK : RK I a) (hA : AW a) : callD xs Ln (d + 2) 164 [.ref 82, .int v] (mkW D I L) = some (mkW D I L, some (.int (b2i (inN v (nI (a 4320)))))) := by
  have h := hA.1
  rw [c_isPlace, hK.2.2.1 4320 (by decide) (by decide) (by decide), inR_inN (by omega)]
theorem r_liesN {v : Int32} {k : Nat} (hk : k < 2147483647) : callD xs Ln (d + 1) 155 [.int v, .int (nI 0), .int (nI k)] w = some (w, some (.int (b2i (inN v (nI (k + 1)))))) := by
  rw [c_lies, inR_N hk]
/-- goes, barred -/
def aGoes (a : Nat → Nat) (k w p e : Int32) : Int32 := if (inN k (nI 2) && inN w (nI (a 4321)) && inN p (nI (a 4320)) && inN e (nI 8)) = true then nI (goA a k.toNatClampNeg w.toNatClampNeg e.toNatClampNeg p.toNatClampNeg) else m1
def aBarred (a : Nat → Nat) (w e : Int32) : Int32 := if (inN w (nI (a 4321)) && inN e (nI 8)) = true then b2i (brA a w.toNatClampNeg e.toNatClampNeg) else m1
/-- what a question answers -/
def Ans (xs : Nat → Int32) (Ln d num : Nat) (as : List Value) (D : Dyn) (I : Nat → Nat → Int32) (L : Nat → Nat → Int64) (a : Nat → Nat) (v : Nat) (x : Int32) : Prop := Ok (callD xs Ln d num as (mkW D I L)) (fun q => ∃ I' L', q = (mkW D I' L', some (.int x)) ∧ QF I I' ∧ RIc I' a v)
theorem r_goes {a : Nat → Nat} {v : Nat} {k w p e : Int32} (hK : RK I a) (hA : AW a) (hc : RIc I a v) : Ans xs Ln (d + 104) 215 [.ref 82, .int k, .int w, .int p, .int e] D I L a v (aGoes a k w p e) := by
  refine semG (lo := [some (.ref 82), some (.int k), some (.int w), some (.int p), some (.int e)]) rfl rfl (Nat.le_of_ble_eq_true rfl) rfl (show G_X11_goes xs Ln _ 0 [some (.ref 82), some (.int k), some (.int w), some (.int p), some (.int e)] [] _ _ from ?_)
  have h1 := hA.1
  have h2 := hA.2.1
  unfold aGoes
  cases hk : inN k (nI 2)
  · simp (disch := first | omega | exact c1_int _ | exact c1_none | exact c1_ref _ | exact isRf_ref _ | assumption | exact okRb _ | exact okN1 | exact okN0 | exact rfl) only [N_X11_goes_0, N_X11_goes_1, N_X11_goes_4, N_X11_goes_7, N_X11_goes_8, N_X11_goes_9, N_X11_goes_12, N_X11_goes_15, N_X11_goes_16, N_X11_goes_17, N_X11_goes_20, N_X11_goes_23, N_X11_goes_25, N_X11_goes_26, N_X11_goes_28, N_X11_goes_31, N_X11_goes_34, N_X11_goes_35, N_X11_goes_36, N_X11_goes_37, N_X11_goes_40, N_X11_goes_41, N_X11_goes_44, N_X11_goes_45, N_X11_goes_46, N_X11_goes_47, N_X11_goes_49, N_X11_goes_50, N_X11_goes_53, N_X11_goes_54, if_true, if_false, ite_true, ite_false, not_false_eq_true, not_true_eq_false, isRf_ref, isRf_null, c1_int, c1_ref, c1_null, c1_none, rfv_some, rfv_none, Ok_s, tl_some, tl_none, List.nil_append, b2i_n1, b2i_n0, ↓reduceIte, nI_add, pk_mul, pk_sub, n_leT, n_leF, n_ltT, n_ltF, n_eqT, n_eqF, n_shl1, n_shl, n_shr, nI_and, nI_or, nI_xor, b2i_z, b2i_o, m1_n, n_m1, m1_lt, m1_le, n_lm1, n_em1, nI_m1, and1, and3, and7, and15, and63, and255, Bool.true_eq_false, Bool.false_eq_true, reduceCtorEq, Nat.reduceAdd, Nat.reduceMul, Nat.reduceSub, Nat.reduceDiv, Nat.reduceMod, Nat.reducePow, Nat.zero_add, Nat.one_mul, r_isKd, hk, Bool.false_and]
    exact ⟨_, _, rfl, QF.rf I, hc⟩
  · cases hw : inN w (nI (a 4321))
    · simp (disch := first | omega | exact c1_int _ | exact c1_none | exact c1_ref _ | exact isRf_ref _ | assumption | exact okRb _ | exact okN1 | exact okN0 | exact rfl) only [N_X11_goes_0, N_X11_goes_1, N_X11_goes_4, N_X11_goes_7, N_X11_goes_8, N_X11_goes_9, N_X11_goes_12, N_X11_goes_15, N_X11_goes_16, N_X11_goes_17, N_X11_goes_20, N_X11_goes_23, N_X11_goes_25, N_X11_goes_26, N_X11_goes_28, N_X11_goes_31, N_X11_goes_34, N_X11_goes_35, N_X11_goes_36, N_X11_goes_37, N_X11_goes_40, N_X11_goes_41, N_X11_goes_44, N_X11_goes_45, N_X11_goes_46, N_X11_goes_47, N_X11_goes_49, N_X11_goes_50, N_X11_goes_53, N_X11_goes_54, if_true, if_false, ite_true, ite_false, not_false_eq_true, not_true_eq_false, isRf_ref, isRf_null, c1_int, c1_ref, c1_null, c1_none, rfv_some, rfv_none, Ok_s, tl_some, tl_none, List.nil_append, b2i_n1, b2i_n0, ↓reduceIte, nI_add, pk_mul, pk_sub, n_leT, n_leF, n_ltT, n_ltF, n_eqT, n_eqF, n_shl1, n_shl, n_shr, nI_and, nI_or, nI_xor, b2i_z, b2i_o, m1_n, n_m1, m1_lt, m1_le, n_lm1, n_em1, nI_m1, and1, and3, and7, and15, and63, and255, Bool.true_eq_false, Bool.false_eq_true, reduceCtorEq, Nat.reduceAdd, Nat.reduceMul, Nat.reduceSub, Nat.reduceDiv, Nat.reduceMod, Nat.reducePow, Nat.zero_add, Nat.one_mul, r_isKd, r_isWd hK hA, hk, hw, Bool.false_and, Bool.true_and]
      exact ⟨_, _, rfl, QF.rf I, hc⟩
    · cases hp : inN p (nI (a 4320))
      · simp (disch := first | omega | exact c1_int _ | exact c1_none | exact c1_ref _ | exact isRf_ref _ | assumption | exact okRb _ | exact okN1 | exact okN0 | exact rfl) only [N_X11_goes_0, N_X11_goes_1, N_X11_goes_4, N_X11_goes_7, N_X11_goes_8, N_X11_goes_9, N_X11_goes_12, N_X11_goes_15, N_X11_goes_16, N_X11_goes_17, N_X11_goes_20, N_X11_goes_23, N_X11_goes_25, N_X11_goes_26, N_X11_goes_28, N_X11_goes_31, N_X11_goes_34, N_X11_goes_35, N_X11_goes_36, N_X11_goes_37, N_X11_goes_40, N_X11_goes_41, N_X11_goes_44, N_X11_goes_45, N_X11_goes_46, N_X11_goes_47, N_X11_goes_49, N_X11_goes_50, N_X11_goes_53, N_X11_goes_54, if_true, if_false, ite_true, ite_false, not_false_eq_true, not_true_eq_false, isRf_ref, isRf_null, c1_int, c1_ref, c1_null, c1_none, rfv_some, rfv_none, Ok_s, tl_some, tl_none, List.nil_append, b2i_n1, b2i_n0, ↓reduceIte, nI_add, pk_mul, pk_sub, n_leT, n_leF, n_ltT, n_ltF, n_eqT, n_eqF, n_shl1, n_shl, n_shr, nI_and, nI_or, nI_xor, b2i_z, b2i_o, m1_n, n_m1, m1_lt, m1_le, n_lm1, n_em1, nI_m1, and1, and3, and7, and15, and63, and255, Bool.true_eq_false, Bool.false_eq_true, reduceCtorEq, Nat.reduceAdd, Nat.reduceMul, Nat.reduceSub, Nat.reduceDiv, Nat.reduceMod, Nat.reducePow, Nat.zero_add, Nat.one_mul, r_isKd, r_isWd hK hA, r_isPl hK hA, hk, hw, hp, Bool.false_and, Bool.true_and]
        exact ⟨_, _, rfl, QF.rf I, hc⟩
      · cases he : inN e (nI 8)
        · simp (disch := first | omega | exact c1_int _ | exact c1_none | exact c1_ref _ | exact isRf_ref _ | assumption | exact okRb _ | exact okN1 | exact okN0 | exact rfl) only [N_X11_goes_0, N_X11_goes_1, N_X11_goes_4, N_X11_goes_7, N_X11_goes_8, N_X11_goes_9, N_X11_goes_12, N_X11_goes_15, N_X11_goes_16, N_X11_goes_17, N_X11_goes_20, N_X11_goes_23, N_X11_goes_25, N_X11_goes_26, N_X11_goes_28, N_X11_goes_31, N_X11_goes_34, N_X11_goes_35, N_X11_goes_36, N_X11_goes_37, N_X11_goes_40, N_X11_goes_41, N_X11_goes_44, N_X11_goes_45, N_X11_goes_46, N_X11_goes_47, N_X11_goes_49, N_X11_goes_50, N_X11_goes_53, N_X11_goes_54, if_true, if_false, ite_true, ite_false, not_false_eq_true, not_true_eq_false, isRf_ref, isRf_null, c1_int, c1_ref, c1_null, c1_none, rfv_some, rfv_none, Ok_s, tl_some, tl_none, List.nil_append, b2i_n1, b2i_n0, ↓reduceIte, nI_add, pk_mul, pk_sub, n_leT, n_leF, n_ltT, n_ltF, n_eqT, n_eqF, n_shl1, n_shl, n_shr, nI_and, nI_or, nI_xor, b2i_z, b2i_o, m1_n, n_m1, m1_lt, m1_le, n_lm1, n_em1, nI_m1, and1, and3, and7, and15, and63, and255, Bool.true_eq_false, Bool.false_eq_true, reduceCtorEq, Nat.reduceAdd, Nat.reduceMul, Nat.reduceSub, Nat.reduceDiv, Nat.reduceMod, Nat.reducePow, Nat.zero_add, Nat.one_mul, r_isKd, r_isWd hK hA, r_isPl hK hA, r_liesN, hk, hw, hp, he, Bool.false_and, Bool.true_and]
          exact ⟨_, _, rfl, QF.rf I, hc⟩
        · obtain ⟨k, hk2, rfl⟩ := inN_t (by decide) hk
          obtain ⟨w, hw2, rfl⟩ := inN_t (by omega) hw
          obtain ⟨p, hp2, rfl⟩ := inN_t (by omega) hp
          obtain ⟨e, he2, rfl⟩ := inN_t (by decide) he
          simp (disch := first | omega | exact c1_int _ | exact c1_none | exact c1_ref _ | exact isRf_ref _ | assumption | exact okRb _ | exact okN1 | exact okN0 | exact rfl) only [N_X11_goes_0, N_X11_goes_1, N_X11_goes_4, N_X11_goes_7, N_X11_goes_8, N_X11_goes_9, N_X11_goes_12, N_X11_goes_15, N_X11_goes_16, N_X11_goes_17, N_X11_goes_20, N_X11_goes_23, N_X11_goes_25, N_X11_goes_26, N_X11_goes_28, N_X11_goes_31, N_X11_goes_34, N_X11_goes_35, N_X11_goes_36, N_X11_goes_37, N_X11_goes_40, N_X11_goes_41, N_X11_goes_44, N_X11_goes_45, N_X11_goes_46, N_X11_goes_47, N_X11_goes_49, N_X11_goes_50, N_X11_goes_53, N_X11_goes_54, if_true, if_false, ite_true, ite_false, not_false_eq_true, not_true_eq_false, isRf_ref, isRf_null, c1_int, c1_ref, c1_null, c1_none, rfv_some, rfv_none, Ok_s, tl_some, tl_none, List.nil_append, b2i_n1, b2i_n0, ↓reduceIte, nI_add, pk_mul, pk_sub, n_leT, n_leF, n_ltT, n_ltF, n_eqT, n_eqF, n_shl1, n_shl, n_shr, nI_and, nI_or, nI_xor, b2i_z, b2i_o, m1_n, n_m1, m1_lt, m1_le, n_lm1, n_em1, nI_m1, and1, and3, and7, and15, and63, and255, Bool.true_eq_false, Bool.false_eq_true, reduceCtorEq, Nat.reduceAdd, Nat.reduceMul, Nat.reduceSub, Nat.reduceDiv, Nat.reduceMod, Nat.reducePow, Nat.zero_add, Nat.one_mul, r_isKd, r_isWd hK hA, r_isPl hK hA, r_liesN, hk, hw, hp, he, Bool.false_and, Bool.true_and, n_cl]
          refine Ok.mono (r_look hK hA hc) ?_
          rintro q ⟨I', L', rfl, hf, hK', hc', hL', _⟩
          have hg := hL'.2 k w e p hk2 hw2 he2 hp2 (by omega)
          simp (disch := first | omega | exact c1_int _ | exact c1_none | exact c1_ref _ | exact isRf_ref _ | assumption | exact okRb _ | exact okN1 | exact okN0 | exact rfl) only [N_X11_goes_0, N_X11_goes_1, N_X11_goes_4, N_X11_goes_7, N_X11_goes_8, N_X11_goes_9, N_X11_goes_12, N_X11_goes_15, N_X11_goes_16, N_X11_goes_17, N_X11_goes_20, N_X11_goes_23, N_X11_goes_25, N_X11_goes_26, N_X11_goes_28, N_X11_goes_31, N_X11_goes_34, N_X11_goes_35, N_X11_goes_36, N_X11_goes_37, N_X11_goes_40, N_X11_goes_41, N_X11_goes_44, N_X11_goes_45, N_X11_goes_46, N_X11_goes_47, N_X11_goes_49, N_X11_goes_50, N_X11_goes_53, N_X11_goes_54, if_true, if_false, ite_true, ite_false, not_false_eq_true, not_true_eq_false, isRf_ref, isRf_null, c1_int, c1_ref, c1_null, c1_none, rfv_some, rfv_none, Ok_s, tl_some, tl_none, List.nil_append, b2i_n1, b2i_n0, ↓reduceIte, nI_add, pk_mul, pk_sub, n_leT, n_leF, n_ltT, n_ltF, n_eqT, n_eqF, n_shl1, n_shl, n_shr, nI_and, nI_or, nI_xor, b2i_z, b2i_o, m1_n, n_m1, m1_lt, m1_le, n_lm1, n_em1, nI_m1, and1, and3, and7, and15, and63, and255, Bool.true_eq_false, Bool.false_eq_true, reduceCtorEq, Nat.reduceAdd, Nat.reduceMul, Nat.reduceSub, Nat.reduceDiv, Nat.reduceMod, Nat.reducePow, Nat.zero_add, Nat.one_mul, r_atN, hg]
          exact ⟨_, _, rfl, hf, hc'⟩
theorem r_barred {a : Nat → Nat} {v : Nat} {w e : Int32} (hK : RK I a) (hA : AW a) (hc : RIc I a v) : Ans xs Ln (d + 104) 216 [.ref 82, .int w, .int e] D I L a v (aBarred a w e) := by
  refine semG (lo := [some (.ref 82), some (.int w), some (.int e)]) rfl rfl (Nat.le_of_ble_eq_true rfl) rfl (show G_X11_barred xs Ln _ 0 [some (.ref 82), some (.int w), some (.int e)] [] _ _ from ?_)
  have h2 := hA.2.1
  unfold aBarred
  cases hw : inN w (nI (a 4321))
  · simp (disch := first | omega | exact c1_int _ | exact c1_none | exact c1_ref _ | exact isRf_ref _ | assumption | exact okRb _ | exact okN1 | exact okN0 | exact rfl) only [N_X11_barred_0, N_X11_barred_1, N_X11_barred_2, N_X11_barred_5, N_X11_barred_8, N_X11_barred_9, N_X11_barred_10, N_X11_barred_12, N_X11_barred_15, N_X11_barred_18, N_X11_barred_19, N_X11_barred_20, N_X11_barred_21, N_X11_barred_24, N_X11_barred_25, N_X11_barred_28, N_X11_barred_30, N_X11_barred_31, N_X11_barred_32, N_X11_barred_33, N_X11_barred_34, N_X11_barred_35, N_X11_barred_38, N_X11_barred_39, N_X11_barred_42, N_X11_barred_43, if_true, if_false, ite_true, ite_false, not_false_eq_true, not_true_eq_false, isRf_ref, isRf_null, c1_int, c1_ref, c1_null, c1_none, rfv_some, rfv_none, Ok_s, tl_some, tl_none, List.nil_append, b2i_n1, b2i_n0, ↓reduceIte, nI_add, pk_mul, pk_sub, n_leT, n_leF, n_ltT, n_ltF, n_eqT, n_eqF, n_shl1, n_shl, n_shr, nI_and, nI_or, nI_xor, b2i_z, b2i_o, m1_n, n_m1, m1_lt, m1_le, n_lm1, n_em1, nI_m1, and1, and3, and7, and15, and63, and255, Bool.true_eq_false, Bool.false_eq_true, reduceCtorEq, Nat.reduceAdd, Nat.reduceMul, Nat.reduceSub, Nat.reduceDiv, Nat.reduceMod, Nat.reducePow, Nat.zero_add, Nat.one_mul, r_isWd hK hA, hw, Bool.false_and, Bool.true_and]
    exact ⟨_, _, rfl, QF.rf I, hc⟩
  · cases he : inN e (nI 8)
    · simp (disch := first | omega | exact c1_int _ | exact c1_none | exact c1_ref _ | exact isRf_ref _ | assumption | exact okRb _ | exact okN1 | exact okN0 | exact rfl) only [N_X11_barred_0, N_X11_barred_1, N_X11_barred_2, N_X11_barred_5, N_X11_barred_8, N_X11_barred_9, N_X11_barred_10, N_X11_barred_12, N_X11_barred_15, N_X11_barred_18, N_X11_barred_19, N_X11_barred_20, N_X11_barred_21, N_X11_barred_24, N_X11_barred_25, N_X11_barred_28, N_X11_barred_30, N_X11_barred_31, N_X11_barred_32, N_X11_barred_33, N_X11_barred_34, N_X11_barred_35, N_X11_barred_38, N_X11_barred_39, N_X11_barred_42, N_X11_barred_43, if_true, if_false, ite_true, ite_false, not_false_eq_true, not_true_eq_false, isRf_ref, isRf_null, c1_int, c1_ref, c1_null, c1_none, rfv_some, rfv_none, Ok_s, tl_some, tl_none, List.nil_append, b2i_n1, b2i_n0, ↓reduceIte, nI_add, pk_mul, pk_sub, n_leT, n_leF, n_ltT, n_ltF, n_eqT, n_eqF, n_shl1, n_shl, n_shr, nI_and, nI_or, nI_xor, b2i_z, b2i_o, m1_n, n_m1, m1_lt, m1_le, n_lm1, n_em1, nI_m1, and1, and3, and7, and15, and63, and255, Bool.true_eq_false, Bool.false_eq_true, reduceCtorEq, Nat.reduceAdd, Nat.reduceMul, Nat.reduceSub, Nat.reduceDiv, Nat.reduceMod, Nat.reducePow, Nat.zero_add, Nat.one_mul, r_isWd hK hA, r_liesN, hw, he, Bool.false_and, Bool.true_and]
      exact ⟨_, _, rfl, QF.rf I, hc⟩
    · obtain ⟨w, hw2, rfl⟩ := inN_t (by omega) hw
      obtain ⟨e, he2, rfl⟩ := inN_t (by decide) he
      simp (disch := first | omega | exact c1_int _ | exact c1_none | exact c1_ref _ | exact isRf_ref _ | assumption | exact okRb _ | exact okN1 | exact okN0 | exact rfl) only [N_X11_barred_0, N_X11_barred_1, N_X11_barred_2, N_X11_barred_5, N_X11_barred_8, N_X11_barred_9, N_X11_barred_10, N_X11_barred_12, N_X11_barred_15, N_X11_barred_18, N_X11_barred_19, N_X11_barred_20, N_X11_barred_21, N_X11_barred_24, N_X11_barred_25, N_X11_barred_28, N_X11_barred_30, N_X11_barred_31, N_X11_barred_32, N_X11_barred_33, N_X11_barred_34, N_X11_barred_35, N_X11_barred_38, N_X11_barred_39, N_X11_barred_42, N_X11_barred_43, if_true, if_false, ite_true, ite_false, not_false_eq_true, not_true_eq_false, isRf_ref, isRf_null, c1_int, c1_ref, c1_null, c1_none, rfv_some, rfv_none, Ok_s, tl_some, tl_none, List.nil_append, b2i_n1, b2i_n0, ↓reduceIte, nI_add, pk_mul, pk_sub, n_leT, n_leF, n_ltT, n_ltF, n_eqT, n_eqF, n_shl1, n_shl, n_shr, nI_and, nI_or, nI_xor, b2i_z, b2i_o, m1_n, n_m1, m1_lt, m1_le, n_lm1, n_em1, nI_m1, and1, and3, and7, and15, and63, and255, Bool.true_eq_false, Bool.false_eq_true, reduceCtorEq, Nat.reduceAdd, Nat.reduceMul, Nat.reduceSub, Nat.reduceDiv, Nat.reduceMod, Nat.reducePow, Nat.zero_add, Nat.one_mul, r_isWd hK hA, r_liesN, hw, he, Bool.true_and, n_cl]
      refine Ok.mono (r_look hK hA hc) ?_
      rintro q ⟨I', L', rfl, hf, hK', hc', hL', _⟩
      have hg := hL'.b hw2 h2 he2
      cases hb : brA a w e <;> rw [hb] at hg <;> simp (disch := first | omega | exact c1_int _ | exact c1_none | exact c1_ref _ | exact isRf_ref _ | assumption | exact okRb _ | exact okN1 | exact okN0 | exact rfl) only [N_X11_barred_0, N_X11_barred_1, N_X11_barred_2, N_X11_barred_5, N_X11_barred_8, N_X11_barred_9, N_X11_barred_10, N_X11_barred_12, N_X11_barred_15, N_X11_barred_18, N_X11_barred_19, N_X11_barred_20, N_X11_barred_21, N_X11_barred_24, N_X11_barred_25, N_X11_barred_28, N_X11_barred_30, N_X11_barred_31, N_X11_barred_32, N_X11_barred_33, N_X11_barred_34, N_X11_barred_35, N_X11_barred_38, N_X11_barred_39, N_X11_barred_42, N_X11_barred_43, if_true, if_false, ite_true, ite_false, not_false_eq_true, not_true_eq_false, isRf_ref, isRf_null, c1_int, c1_ref, c1_null, c1_none, rfv_some, rfv_none, Ok_s, tl_some, tl_none, List.nil_append, b2i_n1, b2i_n0, ↓reduceIte, nI_add, pk_mul, pk_sub, n_leT, n_leF, n_ltT, n_ltF, n_eqT, n_eqF, n_shl1, n_shl, n_shr, nI_and, nI_or, nI_xor, b2i_z, b2i_o, m1_n, n_m1, m1_lt, m1_le, n_lm1, n_em1, nI_m1, and1, and3, and7, and15, and63, and255, Bool.true_eq_false, Bool.false_eq_true, reduceCtorEq, Nat.reduceAdd, Nat.reduceMul, Nat.reduceSub, Nat.reduceDiv, Nat.reduceMod, Nat.reducePow, Nat.zero_add, Nat.one_mul, hg] <;> exact ⟨_, _, rfl, hf, hc'⟩
end P62
