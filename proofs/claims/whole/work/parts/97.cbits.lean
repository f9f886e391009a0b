section P97
variable {xs : Nat → Int32} {Ln d : Nat} {D : Dyn} {I : Nat → Nat → Int32} {L : Nat → Nat → Int64} {w : Om} {Q : Res → Prop}
/-! What the class's moves keep. -/
theorem and_bit (x w : Nat) : (x &&& 2 ^ w = 0) = (x.testBit w = false) := by
  apply propext
  constructor
  · intro h
    have h1 := congrArg (fun y => Nat.testBit y w) h
    simp only [Nat.testBit_and, Nat.testBit_two_pow, Nat.zero_testBit, decide_true, Bool.and_true] at h1
    exact h1
  · intro h
    apply Nat.eq_of_testBit_eq
    intro i
    rw [Nat.testBit_and, Nat.testBit_two_pow, Nat.zero_testBit]
    by_cases e : w = i
    · subst e; rw [h]; rfl
    · rw [decide_eq_false e, Bool.and_false]
theorem dv_bit (x w : Nat) : (x / 2 ^ w % 2 = 1) = (x.testBit w = true) := by
  rw [Nat.testBit_eq_decide_div_mod_eq]
  simp
theorem dv_bit0 (x w : Nat) : (x / 2 ^ w % 2 = 0) = (x.testBit w = false) := by
  rw [Nat.testBit_eq_decide_div_mod_eq]
  simp
theorem or_bit (x w i : Nat) : (x ||| 2 ^ w).testBit i = (x.testBit i || decide (w = i)) := by
  rw [Nat.testBit_or, Nat.testBit_two_pow]
theorem pw8 {w : Nat} (h : w < 8) : 2 ^ w < 256 := by
  have : 2 ^ w < 2 ^ 8 := Nat.pow_lt_pow_right (by decide) h
  simpa using this
theorem or_256 {x y : Nat} (hx : x < 256) (hy : y < 256) : x ||| y < 256 := Nat.or_lt_two_pow (n := 8) hx hy
theorem bit_lt {x w n : Nat} (h : x.testBit w = true) (hx : x < 2 ^ n) : w < n := by
  by_cases hw : w < n
  · exact hw
  · rw [Nat.testBit_lt_two_pow (Nat.lt_of_lt_of_le hx (pw_lt (Nat.le_of_not_lt hw)))] at h
    cases h
/-- the numbers below n of which p is true, as bits -/
def bsN (p : Nat → Bool) : Nat → Nat
  | 0 => 0
  | n + 1 => bsN p n ||| (if p n = true then 2 ^ n else 0)
theorem bsN_tb (p : Nat → Bool) (i : Nat) : ∀ n, (bsN p n).testBit i = (decide (i < n) && p i)
  | 0 => by simp [bsN]
  | n + 1 => by
    unfold bsN
    rw [Nat.testBit_or, bsN_tb p i n]
    by_cases hp : p n = true
    · rw [if_pos hp, Nat.testBit_two_pow]
      by_cases e : n = i
      · subst e
        simp [hp]
      · rw [decide_eq_false e, Bool.or_false]
        by_cases h : i < n
        · rw [decide_eq_true h, decide_eq_true (show i < n + 1 by omega)]
        · rw [decide_eq_false h, decide_eq_false (show ¬ i < n + 1 by omega)]
    · rw [if_neg hp, Nat.zero_testBit, Bool.or_false]
      by_cases e : n = i
      · subst e
        simp [hp]
      · by_cases h : i < n
        · rw [decide_eq_true h, decide_eq_true (show i < n + 1 by omega)]
        · rw [decide_eq_false h, decide_eq_false (show ¬ i < n + 1 by omega)]
theorem bsN_lt (p : Nat → Bool) : ∀ n, bsN p n < 2 ^ n
  | 0 => by simp [bsN]
  | n + 1 => by
    unfold bsN
    have h1 := bsN_lt p n
    have h2 : 2 ^ n < 2 ^ (n + 1) := Nat.pow_lt_pow_right (by decide) (by omega)
    refine Nat.or_lt_two_pow (by omega) ?_
    split
    · exact h2
    · exact Nat.two_pow_pos _
/-- the words that are not barred with doors e -/
def alN (a : Nat → Nat) (e : Nat) : Nat := bsN (fun w => !brA a w e) (a 4321)
theorem alN_tb (a : Nat → Nat) (e w : Nat) : (alN a e).testBit w = (decide (w < a 4321) && !brA a w e) := bsN_tb _ _ _
theorem alN_lt {a : Nat → Nat} (h : a 4321 ≤ 8) (e : Nat) : alN a e < 256 := Nat.lt_of_lt_of_le (bsN_lt _ _) (by have := pw_lt h; simpa using this)
theorem im_or (f : Nat → Nat) (s t : Nat) : ∀ n, im f (s ||| t) n = im f s n ||| im f t n
  | 0 => by simp [im]
  | n + 1 => by
    rw [im_s, im_s, im_s, im_or f s t n, Nat.testBit_or]
    apply Nat.eq_of_testBit_eq
    intro i
    simp only [Nat.testBit_or]
    cases s.testBit n <;> cases t.testBit n <;> simp only [Bool.or_true, Bool.or_false, Bool.true_or, Bool.false_or, if_true, Bool.false_eq_true, if_false, Nat.zero_testBit] <;> cases (im f s n).testBit i <;> cases (im f t n).testBit i <;> simp
theorem im_1 (f : Nat → Nat) (i : Nat) : ∀ n, im f (2 ^ i) n = if i < n then 2 ^ f i else 0
  | 0 => rfl
  | n + 1 => by
    rw [im_s, im_1 f i n, Nat.testBit_two_pow]
    by_cases e : i = n
    · subst e
      rw [if_neg (by omega), if_pos (by simp), if_pos (by omega)]
      simp
    · rw [if_neg (show ¬ decide (i = n) = true by simp [e])]
      by_cases h : i < n
      · rw [if_pos h, if_pos (by omega)]; simp
      · rw [if_neg h, if_neg (by omega)]; simp
theorem im_0 (f : Nat → Nat) : ∀ n, im f 0 n = 0
  | 0 => rfl
  | n + 1 => by rw [im_s, im_0 f n]; simp
theorem set_sp : ∀ s, s < 64 → s ≠ 0 → s &&& (s - 1) < s ∧ (s &&& (s - 1)) ||| (s ^^^ (s &&& (s - 1))) = s ∧ (s &&& (s - 1) ≠ 0 → s ^^^ (s &&& (s - 1)) < s) ∧ (s &&& (s - 1) = 0 → ∃ i, i < 6 ∧ s = 2 ^ i) := by decide +kernel
theorem im_add (f : Nat → Nat) (s m : Nat) : ∀ n, im f s (m + n) = im f s m ||| im (fun i => f (m + i)) (s / 2 ^ m) n
  | 0 => by simp [im]
  | n + 1 => by
    rw [← Nat.add_assoc, im_s, im_add f s m n, im_s, Nat.or_assoc, Nat.testBit_div_two_pow, Nat.add_comm n m]
theorem im_mod (f : Nat → Nat) (s m : Nat) : ∀ n, n ≤ m → im f (s % 2 ^ m) n = im f s n
  | 0, _ => rfl
  | n + 1, h => by
    rw [im_s, im_s, im_mod f s m n (by omega), Nat.testBit_mod_two_pow, decide_eq_true (show n < m by omega), Bool.true_and]
/-- where the table of a kind, a word and doors lies -/
def tbo (k w e : Nat) : Nat := k * 8192 + ((e * 8 + w) * 2 * 64)
theorem tbo_lt {k w e : Nat} (hk : k < 2) (hw : w < 8) (he : e < 8) : tbo k w e + 128 ≤ 16384 := by unfold tbo; omega
theorem tbo_ne {k w e k' w' e' : Nat} (hk : k < 2) (hw : w < 8) (he : e < 8) (hk' : k' < 2) (hw' : w' < 8) (he' : e' < 8) (h : ¬ (k = k' ∧ w = w' ∧ e = e')) : tbo k w e + 128 ≤ tbo k' w' e' ∨ tbo k' w' e' + 128 ≤ tbo k w e := by unfold tbo; omega
theorem c_tableOf {k w e : Nat} (hk : k < 2) (hw : w < 8) (he : e < 8) : callD xs Ln (d + 1) 48 [.int (nI k), .int (nI w), .int (nI e)] (mkW D I L) = some (mkW D I L, some (.int (nI (tbo k w e)))) := by
  have e1 : k % 2 = k := by omega
  have e2 : w % 8 = w := by omega
  have e3 : e % 8 = e := by omega
  refine Ok.eq ?_
  refine semG (lo := [some (.int (nI k)), some (.int (nI w)), some (.int (nI e))]) rfl rfl (Nat.le_of_ble_eq_true rfl) rfl (show G_X5_tableOf xs Ln _ 0 [some (.int (nI k)), some (.int (nI w)), some (.int (nI e))] [] _ _ from ?_)
  simp (disch := first | omega | exact c1_int _ | exact c1_none | exact c1_ref _ | exact isRf_ref _ | assumption | exact okRb _ | exact okN1 | exact okN0 | exact rfl) only [N_X5_tableOf_0, N_X5_tableOf_1, N_X5_tableOf_2, N_X5_tableOf_3, N_X5_tableOf_6, N_X5_tableOf_7, N_X5_tableOf_8, N_X5_tableOf_10, N_X5_tableOf_11, N_X5_tableOf_13, N_X5_tableOf_14, N_X5_tableOf_15, N_X5_tableOf_17, N_X5_tableOf_18, N_X5_tableOf_19, N_X5_tableOf_20, N_X5_tableOf_21, N_X5_tableOf_23, N_X5_tableOf_24, N_X5_tableOf_25, if_true, if_false, ite_true, ite_false, not_false_eq_true, not_true_eq_false, isRf_ref, isRf_null, c1_int, c1_ref, c1_null, c1_none, rfv_some, rfv_none, Ok_s, tl_some, tl_none, List.nil_append, b2i_n1, b2i_n0, ↓reduceIte, nI_add, pk_mul, pk_sub, n_leT, n_leF, n_ltT, n_ltF, n_eqT, n_eqF, n_shl1, n_shl, n_shr, nI_and, nI_or, nI_xor, b2i_z, b2i_o, m1_n, n_m1, m1_lt, m1_le, n_lm1, n_em1, nI_m1, and1, and3, and7, and15, and63, and255, Bool.true_eq_false, Bool.false_eq_true, reduceCtorEq, Nat.reduceAdd, Nat.reduceMul, Nat.reduceSub, Nat.reduceDiv, Nat.reduceMod, Nat.reducePow, Nat.zero_add, Nat.one_mul, e1, e2, e3]
  rfl
/-- the table is filled: half h of the sets s -/
def TbH (r : Nat → Int32) (a : Nat → Nat) (k w e h n : Nat) : Prop := ∀ s, s < n → s < 2 ^ (a 4320 - 6 * h) → r (tbo k w e + 64 * h + s) = nI (im (fun i => goA a k w e (6 * h + i)) s 6)
def TbI (I : Nat → Nat → Int32) (a : Nat → Nat) (k w e : Nat) : Prop := TbH (I 25) a k w e 0 64 ∧ TbH (I 25) a k w e 1 64
/-- the rows 24 to 28 alone have changed, no table was lost -/
def FMv (I I' : Nat → Nat → Int32) : Prop := ∀ k, (k < 24 ∨ 28 < k) → I' k = I k
theorem FMv.rf (I : Nat → Nat → Int32) : FMv I I := fun _ _ => rfl
theorem FMv.tr {I I' I'' : Nat → Nat → Int32} (h : FMv I I') (h' : FMv I' I'') : FMv I I'' := fun k hk => by rw [h' k hk, h k hk]
theorem F24.mv {I I' : Nat → Nat → Int32} (h : F24 I I') : FMv I I' := fun k hk => h k (by omega)
theorem FMv.u {I I' : Nat → Nat → Int32} {k j : Nat} {x : Int32} (hk : 24 ≤ k ∧ k ≤ 28) (h : FMv I I') : FMv I (up2 I' k j x) := fun k' hk' => by rw [up2_ro _ _ _ (by omega), h k' hk']
theorem MzI.mv {I' : Nat → Nat → Int32} {a : Nat → Nat} (h : MzI I 1 a) (hf : FMv I I') : MzI I' 1 a := by
  obtain ⟨n0, n1, n2, n3, n4, n5, n6, n7, n8, n9, n10, n11, n12⟩ := h.m
  have r1 := hf 1 (by omega)
  have r2 := hf 2 (by omega)
  have r3 := hf 3 (by omega)
  have r4 := hf 4 (by omega)
  have r5 := hf 5 (by omega)
  have r6 := hf 6 (by omega)
  have r7 := hf 7 (by omega)
  have r8 := hf 8 (by omega)
  have r9 := hf 9 (by omega)
  apply Mz1.i
  unfold Mz1
  rw [r1, r2, r3, r4, r5, r6, r7, r8, r9]
  exact ⟨n0, n1, n2, n3, n4, n5, n6, n7, n8, n9, n10, n11, n12⟩
theorem LaI.mv {ow : Nat → Nat} {I' : Nat → Nat → Int32} {b : Nat} {a : Nat → Nat} (h : LaI ow D I b a) (hf : FMv I I') : LaI ow D I' b a := by
  refine ⟨fun t ht => ?_, h.2⟩
  obtain ⟨q, c, cls, h1, h2, h3, h4⟩ := h.1 t ht
  have := h4.1.1
  exact ⟨q, c, cls, h1, h2, h3, h4.i (hf _ (by omega)) (hf _ (by omega))⟩
def MvC (I : Nat → Nat → Int32) (a : Nat → Nat) : Prop :=
  (∀ e, e < 8 → ∃ x y, x < 256 ∧ y < 256 ∧ I 27 e = nI x ∧ I 28 e = nI y ∧ (∀ w, x.testBit w = true → w < a 4321) ∧ (∀ w, y.testBit w = (x.testBit w && !brA a w e))) ∧
  (∀ k e, k < 2 → e < 8 → ∃ x, x < 256 ∧ I 26 (k * 8 + e) = nI x ∧ ∀ w, x.testBit w = true → w < a 4321 ∧ TbI I a k w e)
/-- the maze with its moves -/
def MM (ow : Nat → Nat) (D : Dyn) (I : Nat → Nat → Int32) (a : Nat → Nat) : Prop := MzI I 1 a ∧ AW a ∧ LaI ow D I 1 a ∧ MvC I a
theorem MvC.f {I' : Nat → Nat → Int32} {a : Nat → Nat} (h : MvC I a) (hf : F24 I I') : MvC I' a := by
  unfold MvC TbI at *
  rw [hf 25 (by decide), hf 26 (by decide), hf 27 (by decide), hf 28 (by decide)]
  exact h
theorem MM.f {ow : Nat → Nat} {I' : Nat → Nat → Int32} {a : Nat → Nat} (h : MM ow D I a) (hf : F24 I I') : MM ow D I' a := ⟨h.1.mv hf.mv, h.2.1, h.2.2.1.mv hf.mv, h.2.2.2.f hf⟩
end P97
