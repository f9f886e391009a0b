section Pe0
variable {xs : Nat → Int32} {Ln d : Nat} {D D' D'' : Dyn} {I I' I'' : Nat → Nat → Int32} {L : Nat → Nat → Int64} {w : Om} {Q : Res → Prop} {ow ow' ow'' ky ky' ky'' ln ln' ln'' a a' : Nat → Nat} {o be sr : Nat} {A : As} {nn : Nat}
theorem beh_ne2 {m x wd y : Nat} (hA : AW a) (hm1 : 1 ≤ m) (hm : m ≤ 3) (hv : vSt a m x) (hx : x / 8 ≠ 0) (h : behA a m x wd = some y) : y / 8 ≠ 0 := by
  unfold behA at h
  split at h
  · rename_i hc
    cases h
    have hdl := dbA_lt hA hc.1 (show x % 8 < 8 by omega)
    rw [show (8 * sbN (goA a) m (x / 8) wd (x % 8) + dbA a wd (x % 8)) / 8 = sbN (goA a) m (x / 8) wd (x % 8) by omega]
    obtain ⟨i, hi⟩ := Nat.exists_testBit_of_ne_zero hx
    have hi12 : i < 12 := bit_lt hi (show x / 8 < 2 ^ 12 by have := hv.1; simp only [Nat.reducePow]; omega)
    have := im_tb' (f := tgt (goA a) m wd (x % 8)) (s := x / 8) hi rfl 12 hi12
    intro h0
    unfold sbN at h0
    rw [h0] at this
    simp at this
  · cases h
theorem and_4095 {v : Nat} (h : v < 4096) : v &&& 4095 = v := by
  rw [Nat.and_two_pow_sub_one_eq_mod v 12]
  exact Nat.mod_eq_of_lt h
theorem pr_4095 {sg : Nat → Nat} {y : Nat} (hs : sg 0 = 4095) (hy : y < 32768) : prS sg y 0 = y := by
  unfold prS
  rw [hs, and_4095 (by omega)]
  omega
/-- the level of pairs is how far they are from meeting -/
theorem gW_cn {m : Nat} {sg : Nat → Nat} (hA : AW a) (hm1 : 1 ≤ m) (hm : m ≤ 2) (hs : sg 0 = 4095) : ∀ N x, vSt a m x → x / 8 ≠ 0 → (gW (behA a m) sg 1 N x = true ↔ cnG (behA a m) (golA m none) N x = true) := by
  have base : ∀ x, vSt a m x → golA m none x = decide (pcN (x / 8) 12 = 1) := by
    intro x hx
    have := golB_s (m := m) (s := x / 8) (t := none) (by have := hx.1; omega) (fun q h => by cases h) x rfl
    rw [this]
    show decide (pcN (all3 m (x / 8)) 12 = 1) = _
    unfold all3
    rw [if_neg (by omega)]
  intro N
  induction N with
  | zero =>
    intro x hx _
    show decide (pcN (x / 8) 12 = 1) = true ↔ golA m none x = true
    rw [base x hx]
  | succ N ih =>
    intro x hx hn
    rw [gW_iff, cnG_iff]
    constructor
    · rintro (h | ⟨wd, y, h8, hy, hall⟩)
      · exact (cnG_iff _ _ _).mp (cnG_up _ _ ((ih x hx hn).mp h))
      · have hv := (beh_v hA hm1 (by omega) hx hy).1
        have hne := beh_ne2 hA hm1 (by omega) hx hn hy
        refine Or.inr ⟨wd, y, h8, hy, (ih y hv hne).mp ?_⟩
        have hy32 := hv.1
        rcases hall 0 (by omega) with h0 | h0
        · rw [hs, and_4095 (by omega), pc_0 (by omega)] at h0
          exact absurd h0 hne
        · rw [pr_4095 hs hy32] at h0
          exact h0
    · rintro (h | ⟨wd, y, h8, hy, hc⟩)
      · refine Or.inl (gW_le (N := 0) ?_ (Nat.zero_le _))
        rw [base x hx] at h
        exact h
      · have hv := (beh_v hA hm1 (by omega) hx hy).1
        have hne := beh_ne2 hA hm1 (by omega) hx hn hy
        refine Or.inr ⟨wd, y, h8, hy, fun c hc' => Or.inr ?_⟩
        have : c = 0 := by omega
        subst this
        rw [pr_4095 hs hv.1]
        exact (ih y hv hne).mpr hc
theorem glv_few {m x : Nat} {sg : Nat → Nat} (hA : AW a) (hm1 : 1 ≤ m) (hm : m ≤ 2) (hs : sg 0 = 4095) (hv : vSt a m x) (hx : x / 8 ≠ 0) : glv (behA a m) sg 1 x = fewN a m none none x := by
  unfold glv fewN dG
  rw [behW_n]
  refine lst_cg _ (fun N _ => ?_)
  have := gW_cn hA hm1 hm hs N x hv hx
  cases h1 : gW (behA a m) sg 1 N x <;> cases h2 : cnG (behA a m) (golA m none) N x
  · rfl
  · rw [h1, h2] at this; exact absurd (this.mpr rfl) (by decide)
  · rw [h1, h2] at this; exact absurd (this.mp rfl) (by decide)
  · rfl
theorem c_isOf {mi ro bg : Int32} (hL : LvO o be sr) : callD xs Ln (d + 1) 18 [.ref o, .int mi, .int ro, .int bg] (mkW D I L) = some (mkW D I L, some (.int (b2i (decide (I o 3 = I 23 0) && decide (I o 0 = mi) && decide (I o 1 = ro) && decide (I o 2 = bg))))) := by
  obtain ⟨f1, f2, f3, hO, hsr, f6, f7, f8, f9, f10, f11, f12, f13, f14⟩ := hL.f
  refine Ok.eq ?_
  refine semG (lo := [some (.ref o), some (.int mi), some (.int ro), some (.int bg)]) rfl rfl (Nat.le_of_ble_eq_true rfl) rfl (show G_X3_isOf xs Ln _ 0 [some (.ref o), some (.int mi), some (.int ro), some (.int bg)] [] _ _ from ?_)
  by_cases c1 : I o 3 = I 23 0
  · by_cases c2 : I o 0 = mi
    · by_cases c3 : I o 1 = ro
      · by_cases c4 : I o 2 = bg
        · rw [decide_eq_true c1, decide_eq_true c2, decide_eq_true c3, decide_eq_true c4]
          simp (disch := first | omega | exact c1_int _ | exact c1_none | exact c1_ref _ | exact isRf_ref _ | assumption | exact hO _ _ _ | exact ob23 _ _ _ | exact hsr _ | exact isRf_null | exact okRb _ | exact okN1 | exact okN0 | exact rfl) only [N_X3_isOf_0, N_X3_isOf_1, N_X3_isOf_4, N_X3_isOf_5, N_X3_isOf_8, N_X3_isOf_11, N_X3_isOf_14, N_X3_isOf_15, N_X3_isOf_18, N_X3_isOf_19, N_X3_isOf_22, N_X3_isOf_23, N_X3_isOf_26, N_X3_isOf_27, N_X3_isOf_30, N_X3_isOf_31, N_X3_isOf_34, N_X3_isOf_35, N_X3_isOf_38, N_X3_isOf_39, N_X3_isOf_42, N_X3_isOf_43, if_true, if_false, ite_true, ite_false, not_false_eq_true, not_true_eq_false, isRf_ref, isRf_null, c1_int, c1_ref, c1_null, c1_none, rfv_some, rfv_none, Ok_s, tl_some, tl_none, List.nil_append, b2i_n1, b2i_n0, ↓reduceIte, f2, c1, c2, c3, c4]
          rfl
        · rw [decide_eq_false c4, Bool.and_false]
          simp (disch := first | omega | exact c1_int _ | exact c1_none | exact c1_ref _ | exact isRf_ref _ | assumption | exact hO _ _ _ | exact ob23 _ _ _ | exact hsr _ | exact isRf_null | exact okRb _ | exact okN1 | exact okN0 | exact rfl) only [N_X3_isOf_0, N_X3_isOf_1, N_X3_isOf_4, N_X3_isOf_5, N_X3_isOf_8, N_X3_isOf_11, N_X3_isOf_14, N_X3_isOf_15, N_X3_isOf_18, N_X3_isOf_19, N_X3_isOf_22, N_X3_isOf_23, N_X3_isOf_26, N_X3_isOf_27, N_X3_isOf_30, N_X3_isOf_31, N_X3_isOf_34, N_X3_isOf_35, N_X3_isOf_38, N_X3_isOf_39, N_X3_isOf_42, N_X3_isOf_43, if_true, if_false, ite_true, ite_false, not_false_eq_true, not_true_eq_false, isRf_ref, isRf_null, c1_int, c1_ref, c1_null, c1_none, rfv_some, rfv_none, Ok_s, tl_some, tl_none, List.nil_append, b2i_n1, b2i_n0, ↓reduceIte, f2, c1, c2, c3, c4]
      · rw [decide_eq_false c3, Bool.and_false, Bool.false_and]
        simp (disch := first | omega | exact c1_int _ | exact c1_none | exact c1_ref _ | exact isRf_ref _ | assumption | exact hO _ _ _ | exact ob23 _ _ _ | exact hsr _ | exact isRf_null | exact okRb _ | exact okN1 | exact okN0 | exact rfl) only [N_X3_isOf_0, N_X3_isOf_1, N_X3_isOf_4, N_X3_isOf_5, N_X3_isOf_8, N_X3_isOf_11, N_X3_isOf_14, N_X3_isOf_15, N_X3_isOf_18, N_X3_isOf_19, N_X3_isOf_22, N_X3_isOf_23, N_X3_isOf_26, N_X3_isOf_27, N_X3_isOf_30, N_X3_isOf_31, N_X3_isOf_34, N_X3_isOf_35, N_X3_isOf_38, N_X3_isOf_39, N_X3_isOf_42, N_X3_isOf_43, if_true, if_false, ite_true, ite_false, not_false_eq_true, not_true_eq_false, isRf_ref, isRf_null, c1_int, c1_ref, c1_null, c1_none, rfv_some, rfv_none, Ok_s, tl_some, tl_none, List.nil_append, b2i_n1, b2i_n0, ↓reduceIte, f2, c1, c2, c3]
    · rw [decide_eq_false c2, Bool.and_false, Bool.false_and, Bool.false_and]
      simp (disch := first | omega | exact c1_int _ | exact c1_none | exact c1_ref _ | exact isRf_ref _ | assumption | exact hO _ _ _ | exact ob23 _ _ _ | exact hsr _ | exact isRf_null | exact okRb _ | exact okN1 | exact okN0 | exact rfl) only [N_X3_isOf_0, N_X3_isOf_1, N_X3_isOf_4, N_X3_isOf_5, N_X3_isOf_8, N_X3_isOf_11, N_X3_isOf_14, N_X3_isOf_15, N_X3_isOf_18, N_X3_isOf_19, N_X3_isOf_22, N_X3_isOf_23, N_X3_isOf_26, N_X3_isOf_27, N_X3_isOf_30, N_X3_isOf_31, N_X3_isOf_34, N_X3_isOf_35, N_X3_isOf_38, N_X3_isOf_39, N_X3_isOf_42, N_X3_isOf_43, if_true, if_false, ite_true, ite_false, not_false_eq_true, not_true_eq_false, isRf_ref, isRf_null, c1_int, c1_ref, c1_null, c1_none, rfv_some, rfv_none, Ok_s, tl_some, tl_none, List.nil_append, b2i_n1, b2i_n0, ↓reduceIte, f2, c1, c2]
  · rw [decide_eq_false c1, Bool.false_and, Bool.false_and, Bool.false_and]
    simp (disch := first | omega | exact c1_int _ | exact c1_none | exact c1_ref _ | exact isRf_ref _ | assumption | exact hO _ _ _ | exact ob23 _ _ _ | exact hsr _ | exact isRf_null | exact okRb _ | exact okN1 | exact okN0 | exact rfl) only [N_X3_isOf_0, N_X3_isOf_1, N_X3_isOf_4, N_X3_isOf_5, N_X3_isOf_8, N_X3_isOf_11, N_X3_isOf_14, N_X3_isOf_15, N_X3_isOf_18, N_X3_isOf_19, N_X3_isOf_22, N_X3_isOf_23, N_X3_isOf_26, N_X3_isOf_27, N_X3_isOf_30, N_X3_isOf_31, N_X3_isOf_34, N_X3_isOf_35, N_X3_isOf_38, N_X3_isOf_39, N_X3_isOf_42, N_X3_isOf_43, if_true, if_false, ite_true, ite_false, not_false_eq_true, not_true_eq_false, isRf_ref, isRf_null, c1_int, c1_ref, c1_null, c1_none, rfv_some, rfv_none, Ok_s, tl_some, tl_none, List.nil_append, b2i_n1, b2i_n0, ↓reduceIte, f2, c1]
theorem pc_two : ∀ x, x < 12 → ∀ y, y < 12 → x ≠ y → pcN (2 ^ x ||| 2 ^ y) 12 = 2 := by decide +kernel
/-- parts of what is behind stay within -/
theorem VP_cl {m : Nat} {S : Nat → Bool} {e : Nat} {sg : Nat → Nat} (hA : AW a) (hm1 : 1 ≤ m) (hm : m ≤ 2) (hR : RS I a m S e) : ∀ x w y c, VP a m S x → behA a m x w = some y → VP a m S (prS sg y c) := by
  intro x wd y c hx hy
  have hv := (beh_v hA hm1 (by omega) hx.1 hy).1
  have hle : y / 8 &&& sg c ≤ y / 8 := Nat.and_le_left
  refine ⟨⟨by unfold prS; have := hv.1; omega, ?_⟩, ?_⟩
  · rw [prS8]
    have h2 := hv.2
    unfold okS at h2 ⊢
    rw [if_neg (by omega)] at h2 ⊢
    exact decide_eq_true (Nat.lt_of_le_of_lt hle (of_decide_eq_true h2))
  · have h8 : prS sg y c % 8 = y % 8 := by unfold prS; omega
    rw [h8]
    unfold behA at hy
    split at hy
    · rename_i hc
      cases hy
      have hdl := dbA_lt hA hc.1 (show x % 8 < 8 by omega)
      rw [show (8 * sbN (goA a) m (x / 8) wd (x % 8) + dbA a wd (x % 8)) % 8 = dbA a wd (x % 8) by omega]
      exact (hR.2 (x % 8) (by omega) hx.2).2 wd hc.1 hc.2
    · cases hy
theorem two_v {m x y e : Nat} {S : Nat → Bool} (hA : AW a) (hm1 : 1 ≤ m) (hm : m ≤ 2) (hx : x < a 4320) (hy : y < a 4320) (he : e < 8) (hS : S e = true) : VP a m S (8 * (2 ^ x ||| 2 ^ y) + e) ∧ 2 ^ x ||| 2 ^ y < 4096 ∧ (2 ^ x ||| 2 ^ y) ≠ 0 := by
  have hP := hA.1
  have h1 : 2 ^ x < 2 ^ a 4320 := Nat.pow_lt_pow_right (by decide) hx
  have h2 : 2 ^ y < 2 ^ a 4320 := Nat.pow_lt_pow_right (by decide) hy
  have h3 := Nat.or_lt_two_pow h1 h2
  have h4 : 2 ^ a 4320 ≤ 4096 := by have := pw_lt hP; simpa using this
  have h8 : (8 * (2 ^ x ||| 2 ^ y) + e) / 8 = 2 ^ x ||| 2 ^ y := by omega
  refine ⟨⟨⟨by omega, ?_⟩, by rw [show (8 * (2 ^ x ||| 2 ^ y) + e) % 8 = e by omega]; exact hS⟩, by omega, ?_⟩
  · rw [h8]
    unfold okS
    rw [if_neg (by omega)]
    exact decide_eq_true h3
  · intro h0
    have := congrArg (fun z => Nat.testBit z x) h0
    simp [Nat.testBit_or, Nat.testBit_two_pow] at this
/-- pairs that were looked at -/
def PrV (I : Nat → Nat → Int32) (ky ln a : Nat → Nat) (m e : Nat) (sg : Nat → Nat) (S : Nat → Bool) (n : Nat) (q lev : Nat → Nat) : Prop := Lvd a I ky ln 34 5 35 m 1 sg e S n q lev ∧ sg 0 = 4095 ∧ ∀ x y, x < y → y < a 4320 → ∃ p, p < n ∧ q p = 8 * (2 ^ x ||| 2 ^ y) + e
theorem c_findPr {k : Nat} (h : CIx ow ky ln D I A nn) (hk : k < 2) : Ok (callD xs Ln (d + 7) 150 [.ref 0, .int (nI k)] (mkW D I L)) (fun r => ∃ D' I' L' ow' ky' ln', r = (mkW D' I' L', none) ∧ CIx ow' ky' ln' D' I' A nn ∧ CFr I I' ∧ ∃ sg S n q lev, PrV I' ky' ln' (sa A) (k + 1) (sa A 4327) sg S n q lev) := by
  have hM := h.2.2.2.1
  have hA := hM.2.1
  have hP := hA.1
  have h8 := hA.2.2.2.2.2.2.2.1
  have g2 : I 1 2 = nI (sa A 4327) := hM.1.m.2.2.1
  have hL : LvO 34 5 35 := Or.inl ⟨rfl, rfl, rfl⟩
  have hPr := h.2.2.2.2.2.2.2.1
  refine semG (lo := [some (.ref 0), some (.int (nI k)), none, none, none]) rfl rfl (Nat.le_of_ble_eq_true rfl) rfl (show G_X10_findPairs xs Ln _ 0 [some (.ref 0), some (.int (nI k)), none, none, none] [] _ _ from ?_)
  by_cases hall : I 34 3 = I 23 0 ∧ I 34 0 = nI (k + 1) ∧ I 34 1 = m1 ∧ I 34 2 = nI (sa A 4327)
  · obtain ⟨a1, a2, a3, a4⟩ := hall
    obtain ⟨m, sg, e, S, n, q, lev, v1, v2, v3, v4⟩ := hPr.2 a1
    have em : m = k + 1 := by
      have := v1.2.2.1
      rw [a2, n_eq (by omega) (by have := v1.2.1; omega)] at this
      exact this.symm
    have ee : e = sa A 4327 := by
      have := v1.2.2.2.1
      rw [a4, n_eq (by omega) (by have := v1.2.2.2.2.1; omega)] at this
      exact this.symm
    subst em ee
    have hof := c_isOf (xs := xs) (Ln := Ln) (d := d + 5) (D := D) (I := I) (L := L) (mi := nI (k + 1)) (ro := m1) (bg := nI (sa A 4327)) hL
    rw [decide_eq_true a1, decide_eq_true a2, decide_eq_true a3, decide_eq_true a4] at hof
    simp (disch := first | omega | exact c1_int _ | exact c1_none | exact c1_ref _ | exact isRf_ref _ | assumption | exact okRb _ | exact okN1 | exact okN0 | exact rfl) only [N_X10_findPairs_0, N_X10_findPairs_1, N_X10_findPairs_2, N_X10_findPairs_3, N_X10_findPairs_4, N_X10_findPairs_5, N_X10_findPairs_8, N_X10_findPairs_9, N_X10_findPairs_10, N_X10_findPairs_11, N_X10_findPairs_14, N_X10_findPairs_17, N_X10_findPairs_20, N_X10_findPairs_23, N_X10_findPairs_24, N_X10_findPairs_25, N_X10_findPairs_28, N_X10_findPairs_29, N_X10_findPairs_30, N_X10_findPairs_33, N_X10_findPairs_36, N_X10_findPairs_39, N_X10_findPairs_40, N_X10_findPairs_43, N_X10_findPairs_44, N_X10_findPairs_45, N_X10_findPairs_46, N_X10_findPairs_49, N_X10_findPairs_52, N_X10_findPairs_55, N_X10_findPairs_56, N_X10_findPairs_59, N_X10_findPairs_62, N_X10_findPairs_65, N_X10_findPairs_66, N_X10_findPairs_68, N_X10_findPairs_69, N_X10_findPairs_72, N_X10_findPairs_75, N_X10_findPairs_78, N_X10_findPairs_79, N_X10_findPairs_80, N_X10_findPairs_81, N_X10_findPairs_85, N_X10_findPairs_86, N_X10_findPairs_89, N_X10_findPairs_92, N_X10_findPairs_95, N_X10_findPairs_96, N_X10_findPairs_99, N_X10_findPairs_100, N_X10_findPairs_101, N_X10_findPairs_102, N_X10_findPairs_103, N_X10_findPairs_105, N_X10_findPairs_106, N_X10_findPairs_107, N_X10_findPairs_108, N_X10_findPairs_111, N_X10_findPairs_114, N_X10_findPairs_117, N_X10_findPairs_120, N_X10_findPairs_123, N_X10_findPairs_126, N_X10_findPairs_129, N_X10_findPairs_130, N_X10_findPairs_133, N_X10_findPairs_136, if_true, if_false, ite_true, ite_false, not_false_eq_true, not_true_eq_false, isRf_ref, isRf_null, c1_int, c1_ref, c1_null, c1_none, rfv_some, rfv_none, Ok_s, tl_some, tl_none, List.nil_append, b2i_n1, b2i_n0, ↓reduceIte, nI_add, pk_mul, pk_sub, n_leT, n_leF, n_ltT, n_ltF, n_eqT, n_eqF, n_shl1, n_shl, n_shr, nI_and, nI_or, nI_xor, b2i_z, b2i_o, m1_n, n_m1, m1_lt, m1_le, n_lm1, n_em1, nI_m1, and1, and3, and7, and15, and63, and255, Bool.true_eq_false, Bool.false_eq_true, reduceCtorEq, Nat.reduceAdd, Nat.reduceMul, Nat.reduceSub, Nat.reduceDiv, Nat.reduceMod, Nat.reducePow, Nat.zero_add, Nat.one_mul, g2, hof, Bool.and_true, Bool.and_self]
    exact ⟨D, I, L, ow, ky, ln, rfl, h, CFr.rf I, sg, S, n, q, lev, v1, v3, v4⟩
  · have hof := c_isOf (xs := xs) (Ln := Ln) (d := d + 5) (D := D) (I := I) (L := L) (mi := nI (k + 1)) (ro := m1) (bg := nI (sa A 4327)) hL
    have hfl : (decide (I 34 3 = I 23 0) && decide (I 34 0 = nI (k + 1)) && decide (I 34 1 = m1) && decide (I 34 2 = nI (sa A 4327))) = false := by
      rw [← Bool.not_eq_true]
      simp only [Bool.and_eq_true, decide_eq_true_eq]
      rintro ⟨⟨⟨b1, b2⟩, b3⟩, b4⟩
      exact hall ⟨b1, b2, b3, b4⟩
    rw [hfl] at hof
    simp (disch := first | omega | exact c1_int _ | exact c1_none | exact c1_ref _ | exact isRf_ref _ | assumption | exact okRb _ | exact okN1 | exact okN0 | exact rfl) only [N_X10_findPairs_0, N_X10_findPairs_1, N_X10_findPairs_2, N_X10_findPairs_3, N_X10_findPairs_4, N_X10_findPairs_5, N_X10_findPairs_8, N_X10_findPairs_9, N_X10_findPairs_10, N_X10_findPairs_11, N_X10_findPairs_14, N_X10_findPairs_17, N_X10_findPairs_20, N_X10_findPairs_23, N_X10_findPairs_24, N_X10_findPairs_25, N_X10_findPairs_28, N_X10_findPairs_29, N_X10_findPairs_30, N_X10_findPairs_33, N_X10_findPairs_36, N_X10_findPairs_39, N_X10_findPairs_40, N_X10_findPairs_43, N_X10_findPairs_44, N_X10_findPairs_45, N_X10_findPairs_46, N_X10_findPairs_49, N_X10_findPairs_52, N_X10_findPairs_55, N_X10_findPairs_56, N_X10_findPairs_59, N_X10_findPairs_62, N_X10_findPairs_65, N_X10_findPairs_66, N_X10_findPairs_68, N_X10_findPairs_69, N_X10_findPairs_72, N_X10_findPairs_75, N_X10_findPairs_78, N_X10_findPairs_79, N_X10_findPairs_80, N_X10_findPairs_81, N_X10_findPairs_85, N_X10_findPairs_86, N_X10_findPairs_89, N_X10_findPairs_92, N_X10_findPairs_95, N_X10_findPairs_96, N_X10_findPairs_99, N_X10_findPairs_100, N_X10_findPairs_101, N_X10_findPairs_102, N_X10_findPairs_103, N_X10_findPairs_105, N_X10_findPairs_106, N_X10_findPairs_107, N_X10_findPairs_108, N_X10_findPairs_111, N_X10_findPairs_114, N_X10_findPairs_117, N_X10_findPairs_120, N_X10_findPairs_123, N_X10_findPairs_126, N_X10_findPairs_129, N_X10_findPairs_130, N_X10_findPairs_133, N_X10_findPairs_136, if_true, if_false, ite_true, ite_false, not_false_eq_true, not_true_eq_false, isRf_ref, isRf_null, c1_int, c1_ref, c1_null, c1_none, rfv_some, rfv_none, Ok_s, tl_some, tl_none, List.nil_append, b2i_n1, b2i_n0, ↓reduceIte, nI_add, pk_mul, pk_sub, n_leT, n_leF, n_ltT, n_ltF, n_eqT, n_eqF, n_shl1, n_shl, n_shr, nI_and, nI_or, nI_xor, b2i_z, b2i_o, m1_n, n_m1, m1_lt, m1_le, n_lm1, n_em1, nI_m1, and1, and3, and7, and15, and63, and255, Bool.true_eq_false, Bool.false_eq_true, reduceCtorEq, Nat.reduceAdd, Nat.reduceMul, Nat.reduceSub, Nat.reduceDiv, Nat.reduceMod, Nat.reducePow, Nat.zero_add, Nat.one_mul, g2, hof]
    refine Ok.mono (c_makeAll (d := d) hM (show k + 1 < 4 by omega) h8) ?_
    rintro _ ⟨I1, L1, rfl, hM1, hK1, S, sS1, sS2⟩
    obtain ⟨hC1, hF1⟩ := h.kp hM1 hK1
    have hRS1 : RS I1 (sa A) (k + 1) S (sa A 4327) := ⟨sS1, sS2⟩
    obtain ⟨hm1, n1, q1, hE1⟩ : CIm ow ky ln D I1 A nn ∧ ∃ n q, LE I1 ky ln 34 5 n q := ⟨hC1.m.1, hC1.m.2.1⟩
    have g2' : I1 1 2 = nI (sa A 4327) := hM1.1.m.2.2.1
    simp (disch := first | omega | exact c1_int _ | exact c1_none | exact c1_ref _ | exact isRf_ref _ | assumption | exact okRb _ | exact okN1 | exact okN0 | exact rfl) only [N_X10_findPairs_0, N_X10_findPairs_1, N_X10_findPairs_2, N_X10_findPairs_3, N_X10_findPairs_4, N_X10_findPairs_5, N_X10_findPairs_8, N_X10_findPairs_9, N_X10_findPairs_10, N_X10_findPairs_11, N_X10_findPairs_14, N_X10_findPairs_17, N_X10_findPairs_20, N_X10_findPairs_23, N_X10_findPairs_24, N_X10_findPairs_25, N_X10_findPairs_28, N_X10_findPairs_29, N_X10_findPairs_30, N_X10_findPairs_33, N_X10_findPairs_36, N_X10_findPairs_39, N_X10_findPairs_40, N_X10_findPairs_43, N_X10_findPairs_44, N_X10_findPairs_45, N_X10_findPairs_46, N_X10_findPairs_49, N_X10_findPairs_52, N_X10_findPairs_55, N_X10_findPairs_56, N_X10_findPairs_59, N_X10_findPairs_62, N_X10_findPairs_65, N_X10_findPairs_66, N_X10_findPairs_68, N_X10_findPairs_69, N_X10_findPairs_72, N_X10_findPairs_75, N_X10_findPairs_78, N_X10_findPairs_79, N_X10_findPairs_80, N_X10_findPairs_81, N_X10_findPairs_85, N_X10_findPairs_86, N_X10_findPairs_89, N_X10_findPairs_92, N_X10_findPairs_95, N_X10_findPairs_96, N_X10_findPairs_99, N_X10_findPairs_100, N_X10_findPairs_101, N_X10_findPairs_102, N_X10_findPairs_103, N_X10_findPairs_105, N_X10_findPairs_106, N_X10_findPairs_107, N_X10_findPairs_108, N_X10_findPairs_111, N_X10_findPairs_114, N_X10_findPairs_117, N_X10_findPairs_120, N_X10_findPairs_123, N_X10_findPairs_126, N_X10_findPairs_129, N_X10_findPairs_130, N_X10_findPairs_133, N_X10_findPairs_136, if_true, if_false, ite_true, ite_false, not_false_eq_true, not_true_eq_false, isRf_ref, isRf_null, c1_int, c1_ref, c1_null, c1_none, rfv_some, rfv_none, Ok_s, tl_some, tl_none, List.nil_append, b2i_n1, b2i_n0, ↓reduceIte, nI_add, pk_mul, pk_sub, n_leT, n_leF, n_ltT, n_ltF, n_eqT, n_eqF, n_shl1, n_shl, n_shr, nI_and, nI_or, nI_xor, b2i_z, b2i_o, m1_n, n_m1, m1_lt, m1_le, n_lm1, n_em1, nI_m1, and1, and3, and7, and15, and63, and255, Bool.true_eq_false, Bool.false_eq_true, reduceCtorEq, Nat.reduceAdd, Nat.reduceMul, Nat.reduceSub, Nat.reduceDiv, Nat.reduceMod, Nat.reducePow, Nat.zero_add, Nat.one_mul, g2']
    refine Ok.mono (c_begin (d := d + 5) hL hC1.2.1 hE1) ?_
    rintro _ ⟨I2, rfl, b1, b2, b3, b4, b5, b6, b7, b8⟩
    obtain ⟨hm2, hF2⟩ := hm1.g b1 hC1.2.1 hC1.2.2.1 (Or.inr b6)
    have hRS2 := b1.rs (a := sa A) hC1.1 (by omega) (by omega) (Or.inr (Or.inl rfl)) _ _ _ hRS1
    obtain ⟨I3, hc3, r3, o3, s3⟩ := c_addSight (xs := xs) (Ln := Ln) (d := d + 5) (D := D) (I := I2) (L := L1) (k := 0) (s := 4095) (sg := fun _ => 0) hL ⟨b7, by omega, fun c hc => by omega⟩ (by decide) (by decide)
    rw [if_neg (by decide)] at s3
    obtain ⟨hm3, hF3⟩ := hm2.ad r3 (o3 3 (by decide))
    have hRS3 : RS I3 (sa A) (k + 1) S (sa A 4327) := by
      refine ⟨hRS2.1, fun e he hs => ⟨?_, (hRS2.2 e he hs).2⟩⟩
      have := (hRS2.2 e he hs).1
      unfold Rdy TbI at this ⊢
      rw [r3 25 (by decide) (by decide), r3 28 (by decide) (by decide)]
      exact this
    have hE3 : LE I3 ky ln 34 5 0 (fun _ => 0) := by
      have hk3 : ∀ i, 5 ≤ i → i ≤ 5 + 5 → I3 (ky i) = I2 (ky i) ∧ ln i = ln i := fun i hi1 hi2 => ⟨r3 _ (by have := hC1.2.1.hi (i := i) (by omega) (by omega); omega) (by have := hC1.2.1.hi (i := i) (by omega) (by omega); omega), rfl⟩
      obtain ⟨c1, c2, c3, c4, c5, c6, c7, c8, c9, c10⟩ := b2
      refine ⟨by rw [o3 5 (by decide)]; exact c1, c2, c3, c4, c5, c6, c7, c8, fun i hi => absurd hi (Nat.not_lt_zero i), ?_⟩
      rw [(hk3 5 (by omega) (by omega)).1]
      exact c10
    simp (disch := first | omega | exact c1_int _ | exact c1_none | exact c1_ref _ | exact isRf_ref _ | assumption | exact okRb _ | exact okN1 | exact okN0 | exact rfl) only [N_X10_findPairs_0, N_X10_findPairs_1, N_X10_findPairs_2, N_X10_findPairs_3, N_X10_findPairs_4, N_X10_findPairs_5, N_X10_findPairs_8, N_X10_findPairs_9, N_X10_findPairs_10, N_X10_findPairs_11, N_X10_findPairs_14, N_X10_findPairs_17, N_X10_findPairs_20, N_X10_findPairs_23, N_X10_findPairs_24, N_X10_findPairs_25, N_X10_findPairs_28, N_X10_findPairs_29, N_X10_findPairs_30, N_X10_findPairs_33, N_X10_findPairs_36, N_X10_findPairs_39, N_X10_findPairs_40, N_X10_findPairs_43, N_X10_findPairs_44, N_X10_findPairs_45, N_X10_findPairs_46, N_X10_findPairs_49, N_X10_findPairs_52, N_X10_findPairs_55, N_X10_findPairs_56, N_X10_findPairs_59, N_X10_findPairs_62, N_X10_findPairs_65, N_X10_findPairs_66, N_X10_findPairs_68, N_X10_findPairs_69, N_X10_findPairs_72, N_X10_findPairs_75, N_X10_findPairs_78, N_X10_findPairs_79, N_X10_findPairs_80, N_X10_findPairs_81, N_X10_findPairs_85, N_X10_findPairs_86, N_X10_findPairs_89, N_X10_findPairs_92, N_X10_findPairs_95, N_X10_findPairs_96, N_X10_findPairs_99, N_X10_findPairs_100, N_X10_findPairs_101, N_X10_findPairs_102, N_X10_findPairs_103, N_X10_findPairs_105, N_X10_findPairs_106, N_X10_findPairs_107, N_X10_findPairs_108, N_X10_findPairs_111, N_X10_findPairs_114, N_X10_findPairs_117, N_X10_findPairs_120, N_X10_findPairs_123, N_X10_findPairs_126, N_X10_findPairs_129, N_X10_findPairs_130, N_X10_findPairs_133, N_X10_findPairs_136, if_true, if_false, ite_true, ite_false, not_false_eq_true, not_true_eq_false, isRf_ref, isRf_null, c1_int, c1_ref, c1_null, c1_none, rfv_some, rfv_none, Ok_s, tl_some, tl_none, List.nil_append, b2i_n1, b2i_n0, ↓reduceIte, nI_add, pk_mul, pk_sub, n_leT, n_leF, n_ltT, n_ltF, n_eqT, n_eqF, n_shl1, n_shl, n_shr, nI_and, nI_or, nI_xor, b2i_z, b2i_o, m1_n, n_m1, m1_lt, m1_le, n_lm1, n_em1, nI_m1, and1, and3, and7, and15, and63, and255, Bool.true_eq_false, Bool.false_eq_true, reduceCtorEq, Nat.reduceAdd, Nat.reduceMul, Nat.reduceSub, Nat.reduceDiv, Nat.reduceMod, Nat.reducePow, Nat.zero_add, Nat.one_mul, hc3]
    have hV : ∀ x, VP (sa A) (k + 1) S x → vSt (sa A) (k + 1) x ∧ Rdy I3 (sa A) (k + 1) (x % 8) := fun x hx => ⟨hx.1, (hRS3.2 (x % 8) (by omega) hx.2).1⟩
    -- all pairs are entered
    refine Lp (n := sa A 4320) (σ := Wd6 × Nat × (Nat → Nat)) (E := fun x X => ∀ u4, G_X10_findPairs xs Ln (d + 6) 67 [some (.ref 0), some (.int (nI k)), some (.int (nI (k + 1))), some (.int (nI x)), u4] [] (mkW X.1.1 X.1.2.1 X.1.2.2.1) _) (Inv := fun x X => LY D I3 ow ky ln 34 5 (zB + 600 * nn) (VP (sa A) (k + 1) S) 0 (fun _ => 0) X ∧ ∀ x' y', x' < x → x' < y' → y' < sa A 4320 → ∃ p, p < X.2.1 ∧ X.2.2 p = 8 * (2 ^ x' ||| 2 ^ y') + sa A 4327) ?_ ?_ 0 ((D, I3, L1, ow, ky, ln), 0, fun _ => 0) (by omega) ⟨⟨⟨hC1.2.1, hC1.2.2.1, GX.rf, hE3, fun i hi => absurd hi (Nat.not_lt_zero i), fun _ _ => rfl⟩, ⟨Nat.le_refl _, fun _ _ => rfl⟩, fun i j hi => absurd hi (Nat.not_lt_zero i), fun i hi => absurd hi (Nat.not_lt_zero i)⟩, fun x' y' hx => absurd hx (Nat.not_lt_zero _)⟩ none
    · rintro ⟨⟨D4, I4, L4, ow4, ky4, ln4⟩, n4, q4⟩ ⟨⟨⟨x1, x2, x3, x4, x5, x6⟩, y1, y2⟩, hent⟩ u4
      dsimp only at x1 x2 x3 x4 x5 x6 y2 hent ⊢
      obtain ⟨hm4, hF4⟩ := hm3.g x3 x1 x2 (Or.inl (x6 3 (by decide)))
      have hM4 := hm4.2.2.2.1
      have g0 : I4 1 0 = nI (sa A 4320) := hM4.1.m.1
      have hRS4 := x3.rs (a := sa A) hm3.1 (by omega) (by omega) (Or.inr (Or.inl rfl)) _ _ _ hRS3
      have hSg4 : SgR I4 34 35 1 (up1 (fun _ => 0) 0 4095) := ⟨by rw [x6 4 (by decide)]; exact s3.1, by omega, fun c hc => by rw [x3.i hm3.1 (by omega) (by omega) (by omega) (by unfold dy; omega) (by omega)]; exact s3.2.2 c hc⟩
      have e00 : I4 34 0 = nI (k + 1) := by rw [x6 0 (by decide), o3 0 (by decide)]; exact b3
      rw [N_X10_findPairs_67]
      simp (disch := first | omega | exact c1_int _ | exact c1_none | exact c1_ref _ | exact isRf_ref _ | assumption | exact okRb _ | exact okN1 | exact okN0 | exact rfl) only [N_X10_findPairs_0, N_X10_findPairs_1, N_X10_findPairs_2, N_X10_findPairs_3, N_X10_findPairs_4, N_X10_findPairs_5, N_X10_findPairs_8, N_X10_findPairs_9, N_X10_findPairs_10, N_X10_findPairs_11, N_X10_findPairs_14, N_X10_findPairs_17, N_X10_findPairs_20, N_X10_findPairs_23, N_X10_findPairs_24, N_X10_findPairs_25, N_X10_findPairs_28, N_X10_findPairs_29, N_X10_findPairs_30, N_X10_findPairs_33, N_X10_findPairs_36, N_X10_findPairs_39, N_X10_findPairs_40, N_X10_findPairs_43, N_X10_findPairs_44, N_X10_findPairs_45, N_X10_findPairs_46, N_X10_findPairs_49, N_X10_findPairs_52, N_X10_findPairs_55, N_X10_findPairs_56, N_X10_findPairs_59, N_X10_findPairs_62, N_X10_findPairs_65, N_X10_findPairs_66, N_X10_findPairs_68, N_X10_findPairs_69, N_X10_findPairs_72, N_X10_findPairs_75, N_X10_findPairs_78, N_X10_findPairs_79, N_X10_findPairs_80, N_X10_findPairs_81, N_X10_findPairs_85, N_X10_findPairs_86, N_X10_findPairs_89, N_X10_findPairs_92, N_X10_findPairs_95, N_X10_findPairs_96, N_X10_findPairs_99, N_X10_findPairs_100, N_X10_findPairs_101, N_X10_findPairs_102, N_X10_findPairs_103, N_X10_findPairs_105, N_X10_findPairs_106, N_X10_findPairs_107, N_X10_findPairs_108, N_X10_findPairs_111, N_X10_findPairs_114, N_X10_findPairs_117, N_X10_findPairs_120, N_X10_findPairs_123, N_X10_findPairs_126, N_X10_findPairs_129, N_X10_findPairs_130, N_X10_findPairs_133, N_X10_findPairs_136, if_true, if_false, ite_true, ite_false, not_false_eq_true, not_true_eq_false, isRf_ref, isRf_null, c1_int, c1_ref, c1_null, c1_none, rfv_some, rfv_none, Ok_s, tl_some, tl_none, List.nil_append, b2i_n1, b2i_n0, ↓reduceIte, nI_add, pk_mul, pk_sub, n_leT, n_leF, n_ltT, n_ltF, n_eqT, n_eqF, n_shl1, n_shl, n_shr, nI_and, nI_or, nI_xor, b2i_z, b2i_o, m1_n, n_m1, m1_lt, m1_le, n_lm1, n_em1, nI_m1, and1, and3, and7, and15, and63, and255, Bool.true_eq_false, Bool.false_eq_true, reduceCtorEq, Nat.reduceAdd, Nat.reduceMul, Nat.reduceSub, Nat.reduceDiv, Nat.reduceMod, Nat.reducePow, Nat.zero_add, Nat.one_mul, g0]
      refine Ok.mono (c_solve (d := d) (VV := VP (sa A) (k + 1) S) hL hm4.1 x1 x2 hM4 (by omega) (by omega) e00 (by rw [x6 6 (by decide), o3 6 (by decide)]; exact b8) hSg4 x4 x5 y2 (fun x hx => ⟨hx.1, (hRS4.2 (x % 8) (by omega) hx.2).1⟩) (fun x w y c hx hy _ => VP_cl hA (by omega) (by omega) hRS4 x w y c hx hy)) ?_
      rintro _ ⟨⟨D5, I5, L5, ow5, ky5, ln5⟩, n5, q5, lev5, rfl, z1, z2, z3, z4, z5, z6⟩
      dsimp only at z1 z2 z3 z4 z6 ⊢
      obtain ⟨hm5, hF5⟩ := hm4.g z3 z1 z2 (Or.inl (z4 3 (by decide) (by decide)))
      have hRS5 := z3.rs (a := sa A) hm4.1 (by omega) (by omega) (Or.inr (Or.inl rfl)) _ _ _ hRS4
      have hent5 : ∀ x y, x < y → y < sa A 4320 → ∃ p, p < n5 ∧ q5 p = 8 * (2 ^ x ||| 2 ^ y) + sa A 4327 := by
        intro x y hxy hy
        obtain ⟨p, p1, p2⟩ := hent x y (by omega) hxy hy
        exact ⟨p, Nat.lt_of_lt_of_le p1 z5.1, by rw [z5.2 p p1]; exact p2⟩
      have hLv : Lvd (sa A) I5 ky5 ln5 34 5 35 (k + 1) 1 (up1 (fun _ => 0) 0 4095) (sa A 4327) S n5 q5 lev5 := by
        refine ⟨by omega, by omega, by rw [z4 0 (by decide) (by decide)]; exact e00, ?_, h8, ⟨by rw [z4 4 (by decide) (by decide)]; exact hSg4.1, by omega, fun c hc => ?_⟩, hRS5, z6⟩
        · rw [z4 2 (by decide) (by decide), x6 2 (by decide), o3 2 (by decide)]; exact b5
        · rw [z3.i hm4.1 (by omega) (by omega) (by omega) (by unfold dy; omega) (by omega)]; exact hSg4.2.2 c hc
      simp (disch := first | omega | exact c1_int _ | exact c1_none | exact c1_ref _ | exact isRf_ref _ | assumption | exact okRb _ | exact okN1 | exact okN0 | exact rfl) only [N_X10_findPairs_0, N_X10_findPairs_1, N_X10_findPairs_2, N_X10_findPairs_3, N_X10_findPairs_4, N_X10_findPairs_5, N_X10_findPairs_8, N_X10_findPairs_9, N_X10_findPairs_10, N_X10_findPairs_11, N_X10_findPairs_14, N_X10_findPairs_17, N_X10_findPairs_20, N_X10_findPairs_23, N_X10_findPairs_24, N_X10_findPairs_25, N_X10_findPairs_28, N_X10_findPairs_29, N_X10_findPairs_30, N_X10_findPairs_33, N_X10_findPairs_36, N_X10_findPairs_39, N_X10_findPairs_40, N_X10_findPairs_43, N_X10_findPairs_44, N_X10_findPairs_45, N_X10_findPairs_46, N_X10_findPairs_49, N_X10_findPairs_52, N_X10_findPairs_55, N_X10_findPairs_56, N_X10_findPairs_59, N_X10_findPairs_62, N_X10_findPairs_65, N_X10_findPairs_66, N_X10_findPairs_68, N_X10_findPairs_69, N_X10_findPairs_72, N_X10_findPairs_75, N_X10_findPairs_78, N_X10_findPairs_79, N_X10_findPairs_80, N_X10_findPairs_81, N_X10_findPairs_85, N_X10_findPairs_86, N_X10_findPairs_89, N_X10_findPairs_92, N_X10_findPairs_95, N_X10_findPairs_96, N_X10_findPairs_99, N_X10_findPairs_100, N_X10_findPairs_101, N_X10_findPairs_102, N_X10_findPairs_103, N_X10_findPairs_105, N_X10_findPairs_106, N_X10_findPairs_107, N_X10_findPairs_108, N_X10_findPairs_111, N_X10_findPairs_114, N_X10_findPairs_117, N_X10_findPairs_120, N_X10_findPairs_123, N_X10_findPairs_126, N_X10_findPairs_129, N_X10_findPairs_130, N_X10_findPairs_133, N_X10_findPairs_136, if_true, if_false, ite_true, ite_false, not_false_eq_true, not_true_eq_false, isRf_ref, isRf_null, c1_int, c1_ref, c1_null, c1_none, rfv_some, rfv_none, Ok_s, tl_some, tl_none, List.nil_append, b2i_n1, b2i_n0, ↓reduceIte, nI_add, pk_mul, pk_sub, n_leT, n_leF, n_ltT, n_ltF, n_eqT, n_eqF, n_shl1, n_shl, n_shr, nI_and, nI_or, nI_xor, b2i_z, b2i_o, m1_n, n_m1, m1_lt, m1_le, n_lm1, n_em1, nI_m1, and1, and3, and7, and15, and63, and255, Bool.true_eq_false, Bool.false_eq_true, reduceCtorEq, Nat.reduceAdd, Nat.reduceMul, Nat.reduceSub, Nat.reduceDiv, Nat.reduceMod, Nat.reducePow, Nat.zero_add, Nat.one_mul]
      refine ⟨D5, I5, L5, ow5, ky5, ln5, rfl, hm5.x ⟨⟨n5, q5, z6.1⟩, fun _ => ⟨k + 1, _, sa A 4327, S, n5, q5, lev5, hLv, ?_, up1_s _ _ _, hent5⟩⟩, ((((hF1.tr hF2).tr hF3).tr hF4).tr hF5), _, S, n5, q5, lev5, hLv, up1_s _ _ _, hent5⟩
      rw [z4 1 (by decide) (by decide), x6 1 (by decide), o3 1 (by decide)]; exact b4
    · rintro x X hx ⟨hY, hent⟩ ih u4
      have g0 : X.1.2.1 1 0 = nI (sa A 4320) := by rw [hY.1.2.2.1.i hm3.1 (by omega) (by omega) (by omega) (ndy_lo (by omega)) (by omega)]; exact hm3.2.2.2.1.1.m.1
      rw [N_X10_findPairs_67]
      simp (disch := first | omega | exact c1_int _ | exact c1_none | exact c1_ref _ | exact isRf_ref _ | assumption | exact okRb _ | exact okN1 | exact okN0 | exact rfl) only [N_X10_findPairs_0, N_X10_findPairs_1, N_X10_findPairs_2, N_X10_findPairs_3, N_X10_findPairs_4, N_X10_findPairs_5, N_X10_findPairs_8, N_X10_findPairs_9, N_X10_findPairs_10, N_X10_findPairs_11, N_X10_findPairs_14, N_X10_findPairs_17, N_X10_findPairs_20, N_X10_findPairs_23, N_X10_findPairs_24, N_X10_findPairs_25, N_X10_findPairs_28, N_X10_findPairs_29, N_X10_findPairs_30, N_X10_findPairs_33, N_X10_findPairs_36, N_X10_findPairs_39, N_X10_findPairs_40, N_X10_findPairs_43, N_X10_findPairs_44, N_X10_findPairs_45, N_X10_findPairs_46, N_X10_findPairs_49, N_X10_findPairs_52, N_X10_findPairs_55, N_X10_findPairs_56, N_X10_findPairs_59, N_X10_findPairs_62, N_X10_findPairs_65, N_X10_findPairs_66, N_X10_findPairs_68, N_X10_findPairs_69, N_X10_findPairs_72, N_X10_findPairs_75, N_X10_findPairs_78, N_X10_findPairs_79, N_X10_findPairs_80, N_X10_findPairs_81, N_X10_findPairs_85, N_X10_findPairs_86, N_X10_findPairs_89, N_X10_findPairs_92, N_X10_findPairs_95, N_X10_findPairs_96, N_X10_findPairs_99, N_X10_findPairs_100, N_X10_findPairs_101, N_X10_findPairs_102, N_X10_findPairs_103, N_X10_findPairs_105, N_X10_findPairs_106, N_X10_findPairs_107, N_X10_findPairs_108, N_X10_findPairs_111, N_X10_findPairs_114, N_X10_findPairs_117, N_X10_findPairs_120, N_X10_findPairs_123, N_X10_findPairs_126, N_X10_findPairs_129, N_X10_findPairs_130, N_X10_findPairs_133, N_X10_findPairs_136, if_true, if_false, ite_true, ite_false, not_false_eq_true, not_true_eq_false, isRf_ref, isRf_null, c1_int, c1_ref, c1_null, c1_none, rfv_some, rfv_none, Ok_s, tl_some, tl_none, List.nil_append, b2i_n1, b2i_n0, ↓reduceIte, nI_add, pk_mul, pk_sub, n_leT, n_leF, n_ltT, n_ltF, n_eqT, n_eqF, n_shl1, n_shl, n_shr, nI_and, nI_or, nI_xor, b2i_z, b2i_o, m1_n, n_m1, m1_lt, m1_le, n_lm1, n_em1, nI_m1, and1, and3, and7, and15, and63, and255, Bool.true_eq_false, Bool.false_eq_true, reduceCtorEq, Nat.reduceAdd, Nat.reduceMul, Nat.reduceSub, Nat.reduceDiv, Nat.reduceMod, Nat.reducePow, Nat.zero_add, Nat.one_mul, g0]
      refine Lp (n := sa A 4320) (σ := Wd6 × Nat × (Nat → Nat)) (E := fun y X => x < y → G_X10_findPairs xs Ln (d + 6) 83 [some (.ref 0), some (.int (nI k)), some (.int (nI (k + 1))), some (.int (nI x)), some (.int (nI y))] [] (mkW X.1.1 X.1.2.1 X.1.2.2.1) _) (Inv := fun y X => LY D I3 ow ky ln 34 5 (zB + 600 * nn) (VP (sa A) (k + 1) S) 0 (fun _ => 0) X ∧ (∀ x' y', x' < x → x' < y' → y' < sa A 4320 → ∃ p, p < X.2.1 ∧ X.2.2 p = 8 * (2 ^ x' ||| 2 ^ y') + sa A 4327) ∧ ∀ y', x < y' → y' < y → ∃ p, p < X.2.1 ∧ X.2.2 p = 8 * (2 ^ x ||| 2 ^ y') + sa A 4327) ?_ ?_ (x + 1) X (by omega) ⟨hY, hent, fun y' h1 h2 => by omega⟩ (by omega)
      · rintro X ⟨j1, j2, j3⟩ _
        have g0 : X.1.2.1 1 0 = nI (sa A 4320) := by rw [j1.1.2.2.1.i hm3.1 (by omega) (by omega) (by omega) (ndy_lo (by omega)) (by omega)]; exact hm3.2.2.2.1.1.m.1
        rw [N_X10_findPairs_83]
        simp (disch := first | omega | exact c1_int _ | exact c1_none | exact c1_ref _ | exact isRf_ref _ | assumption | exact okRb _ | exact okN1 | exact okN0 | exact rfl) only [N_X10_findPairs_0, N_X10_findPairs_1, N_X10_findPairs_2, N_X10_findPairs_3, N_X10_findPairs_4, N_X10_findPairs_5, N_X10_findPairs_8, N_X10_findPairs_9, N_X10_findPairs_10, N_X10_findPairs_11, N_X10_findPairs_14, N_X10_findPairs_17, N_X10_findPairs_20, N_X10_findPairs_23, N_X10_findPairs_24, N_X10_findPairs_25, N_X10_findPairs_28, N_X10_findPairs_29, N_X10_findPairs_30, N_X10_findPairs_33, N_X10_findPairs_36, N_X10_findPairs_39, N_X10_findPairs_40, N_X10_findPairs_43, N_X10_findPairs_44, N_X10_findPairs_45, N_X10_findPairs_46, N_X10_findPairs_49, N_X10_findPairs_52, N_X10_findPairs_55, N_X10_findPairs_56, N_X10_findPairs_59, N_X10_findPairs_62, N_X10_findPairs_65, N_X10_findPairs_66, N_X10_findPairs_68, N_X10_findPairs_69, N_X10_findPairs_72, N_X10_findPairs_75, N_X10_findPairs_78, N_X10_findPairs_79, N_X10_findPairs_80, N_X10_findPairs_81, N_X10_findPairs_85, N_X10_findPairs_86, N_X10_findPairs_89, N_X10_findPairs_92, N_X10_findPairs_95, N_X10_findPairs_96, N_X10_findPairs_99, N_X10_findPairs_100, N_X10_findPairs_101, N_X10_findPairs_102, N_X10_findPairs_103, N_X10_findPairs_105, N_X10_findPairs_106, N_X10_findPairs_107, N_X10_findPairs_108, N_X10_findPairs_111, N_X10_findPairs_114, N_X10_findPairs_117, N_X10_findPairs_120, N_X10_findPairs_123, N_X10_findPairs_126, N_X10_findPairs_129, N_X10_findPairs_130, N_X10_findPairs_133, N_X10_findPairs_136, if_true, if_false, ite_true, ite_false, not_false_eq_true, not_true_eq_false, isRf_ref, isRf_null, c1_int, c1_ref, c1_null, c1_none, rfv_some, rfv_none, Ok_s, tl_some, tl_none, List.nil_append, b2i_n1, b2i_n0, ↓reduceIte, nI_add, pk_mul, pk_sub, n_leT, n_leF, n_ltT, n_ltF, n_eqT, n_eqF, n_shl1, n_shl, n_shr, nI_and, nI_or, nI_xor, b2i_z, b2i_o, m1_n, n_m1, m1_lt, m1_le, n_lm1, n_em1, nI_m1, and1, and3, and7, and15, and63, and255, Bool.true_eq_false, Bool.false_eq_true, reduceCtorEq, Nat.reduceAdd, Nat.reduceMul, Nat.reduceSub, Nat.reduceDiv, Nat.reduceMod, Nat.reducePow, Nat.zero_add, Nat.one_mul, g0]
        refine ih X ⟨j1, fun x' y' h1 h2 h3 => ?_⟩ _
        by_cases ex : x' = x
        · subst ex; exact j3 y' h2 h3
        · exact j2 x' y' (by omega) h2 h3
      · rintro y X hy ⟨j1, j2, j3⟩ ih2 hxy
        have g0 : X.1.2.1 1 0 = nI (sa A 4320) := by rw [j1.1.2.2.1.i hm3.1 (by omega) (by omega) (by omega) (ndy_lo (by omega)) (by omega)]; exact hm3.2.2.2.1.1.m.1
        have gd : X.1.2.1 1 2 = nI (sa A 4327) := by rw [j1.1.2.2.1.i hm3.1 (by omega) (by omega) (by omega) (ndy_lo (by omega)) (by omega)]; exact hm3.2.2.2.1.1.m.2.2.1
        obtain ⟨t1, t2, t3⟩ := two_v (m := k + 1) hA (by omega) (by omega) hx hy h8 sS1
        rw [N_X10_findPairs_83]
        simp (disch := first | omega | exact c1_int _ | exact c1_none | exact c1_ref _ | exact isRf_ref _ | assumption | exact okRb _ | exact okN1 | exact okN0 | exact rfl) only [N_X10_findPairs_0, N_X10_findPairs_1, N_X10_findPairs_2, N_X10_findPairs_3, N_X10_findPairs_4, N_X10_findPairs_5, N_X10_findPairs_8, N_X10_findPairs_9, N_X10_findPairs_10, N_X10_findPairs_11, N_X10_findPairs_14, N_X10_findPairs_17, N_X10_findPairs_20, N_X10_findPairs_23, N_X10_findPairs_24, N_X10_findPairs_25, N_X10_findPairs_28, N_X10_findPairs_29, N_X10_findPairs_30, N_X10_findPairs_33, N_X10_findPairs_36, N_X10_findPairs_39, N_X10_findPairs_40, N_X10_findPairs_43, N_X10_findPairs_44, N_X10_findPairs_45, N_X10_findPairs_46, N_X10_findPairs_49, N_X10_findPairs_52, N_X10_findPairs_55, N_X10_findPairs_56, N_X10_findPairs_59, N_X10_findPairs_62, N_X10_findPairs_65, N_X10_findPairs_66, N_X10_findPairs_68, N_X10_findPairs_69, N_X10_findPairs_72, N_X10_findPairs_75, N_X10_findPairs_78, N_X10_findPairs_79, N_X10_findPairs_80, N_X10_findPairs_81, N_X10_findPairs_85, N_X10_findPairs_86, N_X10_findPairs_89, N_X10_findPairs_92, N_X10_findPairs_95, N_X10_findPairs_96, N_X10_findPairs_99, N_X10_findPairs_100, N_X10_findPairs_101, N_X10_findPairs_102, N_X10_findPairs_103, N_X10_findPairs_105, N_X10_findPairs_106, N_X10_findPairs_107, N_X10_findPairs_108, N_X10_findPairs_111, N_X10_findPairs_114, N_X10_findPairs_117, N_X10_findPairs_120, N_X10_findPairs_123, N_X10_findPairs_126, N_X10_findPairs_129, N_X10_findPairs_130, N_X10_findPairs_133, N_X10_findPairs_136, if_true, if_false, ite_true, ite_false, not_false_eq_true, not_true_eq_false, isRf_ref, isRf_null, c1_int, c1_ref, c1_null, c1_none, rfv_some, rfv_none, Ok_s, tl_some, tl_none, List.nil_append, b2i_n1, b2i_n0, ↓reduceIte, nI_add, pk_mul, pk_sub, n_leT, n_leF, n_ltT, n_ltF, n_eqT, n_eqF, n_shl1, n_shl, n_shr, nI_and, nI_or, nI_xor, b2i_z, b2i_o, m1_n, n_m1, m1_lt, m1_le, n_lm1, n_em1, nI_m1, and1, and3, and7, and15, and63, and255, Bool.true_eq_false, Bool.false_eq_true, reduceCtorEq, Nat.reduceAdd, Nat.reduceMul, Nat.reduceSub, Nat.reduceDiv, Nat.reduceMod, Nat.reducePow, Nat.zero_add, Nat.one_mul, g0, gd]
        refine Ok.mono (c_enterP (d := d + 3) (s := 2 ^ x ||| 2 ^ y) (e := sa A 4327) hL j1 (fun x hx => hx.1.1) t2 h8 (fun _ => t1)) ?_
        rintro _ ⟨X', rfl, w1, w2, w3⟩
        simp (disch := first | omega | exact c1_int _ | exact c1_none | exact c1_ref _ | exact isRf_ref _ | assumption | exact okRb _ | exact okN1 | exact okN0 | exact rfl) only [N_X10_findPairs_0, N_X10_findPairs_1, N_X10_findPairs_2, N_X10_findPairs_3, N_X10_findPairs_4, N_X10_findPairs_5, N_X10_findPairs_8, N_X10_findPairs_9, N_X10_findPairs_10, N_X10_findPairs_11, N_X10_findPairs_14, N_X10_findPairs_17, N_X10_findPairs_20, N_X10_findPairs_23, N_X10_findPairs_24, N_X10_findPairs_25, N_X10_findPairs_28, N_X10_findPairs_29, N_X10_findPairs_30, N_X10_findPairs_33, N_X10_findPairs_36, N_X10_findPairs_39, N_X10_findPairs_40, N_X10_findPairs_43, N_X10_findPairs_44, N_X10_findPairs_45, N_X10_findPairs_46, N_X10_findPairs_49, N_X10_findPairs_52, N_X10_findPairs_55, N_X10_findPairs_56, N_X10_findPairs_59, N_X10_findPairs_62, N_X10_findPairs_65, N_X10_findPairs_66, N_X10_findPairs_68, N_X10_findPairs_69, N_X10_findPairs_72, N_X10_findPairs_75, N_X10_findPairs_78, N_X10_findPairs_79, N_X10_findPairs_80, N_X10_findPairs_81, N_X10_findPairs_85, N_X10_findPairs_86, N_X10_findPairs_89, N_X10_findPairs_92, N_X10_findPairs_95, N_X10_findPairs_96, N_X10_findPairs_99, N_X10_findPairs_100, N_X10_findPairs_101, N_X10_findPairs_102, N_X10_findPairs_103, N_X10_findPairs_105, N_X10_findPairs_106, N_X10_findPairs_107, N_X10_findPairs_108, N_X10_findPairs_111, N_X10_findPairs_114, N_X10_findPairs_117, N_X10_findPairs_120, N_X10_findPairs_123, N_X10_findPairs_126, N_X10_findPairs_129, N_X10_findPairs_130, N_X10_findPairs_133, N_X10_findPairs_136, if_true, if_false, ite_true, ite_false, not_false_eq_true, not_true_eq_false, isRf_ref, isRf_null, c1_int, c1_ref, c1_null, c1_none, rfv_some, rfv_none, Ok_s, tl_some, tl_none, List.nil_append, b2i_n1, b2i_n0, ↓reduceIte, nI_add, pk_mul, pk_sub, n_leT, n_leF, n_ltT, n_ltF, n_eqT, n_eqF, n_shl1, n_shl, n_shr, nI_and, nI_or, nI_xor, b2i_z, b2i_o, m1_n, n_m1, m1_lt, m1_le, n_lm1, n_em1, nI_m1, and1, and3, and7, and15, and63, and255, Bool.true_eq_false, Bool.false_eq_true, reduceCtorEq, Nat.reduceAdd, Nat.reduceMul, Nat.reduceSub, Nat.reduceDiv, Nat.reduceMod, Nat.reducePow, Nat.zero_add, Nat.one_mul]
        have lift : ∀ t, (∃ i, i < X.2.1 ∧ X.2.2 i = t) → ∃ i, i < X'.2.1 ∧ X'.2.2 i = t := by
          rintro t ⟨i, i1, i2⟩
          exact ⟨i, Nat.lt_of_lt_of_le i1 w2.1, by rw [w2.2 i i1]; exact i2⟩
        refine ih2 X' ⟨w1, fun x' y' h1 h2 h3 => lift _ (j2 x' y' h1 h2 h3), fun y' h1 h2 => ?_⟩ (by omega)
        by_cases ey : y' = y
        · subst ey
          exact w3 (by rw [pc_two x (by omega) y' (by omega) (by omega)]; omega)
        · exact lift _ (j3 y' h1 (by omega))
end Pe0
