section P63
variable {xs : Nat → Int32} {Ln d : Nat} {D : Dyn} {I : Nat → Nat → Int32} {L : Nat → Nat → Int64} {w : Om}
theorem and_eq_tb {s m : Nat} : (s &&& m = s) ↔ ∀ j, s.testBit j = true → m.testBit j = true := by
  constructor
  · intro h j hj
    have := congrArg (fun x => Nat.testBit x j) h
    simp only [Nat.testBit_and, hj, Bool.true_and] at this
    exact this
  · intro h
    apply Nat.eq_of_testBit_eq
    intro j
    rw [Nat.testBit_and]
    cases hj : s.testBit j
    · rfl
    · rw [h j hj]
      rfl
theorem and_one {s P : Nat} : (s &&& (2 ^ P - 1) = s) ↔ s < 2 ^ P := by
  rw [Nat.and_two_pow_sub_one_eq_mod]
  constructor
  · intro h
    rw [← h]
    exact Nat.mod_lt _ (Nat.two_pow_pos P)
  · intro h
    exact Nat.mod_eq_of_lt h
theorem and_two {s P : Nat} (hP : P ≤ 6) : (s &&& ((2 ^ P - 1) ||| (2 ^ P - 1) * 2 ^ 6) = s) ↔ s < 4096 ∧ s % 64 < 2 ^ P ∧ s / 64 < 2 ^ P := by
  have hm : ∀ j, ((2 ^ P - 1) ||| (2 ^ P - 1) * 2 ^ 6).testBit j = (decide (j < P) || (decide (6 ≤ j) && decide (j - 6 < P))) := by
    intro j
    rw [Nat.testBit_or, Nat.testBit_two_pow_sub_one, Nat.testBit_mul_two_pow, Nat.testBit_two_pow_sub_one]
  rw [and_eq_tb]
  constructor
  · intro h
    have key : ∀ j, s.testBit j = true → j < P ∨ (6 ≤ j ∧ j - 6 < P) := by
      intro j hj
      have := h j hj
      rw [hm] at this
      simp at this
      exact this
    refine ⟨lt_tb (N := 12) (fun j hj => by have := key j hj; omega), lt_tb (fun j hj => ?_), lt_tb (fun j hj => ?_)⟩
    · rw [show (64 : Nat) = 2 ^ 6 from rfl, Nat.testBit_mod_two_pow] at hj
      simp only [Bool.and_eq_true, decide_eq_true_eq] at hj
      have := key j hj.2
      omega
    · rw [show (64 : Nat) = 2 ^ 6 from rfl, Nat.testBit_div_two_pow] at hj
      have := key _ hj
      omega
  · rintro ⟨h0, h1, h2⟩ j hj
    rw [hm]
    by_cases h6 : j < 6
    · have : j < P := by
        refine tb_lt h1 ?_
        rw [show (64 : Nat) = 2 ^ 6 from rfl, Nat.testBit_mod_two_pow, hj]
        simp [h6]
      simp [this]
    · have : j - 6 < P := by
        refine tb_lt h2 ?_
        rw [show (64 : Nat) = 2 ^ 6 from rfl, Nat.testBit_div_two_pow, show j - 6 + 6 = j by omega]
        exact hj
      have h6' : 6 ≤ j := by omega
      simp [this, h6']
theorem neg_lt0 {v : Int32} (h : v < 0) (n : Nat) : inN v (nI n) = false := by
  unfold inN
  rw [decide_eq_true h]
  rfl
theorem r_isSet {a : Nat → Nat} {mix set : Int32} (hK : RK I a) (hA : AW a) : callD xs Ln (d + 2) 217 [.ref 82, .int mix, .int set] (mkW D I L) = some (mkW D I L, some (.int (b2i (okSI (a 4320) mix set)))) := by
  have h1 := hA.1
  have hP := hK.2.2.1 4320 (by decide) (by decide) (by decide)
  have hpw : 2 ^ a 4320 ≤ 2 ^ 12 := pw_lt h1
  have hpp : 0 < 2 ^ a 4320 := Nat.two_pow_pos _
  refine Ok.eq ?_
  refine semG (lo := [some (.ref 82), some (.int mix), some (.int set), none, none]) rfl rfl (Nat.le_of_ble_eq_true rfl) rfl (show G_X11_isSet xs Ln _ 0 [some (.ref 82), some (.int mix), some (.int set), none, none] [] _ _ from ?_)
  unfold okSI
  cases hm : inR mix (nI 1) (nI 3)
  · simp (disch := first | omega | exact c1_int _ | exact c1_none | exact c1_ref _ | exact isRf_ref _ | assumption | exact okRb _ | exact okN1 | exact okN0 | exact rfl) only [N_X11_isSet_0, N_X11_isSet_1, N_X11_isSet_2, N_X11_isSet_3, N_X11_isSet_6, N_X11_isSet_9, N_X11_isSet_10, N_X11_isSet_11, N_X11_isSet_14, N_X11_isSet_15, N_X11_isSet_18, N_X11_isSet_20, N_X11_isSet_23, N_X11_isSet_24, N_X11_isSet_25, N_X11_isSet_26, N_X11_isSet_27, N_X11_isSet_30, N_X11_isSet_31, N_X11_isSet_32, N_X11_isSet_33, N_X11_isSet_34, N_X11_isSet_35, N_X11_isSet_36, N_X11_isSet_39, N_X11_isSet_40, N_X11_isSet_41, N_X11_isSet_43, N_X11_isSet_44, N_X11_isSet_45, N_X11_isSet_48, N_X11_isSet_49, N_X11_isSet_51, N_X11_isSet_52, N_X11_isSet_55, N_X11_isSet_56, N_X11_isSet_58, N_X11_isSet_59, N_X11_isSet_60, N_X11_isSet_61, N_X11_isSet_64, N_X11_isSet_65, N_X11_isSet_68, N_X11_isSet_69, if_true, if_false, ite_true, ite_false, not_false_eq_true, not_true_eq_false, isRf_ref, isRf_null, c1_int, c1_ref, c1_null, c1_none, rfv_some, rfv_none, Ok_s, tl_some, tl_none, List.nil_append, b2i_n1, b2i_n0, ↓reduceIte, nI_add, pk_mul, pk_sub, n_leT, n_leF, n_ltT, n_ltF, n_eqT, n_eqF, n_shl1, n_shl, n_shr, nI_and, nI_or, nI_xor, b2i_z, b2i_o, m1_n, n_m1, m1_lt, m1_le, n_lm1, n_em1, nI_m1, and1, and3, and7, and15, and63, and255, Bool.true_eq_false, Bool.false_eq_true, reduceCtorEq, Nat.reduceAdd, Nat.reduceMul, Nat.reduceSub, Nat.reduceDiv, Nat.reduceMod, Nat.reducePow, Nat.zero_add, Nat.one_mul, c_lies, hm, Bool.false_and]
  · obtain ⟨m, hm1, hm3, rfl⟩ := inR_t (by decide) (by decide) hm
    by_cases hs0 : set < 0
    · have hs0' : set < nI 0 := hs0
      have hf : (inR (nI m) (nI 1) (nI 3) && inN set (nI 4096) && okS (a 4320) (nI m).toNatClampNeg set.toNatClampNeg) = false := by
        rw [neg_lt0 hs0]
        simp
      rw [hm] at hf
      rw [hf]
      by_cases h3 : m = 3
      · subst h3
        by_cases h6 : a 4320 ≤ 6
        · simp (disch := first | omega | exact c1_int _ | exact c1_none | exact c1_ref _ | exact isRf_ref _ | assumption | exact okRb _ | exact okN1 | exact okN0 | exact rfl) only [N_X11_isSet_0, N_X11_isSet_1, N_X11_isSet_2, N_X11_isSet_3, N_X11_isSet_6, N_X11_isSet_9, N_X11_isSet_10, N_X11_isSet_11, N_X11_isSet_14, N_X11_isSet_15, N_X11_isSet_18, N_X11_isSet_20, N_X11_isSet_23, N_X11_isSet_24, N_X11_isSet_25, N_X11_isSet_26, N_X11_isSet_27, N_X11_isSet_30, N_X11_isSet_31, N_X11_isSet_32, N_X11_isSet_33, N_X11_isSet_34, N_X11_isSet_35, N_X11_isSet_36, N_X11_isSet_39, N_X11_isSet_40, N_X11_isSet_41, N_X11_isSet_43, N_X11_isSet_44, N_X11_isSet_45, N_X11_isSet_48, N_X11_isSet_49, N_X11_isSet_51, N_X11_isSet_52, N_X11_isSet_55, N_X11_isSet_56, N_X11_isSet_58, N_X11_isSet_59, N_X11_isSet_60, N_X11_isSet_61, N_X11_isSet_64, N_X11_isSet_65, N_X11_isSet_68, N_X11_isSet_69, if_true, if_false, ite_true, ite_false, not_false_eq_true, not_true_eq_false, isRf_ref, isRf_null, c1_int, c1_ref, c1_null, c1_none, rfv_some, rfv_none, Ok_s, tl_some, tl_none, List.nil_append, b2i_n1, b2i_n0, ↓reduceIte, nI_add, pk_mul, pk_sub, n_leT, n_leF, n_ltT, n_ltF, n_eqT, n_eqF, n_shl1, n_shl, n_shr, nI_and, nI_or, nI_xor, b2i_z, b2i_o, m1_n, n_m1, m1_lt, m1_le, n_lm1, n_em1, nI_m1, and1, and3, and7, and15, and63, and255, Bool.true_eq_false, Bool.false_eq_true, reduceCtorEq, Nat.reduceAdd, Nat.reduceMul, Nat.reduceSub, Nat.reduceDiv, Nat.reduceMod, Nat.reducePow, Nat.zero_add, Nat.one_mul, c_lies, hm, c_places, hP, hs0']
        · simp (disch := first | omega | exact c1_int _ | exact c1_none | exact c1_ref _ | exact isRf_ref _ | assumption | exact okRb _ | exact okN1 | exact okN0 | exact rfl) only [N_X11_isSet_0, N_X11_isSet_1, N_X11_isSet_2, N_X11_isSet_3, N_X11_isSet_6, N_X11_isSet_9, N_X11_isSet_10, N_X11_isSet_11, N_X11_isSet_14, N_X11_isSet_15, N_X11_isSet_18, N_X11_isSet_20, N_X11_isSet_23, N_X11_isSet_24, N_X11_isSet_25, N_X11_isSet_26, N_X11_isSet_27, N_X11_isSet_30, N_X11_isSet_31, N_X11_isSet_32, N_X11_isSet_33, N_X11_isSet_34, N_X11_isSet_35, N_X11_isSet_36, N_X11_isSet_39, N_X11_isSet_40, N_X11_isSet_41, N_X11_isSet_43, N_X11_isSet_44, N_X11_isSet_45, N_X11_isSet_48, N_X11_isSet_49, N_X11_isSet_51, N_X11_isSet_52, N_X11_isSet_55, N_X11_isSet_56, N_X11_isSet_58, N_X11_isSet_59, N_X11_isSet_60, N_X11_isSet_61, N_X11_isSet_64, N_X11_isSet_65, N_X11_isSet_68, N_X11_isSet_69, if_true, if_false, ite_true, ite_false, not_false_eq_true, not_true_eq_false, isRf_ref, isRf_null, c1_int, c1_ref, c1_null, c1_none, rfv_some, rfv_none, Ok_s, tl_some, tl_none, List.nil_append, b2i_n1, b2i_n0, ↓reduceIte, nI_add, pk_mul, pk_sub, n_leT, n_leF, n_ltT, n_ltF, n_eqT, n_eqF, n_shl1, n_shl, n_shr, nI_and, nI_or, nI_xor, b2i_z, b2i_o, m1_n, n_m1, m1_lt, m1_le, n_lm1, n_em1, nI_m1, and1, and3, and7, and15, and63, and255, Bool.true_eq_false, Bool.false_eq_true, reduceCtorEq, Nat.reduceAdd, Nat.reduceMul, Nat.reduceSub, Nat.reduceDiv, Nat.reduceMod, Nat.reducePow, Nat.zero_add, Nat.one_mul, c_lies, hm, c_places, hP]
      · simp (disch := first | omega | exact c1_int _ | exact c1_none | exact c1_ref _ | exact isRf_ref _ | assumption | exact okRb _ | exact okN1 | exact okN0 | exact rfl) only [N_X11_isSet_0, N_X11_isSet_1, N_X11_isSet_2, N_X11_isSet_3, N_X11_isSet_6, N_X11_isSet_9, N_X11_isSet_10, N_X11_isSet_11, N_X11_isSet_14, N_X11_isSet_15, N_X11_isSet_18, N_X11_isSet_20, N_X11_isSet_23, N_X11_isSet_24, N_X11_isSet_25, N_X11_isSet_26, N_X11_isSet_27, N_X11_isSet_30, N_X11_isSet_31, N_X11_isSet_32, N_X11_isSet_33, N_X11_isSet_34, N_X11_isSet_35, N_X11_isSet_36, N_X11_isSet_39, N_X11_isSet_40, N_X11_isSet_41, N_X11_isSet_43, N_X11_isSet_44, N_X11_isSet_45, N_X11_isSet_48, N_X11_isSet_49, N_X11_isSet_51, N_X11_isSet_52, N_X11_isSet_55, N_X11_isSet_56, N_X11_isSet_58, N_X11_isSet_59, N_X11_isSet_60, N_X11_isSet_61, N_X11_isSet_64, N_X11_isSet_65, N_X11_isSet_68, N_X11_isSet_69, if_true, if_false, ite_true, ite_false, not_false_eq_true, not_true_eq_false, isRf_ref, isRf_null, c1_int, c1_ref, c1_null, c1_none, rfv_some, rfv_none, Ok_s, tl_some, tl_none, List.nil_append, b2i_n1, b2i_n0, ↓reduceIte, nI_add, pk_mul, pk_sub, n_leT, n_leF, n_ltT, n_ltF, n_eqT, n_eqF, n_shl1, n_shl, n_shr, nI_and, nI_or, nI_xor, b2i_z, b2i_o, m1_n, n_m1, m1_lt, m1_le, n_lm1, n_em1, nI_m1, and1, and3, and7, and15, and63, and255, Bool.true_eq_false, Bool.false_eq_true, reduceCtorEq, Nat.reduceAdd, Nat.reduceMul, Nat.reduceSub, Nat.reduceDiv, Nat.reduceMod, Nat.reducePow, Nat.zero_add, Nat.one_mul, c_lies, hm, c_places, hP, hs0']
    · obtain ⟨s, hs, rfl⟩ := nI_of hs0
      rw [inN_nI hs (by decide), n_cl (show m < 2147483648 by omega), n_cl hs]
      by_cases h3 : m = 3
      · subst h3
        by_cases h6 : a 4320 ≤ 6
        · have hall : (2 ^ a 4320 - 1) ||| (2 ^ a 4320 - 1) * 64 < 2147483648 := Nat.lt_of_lt_of_le (Nat.or_lt_two_pow (n := 31) (by omega) (by omega)) (by decide)
          have hz := adn_0 hs hall
          have ht := and_two (s := s) h6
          by_cases hc : s < 4096 ∧ s % 64 < 2 ^ a 4320 ∧ s / 64 < 2 ^ a 4320
          · have e0 : nI (adn s ((2 ^ a 4320 - 1) ||| (2 ^ a 4320 - 1) * 64)) = nI 0 := congrArg nI (by rw [hz]; exact ht.mpr hc)
            have hf : (decide (s < 4096) && okS (a 4320) 3 s) = true := by
              unfold okS
              simp [hc, h6]
            simp (disch := first | omega | exact c1_int _ | exact c1_none | exact c1_ref _ | exact isRf_ref _ | assumption | exact okRb _ | exact okN1 | exact okN0 | exact rfl) only [N_X11_isSet_0, N_X11_isSet_1, N_X11_isSet_2, N_X11_isSet_3, N_X11_isSet_6, N_X11_isSet_9, N_X11_isSet_10, N_X11_isSet_11, N_X11_isSet_14, N_X11_isSet_15, N_X11_isSet_18, N_X11_isSet_20, N_X11_isSet_23, N_X11_isSet_24, N_X11_isSet_25, N_X11_isSet_26, N_X11_isSet_27, N_X11_isSet_30, N_X11_isSet_31, N_X11_isSet_32, N_X11_isSet_33, N_X11_isSet_34, N_X11_isSet_35, N_X11_isSet_36, N_X11_isSet_39, N_X11_isSet_40, N_X11_isSet_41, N_X11_isSet_43, N_X11_isSet_44, N_X11_isSet_45, N_X11_isSet_48, N_X11_isSet_49, N_X11_isSet_51, N_X11_isSet_52, N_X11_isSet_55, N_X11_isSet_56, N_X11_isSet_58, N_X11_isSet_59, N_X11_isSet_60, N_X11_isSet_61, N_X11_isSet_64, N_X11_isSet_65, N_X11_isSet_68, N_X11_isSet_69, if_true, if_false, ite_true, ite_false, not_false_eq_true, not_true_eq_false, isRf_ref, isRf_null, c1_int, c1_ref, c1_null, c1_none, rfv_some, rfv_none, Ok_s, tl_some, tl_none, List.nil_append, b2i_n1, b2i_n0, ↓reduceIte, nI_add, pk_mul, pk_sub, n_leT, n_leF, n_ltT, n_ltF, n_eqT, n_eqF, n_shl1, n_shl, n_shr, nI_and, nI_or, nI_xor, b2i_z, b2i_o, m1_n, n_m1, m1_lt, m1_le, n_lm1, n_em1, nI_m1, and1, and3, and7, and15, and63, and255, Bool.true_eq_false, Bool.false_eq_true, reduceCtorEq, Nat.reduceAdd, Nat.reduceMul, Nat.reduceSub, Nat.reduceDiv, Nat.reduceMod, Nat.reducePow, Nat.zero_add, Nat.one_mul, c_lies, hm, c_places, hP, n_adn, e0, hf, Bool.true_and]
          · have e0 : ¬ adn s ((2 ^ a 4320 - 1) ||| (2 ^ a 4320 - 1) * 64) = 0 := by rw [hz]; exact fun h => hc (ht.mp h)
            have e1 : adn s ((2 ^ a 4320 - 1) ||| (2 ^ a 4320 - 1) * 64) < 2147483648 := adn_lt (n := 31) hs
            have hf : (decide (s < 4096) && okS (a 4320) 3 s) = false := by
              unfold okS
              rw [if_pos rfl]
              simp only [decide_eq_true h6, Bool.true_and]
              by_cases q1 : s < 4096
              · by_cases q2 : s % 64 < 2 ^ a 4320
                · have q3 : ¬ s / 64 < 2 ^ a 4320 := fun q3 => hc ⟨q1, q2, q3⟩
                  simp [q3]
                · simp [q2]
              · simp [q1]
            simp (disch := first | omega | exact c1_int _ | exact c1_none | exact c1_ref _ | exact isRf_ref _ | assumption | exact okRb _ | exact okN1 | exact okN0 | exact rfl) only [N_X11_isSet_0, N_X11_isSet_1, N_X11_isSet_2, N_X11_isSet_3, N_X11_isSet_6, N_X11_isSet_9, N_X11_isSet_10, N_X11_isSet_11, N_X11_isSet_14, N_X11_isSet_15, N_X11_isSet_18, N_X11_isSet_20, N_X11_isSet_23, N_X11_isSet_24, N_X11_isSet_25, N_X11_isSet_26, N_X11_isSet_27, N_X11_isSet_30, N_X11_isSet_31, N_X11_isSet_32, N_X11_isSet_33, N_X11_isSet_34, N_X11_isSet_35, N_X11_isSet_36, N_X11_isSet_39, N_X11_isSet_40, N_X11_isSet_41, N_X11_isSet_43, N_X11_isSet_44, N_X11_isSet_45, N_X11_isSet_48, N_X11_isSet_49, N_X11_isSet_51, N_X11_isSet_52, N_X11_isSet_55, N_X11_isSet_56, N_X11_isSet_58, N_X11_isSet_59, N_X11_isSet_60, N_X11_isSet_61, N_X11_isSet_64, N_X11_isSet_65, N_X11_isSet_68, N_X11_isSet_69, if_true, if_false, ite_true, ite_false, not_false_eq_true, not_true_eq_false, isRf_ref, isRf_null, c1_int, c1_ref, c1_null, c1_none, rfv_some, rfv_none, Ok_s, tl_some, tl_none, List.nil_append, b2i_n1, b2i_n0, ↓reduceIte, nI_add, pk_mul, pk_sub, n_leT, n_leF, n_ltT, n_ltF, n_eqT, n_eqF, n_shl1, n_shl, n_shr, nI_and, nI_or, nI_xor, b2i_z, b2i_o, m1_n, n_m1, m1_lt, m1_le, n_lm1, n_em1, nI_m1, and1, and3, and7, and15, and63, and255, Bool.true_eq_false, Bool.false_eq_true, reduceCtorEq, Nat.reduceAdd, Nat.reduceMul, Nat.reduceSub, Nat.reduceDiv, Nat.reduceMod, Nat.reducePow, Nat.zero_add, Nat.one_mul, c_lies, hm, c_places, hP, n_adn, hf, Bool.true_and]
        · have hf : (decide (s < 4096) && okS (a 4320) 3 s) = false := by
            unfold okS
            simp [h6]
          simp (disch := first | omega | exact c1_int _ | exact c1_none | exact c1_ref _ | exact isRf_ref _ | assumption | exact okRb _ | exact okN1 | exact okN0 | exact rfl) only [N_X11_isSet_0, N_X11_isSet_1, N_X11_isSet_2, N_X11_isSet_3, N_X11_isSet_6, N_X11_isSet_9, N_X11_isSet_10, N_X11_isSet_11, N_X11_isSet_14, N_X11_isSet_15, N_X11_isSet_18, N_X11_isSet_20, N_X11_isSet_23, N_X11_isSet_24, N_X11_isSet_25, N_X11_isSet_26, N_X11_isSet_27, N_X11_isSet_30, N_X11_isSet_31, N_X11_isSet_32, N_X11_isSet_33, N_X11_isSet_34, N_X11_isSet_35, N_X11_isSet_36, N_X11_isSet_39, N_X11_isSet_40, N_X11_isSet_41, N_X11_isSet_43, N_X11_isSet_44, N_X11_isSet_45, N_X11_isSet_48, N_X11_isSet_49, N_X11_isSet_51, N_X11_isSet_52, N_X11_isSet_55, N_X11_isSet_56, N_X11_isSet_58, N_X11_isSet_59, N_X11_isSet_60, N_X11_isSet_61, N_X11_isSet_64, N_X11_isSet_65, N_X11_isSet_68, N_X11_isSet_69, if_true, if_false, ite_true, ite_false, not_false_eq_true, not_true_eq_false, isRf_ref, isRf_null, c1_int, c1_ref, c1_null, c1_none, rfv_some, rfv_none, Ok_s, tl_some, tl_none, List.nil_append, b2i_n1, b2i_n0, ↓reduceIte, nI_add, pk_mul, pk_sub, n_leT, n_leF, n_ltT, n_ltF, n_eqT, n_eqF, n_shl1, n_shl, n_shr, nI_and, nI_or, nI_xor, b2i_z, b2i_o, m1_n, n_m1, m1_lt, m1_le, n_lm1, n_em1, nI_m1, and1, and3, and7, and15, and63, and255, Bool.true_eq_false, Bool.false_eq_true, reduceCtorEq, Nat.reduceAdd, Nat.reduceMul, Nat.reduceSub, Nat.reduceDiv, Nat.reduceMod, Nat.reducePow, Nat.zero_add, Nat.one_mul, c_lies, hm, c_places, hP, hf, Bool.true_and]
      · have hz := adn_0 hs (show 2 ^ a 4320 - 1 < 2147483648 by omega)
        by_cases hc : s < 2 ^ a 4320
        · have e0 : nI (adn s (2 ^ a 4320 - 1)) = nI 0 := congrArg nI (by rw [hz]; exact and_one.mpr hc)
          have hf : (decide (s < 4096) && okS (a 4320) m s) = true := by
            unfold okS
            rw [if_neg h3, decide_eq_true hc, decide_eq_true (by omega)]
            rfl
          simp (disch := first | omega | exact c1_int _ | exact c1_none | exact c1_ref _ | exact isRf_ref _ | assumption | exact okRb _ | exact okN1 | exact okN0 | exact rfl) only [N_X11_isSet_0, N_X11_isSet_1, N_X11_isSet_2, N_X11_isSet_3, N_X11_isSet_6, N_X11_isSet_9, N_X11_isSet_10, N_X11_isSet_11, N_X11_isSet_14, N_X11_isSet_15, N_X11_isSet_18, N_X11_isSet_20, N_X11_isSet_23, N_X11_isSet_24, N_X11_isSet_25, N_X11_isSet_26, N_X11_isSet_27, N_X11_isSet_30, N_X11_isSet_31, N_X11_isSet_32, N_X11_isSet_33, N_X11_isSet_34, N_X11_isSet_35, N_X11_isSet_36, N_X11_isSet_39, N_X11_isSet_40, N_X11_isSet_41, N_X11_isSet_43, N_X11_isSet_44, N_X11_isSet_45, N_X11_isSet_48, N_X11_isSet_49, N_X11_isSet_51, N_X11_isSet_52, N_X11_isSet_55, N_X11_isSet_56, N_X11_isSet_58, N_X11_isSet_59, N_X11_isSet_60, N_X11_isSet_61, N_X11_isSet_64, N_X11_isSet_65, N_X11_isSet_68, N_X11_isSet_69, if_true, if_false, ite_true, ite_false, not_false_eq_true, not_true_eq_false, isRf_ref, isRf_null, c1_int, c1_ref, c1_null, c1_none, rfv_some, rfv_none, Ok_s, tl_some, tl_none, List.nil_append, b2i_n1, b2i_n0, ↓reduceIte, nI_add, pk_mul, pk_sub, n_leT, n_leF, n_ltT, n_ltF, n_eqT, n_eqF, n_shl1, n_shl, n_shr, nI_and, nI_or, nI_xor, b2i_z, b2i_o, m1_n, n_m1, m1_lt, m1_le, n_lm1, n_em1, nI_m1, and1, and3, and7, and15, and63, and255, Bool.true_eq_false, Bool.false_eq_true, reduceCtorEq, Nat.reduceAdd, Nat.reduceMul, Nat.reduceSub, Nat.reduceDiv, Nat.reduceMod, Nat.reducePow, Nat.zero_add, Nat.one_mul, c_lies, hm, c_places, hP, n_adn, e0, hf, Bool.true_and]
        · have e0 : ¬ adn s (2 ^ a 4320 - 1) = 0 := by rw [hz]; exact fun h => hc (and_one.mp h)
          have e1 : adn s (2 ^ a 4320 - 1) < 2147483648 := adn_lt (n := 31) hs
          have hf : (decide (s < 4096) && okS (a 4320) m s) = false := by
            unfold okS
            rw [if_neg h3, decide_eq_false hc]
            simp
          simp (disch := first | omega | exact c1_int _ | exact c1_none | exact c1_ref _ | exact isRf_ref _ | assumption | exact okRb _ | exact okN1 | exact okN0 | exact rfl) only [N_X11_isSet_0, N_X11_isSet_1, N_X11_isSet_2, N_X11_isSet_3, N_X11_isSet_6, N_X11_isSet_9, N_X11_isSet_10, N_X11_isSet_11, N_X11_isSet_14, N_X11_isSet_15, N_X11_isSet_18, N_X11_isSet_20, N_X11_isSet_23, N_X11_isSet_24, N_X11_isSet_25, N_X11_isSet_26, N_X11_isSet_27, N_X11_isSet_30, N_X11_isSet_31, N_X11_isSet_32, N_X11_isSet_33, N_X11_isSet_34, N_X11_isSet_35, N_X11_isSet_36, N_X11_isSet_39, N_X11_isSet_40, N_X11_isSet_41, N_X11_isSet_43, N_X11_isSet_44, N_X11_isSet_45, N_X11_isSet_48, N_X11_isSet_49, N_X11_isSet_51, N_X11_isSet_52, N_X11_isSet_55, N_X11_isSet_56, N_X11_isSet_58, N_X11_isSet_59, N_X11_isSet_60, N_X11_isSet_61, N_X11_isSet_64, N_X11_isSet_65, N_X11_isSet_68, N_X11_isSet_69, if_true, if_false, ite_true, ite_false, not_false_eq_true, not_true_eq_false, isRf_ref, isRf_null, c1_int, c1_ref, c1_null, c1_none, rfv_some, rfv_none, Ok_s, tl_some, tl_none, List.nil_append, b2i_n1, b2i_n0, ↓reduceIte, nI_add, pk_mul, pk_sub, n_leT, n_leF, n_ltT, n_ltF, n_eqT, n_eqF, n_shl1, n_shl, n_shr, nI_and, nI_or, nI_xor, b2i_z, b2i_o, m1_n, n_m1, m1_lt, m1_le, n_lm1, n_em1, nI_m1, and1, and3, and7, and15, and63, and255, Bool.true_eq_false, Bool.false_eq_true, reduceCtorEq, Nat.reduceAdd, Nat.reduceMul, Nat.reduceSub, Nat.reduceDiv, Nat.reduceMod, Nat.reducePow, Nat.zero_add, Nat.one_mul, c_lies, hm, c_places, hP, n_adn, hf, Bool.true_and]
/-- the stand behind the first k words of the row -/
def runA (a : Nat → Nat) (m st : Nat) : Nat → Option Nat
  | 0 => some st
  | k + 1 => match runA a m st k with
    | none => none
    | some s => behA a m s (a (164 + k))
theorem run_v {a : Nat → Nat} (hA : AW a) {m st : Nat} (hm : 1 ≤ m) (hm3 : m ≤ 3) (hv : vSt a m st) : ∀ k s, runA a m st k = some s → vSt a m s
  | 0, s, h => by cases h; exact hv
  | k + 1, s, h => by
    unfold runA at h
    split at h
    · cases h
    · rename_i s' h'
      exact (beh_v hA hm hm3 (run_v hA hm hm3 hv k s' h') h).1
theorem r_calls {a : Nat → Nat} {v m s n : Nat} (hK : RK I a) (hA : AW a) (hc : RIc I a v) (hm : 1 ≤ m) (hm3 : m ≤ 3) (hs : s < 4096) (hS : okS (a 4320) m s = true) (hn : n ≤ a 4323) : Ok (callD xs Ln (d + 104) 222 [.ref 82, .int (nI m), .int (nI s), .int (nI n)] (mkW D I L)) (fun q => ∃ I' L', q = (mkW D I' L', some (.int (b2i (runA a m (8 * s + a 4327) n).isSome))) ∧ QF I I' ∧ Lkd I' a v ∧ ∀ st, runA a m (8 * s + a 4327) n = some st → I' 82 29 = nI (st / 8) ∧ I' 82 28 = nI (st % 8)) := by
  have h4 := hA.2.2.2.1
  have h8 := hA.2.2.2.2.2.2.2.1
  have hv0 : vSt a m (8 * s + a 4327) := ⟨by omega, by rw [show (8 * s + a 4327) / 8 = s by omega]; exact hS⟩
  refine semG (lo := [some (.ref 82), some (.int (nI m)), some (.int (nI s)), some (.int (nI n)), none, none]) rfl rfl (Nat.le_of_ble_eq_true rfl) rfl (show G_X11_calls xs Ln _ 0 [some (.ref 82), some (.int (nI m)), some (.int (nI s)), some (.int (nI n)), none, none] [] _ _ from ?_)
  simp (disch := first | omega | exact c1_int _ | exact c1_none | exact c1_ref _ | exact isRf_ref _ | assumption | exact okRb _ | exact okN1 | exact okN0 | exact rfl) only [N_X11_calls_0, N_X11_calls_1, N_X11_calls_4, N_X11_calls_5, N_X11_calls_6, N_X11_calls_9, N_X11_calls_12, N_X11_calls_13, N_X11_calls_16, N_X11_calls_17, N_X11_calls_18, N_X11_calls_21, N_X11_calls_22, N_X11_calls_26, N_X11_calls_27, N_X11_calls_30, N_X11_calls_31, N_X11_calls_34, N_X11_calls_37, N_X11_calls_39, N_X11_calls_40, N_X11_calls_41, N_X11_calls_43, N_X11_calls_44, N_X11_calls_47, N_X11_calls_49, N_X11_calls_51, N_X11_calls_52, N_X11_calls_53, N_X11_calls_56, N_X11_calls_57, N_X11_calls_58, N_X11_calls_61, N_X11_calls_62, N_X11_calls_63, N_X11_calls_64, N_X11_calls_65, N_X11_calls_66, N_X11_calls_67, N_X11_calls_70, N_X11_calls_72, N_X11_calls_73, N_X11_calls_76, N_X11_calls_79, N_X11_calls_82, N_X11_calls_83, N_X11_calls_84, N_X11_calls_86, N_X11_calls_87, N_X11_calls_90, N_X11_calls_93, N_X11_calls_96, N_X11_calls_99, N_X11_calls_102, N_X11_calls_103, if_true, if_false, ite_true, ite_false, not_false_eq_true, not_true_eq_false, isRf_ref, isRf_null, c1_int, c1_ref, c1_null, c1_none, rfv_some, rfv_none, Ok_s, tl_some, tl_none, List.nil_append, b2i_n1, b2i_n0, ↓reduceIte, nI_add, pk_mul, pk_sub, n_leT, n_leF, n_ltT, n_ltF, n_eqT, n_eqF, n_shl1, n_shl, n_shr, nI_and, nI_or, nI_xor, b2i_z, b2i_o, m1_n, n_m1, m1_lt, m1_le, n_lm1, n_em1, nI_m1, and1, and3, and7, and15, and63, and255, Bool.true_eq_false, Bool.false_eq_true, reduceCtorEq, Nat.reduceAdd, Nat.reduceMul, Nat.reduceSub, Nat.reduceDiv, Nat.reduceMod, Nat.reducePow, Nat.zero_add, Nat.one_mul]
  refine Ok.mono (r_look hK hA hc) ?_
  rintro q ⟨I1, L1, rfl, hf1, hd1⟩
  have ho := hd1.1.2.2.1 4327 (by decide) (by decide) (by decide)
  simp (disch := first | omega | exact c1_int _ | exact c1_none | exact c1_ref _ | exact isRf_ref _ | assumption | exact okRb _ | exact okN1 | exact okN0 | exact rfl) only [N_X11_calls_0, N_X11_calls_1, N_X11_calls_4, N_X11_calls_5, N_X11_calls_6, N_X11_calls_9, N_X11_calls_12, N_X11_calls_13, N_X11_calls_16, N_X11_calls_17, N_X11_calls_18, N_X11_calls_21, N_X11_calls_22, N_X11_calls_26, N_X11_calls_27, N_X11_calls_30, N_X11_calls_31, N_X11_calls_34, N_X11_calls_37, N_X11_calls_39, N_X11_calls_40, N_X11_calls_41, N_X11_calls_43, N_X11_calls_44, N_X11_calls_47, N_X11_calls_49, N_X11_calls_51, N_X11_calls_52, N_X11_calls_53, N_X11_calls_56, N_X11_calls_57, N_X11_calls_58, N_X11_calls_61, N_X11_calls_62, N_X11_calls_63, N_X11_calls_64, N_X11_calls_65, N_X11_calls_66, N_X11_calls_67, N_X11_calls_70, N_X11_calls_72, N_X11_calls_73, N_X11_calls_76, N_X11_calls_79, N_X11_calls_82, N_X11_calls_83, N_X11_calls_84, N_X11_calls_86, N_X11_calls_87, N_X11_calls_90, N_X11_calls_93, N_X11_calls_96, N_X11_calls_99, N_X11_calls_102, N_X11_calls_103, if_true, if_false, ite_true, ite_false, not_false_eq_true, not_true_eq_false, isRf_ref, isRf_null, c1_int, c1_ref, c1_null, c1_none, rfv_some, rfv_none, Ok_s, tl_some, tl_none, List.nil_append, b2i_n1, b2i_n0, ↓reduceIte, nI_add, pk_mul, pk_sub, n_leT, n_leF, n_ltT, n_ltF, n_eqT, n_eqF, n_shl1, n_shl, n_shr, nI_and, nI_or, nI_xor, b2i_z, b2i_o, m1_n, n_m1, m1_lt, m1_le, n_lm1, n_em1, nI_m1, and1, and3, and7, and15, and63, and255, Bool.true_eq_false, Bool.false_eq_true, reduceCtorEq, Nat.reduceAdd, Nat.reduceMul, Nat.reduceSub, Nat.reduceDiv, Nat.reduceMod, Nat.reducePow, Nat.zero_add, Nat.one_mul, ho]
  refine Lp (n := n) (σ := Nat → Nat → Int32) (E := fun i J => ∀ u, G_X11_calls xs Ln (d + 103) 24 [some (.ref 82), some (.int (nI m)), some (.int (nI s)), some (.int (nI n)), some (.int (nI i)), u] [] (mkW D J L1) _) (Inv := fun i J => SF I1 J ∧ ∃ st, runA a m (8 * s + a 4327) i = some st ∧ J 82 29 = nI (st / 8) ∧ J 82 28 = nI (st % 8)) ?_ ?_ 0 (up2 (up2 I1 82 28 (nI (a 4327))) 82 29 (nI s)) (by omega) ⟨⟨fun k hk => ?_, fun j hj => ?_⟩, 8 * s + a 4327, rfl, ?_, ?_⟩ _
  · rintro J ⟨hf, st, hr, h29, h28⟩ u
    simp (disch := first | omega | exact c1_int _ | exact c1_none | exact c1_ref _ | exact isRf_ref _ | assumption | exact okRb _ | exact okN1 | exact okN0 | exact rfl) only [N_X11_calls_0, N_X11_calls_1, N_X11_calls_4, N_X11_calls_5, N_X11_calls_6, N_X11_calls_9, N_X11_calls_12, N_X11_calls_13, N_X11_calls_16, N_X11_calls_17, N_X11_calls_18, N_X11_calls_21, N_X11_calls_22, N_X11_calls_24, N_X11_calls_26, N_X11_calls_27, N_X11_calls_30, N_X11_calls_31, N_X11_calls_34, N_X11_calls_37, N_X11_calls_39, N_X11_calls_40, N_X11_calls_41, N_X11_calls_43, N_X11_calls_44, N_X11_calls_47, N_X11_calls_49, N_X11_calls_51, N_X11_calls_52, N_X11_calls_53, N_X11_calls_56, N_X11_calls_57, N_X11_calls_58, N_X11_calls_61, N_X11_calls_62, N_X11_calls_63, N_X11_calls_64, N_X11_calls_65, N_X11_calls_66, N_X11_calls_67, N_X11_calls_70, N_X11_calls_72, N_X11_calls_73, N_X11_calls_76, N_X11_calls_79, N_X11_calls_82, N_X11_calls_83, N_X11_calls_84, N_X11_calls_86, N_X11_calls_87, N_X11_calls_90, N_X11_calls_93, N_X11_calls_96, N_X11_calls_99, N_X11_calls_102, N_X11_calls_103, if_true, if_false, ite_true, ite_false, not_false_eq_true, not_true_eq_false, isRf_ref, isRf_null, c1_int, c1_ref, c1_null, c1_none, rfv_some, rfv_none, Ok_s, tl_some, tl_none, List.nil_append, b2i_n1, b2i_n0, ↓reduceIte, nI_add, pk_mul, pk_sub, n_leT, n_leF, n_ltT, n_ltF, n_eqT, n_eqF, n_shl1, n_shl, n_shr, nI_and, nI_or, nI_xor, b2i_z, b2i_o, m1_n, n_m1, m1_lt, m1_le, n_lm1, n_em1, nI_m1, and1, and3, and7, and15, and63, and255, Bool.true_eq_false, Bool.false_eq_true, reduceCtorEq, Nat.reduceAdd, Nat.reduceMul, Nat.reduceSub, Nat.reduceDiv, Nat.reduceMod, Nat.reducePow, Nat.zero_add, Nat.one_mul]
    rw [hr]
    refine ⟨_, _, rfl, hf1.tr hf.q, hf.lkd hd1, fun st' h => ?_⟩
    cases h
    exact ⟨h29, h28⟩
  · rintro i J hi ⟨hf, st, hr, h29, h28⟩ ih u
    have hd := hf.lkd hd1
    have hst := run_v hA hm hm3 hv0 i st hr
    have hst1 := hst.1
    have hcw := hA.2.2.2.2.2.2.2.2.2.2.2.2.2.1 i (by omega)
    have hw8 := hA.2.1
    have hci := hd.1.2.2.1 (164 + i) (by omega) (by omega) (by omega)
    have hb := hd.2.2.1.b hcw hw8 (show st % 8 < 8 by omega)
    have hrs : runA a m (8 * s + a 4327) (i + 1) = behA a m st (a (164 + i)) := by
      show (match runA a m (8 * s + a 4327) i with
        | none => none
        | some s => behA a m s (a (164 + i))) = _
      rw [hr]
    rw [N_X11_calls_24]
    cases hbr : brA a (a (164 + i)) (st % 8) with
    | true =>
      rw [hbr] at hb
      have hnone : ∀ k, i < k → runA a m (8 * s + a 4327) k = none := by
        intro k hk
        induction k with
        | zero => omega
        | succ k ihk =>
          by_cases hik : k = i
          · subst hik
            rw [hrs]
            unfold behA
            rw [if_neg (by rw [hbr]; simp)]
          · show (match runA a m (8 * s + a 4327) k with
              | none => none
              | some s => behA a m s (a (164 + k))) = _
            rw [ihk (by omega)]
      simp (disch := first | omega | exact c1_int _ | exact c1_none | exact c1_ref _ | exact isRf_ref _ | assumption | exact okRb _ | exact okN1 | exact okN0 | exact rfl) only [N_X11_calls_0, N_X11_calls_1, N_X11_calls_4, N_X11_calls_5, N_X11_calls_6, N_X11_calls_9, N_X11_calls_12, N_X11_calls_13, N_X11_calls_16, N_X11_calls_17, N_X11_calls_18, N_X11_calls_21, N_X11_calls_22, N_X11_calls_26, N_X11_calls_27, N_X11_calls_30, N_X11_calls_31, N_X11_calls_34, N_X11_calls_37, N_X11_calls_39, N_X11_calls_40, N_X11_calls_41, N_X11_calls_43, N_X11_calls_44, N_X11_calls_47, N_X11_calls_49, N_X11_calls_51, N_X11_calls_52, N_X11_calls_53, N_X11_calls_56, N_X11_calls_57, N_X11_calls_58, N_X11_calls_61, N_X11_calls_62, N_X11_calls_63, N_X11_calls_64, N_X11_calls_65, N_X11_calls_66, N_X11_calls_67, N_X11_calls_70, N_X11_calls_72, N_X11_calls_73, N_X11_calls_76, N_X11_calls_79, N_X11_calls_82, N_X11_calls_83, N_X11_calls_84, N_X11_calls_86, N_X11_calls_87, N_X11_calls_90, N_X11_calls_93, N_X11_calls_96, N_X11_calls_99, N_X11_calls_102, N_X11_calls_103, if_true, if_false, ite_true, ite_false, not_false_eq_true, not_true_eq_false, isRf_ref, isRf_null, c1_int, c1_ref, c1_null, c1_none, rfv_some, rfv_none, Ok_s, tl_some, tl_none, List.nil_append, b2i_n1, b2i_n0, ↓reduceIte, nI_add, pk_mul, pk_sub, n_leT, n_leF, n_ltT, n_ltF, n_eqT, n_eqF, n_shl1, n_shl, n_shr, nI_and, nI_or, nI_xor, b2i_z, b2i_o, m1_n, n_m1, m1_lt, m1_le, n_lm1, n_em1, nI_m1, and1, and3, and7, and15, and63, and255, Bool.true_eq_false, Bool.false_eq_true, reduceCtorEq, Nat.reduceAdd, Nat.reduceMul, Nat.reduceSub, Nat.reduceDiv, Nat.reduceMod, Nat.reducePow, Nat.zero_add, Nat.one_mul, hci, h28, hb]
      rw [hnone n hi]
      exact ⟨_, _, rfl, hf1.tr hf.q, hd, fun st h => by cases h⟩
    | false =>
      rw [hbr] at hb
      have hsb := fun J (hf : SF I1 J) => r_setBehind (xs := xs) (Ln := Ln) (d := d + 101) (D := D) (L := L1) ((hf.lkd hd1).2.2.1.g hw8 hA.1) hw8 hA.1 (fun k w e p hk hw he hp => goA_lt hA hk hw hp) hm hm3 (show st / 8 < 4096 by omega) hst.2 hcw (show st % 8 < 8 by omega)
      have hsb1 := hsb J hf
      have hf2 : SF I1 (up2 J 82 29 (nI (sbN (goA a) m (st / 8) (a (164 + i)) (st % 8)))) := ⟨fun k hk => by rw [up2_ro _ _ _ (by omega)]; exact hf.1 k hk, fun j hj => by rw [up2_j _ _ _ (by omega)]; exact hf.2 j hj⟩
      have hdb := r_doorsB (xs := xs) (Ln := Ln) (d := d + 102) (D := D) (L := L1) (hf2.lkd hd1).1 hA hcw (show st % 8 < 8 by omega)
      have e28 : up2 J 82 29 (nI (sbN (goA a) m (st / 8) (a (164 + i)) (st % 8))) 82 28 = nI (st % 8) := by rw [up2_j _ _ _ (by decide), h28]
      simp (disch := first | omega | exact c1_int _ | exact c1_none | exact c1_ref _ | exact isRf_ref _ | assumption | exact okRb _ | exact okN1 | exact okN0 | exact rfl) only [N_X11_calls_0, N_X11_calls_1, N_X11_calls_4, N_X11_calls_5, N_X11_calls_6, N_X11_calls_9, N_X11_calls_12, N_X11_calls_13, N_X11_calls_16, N_X11_calls_17, N_X11_calls_18, N_X11_calls_21, N_X11_calls_22, N_X11_calls_26, N_X11_calls_27, N_X11_calls_30, N_X11_calls_31, N_X11_calls_34, N_X11_calls_37, N_X11_calls_39, N_X11_calls_40, N_X11_calls_41, N_X11_calls_43, N_X11_calls_44, N_X11_calls_47, N_X11_calls_49, N_X11_calls_51, N_X11_calls_52, N_X11_calls_53, N_X11_calls_56, N_X11_calls_57, N_X11_calls_58, N_X11_calls_61, N_X11_calls_62, N_X11_calls_63, N_X11_calls_64, N_X11_calls_65, N_X11_calls_66, N_X11_calls_67, N_X11_calls_70, N_X11_calls_72, N_X11_calls_73, N_X11_calls_76, N_X11_calls_79, N_X11_calls_82, N_X11_calls_83, N_X11_calls_84, N_X11_calls_86, N_X11_calls_87, N_X11_calls_90, N_X11_calls_93, N_X11_calls_96, N_X11_calls_99, N_X11_calls_102, N_X11_calls_103, if_true, if_false, ite_true, ite_false, not_false_eq_true, not_true_eq_false, isRf_ref, isRf_null, c1_int, c1_ref, c1_null, c1_none, rfv_some, rfv_none, Ok_s, tl_some, tl_none, List.nil_append, b2i_n1, b2i_n0, ↓reduceIte, nI_add, pk_mul, pk_sub, n_leT, n_leF, n_ltT, n_ltF, n_eqT, n_eqF, n_shl1, n_shl, n_shr, nI_and, nI_or, nI_xor, b2i_z, b2i_o, m1_n, n_m1, m1_lt, m1_le, n_lm1, n_em1, nI_m1, and1, and3, and7, and15, and63, and255, Bool.true_eq_false, Bool.false_eq_true, reduceCtorEq, Nat.reduceAdd, Nat.reduceMul, Nat.reduceSub, Nat.reduceDiv, Nat.reduceMod, Nat.reducePow, Nat.zero_add, Nat.one_mul, hci, h28, hb, h29, hsb1, e28, hdb]
      have hdl := dbA_lt hA hcw (show st % 8 < 8 by omega)
      refine ih _ ⟨⟨fun k hk => by rw [up2_ro _ _ _ (by omega)]; exact hf2.1 k hk, fun j hj => by rw [up2_j _ _ _ (by omega)]; exact hf2.2 j hj⟩, 8 * sbN (goA a) m (st / 8) (a (164 + i)) (st % 8) + dbA a (a (164 + i)) (st % 8), ?_, ?_, ?_⟩ _
      · rw [hrs]
        unfold behA
        rw [if_pos ⟨hcw, hbr⟩]
      · rw [up2_j _ _ _ (by decide), up2_s]
        congr 1
        omega
      · rw [up2_s]
        congr 1
        omega
  · rw [up2_ro _ _ _ (by omega), up2_ro _ _ _ (by omega)]
  · rw [up2_j _ _ _ (by omega), up2_j _ _ _ (by omega)]
  · rw [up2_s]
    congr 1
    omega
  · rw [up2_j _ _ _ (by decide), up2_s]
    congr 1
    omega
def aAfter (a : Nat → Nat) (mix set n : Int32) : Int32 := if (okSI (a 4320) mix set && inN n (nI (a 4323 + 1))) = true then nO ((runA a mix.toNatClampNeg (8 * set.toNatClampNeg + a 4327) n.toNatClampNeg).map (· / 8)) else m1
def aOpen (a : Nat → Nat) (n : Int32) : Int32 := if inN n (nI (a 4323 + 1)) = true then nO ((runA a 1 (a 4327) n.toNatClampNeg).map (· % 8)) else m1
theorem r_after {a : Nat → Nat} {v : Nat} {mix set n : Int32} (hK : RK I a) (hA : AW a) (hc : RIc I a v) : Ans xs Ln (d + 105) 223 [.ref 82, .int mix, .int set, .int n] D I L a v (aAfter a mix set n) := by
  have h4 := hA.2.2.2.1
  have hP := hK.2.2.1 4323 (by decide) (by decide) (by decide)
  refine semG (lo := [some (.ref 82), some (.int mix), some (.int set), some (.int n)]) rfl rfl (Nat.le_of_ble_eq_true rfl) rfl (show G_X11_after xs Ln _ 0 [some (.ref 82), some (.int mix), some (.int set), some (.int n)] [] _ _ from ?_)
  unfold aAfter
  cases hs : okSI (a 4320) mix set
  · simp (disch := first | omega | exact c1_int _ | exact c1_none | exact c1_ref _ | exact isRf_ref _ | assumption | exact okRb _ | exact okN1 | exact okN0 | exact rfl) only [N_X11_after_0, N_X11_after_1, N_X11_after_2, N_X11_after_3, N_X11_after_6, N_X11_after_9, N_X11_after_10, N_X11_after_11, N_X11_after_12, N_X11_after_15, N_X11_after_18, N_X11_after_19, N_X11_after_22, N_X11_after_25, N_X11_after_26, N_X11_after_27, N_X11_after_28, N_X11_after_29, N_X11_after_32, N_X11_after_35, N_X11_after_36, N_X11_after_39, N_X11_after_42, N_X11_after_43, if_true, if_false, ite_true, ite_false, not_false_eq_true, not_true_eq_false, isRf_ref, isRf_null, c1_int, c1_ref, c1_null, c1_none, rfv_some, rfv_none, Ok_s, tl_some, tl_none, List.nil_append, b2i_n1, b2i_n0, ↓reduceIte, nI_add, pk_mul, pk_sub, n_leT, n_leF, n_ltT, n_ltF, n_eqT, n_eqF, n_shl1, n_shl, n_shr, nI_and, nI_or, nI_xor, b2i_z, b2i_o, m1_n, n_m1, m1_lt, m1_le, n_lm1, n_em1, nI_m1, and1, and3, and7, and15, and63, and255, Bool.true_eq_false, Bool.false_eq_true, reduceCtorEq, Nat.reduceAdd, Nat.reduceMul, Nat.reduceSub, Nat.reduceDiv, Nat.reduceMod, Nat.reducePow, Nat.zero_add, Nat.one_mul, r_isSet hK hA, hs, Bool.false_and]
    exact ⟨_, _, rfl, QF.rf I, hc⟩
  · cases hn : inN n (nI (a 4323 + 1))
    · simp (disch := first | omega | exact c1_int _ | exact c1_none | exact c1_ref _ | exact isRf_ref _ | assumption | exact okRb _ | exact okN1 | exact okN0 | exact rfl) only [N_X11_after_0, N_X11_after_1, N_X11_after_2, N_X11_after_3, N_X11_after_6, N_X11_after_9, N_X11_after_10, N_X11_after_11, N_X11_after_12, N_X11_after_15, N_X11_after_18, N_X11_after_19, N_X11_after_22, N_X11_after_25, N_X11_after_26, N_X11_after_27, N_X11_after_28, N_X11_after_29, N_X11_after_32, N_X11_after_35, N_X11_after_36, N_X11_after_39, N_X11_after_42, N_X11_after_43, if_true, if_false, ite_true, ite_false, not_false_eq_true, not_true_eq_false, isRf_ref, isRf_null, c1_int, c1_ref, c1_null, c1_none, rfv_some, rfv_none, Ok_s, tl_some, tl_none, List.nil_append, b2i_n1, b2i_n0, ↓reduceIte, nI_add, pk_mul, pk_sub, n_leT, n_leF, n_ltT, n_ltF, n_eqT, n_eqF, n_shl1, n_shl, n_shr, nI_and, nI_or, nI_xor, b2i_z, b2i_o, m1_n, n_m1, m1_lt, m1_le, n_lm1, n_em1, nI_m1, and1, and3, and7, and15, and63, and255, Bool.true_eq_false, Bool.false_eq_true, reduceCtorEq, Nat.reduceAdd, Nat.reduceMul, Nat.reduceSub, Nat.reduceDiv, Nat.reduceMod, Nat.reducePow, Nat.zero_add, Nat.one_mul, r_isSet hK hA, hs, hP, r_liesN, hn, Bool.true_and]
      exact ⟨_, _, rfl, QF.rf I, hc⟩
    · obtain ⟨m, s, hm, hm3, hs4, rfl, rfl, hS⟩ := okSI_t hs
      obtain ⟨n, hn2, rfl⟩ := inN_t (by omega) hn
      simp (disch := first | omega | exact c1_int _ | exact c1_none | exact c1_ref _ | exact isRf_ref _ | assumption | exact okRb _ | exact okN1 | exact okN0 | exact rfl) only [N_X11_after_0, N_X11_after_1, N_X11_after_2, N_X11_after_3, N_X11_after_6, N_X11_after_9, N_X11_after_10, N_X11_after_11, N_X11_after_12, N_X11_after_15, N_X11_after_18, N_X11_after_19, N_X11_after_22, N_X11_after_25, N_X11_after_26, N_X11_after_27, N_X11_after_28, N_X11_after_29, N_X11_after_32, N_X11_after_35, N_X11_after_36, N_X11_after_39, N_X11_after_42, N_X11_after_43, if_true, if_false, ite_true, ite_false, not_false_eq_true, not_true_eq_false, isRf_ref, isRf_null, c1_int, c1_ref, c1_null, c1_none, rfv_some, rfv_none, Ok_s, tl_some, tl_none, List.nil_append, b2i_n1, b2i_n0, ↓reduceIte, nI_add, pk_mul, pk_sub, n_leT, n_leF, n_ltT, n_ltF, n_eqT, n_eqF, n_shl1, n_shl, n_shr, nI_and, nI_or, nI_xor, b2i_z, b2i_o, m1_n, n_m1, m1_lt, m1_le, n_lm1, n_em1, nI_m1, and1, and3, and7, and15, and63, and255, Bool.true_eq_false, Bool.false_eq_true, reduceCtorEq, Nat.reduceAdd, Nat.reduceMul, Nat.reduceSub, Nat.reduceDiv, Nat.reduceMod, Nat.reducePow, Nat.zero_add, Nat.one_mul, r_isSet hK hA, hs, hP, r_liesN, hn, Bool.true_and, n_cl]
      refine Ok.mono (r_calls hK hA hc hm hm3 hs4 hS (by omega)) ?_
      rintro q ⟨I', L', rfl, hf, hd, hst⟩
      cases hr : runA a m (8 * s + a 4327) n with
      | none =>
        simp (disch := first | omega | exact c1_int _ | exact c1_none | exact c1_ref _ | exact isRf_ref _ | assumption | exact okRb _ | exact okN1 | exact okN0 | exact rfl) only [N_X11_after_0, N_X11_after_1, N_X11_after_2, N_X11_after_3, N_X11_after_6, N_X11_after_9, N_X11_after_10, N_X11_after_11, N_X11_after_12, N_X11_after_15, N_X11_after_18, N_X11_after_19, N_X11_after_22, N_X11_after_25, N_X11_after_26, N_X11_after_27, N_X11_after_28, N_X11_after_29, N_X11_after_32, N_X11_after_35, N_X11_after_36, N_X11_after_39, N_X11_after_42, N_X11_after_43, if_true, if_false, ite_true, ite_false, not_false_eq_true, not_true_eq_false, isRf_ref, isRf_null, c1_int, c1_ref, c1_null, c1_none, rfv_some, rfv_none, Ok_s, tl_some, tl_none, List.nil_append, b2i_n1, b2i_n0, ↓reduceIte, nI_add, pk_mul, pk_sub, n_leT, n_leF, n_ltT, n_ltF, n_eqT, n_eqF, n_shl1, n_shl, n_shr, nI_and, nI_or, nI_xor, b2i_z, b2i_o, m1_n, n_m1, m1_lt, m1_le, n_lm1, n_em1, nI_m1, and1, and3, and7, and15, and63, and255, Bool.true_eq_false, Bool.false_eq_true, reduceCtorEq, Nat.reduceAdd, Nat.reduceMul, Nat.reduceSub, Nat.reduceDiv, Nat.reduceMod, Nat.reducePow, Nat.zero_add, Nat.one_mul, Option.isSome_none, Option.map_none, nO_n]
        exact ⟨_, _, rfl, hf, hd.2.1⟩
      | some st =>
        have h29 := (hst st hr).1
        simp (disch := first | omega | exact c1_int _ | exact c1_none | exact c1_ref _ | exact isRf_ref _ | assumption | exact okRb _ | exact okN1 | exact okN0 | exact rfl) only [N_X11_after_0, N_X11_after_1, N_X11_after_2, N_X11_after_3, N_X11_after_6, N_X11_after_9, N_X11_after_10, N_X11_after_11, N_X11_after_12, N_X11_after_15, N_X11_after_18, N_X11_after_19, N_X11_after_22, N_X11_after_25, N_X11_after_26, N_X11_after_27, N_X11_after_28, N_X11_after_29, N_X11_after_32, N_X11_after_35, N_X11_after_36, N_X11_after_39, N_X11_after_42, N_X11_after_43, if_true, if_false, ite_true, ite_false, not_false_eq_true, not_true_eq_false, isRf_ref, isRf_null, c1_int, c1_ref, c1_null, c1_none, rfv_some, rfv_none, Ok_s, tl_some, tl_none, List.nil_append, b2i_n1, b2i_n0, ↓reduceIte, nI_add, pk_mul, pk_sub, n_leT, n_leF, n_ltT, n_ltF, n_eqT, n_eqF, n_shl1, n_shl, n_shr, nI_and, nI_or, nI_xor, b2i_z, b2i_o, m1_n, n_m1, m1_lt, m1_le, n_lm1, n_em1, nI_m1, and1, and3, and7, and15, and63, and255, Bool.true_eq_false, Bool.false_eq_true, reduceCtorEq, Nat.reduceAdd, Nat.reduceMul, Nat.reduceSub, Nat.reduceDiv, Nat.reduceMod, Nat.reducePow, Nat.zero_add, Nat.one_mul, Option.isSome_some, Option.map_some, nO_s, h29]
        exact ⟨_, _, rfl, hf, hd.2.1⟩
theorem r_open {a : Nat → Nat} {v : Nat} {n : Int32} (hK : RK I a) (hA : AW a) (hc : RIc I a v) : Ans xs Ln (d + 105) 224 [.ref 82, .int n] D I L a v (aOpen a n) := by
  have h4 := hA.2.2.2.1
  have hP := hK.2.2.1 4323 (by decide) (by decide) (by decide)
  refine semG (lo := [some (.ref 82), some (.int n)]) rfl rfl (Nat.le_of_ble_eq_true rfl) rfl (show G_X11_open xs Ln _ 0 [some (.ref 82), some (.int n)] [] _ _ from ?_)
  unfold aOpen
  cases hn : inN n (nI (a 4323 + 1))
  · simp (disch := first | omega | exact c1_int _ | exact c1_none | exact c1_ref _ | exact isRf_ref _ | assumption | exact okRb _ | exact okN1 | exact okN0 | exact rfl) only [N_X11_open_0, N_X11_open_1, N_X11_open_2, N_X11_open_3, N_X11_open_6, N_X11_open_9, N_X11_open_10, N_X11_open_13, N_X11_open_16, N_X11_open_17, N_X11_open_18, N_X11_open_19, N_X11_open_20, N_X11_open_23, N_X11_open_26, N_X11_open_27, N_X11_open_30, N_X11_open_33, N_X11_open_34, if_true, if_false, ite_true, ite_false, not_false_eq_true, not_true_eq_false, isRf_ref, isRf_null, c1_int, c1_ref, c1_null, c1_none, rfv_some, rfv_none, Ok_s, tl_some, tl_none, List.nil_append, b2i_n1, b2i_n0, ↓reduceIte, nI_add, pk_mul, pk_sub, n_leT, n_leF, n_ltT, n_ltF, n_eqT, n_eqF, n_shl1, n_shl, n_shr, nI_and, nI_or, nI_xor, b2i_z, b2i_o, m1_n, n_m1, m1_lt, m1_le, n_lm1, n_em1, nI_m1, and1, and3, and7, and15, and63, and255, Bool.true_eq_false, Bool.false_eq_true, reduceCtorEq, Nat.reduceAdd, Nat.reduceMul, Nat.reduceSub, Nat.reduceDiv, Nat.reduceMod, Nat.reducePow, Nat.zero_add, Nat.one_mul, hP, r_liesN, hn]
    exact ⟨_, _, rfl, QF.rf I, hc⟩
  · obtain ⟨n, hn2, rfl⟩ := inN_t (by omega) hn
    have hS : okS (a 4320) 1 0 = true := by
      unfold okS
      rw [if_neg (by decide)]
      exact decide_eq_true (Nat.two_pow_pos _)
    simp (disch := first | omega | exact c1_int _ | exact c1_none | exact c1_ref _ | exact isRf_ref _ | assumption | exact okRb _ | exact okN1 | exact okN0 | exact rfl) only [N_X11_open_0, N_X11_open_1, N_X11_open_2, N_X11_open_3, N_X11_open_6, N_X11_open_9, N_X11_open_10, N_X11_open_13, N_X11_open_16, N_X11_open_17, N_X11_open_18, N_X11_open_19, N_X11_open_20, N_X11_open_23, N_X11_open_26, N_X11_open_27, N_X11_open_30, N_X11_open_33, N_X11_open_34, if_true, if_false, ite_true, ite_false, not_false_eq_true, not_true_eq_false, isRf_ref, isRf_null, c1_int, c1_ref, c1_null, c1_none, rfv_some, rfv_none, Ok_s, tl_some, tl_none, List.nil_append, b2i_n1, b2i_n0, ↓reduceIte, nI_add, pk_mul, pk_sub, n_leT, n_leF, n_ltT, n_ltF, n_eqT, n_eqF, n_shl1, n_shl, n_shr, nI_and, nI_or, nI_xor, b2i_z, b2i_o, m1_n, n_m1, m1_lt, m1_le, n_lm1, n_em1, nI_m1, and1, and3, and7, and15, and63, and255, Bool.true_eq_false, Bool.false_eq_true, reduceCtorEq, Nat.reduceAdd, Nat.reduceMul, Nat.reduceSub, Nat.reduceDiv, Nat.reduceMod, Nat.reducePow, Nat.zero_add, Nat.one_mul, hP, r_liesN, hn, n_cl]
    refine Ok.mono (r_calls (m := 1) (s := 0) hK hA hc (by decide) (by decide) (by decide) hS (show n ≤ a 4323 by omega)) ?_
    rintro q ⟨I', L', rfl, hf, hd, hst⟩
    simp only [Nat.mul_zero, Nat.zero_add] at hst ⊢
    cases hr : runA a 1 (a 4327) n with
    | none =>
      simp (disch := first | omega | exact c1_int _ | exact c1_none | exact c1_ref _ | exact isRf_ref _ | assumption | exact okRb _ | exact okN1 | exact okN0 | exact rfl) only [N_X11_open_0, N_X11_open_1, N_X11_open_2, N_X11_open_3, N_X11_open_6, N_X11_open_9, N_X11_open_10, N_X11_open_13, N_X11_open_16, N_X11_open_17, N_X11_open_18, N_X11_open_19, N_X11_open_20, N_X11_open_23, N_X11_open_26, N_X11_open_27, N_X11_open_30, N_X11_open_33, N_X11_open_34, if_true, if_false, ite_true, ite_false, not_false_eq_true, not_true_eq_false, isRf_ref, isRf_null, c1_int, c1_ref, c1_null, c1_none, rfv_some, rfv_none, Ok_s, tl_some, tl_none, List.nil_append, b2i_n1, b2i_n0, ↓reduceIte, nI_add, pk_mul, pk_sub, n_leT, n_leF, n_ltT, n_ltF, n_eqT, n_eqF, n_shl1, n_shl, n_shr, nI_and, nI_or, nI_xor, b2i_z, b2i_o, m1_n, n_m1, m1_lt, m1_le, n_lm1, n_em1, nI_m1, and1, and3, and7, and15, and63, and255, Bool.true_eq_false, Bool.false_eq_true, reduceCtorEq, Nat.reduceAdd, Nat.reduceMul, Nat.reduceSub, Nat.reduceDiv, Nat.reduceMod, Nat.reducePow, Nat.zero_add, Nat.one_mul, Option.isSome_none, Option.map_none, nO_n]
      exact ⟨_, _, rfl, hf, hd.2.1⟩
    | some st =>
      have h28 := (hst st hr).2
      simp (disch := first | omega | exact c1_int _ | exact c1_none | exact c1_ref _ | exact isRf_ref _ | assumption | exact okRb _ | exact okN1 | exact okN0 | exact rfl) only [N_X11_open_0, N_X11_open_1, N_X11_open_2, N_X11_open_3, N_X11_open_6, N_X11_open_9, N_X11_open_10, N_X11_open_13, N_X11_open_16, N_X11_open_17, N_X11_open_18, N_X11_open_19, N_X11_open_20, N_X11_open_23, N_X11_open_26, N_X11_open_27, N_X11_open_30, N_X11_open_33, N_X11_open_34, if_true, if_false, ite_true, ite_false, not_false_eq_true, not_true_eq_false, isRf_ref, isRf_null, c1_int, c1_ref, c1_null, c1_none, rfv_some, rfv_none, Ok_s, tl_some, tl_none, List.nil_append, b2i_n1, b2i_n0, ↓reduceIte, nI_add, pk_mul, pk_sub, n_leT, n_leF, n_ltT, n_ltF, n_eqT, n_eqF, n_shl1, n_shl, n_shr, nI_and, nI_or, nI_xor, b2i_z, b2i_o, m1_n, n_m1, m1_lt, m1_le, n_lm1, n_em1, nI_m1, and1, and3, and7, and15, and63, and255, Bool.true_eq_false, Bool.false_eq_true, reduceCtorEq, Nat.reduceAdd, Nat.reduceMul, Nat.reduceSub, Nat.reduceDiv, Nat.reduceMod, Nat.reducePow, Nat.zero_add, Nat.one_mul, Option.isSome_some, Option.map_some, nO_s, h28]
      exact ⟨_, _, rfl, hf, hd.2.1⟩
end P63
