section P78
variable {xs : Nat → Int32} {Ln d : Nat} {D : Dyn} {I : Nat → Nat → Int32} {L : Nat → Nat → Int64} {w : Om}
theorem r_cycle {a : Nat → Nat} {v : Nat} {mix set what : Int32} (hK : RK I a) (hA : AW a) (hc : RIc I a v) : Ans xs Ln (d + 105) 237 [.ref 82, .int mix, .int set, .int what] D I L a v (aCycle a mix set what) := by
  have h4 := hA.2.2.2.1
  have h8 := hA.2.2.2.2.2.2.2.1
  have hC := hK.2.2.1 4323 (by decide) (by decide) (by decide)
  refine semG (lo := [some (.ref 82), some (.int mix), some (.int set), some (.int what), none, none, none]) rfl rfl (Nat.le_of_ble_eq_true rfl) rfl (show G_X11_cycle xs Ln _ 0 [some (.ref 82), some (.int mix), some (.int set), some (.int what), none, none, none] [] _ _ from ?_)
  unfold aCycle
  cases hs : okSI (a 4320) mix set
  · simp (disch := first | omega | exact c1_int _ | exact c1_none | exact c1_ref _ | exact isRf_ref _ | assumption | exact okRb _ | exact okN1 | exact okN0 | exact rfl) only [N_X11_cycle_0, N_X11_cycle_1, N_X11_cycle_2, N_X11_cycle_3, N_X11_cycle_6, N_X11_cycle_9, N_X11_cycle_10, N_X11_cycle_11, N_X11_cycle_12, N_X11_cycle_15, N_X11_cycle_18, N_X11_cycle_19, N_X11_cycle_22, N_X11_cycle_25, N_X11_cycle_26, N_X11_cycle_29, N_X11_cycle_30, N_X11_cycle_31, N_X11_cycle_32, N_X11_cycle_35, N_X11_cycle_36, N_X11_cycle_40, N_X11_cycle_42, N_X11_cycle_45, N_X11_cycle_46, N_X11_cycle_49, N_X11_cycle_51, N_X11_cycle_52, N_X11_cycle_53, N_X11_cycle_56, N_X11_cycle_59, N_X11_cycle_61, N_X11_cycle_62, N_X11_cycle_63, N_X11_cycle_64, N_X11_cycle_67, N_X11_cycle_70, N_X11_cycle_71, N_X11_cycle_72, N_X11_cycle_74, N_X11_cycle_75, N_X11_cycle_77, N_X11_cycle_78, N_X11_cycle_81, N_X11_cycle_83, N_X11_cycle_84, N_X11_cycle_85, N_X11_cycle_88, N_X11_cycle_89, N_X11_cycle_92, N_X11_cycle_94, N_X11_cycle_96, N_X11_cycle_97, N_X11_cycle_100, N_X11_cycle_101, N_X11_cycle_103, N_X11_cycle_105, N_X11_cycle_106, N_X11_cycle_109, N_X11_cycle_112, N_X11_cycle_113, N_X11_cycle_116, N_X11_cycle_117, N_X11_cycle_118, N_X11_cycle_120, N_X11_cycle_121, N_X11_cycle_124, N_X11_cycle_127, N_X11_cycle_129, N_X11_cycle_130, N_X11_cycle_131, N_X11_cycle_134, N_X11_cycle_136, N_X11_cycle_138, N_X11_cycle_139, N_X11_cycle_142, N_X11_cycle_143, N_X11_cycle_144, N_X11_cycle_147, N_X11_cycle_150, N_X11_cycle_153, N_X11_cycle_154, N_X11_cycle_157, N_X11_cycle_158, N_X11_cycle_161, N_X11_cycle_163, N_X11_cycle_164, N_X11_cycle_167, N_X11_cycle_169, N_X11_cycle_170, N_X11_cycle_173, N_X11_cycle_175, N_X11_cycle_176, N_X11_cycle_177, if_true, if_false, ite_true, ite_false, not_false_eq_true, not_true_eq_false, isRf_ref, isRf_null, c1_int, c1_ref, c1_null, c1_none, rfv_some, rfv_none, Ok_s, tl_some, tl_none, List.nil_append, b2i_n1, b2i_n0, ↓reduceIte, nI_add, pk_mul, pk_sub, n_leT, n_leF, n_ltT, n_ltF, n_eqT, n_eqF, n_shl1, n_shl, n_shr, nI_and, nI_or, nI_xor, b2i_z, b2i_o, m1_n, n_m1, m1_lt, m1_le, n_lm1, n_em1, nI_m1, and1, and3, and7, and15, and63, and255, Bool.true_eq_false, Bool.false_eq_true, reduceCtorEq, Nat.reduceAdd, Nat.reduceMul, Nat.reduceSub, Nat.reduceDiv, Nat.reduceMod, Nat.reducePow, Nat.zero_add, Nat.one_mul, r_isSet hK hA, hs, Bool.false_and]
    exact ⟨_, _, rfl, QF.rf I, hc⟩
  · cases hwh : inN what (nI 2)
    · simp (disch := first | omega | exact c1_int _ | exact c1_none | exact c1_ref _ | exact isRf_ref _ | assumption | exact okRb _ | exact okN1 | exact okN0 | exact rfl) only [N_X11_cycle_0, N_X11_cycle_1, N_X11_cycle_2, N_X11_cycle_3, N_X11_cycle_6, N_X11_cycle_9, N_X11_cycle_10, N_X11_cycle_11, N_X11_cycle_12, N_X11_cycle_15, N_X11_cycle_18, N_X11_cycle_19, N_X11_cycle_22, N_X11_cycle_25, N_X11_cycle_26, N_X11_cycle_29, N_X11_cycle_30, N_X11_cycle_31, N_X11_cycle_32, N_X11_cycle_35, N_X11_cycle_36, N_X11_cycle_40, N_X11_cycle_42, N_X11_cycle_45, N_X11_cycle_46, N_X11_cycle_49, N_X11_cycle_51, N_X11_cycle_52, N_X11_cycle_53, N_X11_cycle_56, N_X11_cycle_59, N_X11_cycle_61, N_X11_cycle_62, N_X11_cycle_63, N_X11_cycle_64, N_X11_cycle_67, N_X11_cycle_70, N_X11_cycle_71, N_X11_cycle_72, N_X11_cycle_74, N_X11_cycle_75, N_X11_cycle_77, N_X11_cycle_78, N_X11_cycle_81, N_X11_cycle_83, N_X11_cycle_84, N_X11_cycle_85, N_X11_cycle_88, N_X11_cycle_89, N_X11_cycle_92, N_X11_cycle_94, N_X11_cycle_96, N_X11_cycle_97, N_X11_cycle_100, N_X11_cycle_101, N_X11_cycle_103, N_X11_cycle_105, N_X11_cycle_106, N_X11_cycle_109, N_X11_cycle_112, N_X11_cycle_113, N_X11_cycle_116, N_X11_cycle_117, N_X11_cycle_118, N_X11_cycle_120, N_X11_cycle_121, N_X11_cycle_124, N_X11_cycle_127, N_X11_cycle_129, N_X11_cycle_130, N_X11_cycle_131, N_X11_cycle_134, N_X11_cycle_136, N_X11_cycle_138, N_X11_cycle_139, N_X11_cycle_142, N_X11_cycle_143, N_X11_cycle_144, N_X11_cycle_147, N_X11_cycle_150, N_X11_cycle_153, N_X11_cycle_154, N_X11_cycle_157, N_X11_cycle_158, N_X11_cycle_161, N_X11_cycle_163, N_X11_cycle_164, N_X11_cycle_167, N_X11_cycle_169, N_X11_cycle_170, N_X11_cycle_173, N_X11_cycle_175, N_X11_cycle_176, N_X11_cycle_177, if_true, if_false, ite_true, ite_false, not_false_eq_true, not_true_eq_false, isRf_ref, isRf_null, c1_int, c1_ref, c1_null, c1_none, rfv_some, rfv_none, Ok_s, tl_some, tl_none, List.nil_append, b2i_n1, b2i_n0, ↓reduceIte, nI_add, pk_mul, pk_sub, n_leT, n_leF, n_ltT, n_ltF, n_eqT, n_eqF, n_shl1, n_shl, n_shr, nI_and, nI_or, nI_xor, b2i_z, b2i_o, m1_n, n_m1, m1_lt, m1_le, n_lm1, n_em1, nI_m1, and1, and3, and7, and15, and63, and255, Bool.true_eq_false, Bool.false_eq_true, reduceCtorEq, Nat.reduceAdd, Nat.reduceMul, Nat.reduceSub, Nat.reduceDiv, Nat.reduceMod, Nat.reducePow, Nat.zero_add, Nat.one_mul, r_isSet hK hA, hs, r_liesN, hwh, Bool.false_and, Bool.true_and]
      exact ⟨_, _, rfl, QF.rf I, hc⟩
    · by_cases hc0 : a 4323 = 0
      · rw [hc0] at hC
        have hd1 : decide (a 4323 = 0) = true := decide_eq_true hc0
        simp (disch := first | omega | exact c1_int _ | exact c1_none | exact c1_ref _ | exact isRf_ref _ | assumption | exact okRb _ | exact okN1 | exact okN0 | exact rfl) only [N_X11_cycle_0, N_X11_cycle_1, N_X11_cycle_2, N_X11_cycle_3, N_X11_cycle_6, N_X11_cycle_9, N_X11_cycle_10, N_X11_cycle_11, N_X11_cycle_12, N_X11_cycle_15, N_X11_cycle_18, N_X11_cycle_19, N_X11_cycle_22, N_X11_cycle_25, N_X11_cycle_26, N_X11_cycle_29, N_X11_cycle_30, N_X11_cycle_31, N_X11_cycle_32, N_X11_cycle_35, N_X11_cycle_36, N_X11_cycle_40, N_X11_cycle_42, N_X11_cycle_45, N_X11_cycle_46, N_X11_cycle_49, N_X11_cycle_51, N_X11_cycle_52, N_X11_cycle_53, N_X11_cycle_56, N_X11_cycle_59, N_X11_cycle_61, N_X11_cycle_62, N_X11_cycle_63, N_X11_cycle_64, N_X11_cycle_67, N_X11_cycle_70, N_X11_cycle_71, N_X11_cycle_72, N_X11_cycle_74, N_X11_cycle_75, N_X11_cycle_77, N_X11_cycle_78, N_X11_cycle_81, N_X11_cycle_83, N_X11_cycle_84, N_X11_cycle_85, N_X11_cycle_88, N_X11_cycle_89, N_X11_cycle_92, N_X11_cycle_94, N_X11_cycle_96, N_X11_cycle_97, N_X11_cycle_100, N_X11_cycle_101, N_X11_cycle_103, N_X11_cycle_105, N_X11_cycle_106, N_X11_cycle_109, N_X11_cycle_112, N_X11_cycle_113, N_X11_cycle_116, N_X11_cycle_117, N_X11_cycle_118, N_X11_cycle_120, N_X11_cycle_121, N_X11_cycle_124, N_X11_cycle_127, N_X11_cycle_129, N_X11_cycle_130, N_X11_cycle_131, N_X11_cycle_134, N_X11_cycle_136, N_X11_cycle_138, N_X11_cycle_139, N_X11_cycle_142, N_X11_cycle_143, N_X11_cycle_144, N_X11_cycle_147, N_X11_cycle_150, N_X11_cycle_153, N_X11_cycle_154, N_X11_cycle_157, N_X11_cycle_158, N_X11_cycle_161, N_X11_cycle_163, N_X11_cycle_164, N_X11_cycle_167, N_X11_cycle_169, N_X11_cycle_170, N_X11_cycle_173, N_X11_cycle_175, N_X11_cycle_176, N_X11_cycle_177, if_true, if_false, ite_true, ite_false, not_false_eq_true, not_true_eq_false, isRf_ref, isRf_null, c1_int, c1_ref, c1_null, c1_none, rfv_some, rfv_none, Ok_s, tl_some, tl_none, List.nil_append, b2i_n1, b2i_n0, ↓reduceIte, nI_add, pk_mul, pk_sub, n_leT, n_leF, n_ltT, n_ltF, n_eqT, n_eqF, n_shl1, n_shl, n_shr, nI_and, nI_or, nI_xor, b2i_z, b2i_o, m1_n, n_m1, m1_lt, m1_le, n_lm1, n_em1, nI_m1, and1, and3, and7, and15, and63, and255, Bool.true_eq_false, Bool.false_eq_true, reduceCtorEq, Nat.reduceAdd, Nat.reduceMul, Nat.reduceSub, Nat.reduceDiv, Nat.reduceMod, Nat.reducePow, Nat.zero_add, Nat.one_mul, r_isSet hK hA, hs, r_liesN, hwh, hC, hd1, Bool.not_true, Bool.and_false]
        exact ⟨_, _, rfl, QF.rf I, hc⟩
      · obtain ⟨m, s, hm, hm3, hs4, rfl, rfl, hS⟩ := okSI_t hs
        obtain ⟨wh, hwh2, rfl⟩ := inN_t (by decide) hwh
        have hst : stA a (nI s) = 8 * s + a 4327 := by unfold stA; rw [n_cl (by omega)]
        have hd0 : decide (a 4323 = 0) = false := decide_eq_false hc0
        have hv0 : vSt a m (8 * s + a 4327) := ⟨by omega, by rw [show (8 * s + a 4327) / 8 = s by omega]; exact hS⟩
        obtain ⟨jj, hjj, hjl⟩ := cyJ_ex hA hm hm3 hv0
        obtain ⟨hj1, hj2, hj3⟩ := (lst_s _ _ _).mp hjj
        rw [hst, n_cl (show m < 2147483648 by omega)]
        simp (disch := first | omega | exact c1_int _ | exact c1_none | exact c1_ref _ | exact isRf_ref _ | assumption | exact okRb _ | exact okN1 | exact okN0 | exact rfl) only [N_X11_cycle_0, N_X11_cycle_1, N_X11_cycle_2, N_X11_cycle_3, N_X11_cycle_6, N_X11_cycle_9, N_X11_cycle_10, N_X11_cycle_11, N_X11_cycle_12, N_X11_cycle_15, N_X11_cycle_18, N_X11_cycle_19, N_X11_cycle_22, N_X11_cycle_25, N_X11_cycle_26, N_X11_cycle_29, N_X11_cycle_30, N_X11_cycle_31, N_X11_cycle_32, N_X11_cycle_35, N_X11_cycle_36, N_X11_cycle_40, N_X11_cycle_42, N_X11_cycle_45, N_X11_cycle_46, N_X11_cycle_49, N_X11_cycle_51, N_X11_cycle_52, N_X11_cycle_53, N_X11_cycle_56, N_X11_cycle_59, N_X11_cycle_61, N_X11_cycle_62, N_X11_cycle_63, N_X11_cycle_64, N_X11_cycle_67, N_X11_cycle_70, N_X11_cycle_71, N_X11_cycle_72, N_X11_cycle_74, N_X11_cycle_75, N_X11_cycle_77, N_X11_cycle_78, N_X11_cycle_81, N_X11_cycle_83, N_X11_cycle_84, N_X11_cycle_85, N_X11_cycle_88, N_X11_cycle_89, N_X11_cycle_92, N_X11_cycle_94, N_X11_cycle_96, N_X11_cycle_97, N_X11_cycle_100, N_X11_cycle_101, N_X11_cycle_103, N_X11_cycle_105, N_X11_cycle_106, N_X11_cycle_109, N_X11_cycle_112, N_X11_cycle_113, N_X11_cycle_116, N_X11_cycle_117, N_X11_cycle_118, N_X11_cycle_120, N_X11_cycle_121, N_X11_cycle_124, N_X11_cycle_127, N_X11_cycle_129, N_X11_cycle_130, N_X11_cycle_131, N_X11_cycle_134, N_X11_cycle_136, N_X11_cycle_138, N_X11_cycle_139, N_X11_cycle_142, N_X11_cycle_143, N_X11_cycle_144, N_X11_cycle_147, N_X11_cycle_150, N_X11_cycle_153, N_X11_cycle_154, N_X11_cycle_157, N_X11_cycle_158, N_X11_cycle_161, N_X11_cycle_163, N_X11_cycle_164, N_X11_cycle_167, N_X11_cycle_169, N_X11_cycle_170, N_X11_cycle_173, N_X11_cycle_175, N_X11_cycle_176, N_X11_cycle_177, if_true, if_false, ite_true, ite_false, not_false_eq_true, not_true_eq_false, isRf_ref, isRf_null, c1_int, c1_ref, c1_null, c1_none, rfv_some, rfv_none, Ok_s, tl_some, tl_none, List.nil_append, b2i_n1, b2i_n0, ↓reduceIte, nI_add, pk_mul, pk_sub, n_leT, n_leF, n_ltT, n_ltF, n_eqT, n_eqF, n_shl1, n_shl, n_shr, nI_and, nI_or, nI_xor, b2i_z, b2i_o, m1_n, n_m1, m1_lt, m1_le, n_lm1, n_em1, nI_m1, and1, and3, and7, and15, and63, and255, Bool.true_eq_false, Bool.false_eq_true, reduceCtorEq, Nat.reduceAdd, Nat.reduceMul, Nat.reduceSub, Nat.reduceDiv, Nat.reduceMod, Nat.reducePow, Nat.zero_add, Nat.one_mul, r_isSet hK hA, hs, r_liesN, hwh, hC, hd0, Bool.not_false, Bool.and_true, Bool.true_and]
        refine Ok.mono (r_look hK hA hc) ?_
        rintro q ⟨I1, L1, rfl, hf1, hd1⟩
        simp (disch := first | omega | exact c1_int _ | exact c1_none | exact c1_ref _ | exact isRf_ref _ | assumption | exact okRb _ | exact okN1 | exact okN0 | exact rfl) only [N_X11_cycle_0, N_X11_cycle_1, N_X11_cycle_2, N_X11_cycle_3, N_X11_cycle_6, N_X11_cycle_9, N_X11_cycle_10, N_X11_cycle_11, N_X11_cycle_12, N_X11_cycle_15, N_X11_cycle_18, N_X11_cycle_19, N_X11_cycle_22, N_X11_cycle_25, N_X11_cycle_26, N_X11_cycle_29, N_X11_cycle_30, N_X11_cycle_31, N_X11_cycle_32, N_X11_cycle_35, N_X11_cycle_36, N_X11_cycle_40, N_X11_cycle_42, N_X11_cycle_45, N_X11_cycle_46, N_X11_cycle_49, N_X11_cycle_51, N_X11_cycle_52, N_X11_cycle_53, N_X11_cycle_56, N_X11_cycle_59, N_X11_cycle_61, N_X11_cycle_62, N_X11_cycle_63, N_X11_cycle_64, N_X11_cycle_67, N_X11_cycle_70, N_X11_cycle_71, N_X11_cycle_72, N_X11_cycle_74, N_X11_cycle_75, N_X11_cycle_77, N_X11_cycle_78, N_X11_cycle_81, N_X11_cycle_83, N_X11_cycle_84, N_X11_cycle_85, N_X11_cycle_88, N_X11_cycle_89, N_X11_cycle_92, N_X11_cycle_94, N_X11_cycle_96, N_X11_cycle_97, N_X11_cycle_100, N_X11_cycle_101, N_X11_cycle_103, N_X11_cycle_105, N_X11_cycle_106, N_X11_cycle_109, N_X11_cycle_112, N_X11_cycle_113, N_X11_cycle_116, N_X11_cycle_117, N_X11_cycle_118, N_X11_cycle_120, N_X11_cycle_121, N_X11_cycle_124, N_X11_cycle_127, N_X11_cycle_129, N_X11_cycle_130, N_X11_cycle_131, N_X11_cycle_134, N_X11_cycle_136, N_X11_cycle_138, N_X11_cycle_139, N_X11_cycle_142, N_X11_cycle_143, N_X11_cycle_144, N_X11_cycle_147, N_X11_cycle_150, N_X11_cycle_153, N_X11_cycle_154, N_X11_cycle_157, N_X11_cycle_158, N_X11_cycle_161, N_X11_cycle_163, N_X11_cycle_164, N_X11_cycle_167, N_X11_cycle_169, N_X11_cycle_170, N_X11_cycle_173, N_X11_cycle_175, N_X11_cycle_176, N_X11_cycle_177, if_true, if_false, ite_true, ite_false, not_false_eq_true, not_true_eq_false, isRf_ref, isRf_null, c1_int, c1_ref, c1_null, c1_none, rfv_some, rfv_none, Ok_s, tl_some, tl_none, List.nil_append, b2i_n1, b2i_n0, ↓reduceIte, nI_add, pk_mul, pk_sub, n_leT, n_leF, n_ltT, n_ltF, n_eqT, n_eqF, n_shl1, n_shl, n_shr, nI_and, nI_or, nI_xor, b2i_z, b2i_o, m1_n, n_m1, m1_lt, m1_le, n_lm1, n_em1, nI_m1, and1, and3, and7, and15, and63, and255, Bool.true_eq_false, Bool.false_eq_true, reduceCtorEq, Nat.reduceAdd, Nat.reduceMul, Nat.reduceSub, Nat.reduceDiv, Nat.reduceMod, Nat.reducePow, Nat.zero_add, Nat.one_mul]
        generalize hge : 8 * s + a 4327 = st at hv0 hjj hj2 hj3 ⊢
        -- the end
        have fin : ∀ n y J u6, SF I1 J → n = jj → lapN a m st n = some y → (∀ t, t < 32768 → J 97 t = nO (lst (fun i => decide (lapN a m st i = some t)) n)) → (∃ i, i < n ∧ lapN a m st i = some y) → G_X11_cycle xs Ln (d + 104) 153 [some (.ref 82), some (.int (nI m)), some (.int (nI s)), some (.int (nI wh)), some (.int (nI y)), some (.int (nI n)), u6] [] (mkW D J L1) (fun q => ∃ I' L', q = (mkW D I' L', some (.int (nO (cyA a m st (!decide (nI wh = nI 0)))))) ∧ QF I I' ∧ RIc I' a v) := by
          intro n y J u6 hf hn hl h97 hex
          subst hn
          have hvy := lap_v hA hm hm3 hv0 n y hl
          have hy1 := hvy.1
          have hy97 := h97 y hy1
          cases hls : lst (fun i => decide (lapN a m st i = some y)) n with
          | none =>
            obtain ⟨i, hi, he⟩ := hex
            have := (lst_n _ _).mp hls i hi
            rw [he] at this
            simp at this
          | some i =>
            have hil := ((lst_s _ _ _).mp hls).1
            rw [hls, nO_s] at hy97
            have hcy : cyA a m st (!decide (nI wh = nI 0)) = some (if (!decide (nI wh = nI 0)) = true then n - i else i) := by
              unfold cyA
              rw [hjj]
              show (match lapN a m st n with
                | none => none
                | some y => match lst (fun i => decide (lapN a m st i = some y)) n with
                  | none => none
                  | some i => some (if (!decide (nI wh = nI 0)) = true then n - i else i)) = _
              rw [hl]
              show (match lst (fun i => decide (lapN a m st i = some y)) n with
                  | none => none
                  | some i => some (if (!decide (nI wh = nI 0)) = true then n - i else i)) = _
              rw [hls]
            rw [hcy]
            by_cases hw0 : wh = 0
            · subst hw0
              simp (disch := first | omega | exact c1_int _ | exact c1_none | exact c1_ref _ | exact isRf_ref _ | assumption | exact okRb _ | exact okN1 | exact okN0 | exact rfl) only [N_X11_cycle_0, N_X11_cycle_1, N_X11_cycle_2, N_X11_cycle_3, N_X11_cycle_6, N_X11_cycle_9, N_X11_cycle_10, N_X11_cycle_11, N_X11_cycle_12, N_X11_cycle_15, N_X11_cycle_18, N_X11_cycle_19, N_X11_cycle_22, N_X11_cycle_25, N_X11_cycle_26, N_X11_cycle_29, N_X11_cycle_30, N_X11_cycle_31, N_X11_cycle_32, N_X11_cycle_35, N_X11_cycle_36, N_X11_cycle_38, N_X11_cycle_40, N_X11_cycle_42, N_X11_cycle_45, N_X11_cycle_46, N_X11_cycle_49, N_X11_cycle_51, N_X11_cycle_52, N_X11_cycle_53, N_X11_cycle_56, N_X11_cycle_59, N_X11_cycle_61, N_X11_cycle_62, N_X11_cycle_63, N_X11_cycle_64, N_X11_cycle_67, N_X11_cycle_70, N_X11_cycle_71, N_X11_cycle_72, N_X11_cycle_74, N_X11_cycle_75, N_X11_cycle_78, N_X11_cycle_81, N_X11_cycle_83, N_X11_cycle_84, N_X11_cycle_85, N_X11_cycle_88, N_X11_cycle_89, N_X11_cycle_92, N_X11_cycle_94, N_X11_cycle_96, N_X11_cycle_97, N_X11_cycle_100, N_X11_cycle_101, N_X11_cycle_103, N_X11_cycle_105, N_X11_cycle_106, N_X11_cycle_109, N_X11_cycle_112, N_X11_cycle_113, N_X11_cycle_116, N_X11_cycle_117, N_X11_cycle_118, N_X11_cycle_120, N_X11_cycle_121, N_X11_cycle_124, N_X11_cycle_127, N_X11_cycle_129, N_X11_cycle_130, N_X11_cycle_131, N_X11_cycle_134, N_X11_cycle_136, N_X11_cycle_138, N_X11_cycle_139, N_X11_cycle_142, N_X11_cycle_143, N_X11_cycle_144, N_X11_cycle_147, N_X11_cycle_150, N_X11_cycle_153, N_X11_cycle_154, N_X11_cycle_157, N_X11_cycle_158, N_X11_cycle_161, N_X11_cycle_163, N_X11_cycle_164, N_X11_cycle_167, N_X11_cycle_169, N_X11_cycle_170, N_X11_cycle_173, N_X11_cycle_175, N_X11_cycle_176, N_X11_cycle_177, if_true, if_false, ite_true, ite_false, not_false_eq_true, not_true_eq_false, isRf_ref, isRf_null, c1_int, c1_ref, c1_null, c1_none, rfv_some, rfv_none, Ok_s, tl_some, tl_none, List.nil_append, b2i_n1, b2i_n0, ↓reduceIte, nI_add, pk_mul, pk_sub, n_leT, n_leF, n_ltT, n_ltF, n_eqT, n_eqF, n_shl1, n_shl, n_shr, nI_and, nI_or, nI_xor, b2i_z, b2i_o, m1_n, n_m1, m1_lt, m1_le, n_lm1, n_em1, nI_m1, and1, and3, and7, and15, and63, and255, Bool.true_eq_false, Bool.false_eq_true, reduceCtorEq, Nat.reduceAdd, Nat.reduceMul, Nat.reduceSub, Nat.reduceDiv, Nat.reduceMod, Nat.reducePow, Nat.zero_add, Nat.one_mul, hy97, decide_true, Bool.not_true, nO_s]
              exact ⟨_, _, rfl, hf1.tr hf.q, (hf.lkd hd1).2.1⟩
            · have hd2 : decide (nI wh = nI 0) = false := decide_eq_false (nl_ne hw0 (by omega) (by decide))
              simp (disch := first | omega | exact c1_int _ | exact c1_none | exact c1_ref _ | exact isRf_ref _ | assumption | exact okRb _ | exact okN1 | exact okN0 | exact rfl) only [N_X11_cycle_0, N_X11_cycle_1, N_X11_cycle_2, N_X11_cycle_3, N_X11_cycle_6, N_X11_cycle_9, N_X11_cycle_10, N_X11_cycle_11, N_X11_cycle_12, N_X11_cycle_15, N_X11_cycle_18, N_X11_cycle_19, N_X11_cycle_22, N_X11_cycle_25, N_X11_cycle_26, N_X11_cycle_29, N_X11_cycle_30, N_X11_cycle_31, N_X11_cycle_32, N_X11_cycle_35, N_X11_cycle_36, N_X11_cycle_38, N_X11_cycle_40, N_X11_cycle_42, N_X11_cycle_45, N_X11_cycle_46, N_X11_cycle_49, N_X11_cycle_51, N_X11_cycle_52, N_X11_cycle_53, N_X11_cycle_56, N_X11_cycle_59, N_X11_cycle_61, N_X11_cycle_62, N_X11_cycle_63, N_X11_cycle_64, N_X11_cycle_67, N_X11_cycle_70, N_X11_cycle_71, N_X11_cycle_72, N_X11_cycle_74, N_X11_cycle_75, N_X11_cycle_78, N_X11_cycle_81, N_X11_cycle_83, N_X11_cycle_84, N_X11_cycle_85, N_X11_cycle_88, N_X11_cycle_89, N_X11_cycle_92, N_X11_cycle_94, N_X11_cycle_96, N_X11_cycle_97, N_X11_cycle_100, N_X11_cycle_101, N_X11_cycle_103, N_X11_cycle_105, N_X11_cycle_106, N_X11_cycle_109, N_X11_cycle_112, N_X11_cycle_113, N_X11_cycle_116, N_X11_cycle_117, N_X11_cycle_118, N_X11_cycle_120, N_X11_cycle_121, N_X11_cycle_124, N_X11_cycle_127, N_X11_cycle_129, N_X11_cycle_130, N_X11_cycle_131, N_X11_cycle_134, N_X11_cycle_136, N_X11_cycle_138, N_X11_cycle_139, N_X11_cycle_142, N_X11_cycle_143, N_X11_cycle_144, N_X11_cycle_147, N_X11_cycle_150, N_X11_cycle_153, N_X11_cycle_154, N_X11_cycle_157, N_X11_cycle_158, N_X11_cycle_161, N_X11_cycle_163, N_X11_cycle_164, N_X11_cycle_167, N_X11_cycle_169, N_X11_cycle_170, N_X11_cycle_173, N_X11_cycle_175, N_X11_cycle_176, N_X11_cycle_177, if_true, if_false, ite_true, ite_false, not_false_eq_true, not_true_eq_false, isRf_ref, isRf_null, c1_int, c1_ref, c1_null, c1_none, rfv_some, rfv_none, Ok_s, tl_some, tl_none, List.nil_append, b2i_n1, b2i_n0, ↓reduceIte, nI_add, pk_mul, pk_sub, n_leT, n_leF, n_ltT, n_ltF, n_eqT, n_eqF, n_shl1, n_shl, n_shr, nI_and, nI_or, nI_xor, b2i_z, b2i_o, m1_n, n_m1, m1_lt, m1_le, n_lm1, n_em1, nI_m1, and1, and3, and7, and15, and63, and255, Bool.true_eq_false, Bool.false_eq_true, reduceCtorEq, Nat.reduceAdd, Nat.reduceMul, Nat.reduceSub, Nat.reduceDiv, Nat.reduceMod, Nat.reducePow, Nat.zero_add, Nat.one_mul, hy97, hd2, Bool.not_false, nO_s]
              exact ⟨_, _, rfl, hf1.tr hf.q, (hf.lkd hd1).2.1⟩
        -- the laps
        have main : ∀ q n y J u6, jj ≤ q + n → n ≤ jj → SF I1 J → lapN a m st n = some y → (∀ t, t < 32768 → J 97 t = nO (lst (fun i => decide (lapN a m st i = some t)) n)) → G_X11_cycle xs Ln (d + 104) 77 [some (.ref 82), some (.int (nI m)), some (.int (nI s)), some (.int (nI wh)), some (.int (nI y)), some (.int (nI n)), u6] [] (mkW D J L1) (fun q => ∃ I' L', q = (mkW D I' L', some (.int (nO (cyA a m st (!decide (nI wh = nI 0)))))) ∧ QF I I' ∧ RIc I' a v) := by
          intro q
          induction q with
          | zero =>
            intro n y J u6 hq hnj hf hl h97
            have hnj' : n = jj := by omega
            have hvy := lap_v hA hm hm3 hv0 n y hl
            have hy1 := hvy.1
            have hy97 := h97 y hy1
            have hex : ∃ i, i < n ∧ lapN a m st i = some y := by
              rw [← hnj', Bool.and_eq_true] at hj2
              have h2 := hj2.2
              unfold cyS at h2
              rw [hl] at h2
              simp only [Option.isNone_some, Bool.false_or] at h2
              obtain ⟨i, hi, he⟩ := (anyN_iff _ _).mp h2
              exact ⟨i, hi, by simpa using he⟩
            cases hls : lst (fun i => decide (lapN a m st i = some y)) n with
            | none =>
              obtain ⟨i, hi, he⟩ := hex
              have := (lst_n _ _).mp hls i hi
              rw [he] at this
              simp at this
            | some i =>
              have hil := ((lst_s _ _ _).mp hls).1
              rw [hls, nO_s] at hy97
              rw [N_X11_cycle_77]
              simp (disch := first | omega | exact c1_int _ | exact c1_none | exact c1_ref _ | exact isRf_ref _ | assumption | exact okRb _ | exact okN1 | exact okN0 | exact rfl) only [N_X11_cycle_0, N_X11_cycle_1, N_X11_cycle_2, N_X11_cycle_3, N_X11_cycle_6, N_X11_cycle_9, N_X11_cycle_10, N_X11_cycle_11, N_X11_cycle_12, N_X11_cycle_15, N_X11_cycle_18, N_X11_cycle_19, N_X11_cycle_22, N_X11_cycle_25, N_X11_cycle_26, N_X11_cycle_29, N_X11_cycle_30, N_X11_cycle_31, N_X11_cycle_32, N_X11_cycle_35, N_X11_cycle_36, N_X11_cycle_38, N_X11_cycle_40, N_X11_cycle_42, N_X11_cycle_45, N_X11_cycle_46, N_X11_cycle_49, N_X11_cycle_51, N_X11_cycle_52, N_X11_cycle_53, N_X11_cycle_56, N_X11_cycle_59, N_X11_cycle_61, N_X11_cycle_62, N_X11_cycle_63, N_X11_cycle_64, N_X11_cycle_67, N_X11_cycle_70, N_X11_cycle_71, N_X11_cycle_72, N_X11_cycle_74, N_X11_cycle_75, N_X11_cycle_78, N_X11_cycle_81, N_X11_cycle_83, N_X11_cycle_84, N_X11_cycle_85, N_X11_cycle_88, N_X11_cycle_89, N_X11_cycle_92, N_X11_cycle_94, N_X11_cycle_96, N_X11_cycle_97, N_X11_cycle_100, N_X11_cycle_101, N_X11_cycle_103, N_X11_cycle_105, N_X11_cycle_106, N_X11_cycle_109, N_X11_cycle_112, N_X11_cycle_113, N_X11_cycle_116, N_X11_cycle_117, N_X11_cycle_118, N_X11_cycle_120, N_X11_cycle_121, N_X11_cycle_124, N_X11_cycle_127, N_X11_cycle_129, N_X11_cycle_130, N_X11_cycle_131, N_X11_cycle_134, N_X11_cycle_136, N_X11_cycle_138, N_X11_cycle_139, N_X11_cycle_142, N_X11_cycle_143, N_X11_cycle_144, N_X11_cycle_147, N_X11_cycle_150, N_X11_cycle_154, N_X11_cycle_157, N_X11_cycle_158, N_X11_cycle_161, N_X11_cycle_163, N_X11_cycle_164, N_X11_cycle_167, N_X11_cycle_169, N_X11_cycle_170, N_X11_cycle_173, N_X11_cycle_175, N_X11_cycle_176, N_X11_cycle_177, if_true, if_false, ite_true, ite_false, not_false_eq_true, not_true_eq_false, isRf_ref, isRf_null, c1_int, c1_ref, c1_null, c1_none, rfv_some, rfv_none, Ok_s, tl_some, tl_none, List.nil_append, b2i_n1, b2i_n0, ↓reduceIte, nI_add, pk_mul, pk_sub, n_leT, n_leF, n_ltT, n_ltF, n_eqT, n_eqF, n_shl1, n_shl, n_shr, nI_and, nI_or, nI_xor, b2i_z, b2i_o, m1_n, n_m1, m1_lt, m1_le, n_lm1, n_em1, nI_m1, and1, and3, and7, and15, and63, and255, Bool.true_eq_false, Bool.false_eq_true, reduceCtorEq, Nat.reduceAdd, Nat.reduceMul, Nat.reduceSub, Nat.reduceDiv, Nat.reduceMod, Nat.reducePow, Nat.zero_add, Nat.one_mul, hy97]
              exact fin n y J _ hf hnj' hl h97 hex
          | succ q ih =>
            intro n y J u6 hq hnj hf hl h97
            by_cases hnj' : n = jj
            · exact (show _ from by
                have hvy := lap_v hA hm hm3 hv0 n y hl
                have hy1 := hvy.1
                have hy97 := h97 y hy1
                have hex : ∃ i, i < n ∧ lapN a m st i = some y := by
                  rw [← hnj', Bool.and_eq_true] at hj2
                  have h2 := hj2.2
                  unfold cyS at h2
                  rw [hl] at h2
                  simp only [Option.isNone_some, Bool.false_or] at h2
                  obtain ⟨i, hi, he⟩ := (anyN_iff _ _).mp h2
                  exact ⟨i, hi, by simpa using he⟩
                cases hls : lst (fun i => decide (lapN a m st i = some y)) n with
                | none =>
                  obtain ⟨i, hi, he⟩ := hex
                  have := (lst_n _ _).mp hls i hi
                  rw [he] at this
                  simp at this
                | some i =>
                  have hil := ((lst_s _ _ _).mp hls).1
                  rw [hls, nO_s] at hy97
                  rw [N_X11_cycle_77]
                  simp (disch := first | omega | exact c1_int _ | exact c1_none | exact c1_ref _ | exact isRf_ref _ | assumption | exact okRb _ | exact okN1 | exact okN0 | exact rfl) only [N_X11_cycle_0, N_X11_cycle_1, N_X11_cycle_2, N_X11_cycle_3, N_X11_cycle_6, N_X11_cycle_9, N_X11_cycle_10, N_X11_cycle_11, N_X11_cycle_12, N_X11_cycle_15, N_X11_cycle_18, N_X11_cycle_19, N_X11_cycle_22, N_X11_cycle_25, N_X11_cycle_26, N_X11_cycle_29, N_X11_cycle_30, N_X11_cycle_31, N_X11_cycle_32, N_X11_cycle_35, N_X11_cycle_36, N_X11_cycle_38, N_X11_cycle_40, N_X11_cycle_42, N_X11_cycle_45, N_X11_cycle_46, N_X11_cycle_49, N_X11_cycle_51, N_X11_cycle_52, N_X11_cycle_53, N_X11_cycle_56, N_X11_cycle_59, N_X11_cycle_61, N_X11_cycle_62, N_X11_cycle_63, N_X11_cycle_64, N_X11_cycle_67, N_X11_cycle_70, N_X11_cycle_71, N_X11_cycle_72, N_X11_cycle_74, N_X11_cycle_75, N_X11_cycle_78, N_X11_cycle_81, N_X11_cycle_83, N_X11_cycle_84, N_X11_cycle_85, N_X11_cycle_88, N_X11_cycle_89, N_X11_cycle_92, N_X11_cycle_94, N_X11_cycle_96, N_X11_cycle_97, N_X11_cycle_100, N_X11_cycle_101, N_X11_cycle_103, N_X11_cycle_105, N_X11_cycle_106, N_X11_cycle_109, N_X11_cycle_112, N_X11_cycle_113, N_X11_cycle_116, N_X11_cycle_117, N_X11_cycle_118, N_X11_cycle_120, N_X11_cycle_121, N_X11_cycle_124, N_X11_cycle_127, N_X11_cycle_129, N_X11_cycle_130, N_X11_cycle_131, N_X11_cycle_134, N_X11_cycle_136, N_X11_cycle_138, N_X11_cycle_139, N_X11_cycle_142, N_X11_cycle_143, N_X11_cycle_144, N_X11_cycle_147, N_X11_cycle_150, N_X11_cycle_154, N_X11_cycle_157, N_X11_cycle_158, N_X11_cycle_161, N_X11_cycle_163, N_X11_cycle_164, N_X11_cycle_167, N_X11_cycle_169, N_X11_cycle_170, N_X11_cycle_173, N_X11_cycle_175, N_X11_cycle_176, N_X11_cycle_177, if_true, if_false, ite_true, ite_false, not_false_eq_true, not_true_eq_false, isRf_ref, isRf_null, c1_int, c1_ref, c1_null, c1_none, rfv_some, rfv_none, Ok_s, tl_some, tl_none, List.nil_append, b2i_n1, b2i_n0, ↓reduceIte, nI_add, pk_mul, pk_sub, n_leT, n_leF, n_ltT, n_ltF, n_eqT, n_eqF, n_shl1, n_shl, n_shr, nI_and, nI_or, nI_xor, b2i_z, b2i_o, m1_n, n_m1, m1_lt, m1_le, n_lm1, n_em1, nI_m1, and1, and3, and7, and15, and63, and255, Bool.true_eq_false, Bool.false_eq_true, reduceCtorEq, Nat.reduceAdd, Nat.reduceMul, Nat.reduceSub, Nat.reduceDiv, Nat.reduceMod, Nat.reducePow, Nat.zero_add, Nat.one_mul, hy97]
                  exact fin n y J _ hf hnj' hl h97 hex)
            · have hvy := lap_v hA hm hm3 hv0 n y hl
              have hy1 := hvy.1
              have hy97 := h97 y hy1
              have hno : ∀ i, i < n → lapN a m st i ≠ some y := by
                intro i hi he
                have hn0 : 1 ≤ n := by omega
                have h5 := hj3 n (by omega)
                rw [decide_eq_true hn0, Bool.true_and] at h5
                unfold cyS at h5
                rw [Bool.or_eq_false_iff] at h5
                have : anyN (fun i => decide (lapN a m st i = lapN a m st n)) n = true := (anyN_iff _ _).mpr ⟨i, hi, decide_eq_true (by rw [he, hl])⟩
                rw [h5.2] at this
                cases this
              have hlsn : lst (fun i => decide (lapN a m st i = some y)) n = none := (lst_n _ _).mpr (fun i hi => decide_eq_false (hno i hi))
              rw [hlsn, nO_n] at hy97
              have hd2 := hf.lkd hd1
              rw [N_X11_cycle_77]
              simp (disch := first | omega | exact c1_int _ | exact c1_none | exact c1_ref _ | exact isRf_ref _ | assumption | exact okRb _ | exact okN1 | exact okN0 | exact rfl) only [N_X11_cycle_0, N_X11_cycle_1, N_X11_cycle_2, N_X11_cycle_3, N_X11_cycle_6, N_X11_cycle_9, N_X11_cycle_10, N_X11_cycle_11, N_X11_cycle_12, N_X11_cycle_15, N_X11_cycle_18, N_X11_cycle_19, N_X11_cycle_22, N_X11_cycle_25, N_X11_cycle_26, N_X11_cycle_29, N_X11_cycle_30, N_X11_cycle_31, N_X11_cycle_32, N_X11_cycle_35, N_X11_cycle_36, N_X11_cycle_38, N_X11_cycle_40, N_X11_cycle_42, N_X11_cycle_45, N_X11_cycle_46, N_X11_cycle_49, N_X11_cycle_51, N_X11_cycle_52, N_X11_cycle_53, N_X11_cycle_56, N_X11_cycle_59, N_X11_cycle_61, N_X11_cycle_62, N_X11_cycle_63, N_X11_cycle_64, N_X11_cycle_67, N_X11_cycle_70, N_X11_cycle_71, N_X11_cycle_72, N_X11_cycle_74, N_X11_cycle_75, N_X11_cycle_78, N_X11_cycle_81, N_X11_cycle_83, N_X11_cycle_84, N_X11_cycle_85, N_X11_cycle_88, N_X11_cycle_89, N_X11_cycle_92, N_X11_cycle_94, N_X11_cycle_96, N_X11_cycle_97, N_X11_cycle_100, N_X11_cycle_101, N_X11_cycle_105, N_X11_cycle_106, N_X11_cycle_109, N_X11_cycle_112, N_X11_cycle_113, N_X11_cycle_116, N_X11_cycle_117, N_X11_cycle_118, N_X11_cycle_120, N_X11_cycle_121, N_X11_cycle_124, N_X11_cycle_127, N_X11_cycle_129, N_X11_cycle_130, N_X11_cycle_131, N_X11_cycle_134, N_X11_cycle_136, N_X11_cycle_138, N_X11_cycle_139, N_X11_cycle_142, N_X11_cycle_143, N_X11_cycle_144, N_X11_cycle_147, N_X11_cycle_150, N_X11_cycle_153, N_X11_cycle_154, N_X11_cycle_157, N_X11_cycle_158, N_X11_cycle_161, N_X11_cycle_163, N_X11_cycle_164, N_X11_cycle_167, N_X11_cycle_169, N_X11_cycle_170, N_X11_cycle_173, N_X11_cycle_175, N_X11_cycle_176, N_X11_cycle_177, if_true, if_false, ite_true, ite_false, not_false_eq_true, not_true_eq_false, isRf_ref, isRf_null, c1_int, c1_ref, c1_null, c1_none, rfv_some, rfv_none, Ok_s, tl_some, tl_none, List.nil_append, b2i_n1, b2i_n0, ↓reduceIte, nI_add, pk_mul, pk_sub, n_leT, n_leF, n_ltT, n_ltF, n_eqT, n_eqF, n_shl1, n_shl, n_shr, nI_and, nI_or, nI_xor, b2i_z, b2i_o, m1_n, n_m1, m1_lt, m1_le, n_lm1, n_em1, nI_m1, and1, and3, and7, and15, and63, and255, Bool.true_eq_false, Bool.false_eq_true, reduceCtorEq, Nat.reduceAdd, Nat.reduceMul, Nat.reduceSub, Nat.reduceDiv, Nat.reduceMod, Nat.reducePow, Nat.zero_add, Nat.one_mul, hy97]
              have hf2 : SF I1 (up2 J 97 y (nI n)) := ⟨fun k hk => by rw [up2_ro _ _ _ (by omega)]; exact hf.1 k hk, fun j hj => by rw [up2_k _ _ _ _ (by decide)]; exact hf.2 j hj⟩
              have hd3 := hf2.lkd hd1
              have hC3 := hd3.1.2.2.1 4323 (by decide) (by decide) (by decide)
              have h97' : ∀ t, t < 32768 → up2 J 97 y (nI n) 97 t = nO (lst (fun i => decide (lapN a m st i = some t)) (n + 1)) := by
                intro t ht
                show _ = nO (match lst (fun i => decide (lapN a m st i = some t)) n with
                  | some i => some i
                  | none => if decide (lapN a m st n = some t) = true then some n else none)
                by_cases hty : t = y
                · subst hty
                  rw [up2_s, hlsn]
                  show _ = nO (if decide (lapN a m st n = some t) = true then some n else none)
                  rw [if_pos (decide_eq_true hl)]
                  rfl
                · rw [up2_j _ _ _ hty, h97 t ht]
                  cases lst (fun i => decide (lapN a m st i = some t)) n with
                  | some i => rfl
                  | none =>
                    show _ = nO (if decide (lapN a m st n = some t) = true then some n else none)
                    rw [if_neg (by rw [hl]; simp; exact fun h => hty h.symm)]
              -- one lap
              have hls : lapN a m st (n + 1) = runA a m y (a 4323) := by
                show (match lapN a m st n with
                  | none => none
                  | some s => runA a m s (a 4323)) = _
                rw [hl]
              refine Lp (n := a 4323) (σ := Nat) (E := fun k z => G_X11_cycle xs Ln (d + 104) 103 [some (.ref 82), some (.int (nI m)), some (.int (nI s)), some (.int (nI wh)), some (.int (nI z)), some (.int (nI (n + 1))), some (.int (nI k))] [] (mkW D (up2 J 97 y (nI n)) L1) _) (Inv := fun k z => runA a m y k = some z) ?_ ?_ 0 y (by omega) rfl
              · intro z hz
                simp (disch := first | omega | exact c1_int _ | exact c1_none | exact c1_ref _ | exact isRf_ref _ | assumption | exact okRb _ | exact okN1 | exact okN0 | exact rfl) only [N_X11_cycle_0, N_X11_cycle_1, N_X11_cycle_2, N_X11_cycle_3, N_X11_cycle_6, N_X11_cycle_9, N_X11_cycle_10, N_X11_cycle_11, N_X11_cycle_12, N_X11_cycle_15, N_X11_cycle_18, N_X11_cycle_19, N_X11_cycle_22, N_X11_cycle_25, N_X11_cycle_26, N_X11_cycle_29, N_X11_cycle_30, N_X11_cycle_31, N_X11_cycle_32, N_X11_cycle_35, N_X11_cycle_36, N_X11_cycle_38, N_X11_cycle_40, N_X11_cycle_42, N_X11_cycle_45, N_X11_cycle_46, N_X11_cycle_49, N_X11_cycle_51, N_X11_cycle_52, N_X11_cycle_53, N_X11_cycle_56, N_X11_cycle_59, N_X11_cycle_61, N_X11_cycle_62, N_X11_cycle_63, N_X11_cycle_64, N_X11_cycle_67, N_X11_cycle_70, N_X11_cycle_71, N_X11_cycle_72, N_X11_cycle_74, N_X11_cycle_75, N_X11_cycle_78, N_X11_cycle_81, N_X11_cycle_83, N_X11_cycle_84, N_X11_cycle_85, N_X11_cycle_88, N_X11_cycle_89, N_X11_cycle_92, N_X11_cycle_94, N_X11_cycle_96, N_X11_cycle_97, N_X11_cycle_100, N_X11_cycle_101, N_X11_cycle_105, N_X11_cycle_106, N_X11_cycle_109, N_X11_cycle_112, N_X11_cycle_113, N_X11_cycle_116, N_X11_cycle_117, N_X11_cycle_118, N_X11_cycle_120, N_X11_cycle_121, N_X11_cycle_124, N_X11_cycle_127, N_X11_cycle_129, N_X11_cycle_130, N_X11_cycle_131, N_X11_cycle_134, N_X11_cycle_136, N_X11_cycle_138, N_X11_cycle_139, N_X11_cycle_142, N_X11_cycle_143, N_X11_cycle_144, N_X11_cycle_147, N_X11_cycle_150, N_X11_cycle_153, N_X11_cycle_154, N_X11_cycle_157, N_X11_cycle_158, N_X11_cycle_161, N_X11_cycle_163, N_X11_cycle_164, N_X11_cycle_167, N_X11_cycle_169, N_X11_cycle_170, N_X11_cycle_173, N_X11_cycle_175, N_X11_cycle_176, N_X11_cycle_177, N_X11_cycle_103, if_true, if_false, ite_true, ite_false, not_false_eq_true, not_true_eq_false, isRf_ref, isRf_null, c1_int, c1_ref, c1_null, c1_none, rfv_some, rfv_none, Ok_s, tl_some, tl_none, List.nil_append, b2i_n1, b2i_n0, ↓reduceIte, nI_add, pk_mul, pk_sub, n_leT, n_leF, n_ltT, n_ltF, n_eqT, n_eqF, n_shl1, n_shl, n_shr, nI_and, nI_or, nI_xor, b2i_z, b2i_o, m1_n, n_m1, m1_lt, m1_le, n_lm1, n_em1, nI_m1, and1, and3, and7, and15, and63, and255, Bool.true_eq_false, Bool.false_eq_true, reduceCtorEq, Nat.reduceAdd, Nat.reduceMul, Nat.reduceSub, Nat.reduceDiv, Nat.reduceMod, Nat.reducePow, Nat.zero_add, Nat.one_mul, hC3]
                exact ih (n + 1) z _ _ (by omega) (by omega) hf2 (by rw [hls]; exact hz) h97'
              · intro k z hk hz ih2
                have hvz := run_v hA hm hm3 hvy k z hz
                have hcw := hA.2.2.2.2.2.2.2.2.2.2.2.2.2.1 k hk
                have hck := hd3.1.2.2.1 (164 + k) (by omega) (by omega) (by omega)
                have hbe := r_behind (xs := xs) (Ln := Ln) (d := d + 101) (D := D) (L := L1) hd3.1 hA hd3.2.2.1 hm hm3 hvz hcw
                have hrs : runA a m y (k + 1) = behA a m z (a (164 + k)) := by
                  show (match runA a m y k with
                    | none => none
                    | some s => behA a m s (a (164 + k))) = _
                  rw [hz]
                rw [N_X11_cycle_103]
                cases hb : behA a m z (a (164 + k)) with
                | some z' =>
                  have hz3 := (beh_v hA hm hm3 hvz hb).1.1
                  rw [hb, nO_s] at hbe
                  simp (disch := first | omega | exact c1_int _ | exact c1_none | exact c1_ref _ | exact isRf_ref _ | assumption | exact okRb _ | exact okN1 | exact okN0 | exact rfl) only [N_X11_cycle_0, N_X11_cycle_1, N_X11_cycle_2, N_X11_cycle_3, N_X11_cycle_6, N_X11_cycle_9, N_X11_cycle_10, N_X11_cycle_11, N_X11_cycle_12, N_X11_cycle_15, N_X11_cycle_18, N_X11_cycle_19, N_X11_cycle_22, N_X11_cycle_25, N_X11_cycle_26, N_X11_cycle_29, N_X11_cycle_30, N_X11_cycle_31, N_X11_cycle_32, N_X11_cycle_35, N_X11_cycle_36, N_X11_cycle_38, N_X11_cycle_40, N_X11_cycle_42, N_X11_cycle_45, N_X11_cycle_46, N_X11_cycle_49, N_X11_cycle_51, N_X11_cycle_52, N_X11_cycle_53, N_X11_cycle_56, N_X11_cycle_59, N_X11_cycle_61, N_X11_cycle_62, N_X11_cycle_63, N_X11_cycle_64, N_X11_cycle_67, N_X11_cycle_70, N_X11_cycle_71, N_X11_cycle_72, N_X11_cycle_74, N_X11_cycle_75, N_X11_cycle_78, N_X11_cycle_81, N_X11_cycle_83, N_X11_cycle_84, N_X11_cycle_85, N_X11_cycle_88, N_X11_cycle_89, N_X11_cycle_92, N_X11_cycle_94, N_X11_cycle_96, N_X11_cycle_97, N_X11_cycle_100, N_X11_cycle_101, N_X11_cycle_105, N_X11_cycle_106, N_X11_cycle_109, N_X11_cycle_112, N_X11_cycle_113, N_X11_cycle_116, N_X11_cycle_117, N_X11_cycle_118, N_X11_cycle_120, N_X11_cycle_121, N_X11_cycle_124, N_X11_cycle_127, N_X11_cycle_129, N_X11_cycle_130, N_X11_cycle_131, N_X11_cycle_134, N_X11_cycle_136, N_X11_cycle_138, N_X11_cycle_139, N_X11_cycle_142, N_X11_cycle_143, N_X11_cycle_144, N_X11_cycle_147, N_X11_cycle_150, N_X11_cycle_153, N_X11_cycle_154, N_X11_cycle_157, N_X11_cycle_158, N_X11_cycle_161, N_X11_cycle_163, N_X11_cycle_164, N_X11_cycle_167, N_X11_cycle_169, N_X11_cycle_170, N_X11_cycle_173, N_X11_cycle_175, N_X11_cycle_176, N_X11_cycle_177, if_true, if_false, ite_true, ite_false, not_false_eq_true, not_true_eq_false, isRf_ref, isRf_null, c1_int, c1_ref, c1_null, c1_none, rfv_some, rfv_none, Ok_s, tl_some, tl_none, List.nil_append, b2i_n1, b2i_n0, ↓reduceIte, nI_add, pk_mul, pk_sub, n_leT, n_leF, n_ltT, n_ltF, n_eqT, n_eqF, n_shl1, n_shl, n_shr, nI_and, nI_or, nI_xor, b2i_z, b2i_o, m1_n, n_m1, m1_lt, m1_le, n_lm1, n_em1, nI_m1, and1, and3, and7, and15, and63, and255, Bool.true_eq_false, Bool.false_eq_true, reduceCtorEq, Nat.reduceAdd, Nat.reduceMul, Nat.reduceSub, Nat.reduceDiv, Nat.reduceMod, Nat.reducePow, Nat.zero_add, Nat.one_mul, hC3, hck, hbe]
                  exact ih2 z' (by rw [hrs, hb])
                | none =>
                  rw [hb, nO_n] at hbe
                  simp (disch := first | omega | exact c1_int _ | exact c1_none | exact c1_ref _ | exact isRf_ref _ | assumption | exact okRb _ | exact okN1 | exact okN0 | exact rfl) only [N_X11_cycle_0, N_X11_cycle_1, N_X11_cycle_2, N_X11_cycle_3, N_X11_cycle_6, N_X11_cycle_9, N_X11_cycle_10, N_X11_cycle_11, N_X11_cycle_12, N_X11_cycle_15, N_X11_cycle_18, N_X11_cycle_19, N_X11_cycle_22, N_X11_cycle_25, N_X11_cycle_26, N_X11_cycle_29, N_X11_cycle_30, N_X11_cycle_31, N_X11_cycle_32, N_X11_cycle_35, N_X11_cycle_36, N_X11_cycle_38, N_X11_cycle_40, N_X11_cycle_42, N_X11_cycle_45, N_X11_cycle_46, N_X11_cycle_49, N_X11_cycle_51, N_X11_cycle_52, N_X11_cycle_53, N_X11_cycle_56, N_X11_cycle_59, N_X11_cycle_61, N_X11_cycle_62, N_X11_cycle_63, N_X11_cycle_64, N_X11_cycle_67, N_X11_cycle_70, N_X11_cycle_71, N_X11_cycle_72, N_X11_cycle_74, N_X11_cycle_75, N_X11_cycle_78, N_X11_cycle_81, N_X11_cycle_83, N_X11_cycle_84, N_X11_cycle_85, N_X11_cycle_88, N_X11_cycle_89, N_X11_cycle_92, N_X11_cycle_94, N_X11_cycle_96, N_X11_cycle_97, N_X11_cycle_100, N_X11_cycle_101, N_X11_cycle_105, N_X11_cycle_106, N_X11_cycle_109, N_X11_cycle_112, N_X11_cycle_113, N_X11_cycle_116, N_X11_cycle_117, N_X11_cycle_118, N_X11_cycle_120, N_X11_cycle_121, N_X11_cycle_124, N_X11_cycle_127, N_X11_cycle_129, N_X11_cycle_130, N_X11_cycle_131, N_X11_cycle_134, N_X11_cycle_136, N_X11_cycle_138, N_X11_cycle_139, N_X11_cycle_142, N_X11_cycle_143, N_X11_cycle_144, N_X11_cycle_147, N_X11_cycle_150, N_X11_cycle_153, N_X11_cycle_154, N_X11_cycle_157, N_X11_cycle_158, N_X11_cycle_161, N_X11_cycle_163, N_X11_cycle_164, N_X11_cycle_167, N_X11_cycle_169, N_X11_cycle_170, N_X11_cycle_173, N_X11_cycle_175, N_X11_cycle_176, N_X11_cycle_177, if_true, if_false, ite_true, ite_false, not_false_eq_true, not_true_eq_false, isRf_ref, isRf_null, c1_int, c1_ref, c1_null, c1_none, rfv_some, rfv_none, Ok_s, tl_some, tl_none, List.nil_append, b2i_n1, b2i_n0, ↓reduceIte, nI_add, pk_mul, pk_sub, n_leT, n_leF, n_ltT, n_ltF, n_eqT, n_eqF, n_shl1, n_shl, n_shr, nI_and, nI_or, nI_xor, b2i_z, b2i_o, m1_n, n_m1, m1_lt, m1_le, n_lm1, n_em1, nI_m1, and1, and3, and7, and15, and63, and255, Bool.true_eq_false, Bool.false_eq_true, reduceCtorEq, Nat.reduceAdd, Nat.reduceMul, Nat.reduceSub, Nat.reduceDiv, Nat.reduceMod, Nat.reducePow, Nat.zero_add, Nat.one_mul, hC3, hck, hbe]
                  have hno2 : ∀ q, k < q → runA a m y q = none := by
                    intro q hq
                    induction q with
                    | zero => omega
                    | succ q ihq =>
                      by_cases hqk : q = k
                      · subst hqk; rw [hrs, hb]
                      · show (match runA a m y q with
                          | none => none
                          | some s => behA a m s (a (164 + q))) = _
                        rw [ihq (by omega)]
                  have hln : lapN a m st (n + 1) = none := by rw [hls]; exact hno2 _ hk
                  have hjn : jj = n + 1 := by
                    by_cases hlt : n + 1 < jj
                    · have h5 := hj3 (n + 1) hlt
                      rw [decide_eq_true (by omega), Bool.true_and] at h5
                      unfold cyS at h5
                      rw [hln] at h5
                      simp at h5
                    · omega
                  have hcy : cyA a m st (!decide (nI wh = nI 0)) = none := by
                    unfold cyA
                    rw [hjj]
                    show (match lapN a m st jj with
                      | none => none
                      | some y => match lst (fun i => decide (lapN a m st i = some y)) jj with
                        | none => none
                        | some i => some (if (!decide (nI wh = nI 0)) = true then jj - i else i)) = _
                    rw [hjn, hln]
                  rw [hcy]
                  exact ⟨_, _, rfl, hf1.tr hf2.q, hd3.2.1⟩
        -- first all are unseen
        refine Lp (n := 32768) (σ := Nat → Nat → Int32) (E := fun i J => G_X11_cycle xs Ln (d + 104) 38 [some (.ref 82), some (.int (nI m)), some (.int (nI s)), some (.int (nI wh)), some (.int (nI i)), none, none] [] (mkW D J L1) _) (Inv := fun i J => SF I1 J ∧ ∀ q, q < i → J 97 q = m1) ?_ ?_ 0 I1 (by omega) ⟨SF.rf I1, fun q hq => by omega⟩
        · rintro J ⟨hf, hz⟩
          have ho := (hf.lkd hd1).1.2.2.1 4327 (by decide) (by decide) (by decide)
          simp (disch := first | omega | exact c1_int _ | exact c1_none | exact c1_ref _ | exact isRf_ref _ | assumption | exact okRb _ | exact okN1 | exact okN0 | exact rfl) only [N_X11_cycle_0, N_X11_cycle_1, N_X11_cycle_2, N_X11_cycle_3, N_X11_cycle_6, N_X11_cycle_9, N_X11_cycle_10, N_X11_cycle_11, N_X11_cycle_12, N_X11_cycle_15, N_X11_cycle_18, N_X11_cycle_19, N_X11_cycle_22, N_X11_cycle_25, N_X11_cycle_26, N_X11_cycle_29, N_X11_cycle_30, N_X11_cycle_31, N_X11_cycle_32, N_X11_cycle_35, N_X11_cycle_36, N_X11_cycle_38, N_X11_cycle_40, N_X11_cycle_42, N_X11_cycle_45, N_X11_cycle_46, N_X11_cycle_49, N_X11_cycle_51, N_X11_cycle_52, N_X11_cycle_53, N_X11_cycle_56, N_X11_cycle_59, N_X11_cycle_61, N_X11_cycle_62, N_X11_cycle_63, N_X11_cycle_64, N_X11_cycle_67, N_X11_cycle_70, N_X11_cycle_71, N_X11_cycle_72, N_X11_cycle_74, N_X11_cycle_75, N_X11_cycle_78, N_X11_cycle_81, N_X11_cycle_83, N_X11_cycle_84, N_X11_cycle_85, N_X11_cycle_88, N_X11_cycle_89, N_X11_cycle_92, N_X11_cycle_94, N_X11_cycle_96, N_X11_cycle_97, N_X11_cycle_100, N_X11_cycle_101, N_X11_cycle_103, N_X11_cycle_105, N_X11_cycle_106, N_X11_cycle_109, N_X11_cycle_112, N_X11_cycle_113, N_X11_cycle_116, N_X11_cycle_117, N_X11_cycle_118, N_X11_cycle_120, N_X11_cycle_121, N_X11_cycle_124, N_X11_cycle_127, N_X11_cycle_129, N_X11_cycle_130, N_X11_cycle_131, N_X11_cycle_134, N_X11_cycle_136, N_X11_cycle_138, N_X11_cycle_139, N_X11_cycle_142, N_X11_cycle_143, N_X11_cycle_144, N_X11_cycle_147, N_X11_cycle_150, N_X11_cycle_153, N_X11_cycle_154, N_X11_cycle_157, N_X11_cycle_158, N_X11_cycle_161, N_X11_cycle_163, N_X11_cycle_164, N_X11_cycle_167, N_X11_cycle_169, N_X11_cycle_170, N_X11_cycle_173, N_X11_cycle_175, N_X11_cycle_176, N_X11_cycle_177, if_true, if_false, ite_true, ite_false, not_false_eq_true, not_true_eq_false, isRf_ref, isRf_null, c1_int, c1_ref, c1_null, c1_none, rfv_some, rfv_none, Ok_s, tl_some, tl_none, List.nil_append, b2i_n1, b2i_n0, ↓reduceIte, nI_add, pk_mul, pk_sub, n_leT, n_leF, n_ltT, n_ltF, n_eqT, n_eqF, n_shl1, n_shl, n_shr, nI_and, nI_or, nI_xor, b2i_z, b2i_o, m1_n, n_m1, m1_lt, m1_le, n_lm1, n_em1, nI_m1, and1, and3, and7, and15, and63, and255, Bool.true_eq_false, Bool.false_eq_true, reduceCtorEq, Nat.reduceAdd, Nat.reduceMul, Nat.reduceSub, Nat.reduceDiv, Nat.reduceMod, Nat.reducePow, Nat.zero_add, Nat.one_mul, ho, hge]
          exact main jj 0 st J _ (by omega) (by omega) hf rfl (fun t ht => hz t ht)
        · rintro i J hi ⟨hf, hz⟩ ih
          rw [N_X11_cycle_38]
          simp (disch := first | omega | exact c1_int _ | exact c1_none | exact c1_ref _ | exact isRf_ref _ | assumption | exact okRb _ | exact okN1 | exact okN0 | exact rfl) only [N_X11_cycle_0, N_X11_cycle_1, N_X11_cycle_2, N_X11_cycle_3, N_X11_cycle_6, N_X11_cycle_9, N_X11_cycle_10, N_X11_cycle_11, N_X11_cycle_12, N_X11_cycle_15, N_X11_cycle_18, N_X11_cycle_19, N_X11_cycle_22, N_X11_cycle_25, N_X11_cycle_26, N_X11_cycle_29, N_X11_cycle_30, N_X11_cycle_31, N_X11_cycle_32, N_X11_cycle_35, N_X11_cycle_36, N_X11_cycle_40, N_X11_cycle_42, N_X11_cycle_45, N_X11_cycle_46, N_X11_cycle_49, N_X11_cycle_51, N_X11_cycle_52, N_X11_cycle_53, N_X11_cycle_56, N_X11_cycle_59, N_X11_cycle_61, N_X11_cycle_62, N_X11_cycle_63, N_X11_cycle_64, N_X11_cycle_67, N_X11_cycle_70, N_X11_cycle_71, N_X11_cycle_72, N_X11_cycle_74, N_X11_cycle_75, N_X11_cycle_77, N_X11_cycle_78, N_X11_cycle_81, N_X11_cycle_83, N_X11_cycle_84, N_X11_cycle_85, N_X11_cycle_88, N_X11_cycle_89, N_X11_cycle_92, N_X11_cycle_94, N_X11_cycle_96, N_X11_cycle_97, N_X11_cycle_100, N_X11_cycle_101, N_X11_cycle_103, N_X11_cycle_105, N_X11_cycle_106, N_X11_cycle_109, N_X11_cycle_112, N_X11_cycle_113, N_X11_cycle_116, N_X11_cycle_117, N_X11_cycle_118, N_X11_cycle_120, N_X11_cycle_121, N_X11_cycle_124, N_X11_cycle_127, N_X11_cycle_129, N_X11_cycle_130, N_X11_cycle_131, N_X11_cycle_134, N_X11_cycle_136, N_X11_cycle_138, N_X11_cycle_139, N_X11_cycle_142, N_X11_cycle_143, N_X11_cycle_144, N_X11_cycle_147, N_X11_cycle_150, N_X11_cycle_153, N_X11_cycle_154, N_X11_cycle_157, N_X11_cycle_158, N_X11_cycle_161, N_X11_cycle_163, N_X11_cycle_164, N_X11_cycle_167, N_X11_cycle_169, N_X11_cycle_170, N_X11_cycle_173, N_X11_cycle_175, N_X11_cycle_176, N_X11_cycle_177, if_true, if_false, ite_true, ite_false, not_false_eq_true, not_true_eq_false, isRf_ref, isRf_null, c1_int, c1_ref, c1_null, c1_none, rfv_some, rfv_none, Ok_s, tl_some, tl_none, List.nil_append, b2i_n1, b2i_n0, ↓reduceIte, nI_add, pk_mul, pk_sub, n_leT, n_leF, n_ltT, n_ltF, n_eqT, n_eqF, n_shl1, n_shl, n_shr, nI_and, nI_or, nI_xor, b2i_z, b2i_o, m1_n, n_m1, m1_lt, m1_le, n_lm1, n_em1, nI_m1, and1, and3, and7, and15, and63, and255, Bool.true_eq_false, Bool.false_eq_true, reduceCtorEq, Nat.reduceAdd, Nat.reduceMul, Nat.reduceSub, Nat.reduceDiv, Nat.reduceMod, Nat.reducePow, Nat.zero_add, Nat.one_mul]
          refine ih _ ⟨⟨fun k hk => ?_, fun j hj => ?_⟩, fun q hq => ?_⟩
          · rw [up2_ro _ _ _ (by omega)]; exact hf.1 k hk
          · rw [up2_k _ _ _ _ (by decide)]; exact hf.2 j hj
          · by_cases hqi : q = i
            · rw [hqi, up2_s]
            · rw [up2_j _ _ _ hqi]; exact hz q (by omega)
end P78
