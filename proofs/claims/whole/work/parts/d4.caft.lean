section Pd4
variable {xs : Nat → Int32} {Ln d : Nat} {D D' D'' : Dyn} {I I' I'' : Nat → Nat → Int32} {L : Nat → Nat → Int64} {w : Om} {Q : Res → Prop} {ow ow' ow'' ky ky' ky'' ln ln' ln'' a a' : Nat → Nat} {o be sr : Nat} {A : As} {nn : Nat}
theorem MM.kf (hM : MM ow D I a) (hf : F24 I I') : Kp a I I' := ⟨hf.mv, fun e _ h => by rw [hf 28 (by decide)]; exact h, fun k w e _ _ _ h => by unfold TbI at h ⊢; rw [hf 25 (by decide)]; exact h⟩
theorem isK_N (v : Int32) : isK v = inN v (nI 2) := by
  unfold isK
  cases h : inN v (nI 2)
  · have h0 : v ≠ 0 := by rintro rfl; revert h; decide
    have h1 : v ≠ 1 := by rintro rfl; revert h; decide
    rw [decide_eq_false h0, decide_eq_false h1]; rfl
  · obtain ⟨i, hi, rfl⟩ := inN_t (by decide) h
    have : i = 0 ∨ i = 1 := by omega
    rcases this with rfl | rfl <;> decide
theorem c_isKN {v : Int32} : callD xs Ln (d + 1) 140 [.int v] w = some (w, some (.int (b2i (inN v (nI 2))))) := by rw [← isK_N]; exact c_isKind'
theorem c_isDrN {v : Int32} : callD xs Ln (d + 1) 141 [.int v] w = some (w, some (.int (b2i (inN v (nI 8))))) := c_isDoors
theorem C_goes {kv wv pv ev : Int32} {x : Int32} (hx : x = aGoes (sa A) kv wv pv ev) (h : CI D I A nn) : CCall xs Ln (d + 8) 99 [.ref 0, .int kv, .int wv, .int pv, .int ev] D I L A nn x := by
  obtain ⟨ow, ky, ln, h⟩ := h
  have hM := h.2.2.2.1
  have hA := hM.2.1
  have g0 : I 1 0 = nI (sa A 4320) := hM.1.m.1
  have g1 : I 1 1 = nI (sa A 4321) := hM.1.m.2.1
  have hP := hA.1
  have hW := hA.2.1
  refine semG (lo := [some (.ref 0), some (.int kv), some (.int wv), some (.int pv), some (.int ev)]) rfl rfl (Nat.le_of_ble_eq_true rfl) rfl (show G_X10_goes xs Ln _ 0 [some (.ref 0), some (.int kv), some (.int wv), some (.int pv), some (.int ev)] [] _ _ from ?_)
  unfold aGoes at hx
  have no : x = m1 → ∃ D' I' L', ((mkW D I L, some (.int m1)) : Res) = (mkW D' I' L', some (.int x)) ∧ CI D' I' A (nn + 1) ∧ CFr I I' := fun e => ⟨D, I, L, by rw [e], ⟨ow, ky, ln, h.up⟩, CFr.rf I⟩
  cases h1 : inN kv (nI 2)
  · rw [h1, Bool.false_and, Bool.false_and, Bool.false_and, if_neg (by decide)] at hx
    simp (disch := first | omega | exact c1_int _ | exact c1_none | exact c1_ref _ | exact isRf_ref _ | assumption | exact okRb _ | exact okN1 | exact okN0 | exact rfl) only [N_X10_goes_0, N_X10_goes_1, N_X10_goes_4, N_X10_goes_7, N_X10_goes_8, N_X10_goes_11, N_X10_goes_12, N_X10_goes_15, N_X10_goes_18, N_X10_goes_19, N_X10_goes_22, N_X10_goes_23, N_X10_goes_26, N_X10_goes_29, N_X10_goes_31, N_X10_goes_34, N_X10_goes_37, N_X10_goes_38, N_X10_goes_39, N_X10_goes_40, N_X10_goes_43, N_X10_goes_44, N_X10_goes_45, N_X10_goes_46, N_X10_goes_48, N_X10_goes_51, if_true, if_false, ite_true, ite_false, not_false_eq_true, not_true_eq_false, isRf_ref, isRf_null, c1_int, c1_ref, c1_null, c1_none, rfv_some, rfv_none, Ok_s, tl_some, tl_none, List.nil_append, b2i_n1, b2i_n0, ↓reduceIte, nI_add, pk_mul, pk_sub, n_leT, n_leF, n_ltT, n_ltF, n_eqT, n_eqF, n_shl1, n_shl, n_shr, nI_and, nI_or, nI_xor, b2i_z, b2i_o, m1_n, n_m1, m1_lt, m1_le, n_lm1, n_em1, nI_m1, and1, and3, and7, and15, and63, and255, Bool.true_eq_false, Bool.false_eq_true, reduceCtorEq, Nat.reduceAdd, Nat.reduceMul, Nat.reduceSub, Nat.reduceDiv, Nat.reduceMod, Nat.reducePow, Nat.zero_add, Nat.one_mul, c_isKN, h1]
    exact no hx
  · cases h2 : inN wv (nI (sa A 4321))
    · rw [h1, h2, Bool.and_false, Bool.false_and, Bool.false_and, if_neg (by decide)] at hx
      simp (disch := first | omega | exact c1_int _ | exact c1_none | exact c1_ref _ | exact isRf_ref _ | assumption | exact okRb _ | exact okN1 | exact okN0 | exact rfl) only [N_X10_goes_0, N_X10_goes_1, N_X10_goes_4, N_X10_goes_7, N_X10_goes_8, N_X10_goes_11, N_X10_goes_12, N_X10_goes_15, N_X10_goes_18, N_X10_goes_19, N_X10_goes_22, N_X10_goes_23, N_X10_goes_26, N_X10_goes_29, N_X10_goes_31, N_X10_goes_34, N_X10_goes_37, N_X10_goes_38, N_X10_goes_39, N_X10_goes_40, N_X10_goes_43, N_X10_goes_44, N_X10_goes_45, N_X10_goes_46, N_X10_goes_48, N_X10_goes_51, if_true, if_false, ite_true, ite_false, not_false_eq_true, not_true_eq_false, isRf_ref, isRf_null, c1_int, c1_ref, c1_null, c1_none, rfv_some, rfv_none, Ok_s, tl_some, tl_none, List.nil_append, b2i_n1, b2i_n0, ↓reduceIte, nI_add, pk_mul, pk_sub, n_leT, n_leF, n_ltT, n_ltF, n_eqT, n_eqF, n_shl1, n_shl, n_shr, nI_and, nI_or, nI_xor, b2i_z, b2i_o, m1_n, n_m1, m1_lt, m1_le, n_lm1, n_em1, nI_m1, and1, and3, and7, and15, and63, and255, Bool.true_eq_false, Bool.false_eq_true, reduceCtorEq, Nat.reduceAdd, Nat.reduceMul, Nat.reduceSub, Nat.reduceDiv, Nat.reduceMod, Nat.reducePow, Nat.zero_add, Nat.one_mul, c_isKN, h1, c_hasWord, g1, h2]
      exact no hx
    · cases h3 : inN pv (nI (sa A 4320))
      · rw [h3, Bool.and_false, Bool.false_and, if_neg (by decide)] at hx
        simp (disch := first | omega | exact c1_int _ | exact c1_none | exact c1_ref _ | exact isRf_ref _ | assumption | exact okRb _ | exact okN1 | exact okN0 | exact rfl) only [N_X10_goes_0, N_X10_goes_1, N_X10_goes_4, N_X10_goes_7, N_X10_goes_8, N_X10_goes_11, N_X10_goes_12, N_X10_goes_15, N_X10_goes_18, N_X10_goes_19, N_X10_goes_22, N_X10_goes_23, N_X10_goes_26, N_X10_goes_29, N_X10_goes_31, N_X10_goes_34, N_X10_goes_37, N_X10_goes_38, N_X10_goes_39, N_X10_goes_40, N_X10_goes_43, N_X10_goes_44, N_X10_goes_45, N_X10_goes_46, N_X10_goes_48, N_X10_goes_51, if_true, if_false, ite_true, ite_false, not_false_eq_true, not_true_eq_false, isRf_ref, isRf_null, c1_int, c1_ref, c1_null, c1_none, rfv_some, rfv_none, Ok_s, tl_some, tl_none, List.nil_append, b2i_n1, b2i_n0, ↓reduceIte, nI_add, pk_mul, pk_sub, n_leT, n_leF, n_ltT, n_ltF, n_eqT, n_eqF, n_shl1, n_shl, n_shr, nI_and, nI_or, nI_xor, b2i_z, b2i_o, m1_n, n_m1, m1_lt, m1_le, n_lm1, n_em1, nI_m1, and1, and3, and7, and15, and63, and255, Bool.true_eq_false, Bool.false_eq_true, reduceCtorEq, Nat.reduceAdd, Nat.reduceMul, Nat.reduceSub, Nat.reduceDiv, Nat.reduceMod, Nat.reducePow, Nat.zero_add, Nat.one_mul, c_isKN, h1, c_hasWord, g1, h2, c_hasPlace, g0, h3]
        exact no hx
      · cases h4 : inN ev (nI 8)
        · rw [h4, Bool.and_false, if_neg (by decide)] at hx
          simp (disch := first | omega | exact c1_int _ | exact c1_none | exact c1_ref _ | exact isRf_ref _ | assumption | exact okRb _ | exact okN1 | exact okN0 | exact rfl) only [N_X10_goes_0, N_X10_goes_1, N_X10_goes_4, N_X10_goes_7, N_X10_goes_8, N_X10_goes_11, N_X10_goes_12, N_X10_goes_15, N_X10_goes_18, N_X10_goes_19, N_X10_goes_22, N_X10_goes_23, N_X10_goes_26, N_X10_goes_29, N_X10_goes_31, N_X10_goes_34, N_X10_goes_37, N_X10_goes_38, N_X10_goes_39, N_X10_goes_40, N_X10_goes_43, N_X10_goes_44, N_X10_goes_45, N_X10_goes_46, N_X10_goes_48, N_X10_goes_51, if_true, if_false, ite_true, ite_false, not_false_eq_true, not_true_eq_false, isRf_ref, isRf_null, c1_int, c1_ref, c1_null, c1_none, rfv_some, rfv_none, Ok_s, tl_some, tl_none, List.nil_append, b2i_n1, b2i_n0, ↓reduceIte, nI_add, pk_mul, pk_sub, n_leT, n_leF, n_ltT, n_ltF, n_eqT, n_eqF, n_shl1, n_shl, n_shr, nI_and, nI_or, nI_xor, b2i_z, b2i_o, m1_n, n_m1, m1_lt, m1_le, n_lm1, n_em1, nI_m1, and1, and3, and7, and15, and63, and255, Bool.true_eq_false, Bool.false_eq_true, reduceCtorEq, Nat.reduceAdd, Nat.reduceMul, Nat.reduceSub, Nat.reduceDiv, Nat.reduceMod, Nat.reducePow, Nat.zero_add, Nat.one_mul, c_isKN, h1, c_hasWord, g1, h2, c_hasPlace, g0, h3, c_isDrN, h4]
          exact no hx
        · rw [h1, h2, h3, h4, if_pos (by decide)] at hx
          simp (disch := first | omega | exact c1_int _ | exact c1_none | exact c1_ref _ | exact isRf_ref _ | assumption | exact okRb _ | exact okN1 | exact okN0 | exact rfl) only [N_X10_goes_0, N_X10_goes_1, N_X10_goes_4, N_X10_goes_7, N_X10_goes_8, N_X10_goes_11, N_X10_goes_12, N_X10_goes_15, N_X10_goes_18, N_X10_goes_19, N_X10_goes_22, N_X10_goes_23, N_X10_goes_26, N_X10_goes_29, N_X10_goes_31, N_X10_goes_34, N_X10_goes_37, N_X10_goes_38, N_X10_goes_39, N_X10_goes_40, N_X10_goes_43, N_X10_goes_44, N_X10_goes_45, N_X10_goes_46, N_X10_goes_48, N_X10_goes_51, if_true, if_false, ite_true, ite_false, not_false_eq_true, not_true_eq_false, isRf_ref, isRf_null, c1_int, c1_ref, c1_null, c1_none, rfv_some, rfv_none, Ok_s, tl_some, tl_none, List.nil_append, b2i_n1, b2i_n0, ↓reduceIte, nI_add, pk_mul, pk_sub, n_leT, n_leF, n_ltT, n_ltF, n_eqT, n_eqF, n_shl1, n_shl, n_shr, nI_and, nI_or, nI_xor, b2i_z, b2i_o, m1_n, n_m1, m1_lt, m1_le, n_lm1, n_em1, nI_m1, and1, and3, and7, and15, and63, and255, Bool.true_eq_false, Bool.false_eq_true, reduceCtorEq, Nat.reduceAdd, Nat.reduceMul, Nat.reduceSub, Nat.reduceDiv, Nat.reduceMod, Nat.reducePow, Nat.zero_add, Nat.one_mul, c_isKN, h1, c_hasWord, g1, h2, c_hasPlace, g0, h3, c_isDrN, h4]
          obtain ⟨k, hk, rfl⟩ := inN_t (by decide) h1
          obtain ⟨wd, hw, rfl⟩ := inN_t (by omega) h2
          obtain ⟨p, hp, rfl⟩ := inN_t (by omega) h3
          obtain ⟨e, he, rfl⟩ := inN_t (by decide) h4
          rw [n_cl (by omega), n_cl (by omega), n_cl (by omega), n_cl (by omega)] at hx
          refine Ok.mono (c_step (d := d + 4) hM.1 hA hM.2.2.1 hk hw hp he) ?_
          rintro _ ⟨I', L', rfl, hf⟩
          obtain ⟨hC, hF⟩ := h.kp (hM.f hf) (hM.kf hf)
          simp (disch := first | omega | exact c1_int _ | exact c1_none | exact c1_ref _ | exact isRf_ref _ | assumption | exact okRb _ | exact okN1 | exact okN0 | exact rfl) only [N_X10_goes_0, N_X10_goes_1, N_X10_goes_4, N_X10_goes_7, N_X10_goes_8, N_X10_goes_11, N_X10_goes_12, N_X10_goes_15, N_X10_goes_18, N_X10_goes_19, N_X10_goes_22, N_X10_goes_23, N_X10_goes_26, N_X10_goes_29, N_X10_goes_31, N_X10_goes_34, N_X10_goes_37, N_X10_goes_38, N_X10_goes_39, N_X10_goes_40, N_X10_goes_43, N_X10_goes_44, N_X10_goes_45, N_X10_goes_46, N_X10_goes_48, N_X10_goes_51, if_true, if_false, ite_true, ite_false, not_false_eq_true, not_true_eq_false, isRf_ref, isRf_null, c1_int, c1_ref, c1_null, c1_none, rfv_some, rfv_none, Ok_s, tl_some, tl_none, List.nil_append, b2i_n1, b2i_n0, ↓reduceIte, nI_add, pk_mul, pk_sub, n_leT, n_leF, n_ltT, n_ltF, n_eqT, n_eqF, n_shl1, n_shl, n_shr, nI_and, nI_or, nI_xor, b2i_z, b2i_o, m1_n, n_m1, m1_lt, m1_le, n_lm1, n_em1, nI_m1, and1, and3, and7, and15, and63, and255, Bool.true_eq_false, Bool.false_eq_true, reduceCtorEq, Nat.reduceAdd, Nat.reduceMul, Nat.reduceSub, Nat.reduceDiv, Nat.reduceMod, Nat.reducePow, Nat.zero_add, Nat.one_mul]
          exact ⟨D, I', L', by rw [hx], ⟨ow, ky, ln, hC.up⟩, hF⟩
theorem C_barred {wv ev : Int32} {x : Int32} (hx : x = aBarred (sa A) wv ev) (h : CI D I A nn) : CCall xs Ln (d + 8) 100 [.ref 0, .int wv, .int ev] D I L A nn x := by
  obtain ⟨ow, ky, ln, h⟩ := h
  have hM := h.2.2.2.1
  have hA := hM.2.1
  have g1 : I 1 1 = nI (sa A 4321) := hM.1.m.2.1
  have hW := hA.2.1
  refine semG (lo := [some (.ref 0), some (.int wv), some (.int ev)]) rfl rfl (Nat.le_of_ble_eq_true rfl) rfl (show G_X10_barred xs Ln _ 0 [some (.ref 0), some (.int wv), some (.int ev)] [] _ _ from ?_)
  unfold aBarred at hx
  have no : x = m1 → ∃ D' I' L', ((mkW D I L, some (.int m1)) : Res) = (mkW D' I' L', some (.int x)) ∧ CI D' I' A (nn + 1) ∧ CFr I I' := fun e => ⟨D, I, L, by rw [e], ⟨ow, ky, ln, h.up⟩, CFr.rf I⟩
  cases h2 : inN wv (nI (sa A 4321))
  · rw [h2, Bool.false_and, if_neg (by decide)] at hx
    simp (disch := first | omega | exact c1_int _ | exact c1_none | exact c1_ref _ | exact isRf_ref _ | assumption | exact okRb _ | exact okN1 | exact okN0 | exact rfl) only [N_X10_barred_0, N_X10_barred_1, N_X10_barred_4, N_X10_barred_5, N_X10_barred_8, N_X10_barred_11, N_X10_barred_12, N_X10_barred_15, N_X10_barred_18, N_X10_barred_19, N_X10_barred_20, N_X10_barred_21, N_X10_barred_24, N_X10_barred_25, N_X10_barred_26, N_X10_barred_29, N_X10_barred_32, N_X10_barred_33, N_X10_barred_36, N_X10_barred_37, if_true, if_false, ite_true, ite_false, not_false_eq_true, not_true_eq_false, isRf_ref, isRf_null, c1_int, c1_ref, c1_null, c1_none, rfv_some, rfv_none, Ok_s, tl_some, tl_none, List.nil_append, b2i_n1, b2i_n0, ↓reduceIte, nI_add, pk_mul, pk_sub, n_leT, n_leF, n_ltT, n_ltF, n_eqT, n_eqF, n_shl1, n_shl, n_shr, nI_and, nI_or, nI_xor, b2i_z, b2i_o, m1_n, n_m1, m1_lt, m1_le, n_lm1, n_em1, nI_m1, and1, and3, and7, and15, and63, and255, Bool.true_eq_false, Bool.false_eq_true, reduceCtorEq, Nat.reduceAdd, Nat.reduceMul, Nat.reduceSub, Nat.reduceDiv, Nat.reduceMod, Nat.reducePow, Nat.zero_add, Nat.one_mul, c_hasWord, g1, h2]
    exact no hx
  · cases h4 : inN ev (nI 8)
    · rw [h4, Bool.and_false, if_neg (by decide)] at hx
      simp (disch := first | omega | exact c1_int _ | exact c1_none | exact c1_ref _ | exact isRf_ref _ | assumption | exact okRb _ | exact okN1 | exact okN0 | exact rfl) only [N_X10_barred_0, N_X10_barred_1, N_X10_barred_4, N_X10_barred_5, N_X10_barred_8, N_X10_barred_11, N_X10_barred_12, N_X10_barred_15, N_X10_barred_18, N_X10_barred_19, N_X10_barred_20, N_X10_barred_21, N_X10_barred_24, N_X10_barred_25, N_X10_barred_26, N_X10_barred_29, N_X10_barred_32, N_X10_barred_33, N_X10_barred_36, N_X10_barred_37, if_true, if_false, ite_true, ite_false, not_false_eq_true, not_true_eq_false, isRf_ref, isRf_null, c1_int, c1_ref, c1_null, c1_none, rfv_some, rfv_none, Ok_s, tl_some, tl_none, List.nil_append, b2i_n1, b2i_n0, ↓reduceIte, nI_add, pk_mul, pk_sub, n_leT, n_leF, n_ltT, n_ltF, n_eqT, n_eqF, n_shl1, n_shl, n_shr, nI_and, nI_or, nI_xor, b2i_z, b2i_o, m1_n, n_m1, m1_lt, m1_le, n_lm1, n_em1, nI_m1, and1, and3, and7, and15, and63, and255, Bool.true_eq_false, Bool.false_eq_true, reduceCtorEq, Nat.reduceAdd, Nat.reduceMul, Nat.reduceSub, Nat.reduceDiv, Nat.reduceMod, Nat.reducePow, Nat.zero_add, Nat.one_mul, c_hasWord, g1, h2, c_isDrN, h4]
      exact no hx
    · rw [h2, h4, if_pos (by decide)] at hx
      simp (disch := first | omega | exact c1_int _ | exact c1_none | exact c1_ref _ | exact isRf_ref _ | assumption | exact okRb _ | exact okN1 | exact okN0 | exact rfl) only [N_X10_barred_0, N_X10_barred_1, N_X10_barred_4, N_X10_barred_5, N_X10_barred_8, N_X10_barred_11, N_X10_barred_12, N_X10_barred_15, N_X10_barred_18, N_X10_barred_19, N_X10_barred_20, N_X10_barred_21, N_X10_barred_24, N_X10_barred_25, N_X10_barred_26, N_X10_barred_29, N_X10_barred_32, N_X10_barred_33, N_X10_barred_36, N_X10_barred_37, if_true, if_false, ite_true, ite_false, not_false_eq_true, not_true_eq_false, isRf_ref, isRf_null, c1_int, c1_ref, c1_null, c1_none, rfv_some, rfv_none, Ok_s, tl_some, tl_none, List.nil_append, b2i_n1, b2i_n0, ↓reduceIte, nI_add, pk_mul, pk_sub, n_leT, n_leF, n_ltT, n_ltF, n_eqT, n_eqF, n_shl1, n_shl, n_shr, nI_and, nI_or, nI_xor, b2i_z, b2i_o, m1_n, n_m1, m1_lt, m1_le, n_lm1, n_em1, nI_m1, and1, and3, and7, and15, and63, and255, Bool.true_eq_false, Bool.false_eq_true, reduceCtorEq, Nat.reduceAdd, Nat.reduceMul, Nat.reduceSub, Nat.reduceDiv, Nat.reduceMod, Nat.reducePow, Nat.zero_add, Nat.one_mul, c_hasWord, g1, h2, c_isDrN, h4]
      obtain ⟨wd, hw, rfl⟩ := inN_t (by omega) h2
      obtain ⟨e, he, rfl⟩ := inN_t (by decide) h4
      rw [n_cl (by omega), n_cl (by omega)] at hx
      refine Ok.mono (c_forbids (d := d + 4) hM.1 hA hM.2.2.1 hw he) ?_
      rintro _ ⟨I', L', rfl, hf⟩
      obtain ⟨hC, hF⟩ := h.kp (hM.f hf) (hM.kf hf)
      cases hb : brA (sa A) wd e
      · rw [hb] at hx
        simp (disch := first | omega | exact c1_int _ | exact c1_none | exact c1_ref _ | exact isRf_ref _ | assumption | exact okRb _ | exact okN1 | exact okN0 | exact rfl) only [N_X10_barred_0, N_X10_barred_1, N_X10_barred_4, N_X10_barred_5, N_X10_barred_8, N_X10_barred_11, N_X10_barred_12, N_X10_barred_15, N_X10_barred_18, N_X10_barred_19, N_X10_barred_20, N_X10_barred_21, N_X10_barred_24, N_X10_barred_25, N_X10_barred_26, N_X10_barred_29, N_X10_barred_32, N_X10_barred_33, N_X10_barred_36, N_X10_barred_37, if_true, if_false, ite_true, ite_false, not_false_eq_true, not_true_eq_false, isRf_ref, isRf_null, c1_int, c1_ref, c1_null, c1_none, rfv_some, rfv_none, Ok_s, tl_some, tl_none, List.nil_append, b2i_n1, b2i_n0, ↓reduceIte, nI_add, pk_mul, pk_sub, n_leT, n_leF, n_ltT, n_ltF, n_eqT, n_eqF, n_shl1, n_shl, n_shr, nI_and, nI_or, nI_xor, b2i_z, b2i_o, m1_n, n_m1, m1_lt, m1_le, n_lm1, n_em1, nI_m1, and1, and3, and7, and15, and63, and255, Bool.true_eq_false, Bool.false_eq_true, reduceCtorEq, Nat.reduceAdd, Nat.reduceMul, Nat.reduceSub, Nat.reduceDiv, Nat.reduceMod, Nat.reducePow, Nat.zero_add, Nat.one_mul]
        exact ⟨D, I', L', by rw [hx]; rfl, ⟨ow, ky, ln, hC.up⟩, hF⟩
      · rw [hb] at hx
        simp (disch := first | omega | exact c1_int _ | exact c1_none | exact c1_ref _ | exact isRf_ref _ | assumption | exact okRb _ | exact okN1 | exact okN0 | exact rfl) only [N_X10_barred_0, N_X10_barred_1, N_X10_barred_4, N_X10_barred_5, N_X10_barred_8, N_X10_barred_11, N_X10_barred_12, N_X10_barred_15, N_X10_barred_18, N_X10_barred_19, N_X10_barred_20, N_X10_barred_21, N_X10_barred_24, N_X10_barred_25, N_X10_barred_26, N_X10_barred_29, N_X10_barred_32, N_X10_barred_33, N_X10_barred_36, N_X10_barred_37, if_true, if_false, ite_true, ite_false, not_false_eq_true, not_true_eq_false, isRf_ref, isRf_null, c1_int, c1_ref, c1_null, c1_none, rfv_some, rfv_none, Ok_s, tl_some, tl_none, List.nil_append, b2i_n1, b2i_n0, ↓reduceIte, nI_add, pk_mul, pk_sub, n_leT, n_leF, n_ltT, n_ltF, n_eqT, n_eqF, n_shl1, n_shl, n_shr, nI_and, nI_or, nI_xor, b2i_z, b2i_o, m1_n, n_m1, m1_lt, m1_le, n_lm1, n_em1, nI_m1, and1, and3, and7, and15, and63, and255, Bool.true_eq_false, Bool.false_eq_true, reduceCtorEq, Nat.reduceAdd, Nat.reduceMul, Nat.reduceSub, Nat.reduceDiv, Nat.reduceMod, Nat.reducePow, Nat.zero_add, Nat.one_mul]
        exact ⟨D, I', L', by rw [hx]; rfl, ⟨ow, ky, ln, hC.up⟩, hF⟩
theorem run_vs {m st : Nat} (hA : AW a) (hm1 : 1 ≤ m) (hm : m ≤ 3) (hv : vSt a m st) : ∀ k s, runA a m st k = some s → vSt a m s
  | 0, s, h => by cases h; exact hv
  | k + 1, s, h => by
    unfold runA at h
    split at h
    · cases h
    · rename_i s' hs'
      exact (beh_v hA hm1 hm (run_vs hA hm1 hm hv k s' hs') h).1
theorem run_n {m st : Nat} : ∀ k j, runA a m st k = none → runA a m st (k + j) = none
  | k, 0, h => h
  | k, j + 1, h => by
    rw [← Nat.add_assoc]
    show (match runA a m st (k + j) with
      | none => none
      | some s => behA a m s (a (164 + (k + j)))) = none
    rw [run_n k j h]
theorem c_standAft {m st N : Nat} (h : CIx ow ky ln D I A nn) (hm1 : 1 ≤ m) (hm : m ≤ 3) (hv : vSt (sa A) m st) (hN : N ≤ sa A 4323) : Ok (callD xs Ln (d + 7) 147 [.ref 0, .int (nI m), .int (nI st), .int (nI N)] (mkW D I L)) (fun r => ∃ I' L', r = (mkW D I' L', some (.int (nO (runA (sa A) m st N)))) ∧ CIx ow ky ln D I' A nn ∧ (∀ k, (k < 24 ∨ 28 < k) → I' k = I k)) := by
  have hM := h.2.2.2.1
  have hA := hM.2.1
  have h60 := hA.2.2.2.1
  have g5 : I 1 5 = nI (sa A 4323) := hM.1.m.2.2.2.2.2.1
  refine semG (lo := [some (.ref 0), some (.int (nI m)), some (.int (nI st)), some (.int (nI N)), none, none]) rfl rfl (Nat.le_of_ble_eq_true rfl) rfl (show G_X10_standAfter xs Ln _ 0 [some (.ref 0), some (.int (nI m)), some (.int (nI st)), some (.int (nI N)), none, none] [] _ _ from ?_)
  simp (disch := first | omega | exact c1_int _ | exact c1_none | exact c1_ref _ | exact isRf_ref _ | assumption | exact okRb _ | exact okN1 | exact okN0 | exact rfl) only [N_X10_standAfter_0, N_X10_standAfter_1, N_X10_standAfter_4, N_X10_standAfter_5, N_X10_standAfter_6, N_X10_standAfter_9, N_X10_standAfter_12, N_X10_standAfter_15, N_X10_standAfter_16, N_X10_standAfter_17, N_X10_standAfter_18, N_X10_standAfter_20, N_X10_standAfter_21, N_X10_standAfter_25, N_X10_standAfter_26, N_X10_standAfter_29, N_X10_standAfter_31, N_X10_standAfter_32, N_X10_standAfter_35, N_X10_standAfter_36, N_X10_standAfter_37, N_X10_standAfter_39, N_X10_standAfter_40, N_X10_standAfter_43, N_X10_standAfter_46, N_X10_standAfter_48, N_X10_standAfter_49, N_X10_standAfter_52, N_X10_standAfter_54, N_X10_standAfter_57, N_X10_standAfter_60, N_X10_standAfter_62, if_true, if_false, ite_true, ite_false, not_false_eq_true, not_true_eq_false, isRf_ref, isRf_null, c1_int, c1_ref, c1_null, c1_none, rfv_some, rfv_none, Ok_s, tl_some, tl_none, List.nil_append, b2i_n1, b2i_n0, ↓reduceIte, nI_add, pk_mul, pk_sub, n_leT, n_leF, n_ltT, n_ltF, n_eqT, n_eqF, n_shl1, n_shl, n_shr, nI_and, nI_or, nI_xor, b2i_z, b2i_o, m1_n, n_m1, m1_lt, m1_le, n_lm1, n_em1, nI_m1, and1, and3, and7, and15, and63, and255, Bool.true_eq_false, Bool.false_eq_true, reduceCtorEq, Nat.reduceAdd, Nat.reduceMul, Nat.reduceSub, Nat.reduceDiv, Nat.reduceMod, Nat.reducePow, Nat.zero_add, Nat.one_mul, g5]
  refine Lp (n := N) (σ := Hp) (E := fun i J => ∀ s, runA (sa A) m st i = some s → G_X10_standAfter xs Ln (d + 6) 23 [some (.ref 0), some (.int (nI m)), some (.int (nI st)), some (.int (nI N)), some (.int (nI s)), some (.int (nI i))] [] (mkW D J.1 J.2) _) (Inv := fun i J => CIx ow ky ln D J.1 A nn ∧ (∀ k, (k < 24 ∨ 28 < k) → J.1 k = I k)) ?_ ?_ 0 (I, L) (by omega) ⟨h, fun _ _ => rfl⟩ st rfl
  · rintro ⟨J, K⟩ ⟨j1, j2⟩ s hs
    rw [N_X10_standAfter_23]
    simp (disch := first | omega | exact c1_int _ | exact c1_none | exact c1_ref _ | exact isRf_ref _ | assumption | exact okRb _ | exact okN1 | exact okN0 | exact rfl) only [N_X10_standAfter_0, N_X10_standAfter_1, N_X10_standAfter_4, N_X10_standAfter_5, N_X10_standAfter_6, N_X10_standAfter_9, N_X10_standAfter_12, N_X10_standAfter_15, N_X10_standAfter_16, N_X10_standAfter_17, N_X10_standAfter_18, N_X10_standAfter_20, N_X10_standAfter_21, N_X10_standAfter_25, N_X10_standAfter_26, N_X10_standAfter_29, N_X10_standAfter_31, N_X10_standAfter_32, N_X10_standAfter_35, N_X10_standAfter_36, N_X10_standAfter_37, N_X10_standAfter_39, N_X10_standAfter_40, N_X10_standAfter_43, N_X10_standAfter_46, N_X10_standAfter_48, N_X10_standAfter_49, N_X10_standAfter_52, N_X10_standAfter_54, N_X10_standAfter_57, N_X10_standAfter_60, N_X10_standAfter_62, if_true, if_false, ite_true, ite_false, not_false_eq_true, not_true_eq_false, isRf_ref, isRf_null, c1_int, c1_ref, c1_null, c1_none, rfv_some, rfv_none, Ok_s, tl_some, tl_none, List.nil_append, b2i_n1, b2i_n0, ↓reduceIte, nI_add, pk_mul, pk_sub, n_leT, n_leF, n_ltT, n_ltF, n_eqT, n_eqF, n_shl1, n_shl, n_shr, nI_and, nI_or, nI_xor, b2i_z, b2i_o, m1_n, n_m1, m1_lt, m1_le, n_lm1, n_em1, nI_m1, and1, and3, and7, and15, and63, and255, Bool.true_eq_false, Bool.false_eq_true, reduceCtorEq, Nat.reduceAdd, Nat.reduceMul, Nat.reduceSub, Nat.reduceDiv, Nat.reduceMod, Nat.reducePow, Nat.zero_add, Nat.one_mul]
    exact ⟨J, K, by rw [hs]; rfl, j1, j2⟩
  · rintro i ⟨J, K⟩ hi ⟨j1, j2⟩ ih s hs
    dsimp only at j1 j2 ⊢
    have hMJ := j1.2.2.2.1
    have hvs := run_vs hA hm1 hm hv i s hs
    have hs32 := hvs.1
    have hwi := hA.2.2.2.2.2.2.2.2.2.2.2.2.2.1 i (by omega)
    have g7 : J 7 i = nI (sa A (164 + i)) := hMJ.1.m.2.2.2.2.2.2.2.2.2.2.2.1 i (by omega)
    have hrs : runA (sa A) m st (i + 1) = behA (sa A) m s (sa A (164 + i)) := by
      show (match runA (sa A) m st i with
        | none => none
        | some s => behA (sa A) m s (sa A (164 + i))) = _
      rw [hs]
    rw [N_X10_standAfter_23]
    simp (disch := first | omega | exact c1_int _ | exact c1_none | exact c1_ref _ | exact isRf_ref _ | assumption | exact okRb _ | exact okN1 | exact okN0 | exact rfl) only [N_X10_standAfter_0, N_X10_standAfter_1, N_X10_standAfter_4, N_X10_standAfter_5, N_X10_standAfter_6, N_X10_standAfter_9, N_X10_standAfter_12, N_X10_standAfter_15, N_X10_standAfter_16, N_X10_standAfter_17, N_X10_standAfter_18, N_X10_standAfter_20, N_X10_standAfter_21, N_X10_standAfter_25, N_X10_standAfter_26, N_X10_standAfter_29, N_X10_standAfter_31, N_X10_standAfter_32, N_X10_standAfter_35, N_X10_standAfter_36, N_X10_standAfter_37, N_X10_standAfter_39, N_X10_standAfter_40, N_X10_standAfter_43, N_X10_standAfter_46, N_X10_standAfter_48, N_X10_standAfter_49, N_X10_standAfter_52, N_X10_standAfter_54, N_X10_standAfter_57, N_X10_standAfter_60, N_X10_standAfter_62, if_true, if_false, ite_true, ite_false, not_false_eq_true, not_true_eq_false, isRf_ref, isRf_null, c1_int, c1_ref, c1_null, c1_none, rfv_some, rfv_none, Ok_s, tl_some, tl_none, List.nil_append, b2i_n1, b2i_n0, ↓reduceIte, nI_add, pk_mul, pk_sub, n_leT, n_leF, n_ltT, n_ltF, n_eqT, n_eqF, n_shl1, n_shl, n_shr, nI_and, nI_or, nI_xor, b2i_z, b2i_o, m1_n, n_m1, m1_lt, m1_le, n_lm1, n_em1, nI_m1, and1, and3, and7, and15, and63, and255, Bool.true_eq_false, Bool.false_eq_true, reduceCtorEq, Nat.reduceAdd, Nat.reduceMul, Nat.reduceSub, Nat.reduceDiv, Nat.reduceMod, Nat.reducePow, Nat.zero_add, Nat.one_mul, g7]
    refine Ok.mono (c_hearAt (d := d) hMJ hm1 hm hvs hwi) ?_
    rintro _ ⟨J2, K2, rfl, hM2, hK2⟩
    obtain ⟨hC2, -⟩ := j1.kp hM2 hK2
    have hfr : ∀ k, (k < 24 ∨ 28 < k) → J2 k = I k := fun k hk => by rw [hK2.1 k hk]; exact j2 k hk
    simp (disch := first | omega | exact c1_int _ | exact c1_none | exact c1_ref _ | exact isRf_ref _ | assumption | exact okRb _ | exact okN1 | exact okN0 | exact rfl) only [N_X10_standAfter_0, N_X10_standAfter_1, N_X10_standAfter_4, N_X10_standAfter_5, N_X10_standAfter_6, N_X10_standAfter_9, N_X10_standAfter_12, N_X10_standAfter_15, N_X10_standAfter_16, N_X10_standAfter_17, N_X10_standAfter_18, N_X10_standAfter_20, N_X10_standAfter_21, N_X10_standAfter_25, N_X10_standAfter_26, N_X10_standAfter_29, N_X10_standAfter_31, N_X10_standAfter_32, N_X10_standAfter_35, N_X10_standAfter_36, N_X10_standAfter_37, N_X10_standAfter_39, N_X10_standAfter_40, N_X10_standAfter_43, N_X10_standAfter_46, N_X10_standAfter_48, N_X10_standAfter_49, N_X10_standAfter_52, N_X10_standAfter_54, N_X10_standAfter_57, N_X10_standAfter_60, N_X10_standAfter_62, if_true, if_false, ite_true, ite_false, not_false_eq_true, not_true_eq_false, isRf_ref, isRf_null, c1_int, c1_ref, c1_null, c1_none, rfv_some, rfv_none, Ok_s, tl_some, tl_none, List.nil_append, b2i_n1, b2i_n0, ↓reduceIte, nI_add, pk_mul, pk_sub, n_leT, n_leF, n_ltT, n_ltF, n_eqT, n_eqF, n_shl1, n_shl, n_shr, nI_and, nI_or, nI_xor, b2i_z, b2i_o, m1_n, n_m1, m1_lt, m1_le, n_lm1, n_em1, nI_m1, and1, and3, and7, and15, and63, and255, Bool.true_eq_false, Bool.false_eq_true, reduceCtorEq, Nat.reduceAdd, Nat.reduceMul, Nat.reduceSub, Nat.reduceDiv, Nat.reduceMod, Nat.reducePow, Nat.zero_add, Nat.one_mul]
    cases hb : behA (sa A) m s (sa A (164 + i)) with
    | none =>
      rw [hb] at hrs
      have hend : runA (sa A) m st N = none := by
        have := run_n (a := sa A) (m := m) (st := st) (i + 1) (N - (i + 1)) hrs
        rw [show i + 1 + (N - (i + 1)) = N by omega] at this
        exact this
      rw [nO_n, N_X10_standAfter_23]
      have em : (m1 = m1) = True := eq_true rfl
      by_cases hiN : i + 1 < N
      · simp (disch := first | omega | exact c1_int _ | exact c1_none | exact c1_ref _ | exact isRf_ref _ | assumption | exact okRb _ | exact okN1 | exact okN0 | exact rfl) only [N_X10_standAfter_0, N_X10_standAfter_1, N_X10_standAfter_4, N_X10_standAfter_5, N_X10_standAfter_6, N_X10_standAfter_9, N_X10_standAfter_12, N_X10_standAfter_15, N_X10_standAfter_16, N_X10_standAfter_17, N_X10_standAfter_18, N_X10_standAfter_20, N_X10_standAfter_21, N_X10_standAfter_25, N_X10_standAfter_26, N_X10_standAfter_29, N_X10_standAfter_31, N_X10_standAfter_32, N_X10_standAfter_35, N_X10_standAfter_36, N_X10_standAfter_37, N_X10_standAfter_39, N_X10_standAfter_40, N_X10_standAfter_43, N_X10_standAfter_46, N_X10_standAfter_48, N_X10_standAfter_49, N_X10_standAfter_52, N_X10_standAfter_54, N_X10_standAfter_57, N_X10_standAfter_60, N_X10_standAfter_62, if_true, if_false, ite_true, ite_false, not_false_eq_true, not_true_eq_false, isRf_ref, isRf_null, c1_int, c1_ref, c1_null, c1_none, rfv_some, rfv_none, Ok_s, tl_some, tl_none, List.nil_append, b2i_n1, b2i_n0, ↓reduceIte, nI_add, pk_mul, pk_sub, n_leT, n_leF, n_ltT, n_ltF, n_eqT, n_eqF, n_shl1, n_shl, n_shr, nI_and, nI_or, nI_xor, b2i_z, b2i_o, m1_n, n_m1, m1_lt, m1_le, n_lm1, n_em1, nI_m1, and1, and3, and7, and15, and63, and255, Bool.true_eq_false, Bool.false_eq_true, reduceCtorEq, Nat.reduceAdd, Nat.reduceMul, Nat.reduceSub, Nat.reduceDiv, Nat.reduceMod, Nat.reducePow, Nat.zero_add, Nat.one_mul, em]
        exact ⟨J2, K2, by rw [hend]; rfl, hC2, hfr⟩
      · simp (disch := first | omega | exact c1_int _ | exact c1_none | exact c1_ref _ | exact isRf_ref _ | assumption | exact okRb _ | exact okN1 | exact okN0 | exact rfl) only [N_X10_standAfter_0, N_X10_standAfter_1, N_X10_standAfter_4, N_X10_standAfter_5, N_X10_standAfter_6, N_X10_standAfter_9, N_X10_standAfter_12, N_X10_standAfter_15, N_X10_standAfter_16, N_X10_standAfter_17, N_X10_standAfter_18, N_X10_standAfter_20, N_X10_standAfter_21, N_X10_standAfter_25, N_X10_standAfter_26, N_X10_standAfter_29, N_X10_standAfter_31, N_X10_standAfter_32, N_X10_standAfter_35, N_X10_standAfter_36, N_X10_standAfter_37, N_X10_standAfter_39, N_X10_standAfter_40, N_X10_standAfter_43, N_X10_standAfter_46, N_X10_standAfter_48, N_X10_standAfter_49, N_X10_standAfter_52, N_X10_standAfter_54, N_X10_standAfter_57, N_X10_standAfter_60, N_X10_standAfter_62, if_true, if_false, ite_true, ite_false, not_false_eq_true, not_true_eq_false, isRf_ref, isRf_null, c1_int, c1_ref, c1_null, c1_none, rfv_some, rfv_none, Ok_s, tl_some, tl_none, List.nil_append, b2i_n1, b2i_n0, ↓reduceIte, nI_add, pk_mul, pk_sub, n_leT, n_leF, n_ltT, n_ltF, n_eqT, n_eqF, n_shl1, n_shl, n_shr, nI_and, nI_or, nI_xor, b2i_z, b2i_o, m1_n, n_m1, m1_lt, m1_le, n_lm1, n_em1, nI_m1, and1, and3, and7, and15, and63, and255, Bool.true_eq_false, Bool.false_eq_true, reduceCtorEq, Nat.reduceAdd, Nat.reduceMul, Nat.reduceSub, Nat.reduceDiv, Nat.reduceMod, Nat.reducePow, Nat.zero_add, Nat.one_mul]
        exact ⟨J2, K2, by rw [hend]; rfl, hC2, hfr⟩
    | some s' =>
      rw [hb] at hrs
      exact ih (J2, K2) ⟨hC2, hfr⟩ s' hrs
theorem c_standAftN {m st : Int32} {nv : Int32} (h : CIx ow ky ln D I A nn) (hn : inN nv (nI (sa A 4323 + 1)) = false) : callD xs Ln (d + 1) 147 [.ref 0, .int m, .int st, .int nv] (mkW D I L) = some (mkW D I L, some (.int m1)) := by
  have hM := h.2.2.2.1
  have h60 := hM.2.1.2.2.2.1
  have g5 : I 1 5 = nI (sa A 4323) := hM.1.m.2.2.2.2.2.1
  refine Ok.eq ?_
  refine semG (lo := [some (.ref 0), some (.int m), some (.int st), some (.int nv), none, none]) rfl rfl (Nat.le_of_ble_eq_true rfl) rfl (show G_X10_standAfter xs Ln _ 0 [some (.ref 0), some (.int m), some (.int st), some (.int nv), none, none] [] _ _ from ?_)
  by_cases c1 : nv < nI 0
  · simp (disch := first | omega | exact c1_int _ | exact c1_none | exact c1_ref _ | exact isRf_ref _ | assumption | exact okRb _ | exact okN1 | exact okN0 | exact rfl) only [N_X10_standAfter_0, N_X10_standAfter_1, N_X10_standAfter_4, N_X10_standAfter_5, N_X10_standAfter_6, N_X10_standAfter_9, N_X10_standAfter_12, N_X10_standAfter_15, N_X10_standAfter_16, N_X10_standAfter_17, N_X10_standAfter_18, N_X10_standAfter_20, N_X10_standAfter_21, N_X10_standAfter_25, N_X10_standAfter_26, N_X10_standAfter_29, N_X10_standAfter_31, N_X10_standAfter_32, N_X10_standAfter_35, N_X10_standAfter_36, N_X10_standAfter_37, N_X10_standAfter_39, N_X10_standAfter_40, N_X10_standAfter_43, N_X10_standAfter_46, N_X10_standAfter_48, N_X10_standAfter_49, N_X10_standAfter_52, N_X10_standAfter_54, N_X10_standAfter_57, N_X10_standAfter_60, N_X10_standAfter_62, if_true, if_false, ite_true, ite_false, not_false_eq_true, not_true_eq_false, isRf_ref, isRf_null, c1_int, c1_ref, c1_null, c1_none, rfv_some, rfv_none, Ok_s, tl_some, tl_none, List.nil_append, b2i_n1, b2i_n0, ↓reduceIte, c1]
  · have c2 : ¬ nv ≤ nI (sa A 4323) := by
      intro hle
      obtain ⟨j, hj, rfl⟩ := nI_of (show ¬ nv < 0 from c1)
      rw [n_le hj (by omega)] at hle
      rw [inN_nI hj (by omega), decide_eq_true (show j < sa A 4323 + 1 by omega)] at hn
      cases hn
    simp (disch := first | omega | exact c1_int _ | exact c1_none | exact c1_ref _ | exact isRf_ref _ | assumption | exact okRb _ | exact okN1 | exact okN0 | exact rfl) only [N_X10_standAfter_0, N_X10_standAfter_1, N_X10_standAfter_4, N_X10_standAfter_5, N_X10_standAfter_6, N_X10_standAfter_9, N_X10_standAfter_12, N_X10_standAfter_15, N_X10_standAfter_16, N_X10_standAfter_17, N_X10_standAfter_18, N_X10_standAfter_20, N_X10_standAfter_21, N_X10_standAfter_25, N_X10_standAfter_26, N_X10_standAfter_29, N_X10_standAfter_31, N_X10_standAfter_32, N_X10_standAfter_35, N_X10_standAfter_36, N_X10_standAfter_37, N_X10_standAfter_39, N_X10_standAfter_40, N_X10_standAfter_43, N_X10_standAfter_46, N_X10_standAfter_48, N_X10_standAfter_49, N_X10_standAfter_52, N_X10_standAfter_54, N_X10_standAfter_57, N_X10_standAfter_60, N_X10_standAfter_62, if_true, if_false, ite_true, ite_false, not_false_eq_true, not_true_eq_false, isRf_ref, isRf_null, c1_int, c1_ref, c1_null, c1_none, rfv_some, rfv_none, Ok_s, tl_some, tl_none, List.nil_append, b2i_n1, b2i_n0, ↓reduceIte, c1, g5, c2]
theorem C_after {mix set nv : Int32} {x : Int32} (hx : x = aAfter (sa A) mix set nv) (h : CI D I A nn) : CCall xs Ln (d + 8) 103 [.ref 0, .int mix, .int set, .int nv] D I L A nn x := by
  obtain ⟨ow, ky, ln, h⟩ := h
  have hM := h.2.2.2.1
  have hA := hM.2.1
  have h60 := hA.2.2.2.1
  refine semG (lo := [some (.ref 0), some (.int mix), some (.int set), some (.int nv), none]) rfl rfl (Nat.le_of_ble_eq_true rfl) rfl (show G_X10_after xs Ln _ 0 [some (.ref 0), some (.int mix), some (.int set), some (.int nv), none] [] _ _ from ?_)
  unfold aAfter at hx
  have no : x = m1 → ∃ D' I' L', ((mkW D I L, some (.int m1)) : Res) = (mkW D' I' L', some (.int x)) ∧ CI D' I' A (nn + 1) ∧ CFr I I' := fun e => ⟨D, I, L, by rw [e], ⟨ow, ky, ln, h.up⟩, CFr.rf I⟩
  have em : (m1 = m1) = True := eq_true rfl
  cases h1 : okSI (sa A 4320) mix set
  · rw [h1, Bool.false_and, if_neg (by decide)] at hx
    simp (disch := first | omega | exact c1_int _ | exact c1_none | exact c1_ref _ | exact isRf_ref _ | assumption | exact okRb _ | exact okN1 | exact okN0 | exact rfl) only [N_X10_after_0, N_X10_after_1, N_X10_after_2, N_X10_after_3, N_X10_after_6, N_X10_after_9, N_X10_after_10, N_X10_after_11, N_X10_after_12, N_X10_after_13, N_X10_after_14, N_X10_after_15, N_X10_after_18, N_X10_after_19, N_X10_after_22, N_X10_after_24, N_X10_after_26, N_X10_after_27, N_X10_after_30, N_X10_after_31, N_X10_after_34, N_X10_after_36, N_X10_after_38, N_X10_after_39, if_true, if_false, ite_true, ite_false, not_false_eq_true, not_true_eq_false, isRf_ref, isRf_null, c1_int, c1_ref, c1_null, c1_none, rfv_some, rfv_none, Ok_s, tl_some, tl_none, List.nil_append, b2i_n1, b2i_n0, ↓reduceIte, nI_add, pk_mul, pk_sub, n_leT, n_leF, n_ltT, n_ltF, n_eqT, n_eqF, n_shl1, n_shl, n_shr, nI_and, nI_or, nI_xor, b2i_z, b2i_o, m1_n, n_m1, m1_lt, m1_le, n_lm1, n_em1, nI_m1, and1, and3, and7, and15, and63, and255, Bool.true_eq_false, Bool.false_eq_true, reduceCtorEq, Nat.reduceAdd, Nat.reduceMul, Nat.reduceSub, Nat.reduceDiv, Nat.reduceMod, Nat.reducePow, Nat.zero_add, Nat.one_mul, c_isSetOf hM.1 hA, h1]
    exact no hx
  · obtain ⟨m, s, hm1, hm, hs, rfl, rfl, hS⟩ := okSI_t h1
    cases h2 : inN nv (nI (sa A 4323 + 1))
    · rw [h2, Bool.and_false, if_neg (by decide)] at hx
      simp (disch := first | omega | exact c1_int _ | exact c1_none | exact c1_ref _ | exact isRf_ref _ | assumption | exact okRb _ | exact okN1 | exact okN0 | exact rfl) only [N_X10_after_0, N_X10_after_1, N_X10_after_2, N_X10_after_3, N_X10_after_6, N_X10_after_9, N_X10_after_10, N_X10_after_11, N_X10_after_12, N_X10_after_13, N_X10_after_14, N_X10_after_15, N_X10_after_18, N_X10_after_19, N_X10_after_22, N_X10_after_24, N_X10_after_26, N_X10_after_27, N_X10_after_30, N_X10_after_31, N_X10_after_34, N_X10_after_36, N_X10_after_38, N_X10_after_39, if_true, if_false, ite_true, ite_false, not_false_eq_true, not_true_eq_false, isRf_ref, isRf_null, c1_int, c1_ref, c1_null, c1_none, rfv_some, rfv_none, Ok_s, tl_some, tl_none, List.nil_append, b2i_n1, b2i_n0, ↓reduceIte, nI_add, pk_mul, pk_sub, n_leT, n_leF, n_ltT, n_ltF, n_eqT, n_eqF, n_shl1, n_shl, n_shr, nI_and, nI_or, nI_xor, b2i_z, b2i_o, m1_n, n_m1, m1_lt, m1_le, n_lm1, n_em1, nI_m1, and1, and3, and7, and15, and63, and255, Bool.true_eq_false, Bool.false_eq_true, reduceCtorEq, Nat.reduceAdd, Nat.reduceMul, Nat.reduceSub, Nat.reduceDiv, Nat.reduceMod, Nat.reducePow, Nat.zero_add, Nat.one_mul, c_isSetOf hM.1 hA, h1, c_standOfN hM.1, c_standAftN h h2, em]
      exact no hx
    · obtain ⟨N, hN, rfl⟩ := inN_t (by omega) h2
      rw [h1, h2, if_pos (by decide), n_cl (by omega), n_cl (by omega), n_cl (by omega)] at hx
      simp (disch := first | omega | exact c1_int _ | exact c1_none | exact c1_ref _ | exact isRf_ref _ | assumption | exact okRb _ | exact okN1 | exact okN0 | exact rfl) only [N_X10_after_0, N_X10_after_1, N_X10_after_2, N_X10_after_3, N_X10_after_6, N_X10_after_9, N_X10_after_10, N_X10_after_11, N_X10_after_12, N_X10_after_13, N_X10_after_14, N_X10_after_15, N_X10_after_18, N_X10_after_19, N_X10_after_22, N_X10_after_24, N_X10_after_26, N_X10_after_27, N_X10_after_30, N_X10_after_31, N_X10_after_34, N_X10_after_36, N_X10_after_38, N_X10_after_39, if_true, if_false, ite_true, ite_false, not_false_eq_true, not_true_eq_false, isRf_ref, isRf_null, c1_int, c1_ref, c1_null, c1_none, rfv_some, rfv_none, Ok_s, tl_some, tl_none, List.nil_append, b2i_n1, b2i_n0, ↓reduceIte, nI_add, pk_mul, pk_sub, n_leT, n_leF, n_ltT, n_ltF, n_eqT, n_eqF, n_shl1, n_shl, n_shr, nI_and, nI_or, nI_xor, b2i_z, b2i_o, m1_n, n_m1, m1_lt, m1_le, n_lm1, n_em1, nI_m1, and1, and3, and7, and15, and63, and255, Bool.true_eq_false, Bool.false_eq_true, reduceCtorEq, Nat.reduceAdd, Nat.reduceMul, Nat.reduceSub, Nat.reduceDiv, Nat.reduceMod, Nat.reducePow, Nat.zero_add, Nat.one_mul, c_isSetOf hM.1 hA, h1, c_standOfN hM.1]
      have hvs := vS_of hA hs hS
      refine Ok.mono (c_standAft (d := d) h hm1 hm hvs (show N ≤ sa A 4323 by omega)) ?_
      rintro _ ⟨I', L', rfl, hC, hfr⟩
      have hF : CFr I I' := fun k k1 k2 => hfr k (by omega)
      cases hr : runA (sa A) m (8 * s + sa A 4327) N with
      | none =>
        rw [hr] at hx
        simp (disch := first | omega | exact c1_int _ | exact c1_none | exact c1_ref _ | exact isRf_ref _ | assumption | exact okRb _ | exact okN1 | exact okN0 | exact rfl) only [N_X10_after_0, N_X10_after_1, N_X10_after_2, N_X10_after_3, N_X10_after_6, N_X10_after_9, N_X10_after_10, N_X10_after_11, N_X10_after_12, N_X10_after_13, N_X10_after_14, N_X10_after_15, N_X10_after_18, N_X10_after_19, N_X10_after_22, N_X10_after_24, N_X10_after_26, N_X10_after_27, N_X10_after_30, N_X10_after_31, N_X10_after_34, N_X10_after_36, N_X10_after_38, N_X10_after_39, if_true, if_false, ite_true, ite_false, not_false_eq_true, not_true_eq_false, isRf_ref, isRf_null, c1_int, c1_ref, c1_null, c1_none, rfv_some, rfv_none, Ok_s, tl_some, tl_none, List.nil_append, b2i_n1, b2i_n0, ↓reduceIte, nI_add, pk_mul, pk_sub, n_leT, n_leF, n_ltT, n_ltF, n_eqT, n_eqF, n_shl1, n_shl, n_shr, nI_and, nI_or, nI_xor, b2i_z, b2i_o, m1_n, n_m1, m1_lt, m1_le, n_lm1, n_em1, nI_m1, and1, and3, and7, and15, and63, and255, Bool.true_eq_false, Bool.false_eq_true, reduceCtorEq, Nat.reduceAdd, Nat.reduceMul, Nat.reduceSub, Nat.reduceDiv, Nat.reduceMod, Nat.reducePow, Nat.zero_add, Nat.one_mul, nO_n, em]
        exact ⟨D, I', L', by rw [hx]; rfl, ⟨ow, ky, ln, hC.up⟩, hF⟩
      | some t =>
        have ht := (run_vs hA hm1 hm hvs N t hr).1
        rw [hr] at hx
        simp (disch := first | omega | exact c1_int _ | exact c1_none | exact c1_ref _ | exact isRf_ref _ | assumption | exact okRb _ | exact okN1 | exact okN0 | exact rfl) only [N_X10_after_0, N_X10_after_1, N_X10_after_2, N_X10_after_3, N_X10_after_6, N_X10_after_9, N_X10_after_10, N_X10_after_11, N_X10_after_12, N_X10_after_13, N_X10_after_14, N_X10_after_15, N_X10_after_18, N_X10_after_19, N_X10_after_22, N_X10_after_24, N_X10_after_26, N_X10_after_27, N_X10_after_30, N_X10_after_31, N_X10_after_34, N_X10_after_36, N_X10_after_38, N_X10_after_39, if_true, if_false, ite_true, ite_false, not_false_eq_true, not_true_eq_false, isRf_ref, isRf_null, c1_int, c1_ref, c1_null, c1_none, rfv_some, rfv_none, Ok_s, tl_some, tl_none, List.nil_append, b2i_n1, b2i_n0, ↓reduceIte, nI_add, pk_mul, pk_sub, n_leT, n_leF, n_ltT, n_ltF, n_eqT, n_eqF, n_shl1, n_shl, n_shr, nI_and, nI_or, nI_xor, b2i_z, b2i_o, m1_n, n_m1, m1_lt, m1_le, n_lm1, n_em1, nI_m1, and1, and3, and7, and15, and63, and255, Bool.true_eq_false, Bool.false_eq_true, reduceCtorEq, Nat.reduceAdd, Nat.reduceMul, Nat.reduceSub, Nat.reduceDiv, Nat.reduceMod, Nat.reducePow, Nat.zero_add, Nat.one_mul, nO_s]
        exact ⟨D, I', L', by rw [hx]; rfl, ⟨ow, ky, ln, hC.up⟩, hF⟩
theorem C_open {nv : Int32} {x : Int32} (hx : x = aOpen (sa A) nv) (h : CI D I A nn) : CCall xs Ln (d + 8) 104 [.ref 0, .int nv] D I L A nn x := by
  obtain ⟨ow, ky, ln, h⟩ := h
  have hM := h.2.2.2.1
  have hA := hM.2.1
  have h60 := hA.2.2.2.1
  refine semG (lo := [some (.ref 0), some (.int nv), none]) rfl rfl (Nat.le_of_ble_eq_true rfl) rfl (show G_X10_open xs Ln _ 0 [some (.ref 0), some (.int nv), none] [] _ _ from ?_)
  unfold aOpen at hx
  have em : (m1 = m1) = True := eq_true rfl
  have e0 : 8 * 0 + sa A 4327 = sa A 4327 := by omega
  cases h2 : inN nv (nI (sa A 4323 + 1))
  · rw [h2, if_neg (by decide)] at hx
    simp (disch := first | omega | exact c1_int _ | exact c1_none | exact c1_ref _ | exact isRf_ref _ | assumption | exact okRb _ | exact okN1 | exact okN0 | exact rfl) only [N_X10_open_0, N_X10_open_1, N_X10_open_2, N_X10_open_3, N_X10_open_4, N_X10_open_7, N_X10_open_8, N_X10_open_11, N_X10_open_12, N_X10_open_13, N_X10_open_14, N_X10_open_17, N_X10_open_18, N_X10_open_21, N_X10_open_22, N_X10_open_24, N_X10_open_25, if_true, if_false, ite_true, ite_false, not_false_eq_true, not_true_eq_false, isRf_ref, isRf_null, c1_int, c1_ref, c1_null, c1_none, rfv_some, rfv_none, Ok_s, tl_some, tl_none, List.nil_append, b2i_n1, b2i_n0, ↓reduceIte, nI_add, pk_mul, pk_sub, n_leT, n_leF, n_ltT, n_ltF, n_eqT, n_eqF, n_shl1, n_shl, n_shr, nI_and, nI_or, nI_xor, b2i_z, b2i_o, m1_n, n_m1, m1_lt, m1_le, n_lm1, n_em1, nI_m1, and1, and3, and7, and15, and63, and255, Bool.true_eq_false, Bool.false_eq_true, reduceCtorEq, Nat.reduceAdd, Nat.reduceMul, Nat.reduceSub, Nat.reduceDiv, Nat.reduceMod, Nat.reducePow, Nat.zero_add, Nat.one_mul, c_standOfN hM.1, c_standAftN h h2, em]
    exact ⟨D, I, L, by rw [hx], ⟨ow, ky, ln, h.up⟩, CFr.rf I⟩
  · obtain ⟨N, hN, rfl⟩ := inN_t (by omega) h2
    rw [h2, if_pos rfl, n_cl (by omega)] at hx
    have hvs : vSt (sa A) 1 (8 * 0 + sa A 4327) := vS_of hA (by omega) (by unfold okS; rw [if_neg (by decide)]; exact decide_eq_true (Nat.two_pow_pos _))
    rw [e0] at hvs
    simp (disch := first | omega | exact c1_int _ | exact c1_none | exact c1_ref _ | exact isRf_ref _ | assumption | exact okRb _ | exact okN1 | exact okN0 | exact rfl) only [N_X10_open_0, N_X10_open_1, N_X10_open_2, N_X10_open_3, N_X10_open_4, N_X10_open_7, N_X10_open_8, N_X10_open_11, N_X10_open_12, N_X10_open_13, N_X10_open_14, N_X10_open_17, N_X10_open_18, N_X10_open_21, N_X10_open_22, N_X10_open_24, N_X10_open_25, if_true, if_false, ite_true, ite_false, not_false_eq_true, not_true_eq_false, isRf_ref, isRf_null, c1_int, c1_ref, c1_null, c1_none, rfv_some, rfv_none, Ok_s, tl_some, tl_none, List.nil_append, b2i_n1, b2i_n0, ↓reduceIte, nI_add, pk_mul, pk_sub, n_leT, n_leF, n_ltT, n_ltF, n_eqT, n_eqF, n_shl1, n_shl, n_shr, nI_and, nI_or, nI_xor, b2i_z, b2i_o, m1_n, n_m1, m1_lt, m1_le, n_lm1, n_em1, nI_m1, and1, and3, and7, and15, and63, and255, Bool.true_eq_false, Bool.false_eq_true, reduceCtorEq, Nat.reduceAdd, Nat.reduceMul, Nat.reduceSub, Nat.reduceDiv, Nat.reduceMod, Nat.reducePow, Nat.zero_add, Nat.one_mul, c_standOfN hM.1, e0]
    refine Ok.mono (c_standAft (d := d) (m := 1) h (by decide) (by decide) hvs (show N ≤ sa A 4323 by omega)) ?_
    rintro _ ⟨I', L', rfl, hC, hfr⟩
    have hF : CFr I I' := fun k k1 k2 => hfr k (by omega)
    cases hr : runA (sa A) 1 (sa A 4327) N with
    | none =>
      rw [hr] at hx
      simp (disch := first | omega | exact c1_int _ | exact c1_none | exact c1_ref _ | exact isRf_ref _ | assumption | exact okRb _ | exact okN1 | exact okN0 | exact rfl) only [N_X10_open_0, N_X10_open_1, N_X10_open_2, N_X10_open_3, N_X10_open_4, N_X10_open_7, N_X10_open_8, N_X10_open_11, N_X10_open_12, N_X10_open_13, N_X10_open_14, N_X10_open_17, N_X10_open_18, N_X10_open_21, N_X10_open_22, N_X10_open_24, N_X10_open_25, if_true, if_false, ite_true, ite_false, not_false_eq_true, not_true_eq_false, isRf_ref, isRf_null, c1_int, c1_ref, c1_null, c1_none, rfv_some, rfv_none, Ok_s, tl_some, tl_none, List.nil_append, b2i_n1, b2i_n0, ↓reduceIte, nI_add, pk_mul, pk_sub, n_leT, n_leF, n_ltT, n_ltF, n_eqT, n_eqF, n_shl1, n_shl, n_shr, nI_and, nI_or, nI_xor, b2i_z, b2i_o, m1_n, n_m1, m1_lt, m1_le, n_lm1, n_em1, nI_m1, and1, and3, and7, and15, and63, and255, Bool.true_eq_false, Bool.false_eq_true, reduceCtorEq, Nat.reduceAdd, Nat.reduceMul, Nat.reduceSub, Nat.reduceDiv, Nat.reduceMod, Nat.reducePow, Nat.zero_add, Nat.one_mul, nO_n, em]
      exact ⟨D, I', L', by rw [hx]; rfl, ⟨ow, ky, ln, hC.up⟩, hF⟩
    | some t =>
      have ht := (run_vs hA (by decide) (by decide) hvs N t hr).1
      rw [hr] at hx
      simp (disch := first | omega | exact c1_int _ | exact c1_none | exact c1_ref _ | exact isRf_ref _ | assumption | exact okRb _ | exact okN1 | exact okN0 | exact rfl) only [N_X10_open_0, N_X10_open_1, N_X10_open_2, N_X10_open_3, N_X10_open_4, N_X10_open_7, N_X10_open_8, N_X10_open_11, N_X10_open_12, N_X10_open_13, N_X10_open_14, N_X10_open_17, N_X10_open_18, N_X10_open_21, N_X10_open_22, N_X10_open_24, N_X10_open_25, if_true, if_false, ite_true, ite_false, not_false_eq_true, not_true_eq_false, isRf_ref, isRf_null, c1_int, c1_ref, c1_null, c1_none, rfv_some, rfv_none, Ok_s, tl_some, tl_none, List.nil_append, b2i_n1, b2i_n0, ↓reduceIte, nI_add, pk_mul, pk_sub, n_leT, n_leF, n_ltT, n_ltF, n_eqT, n_eqF, n_shl1, n_shl, n_shr, nI_and, nI_or, nI_xor, b2i_z, b2i_o, m1_n, n_m1, m1_lt, m1_le, n_lm1, n_em1, nI_m1, and1, and3, and7, and15, and63, and255, Bool.true_eq_false, Bool.false_eq_true, reduceCtorEq, Nat.reduceAdd, Nat.reduceMul, Nat.reduceSub, Nat.reduceDiv, Nat.reduceMod, Nat.reducePow, Nat.zero_add, Nat.one_mul, nO_s]
      exact ⟨D, I', L', by rw [hx]; rfl, ⟨ow, ky, ln, hC.up⟩, hF⟩
end Pd4
