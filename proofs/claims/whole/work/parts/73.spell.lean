section P73
variable {xs : Nat → Int32} {Ln d : Nat} {D : Dyn} {I : Nat → Nat → Int32} {L : Nat → Nat → Int64} {w : Om}
noncomputable def aSpell (a : Nat → Nat) (mix set to i : Int32) : Int32 := if (okSI (a 4320) mix set && okT a to) = true then (match fewN a mix.toNatClampNeg (tOf to) none (stA a set) with
  | none => m1
  | some b => if inN i (nI b) = true then nI (spw (behA a mix.toNatClampNeg) (golA mix.toNatClampNeg (tOf to)) b (stA a set) i.toNatClampNeg) else m1) else m1
noncomputable def aSpare (a : Nat → Nat) (mix set : Int32) : Int32 := if okSI (a 4320) mix set = true then (match fewN a mix.toNatClampNeg none none (stA a set) with
  | none => m1
  | some b => nO (lst (fun w => decide (fewN a mix.toNatClampNeg none (some w) (stA a set) = some b)) (a 4321))) else m1
theorem inR_neg {v x : Int32} (hx : x < 0) : inR v (nI 0) x = false := by
  unfold inR
  by_cases h : v < nI 0
  · rw [decide_eq_true h]; rfl
  · have : x < v := by
      have h0 : ¬ v < 0 := h
      obtain ⟨j, hj, rfl⟩ := nI_of h0
      apply Int32.lt_iff_toInt_lt.mpr
      have := Int32.lt_iff_toInt_lt.mp hx
      rw [show (0 : Int32).toInt = 0 by decide] at this
      rw [nI_toInt hj]
      omega
    rw [decide_eq_true this]
    simp
theorem r_liesM {v x : Int32} (hx : x < 0) : callD xs Ln (d + 1) 155 [.int v, .int (nI 0), .int x] w = some (w, some (.int (b2i false))) := by rw [c_lies, inR_neg hx]
theorem r_spell {a : Nat → Nat} {v : Nat} {mix set to i : Int32} (hK : RK I a) (hA : AW a) (hc : RIc I a v) : Ans xs Ln (d + 105) 232 [.ref 82, .int mix, .int set, .int to, .int i] D I L a v (aSpell a mix set to i) := by
  have h1 := hA.1
  have h8 := hA.2.2.2.2.2.2.2.1
  refine semG (lo := [some (.ref 82), some (.int mix), some (.int set), some (.int to), some (.int i)]) rfl rfl (Nat.le_of_ble_eq_true rfl) rfl (show G_X11_spell xs Ln _ 0 [some (.ref 82), some (.int mix), some (.int set), some (.int to), some (.int i)] [] _ _ from ?_)
  unfold aSpell
  have hto : callD xs Ln (d + 101 + 3) 229 [.ref 82, .int to] (mkW D I L) = some (mkW D I L, some (.int (b2i (okT a to)))) := r_isTo (xs := xs) (Ln := Ln) (d := d + 101) (D := D) (L := L) (v := to) hK hA
  cases hs : okSI (a 4320) mix set
  · simp (disch := first | omega | exact c1_int _ | exact c1_none | exact c1_ref _ | exact isRf_ref _ | assumption | exact okRb _ | exact okN1 | exact okN0 | exact rfl) only [N_X11_spell_0, N_X11_spell_1, N_X11_spell_2, N_X11_spell_3, N_X11_spell_6, N_X11_spell_9, N_X11_spell_10, N_X11_spell_11, N_X11_spell_14, N_X11_spell_17, N_X11_spell_18, N_X11_spell_19, N_X11_spell_20, N_X11_spell_21, N_X11_spell_22, N_X11_spell_23, N_X11_spell_24, N_X11_spell_27, N_X11_spell_29, N_X11_spell_30, N_X11_spell_31, N_X11_spell_34, N_X11_spell_35, N_X11_spell_36, N_X11_spell_39, N_X11_spell_42, N_X11_spell_43, N_X11_spell_44, N_X11_spell_45, N_X11_spell_46, N_X11_spell_47, N_X11_spell_50, N_X11_spell_51, N_X11_spell_54, N_X11_spell_56, N_X11_spell_57, if_true, if_false, ite_true, ite_false, not_false_eq_true, not_true_eq_false, isRf_ref, isRf_null, c1_int, c1_ref, c1_null, c1_none, rfv_some, rfv_none, Ok_s, tl_some, tl_none, List.nil_append, b2i_n1, b2i_n0, ↓reduceIte, nI_add, pk_mul, pk_sub, n_leT, n_leF, n_ltT, n_ltF, n_eqT, n_eqF, n_shl1, n_shl, n_shr, nI_and, nI_or, nI_xor, b2i_z, b2i_o, m1_n, n_m1, m1_lt, m1_le, n_lm1, n_em1, nI_m1, and1, and3, and7, and15, and63, and255, Bool.true_eq_false, Bool.false_eq_true, reduceCtorEq, Nat.reduceAdd, Nat.reduceMul, Nat.reduceSub, Nat.reduceDiv, Nat.reduceMod, Nat.reducePow, Nat.zero_add, Nat.one_mul, r_isSet hK hA, hs, Bool.false_and]
    exact ⟨_, _, rfl, QF.rf I, hc⟩
  · cases ht : okT a to
    · rw [ht] at hto
      simp (disch := first | omega | exact c1_int _ | exact c1_none | exact c1_ref _ | exact isRf_ref _ | assumption | exact okRb _ | exact okN1 | exact okN0 | exact rfl) only [N_X11_spell_0, N_X11_spell_1, N_X11_spell_2, N_X11_spell_3, N_X11_spell_6, N_X11_spell_9, N_X11_spell_10, N_X11_spell_11, N_X11_spell_14, N_X11_spell_17, N_X11_spell_18, N_X11_spell_19, N_X11_spell_20, N_X11_spell_21, N_X11_spell_22, N_X11_spell_23, N_X11_spell_24, N_X11_spell_27, N_X11_spell_29, N_X11_spell_30, N_X11_spell_31, N_X11_spell_34, N_X11_spell_35, N_X11_spell_36, N_X11_spell_39, N_X11_spell_42, N_X11_spell_43, N_X11_spell_44, N_X11_spell_45, N_X11_spell_46, N_X11_spell_47, N_X11_spell_50, N_X11_spell_51, N_X11_spell_54, N_X11_spell_56, N_X11_spell_57, if_true, if_false, ite_true, ite_false, not_false_eq_true, not_true_eq_false, isRf_ref, isRf_null, c1_int, c1_ref, c1_null, c1_none, rfv_some, rfv_none, Ok_s, tl_some, tl_none, List.nil_append, b2i_n1, b2i_n0, ↓reduceIte, nI_add, pk_mul, pk_sub, n_leT, n_leF, n_ltT, n_ltF, n_eqT, n_eqF, n_shl1, n_shl, n_shr, nI_and, nI_or, nI_xor, b2i_z, b2i_o, m1_n, n_m1, m1_lt, m1_le, n_lm1, n_em1, nI_m1, and1, and3, and7, and15, and63, and255, Bool.true_eq_false, Bool.false_eq_true, reduceCtorEq, Nat.reduceAdd, Nat.reduceMul, Nat.reduceSub, Nat.reduceDiv, Nat.reduceMod, Nat.reducePow, Nat.zero_add, Nat.one_mul, r_isSet hK hA, hs, hto, Bool.true_and]
      exact ⟨_, _, rfl, QF.rf I, hc⟩
    · rw [ht] at hto
      obtain ⟨m, s, hm, hm3, hs4, rfl, rfl, hS⟩ := okSI_t hs
      obtain ⟨hto2, hto3⟩ := okT_t h1 ht
      have hto12 : ∀ q, tOf to = some q → q < 12 := fun q hq => by have := hto3 q hq; omega
      have hst : stA a (nI s) = 8 * s + a 4327 := by unfold stA; rw [n_cl (by omega)]
      rw [hst, n_cl (show m < 2147483648 by omega)]
      simp (disch := first | omega | exact c1_int _ | exact c1_none | exact c1_ref _ | exact isRf_ref _ | assumption | exact okRb _ | exact okN1 | exact okN0 | exact rfl) only [N_X11_spell_0, N_X11_spell_1, N_X11_spell_2, N_X11_spell_3, N_X11_spell_6, N_X11_spell_9, N_X11_spell_10, N_X11_spell_11, N_X11_spell_14, N_X11_spell_17, N_X11_spell_18, N_X11_spell_19, N_X11_spell_20, N_X11_spell_21, N_X11_spell_22, N_X11_spell_23, N_X11_spell_24, N_X11_spell_27, N_X11_spell_29, N_X11_spell_30, N_X11_spell_31, N_X11_spell_34, N_X11_spell_35, N_X11_spell_36, N_X11_spell_39, N_X11_spell_42, N_X11_spell_43, N_X11_spell_44, N_X11_spell_45, N_X11_spell_46, N_X11_spell_47, N_X11_spell_50, N_X11_spell_51, N_X11_spell_54, N_X11_spell_56, N_X11_spell_57, if_true, if_false, ite_true, ite_false, not_false_eq_true, not_true_eq_false, isRf_ref, isRf_null, c1_int, c1_ref, c1_null, c1_none, rfv_some, rfv_none, Ok_s, tl_some, tl_none, List.nil_append, b2i_n1, b2i_n0, ↓reduceIte, nI_add, pk_mul, pk_sub, n_leT, n_leF, n_ltT, n_ltF, n_eqT, n_eqF, n_shl1, n_shl, n_shr, nI_and, nI_or, nI_xor, b2i_z, b2i_o, m1_n, n_m1, m1_lt, m1_le, n_lm1, n_em1, nI_m1, and1, and3, and7, and15, and63, and255, Bool.true_eq_false, Bool.false_eq_true, reduceCtorEq, Nat.reduceAdd, Nat.reduceMul, Nat.reduceSub, Nat.reduceDiv, Nat.reduceMod, Nat.reducePow, Nat.zero_add, Nat.one_mul, r_isSet hK hA, hs, hto, Bool.true_and]
      have := r_spr (xs := xs) (Ln := Ln) (d := d) (D := D) (L := L) (t := tOf to) (wo := none) hK hA hc hm hm3 hs4 hS hto12 (fun x hx => by cases hx)
      rw [← hto2, nO_n] at this
      refine Ok.mono this ?_
      rintro q ⟨I', L', rfl, hf, hd, hR, h35, h36⟩
      cases hfew : fewN a m (tOf to) none (8 * s + a 4327) with
      | none =>
        rw [hfew, nO_n] at h35
        have hneg : m1 - nI 1 < 0 := by decide
        simp (disch := first | omega | exact c1_int _ | exact c1_none | exact c1_ref _ | exact isRf_ref _ | assumption | exact okRb _ | exact okN1 | exact okN0 | exact rfl) only [N_X11_spell_0, N_X11_spell_1, N_X11_spell_2, N_X11_spell_3, N_X11_spell_6, N_X11_spell_9, N_X11_spell_10, N_X11_spell_11, N_X11_spell_14, N_X11_spell_17, N_X11_spell_18, N_X11_spell_19, N_X11_spell_20, N_X11_spell_21, N_X11_spell_22, N_X11_spell_23, N_X11_spell_24, N_X11_spell_27, N_X11_spell_29, N_X11_spell_30, N_X11_spell_31, N_X11_spell_34, N_X11_spell_35, N_X11_spell_36, N_X11_spell_39, N_X11_spell_42, N_X11_spell_43, N_X11_spell_44, N_X11_spell_45, N_X11_spell_46, N_X11_spell_47, N_X11_spell_50, N_X11_spell_51, N_X11_spell_54, N_X11_spell_56, N_X11_spell_57, if_true, if_false, ite_true, ite_false, not_false_eq_true, not_true_eq_false, isRf_ref, isRf_null, c1_int, c1_ref, c1_null, c1_none, rfv_some, rfv_none, Ok_s, tl_some, tl_none, List.nil_append, b2i_n1, b2i_n0, ↓reduceIte, nI_add, pk_mul, pk_sub, n_leT, n_leF, n_ltT, n_ltF, n_eqT, n_eqF, n_shl1, n_shl, n_shr, nI_and, nI_or, nI_xor, b2i_z, b2i_o, m1_n, n_m1, m1_lt, m1_le, n_lm1, n_em1, nI_m1, and1, and3, and7, and15, and63, and255, Bool.true_eq_false, Bool.false_eq_true, reduceCtorEq, Nat.reduceAdd, Nat.reduceMul, Nat.reduceSub, Nat.reduceDiv, Nat.reduceMod, Nat.reducePow, Nat.zero_add, Nat.one_mul, h35, r_liesM hneg]
        exact ⟨_, _, rfl, hf, hd.2.1⟩
      | some b =>
        rw [hfew, nO_s] at h35
        have hbl := fewN_lt hfew
        cases b with
        | zero =>
          have hneg : nI 0 - nI 1 < 0 := by decide
          have hin : inN i (nI 0) = false := by
            unfold inN
            by_cases h0 : i < 0
            · rw [decide_eq_true h0]; rfl
            · obtain ⟨j, hj, rfl⟩ := nI_of h0
              rw [decide_eq_true (show nI 0 ≤ nI j from nl_le (by omega) (by omega) hj)]
              simp
          simp (disch := first | omega | exact c1_int _ | exact c1_none | exact c1_ref _ | exact isRf_ref _ | assumption | exact okRb _ | exact okN1 | exact okN0 | exact rfl) only [N_X11_spell_0, N_X11_spell_1, N_X11_spell_2, N_X11_spell_3, N_X11_spell_6, N_X11_spell_9, N_X11_spell_10, N_X11_spell_11, N_X11_spell_14, N_X11_spell_17, N_X11_spell_18, N_X11_spell_19, N_X11_spell_20, N_X11_spell_21, N_X11_spell_22, N_X11_spell_23, N_X11_spell_24, N_X11_spell_27, N_X11_spell_29, N_X11_spell_30, N_X11_spell_31, N_X11_spell_34, N_X11_spell_35, N_X11_spell_36, N_X11_spell_39, N_X11_spell_42, N_X11_spell_43, N_X11_spell_44, N_X11_spell_45, N_X11_spell_46, N_X11_spell_47, N_X11_spell_50, N_X11_spell_51, N_X11_spell_54, N_X11_spell_56, N_X11_spell_57, if_true, if_false, ite_true, ite_false, not_false_eq_true, not_true_eq_false, isRf_ref, isRf_null, c1_int, c1_ref, c1_null, c1_none, rfv_some, rfv_none, Ok_s, tl_some, tl_none, List.nil_append, b2i_n1, b2i_n0, ↓reduceIte, nI_add, pk_mul, pk_sub, n_leT, n_leF, n_ltT, n_ltF, n_eqT, n_eqF, n_shl1, n_shl, n_shr, nI_and, nI_or, nI_xor, b2i_z, b2i_o, m1_n, n_m1, m1_lt, m1_le, n_lm1, n_em1, nI_m1, and1, and3, and7, and15, and63, and255, Bool.true_eq_false, Bool.false_eq_true, reduceCtorEq, Nat.reduceAdd, Nat.reduceMul, Nat.reduceSub, Nat.reduceDiv, Nat.reduceMod, Nat.reducePow, Nat.zero_add, Nat.one_mul, h35, r_liesM hneg, hin]
          exact ⟨_, _, rfl, hf, hd.2.1⟩
        | succ b =>
          have e1 : b + 1 - 1 = b := by omega
          have hli := r_liesN (xs := xs) (Ln := Ln) (d := d + 103) (w := mkW D I' L') (v := i) (k := b) (by omega)
          cases hin : inN i (nI (b + 1)) with
          | false =>
            rw [hin] at hli
            simp (disch := first | omega | exact c1_int _ | exact c1_none | exact c1_ref _ | exact isRf_ref _ | assumption | exact okRb _ | exact okN1 | exact okN0 | exact rfl) only [N_X11_spell_0, N_X11_spell_1, N_X11_spell_2, N_X11_spell_3, N_X11_spell_6, N_X11_spell_9, N_X11_spell_10, N_X11_spell_11, N_X11_spell_14, N_X11_spell_17, N_X11_spell_18, N_X11_spell_19, N_X11_spell_20, N_X11_spell_21, N_X11_spell_22, N_X11_spell_23, N_X11_spell_24, N_X11_spell_27, N_X11_spell_29, N_X11_spell_30, N_X11_spell_31, N_X11_spell_34, N_X11_spell_35, N_X11_spell_36, N_X11_spell_39, N_X11_spell_42, N_X11_spell_43, N_X11_spell_44, N_X11_spell_45, N_X11_spell_46, N_X11_spell_47, N_X11_spell_50, N_X11_spell_51, N_X11_spell_54, N_X11_spell_56, N_X11_spell_57, if_true, if_false, ite_true, ite_false, not_false_eq_true, not_true_eq_false, isRf_ref, isRf_null, c1_int, c1_ref, c1_null, c1_none, rfv_some, rfv_none, Ok_s, tl_some, tl_none, List.nil_append, b2i_n1, b2i_n0, ↓reduceIte, nI_add, pk_mul, pk_sub, n_leT, n_leF, n_ltT, n_ltF, n_eqT, n_eqF, n_shl1, n_shl, n_shr, nI_and, nI_or, nI_xor, b2i_z, b2i_o, m1_n, n_m1, m1_lt, m1_le, n_lm1, n_em1, nI_m1, and1, and3, and7, and15, and63, and255, Bool.true_eq_false, Bool.false_eq_true, reduceCtorEq, Nat.reduceAdd, Nat.reduceMul, Nat.reduceSub, Nat.reduceDiv, Nat.reduceMod, Nat.reducePow, Nat.zero_add, Nat.one_mul, h35, e1, hli, hin]
            exact ⟨_, _, rfl, hf, hd.2.1⟩
          | true =>
            rw [hin] at hli
            obtain ⟨i, hi2, rfl⟩ := inN_t (by omega) hin
            simp (disch := first | omega | exact c1_int _ | exact c1_none | exact c1_ref _ | exact isRf_ref _ | assumption | exact okRb _ | exact okN1 | exact okN0 | exact rfl) only [N_X11_spell_0, N_X11_spell_1, N_X11_spell_2, N_X11_spell_3, N_X11_spell_6, N_X11_spell_9, N_X11_spell_10, N_X11_spell_11, N_X11_spell_14, N_X11_spell_17, N_X11_spell_18, N_X11_spell_19, N_X11_spell_20, N_X11_spell_21, N_X11_spell_22, N_X11_spell_23, N_X11_spell_24, N_X11_spell_27, N_X11_spell_29, N_X11_spell_30, N_X11_spell_31, N_X11_spell_34, N_X11_spell_35, N_X11_spell_36, N_X11_spell_39, N_X11_spell_42, N_X11_spell_43, N_X11_spell_44, N_X11_spell_45, N_X11_spell_46, N_X11_spell_47, N_X11_spell_50, N_X11_spell_51, N_X11_spell_54, N_X11_spell_56, N_X11_spell_57, if_true, if_false, ite_true, ite_false, not_false_eq_true, not_true_eq_false, isRf_ref, isRf_null, c1_int, c1_ref, c1_null, c1_none, rfv_some, rfv_none, Ok_s, tl_some, tl_none, List.nil_append, b2i_n1, b2i_n0, ↓reduceIte, nI_add, pk_mul, pk_sub, n_leT, n_leF, n_ltT, n_ltF, n_eqT, n_eqF, n_shl1, n_shl, n_shr, nI_and, nI_or, nI_xor, b2i_z, b2i_o, m1_n, n_m1, m1_lt, m1_le, n_lm1, n_em1, nI_m1, and1, and3, and7, and15, and63, and255, Bool.true_eq_false, Bool.false_eq_true, reduceCtorEq, Nat.reduceAdd, Nat.reduceMul, Nat.reduceSub, Nat.reduceDiv, Nat.reduceMod, Nat.reducePow, Nat.zero_add, Nat.one_mul, h35, e1, hli, hin, n_cl]
            have hv0 : vSt a m (8 * s + a 4327) := ⟨by omega, by rw [show (8 * s + a 4327) / 8 = s by omega]; exact hS⟩
            rw [behW_n] at hR
            have hdg : dG (behA a m) (golA m (tOf to)) (8 * s + a 4327) = some (b + 1) := by
              have := hfew
              unfold fewN at this
              rw [behW_n] at this
              exact this
            have hsp := r_spells (xs := xs) (Ln := Ln) (d := d + 99) (D := D) (L := L') hd hA hm hm3 hv0 hto12 hR h35 hdg
            rw [← hto2] at hsp
            refine Ok.mono hsp ?_
            rintro q ⟨I2, rfl, hf2, hR2, h352, h100⟩
            have := h100 i hi2
            simp (disch := first | omega | exact c1_int _ | exact c1_none | exact c1_ref _ | exact isRf_ref _ | assumption | exact okRb _ | exact okN1 | exact okN0 | exact rfl) only [N_X11_spell_0, N_X11_spell_1, N_X11_spell_2, N_X11_spell_3, N_X11_spell_6, N_X11_spell_9, N_X11_spell_10, N_X11_spell_11, N_X11_spell_14, N_X11_spell_17, N_X11_spell_18, N_X11_spell_19, N_X11_spell_20, N_X11_spell_21, N_X11_spell_22, N_X11_spell_23, N_X11_spell_24, N_X11_spell_27, N_X11_spell_29, N_X11_spell_30, N_X11_spell_31, N_X11_spell_34, N_X11_spell_35, N_X11_spell_36, N_X11_spell_39, N_X11_spell_42, N_X11_spell_43, N_X11_spell_44, N_X11_spell_45, N_X11_spell_46, N_X11_spell_47, N_X11_spell_50, N_X11_spell_51, N_X11_spell_54, N_X11_spell_56, N_X11_spell_57, if_true, if_false, ite_true, ite_false, not_false_eq_true, not_true_eq_false, isRf_ref, isRf_null, c1_int, c1_ref, c1_null, c1_none, rfv_some, rfv_none, Ok_s, tl_some, tl_none, List.nil_append, b2i_n1, b2i_n0, ↓reduceIte, nI_add, pk_mul, pk_sub, n_leT, n_leF, n_ltT, n_ltF, n_eqT, n_eqF, n_shl1, n_shl, n_shr, nI_and, nI_or, nI_xor, b2i_z, b2i_o, m1_n, n_m1, m1_lt, m1_le, n_lm1, n_em1, nI_m1, and1, and3, and7, and15, and63, and255, Bool.true_eq_false, Bool.false_eq_true, reduceCtorEq, Nat.reduceAdd, Nat.reduceMul, Nat.reduceSub, Nat.reduceDiv, Nat.reduceMod, Nat.reducePow, Nat.zero_add, Nat.one_mul, this]
            exact ⟨_, _, rfl, hf.tr hf2.q, hf2.c hd.2.1⟩
theorem r_spare {a : Nat → Nat} {v : Nat} {mix set : Int32} (hK : RK I a) (hA : AW a) (hc : RIc I a v) : Ans xs Ln (d + 106) 236 [.ref 82, .int mix, .int set] D I L a v (aSpare a mix set) := by
  have hw8 := hA.2.1
  refine semG (lo := [some (.ref 82), some (.int mix), some (.int set), none, none]) rfl rfl (Nat.le_of_ble_eq_true rfl) rfl (show G_X11_spare xs Ln _ 0 [some (.ref 82), some (.int mix), some (.int set), none, none] [] _ _ from ?_)
  simp (disch := first | omega | exact c1_int _ | exact c1_none | exact c1_ref _ | exact isRf_ref _ | assumption | exact okRb _ | exact okN1 | exact okN0 | exact rfl) only [N_X11_spare_0, N_X11_spare_1, N_X11_spare_2, N_X11_spare_3, N_X11_spare_4, N_X11_spare_7, N_X11_spare_8, N_X11_spare_9, N_X11_spare_10, N_X11_spare_13, N_X11_spare_14, N_X11_spare_15, N_X11_spare_16, N_X11_spare_20, N_X11_spare_21, N_X11_spare_24, N_X11_spare_27, N_X11_spare_28, N_X11_spare_29, N_X11_spare_30, N_X11_spare_32, N_X11_spare_35, N_X11_spare_36, N_X11_spare_39, N_X11_spare_41, N_X11_spare_42, N_X11_spare_45, N_X11_spare_48, N_X11_spare_49, if_true, if_false, ite_true, ite_false, not_false_eq_true, not_true_eq_false, isRf_ref, isRf_null, c1_int, c1_ref, c1_null, c1_none, rfv_some, rfv_none, Ok_s, tl_some, tl_none, List.nil_append, b2i_n1, b2i_n0, ↓reduceIte, nI_add, pk_mul, pk_sub, n_leT, n_leF, n_ltT, n_ltF, n_eqT, n_eqF, n_shl1, n_shl, n_shr, nI_and, nI_or, nI_xor, b2i_z, b2i_o, m1_n, n_m1, m1_lt, m1_le, n_lm1, n_em1, nI_m1, and1, and3, and7, and15, and63, and255, Bool.true_eq_false, Bool.false_eq_true, reduceCtorEq, Nat.reduceAdd, Nat.reduceMul, Nat.reduceSub, Nat.reduceDiv, Nat.reduceMod, Nat.reducePow, Nat.zero_add, Nat.one_mul]
  refine Ok.mono (r_fewest (to := m1) hK hA hc) ?_
  rintro q ⟨I1, L1, rfl, hf1, hc1⟩
  unfold aSpare aFewest
  have hot : okT a m1 = true := by unfold okT; rw [decide_eq_true rfl]; rfl
  have htn : tOf m1 = none := by unfold tOf; rw [if_pos rfl]
  rw [hot, htn, Bool.and_true]
  cases hs : okSI (a 4320) mix set with
  | false =>
    simp (disch := first | omega | exact c1_int _ | exact c1_none | exact c1_ref _ | exact isRf_ref _ | assumption | exact okRb _ | exact okN1 | exact okN0 | exact rfl) only [N_X11_spare_0, N_X11_spare_1, N_X11_spare_2, N_X11_spare_3, N_X11_spare_4, N_X11_spare_7, N_X11_spare_8, N_X11_spare_9, N_X11_spare_10, N_X11_spare_13, N_X11_spare_14, N_X11_spare_15, N_X11_spare_16, N_X11_spare_20, N_X11_spare_21, N_X11_spare_24, N_X11_spare_27, N_X11_spare_28, N_X11_spare_29, N_X11_spare_30, N_X11_spare_32, N_X11_spare_35, N_X11_spare_36, N_X11_spare_39, N_X11_spare_41, N_X11_spare_42, N_X11_spare_45, N_X11_spare_48, N_X11_spare_49, if_true, if_false, ite_true, ite_false, not_false_eq_true, not_true_eq_false, isRf_ref, isRf_null, c1_int, c1_ref, c1_null, c1_none, rfv_some, rfv_none, Ok_s, tl_some, tl_none, List.nil_append, b2i_n1, b2i_n0, ↓reduceIte, nI_add, pk_mul, pk_sub, n_leT, n_leF, n_ltT, n_ltF, n_eqT, n_eqF, n_shl1, n_shl, n_shr, nI_and, nI_or, nI_xor, b2i_z, b2i_o, m1_n, n_m1, m1_lt, m1_le, n_lm1, n_em1, nI_m1, and1, and3, and7, and15, and63, and255, Bool.true_eq_false, Bool.false_eq_true, reduceCtorEq, Nat.reduceAdd, Nat.reduceMul, Nat.reduceSub, Nat.reduceDiv, Nat.reduceMod, Nat.reducePow, Nat.zero_add, Nat.one_mul]
    exact ⟨_, _, rfl, hf1, hc1⟩
  | true =>
    simp only [if_true]
    cases hfew : fewN a mix.toNatClampNeg none none (stA a set) with
    | none =>
      simp (disch := first | omega | exact c1_int _ | exact c1_none | exact c1_ref _ | exact isRf_ref _ | assumption | exact okRb _ | exact okN1 | exact okN0 | exact rfl) only [N_X11_spare_0, N_X11_spare_1, N_X11_spare_2, N_X11_spare_3, N_X11_spare_4, N_X11_spare_7, N_X11_spare_8, N_X11_spare_9, N_X11_spare_10, N_X11_spare_13, N_X11_spare_14, N_X11_spare_15, N_X11_spare_16, N_X11_spare_20, N_X11_spare_21, N_X11_spare_24, N_X11_spare_27, N_X11_spare_28, N_X11_spare_29, N_X11_spare_30, N_X11_spare_32, N_X11_spare_35, N_X11_spare_36, N_X11_spare_39, N_X11_spare_41, N_X11_spare_42, N_X11_spare_45, N_X11_spare_48, N_X11_spare_49, if_true, if_false, ite_true, ite_false, not_false_eq_true, not_true_eq_false, isRf_ref, isRf_null, c1_int, c1_ref, c1_null, c1_none, rfv_some, rfv_none, Ok_s, tl_some, tl_none, List.nil_append, b2i_n1, b2i_n0, ↓reduceIte, nI_add, pk_mul, pk_sub, n_leT, n_leF, n_ltT, n_ltF, n_eqT, n_eqF, n_shl1, n_shl, n_shr, nI_and, nI_or, nI_xor, b2i_z, b2i_o, m1_n, n_m1, m1_lt, m1_le, n_lm1, n_em1, nI_m1, and1, and3, and7, and15, and63, and255, Bool.true_eq_false, Bool.false_eq_true, reduceCtorEq, Nat.reduceAdd, Nat.reduceMul, Nat.reduceSub, Nat.reduceDiv, Nat.reduceMod, Nat.reducePow, Nat.zero_add, Nat.one_mul, nO_n]
      exact ⟨_, _, rfl, hf1, hc1⟩
    | some b =>
      have hbl := fewN_lt hfew
      simp (disch := first | omega | exact c1_int _ | exact c1_none | exact c1_ref _ | exact isRf_ref _ | assumption | exact okRb _ | exact okN1 | exact okN0 | exact rfl) only [N_X11_spare_0, N_X11_spare_1, N_X11_spare_2, N_X11_spare_3, N_X11_spare_4, N_X11_spare_7, N_X11_spare_8, N_X11_spare_9, N_X11_spare_10, N_X11_spare_13, N_X11_spare_14, N_X11_spare_15, N_X11_spare_16, N_X11_spare_20, N_X11_spare_21, N_X11_spare_24, N_X11_spare_27, N_X11_spare_28, N_X11_spare_29, N_X11_spare_30, N_X11_spare_32, N_X11_spare_35, N_X11_spare_36, N_X11_spare_39, N_X11_spare_41, N_X11_spare_42, N_X11_spare_45, N_X11_spare_48, N_X11_spare_49, if_true, if_false, ite_true, ite_false, not_false_eq_true, not_true_eq_false, isRf_ref, isRf_null, c1_int, c1_ref, c1_null, c1_none, rfv_some, rfv_none, Ok_s, tl_some, tl_none, List.nil_append, b2i_n1, b2i_n0, ↓reduceIte, nI_add, pk_mul, pk_sub, n_leT, n_leF, n_ltT, n_ltF, n_eqT, n_eqF, n_shl1, n_shl, n_shr, nI_and, nI_or, nI_xor, b2i_z, b2i_o, m1_n, n_m1, m1_lt, m1_le, n_lm1, n_em1, nI_m1, and1, and3, and7, and15, and63, and255, Bool.true_eq_false, Bool.false_eq_true, reduceCtorEq, Nat.reduceAdd, Nat.reduceMul, Nat.reduceSub, Nat.reduceDiv, Nat.reduceMod, Nat.reducePow, Nat.zero_add, Nat.one_mul, nO_s]
      refine Lp (n := a 4321) (σ := Nat → Nat → Int32) (E := fun i J => ∀ L', G_X11_spare xs Ln (d + 105) 18 [some (.ref 82), some (.int mix), some (.int set), some (.int (nI b)), some (.int (nI i))] [] (mkW D J L') _) (Inv := fun i J => QF I J ∧ RIc J a v ∧ ∀ j, j < i → decide (fewN a mix.toNatClampNeg none (some j) (stA a set) = some b) = false) ?_ ?_ 0 I1 (by omega) ⟨hf1, hc1, fun j hj => by omega⟩ L1
      · rintro J ⟨hf, hc, hno⟩ L'
        have hW := (hf.rk hK).2.2.1 4321 (by decide) (by decide) (by decide)
        have hln : lst (fun w => decide (fewN a mix.toNatClampNeg none (some w) (stA a set) = some b)) (a 4321) = none := (lst_n _ _).mpr hno
        simp (disch := first | omega | exact c1_int _ | exact c1_none | exact c1_ref _ | exact isRf_ref _ | assumption | exact okRb _ | exact okN1 | exact okN0 | exact rfl) only [N_X11_spare_0, N_X11_spare_1, N_X11_spare_2, N_X11_spare_3, N_X11_spare_4, N_X11_spare_7, N_X11_spare_8, N_X11_spare_9, N_X11_spare_10, N_X11_spare_13, N_X11_spare_14, N_X11_spare_15, N_X11_spare_16, N_X11_spare_18, N_X11_spare_20, N_X11_spare_21, N_X11_spare_24, N_X11_spare_27, N_X11_spare_28, N_X11_spare_29, N_X11_spare_30, N_X11_spare_32, N_X11_spare_35, N_X11_spare_36, N_X11_spare_39, N_X11_spare_41, N_X11_spare_42, N_X11_spare_45, N_X11_spare_48, N_X11_spare_49, if_true, if_false, ite_true, ite_false, not_false_eq_true, not_true_eq_false, isRf_ref, isRf_null, c1_int, c1_ref, c1_null, c1_none, rfv_some, rfv_none, Ok_s, tl_some, tl_none, List.nil_append, b2i_n1, b2i_n0, ↓reduceIte, nI_add, pk_mul, pk_sub, n_leT, n_leF, n_ltT, n_ltF, n_eqT, n_eqF, n_shl1, n_shl, n_shr, nI_and, nI_or, nI_xor, b2i_z, b2i_o, m1_n, n_m1, m1_lt, m1_le, n_lm1, n_em1, nI_m1, and1, and3, and7, and15, and63, and255, Bool.true_eq_false, Bool.false_eq_true, reduceCtorEq, Nat.reduceAdd, Nat.reduceMul, Nat.reduceSub, Nat.reduceDiv, Nat.reduceMod, Nat.reducePow, Nat.zero_add, Nat.one_mul, c_words, hW, hln, nO_n]
        exact ⟨_, _, rfl, hf, hc⟩
      · rintro i J hi ⟨hf, hc, hno⟩ ih L'
        have hW := (hf.rk hK).2.2.1 4321 (by decide) (by decide) (by decide)
        rw [N_X11_spare_18]
        simp (disch := first | omega | exact c1_int _ | exact c1_none | exact c1_ref _ | exact isRf_ref _ | assumption | exact okRb _ | exact okN1 | exact okN0 | exact rfl) only [N_X11_spare_0, N_X11_spare_1, N_X11_spare_2, N_X11_spare_3, N_X11_spare_4, N_X11_spare_7, N_X11_spare_8, N_X11_spare_9, N_X11_spare_10, N_X11_spare_13, N_X11_spare_14, N_X11_spare_15, N_X11_spare_16, N_X11_spare_20, N_X11_spare_21, N_X11_spare_24, N_X11_spare_27, N_X11_spare_28, N_X11_spare_29, N_X11_spare_30, N_X11_spare_32, N_X11_spare_35, N_X11_spare_36, N_X11_spare_39, N_X11_spare_41, N_X11_spare_42, N_X11_spare_45, N_X11_spare_48, N_X11_spare_49, if_true, if_false, ite_true, ite_false, not_false_eq_true, not_true_eq_false, isRf_ref, isRf_null, c1_int, c1_ref, c1_null, c1_none, rfv_some, rfv_none, Ok_s, tl_some, tl_none, List.nil_append, b2i_n1, b2i_n0, ↓reduceIte, nI_add, pk_mul, pk_sub, n_leT, n_leF, n_ltT, n_ltF, n_eqT, n_eqF, n_shl1, n_shl, n_shr, nI_and, nI_or, nI_xor, b2i_z, b2i_o, m1_n, n_m1, m1_lt, m1_le, n_lm1, n_em1, nI_m1, and1, and3, and7, and15, and63, and255, Bool.true_eq_false, Bool.false_eq_true, reduceCtorEq, Nat.reduceAdd, Nat.reduceMul, Nat.reduceSub, Nat.reduceDiv, Nat.reduceMod, Nat.reducePow, Nat.zero_add, Nat.one_mul, c_words, hW]
        refine Ok.mono (r_without (wd := nI i) (hf.rk hK) hA hc) ?_
        rintro q ⟨I2, L2, rfl, hf2, hc2⟩
        have hwi : aWithout a mix set (nI i) = nO (fewN a mix.toNatClampNeg none (some i) (stA a set)) := by
          unfold aWithout
          rw [hs, inN_nI (by omega) (by omega), decide_eq_true hi, n_cl (by omega)]
          rfl
        rw [hwi]
        by_cases he : fewN a mix.toNatClampNeg none (some i) (stA a set) = some b
        · have hls : lst (fun w => decide (fewN a mix.toNatClampNeg none (some w) (stA a set) = some b)) (a 4321) = some i := (lst_s _ _ _).mpr ⟨hi, decide_eq_true he, hno⟩
          simp (disch := first | omega | exact c1_int _ | exact c1_none | exact c1_ref _ | exact isRf_ref _ | assumption | exact okRb _ | exact okN1 | exact okN0 | exact rfl) only [N_X11_spare_0, N_X11_spare_1, N_X11_spare_2, N_X11_spare_3, N_X11_spare_4, N_X11_spare_7, N_X11_spare_8, N_X11_spare_9, N_X11_spare_10, N_X11_spare_13, N_X11_spare_14, N_X11_spare_15, N_X11_spare_16, N_X11_spare_20, N_X11_spare_21, N_X11_spare_24, N_X11_spare_27, N_X11_spare_28, N_X11_spare_29, N_X11_spare_30, N_X11_spare_32, N_X11_spare_35, N_X11_spare_36, N_X11_spare_39, N_X11_spare_41, N_X11_spare_42, N_X11_spare_45, N_X11_spare_48, N_X11_spare_49, if_true, if_false, ite_true, ite_false, not_false_eq_true, not_true_eq_false, isRf_ref, isRf_null, c1_int, c1_ref, c1_null, c1_none, rfv_some, rfv_none, Ok_s, tl_some, tl_none, List.nil_append, b2i_n1, b2i_n0, ↓reduceIte, nI_add, pk_mul, pk_sub, n_leT, n_leF, n_ltT, n_ltF, n_eqT, n_eqF, n_shl1, n_shl, n_shr, nI_and, nI_or, nI_xor, b2i_z, b2i_o, m1_n, n_m1, m1_lt, m1_le, n_lm1, n_em1, nI_m1, and1, and3, and7, and15, and63, and255, Bool.true_eq_false, Bool.false_eq_true, reduceCtorEq, Nat.reduceAdd, Nat.reduceMul, Nat.reduceSub, Nat.reduceDiv, Nat.reduceMod, Nat.reducePow, Nat.zero_add, Nat.one_mul, he, hls, nO_s]
          exact ⟨_, _, rfl, hf.tr hf2, hc2⟩
        · have hne : ¬ nO (fewN a mix.toNatClampNeg none (some i) (stA a set)) = nI b := by
            cases hq : fewN a mix.toNatClampNeg none (some i) (stA a set) with
            | none => rw [nO_n, m1_n (by omega)]; exact id
            | some z =>
              have := fewN_lt hq
              rw [nO_s]
              refine nl_ne (fun h => he ?_) (by omega) (by omega)
              rw [hq, h]
          simp (disch := first | omega | exact c1_int _ | exact c1_none | exact c1_ref _ | exact isRf_ref _ | assumption | exact okRb _ | exact okN1 | exact okN0 | exact rfl) only [N_X11_spare_0, N_X11_spare_1, N_X11_spare_2, N_X11_spare_3, N_X11_spare_4, N_X11_spare_7, N_X11_spare_8, N_X11_spare_9, N_X11_spare_10, N_X11_spare_13, N_X11_spare_14, N_X11_spare_15, N_X11_spare_16, N_X11_spare_20, N_X11_spare_21, N_X11_spare_24, N_X11_spare_27, N_X11_spare_28, N_X11_spare_29, N_X11_spare_30, N_X11_spare_32, N_X11_spare_35, N_X11_spare_36, N_X11_spare_39, N_X11_spare_41, N_X11_spare_42, N_X11_spare_45, N_X11_spare_48, N_X11_spare_49, if_true, if_false, ite_true, ite_false, not_false_eq_true, not_true_eq_false, isRf_ref, isRf_null, c1_int, c1_ref, c1_null, c1_none, rfv_some, rfv_none, Ok_s, tl_some, tl_none, List.nil_append, b2i_n1, b2i_n0, ↓reduceIte, nI_add, pk_mul, pk_sub, n_leT, n_leF, n_ltT, n_ltF, n_eqT, n_eqF, n_shl1, n_shl, n_shr, nI_and, nI_or, nI_xor, b2i_z, b2i_o, m1_n, n_m1, m1_lt, m1_le, n_lm1, n_em1, nI_m1, and1, and3, and7, and15, and63, and255, Bool.true_eq_false, Bool.false_eq_true, reduceCtorEq, Nat.reduceAdd, Nat.reduceMul, Nat.reduceSub, Nat.reduceDiv, Nat.reduceMod, Nat.reducePow, Nat.zero_add, Nat.one_mul, hne]
          refine ih I2 ⟨hf.tr hf2, hc2, fun j hj => ?_⟩ L2
          by_cases hji : j = i
          · rw [hji]; exact decide_eq_false he
          · exact hno j (by omega)
/-- the trace -/
def trA (a : Nat → Nat) (st seen : Nat) : Nat → Option Nat
  | 0 => some st
  | k + 1 => match trA a st seen k with
    | none => none
    | some s => match behA a 1 s (a (164 + k)) with
      | none => none
      | some y => some (8 * (y / 8 &&& cpl a (seen / 2 ^ (2 * k) % 4) (a 4320)) + y % 8)
def aTrace (a : Nat → Nat) (set n seen : Int32) : Int32 := if (okSI (a 4320) (nI 1) set && inN n (nI 16) && inN n (nI (a 4323 + 1)) && inN seen (nI 1073741824)) = true then nO ((trA a (stA a set) seen.toNatClampNeg n.toNatClampNeg).map (· / 8)) else m1
def rmv (a : Nat → Nat) (c s : Nat) : Nat → Nat
  | 0 => s
  | p + 1 => if a p = c then rmv a c s p else adn (rmv a c s p) (2 ^ p)
theorem adn_tb {x y j : Nat} (hx : x < 2147483648) : (adn x y).testBit j = (x.testBit j && !y.testBit j) := by
  unfold adn
  rw [Nat.testBit_and, Nat.testBit_xor]
  have h31 : Nat.testBit 2147483647 j = decide (j < 31) := Nat.testBit_two_pow_sub_one 31 j
  rw [h31]
  by_cases hj : j < 31
  · rw [decide_eq_true hj]
    cases x.testBit j <;> cases y.testBit j <;> rfl
  · have : x.testBit j = false := Nat.testBit_lt_two_pow (Nat.lt_of_lt_of_le hx (show 2147483648 ≤ 2 ^ j from Nat.pow_le_pow_right (n := 2) (i := 31) (by decide) (by omega)))
    rw [this]
    rfl
theorem adn_le (x y : Nat) : adn x y ≤ x := Nat.and_le_left
theorem rmv_le (a : Nat → Nat) (c s : Nat) : ∀ p, rmv a c s p ≤ s
  | 0 => Nat.le_refl _
  | p + 1 => by
    unfold rmv
    split
    · exact rmv_le a c s p
    · exact Nat.le_trans (adn_le _ _) (rmv_le a c s p)
theorem rmv_tb {a : Nat → Nat} {c s j : Nat} (hs : s < 4096) : ∀ p, (rmv a c s p).testBit j = (s.testBit j && !(decide (j < p) && decide (a j ≠ c)))
  | 0 => by
    unfold rmv
    rw [decide_eq_false (by omega)]
    simp
  | p + 1 => by
    have ih := rmv_tb (a := a) (c := c) (j := j) hs p
    have hle := rmv_le a c s p
    unfold rmv
    split
    · rename_i hp
      rw [ih]
      by_cases hjp : j = p
      · subst hjp
        simp [hp]
      · have : decide (j < p + 1) = decide (j < p) := by
          by_cases h : j < p
          · rw [decide_eq_true h, decide_eq_true (by omega)]
          · rw [decide_eq_false h, decide_eq_false (by omega)]
        rw [this]
    · rename_i hp
      rw [adn_tb (by omega), ih, Nat.testBit_two_pow]
      by_cases hjp : j = p
      · subst hjp
        simp [hp]
      · have : decide (j < p + 1) = decide (j < p) := by
          by_cases h : j < p
          · rw [decide_eq_true h, decide_eq_true (by omega)]
          · rw [decide_eq_false h, decide_eq_false (by omega)]
        rw [this, show decide (p = j) = false from decide_eq_false (fun h => hjp h.symm)]
        simp
theorem cpl_tb (a : Nat → Nat) (c j : Nat) : ∀ n, (cpl a c n).testBit j = (decide (j < n) && decide (a j = c))
  | 0 => by
    unfold cpl
    simp
  | n + 1 => by
    have ih := cpl_tb a c j n
    unfold cpl
    rw [Nat.testBit_or, ih]
    by_cases hjn : j = n
    · subst hjn
      by_cases hc : a j = c
      · rw [if_pos hc, Nat.testBit_two_pow]
        simp [hc]
      · rw [if_neg hc]
        simp [hc]
    · have : decide (j < n + 1) = decide (j < n) := by
        by_cases h : j < n
        · rw [decide_eq_true h, decide_eq_true (by omega)]
        · rw [decide_eq_false h, decide_eq_false (by omega)]
      rw [this]
      split
      · rw [Nat.testBit_two_pow, show decide (n = j) = false from decide_eq_false (fun h => hjn h.symm)]
        simp
      · simp
theorem rmv_cpl {a : Nat → Nat} {c s P : Nat} (hs : s < 2 ^ P) (hP : P ≤ 12) : rmv a c s P = s &&& cpl a c P := by
  have hs4 : s < 4096 := Nat.lt_of_lt_of_le hs (pw_lt hP)
  apply Nat.eq_of_testBit_eq
  intro j
  rw [rmv_tb hs4, Nat.testBit_and, cpl_tb]
  cases hb : s.testBit j with
  | false => rfl
  | true =>
    have := tb_lt hs hb
    rw [decide_eq_true this]
    by_cases hc : a j = c <;> simp [hc]
theorem okS1 {P s : Nat} : okS P 1 s = true ↔ s < 2 ^ P := by
  unfold okS
  rw [if_neg (by decide)]
  exact decide_eq_true_iff
theorem tr_v {a : Nat → Nat} (hA : AW a) {st seen : Nat} (hv : vSt a 1 st) : ∀ k s, trA a st seen k = some s → vSt a 1 s
  | 0, s, h => by cases h; exact hv
  | k + 1, s, h => by
    unfold trA at h
    split at h
    · cases h
    · rename_i s' h'
      have hv' := tr_v hA hv k s' h'
      split at h
      · cases h
      · rename_i y hy
        cases h
        have hvy := (beh_v hA (by decide) (by decide) hv' hy).1
        have hy1 := hvy.1
        have hle : y / 8 &&& cpl a (seen / 2 ^ (2 * k) % 4) (a 4320) ≤ y / 8 := Nat.and_le_left
        refine ⟨by omega, ?_⟩
        rw [show (8 * (y / 8 &&& cpl a (seen / 2 ^ (2 * k) % 4) (a 4320)) + y % 8) / 8 = (y / 8 &&& cpl a (seen / 2 ^ (2 * k) % 4) (a 4320)) by omega]
        exact okS1.mpr (Nat.lt_of_le_of_lt hle (okS1.mp hvy.2))
theorem r_trace {a : Nat → Nat} {v : Nat} {set n seen : Int32} (hK : RK I a) (hA : AW a) (hc : RIc I a v) : Ans xs Ln (d + 105) 238 [.ref 82, .int set, .int n, .int seen] D I L a v (aTrace a set n seen) := by
  have h1 := hA.1
  have hw8 := hA.2.1
  have h4 := hA.2.2.2.1
  have h8 := hA.2.2.2.2.2.2.2.1
  have hC := hK.2.2.1 4323 (by decide) (by decide) (by decide)
  refine semG (lo := [some (.ref 82), some (.int set), some (.int n), some (.int seen), none, none, none, none, none]) rfl rfl (Nat.le_of_ble_eq_true rfl) rfl (show G_X11_trace xs Ln _ 0 [some (.ref 82), some (.int set), some (.int n), some (.int seen), none, none, none, none, none] [] _ _ from ?_)
  unfold aTrace
  cases hs : okSI (a 4320) (nI 1) set
  · simp (disch := first | omega | exact c1_int _ | exact c1_none | exact c1_ref _ | exact isRf_ref _ | assumption | exact okRb _ | exact okN1 | exact okN0 | exact rfl) only [N_X11_trace_0, N_X11_trace_1, N_X11_trace_2, N_X11_trace_3, N_X11_trace_6, N_X11_trace_9, N_X11_trace_10, N_X11_trace_11, N_X11_trace_13, N_X11_trace_16, N_X11_trace_19, N_X11_trace_20, N_X11_trace_21, N_X11_trace_24, N_X11_trace_27, N_X11_trace_28, N_X11_trace_31, N_X11_trace_32, N_X11_trace_33, N_X11_trace_36, N_X11_trace_39, N_X11_trace_42, N_X11_trace_43, N_X11_trace_44, N_X11_trace_45, N_X11_trace_48, N_X11_trace_49, N_X11_trace_51, N_X11_trace_52, N_X11_trace_55, N_X11_trace_58, N_X11_trace_59, N_X11_trace_61, N_X11_trace_62, N_X11_trace_66, N_X11_trace_67, N_X11_trace_70, N_X11_trace_71, N_X11_trace_74, N_X11_trace_77, N_X11_trace_79, N_X11_trace_80, N_X11_trace_81, N_X11_trace_83, N_X11_trace_84, N_X11_trace_87, N_X11_trace_89, N_X11_trace_91, N_X11_trace_92, N_X11_trace_94, N_X11_trace_95, N_X11_trace_96, N_X11_trace_99, N_X11_trace_100, N_X11_trace_101, N_X11_trace_102, N_X11_trace_103, N_X11_trace_105, N_X11_trace_107, N_X11_trace_109, N_X11_trace_112, N_X11_trace_114, N_X11_trace_115, N_X11_trace_117, N_X11_trace_119, N_X11_trace_122, N_X11_trace_124, N_X11_trace_125, N_X11_trace_127, N_X11_trace_129, N_X11_trace_130, N_X11_trace_133, N_X11_trace_136, N_X11_trace_137, N_X11_trace_140, N_X11_trace_141, N_X11_trace_143, N_X11_trace_144, N_X11_trace_145, N_X11_trace_146, N_X11_trace_147, N_X11_trace_149, N_X11_trace_150, N_X11_trace_151, N_X11_trace_152, N_X11_trace_153, N_X11_trace_156, N_X11_trace_158, N_X11_trace_159, N_X11_trace_161, N_X11_trace_162, N_X11_trace_163, N_X11_trace_164, N_X11_trace_165, N_X11_trace_167, N_X11_trace_170, N_X11_trace_173, N_X11_trace_176, N_X11_trace_179, N_X11_trace_181, if_true, if_false, ite_true, ite_false, not_false_eq_true, not_true_eq_false, isRf_ref, isRf_null, c1_int, c1_ref, c1_null, c1_none, rfv_some, rfv_none, Ok_s, tl_some, tl_none, List.nil_append, b2i_n1, b2i_n0, ↓reduceIte, nI_add, pk_mul, pk_sub, n_leT, n_leF, n_ltT, n_ltF, n_eqT, n_eqF, n_shl1, n_shl, n_shr, nI_and, nI_or, nI_xor, b2i_z, b2i_o, m1_n, n_m1, m1_lt, m1_le, n_lm1, n_em1, nI_m1, and1, and3, and7, and15, and63, and255, Bool.true_eq_false, Bool.false_eq_true, reduceCtorEq, Nat.reduceAdd, Nat.reduceMul, Nat.reduceSub, Nat.reduceDiv, Nat.reduceMod, Nat.reducePow, Nat.zero_add, Nat.one_mul, r_isSet hK hA, hs, Bool.false_and]
    exact ⟨_, _, rfl, QF.rf I, hc⟩
  · cases hn : inN n (nI 16)
    · simp (disch := first | omega | exact c1_int _ | exact c1_none | exact c1_ref _ | exact isRf_ref _ | assumption | exact okRb _ | exact okN1 | exact okN0 | exact rfl) only [N_X11_trace_0, N_X11_trace_1, N_X11_trace_2, N_X11_trace_3, N_X11_trace_6, N_X11_trace_9, N_X11_trace_10, N_X11_trace_11, N_X11_trace_13, N_X11_trace_16, N_X11_trace_19, N_X11_trace_20, N_X11_trace_21, N_X11_trace_24, N_X11_trace_27, N_X11_trace_28, N_X11_trace_31, N_X11_trace_32, N_X11_trace_33, N_X11_trace_36, N_X11_trace_39, N_X11_trace_42, N_X11_trace_43, N_X11_trace_44, N_X11_trace_45, N_X11_trace_48, N_X11_trace_49, N_X11_trace_51, N_X11_trace_52, N_X11_trace_55, N_X11_trace_58, N_X11_trace_59, N_X11_trace_61, N_X11_trace_62, N_X11_trace_66, N_X11_trace_67, N_X11_trace_70, N_X11_trace_71, N_X11_trace_74, N_X11_trace_77, N_X11_trace_79, N_X11_trace_80, N_X11_trace_81, N_X11_trace_83, N_X11_trace_84, N_X11_trace_87, N_X11_trace_89, N_X11_trace_91, N_X11_trace_92, N_X11_trace_94, N_X11_trace_95, N_X11_trace_96, N_X11_trace_99, N_X11_trace_100, N_X11_trace_101, N_X11_trace_102, N_X11_trace_103, N_X11_trace_105, N_X11_trace_107, N_X11_trace_109, N_X11_trace_112, N_X11_trace_114, N_X11_trace_115, N_X11_trace_117, N_X11_trace_119, N_X11_trace_122, N_X11_trace_124, N_X11_trace_125, N_X11_trace_127, N_X11_trace_129, N_X11_trace_130, N_X11_trace_133, N_X11_trace_136, N_X11_trace_137, N_X11_trace_140, N_X11_trace_141, N_X11_trace_143, N_X11_trace_144, N_X11_trace_145, N_X11_trace_146, N_X11_trace_147, N_X11_trace_149, N_X11_trace_150, N_X11_trace_151, N_X11_trace_152, N_X11_trace_153, N_X11_trace_156, N_X11_trace_158, N_X11_trace_159, N_X11_trace_161, N_X11_trace_162, N_X11_trace_163, N_X11_trace_164, N_X11_trace_165, N_X11_trace_167, N_X11_trace_170, N_X11_trace_173, N_X11_trace_176, N_X11_trace_179, N_X11_trace_181, if_true, if_false, ite_true, ite_false, not_false_eq_true, not_true_eq_false, isRf_ref, isRf_null, c1_int, c1_ref, c1_null, c1_none, rfv_some, rfv_none, Ok_s, tl_some, tl_none, List.nil_append, b2i_n1, b2i_n0, ↓reduceIte, nI_add, pk_mul, pk_sub, n_leT, n_leF, n_ltT, n_ltF, n_eqT, n_eqF, n_shl1, n_shl, n_shr, nI_and, nI_or, nI_xor, b2i_z, b2i_o, m1_n, n_m1, m1_lt, m1_le, n_lm1, n_em1, nI_m1, and1, and3, and7, and15, and63, and255, Bool.true_eq_false, Bool.false_eq_true, reduceCtorEq, Nat.reduceAdd, Nat.reduceMul, Nat.reduceSub, Nat.reduceDiv, Nat.reduceMod, Nat.reducePow, Nat.zero_add, Nat.one_mul, r_isSet hK hA, hs, r_liesN, hn, Bool.false_and, Bool.true_and]
      exact ⟨_, _, rfl, QF.rf I, hc⟩
    · obtain ⟨n, hn2, rfl⟩ := inN_t (by decide) hn
      have hinn : inN (nI n) (nI (a 4323 + 1)) = decide (n < a 4323 + 1) := inN_nI (by omega) (by omega)
      by_cases hnc : n ≤ a 4323
      · rw [hinn, decide_eq_true (by omega)]
        cases hse : inN seen (nI 1073741824)
        · simp (disch := first | omega | exact c1_int _ | exact c1_none | exact c1_ref _ | exact isRf_ref _ | assumption | exact okRb _ | exact okN1 | exact okN0 | exact rfl) only [N_X11_trace_0, N_X11_trace_1, N_X11_trace_2, N_X11_trace_3, N_X11_trace_6, N_X11_trace_9, N_X11_trace_10, N_X11_trace_11, N_X11_trace_13, N_X11_trace_16, N_X11_trace_19, N_X11_trace_20, N_X11_trace_21, N_X11_trace_24, N_X11_trace_27, N_X11_trace_28, N_X11_trace_31, N_X11_trace_32, N_X11_trace_33, N_X11_trace_36, N_X11_trace_39, N_X11_trace_42, N_X11_trace_43, N_X11_trace_44, N_X11_trace_45, N_X11_trace_48, N_X11_trace_49, N_X11_trace_51, N_X11_trace_52, N_X11_trace_55, N_X11_trace_58, N_X11_trace_59, N_X11_trace_61, N_X11_trace_62, N_X11_trace_66, N_X11_trace_67, N_X11_trace_70, N_X11_trace_71, N_X11_trace_74, N_X11_trace_77, N_X11_trace_79, N_X11_trace_80, N_X11_trace_81, N_X11_trace_83, N_X11_trace_84, N_X11_trace_87, N_X11_trace_89, N_X11_trace_91, N_X11_trace_92, N_X11_trace_94, N_X11_trace_95, N_X11_trace_96, N_X11_trace_99, N_X11_trace_100, N_X11_trace_101, N_X11_trace_102, N_X11_trace_103, N_X11_trace_105, N_X11_trace_107, N_X11_trace_109, N_X11_trace_112, N_X11_trace_114, N_X11_trace_115, N_X11_trace_117, N_X11_trace_119, N_X11_trace_122, N_X11_trace_124, N_X11_trace_125, N_X11_trace_127, N_X11_trace_129, N_X11_trace_130, N_X11_trace_133, N_X11_trace_136, N_X11_trace_137, N_X11_trace_140, N_X11_trace_141, N_X11_trace_143, N_X11_trace_144, N_X11_trace_145, N_X11_trace_146, N_X11_trace_147, N_X11_trace_149, N_X11_trace_150, N_X11_trace_151, N_X11_trace_152, N_X11_trace_153, N_X11_trace_156, N_X11_trace_158, N_X11_trace_159, N_X11_trace_161, N_X11_trace_162, N_X11_trace_163, N_X11_trace_164, N_X11_trace_165, N_X11_trace_167, N_X11_trace_170, N_X11_trace_173, N_X11_trace_176, N_X11_trace_179, N_X11_trace_181, if_true, if_false, ite_true, ite_false, not_false_eq_true, not_true_eq_false, isRf_ref, isRf_null, c1_int, c1_ref, c1_null, c1_none, rfv_some, rfv_none, Ok_s, tl_some, tl_none, List.nil_append, b2i_n1, b2i_n0, ↓reduceIte, nI_add, pk_mul, pk_sub, n_leT, n_leF, n_ltT, n_ltF, n_eqT, n_eqF, n_shl1, n_shl, n_shr, nI_and, nI_or, nI_xor, b2i_z, b2i_o, m1_n, n_m1, m1_lt, m1_le, n_lm1, n_em1, nI_m1, and1, and3, and7, and15, and63, and255, Bool.true_eq_false, Bool.false_eq_true, reduceCtorEq, Nat.reduceAdd, Nat.reduceMul, Nat.reduceSub, Nat.reduceDiv, Nat.reduceMod, Nat.reducePow, Nat.zero_add, Nat.one_mul, r_isSet hK hA, hs, r_liesN, hn, hC, hse, Bool.false_and, Bool.true_and]
          exact ⟨_, _, rfl, QF.rf I, hc⟩
        · obtain ⟨m, s, hm, hm3, hs4, _, rfl, hS'⟩ := okSI_t hs
          have hm1 : m = 1 := by
            rename_i hmm
            have : (nI 1 = nI m) := hmm
            rw [n_eq (by decide) (by omega)] at this
            exact this.symm
          subst hm1
          obtain ⟨seen, hse2, rfl⟩ := inN_t (by decide) hse
          have hst : stA a (nI s) = 8 * s + a 4327 := by unfold stA; rw [n_cl (by omega)]
          rw [hst, n_cl (show n < 2147483648 by omega), n_cl (show seen < 2147483648 by omega)]
          have hv0 : vSt a 1 (8 * s + a 4327) := ⟨by omega, by rw [show (8 * s + a 4327) / 8 = s by omega]; exact hS'⟩
          simp (disch := first | omega | exact c1_int _ | exact c1_none | exact c1_ref _ | exact isRf_ref _ | assumption | exact okRb _ | exact okN1 | exact okN0 | exact rfl) only [N_X11_trace_0, N_X11_trace_1, N_X11_trace_2, N_X11_trace_3, N_X11_trace_6, N_X11_trace_9, N_X11_trace_10, N_X11_trace_11, N_X11_trace_13, N_X11_trace_16, N_X11_trace_19, N_X11_trace_20, N_X11_trace_21, N_X11_trace_24, N_X11_trace_27, N_X11_trace_28, N_X11_trace_31, N_X11_trace_32, N_X11_trace_33, N_X11_trace_36, N_X11_trace_39, N_X11_trace_42, N_X11_trace_43, N_X11_trace_44, N_X11_trace_45, N_X11_trace_48, N_X11_trace_49, N_X11_trace_51, N_X11_trace_52, N_X11_trace_55, N_X11_trace_58, N_X11_trace_59, N_X11_trace_61, N_X11_trace_62, N_X11_trace_66, N_X11_trace_67, N_X11_trace_70, N_X11_trace_71, N_X11_trace_74, N_X11_trace_77, N_X11_trace_79, N_X11_trace_80, N_X11_trace_81, N_X11_trace_83, N_X11_trace_84, N_X11_trace_87, N_X11_trace_89, N_X11_trace_91, N_X11_trace_92, N_X11_trace_94, N_X11_trace_95, N_X11_trace_96, N_X11_trace_99, N_X11_trace_100, N_X11_trace_101, N_X11_trace_102, N_X11_trace_103, N_X11_trace_105, N_X11_trace_107, N_X11_trace_109, N_X11_trace_112, N_X11_trace_114, N_X11_trace_115, N_X11_trace_117, N_X11_trace_119, N_X11_trace_122, N_X11_trace_124, N_X11_trace_125, N_X11_trace_127, N_X11_trace_129, N_X11_trace_130, N_X11_trace_133, N_X11_trace_136, N_X11_trace_137, N_X11_trace_140, N_X11_trace_141, N_X11_trace_143, N_X11_trace_144, N_X11_trace_145, N_X11_trace_146, N_X11_trace_147, N_X11_trace_149, N_X11_trace_150, N_X11_trace_151, N_X11_trace_152, N_X11_trace_153, N_X11_trace_156, N_X11_trace_158, N_X11_trace_159, N_X11_trace_161, N_X11_trace_162, N_X11_trace_163, N_X11_trace_164, N_X11_trace_165, N_X11_trace_167, N_X11_trace_170, N_X11_trace_173, N_X11_trace_176, N_X11_trace_179, N_X11_trace_181, if_true, if_false, ite_true, ite_false, not_false_eq_true, not_true_eq_false, isRf_ref, isRf_null, c1_int, c1_ref, c1_null, c1_none, rfv_some, rfv_none, Ok_s, tl_some, tl_none, List.nil_append, b2i_n1, b2i_n0, ↓reduceIte, nI_add, pk_mul, pk_sub, n_leT, n_leF, n_ltT, n_ltF, n_eqT, n_eqF, n_shl1, n_shl, n_shr, nI_and, nI_or, nI_xor, b2i_z, b2i_o, m1_n, n_m1, m1_lt, m1_le, n_lm1, n_em1, nI_m1, and1, and3, and7, and15, and63, and255, Bool.true_eq_false, Bool.false_eq_true, reduceCtorEq, Nat.reduceAdd, Nat.reduceMul, Nat.reduceSub, Nat.reduceDiv, Nat.reduceMod, Nat.reducePow, Nat.zero_add, Nat.one_mul, r_isSet hK hA, hs, r_liesN, hn, hC, hse, Bool.true_and]
          refine Ok.mono (r_look hK hA hc) ?_
          rintro q ⟨I1, L1, rfl, hf1, hd1⟩
          have ho := hd1.1.2.2.1 4327 (by decide) (by decide) (by decide)
          have hW := hd1.1.2.2.1 4321 (by decide) (by decide) (by decide)
          have hP := hd1.1.2.2.1 4320 (by decide) (by decide) (by decide)
          simp (disch := first | omega | exact c1_int _ | exact c1_none | exact c1_ref _ | exact isRf_ref _ | assumption | exact okRb _ | exact okN1 | exact okN0 | exact rfl) only [N_X11_trace_0, N_X11_trace_1, N_X11_trace_2, N_X11_trace_3, N_X11_trace_6, N_X11_trace_9, N_X11_trace_10, N_X11_trace_11, N_X11_trace_13, N_X11_trace_16, N_X11_trace_19, N_X11_trace_20, N_X11_trace_21, N_X11_trace_24, N_X11_trace_27, N_X11_trace_28, N_X11_trace_31, N_X11_trace_32, N_X11_trace_33, N_X11_trace_36, N_X11_trace_39, N_X11_trace_42, N_X11_trace_43, N_X11_trace_44, N_X11_trace_45, N_X11_trace_48, N_X11_trace_49, N_X11_trace_51, N_X11_trace_52, N_X11_trace_55, N_X11_trace_58, N_X11_trace_59, N_X11_trace_61, N_X11_trace_62, N_X11_trace_66, N_X11_trace_67, N_X11_trace_70, N_X11_trace_71, N_X11_trace_74, N_X11_trace_77, N_X11_trace_79, N_X11_trace_80, N_X11_trace_81, N_X11_trace_83, N_X11_trace_84, N_X11_trace_87, N_X11_trace_89, N_X11_trace_91, N_X11_trace_92, N_X11_trace_94, N_X11_trace_95, N_X11_trace_96, N_X11_trace_99, N_X11_trace_100, N_X11_trace_101, N_X11_trace_102, N_X11_trace_103, N_X11_trace_105, N_X11_trace_107, N_X11_trace_109, N_X11_trace_112, N_X11_trace_114, N_X11_trace_115, N_X11_trace_117, N_X11_trace_119, N_X11_trace_122, N_X11_trace_124, N_X11_trace_125, N_X11_trace_127, N_X11_trace_129, N_X11_trace_130, N_X11_trace_133, N_X11_trace_136, N_X11_trace_137, N_X11_trace_140, N_X11_trace_141, N_X11_trace_143, N_X11_trace_144, N_X11_trace_145, N_X11_trace_146, N_X11_trace_147, N_X11_trace_149, N_X11_trace_150, N_X11_trace_151, N_X11_trace_152, N_X11_trace_153, N_X11_trace_156, N_X11_trace_158, N_X11_trace_159, N_X11_trace_161, N_X11_trace_162, N_X11_trace_163, N_X11_trace_164, N_X11_trace_165, N_X11_trace_167, N_X11_trace_170, N_X11_trace_173, N_X11_trace_176, N_X11_trace_179, N_X11_trace_181, if_true, if_false, ite_true, ite_false, not_false_eq_true, not_true_eq_false, isRf_ref, isRf_null, c1_int, c1_ref, c1_null, c1_none, rfv_some, rfv_none, Ok_s, tl_some, tl_none, List.nil_append, b2i_n1, b2i_n0, ↓reduceIte, nI_add, pk_mul, pk_sub, n_leT, n_leF, n_ltT, n_ltF, n_eqT, n_eqF, n_shl1, n_shl, n_shr, nI_and, nI_or, nI_xor, b2i_z, b2i_o, m1_n, n_m1, m1_lt, m1_le, n_lm1, n_em1, nI_m1, and1, and3, and7, and15, and63, and255, Bool.true_eq_false, Bool.false_eq_true, reduceCtorEq, Nat.reduceAdd, Nat.reduceMul, Nat.reduceSub, Nat.reduceDiv, Nat.reduceMod, Nat.reducePow, Nat.zero_add, Nat.one_mul, ho]
          have main : ∀ k st, k ≤ n → trA a (8 * s + a 4327) seen k = some st → ∀ u7 u8, G_X11_trace xs Ln (d + 104) 64 [some (.ref 82), some (.int (nI s)), some (.int (nI n)), some (.int (nI seen)), some (.int (nI (st / 8))), some (.int (nI (st % 8))), some (.int (nI k)), u7, u8] [] (mkW D I1 L1) (fun q => ∃ I' L', q = (mkW D I' L', some (.int (nO ((trA a (8 * s + a 4327) seen n).map (· / 8))))) ∧ QF I I' ∧ RIc I' a v) := by
           refine Lp (n := n) (σ := Nat) (E := fun k st => ∀ u7 u8, G_X11_trace xs Ln (d + 104) 64 [some (.ref 82), some (.int (nI s)), some (.int (nI n)), some (.int (nI seen)), some (.int (nI (st / 8))), some (.int (nI (st % 8))), some (.int (nI k)), u7, u8] [] (mkW D I1 L1) _) (Inv := fun k st => trA a (8 * s + a 4327) seen k = some st) ?_ ?_
           · rintro st hst u7 u8
             simp (disch := first | omega | exact c1_int _ | exact c1_none | exact c1_ref _ | exact isRf_ref _ | assumption | exact okRb _ | exact okN1 | exact okN0 | exact rfl) only [N_X11_trace_0, N_X11_trace_1, N_X11_trace_2, N_X11_trace_3, N_X11_trace_6, N_X11_trace_9, N_X11_trace_10, N_X11_trace_11, N_X11_trace_13, N_X11_trace_16, N_X11_trace_19, N_X11_trace_20, N_X11_trace_21, N_X11_trace_24, N_X11_trace_27, N_X11_trace_28, N_X11_trace_31, N_X11_trace_32, N_X11_trace_33, N_X11_trace_36, N_X11_trace_39, N_X11_trace_42, N_X11_trace_43, N_X11_trace_44, N_X11_trace_45, N_X11_trace_48, N_X11_trace_49, N_X11_trace_51, N_X11_trace_52, N_X11_trace_55, N_X11_trace_58, N_X11_trace_59, N_X11_trace_61, N_X11_trace_62, N_X11_trace_64, N_X11_trace_66, N_X11_trace_67, N_X11_trace_70, N_X11_trace_71, N_X11_trace_74, N_X11_trace_77, N_X11_trace_79, N_X11_trace_80, N_X11_trace_81, N_X11_trace_83, N_X11_trace_84, N_X11_trace_87, N_X11_trace_89, N_X11_trace_91, N_X11_trace_92, N_X11_trace_94, N_X11_trace_95, N_X11_trace_96, N_X11_trace_99, N_X11_trace_100, N_X11_trace_101, N_X11_trace_102, N_X11_trace_103, N_X11_trace_105, N_X11_trace_107, N_X11_trace_109, N_X11_trace_112, N_X11_trace_114, N_X11_trace_115, N_X11_trace_117, N_X11_trace_119, N_X11_trace_122, N_X11_trace_124, N_X11_trace_125, N_X11_trace_127, N_X11_trace_129, N_X11_trace_130, N_X11_trace_133, N_X11_trace_136, N_X11_trace_137, N_X11_trace_140, N_X11_trace_141, N_X11_trace_143, N_X11_trace_144, N_X11_trace_145, N_X11_trace_146, N_X11_trace_147, N_X11_trace_149, N_X11_trace_150, N_X11_trace_151, N_X11_trace_152, N_X11_trace_153, N_X11_trace_156, N_X11_trace_158, N_X11_trace_159, N_X11_trace_161, N_X11_trace_162, N_X11_trace_163, N_X11_trace_164, N_X11_trace_165, N_X11_trace_167, N_X11_trace_170, N_X11_trace_173, N_X11_trace_176, N_X11_trace_179, N_X11_trace_181, if_true, if_false, ite_true, ite_false, not_false_eq_true, not_true_eq_false, isRf_ref, isRf_null, c1_int, c1_ref, c1_null, c1_none, rfv_some, rfv_none, Ok_s, tl_some, tl_none, List.nil_append, b2i_n1, b2i_n0, ↓reduceIte, nI_add, pk_mul, pk_sub, n_leT, n_leF, n_ltT, n_ltF, n_eqT, n_eqF, n_shl1, n_shl, n_shr, nI_and, nI_or, nI_xor, b2i_z, b2i_o, m1_n, n_m1, m1_lt, m1_le, n_lm1, n_em1, nI_m1, and1, and3, and7, and15, and63, and255, Bool.true_eq_false, Bool.false_eq_true, reduceCtorEq, Nat.reduceAdd, Nat.reduceMul, Nat.reduceSub, Nat.reduceDiv, Nat.reduceMod, Nat.reducePow, Nat.zero_add, Nat.one_mul]
             rw [hst]
             exact ⟨_, _, rfl, hf1, hd1.2.1⟩
           · rintro k st hk hst ih u7 u8
             have hvst := tr_v hA hv0 k st hst
             have hst1 := hvst.1
             have hcw := hA.2.2.2.2.2.2.2.2.2.2.2.2.2.1 k (by omega)
             have hck := hd1.1.2.2.1 (164 + k) (by omega) (by omega) (by omega)
             have hb := hd1.2.2.1.b hcw hw8 (show st % 8 < 8 by omega)
             have hts : trA a (8 * s + a 4327) seen (k + 1) = match behA a 1 st (a (164 + k)) with
               | none => none
               | some y => some (8 * (y / 8 &&& cpl a (seen / 2 ^ (2 * k) % 4) (a 4320)) + y % 8) := by
               show (match trA a (8 * s + a 4327) seen k with
                 | none => none
                 | some s => match behA a 1 s (a (164 + k)) with
                   | none => none
                   | some y => some (8 * (y / 8 &&& cpl a (seen / 2 ^ (2 * k) % 4) (a 4320)) + y % 8)) = _
               rw [hst]
             rw [N_X11_trace_64]
             cases hbr : brA a (a (164 + k)) (st % 8) with
             | true =>
               rw [hbr] at hb
               have hbn : behA a 1 st (a (164 + k)) = none := by unfold behA; rw [if_neg (by rw [hbr]; simp)]
               have hno : ∀ j, k < j → trA a (8 * s + a 4327) seen j = none := by
                 intro j hj
                 induction j with
                 | zero => omega
                 | succ j ihj =>
                   by_cases hjk : j = k
                   · subst hjk; rw [hts, hbn]
                   · show (match trA a (8 * s + a 4327) seen j with
                       | none => none
                       | some s => match behA a 1 s (a (164 + j)) with
                         | none => none
                         | some y => some (8 * (y / 8 &&& cpl a (seen / 2 ^ (2 * j) % 4) (a 4320)) + y % 8)) = _
                     rw [ihj (by omega)]
               simp (disch := first | omega | exact c1_int _ | exact c1_none | exact c1_ref _ | exact isRf_ref _ | assumption | exact okRb _ | exact okN1 | exact okN0 | exact rfl) only [N_X11_trace_0, N_X11_trace_1, N_X11_trace_2, N_X11_trace_3, N_X11_trace_6, N_X11_trace_9, N_X11_trace_10, N_X11_trace_11, N_X11_trace_13, N_X11_trace_16, N_X11_trace_19, N_X11_trace_20, N_X11_trace_21, N_X11_trace_24, N_X11_trace_27, N_X11_trace_28, N_X11_trace_31, N_X11_trace_32, N_X11_trace_33, N_X11_trace_36, N_X11_trace_39, N_X11_trace_42, N_X11_trace_43, N_X11_trace_44, N_X11_trace_45, N_X11_trace_48, N_X11_trace_49, N_X11_trace_51, N_X11_trace_52, N_X11_trace_55, N_X11_trace_58, N_X11_trace_59, N_X11_trace_61, N_X11_trace_62, N_X11_trace_66, N_X11_trace_67, N_X11_trace_70, N_X11_trace_71, N_X11_trace_74, N_X11_trace_77, N_X11_trace_79, N_X11_trace_80, N_X11_trace_81, N_X11_trace_83, N_X11_trace_84, N_X11_trace_87, N_X11_trace_89, N_X11_trace_91, N_X11_trace_92, N_X11_trace_94, N_X11_trace_95, N_X11_trace_96, N_X11_trace_99, N_X11_trace_100, N_X11_trace_101, N_X11_trace_102, N_X11_trace_103, N_X11_trace_105, N_X11_trace_107, N_X11_trace_109, N_X11_trace_112, N_X11_trace_114, N_X11_trace_115, N_X11_trace_117, N_X11_trace_119, N_X11_trace_122, N_X11_trace_124, N_X11_trace_125, N_X11_trace_127, N_X11_trace_129, N_X11_trace_130, N_X11_trace_133, N_X11_trace_136, N_X11_trace_137, N_X11_trace_140, N_X11_trace_141, N_X11_trace_143, N_X11_trace_144, N_X11_trace_145, N_X11_trace_146, N_X11_trace_147, N_X11_trace_149, N_X11_trace_150, N_X11_trace_151, N_X11_trace_152, N_X11_trace_153, N_X11_trace_156, N_X11_trace_158, N_X11_trace_159, N_X11_trace_161, N_X11_trace_162, N_X11_trace_163, N_X11_trace_164, N_X11_trace_165, N_X11_trace_167, N_X11_trace_170, N_X11_trace_173, N_X11_trace_176, N_X11_trace_179, N_X11_trace_181, if_true, if_false, ite_true, ite_false, not_false_eq_true, not_true_eq_false, isRf_ref, isRf_null, c1_int, c1_ref, c1_null, c1_none, rfv_some, rfv_none, Ok_s, tl_some, tl_none, List.nil_append, b2i_n1, b2i_n0, ↓reduceIte, nI_add, pk_mul, pk_sub, n_leT, n_leF, n_ltT, n_ltF, n_eqT, n_eqF, n_shl1, n_shl, n_shr, nI_and, nI_or, nI_xor, b2i_z, b2i_o, m1_n, n_m1, m1_lt, m1_le, n_lm1, n_em1, nI_m1, and1, and3, and7, and15, and63, and255, Bool.true_eq_false, Bool.false_eq_true, reduceCtorEq, Nat.reduceAdd, Nat.reduceMul, Nat.reduceSub, Nat.reduceDiv, Nat.reduceMod, Nat.reducePow, Nat.zero_add, Nat.one_mul, hck, hb]
               rw [hno n hk]
               exact ⟨_, _, rfl, hf1, hd1.2.1⟩
             | false =>
               rw [hbr] at hb
               have hbs : behA a 1 st (a (164 + k)) = some (8 * sbN (goA a) 1 (st / 8) (a (164 + k)) (st % 8) + dbA a (a (164 + k)) (st % 8)) := by unfold behA; rw [if_pos ⟨hcw, hbr⟩]
               have hvy := (beh_v hA (by decide) (by decide) hvst hbs).1
               have hdl := dbA_lt hA hcw (show st % 8 < 8 by omega)
               have hsb := r_setBehind (xs := xs) (Ln := Ln) (d := d + 102) (D := D) (L := L1) (hd1.2.2.1.g hw8 hA.1) hw8 hA.1 (fun k w e p hk hw he hp => goA_lt hA hk hw hp) (m := 1) (by decide) (by decide) (show st / 8 < 4096 by omega) hvst.2 hcw (show st % 8 < 8 by omega)
               have hdb := r_doorsB (xs := xs) (Ln := Ln) (d := d + 103) (D := D) (L := L1) hd1.1 hA hcw (show st % 8 < 8 by omega)
               generalize hS : sbN (goA a) 1 (st / 8) (a (164 + k)) (st % 8) = S at hbs hsb hvy
               generalize hE : dbA a (a (164 + k)) (st % 8) = E at hbs hdb hdl hvy
               have hy1 : (8 * S + E) / 8 = S := by omega
               have hSl : S < 2 ^ a 4320 := by
                 have := okS1.mp hvy.2
                 rw [hy1] at this
                 exact this
               have hS4 : S < 4096 := Nat.lt_of_lt_of_le hSl (pw_lt h1)
               simp (disch := first | omega | exact c1_int _ | exact c1_none | exact c1_ref _ | exact isRf_ref _ | assumption | exact okRb _ | exact okN1 | exact okN0 | exact rfl) only [N_X11_trace_0, N_X11_trace_1, N_X11_trace_2, N_X11_trace_3, N_X11_trace_6, N_X11_trace_9, N_X11_trace_10, N_X11_trace_11, N_X11_trace_13, N_X11_trace_16, N_X11_trace_19, N_X11_trace_20, N_X11_trace_21, N_X11_trace_24, N_X11_trace_27, N_X11_trace_28, N_X11_trace_31, N_X11_trace_32, N_X11_trace_33, N_X11_trace_36, N_X11_trace_39, N_X11_trace_42, N_X11_trace_43, N_X11_trace_44, N_X11_trace_45, N_X11_trace_48, N_X11_trace_49, N_X11_trace_51, N_X11_trace_52, N_X11_trace_55, N_X11_trace_58, N_X11_trace_59, N_X11_trace_61, N_X11_trace_62, N_X11_trace_66, N_X11_trace_67, N_X11_trace_70, N_X11_trace_71, N_X11_trace_74, N_X11_trace_77, N_X11_trace_79, N_X11_trace_80, N_X11_trace_81, N_X11_trace_83, N_X11_trace_84, N_X11_trace_87, N_X11_trace_89, N_X11_trace_91, N_X11_trace_92, N_X11_trace_94, N_X11_trace_95, N_X11_trace_96, N_X11_trace_99, N_X11_trace_100, N_X11_trace_101, N_X11_trace_102, N_X11_trace_103, N_X11_trace_105, N_X11_trace_107, N_X11_trace_109, N_X11_trace_112, N_X11_trace_114, N_X11_trace_115, N_X11_trace_117, N_X11_trace_119, N_X11_trace_122, N_X11_trace_124, N_X11_trace_125, N_X11_trace_129, N_X11_trace_130, N_X11_trace_133, N_X11_trace_136, N_X11_trace_137, N_X11_trace_140, N_X11_trace_141, N_X11_trace_143, N_X11_trace_144, N_X11_trace_145, N_X11_trace_146, N_X11_trace_147, N_X11_trace_149, N_X11_trace_150, N_X11_trace_151, N_X11_trace_152, N_X11_trace_153, N_X11_trace_156, N_X11_trace_158, N_X11_trace_159, N_X11_trace_161, N_X11_trace_162, N_X11_trace_163, N_X11_trace_164, N_X11_trace_165, N_X11_trace_167, N_X11_trace_170, N_X11_trace_173, N_X11_trace_176, N_X11_trace_179, N_X11_trace_181, if_true, if_false, ite_true, ite_false, not_false_eq_true, not_true_eq_false, isRf_ref, isRf_null, c1_int, c1_ref, c1_null, c1_none, rfv_some, rfv_none, Ok_s, tl_some, tl_none, List.nil_append, b2i_n1, b2i_n0, ↓reduceIte, nI_add, pk_mul, pk_sub, n_leT, n_leF, n_ltT, n_ltF, n_eqT, n_eqF, n_shl1, n_shl, n_shr, nI_and, nI_or, nI_xor, b2i_z, b2i_o, m1_n, n_m1, m1_lt, m1_le, n_lm1, n_em1, nI_m1, and1, and3, and7, and15, and63, and255, Bool.true_eq_false, Bool.false_eq_true, reduceCtorEq, Nat.reduceAdd, Nat.reduceMul, Nat.reduceSub, Nat.reduceDiv, Nat.reduceMod, Nat.reducePow, Nat.zero_add, Nat.one_mul, hck, hb, hsb, hdb]
               -- the colours
               have hpw : 2 ^ (2 * k) ≤ 2 ^ 28 := pw_lt (by omega)
               have hsk : seen / 2 ^ (2 * k) < 2147483648 := Nat.lt_of_le_of_lt (Nat.div_le_self _ _) (by omega)
               refine Lp (n := a 4320) (σ := Unit) (E := fun p _ => G_X11_trace xs Ln (d + 104) 127 [some (.ref 82), some (.int (nI s)), some (.int (nI n)), some (.int (nI seen)), some (.int (nI (rmv a (seen / 2 ^ (2 * k) % 4) S p))), some (.int (nI E)), some (.int (nI k)), some (.int (nI (a (164 + k)))), some (.int (nI p))] [] (mkW D I1 L1) _) (Inv := fun _ _ => True) ?_ ?_ 0 () (by omega) trivial
               · rintro _ _
                 have hle := rmv_le a (seen / 2 ^ (2 * k) % 4) S (a 4320)
                 have hrc := rmv_cpl (a := a) (c := seen / 2 ^ (2 * k) % 4) hSl h1
                 simp (disch := first | omega | exact c1_int _ | exact c1_none | exact c1_ref _ | exact isRf_ref _ | assumption | exact okRb _ | exact okN1 | exact okN0 | exact rfl) only [N_X11_trace_0, N_X11_trace_1, N_X11_trace_2, N_X11_trace_3, N_X11_trace_6, N_X11_trace_9, N_X11_trace_10, N_X11_trace_11, N_X11_trace_13, N_X11_trace_16, N_X11_trace_19, N_X11_trace_20, N_X11_trace_21, N_X11_trace_24, N_X11_trace_27, N_X11_trace_28, N_X11_trace_31, N_X11_trace_32, N_X11_trace_33, N_X11_trace_36, N_X11_trace_39, N_X11_trace_42, N_X11_trace_43, N_X11_trace_44, N_X11_trace_45, N_X11_trace_48, N_X11_trace_49, N_X11_trace_51, N_X11_trace_52, N_X11_trace_55, N_X11_trace_58, N_X11_trace_59, N_X11_trace_61, N_X11_trace_62, N_X11_trace_66, N_X11_trace_67, N_X11_trace_70, N_X11_trace_71, N_X11_trace_74, N_X11_trace_77, N_X11_trace_79, N_X11_trace_80, N_X11_trace_81, N_X11_trace_83, N_X11_trace_84, N_X11_trace_87, N_X11_trace_89, N_X11_trace_91, N_X11_trace_92, N_X11_trace_94, N_X11_trace_95, N_X11_trace_96, N_X11_trace_99, N_X11_trace_100, N_X11_trace_101, N_X11_trace_102, N_X11_trace_103, N_X11_trace_105, N_X11_trace_107, N_X11_trace_109, N_X11_trace_112, N_X11_trace_114, N_X11_trace_115, N_X11_trace_117, N_X11_trace_119, N_X11_trace_122, N_X11_trace_124, N_X11_trace_125, N_X11_trace_129, N_X11_trace_130, N_X11_trace_133, N_X11_trace_136, N_X11_trace_137, N_X11_trace_140, N_X11_trace_141, N_X11_trace_143, N_X11_trace_144, N_X11_trace_145, N_X11_trace_146, N_X11_trace_147, N_X11_trace_149, N_X11_trace_150, N_X11_trace_151, N_X11_trace_152, N_X11_trace_153, N_X11_trace_156, N_X11_trace_158, N_X11_trace_159, N_X11_trace_161, N_X11_trace_162, N_X11_trace_163, N_X11_trace_164, N_X11_trace_165, N_X11_trace_167, N_X11_trace_170, N_X11_trace_173, N_X11_trace_176, N_X11_trace_179, N_X11_trace_181, N_X11_trace_127, if_true, if_false, ite_true, ite_false, not_false_eq_true, not_true_eq_false, isRf_ref, isRf_null, c1_int, c1_ref, c1_null, c1_none, rfv_some, rfv_none, Ok_s, tl_some, tl_none, List.nil_append, b2i_n1, b2i_n0, ↓reduceIte, nI_add, pk_mul, pk_sub, n_leT, n_leF, n_ltT, n_ltF, n_eqT, n_eqF, n_shl1, n_shl, n_shr, nI_and, nI_or, nI_xor, b2i_z, b2i_o, m1_n, n_m1, m1_lt, m1_le, n_lm1, n_em1, nI_m1, and1, and3, and7, and15, and63, and255, Bool.true_eq_false, Bool.false_eq_true, reduceCtorEq, Nat.reduceAdd, Nat.reduceMul, Nat.reduceSub, Nat.reduceDiv, Nat.reduceMod, Nat.reducePow, Nat.zero_add, Nat.one_mul, c_places, hP]
                 have := ih (8 * (rmv a (seen / 2 ^ (2 * k) % 4) S (a 4320)) + E) (by rw [hts, hbs, hrc]; show some (8 * ((8 * S + E) / 8 &&& _) + (8 * S + E) % 8) = _; rw [hy1, show (8 * S + E) % 8 = E by omega]) (some (.int (nI (a (164 + k))))) (some (.int (nI (a 4320))))
                 rw [show (8 * (rmv a (seen / 2 ^ (2 * k) % 4) S (a 4320)) + E) / 8 = rmv a (seen / 2 ^ (2 * k) % 4) S (a 4320) by omega, show (8 * (rmv a (seen / 2 ^ (2 * k) % 4) S (a 4320)) + E) % 8 = E by omega] at this
                 exact this
               · rintro p _ hp _ ih2
                 have hle := rmv_le a (seen / 2 ^ (2 * k) % 4) S p
                 have hcp := hd1.1.1 p (by omega)
                 have hc4 := hA.2.2.2.2.2.2.2.2.1 p hp
                 have hpl : 2 ^ p < 2 ^ 12 := Nat.pow_lt_pow_right (by decide) (by omega)
                 have hrs : rmv a (seen / 2 ^ (2 * k) % 4) S (p + 1) = if a p = seen / 2 ^ (2 * k) % 4 then rmv a (seen / 2 ^ (2 * k) % 4) S p else adn (rmv a (seen / 2 ^ (2 * k) % 4) S p) (2 ^ p) := rfl
                 have ih3 := ih2 () trivial
                 rw [hrs] at ih3
                 rw [N_X11_trace_127]
                 by_cases he : a p = seen / 2 ^ (2 * k) % 4
                 · rw [if_pos he] at ih3
                   simp (disch := first | omega | exact c1_int _ | exact c1_none | exact c1_ref _ | exact isRf_ref _ | assumption | exact okRb _ | exact okN1 | exact okN0 | exact rfl) only [N_X11_trace_0, N_X11_trace_1, N_X11_trace_2, N_X11_trace_3, N_X11_trace_6, N_X11_trace_9, N_X11_trace_10, N_X11_trace_11, N_X11_trace_13, N_X11_trace_16, N_X11_trace_19, N_X11_trace_20, N_X11_trace_21, N_X11_trace_24, N_X11_trace_27, N_X11_trace_28, N_X11_trace_31, N_X11_trace_32, N_X11_trace_33, N_X11_trace_36, N_X11_trace_39, N_X11_trace_42, N_X11_trace_43, N_X11_trace_44, N_X11_trace_45, N_X11_trace_48, N_X11_trace_49, N_X11_trace_51, N_X11_trace_52, N_X11_trace_55, N_X11_trace_58, N_X11_trace_59, N_X11_trace_61, N_X11_trace_62, N_X11_trace_66, N_X11_trace_67, N_X11_trace_70, N_X11_trace_71, N_X11_trace_74, N_X11_trace_77, N_X11_trace_79, N_X11_trace_80, N_X11_trace_81, N_X11_trace_83, N_X11_trace_84, N_X11_trace_87, N_X11_trace_89, N_X11_trace_91, N_X11_trace_92, N_X11_trace_94, N_X11_trace_95, N_X11_trace_96, N_X11_trace_99, N_X11_trace_100, N_X11_trace_101, N_X11_trace_102, N_X11_trace_103, N_X11_trace_105, N_X11_trace_107, N_X11_trace_109, N_X11_trace_112, N_X11_trace_114, N_X11_trace_115, N_X11_trace_117, N_X11_trace_119, N_X11_trace_122, N_X11_trace_124, N_X11_trace_125, N_X11_trace_129, N_X11_trace_130, N_X11_trace_133, N_X11_trace_136, N_X11_trace_137, N_X11_trace_140, N_X11_trace_141, N_X11_trace_143, N_X11_trace_144, N_X11_trace_145, N_X11_trace_146, N_X11_trace_147, N_X11_trace_149, N_X11_trace_150, N_X11_trace_151, N_X11_trace_152, N_X11_trace_153, N_X11_trace_156, N_X11_trace_158, N_X11_trace_159, N_X11_trace_161, N_X11_trace_162, N_X11_trace_163, N_X11_trace_164, N_X11_trace_165, N_X11_trace_167, N_X11_trace_170, N_X11_trace_173, N_X11_trace_176, N_X11_trace_179, N_X11_trace_181, if_true, if_false, ite_true, ite_false, not_false_eq_true, not_true_eq_false, isRf_ref, isRf_null, c1_int, c1_ref, c1_null, c1_none, rfv_some, rfv_none, Ok_s, tl_some, tl_none, List.nil_append, b2i_n1, b2i_n0, ↓reduceIte, nI_add, pk_mul, pk_sub, n_leT, n_leF, n_ltT, n_ltF, n_eqT, n_eqF, n_shl1, n_shl, n_shr, nI_and, nI_or, nI_xor, b2i_z, b2i_o, m1_n, n_m1, m1_lt, m1_le, n_lm1, n_em1, nI_m1, and1, and3, and7, and15, and63, and255, Bool.true_eq_false, Bool.false_eq_true, reduceCtorEq, Nat.reduceAdd, Nat.reduceMul, Nat.reduceSub, Nat.reduceDiv, Nat.reduceMod, Nat.reducePow, Nat.zero_add, Nat.one_mul, c_places, hP, hcp]
                   exact ih3
                 · rw [if_neg he] at ih3
                   simp (disch := first | omega | exact c1_int _ | exact c1_none | exact c1_ref _ | exact isRf_ref _ | assumption | exact okRb _ | exact okN1 | exact okN0 | exact rfl) only [N_X11_trace_0, N_X11_trace_1, N_X11_trace_2, N_X11_trace_3, N_X11_trace_6, N_X11_trace_9, N_X11_trace_10, N_X11_trace_11, N_X11_trace_13, N_X11_trace_16, N_X11_trace_19, N_X11_trace_20, N_X11_trace_21, N_X11_trace_24, N_X11_trace_27, N_X11_trace_28, N_X11_trace_31, N_X11_trace_32, N_X11_trace_33, N_X11_trace_36, N_X11_trace_39, N_X11_trace_42, N_X11_trace_43, N_X11_trace_44, N_X11_trace_45, N_X11_trace_48, N_X11_trace_49, N_X11_trace_51, N_X11_trace_52, N_X11_trace_55, N_X11_trace_58, N_X11_trace_59, N_X11_trace_61, N_X11_trace_62, N_X11_trace_66, N_X11_trace_67, N_X11_trace_70, N_X11_trace_71, N_X11_trace_74, N_X11_trace_77, N_X11_trace_79, N_X11_trace_80, N_X11_trace_81, N_X11_trace_83, N_X11_trace_84, N_X11_trace_87, N_X11_trace_89, N_X11_trace_91, N_X11_trace_92, N_X11_trace_94, N_X11_trace_95, N_X11_trace_96, N_X11_trace_99, N_X11_trace_100, N_X11_trace_101, N_X11_trace_102, N_X11_trace_103, N_X11_trace_105, N_X11_trace_107, N_X11_trace_109, N_X11_trace_112, N_X11_trace_114, N_X11_trace_115, N_X11_trace_117, N_X11_trace_119, N_X11_trace_122, N_X11_trace_124, N_X11_trace_125, N_X11_trace_129, N_X11_trace_130, N_X11_trace_133, N_X11_trace_136, N_X11_trace_137, N_X11_trace_140, N_X11_trace_141, N_X11_trace_143, N_X11_trace_144, N_X11_trace_145, N_X11_trace_146, N_X11_trace_147, N_X11_trace_149, N_X11_trace_150, N_X11_trace_151, N_X11_trace_152, N_X11_trace_153, N_X11_trace_156, N_X11_trace_158, N_X11_trace_159, N_X11_trace_161, N_X11_trace_162, N_X11_trace_163, N_X11_trace_164, N_X11_trace_165, N_X11_trace_167, N_X11_trace_170, N_X11_trace_173, N_X11_trace_176, N_X11_trace_179, N_X11_trace_181, if_true, if_false, ite_true, ite_false, not_false_eq_true, not_true_eq_false, isRf_ref, isRf_null, c1_int, c1_ref, c1_null, c1_none, rfv_some, rfv_none, Ok_s, tl_some, tl_none, List.nil_append, b2i_n1, b2i_n0, ↓reduceIte, nI_add, pk_mul, pk_sub, n_leT, n_leF, n_ltT, n_ltF, n_eqT, n_eqF, n_shl1, n_shl, n_shr, nI_and, nI_or, nI_xor, b2i_z, b2i_o, m1_n, n_m1, m1_lt, m1_le, n_lm1, n_em1, nI_m1, and1, and3, and7, and15, and63, and255, Bool.true_eq_false, Bool.false_eq_true, reduceCtorEq, Nat.reduceAdd, Nat.reduceMul, Nat.reduceSub, Nat.reduceDiv, Nat.reduceMod, Nat.reducePow, Nat.zero_add, Nat.one_mul, c_places, hP, hcp, n_adn]
                   exact ih3
          have h0 := main 0 (8 * s + a 4327) (by omega) rfl none none
          rw [show (8 * s + a 4327) / 8 = s by omega, show (8 * s + a 4327) % 8 = a 4327 by omega] at h0
          exact h0
      · rw [hinn, decide_eq_false (by omega)]
        simp (disch := first | omega | exact c1_int _ | exact c1_none | exact c1_ref _ | exact isRf_ref _ | assumption | exact okRb _ | exact okN1 | exact okN0 | exact rfl) only [N_X11_trace_0, N_X11_trace_1, N_X11_trace_2, N_X11_trace_3, N_X11_trace_6, N_X11_trace_9, N_X11_trace_10, N_X11_trace_11, N_X11_trace_13, N_X11_trace_16, N_X11_trace_19, N_X11_trace_20, N_X11_trace_21, N_X11_trace_24, N_X11_trace_27, N_X11_trace_28, N_X11_trace_31, N_X11_trace_32, N_X11_trace_33, N_X11_trace_36, N_X11_trace_39, N_X11_trace_42, N_X11_trace_43, N_X11_trace_44, N_X11_trace_45, N_X11_trace_48, N_X11_trace_49, N_X11_trace_51, N_X11_trace_52, N_X11_trace_55, N_X11_trace_58, N_X11_trace_59, N_X11_trace_61, N_X11_trace_62, N_X11_trace_66, N_X11_trace_67, N_X11_trace_70, N_X11_trace_71, N_X11_trace_74, N_X11_trace_77, N_X11_trace_79, N_X11_trace_80, N_X11_trace_81, N_X11_trace_83, N_X11_trace_84, N_X11_trace_87, N_X11_trace_89, N_X11_trace_91, N_X11_trace_92, N_X11_trace_94, N_X11_trace_95, N_X11_trace_96, N_X11_trace_99, N_X11_trace_100, N_X11_trace_101, N_X11_trace_102, N_X11_trace_103, N_X11_trace_105, N_X11_trace_107, N_X11_trace_109, N_X11_trace_112, N_X11_trace_114, N_X11_trace_115, N_X11_trace_117, N_X11_trace_119, N_X11_trace_122, N_X11_trace_124, N_X11_trace_125, N_X11_trace_127, N_X11_trace_129, N_X11_trace_130, N_X11_trace_133, N_X11_trace_136, N_X11_trace_137, N_X11_trace_140, N_X11_trace_141, N_X11_trace_143, N_X11_trace_144, N_X11_trace_145, N_X11_trace_146, N_X11_trace_147, N_X11_trace_149, N_X11_trace_150, N_X11_trace_151, N_X11_trace_152, N_X11_trace_153, N_X11_trace_156, N_X11_trace_158, N_X11_trace_159, N_X11_trace_161, N_X11_trace_162, N_X11_trace_163, N_X11_trace_164, N_X11_trace_165, N_X11_trace_167, N_X11_trace_170, N_X11_trace_173, N_X11_trace_176, N_X11_trace_179, N_X11_trace_181, if_true, if_false, ite_true, ite_false, not_false_eq_true, not_true_eq_false, isRf_ref, isRf_null, c1_int, c1_ref, c1_null, c1_none, rfv_some, rfv_none, Ok_s, tl_some, tl_none, List.nil_append, b2i_n1, b2i_n0, ↓reduceIte, nI_add, pk_mul, pk_sub, n_leT, n_leF, n_ltT, n_ltF, n_eqT, n_eqF, n_shl1, n_shl, n_shr, nI_and, nI_or, nI_xor, b2i_z, b2i_o, m1_n, n_m1, m1_lt, m1_le, n_lm1, n_em1, nI_m1, and1, and3, and7, and15, and63, and255, Bool.true_eq_false, Bool.false_eq_true, reduceCtorEq, Nat.reduceAdd, Nat.reduceMul, Nat.reduceSub, Nat.reduceDiv, Nat.reduceMod, Nat.reducePow, Nat.zero_add, Nat.one_mul, r_isSet hK hA, hs, r_liesN, hn, hC, Bool.false_and, Bool.true_and]
        exact ⟨_, _, rfl, QF.rf I, hc⟩
end P73
