section Pg8
variable {xs : Nat → Int32} {Ln d : Nat} {D D' D'' : Dyn} {I I' I'' J : Nat → Nat → Int32} {L : Nat → Nat → Int64} {w : Om} {Q : Res → Prop} {ow ow' ow'' ky ky' ky'' ln ln' ln'' a a' : Nat → Nat} {o be sr : Nat} {A A' : As} {nn : Nat}
/-! image, back -/
theorem CI_im {k : Nat} (h : CIx ow ky ln D I A nn) (hk : k < 2) (hD : DC (53 + 13 * k) 1 D D') : CIx ow ky ln D' (up2 (up2 (cpS (53 + 13 * k) 1 (cpM (53 + 13 * k) 1 I)) 79 k (nI 1)) 0 12 0) (aGr (aIm A k) (sa A)) nn ∧ CFr I (up2 (up2 (cpS (53 + 13 * k) 1 (cpM (53 + 13 * k) 1 I)) 79 k (nI 1)) 0 12 0) := by
  obtain ⟨J, hJ⟩ : ∃ J, J = up2 (up2 (cpS (53 + 13 * k) 1 (cpM (53 + 13 * k) 1 I)) 79 k (nI 1)) 0 12 0 := ⟨_, rfl⟩
  rw [← hJ]
  have e1 : ∀ i, i ≠ 0 → i ≠ 79 → J i = cpS (53 + 13 * k) 1 (cpM (53 + 13 * k) 1 I) i := fun i q1 q2 => by rw [hJ, up2_ro _ _ _ q1, up2_ro _ _ _ q2]
  have e2 : ∀ i, i ≠ 0 → i ≠ 79 → (i < 53 + 13 * k ∨ 53 + 13 * k + 12 < i) → J i = I i := fun i q1 q2 q3 => by rw [e1 i q1 q2, cp_o q3]
  have e0 : ∀ j, j ≠ 12 → J 0 j = I 0 j := fun j hj => by rw [hJ, up2_j _ _ _ hj, up2_ro _ _ _ (by decide), cp_o (by omega)]
  have e9 : ∀ j, J 79 j = if j = k then nI 1 else I 79 j := fun j => by
    rw [hJ, up2_ro _ _ _ (by decide)]
    by_cases c : j = k
    · rw [if_pos c, c, up2_s]
    · rw [if_neg c, up2_j _ _ _ c, cp_o (by omega)]
  obtain ⟨h1, h2, h3, h4, h5, h6, h7⟩ := h
  have hM := h4
  have hA := hM.2.1
  refine CIx.gen2 (A := A) (A' := aGr (aIm A k) (sa A)) ⟨h1, h2, h3, h4, h5, h6, h7⟩ (Nat.le_refl _) h1 (hD.da (by omega) h2) (hD.rm h3) (fun i q1 q2 => e2 i (by omega) (by omega) (by omega)) (SMv.rf _) (hM.1.k (fun i k1 k2 => e2 i (by omega) (by omega) (by omega))) hA (hD.la (by omega) (by omega) (fun i hi => e2 i (by omega) (by omega) (by omega)) hM.2.2.1) (h5.fr (e2 _ (by decide) (by decide) (by omega)) (e2 _ (by decide) (by decide) (by omega)) (e2 _ (by decide) (by decide) (by omega))) ?_
  obtain ⟨c1', c2, c3, c4, c5, c6, c7⟩ := h6
  refine ⟨fun i hi => ?_, by rw [hJ, up2_s]; rfl, by rw [e2 80 (by decide) (by decide) (by omega)]; exact c3, by rw [e0 14 (by decide)]; exact c4, by rw [e0 13 (by decide)]; exact c5, by rw [e2 14 (by decide) (by decide) (by omega), e2 15 (by decide) (by decide) (by omega)]; exact c6, ?_⟩
  · by_cases c : i = k
    · subst c
      refine ⟨?_, fun b hb => ?_⟩
      · show J 79 i = b2i (up1 (sim A) i (some (sa A)) i).isSome
        rw [up1_s, e9, if_pos rfl]
        rfl
      · have hb2 : up1 (sim A) i (some (sa A)) i = some b := hb
        rw [up1_s] at hb2
        cases hb2
        exact ⟨(MzI_cp hM.1 hA).k (fun j k1 k2 => e1 j (by omega) (by omega)), hA, hD.lb (by omega) hA (fun j hj => e2 j (by omega) (by omega) (by omega)) hM.2.2.1, (StI_cp h5 (by omega)).fr (e1 _ (by omega) (by omega)) (e1 _ (by omega) (by omega)) (e1 _ (by omega) (by omega))⟩
    · refine ⟨?_, fun b hb => ?_⟩
      · show J 79 i = b2i (up1 (sim A) k (some (sa A)) i).isSome
        rw [up1_n _ _ c, e9, if_neg c]
        exact (c1' i hi).1
      · have hb2 : up1 (sim A) k (some (sa A)) i = some b := hb
        rw [up1_n _ _ c] at hb2
        obtain ⟨g1, g2, g3, g4⟩ := (c1' i hi).2 b hb2
        exact ⟨g1.k (fun j k1 k2 => e2 j (by omega) (by omega) (by omega)), g2, hD.la (by omega) (by omega) (fun j hj => e2 j (by omega) (by omega) (by omega)) g3, g4.fr (e2 _ (by omega) (by omega) (by omega)) (e2 _ (by omega) (by omega) (by omega)) (e2 _ (by omega) (by omega) (by omega))⟩
  · show HnC _ (shn A)
    unfold HnC
    rw [e2 50 (by decide) (by decide) (by omega), e2 51 (by decide) (by decide) (by omega)]
    exact c7
theorem n2_f {v : Int32} (h : inN v (nI 2) = false) : v < nI 0 ∨ (¬ v < nI 0 ∧ (v < nI 2) = False) := by
  unfold inN at h
  by_cases hl : v < 0
  · exact Or.inl hl
  · rw [decide_eq_false hl, Bool.not_false, Bool.true_and, Bool.not_eq_false', decide_eq_true_eq] at h
    exact Or.inr ⟨hl, eq_false (by rw [Int32.lt_iff_toInt_lt]; rw [Int32.le_iff_toInt_le] at h; omega)⟩
theorem C_image {v : Int32} (h : CI D I A nn) : CCall xs Ln (d + 8) 133 [.ref 0, .int v] D I L (nImage A v).1 nn (nImage A v).2 := by
  unfold nImage
  cases h0 : inN v (nI 2)
  · rw [if_pos rfl]
    refine CC_rf rc1 h (Ok.eq ?_)
    refine semG (lo := [some (.ref 0), some (.int v)]) rfl rfl (Nat.le_of_ble_eq_true rfl) rfl (show G_X10_image xs Ln _ 0 [some (.ref 0), some (.int v)] [] _ _ from ?_)
    rcases n2_f h0 with hl | ⟨hl, hg⟩
    · simp (disch := first | omega | exact c1_int _ | exact c1_none | exact c1_ref _ | exact isRf_ref _ | assumption | exact okRb _ | exact okN1 | exact okN0 | exact rfl) only [N_X10_image_0, N_X10_image_1, N_X10_image_4, N_X10_image_5, N_X10_image_6, N_X10_image_9, N_X10_image_10, N_X10_image_11, N_X10_image_14, N_X10_image_15, N_X10_image_16, N_X10_image_19, N_X10_image_20, N_X10_image_21, N_X10_image_22, N_X10_image_25, N_X10_image_28, N_X10_image_29, N_X10_image_32, N_X10_image_33, N_X10_image_34, N_X10_image_35, N_X10_image_36, N_X10_image_37, N_X10_image_40, if_true, if_false, ite_true, ite_false, not_false_eq_true, not_true_eq_false, isRf_ref, isRf_null, c1_int, c1_ref, c1_null, c1_none, rfv_some, rfv_none, Ok_s, tl_some, tl_none, List.nil_append, b2i_n1, b2i_n0, ↓reduceIte, nI_add, pk_mul, pk_sub, n_leT, n_leF, n_ltT, n_ltF, n_eqT, n_eqF, n_shl1, n_shl, n_shr, nI_and, nI_or, nI_xor, b2i_z, b2i_o, m1_n, n_m1, m1_lt, m1_le, n_lm1, n_em1, nI_m1, and1, and3, and7, and15, and63, and255, Bool.true_eq_false, Bool.false_eq_true, reduceCtorEq, Nat.reduceAdd, Nat.reduceMul, Nat.reduceSub, Nat.reduceDiv, Nat.reduceMod, Nat.reducePow, Nat.zero_add, Nat.one_mul, hl]
      rw [c_refuse (y := m1) rc1]
      simp (disch := first | omega | exact c1_int _ | exact c1_none | exact c1_ref _ | exact isRf_ref _ | assumption | exact okRb _ | exact okN1 | exact okN0 | exact rfl) only [N_X10_image_0, N_X10_image_1, N_X10_image_4, N_X10_image_5, N_X10_image_6, N_X10_image_9, N_X10_image_10, N_X10_image_11, N_X10_image_14, N_X10_image_15, N_X10_image_16, N_X10_image_19, N_X10_image_20, N_X10_image_21, N_X10_image_22, N_X10_image_25, N_X10_image_28, N_X10_image_29, N_X10_image_32, N_X10_image_33, N_X10_image_34, N_X10_image_35, N_X10_image_36, N_X10_image_37, N_X10_image_40, if_true, if_false, ite_true, ite_false, not_false_eq_true, not_true_eq_false, isRf_ref, isRf_null, c1_int, c1_ref, c1_null, c1_none, rfv_some, rfv_none, Ok_s, tl_some, tl_none, List.nil_append, b2i_n1, b2i_n0, ↓reduceIte, nI_add, pk_mul, pk_sub, n_leT, n_leF, n_ltT, n_ltF, n_eqT, n_eqF, n_shl1, n_shl, n_shr, nI_and, nI_or, nI_xor, b2i_z, b2i_o, m1_n, n_m1, m1_lt, m1_le, n_lm1, n_em1, nI_m1, and1, and3, and7, and15, and63, and255, Bool.true_eq_false, Bool.false_eq_true, reduceCtorEq, Nat.reduceAdd, Nat.reduceMul, Nat.reduceSub, Nat.reduceDiv, Nat.reduceMod, Nat.reducePow, Nat.zero_add, Nat.one_mul]
      rfl
    · simp (disch := first | omega | exact c1_int _ | exact c1_none | exact c1_ref _ | exact isRf_ref _ | assumption | exact okRb _ | exact okN1 | exact okN0 | exact rfl) only [N_X10_image_0, N_X10_image_1, N_X10_image_4, N_X10_image_5, N_X10_image_6, N_X10_image_9, N_X10_image_10, N_X10_image_11, N_X10_image_14, N_X10_image_15, N_X10_image_16, N_X10_image_19, N_X10_image_20, N_X10_image_21, N_X10_image_22, N_X10_image_25, N_X10_image_28, N_X10_image_29, N_X10_image_32, N_X10_image_33, N_X10_image_34, N_X10_image_35, N_X10_image_36, N_X10_image_37, N_X10_image_40, if_true, if_false, ite_true, ite_false, not_false_eq_true, not_true_eq_false, isRf_ref, isRf_null, c1_int, c1_ref, c1_null, c1_none, rfv_some, rfv_none, Ok_s, tl_some, tl_none, List.nil_append, b2i_n1, b2i_n0, ↓reduceIte, nI_add, pk_mul, pk_sub, n_leT, n_leF, n_ltT, n_ltF, n_eqT, n_eqF, n_shl1, n_shl, n_shr, nI_and, nI_or, nI_xor, b2i_z, b2i_o, m1_n, n_m1, m1_lt, m1_le, n_lm1, n_em1, nI_m1, and1, and3, and7, and15, and63, and255, Bool.true_eq_false, Bool.false_eq_true, reduceCtorEq, Nat.reduceAdd, Nat.reduceMul, Nat.reduceSub, Nat.reduceDiv, Nat.reduceMod, Nat.reducePow, Nat.zero_add, Nat.one_mul, hl, hg]
      rw [c_refuse (y := m1) rc1]
      simp (disch := first | omega | exact c1_int _ | exact c1_none | exact c1_ref _ | exact isRf_ref _ | assumption | exact okRb _ | exact okN1 | exact okN0 | exact rfl) only [N_X10_image_0, N_X10_image_1, N_X10_image_4, N_X10_image_5, N_X10_image_6, N_X10_image_9, N_X10_image_10, N_X10_image_11, N_X10_image_14, N_X10_image_15, N_X10_image_16, N_X10_image_19, N_X10_image_20, N_X10_image_21, N_X10_image_22, N_X10_image_25, N_X10_image_28, N_X10_image_29, N_X10_image_32, N_X10_image_33, N_X10_image_34, N_X10_image_35, N_X10_image_36, N_X10_image_37, N_X10_image_40, if_true, if_false, ite_true, ite_false, not_false_eq_true, not_true_eq_false, isRf_ref, isRf_null, c1_int, c1_ref, c1_null, c1_none, rfv_some, rfv_none, Ok_s, tl_some, tl_none, List.nil_append, b2i_n1, b2i_n0, ↓reduceIte, nI_add, pk_mul, pk_sub, n_leT, n_leF, n_ltT, n_ltF, n_eqT, n_eqF, n_shl1, n_shl, n_shr, nI_and, nI_or, nI_xor, b2i_z, b2i_o, m1_n, n_m1, m1_lt, m1_le, n_lm1, n_em1, nI_m1, and1, and3, and7, and15, and63, and255, Bool.true_eq_false, Bool.false_eq_true, reduceCtorEq, Nat.reduceAdd, Nat.reduceMul, Nat.reduceSub, Nat.reduceDiv, Nat.reduceMod, Nat.reducePow, Nat.zero_add, Nat.one_mul]
      rfl
  · rw [if_neg (by decide)]
    obtain ⟨k, hk, rfl⟩ := inN_t (by decide) h0
    rw [n_cl (by omega)]
    obtain ⟨ow, ky, ln, h⟩ := h
    have hLP := h.2.2.2.1.2.2.1.2
    refine semG (lo := [some (.ref 0), some (.int (nI k))]) rfl rfl (Nat.le_of_ble_eq_true rfl) rfl (show G_X10_image xs Ln _ 0 [some (.ref 0), some (.int (nI k))] [] _ _ from ?_)
    have hk01 : k = 0 ∨ k = 1 := by omega
    rcases hk01 with rfl | rfl
    · obtain ⟨D', hc, hD⟩ := c_copyF_53_1 (xs := xs) (Ln := Ln) (d := d + 5) (I := I) (L := L) hLP
      have hg := CI_im (k := 0) h (by decide) hD
      have ho4 := o4_53 D I L
      simp (disch := first | omega | exact c1_int _ | exact c1_none | exact c1_ref _ | exact isRf_ref _ | assumption | exact okRb _ | exact okN1 | exact okN0 | exact rfl) only [N_X10_image_0, N_X10_image_1, N_X10_image_4, N_X10_image_5, N_X10_image_6, N_X10_image_9, N_X10_image_10, N_X10_image_11, N_X10_image_14, N_X10_image_15, N_X10_image_16, N_X10_image_19, N_X10_image_20, N_X10_image_21, N_X10_image_22, N_X10_image_25, N_X10_image_28, N_X10_image_29, N_X10_image_32, N_X10_image_33, N_X10_image_34, N_X10_image_35, N_X10_image_36, N_X10_image_37, N_X10_image_40, if_true, if_false, ite_true, ite_false, not_false_eq_true, not_true_eq_false, isRf_ref, isRf_null, c1_int, c1_ref, c1_null, c1_none, rfv_some, rfv_none, Ok_s, tl_some, tl_none, List.nil_append, b2i_n1, b2i_n0, ↓reduceIte, nI_add, pk_mul, pk_sub, n_leT, n_leF, n_ltT, n_ltF, n_eqT, n_eqF, n_shl1, n_shl, n_shr, nI_and, nI_or, nI_xor, b2i_z, b2i_o, m1_n, n_m1, m1_lt, m1_le, n_lm1, n_em1, nI_m1, and1, and3, and7, and15, and63, and255, Bool.true_eq_false, Bool.false_eq_true, reduceCtorEq, Nat.reduceAdd, Nat.reduceMul, Nat.reduceSub, Nat.reduceDiv, Nat.reduceMod, Nat.reducePow, Nat.zero_add, Nat.one_mul, show pF D 52 0 = some 53 from rfl, hc, c_grant, show vp_nar .boolean (nI 1) = nI 1 from rfl]
      exact ⟨_, _, _, rfl, ⟨ow, ky, ln, hg.1.up⟩, hg.2⟩
    · obtain ⟨D', hc, hD⟩ := c_copyF_66_1 (xs := xs) (Ln := Ln) (d := d + 5) (I := I) (L := L) hLP
      have hg := CI_im (k := 1) h (by decide) hD
      have ho4 := o4_66 D I L
      simp (disch := first | omega | exact c1_int _ | exact c1_none | exact c1_ref _ | exact isRf_ref _ | assumption | exact okRb _ | exact okN1 | exact okN0 | exact rfl) only [N_X10_image_0, N_X10_image_1, N_X10_image_4, N_X10_image_5, N_X10_image_6, N_X10_image_9, N_X10_image_10, N_X10_image_11, N_X10_image_14, N_X10_image_15, N_X10_image_16, N_X10_image_19, N_X10_image_20, N_X10_image_21, N_X10_image_22, N_X10_image_25, N_X10_image_28, N_X10_image_29, N_X10_image_32, N_X10_image_33, N_X10_image_34, N_X10_image_35, N_X10_image_36, N_X10_image_37, N_X10_image_40, if_true, if_false, ite_true, ite_false, not_false_eq_true, not_true_eq_false, isRf_ref, isRf_null, c1_int, c1_ref, c1_null, c1_none, rfv_some, rfv_none, Ok_s, tl_some, tl_none, List.nil_append, b2i_n1, b2i_n0, ↓reduceIte, nI_add, pk_mul, pk_sub, n_leT, n_leF, n_ltT, n_ltF, n_eqT, n_eqF, n_shl1, n_shl, n_shr, nI_and, nI_or, nI_xor, b2i_z, b2i_o, m1_n, n_m1, m1_lt, m1_le, n_lm1, n_em1, nI_m1, and1, and3, and7, and15, and63, and255, Bool.true_eq_false, Bool.false_eq_true, reduceCtorEq, Nat.reduceAdd, Nat.reduceMul, Nat.reduceSub, Nat.reduceDiv, Nat.reduceMod, Nat.reducePow, Nat.zero_add, Nat.one_mul, show pF D 52 1 = some 66 from rfl, hc, c_grant, show vp_nar .boolean (nI 1) = nI 1 from rfl]
      exact ⟨_, _, _, rfl, ⟨ow, ky, ln, hg.1.up⟩, hg.2⟩
theorem CI_bk {k : Nat} {b : Nat → Nat} (h : CIx ow ky ln D I A nn) (hn : nn < 99999) (hk : k < 2) (hb : sim A k = some b) (hD : DC 1 (53 + 13 * k) D D') : CIx ow ky ln D' (up2 (cpS 1 (53 + 13 * k) (cpM 1 (53 + 13 * k) (fgC I))) 0 12 0) (aGr A b) (nn + 1) ∧ CFr I (up2 (cpS 1 (53 + 13 * k) (cpM 1 (53 + 13 * k) (fgC I))) 0 12 0) := by
  obtain ⟨f1, f2, f3, f4, f5⟩ := fg_f I
  have e : ∀ i, 14 ≤ i ∨ i = 0 → cpS 1 (53 + 13 * k) (cpM 1 (53 + 13 * k) (fgC I)) i = fgC I i := fun i hi => cp_o (by omega)
  obtain ⟨g1, g2, g3, g4⟩ := (h.2.2.2.2.2.1.1 k hk).2 b hb
  refine h.fgD (I' := cpS 1 (53 + 13 * k) (cpM 1 (53 + 13 * k) (fgC I))) hn (hD.da (by omega) h.2.1) (hD.rm h.2.2.1) (fun b' a' hb' hl => hD.la (by omega) (by omega) (fun j hj => by rw [e j (by omega)]; exact f1 j (by omega) (by omega)) hl) (fun i k1 k2 k3 => by rw [e i (by omega)]; exact f1 i k2 k3) (by rw [e 23 (by omega)]; exact f2) (fun j hj => by rw [e 26 (by omega)]; exact f3 j hj) (fun j hj => by rw [e 27 (by omega)]; exact f4 j hj) (fun j hj => by rw [e 28 (by omega)]; exact f5 j hj) (fun j => by rw [e 0 (by omega), f1 0 (by decide) (by omega)]) (hD.lb (by omega) g2 (fun j hj => by rw [e j (by omega)]; exact f1 j (by omega) (by omega)) g3) g2 (MzI_cp (g1.k (fun j k1 k2 => f1 j (by omega) (by omega))) g2) (StI_cp (g4.fr (f1 _ (by omega) (by omega)) (f1 _ (by omega) (by omega)) (f1 _ (by omega) (by omega))) (by omega))
theorem C_back {v : Int32} (h : CI D I A nn) (hn : nn < 99999) : CCall xs Ln (d + 8) 134 [.ref 0, .int v] D I L (nBack A v).1 nn (nBack A v).2 := by
  unfold nBack
  cases h0 : inN v (nI 2)
  · rw [if_pos rfl]
    refine CC_rf rc1 h (Ok.eq ?_)
    refine semG (lo := [some (.ref 0), some (.int v)]) rfl rfl (Nat.le_of_ble_eq_true rfl) rfl (show G_X10_back xs Ln _ 0 [some (.ref 0), some (.int v)] [] _ _ from ?_)
    rcases n2_f h0 with hl | ⟨hl, hg⟩
    · simp (disch := first | omega | exact c1_int _ | exact c1_none | exact c1_ref _ | exact isRf_ref _ | assumption | exact okRb _ | exact okN1 | exact okN0 | exact rfl) only [N_X10_back_0, N_X10_back_1, N_X10_back_4, N_X10_back_5, N_X10_back_6, N_X10_back_9, N_X10_back_10, N_X10_back_11, N_X10_back_14, N_X10_back_15, N_X10_back_16, N_X10_back_19, N_X10_back_20, N_X10_back_21, N_X10_back_24, N_X10_back_25, N_X10_back_27, N_X10_back_30, N_X10_back_31, N_X10_back_32, N_X10_back_35, N_X10_back_38, N_X10_back_39, N_X10_back_42, N_X10_back_43, N_X10_back_46, N_X10_back_47, N_X10_back_48, N_X10_back_51, N_X10_back_52, N_X10_back_53, N_X10_back_56, if_true, if_false, ite_true, ite_false, not_false_eq_true, not_true_eq_false, isRf_ref, isRf_null, c1_int, c1_ref, c1_null, c1_none, rfv_some, rfv_none, Ok_s, tl_some, tl_none, List.nil_append, b2i_n1, b2i_n0, ↓reduceIte, nI_add, pk_mul, pk_sub, n_leT, n_leF, n_ltT, n_ltF, n_eqT, n_eqF, n_shl1, n_shl, n_shr, nI_and, nI_or, nI_xor, b2i_z, b2i_o, m1_n, n_m1, m1_lt, m1_le, n_lm1, n_em1, nI_m1, and1, and3, and7, and15, and63, and255, Bool.true_eq_false, Bool.false_eq_true, reduceCtorEq, Nat.reduceAdd, Nat.reduceMul, Nat.reduceSub, Nat.reduceDiv, Nat.reduceMod, Nat.reducePow, Nat.zero_add, Nat.one_mul, hl]
      rw [c_refuse (y := m1) rc1]
      simp (disch := first | omega | exact c1_int _ | exact c1_none | exact c1_ref _ | exact isRf_ref _ | assumption | exact okRb _ | exact okN1 | exact okN0 | exact rfl) only [N_X10_back_0, N_X10_back_1, N_X10_back_4, N_X10_back_5, N_X10_back_6, N_X10_back_9, N_X10_back_10, N_X10_back_11, N_X10_back_14, N_X10_back_15, N_X10_back_16, N_X10_back_19, N_X10_back_20, N_X10_back_21, N_X10_back_24, N_X10_back_25, N_X10_back_27, N_X10_back_30, N_X10_back_31, N_X10_back_32, N_X10_back_35, N_X10_back_38, N_X10_back_39, N_X10_back_42, N_X10_back_43, N_X10_back_46, N_X10_back_47, N_X10_back_48, N_X10_back_51, N_X10_back_52, N_X10_back_53, N_X10_back_56, if_true, if_false, ite_true, ite_false, not_false_eq_true, not_true_eq_false, isRf_ref, isRf_null, c1_int, c1_ref, c1_null, c1_none, rfv_some, rfv_none, Ok_s, tl_some, tl_none, List.nil_append, b2i_n1, b2i_n0, ↓reduceIte, nI_add, pk_mul, pk_sub, n_leT, n_leF, n_ltT, n_ltF, n_eqT, n_eqF, n_shl1, n_shl, n_shr, nI_and, nI_or, nI_xor, b2i_z, b2i_o, m1_n, n_m1, m1_lt, m1_le, n_lm1, n_em1, nI_m1, and1, and3, and7, and15, and63, and255, Bool.true_eq_false, Bool.false_eq_true, reduceCtorEq, Nat.reduceAdd, Nat.reduceMul, Nat.reduceSub, Nat.reduceDiv, Nat.reduceMod, Nat.reducePow, Nat.zero_add, Nat.one_mul]
      rfl
    · simp (disch := first | omega | exact c1_int _ | exact c1_none | exact c1_ref _ | exact isRf_ref _ | assumption | exact okRb _ | exact okN1 | exact okN0 | exact rfl) only [N_X10_back_0, N_X10_back_1, N_X10_back_4, N_X10_back_5, N_X10_back_6, N_X10_back_9, N_X10_back_10, N_X10_back_11, N_X10_back_14, N_X10_back_15, N_X10_back_16, N_X10_back_19, N_X10_back_20, N_X10_back_21, N_X10_back_24, N_X10_back_25, N_X10_back_27, N_X10_back_30, N_X10_back_31, N_X10_back_32, N_X10_back_35, N_X10_back_38, N_X10_back_39, N_X10_back_42, N_X10_back_43, N_X10_back_46, N_X10_back_47, N_X10_back_48, N_X10_back_51, N_X10_back_52, N_X10_back_53, N_X10_back_56, if_true, if_false, ite_true, ite_false, not_false_eq_true, not_true_eq_false, isRf_ref, isRf_null, c1_int, c1_ref, c1_null, c1_none, rfv_some, rfv_none, Ok_s, tl_some, tl_none, List.nil_append, b2i_n1, b2i_n0, ↓reduceIte, nI_add, pk_mul, pk_sub, n_leT, n_leF, n_ltT, n_ltF, n_eqT, n_eqF, n_shl1, n_shl, n_shr, nI_and, nI_or, nI_xor, b2i_z, b2i_o, m1_n, n_m1, m1_lt, m1_le, n_lm1, n_em1, nI_m1, and1, and3, and7, and15, and63, and255, Bool.true_eq_false, Bool.false_eq_true, reduceCtorEq, Nat.reduceAdd, Nat.reduceMul, Nat.reduceSub, Nat.reduceDiv, Nat.reduceMod, Nat.reducePow, Nat.zero_add, Nat.one_mul, hl, hg]
      rw [c_refuse (y := m1) rc1]
      simp (disch := first | omega | exact c1_int _ | exact c1_none | exact c1_ref _ | exact isRf_ref _ | assumption | exact okRb _ | exact okN1 | exact okN0 | exact rfl) only [N_X10_back_0, N_X10_back_1, N_X10_back_4, N_X10_back_5, N_X10_back_6, N_X10_back_9, N_X10_back_10, N_X10_back_11, N_X10_back_14, N_X10_back_15, N_X10_back_16, N_X10_back_19, N_X10_back_20, N_X10_back_21, N_X10_back_24, N_X10_back_25, N_X10_back_27, N_X10_back_30, N_X10_back_31, N_X10_back_32, N_X10_back_35, N_X10_back_38, N_X10_back_39, N_X10_back_42, N_X10_back_43, N_X10_back_46, N_X10_back_47, N_X10_back_48, N_X10_back_51, N_X10_back_52, N_X10_back_53, N_X10_back_56, if_true, if_false, ite_true, ite_false, not_false_eq_true, not_true_eq_false, isRf_ref, isRf_null, c1_int, c1_ref, c1_null, c1_none, rfv_some, rfv_none, Ok_s, tl_some, tl_none, List.nil_append, b2i_n1, b2i_n0, ↓reduceIte, nI_add, pk_mul, pk_sub, n_leT, n_leF, n_ltT, n_ltF, n_eqT, n_eqF, n_shl1, n_shl, n_shr, nI_and, nI_or, nI_xor, b2i_z, b2i_o, m1_n, n_m1, m1_lt, m1_le, n_lm1, n_em1, nI_m1, and1, and3, and7, and15, and63, and255, Bool.true_eq_false, Bool.false_eq_true, reduceCtorEq, Nat.reduceAdd, Nat.reduceMul, Nat.reduceSub, Nat.reduceDiv, Nat.reduceMod, Nat.reducePow, Nat.zero_add, Nat.one_mul]
      rfl
  · rw [if_neg (by decide)]
    obtain ⟨k, hk, rfl⟩ := inN_t (by decide) h0
    rw [n_cl (by omega)]
    have e79 : I 79 k = b2i (sim A k).isSome := by obtain ⟨ow, ky, ln, h⟩ := h; exact (h.2.2.2.2.2.1.1 k hk).1
    cases hb : sim A k with
    | none =>
      rw [hb] at e79
      have e79' : I 79 k = nI 0 := e79
      refine CC_rf rc2 h (Ok.eq ?_)
      refine semG (lo := [some (.ref 0), some (.int (nI k))]) rfl rfl (Nat.le_of_ble_eq_true rfl) rfl (show G_X10_back xs Ln _ 0 [some (.ref 0), some (.int (nI k))] [] _ _ from ?_)
      simp (disch := first | omega | exact c1_int _ | exact c1_none | exact c1_ref _ | exact isRf_ref _ | assumption | exact okRb _ | exact okN1 | exact okN0 | exact rfl) only [N_X10_back_0, N_X10_back_1, N_X10_back_4, N_X10_back_5, N_X10_back_6, N_X10_back_9, N_X10_back_10, N_X10_back_11, N_X10_back_14, N_X10_back_15, N_X10_back_16, N_X10_back_19, N_X10_back_20, N_X10_back_21, N_X10_back_24, N_X10_back_25, N_X10_back_27, N_X10_back_30, N_X10_back_31, N_X10_back_32, N_X10_back_35, N_X10_back_38, N_X10_back_39, N_X10_back_42, N_X10_back_43, N_X10_back_46, N_X10_back_47, N_X10_back_48, N_X10_back_51, N_X10_back_52, N_X10_back_53, N_X10_back_56, if_true, if_false, ite_true, ite_false, not_false_eq_true, not_true_eq_false, isRf_ref, isRf_null, c1_int, c1_ref, c1_null, c1_none, rfv_some, rfv_none, Ok_s, tl_some, tl_none, List.nil_append, b2i_n1, b2i_n0, ↓reduceIte, nI_add, pk_mul, pk_sub, n_leT, n_leF, n_ltT, n_ltF, n_eqT, n_eqF, n_shl1, n_shl, n_shr, nI_and, nI_or, nI_xor, b2i_z, b2i_o, m1_n, n_m1, m1_lt, m1_le, n_lm1, n_em1, nI_m1, and1, and3, and7, and15, and63, and255, Bool.true_eq_false, Bool.false_eq_true, reduceCtorEq, Nat.reduceAdd, Nat.reduceMul, Nat.reduceSub, Nat.reduceDiv, Nat.reduceMod, Nat.reducePow, Nat.zero_add, Nat.one_mul, e79']
      rw [c_refuse (y := m2) rc2]
      simp (disch := first | omega | exact c1_int _ | exact c1_none | exact c1_ref _ | exact isRf_ref _ | assumption | exact okRb _ | exact okN1 | exact okN0 | exact rfl) only [N_X10_back_0, N_X10_back_1, N_X10_back_4, N_X10_back_5, N_X10_back_6, N_X10_back_9, N_X10_back_10, N_X10_back_11, N_X10_back_14, N_X10_back_15, N_X10_back_16, N_X10_back_19, N_X10_back_20, N_X10_back_21, N_X10_back_24, N_X10_back_25, N_X10_back_27, N_X10_back_30, N_X10_back_31, N_X10_back_32, N_X10_back_35, N_X10_back_38, N_X10_back_39, N_X10_back_42, N_X10_back_43, N_X10_back_46, N_X10_back_47, N_X10_back_48, N_X10_back_51, N_X10_back_52, N_X10_back_53, N_X10_back_56, if_true, if_false, ite_true, ite_false, not_false_eq_true, not_true_eq_false, isRf_ref, isRf_null, c1_int, c1_ref, c1_null, c1_none, rfv_some, rfv_none, Ok_s, tl_some, tl_none, List.nil_append, b2i_n1, b2i_n0, ↓reduceIte, nI_add, pk_mul, pk_sub, n_leT, n_leF, n_ltT, n_ltF, n_eqT, n_eqF, n_shl1, n_shl, n_shr, nI_and, nI_or, nI_xor, b2i_z, b2i_o, m1_n, n_m1, m1_lt, m1_le, n_lm1, n_em1, nI_m1, and1, and3, and7, and15, and63, and255, Bool.true_eq_false, Bool.false_eq_true, reduceCtorEq, Nat.reduceAdd, Nat.reduceMul, Nat.reduceSub, Nat.reduceDiv, Nat.reduceMod, Nat.reducePow, Nat.zero_add, Nat.one_mul]
      rfl
    | some b =>
      rw [hb] at e79
      have e79' : I 79 k = nI 1 := e79
      obtain ⟨ow, ky, ln, h⟩ := h
      have hLP := ((h.2.2.2.2.2.1.1 k hk).2 b hb).2.2.1.2
      refine semG (lo := [some (.ref 0), some (.int (nI k))]) rfl rfl (Nat.le_of_ble_eq_true rfl) rfl (show G_X10_back xs Ln _ 0 [some (.ref 0), some (.int (nI k))] [] _ _ from ?_)
      have hk01 : k = 0 ∨ k = 1 := by omega
      rcases hk01 with rfl | rfl
      · obtain ⟨D', hc, hD⟩ := c_copyF_1_53 (xs := xs) (Ln := Ln) (d := d + 5) (I := fgC I) (L := L) hLP
        have hg := CI_bk (k := 0) h hn (by decide) hb hD
        simp (disch := first | omega | exact c1_int _ | exact c1_none | exact c1_ref _ | exact isRf_ref _ | assumption | exact okRb _ | exact okN1 | exact okN0 | exact rfl) only [N_X10_back_0, N_X10_back_1, N_X10_back_4, N_X10_back_5, N_X10_back_6, N_X10_back_9, N_X10_back_10, N_X10_back_11, N_X10_back_14, N_X10_back_15, N_X10_back_16, N_X10_back_19, N_X10_back_20, N_X10_back_21, N_X10_back_24, N_X10_back_25, N_X10_back_27, N_X10_back_30, N_X10_back_31, N_X10_back_32, N_X10_back_35, N_X10_back_38, N_X10_back_39, N_X10_back_42, N_X10_back_43, N_X10_back_46, N_X10_back_47, N_X10_back_48, N_X10_back_51, N_X10_back_52, N_X10_back_53, N_X10_back_56, if_true, if_false, ite_true, ite_false, not_false_eq_true, not_true_eq_false, isRf_ref, isRf_null, c1_int, c1_ref, c1_null, c1_none, rfv_some, rfv_none, Ok_s, tl_some, tl_none, List.nil_append, b2i_n1, b2i_n0, ↓reduceIte, nI_add, pk_mul, pk_sub, n_leT, n_leF, n_ltT, n_ltF, n_eqT, n_eqF, n_shl1, n_shl, n_shr, nI_and, nI_or, nI_xor, b2i_z, b2i_o, m1_n, n_m1, m1_lt, m1_le, n_lm1, n_em1, nI_m1, and1, and3, and7, and15, and63, and255, Bool.true_eq_false, Bool.false_eq_true, reduceCtorEq, Nat.reduceAdd, Nat.reduceMul, Nat.reduceSub, Nat.reduceDiv, Nat.reduceMod, Nat.reducePow, Nat.zero_add, Nat.one_mul, e79', c_forget, show pF D 52 0 = some 53 from rfl, hc, c_grant]
        exact ⟨_, _, _, rfl, ⟨ow, ky, ln, hg.1⟩, hg.2⟩
      · obtain ⟨D', hc, hD⟩ := c_copyF_1_66 (xs := xs) (Ln := Ln) (d := d + 5) (I := fgC I) (L := L) hLP
        have hg := CI_bk (k := 1) h hn (by decide) hb hD
        simp (disch := first | omega | exact c1_int _ | exact c1_none | exact c1_ref _ | exact isRf_ref _ | assumption | exact okRb _ | exact okN1 | exact okN0 | exact rfl) only [N_X10_back_0, N_X10_back_1, N_X10_back_4, N_X10_back_5, N_X10_back_6, N_X10_back_9, N_X10_back_10, N_X10_back_11, N_X10_back_14, N_X10_back_15, N_X10_back_16, N_X10_back_19, N_X10_back_20, N_X10_back_21, N_X10_back_24, N_X10_back_25, N_X10_back_27, N_X10_back_30, N_X10_back_31, N_X10_back_32, N_X10_back_35, N_X10_back_38, N_X10_back_39, N_X10_back_42, N_X10_back_43, N_X10_back_46, N_X10_back_47, N_X10_back_48, N_X10_back_51, N_X10_back_52, N_X10_back_53, N_X10_back_56, if_true, if_false, ite_true, ite_false, not_false_eq_true, not_true_eq_false, isRf_ref, isRf_null, c1_int, c1_ref, c1_null, c1_none, rfv_some, rfv_none, Ok_s, tl_some, tl_none, List.nil_append, b2i_n1, b2i_n0, ↓reduceIte, nI_add, pk_mul, pk_sub, n_leT, n_leF, n_ltT, n_ltF, n_eqT, n_eqF, n_shl1, n_shl, n_shr, nI_and, nI_or, nI_xor, b2i_z, b2i_o, m1_n, n_m1, m1_lt, m1_le, n_lm1, n_em1, nI_m1, and1, and3, and7, and15, and63, and255, Bool.true_eq_false, Bool.false_eq_true, reduceCtorEq, Nat.reduceAdd, Nat.reduceMul, Nat.reduceSub, Nat.reduceDiv, Nat.reduceMod, Nat.reducePow, Nat.zero_add, Nat.one_mul, e79', c_forget, show pF D 52 1 = some 66 from rfl, hc, c_grant]
        exact ⟨_, _, _, rfl, ⟨ow, ky, ln, hg.1⟩, hg.2⟩
end Pg8
