section Pg4
variable {xs : Nat → Int32} {Ln d : Nat} {D D' D'' : Dyn} {I I' I'' J : Nat → Nat → Int32} {L : Nat → Nat → Int64} {w : Om} {Q : Res → Prop} {ow ow' ow'' ky ky' ky'' ln ln' ln'' a a' : Nat → Nat} {o be sr : Nat} {A A' : As} {nn : Nat}
/-! the store: about, near -/
theorem sbI_m (x y : Int32) : (x &&& (y ^^^ m1) = nI 0) = (sbI x y = true) := by
  unfold sbI
  rw [decide_eq_true_eq]
  rfl
theorem sb_le {v y : Nat} (hv : v < 4096) (hy : y < 4096) (h : sbI (nI v) (nI y) = true) : v ≤ y := by
  rw [← sbI_m, n_adn (by omega) (by omega), n_eq (Nat.lt_of_lt_of_le (adn_lt (n := 12) hv) (by decide)) (by decide), adn_0 (by omega) (by omega)] at h
  rw [← h]
  exact Nat.and_le_right
theorem c_stWin {n : Nat} {s f : Nat → Nat} {x : Int32} (hw : StW I n s f) : callD xs Ln (d + 1) 66 [.ref 11, .int x] (mkW D I L) = some (mkW D I L, some (.int (nI (cntB (fun i => sbI (nI (s i)) x) n)))) := by
  obtain ⟨hn, hs, h⟩ := hw
  have h200 := h.1
  refine Ok.eq ?_
  refine semG (lo := [some (.ref 11), some (.int x), none, none]) rfl rfl (Nat.le_of_ble_eq_true rfl) rfl (show G_X7_within xs Ln _ 0 [some (.ref 11), some (.int x), none, none] [] _ _ from ?_)
  simp (disch := first | omega | exact c1_int _ | exact c1_none | exact c1_ref _ | exact isRf_ref _ | assumption | exact okRb _ | exact okN1 | exact okN0 | exact rfl) only [N_X7_within_0, N_X7_within_1, N_X7_within_2, N_X7_within_3, N_X7_within_5, N_X7_within_6, N_X7_within_9, N_X7_within_12, N_X7_within_13, N_X7_within_16, N_X7_within_17, N_X7_within_18, N_X7_within_19, N_X7_within_20, N_X7_within_21, N_X7_within_22, N_X7_within_25, N_X7_within_28, N_X7_within_31, N_X7_within_34, N_X7_within_35, if_true, if_false, ite_true, ite_false, not_false_eq_true, not_true_eq_false, isRf_ref, isRf_null, c1_int, c1_ref, c1_null, c1_none, rfv_some, rfv_none, Ok_s, tl_some, tl_none, List.nil_append, b2i_n1, b2i_n0, ↓reduceIte, nI_add, pk_mul, pk_sub, n_leT, n_leF, n_ltT, n_ltF, n_eqT, n_eqF, n_shl1, n_shl, n_shr, nI_and, nI_or, nI_xor, b2i_z, b2i_o, m1_n, n_m1, m1_lt, m1_le, n_lm1, n_em1, nI_m1, and1, and3, and7, and15, and63, and255, Bool.true_eq_false, Bool.false_eq_true, reduceCtorEq, Nat.reduceAdd, Nat.reduceMul, Nat.reduceSub, Nat.reduceDiv, Nat.reduceMod, Nat.reducePow, Nat.zero_add, Nat.one_mul, hn]
  refine Lp (n := n) (σ := Unit) (E := fun i _ => G_X7_within xs Ln (d) 4 [some (.ref 11), some (.int x), some (.int (nI (cntB (fun i => sbI (nI (s i)) x) i))), some (.int (nI i))] [] (mkW D I L) _) (Inv := fun _ _ => True) ?_ ?_ 0 () (by omega) trivial
  · rintro _ _
    rw [N_X7_within_4]
    simp (disch := first | omega | exact c1_int _ | exact c1_none | exact c1_ref _ | exact isRf_ref _ | assumption | exact okRb _ | exact okN1 | exact okN0 | exact rfl) only [N_X7_within_0, N_X7_within_1, N_X7_within_2, N_X7_within_3, N_X7_within_5, N_X7_within_6, N_X7_within_9, N_X7_within_12, N_X7_within_13, N_X7_within_16, N_X7_within_17, N_X7_within_18, N_X7_within_19, N_X7_within_20, N_X7_within_21, N_X7_within_22, N_X7_within_25, N_X7_within_28, N_X7_within_31, N_X7_within_34, N_X7_within_35, if_true, if_false, ite_true, ite_false, not_false_eq_true, not_true_eq_false, isRf_ref, isRf_null, c1_int, c1_ref, c1_null, c1_none, rfv_some, rfv_none, Ok_s, tl_some, tl_none, List.nil_append, b2i_n1, b2i_n0, ↓reduceIte, nI_add, pk_mul, pk_sub, n_leT, n_leF, n_ltT, n_ltF, n_eqT, n_eqF, n_shl1, n_shl, n_shr, nI_and, nI_or, nI_xor, b2i_z, b2i_o, m1_n, n_m1, m1_lt, m1_le, n_lm1, n_em1, nI_m1, and1, and3, and7, and15, and63, and255, Bool.true_eq_false, Bool.false_eq_true, reduceCtorEq, Nat.reduceAdd, Nat.reduceMul, Nat.reduceSub, Nat.reduceDiv, Nat.reduceMod, Nat.reducePow, Nat.zero_add, Nat.one_mul, hn]
  · rintro i _ hi _ ih
    try dsimp only at ih ⊢
    rw [N_X7_within_4]
    have e1 := (hs i hi).1
    have hcs := cntB_s (fun i => sbI (nI (s i)) x) i
    try dsimp only at hcs
    cases hb : sbI (nI (s i)) x
    · rw [hb, if_neg (by decide)] at hcs
      have hcs : cntB (fun i => sbI (nI (s i)) x) (i + 1) = cntB (fun i => sbI (nI (s i)) x) i := hcs
      simp (disch := first | omega | exact c1_int _ | exact c1_none | exact c1_ref _ | exact isRf_ref _ | assumption | exact okRb _ | exact okN1 | exact okN0 | exact rfl) only [N_X7_within_0, N_X7_within_1, N_X7_within_2, N_X7_within_3, N_X7_within_5, N_X7_within_6, N_X7_within_9, N_X7_within_12, N_X7_within_13, N_X7_within_16, N_X7_within_17, N_X7_within_18, N_X7_within_19, N_X7_within_20, N_X7_within_21, N_X7_within_22, N_X7_within_25, N_X7_within_28, N_X7_within_31, N_X7_within_34, N_X7_within_35, if_true, if_false, ite_true, ite_false, not_false_eq_true, not_true_eq_false, isRf_ref, isRf_null, c1_int, c1_ref, c1_null, c1_none, rfv_some, rfv_none, Ok_s, tl_some, tl_none, List.nil_append, b2i_n1, b2i_n0, ↓reduceIte, nI_add, pk_mul, pk_sub, n_leT, n_leF, n_ltT, n_ltF, n_eqT, n_eqF, n_shl1, n_shl, n_shr, nI_and, nI_or, nI_xor, b2i_z, b2i_o, m1_n, n_m1, m1_lt, m1_le, n_lm1, n_em1, nI_m1, and1, and3, and7, and15, and63, and255, Bool.true_eq_false, Bool.false_eq_true, reduceCtorEq, Nat.reduceAdd, Nat.reduceMul, Nat.reduceSub, Nat.reduceDiv, Nat.reduceMod, Nat.reducePow, Nat.zero_add, Nat.one_mul, hn, e1, sbI_m, hb]
      rw [← hcs]
      exact ih () trivial
    · rw [hb, if_pos rfl] at hcs
      simp (disch := first | omega | exact c1_int _ | exact c1_none | exact c1_ref _ | exact isRf_ref _ | assumption | exact okRb _ | exact okN1 | exact okN0 | exact rfl) only [N_X7_within_0, N_X7_within_1, N_X7_within_2, N_X7_within_3, N_X7_within_5, N_X7_within_6, N_X7_within_9, N_X7_within_12, N_X7_within_13, N_X7_within_16, N_X7_within_17, N_X7_within_18, N_X7_within_19, N_X7_within_20, N_X7_within_21, N_X7_within_22, N_X7_within_25, N_X7_within_28, N_X7_within_31, N_X7_within_34, N_X7_within_35, if_true, if_false, ite_true, ite_false, not_false_eq_true, not_true_eq_false, isRf_ref, isRf_null, c1_int, c1_ref, c1_null, c1_none, rfv_some, rfv_none, Ok_s, tl_some, tl_none, List.nil_append, b2i_n1, b2i_n0, ↓reduceIte, nI_add, pk_mul, pk_sub, n_leT, n_leF, n_ltT, n_ltF, n_eqT, n_eqF, n_shl1, n_shl, n_shr, nI_and, nI_or, nI_xor, b2i_z, b2i_o, m1_n, n_m1, m1_lt, m1_le, n_lm1, n_em1, nI_m1, and1, and3, and7, and15, and63, and255, Bool.true_eq_false, Bool.false_eq_true, reduceCtorEq, Nat.reduceAdd, Nat.reduceMul, Nat.reduceSub, Nat.reduceDiv, Nat.reduceMod, Nat.reducePow, Nat.zero_add, Nat.one_mul, hn, e1, sbI_m, hb]
      rw [← hcs]
      exact ih () trivial
theorem c_having {n : Nat} {s f : Nat → Nat} {x : Int32} (hw : StW I n s f) : callD xs Ln (d + 1) 67 [.ref 11, .int x] (mkW D I L) = some (mkW D I L, some (.int (nI (cntB (fun i => sbI x (nI (s i))) n)))) := by
  obtain ⟨hn, hs, h⟩ := hw
  have h200 := h.1
  refine Ok.eq ?_
  refine semG (lo := [some (.ref 11), some (.int x), none, none]) rfl rfl (Nat.le_of_ble_eq_true rfl) rfl (show G_X7_having xs Ln _ 0 [some (.ref 11), some (.int x), none, none] [] _ _ from ?_)
  simp (disch := first | omega | exact c1_int _ | exact c1_none | exact c1_ref _ | exact isRf_ref _ | assumption | exact okRb _ | exact okN1 | exact okN0 | exact rfl) only [N_X7_having_0, N_X7_having_1, N_X7_having_2, N_X7_having_3, N_X7_having_5, N_X7_having_6, N_X7_having_9, N_X7_having_12, N_X7_having_13, N_X7_having_14, N_X7_having_17, N_X7_having_18, N_X7_having_19, N_X7_having_20, N_X7_having_21, N_X7_having_22, N_X7_having_25, N_X7_having_28, N_X7_having_31, N_X7_having_34, N_X7_having_35, if_true, if_false, ite_true, ite_false, not_false_eq_true, not_true_eq_false, isRf_ref, isRf_null, c1_int, c1_ref, c1_null, c1_none, rfv_some, rfv_none, Ok_s, tl_some, tl_none, List.nil_append, b2i_n1, b2i_n0, ↓reduceIte, nI_add, pk_mul, pk_sub, n_leT, n_leF, n_ltT, n_ltF, n_eqT, n_eqF, n_shl1, n_shl, n_shr, nI_and, nI_or, nI_xor, b2i_z, b2i_o, m1_n, n_m1, m1_lt, m1_le, n_lm1, n_em1, nI_m1, and1, and3, and7, and15, and63, and255, Bool.true_eq_false, Bool.false_eq_true, reduceCtorEq, Nat.reduceAdd, Nat.reduceMul, Nat.reduceSub, Nat.reduceDiv, Nat.reduceMod, Nat.reducePow, Nat.zero_add, Nat.one_mul, hn]
  refine Lp (n := n) (σ := Unit) (E := fun i _ => G_X7_having xs Ln (d) 4 [some (.ref 11), some (.int x), some (.int (nI (cntB (fun i => sbI x (nI (s i))) i))), some (.int (nI i))] [] (mkW D I L) _) (Inv := fun _ _ => True) ?_ ?_ 0 () (by omega) trivial
  · rintro _ _
    rw [N_X7_having_4]
    simp (disch := first | omega | exact c1_int _ | exact c1_none | exact c1_ref _ | exact isRf_ref _ | assumption | exact okRb _ | exact okN1 | exact okN0 | exact rfl) only [N_X7_having_0, N_X7_having_1, N_X7_having_2, N_X7_having_3, N_X7_having_5, N_X7_having_6, N_X7_having_9, N_X7_having_12, N_X7_having_13, N_X7_having_14, N_X7_having_17, N_X7_having_18, N_X7_having_19, N_X7_having_20, N_X7_having_21, N_X7_having_22, N_X7_having_25, N_X7_having_28, N_X7_having_31, N_X7_having_34, N_X7_having_35, if_true, if_false, ite_true, ite_false, not_false_eq_true, not_true_eq_false, isRf_ref, isRf_null, c1_int, c1_ref, c1_null, c1_none, rfv_some, rfv_none, Ok_s, tl_some, tl_none, List.nil_append, b2i_n1, b2i_n0, ↓reduceIte, nI_add, pk_mul, pk_sub, n_leT, n_leF, n_ltT, n_ltF, n_eqT, n_eqF, n_shl1, n_shl, n_shr, nI_and, nI_or, nI_xor, b2i_z, b2i_o, m1_n, n_m1, m1_lt, m1_le, n_lm1, n_em1, nI_m1, and1, and3, and7, and15, and63, and255, Bool.true_eq_false, Bool.false_eq_true, reduceCtorEq, Nat.reduceAdd, Nat.reduceMul, Nat.reduceSub, Nat.reduceDiv, Nat.reduceMod, Nat.reducePow, Nat.zero_add, Nat.one_mul, hn]
  · rintro i _ hi _ ih
    try dsimp only at ih ⊢
    rw [N_X7_having_4]
    have e1 := (hs i hi).1
    have hcs := cntB_s (fun i => sbI x (nI (s i))) i
    try dsimp only at hcs
    cases hb : sbI x (nI (s i))
    · rw [hb, if_neg (by decide)] at hcs
      have hcs : cntB (fun i => sbI x (nI (s i))) (i + 1) = cntB (fun i => sbI x (nI (s i))) i := hcs
      simp (disch := first | omega | exact c1_int _ | exact c1_none | exact c1_ref _ | exact isRf_ref _ | assumption | exact okRb _ | exact okN1 | exact okN0 | exact rfl) only [N_X7_having_0, N_X7_having_1, N_X7_having_2, N_X7_having_3, N_X7_having_5, N_X7_having_6, N_X7_having_9, N_X7_having_12, N_X7_having_13, N_X7_having_14, N_X7_having_17, N_X7_having_18, N_X7_having_19, N_X7_having_20, N_X7_having_21, N_X7_having_22, N_X7_having_25, N_X7_having_28, N_X7_having_31, N_X7_having_34, N_X7_having_35, if_true, if_false, ite_true, ite_false, not_false_eq_true, not_true_eq_false, isRf_ref, isRf_null, c1_int, c1_ref, c1_null, c1_none, rfv_some, rfv_none, Ok_s, tl_some, tl_none, List.nil_append, b2i_n1, b2i_n0, ↓reduceIte, nI_add, pk_mul, pk_sub, n_leT, n_leF, n_ltT, n_ltF, n_eqT, n_eqF, n_shl1, n_shl, n_shr, nI_and, nI_or, nI_xor, b2i_z, b2i_o, m1_n, n_m1, m1_lt, m1_le, n_lm1, n_em1, nI_m1, and1, and3, and7, and15, and63, and255, Bool.true_eq_false, Bool.false_eq_true, reduceCtorEq, Nat.reduceAdd, Nat.reduceMul, Nat.reduceSub, Nat.reduceDiv, Nat.reduceMod, Nat.reducePow, Nat.zero_add, Nat.one_mul, hn, e1, sbI_m, hb]
      rw [← hcs]
      exact ih () trivial
    · rw [hb, if_pos rfl] at hcs
      simp (disch := first | omega | exact c1_int _ | exact c1_none | exact c1_ref _ | exact isRf_ref _ | assumption | exact okRb _ | exact okN1 | exact okN0 | exact rfl) only [N_X7_having_0, N_X7_having_1, N_X7_having_2, N_X7_having_3, N_X7_having_5, N_X7_having_6, N_X7_having_9, N_X7_having_12, N_X7_having_13, N_X7_having_14, N_X7_having_17, N_X7_having_18, N_X7_having_19, N_X7_having_20, N_X7_having_21, N_X7_having_22, N_X7_having_25, N_X7_having_28, N_X7_having_31, N_X7_having_34, N_X7_having_35, if_true, if_false, ite_true, ite_false, not_false_eq_true, not_true_eq_false, isRf_ref, isRf_null, c1_int, c1_ref, c1_null, c1_none, rfv_some, rfv_none, Ok_s, tl_some, tl_none, List.nil_append, b2i_n1, b2i_n0, ↓reduceIte, nI_add, pk_mul, pk_sub, n_leT, n_leF, n_ltT, n_ltF, n_eqT, n_eqF, n_shl1, n_shl, n_shr, nI_and, nI_or, nI_xor, b2i_z, b2i_o, m1_n, n_m1, m1_lt, m1_le, n_lm1, n_em1, nI_m1, and1, and3, and7, and15, and63, and255, Bool.true_eq_false, Bool.false_eq_true, reduceCtorEq, Nat.reduceAdd, Nat.reduceMul, Nat.reduceSub, Nat.reduceDiv, Nat.reduceMod, Nat.reducePow, Nat.zero_add, Nat.one_mul, hn, e1, sbI_m, hb]
      rw [← hcs]
      exact ih () trivial
theorem c_lowestH {n v : Nat} {s f : Nat → Nat} (hw : StW I n s f) (hv : v < 4096) : callD xs Ln (d + 2) 68 [.ref 11, .int (nI v)] (mkW D I L) = some (mkW D I L, some (.int (nO (lst (fun y => sbI (nI v) (nI y) && decide (0 < f y)) 4096)))) := by
  obtain ⟨t, ho, hc⟩ := c_lowerThan (xs := xs) (Ln := Ln) (d := d) (D := D) (L := L) hw (Nat.le_of_lt hv)
  obtain ⟨hn, hs, h⟩ := hw
  have h200 := h.1
  refine Ok.eq ?_
  refine semG (lo := [some (.ref 11), some (.int (nI v)), none]) rfl rfl (Nat.le_of_ble_eq_true rfl) rfl (show G_X7_lowestHaving xs Ln _ 0 [some (.ref 11), some (.int (nI v)), none] [] _ _ from ?_)
  simp (disch := first | omega | exact c1_int _ | exact c1_none | exact c1_ref _ | exact isRf_ref _ | assumption | exact okRb _ | exact okN1 | exact okN0 | exact rfl) only [N_X7_lowestHaving_0, N_X7_lowestHaving_1, N_X7_lowestHaving_2, N_X7_lowestHaving_5, N_X7_lowestHaving_7, N_X7_lowestHaving_8, N_X7_lowestHaving_11, N_X7_lowestHaving_14, N_X7_lowestHaving_15, N_X7_lowestHaving_16, N_X7_lowestHaving_19, N_X7_lowestHaving_20, N_X7_lowestHaving_21, N_X7_lowestHaving_22, N_X7_lowestHaving_23, N_X7_lowestHaving_24, N_X7_lowestHaving_27, N_X7_lowestHaving_28, N_X7_lowestHaving_31, N_X7_lowestHaving_32, N_X7_lowestHaving_33, N_X7_lowestHaving_34, N_X7_lowestHaving_37, N_X7_lowestHaving_40, N_X7_lowestHaving_41, if_true, if_false, ite_true, ite_false, not_false_eq_true, not_true_eq_false, isRf_ref, isRf_null, c1_int, c1_ref, c1_null, c1_none, rfv_some, rfv_none, Ok_s, tl_some, tl_none, List.nil_append, b2i_n1, b2i_n0, ↓reduceIte, nI_add, pk_mul, pk_sub, n_leT, n_leF, n_ltT, n_ltF, n_eqT, n_eqF, n_shl1, n_shl, n_shr, nI_and, nI_or, nI_xor, b2i_z, b2i_o, m1_n, n_m1, m1_lt, m1_le, n_lm1, n_em1, nI_m1, and1, and3, and7, and15, and63, and255, Bool.true_eq_false, Bool.false_eq_true, reduceCtorEq, Nat.reduceAdd, Nat.reduceMul, Nat.reduceSub, Nat.reduceDiv, Nat.reduceMod, Nat.reducePow, Nat.zero_add, Nat.one_mul, hc]
  refine Lp (n := n) (σ := Unit) (E := fun i _ => G_X7_lowestHaving xs Ln (d + 1) 6 [some (.ref 11), some (.int (nI v)), some (.int (nI i))] [] (mkW D I L) _) (Inv := fun i _ => ∀ j, j < i → sbI (nI v) (nI (s j)) = false) ?_ ?_ t () ho.1 (fun j hj => ?_)
  · rintro _ hv2
    have hl : lst (fun y => sbI (nI v) (nI y) && decide (0 < f y)) 4096 = none := by
      refine (lst_n _ _).mpr (fun y hy => ?_)
      try dsimp only
      by_cases hf : 0 < f y
      · obtain ⟨i, hi, e⟩ := h.2.2.2 y hy hf
        rw [← e, hv2 i hi, Bool.false_and]
      · rw [decide_eq_false hf, Bool.and_false]
    rw [N_X7_lowestHaving_6, hl]
    simp (disch := first | omega | exact c1_int _ | exact c1_none | exact c1_ref _ | exact isRf_ref _ | assumption | exact okRb _ | exact okN1 | exact okN0 | exact rfl) only [N_X7_lowestHaving_0, N_X7_lowestHaving_1, N_X7_lowestHaving_2, N_X7_lowestHaving_5, N_X7_lowestHaving_7, N_X7_lowestHaving_8, N_X7_lowestHaving_11, N_X7_lowestHaving_14, N_X7_lowestHaving_15, N_X7_lowestHaving_16, N_X7_lowestHaving_19, N_X7_lowestHaving_20, N_X7_lowestHaving_21, N_X7_lowestHaving_22, N_X7_lowestHaving_23, N_X7_lowestHaving_24, N_X7_lowestHaving_27, N_X7_lowestHaving_28, N_X7_lowestHaving_31, N_X7_lowestHaving_32, N_X7_lowestHaving_33, N_X7_lowestHaving_34, N_X7_lowestHaving_37, N_X7_lowestHaving_40, N_X7_lowestHaving_41, if_true, if_false, ite_true, ite_false, not_false_eq_true, not_true_eq_false, isRf_ref, isRf_null, c1_int, c1_ref, c1_null, c1_none, rfv_some, rfv_none, Ok_s, tl_some, tl_none, List.nil_append, b2i_n1, b2i_n0, ↓reduceIte, nI_add, pk_mul, pk_sub, n_leT, n_leF, n_ltT, n_ltF, n_eqT, n_eqF, n_shl1, n_shl, n_shr, nI_and, nI_or, nI_xor, b2i_z, b2i_o, m1_n, n_m1, m1_lt, m1_le, n_lm1, n_em1, nI_m1, and1, and3, and7, and15, and63, and255, Bool.true_eq_false, Bool.false_eq_true, reduceCtorEq, Nat.reduceAdd, Nat.reduceMul, Nat.reduceSub, Nat.reduceDiv, Nat.reduceMod, Nat.reducePow, Nat.zero_add, Nat.one_mul, hn, nO_n]
  · rintro i _ hi hv2 ih
    try dsimp only at ih ⊢
    rw [N_X7_lowestHaving_6]
    have e1 := (hs i hi).1
    have e2 := h.2.1 i hi
    cases hb : sbI (nI v) (nI (s i))
    · simp (disch := first | omega | exact c1_int _ | exact c1_none | exact c1_ref _ | exact isRf_ref _ | assumption | exact okRb _ | exact okN1 | exact okN0 | exact rfl) only [N_X7_lowestHaving_0, N_X7_lowestHaving_1, N_X7_lowestHaving_2, N_X7_lowestHaving_5, N_X7_lowestHaving_7, N_X7_lowestHaving_8, N_X7_lowestHaving_11, N_X7_lowestHaving_14, N_X7_lowestHaving_15, N_X7_lowestHaving_16, N_X7_lowestHaving_19, N_X7_lowestHaving_20, N_X7_lowestHaving_21, N_X7_lowestHaving_22, N_X7_lowestHaving_23, N_X7_lowestHaving_24, N_X7_lowestHaving_27, N_X7_lowestHaving_28, N_X7_lowestHaving_31, N_X7_lowestHaving_32, N_X7_lowestHaving_33, N_X7_lowestHaving_34, N_X7_lowestHaving_37, N_X7_lowestHaving_40, N_X7_lowestHaving_41, if_true, if_false, ite_true, ite_false, not_false_eq_true, not_true_eq_false, isRf_ref, isRf_null, c1_int, c1_ref, c1_null, c1_none, rfv_some, rfv_none, Ok_s, tl_some, tl_none, List.nil_append, b2i_n1, b2i_n0, ↓reduceIte, nI_add, pk_mul, pk_sub, n_leT, n_leF, n_ltT, n_ltF, n_eqT, n_eqF, n_shl1, n_shl, n_shr, nI_and, nI_or, nI_xor, b2i_z, b2i_o, m1_n, n_m1, m1_lt, m1_le, n_lm1, n_em1, nI_m1, and1, and3, and7, and15, and63, and255, Bool.true_eq_false, Bool.false_eq_true, reduceCtorEq, Nat.reduceAdd, Nat.reduceMul, Nat.reduceSub, Nat.reduceDiv, Nat.reduceMod, Nat.reducePow, Nat.zero_add, Nat.one_mul, hn, e1, sbI_m, hb]
      refine ih () (fun j hj => ?_)
      by_cases e : j = i
      · rw [e]; exact hb
      · exact hv2 j (by omega)
    · have hl : lst (fun y => sbI (nI v) (nI y) && decide (0 < f y)) 4096 = some (s i) := by
        refine (lst_s _ _ _).mpr ⟨e2.1, ?_, fun y hy => ?_⟩
        · try dsimp only
          rw [hb, decide_eq_true e2.2]
          rfl
        · try dsimp only
          by_cases hf : 0 < f y
          · obtain ⟨j, hj, e⟩ := h.2.2.2 y (by omega) hf
            have : j < i := by
              by_cases c : j < i
              · exact c
              · by_cases c2 : j = i
                · rw [c2] at e; omega
                · have := h.2.2.1 i j (by omega) hj
                  omega
            rw [← e, hv2 j this, Bool.false_and]
          · rw [decide_eq_false hf, Bool.and_false]
      rw [hl]
      simp (disch := first | omega | exact c1_int _ | exact c1_none | exact c1_ref _ | exact isRf_ref _ | assumption | exact okRb _ | exact okN1 | exact okN0 | exact rfl) only [N_X7_lowestHaving_0, N_X7_lowestHaving_1, N_X7_lowestHaving_2, N_X7_lowestHaving_5, N_X7_lowestHaving_7, N_X7_lowestHaving_8, N_X7_lowestHaving_11, N_X7_lowestHaving_14, N_X7_lowestHaving_15, N_X7_lowestHaving_16, N_X7_lowestHaving_19, N_X7_lowestHaving_20, N_X7_lowestHaving_21, N_X7_lowestHaving_22, N_X7_lowestHaving_23, N_X7_lowestHaving_24, N_X7_lowestHaving_27, N_X7_lowestHaving_28, N_X7_lowestHaving_31, N_X7_lowestHaving_32, N_X7_lowestHaving_33, N_X7_lowestHaving_34, N_X7_lowestHaving_37, N_X7_lowestHaving_40, N_X7_lowestHaving_41, if_true, if_false, ite_true, ite_false, not_false_eq_true, not_true_eq_false, isRf_ref, isRf_null, c1_int, c1_ref, c1_null, c1_none, rfv_some, rfv_none, Ok_s, tl_some, tl_none, List.nil_append, b2i_n1, b2i_n0, ↓reduceIte, nI_add, pk_mul, pk_sub, n_leT, n_leF, n_ltT, n_ltF, n_eqT, n_eqF, n_shl1, n_shl, n_shr, nI_and, nI_or, nI_xor, b2i_z, b2i_o, m1_n, n_m1, m1_lt, m1_le, n_lm1, n_em1, nI_m1, and1, and3, and7, and15, and63, and255, Bool.true_eq_false, Bool.false_eq_true, reduceCtorEq, Nat.reduceAdd, Nat.reduceMul, Nat.reduceSub, Nat.reduceDiv, Nat.reduceMod, Nat.reducePow, Nat.zero_add, Nat.one_mul, hn, e1, sbI_m, hb, nO_s]
  · have q1 := ho.2.1 j hj
    have hj2 := ho.1
    cases hb : sbI (nI v) (nI (s j))
    · rfl
    · have := sb_le hv (h.2.1 j (by omega)).1 hb
      omega
theorem C_about {u v x : Int32} (hx : x = qAbout A u v) (h : CI D I A nn) : CCall xs Ln (d + 8) 125 [.ref 0, .int u, .int v] D I L A nn x := by
  subst hx
  have hst : StI I 1 (sa A) := by obtain ⟨ow, ky, ln, h⟩ := h; exact h.2.2.2.2.1
  obtain ⟨_, n, s, hw⟩ := hst.wo
  unfold qAbout
  refine CC_id h (Ok.eq ?_)
  refine semG (lo := [some (.ref 0), some (.int u), some (.int v)]) rfl rfl (Nat.le_of_ble_eq_true rfl) rfl (show G_X10_about xs Ln _ 0 [some (.ref 0), some (.int u), some (.int v)] [] _ _ from ?_)
  cases h0 : inN u (nI 4096)
  · simp (disch := first | omega | exact c1_int _ | exact c1_none | exact c1_ref _ | exact isRf_ref _ | assumption | exact okRb _ | exact okN1 | exact okN0 | exact rfl) only [N_X10_about_0, N_X10_about_1, N_X10_about_4, N_X10_about_7, N_X10_about_8, N_X10_about_9, N_X10_about_10_0, N_X10_about_10_1, N_X10_about_10_2, N_X10_about_10, N_X10_about_36, N_X10_about_37, N_X10_about_40, N_X10_about_43, N_X10_about_44, N_X10_about_47, N_X10_about_48, N_X10_about_49, N_X10_about_52, N_X10_about_55, N_X10_about_56, N_X10_about_59, N_X10_about_60, N_X10_about_61, N_X10_about_64, N_X10_about_67, N_X10_about_68, N_X10_about_71, N_X10_about_72, N_X10_about_73, if_true, if_false, ite_true, ite_false, not_false_eq_true, not_true_eq_false, isRf_ref, isRf_null, c1_int, c1_ref, c1_null, c1_none, rfv_some, rfv_none, Ok_s, tl_some, tl_none, List.nil_append, b2i_n1, b2i_n0, ↓reduceIte, nI_add, pk_mul, pk_sub, n_leT, n_leF, n_ltT, n_ltF, n_eqT, n_eqF, n_shl1, n_shl, n_shr, nI_and, nI_or, nI_xor, b2i_z, b2i_o, m1_n, n_m1, m1_lt, m1_le, n_lm1, n_em1, nI_m1, and1, and3, and7, and15, and63, and255, Bool.true_eq_false, Bool.false_eq_true, reduceCtorEq, Nat.reduceAdd, Nat.reduceMul, Nat.reduceSub, Nat.reduceDiv, Nat.reduceMod, Nat.reducePow, Nat.zero_add, Nat.one_mul, c_isStoreSet, show inN u 4096 = false from h0]
    rfl
  · rw [if_neg (by decide)]
    by_cases v0 : v = 0
    · have v0' : v = nI 0 := v0
      rw [if_pos v0, v0']
      have e := lo_cnt hw.2.2 (fun y => sbI (nI y) u) 4096 (Nat.le_refl _) n (lo_top hw.2.2)
      simp (disch := first | omega | exact c1_int _ | exact c1_none | exact c1_ref _ | exact isRf_ref _ | assumption | exact okRb _ | exact okN1 | exact okN0 | exact rfl) only [N_X10_about_0, N_X10_about_1, N_X10_about_4, N_X10_about_7, N_X10_about_8, N_X10_about_9, N_X10_about_10_0, N_X10_about_10_1, N_X10_about_10_2, N_X10_about_10, N_X10_about_36, N_X10_about_37, N_X10_about_40, N_X10_about_43, N_X10_about_44, N_X10_about_47, N_X10_about_48, N_X10_about_49, N_X10_about_52, N_X10_about_55, N_X10_about_56, N_X10_about_59, N_X10_about_60, N_X10_about_61, N_X10_about_64, N_X10_about_67, N_X10_about_68, N_X10_about_71, N_X10_about_72, N_X10_about_73, if_true, if_false, ite_true, ite_false, not_false_eq_true, not_true_eq_false, isRf_ref, isRf_null, c1_int, c1_ref, c1_null, c1_none, rfv_some, rfv_none, Ok_s, tl_some, tl_none, List.nil_append, b2i_n1, b2i_n0, ↓reduceIte, nI_add, pk_mul, pk_sub, n_leT, n_leF, n_ltT, n_ltF, n_eqT, n_eqF, n_shl1, n_shl, n_shr, nI_and, nI_or, nI_xor, b2i_z, b2i_o, m1_n, n_m1, m1_lt, m1_le, n_lm1, n_em1, nI_m1, and1, and3, and7, and15, and63, and255, Bool.true_eq_false, Bool.false_eq_true, reduceCtorEq, Nat.reduceAdd, Nat.reduceMul, Nat.reduceSub, Nat.reduceDiv, Nat.reduceMod, Nat.reducePow, Nat.zero_add, Nat.one_mul, c_isStoreSet, show inN u 4096 = true from h0, c_stWin hw]
      rw [← e]
      rfl
    · rw [if_neg v0]
      by_cases v1 : v = 1
      · have v1' : v = nI 1 := v1
        rw [if_pos v1, v1']
        have e := lo_cnt hw.2.2 (fun y => sbI u (nI y)) 4096 (Nat.le_refl _) n (lo_top hw.2.2)
        simp (disch := first | omega | exact c1_int _ | exact c1_none | exact c1_ref _ | exact isRf_ref _ | assumption | exact okRb _ | exact okN1 | exact okN0 | exact rfl) only [N_X10_about_0, N_X10_about_1, N_X10_about_4, N_X10_about_7, N_X10_about_8, N_X10_about_9, N_X10_about_10_0, N_X10_about_10_1, N_X10_about_10_2, N_X10_about_10, N_X10_about_36, N_X10_about_37, N_X10_about_40, N_X10_about_43, N_X10_about_44, N_X10_about_47, N_X10_about_48, N_X10_about_49, N_X10_about_52, N_X10_about_55, N_X10_about_56, N_X10_about_59, N_X10_about_60, N_X10_about_61, N_X10_about_64, N_X10_about_67, N_X10_about_68, N_X10_about_71, N_X10_about_72, N_X10_about_73, if_true, if_false, ite_true, ite_false, not_false_eq_true, not_true_eq_false, isRf_ref, isRf_null, c1_int, c1_ref, c1_null, c1_none, rfv_some, rfv_none, Ok_s, tl_some, tl_none, List.nil_append, b2i_n1, b2i_n0, ↓reduceIte, nI_add, pk_mul, pk_sub, n_leT, n_leF, n_ltT, n_ltF, n_eqT, n_eqF, n_shl1, n_shl, n_shr, nI_and, nI_or, nI_xor, b2i_z, b2i_o, m1_n, n_m1, m1_lt, m1_le, n_lm1, n_em1, nI_m1, and1, and3, and7, and15, and63, and255, Bool.true_eq_false, Bool.false_eq_true, reduceCtorEq, Nat.reduceAdd, Nat.reduceMul, Nat.reduceSub, Nat.reduceDiv, Nat.reduceMod, Nat.reducePow, Nat.zero_add, Nat.one_mul, c_isStoreSet, show inN u 4096 = true from h0, c_having hw]
        rw [← e]
        rfl
      · rw [if_neg v1]
        by_cases v2 : v = 2
        · have v2' : v = nI 2 := v2
          rw [if_pos v2, v2']
          obtain ⟨u, hu, rfl⟩ := inN_t (by decide) h0
          have hw' : StW I n s (hdF A) := hw
          have hch := c_lowestH (xs := xs) (Ln := Ln) (d := d + 5) (D := D) (L := L) hw' hu
          cases hl : lst (fun s => sbI (nI u) (nI s) && decide (0 < hdF A s)) 4096 with
          | none =>
            rw [hl, nO_n] at hch
            simp (disch := first | omega | exact c1_int _ | exact c1_none | exact c1_ref _ | exact isRf_ref _ | assumption | exact okRb _ | exact okN1 | exact okN0 | exact rfl) only [N_X10_about_0, N_X10_about_1, N_X10_about_4, N_X10_about_7, N_X10_about_8, N_X10_about_9, N_X10_about_10_0, N_X10_about_10_1, N_X10_about_10_2, N_X10_about_10, N_X10_about_36, N_X10_about_37, N_X10_about_40, N_X10_about_43, N_X10_about_44, N_X10_about_47, N_X10_about_48, N_X10_about_49, N_X10_about_52, N_X10_about_55, N_X10_about_56, N_X10_about_59, N_X10_about_60, N_X10_about_61, N_X10_about_64, N_X10_about_67, N_X10_about_68, N_X10_about_71, N_X10_about_72, N_X10_about_73, if_true, if_false, ite_true, ite_false, not_false_eq_true, not_true_eq_false, isRf_ref, isRf_null, c1_int, c1_ref, c1_null, c1_none, rfv_some, rfv_none, Ok_s, tl_some, tl_none, List.nil_append, b2i_n1, b2i_n0, ↓reduceIte, nI_add, pk_mul, pk_sub, n_leT, n_leF, n_ltT, n_ltF, n_eqT, n_eqF, n_shl1, n_shl, n_shr, nI_and, nI_or, nI_xor, b2i_z, b2i_o, m1_n, n_m1, m1_lt, m1_le, n_lm1, n_em1, nI_m1, and1, and3, and7, and15, and63, and255, Bool.true_eq_false, Bool.false_eq_true, reduceCtorEq, Nat.reduceAdd, Nat.reduceMul, Nat.reduceSub, Nat.reduceDiv, Nat.reduceMod, Nat.reducePow, Nat.zero_add, Nat.one_mul, c_isStoreSet, show inN (nI u) 4096 = true from h0, hch]
            rfl
          | some i =>
            rw [hl, nO_s] at hch
            simp (disch := first | omega | exact c1_int _ | exact c1_none | exact c1_ref _ | exact isRf_ref _ | assumption | exact okRb _ | exact okN1 | exact okN0 | exact rfl) only [N_X10_about_0, N_X10_about_1, N_X10_about_4, N_X10_about_7, N_X10_about_8, N_X10_about_9, N_X10_about_10_0, N_X10_about_10_1, N_X10_about_10_2, N_X10_about_10, N_X10_about_36, N_X10_about_37, N_X10_about_40, N_X10_about_43, N_X10_about_44, N_X10_about_47, N_X10_about_48, N_X10_about_49, N_X10_about_52, N_X10_about_55, N_X10_about_56, N_X10_about_59, N_X10_about_60, N_X10_about_61, N_X10_about_64, N_X10_about_67, N_X10_about_68, N_X10_about_71, N_X10_about_72, N_X10_about_73, if_true, if_false, ite_true, ite_false, not_false_eq_true, not_true_eq_false, isRf_ref, isRf_null, c1_int, c1_ref, c1_null, c1_none, rfv_some, rfv_none, Ok_s, tl_some, tl_none, List.nil_append, b2i_n1, b2i_n0, ↓reduceIte, nI_add, pk_mul, pk_sub, n_leT, n_leF, n_ltT, n_ltF, n_eqT, n_eqF, n_shl1, n_shl, n_shr, nI_and, nI_or, nI_xor, b2i_z, b2i_o, m1_n, n_m1, m1_lt, m1_le, n_lm1, n_em1, nI_m1, and1, and3, and7, and15, and63, and255, Bool.true_eq_false, Bool.false_eq_true, reduceCtorEq, Nat.reduceAdd, Nat.reduceMul, Nat.reduceSub, Nat.reduceDiv, Nat.reduceMod, Nat.reducePow, Nat.zero_add, Nat.one_mul, c_isStoreSet, show inN (nI u) 4096 = true from h0, hch]
        · rw [if_neg v2]
          have n0 : v.toInt ≠ 0 := fun e => v0 (Int32.toInt_inj.mp (by rw [e]; rfl))
          have n1 : v.toInt ≠ 1 := fun e => v1 (Int32.toInt_inj.mp (by rw [e]; rfl))
          have n2 : v.toInt ≠ 2 := fun e => v2 (Int32.toInt_inj.mp (by rw [e]; rfl))
          have hd : v.toInt < 0 ∨ 2 < v.toInt := by omega
          simp (disch := first | omega | exact c1_int _ | exact c1_none | exact c1_ref _ | exact isRf_ref _ | assumption | exact okRb _ | exact okN1 | exact okN0 | exact rfl) only [N_X10_about_0, N_X10_about_1, N_X10_about_4, N_X10_about_7, N_X10_about_8, N_X10_about_9, N_X10_about_10_0, N_X10_about_10_1, N_X10_about_10_2, N_X10_about_10, N_X10_about_36, N_X10_about_37, N_X10_about_40, N_X10_about_43, N_X10_about_44, N_X10_about_47, N_X10_about_48, N_X10_about_49, N_X10_about_52, N_X10_about_55, N_X10_about_56, N_X10_about_59, N_X10_about_60, N_X10_about_61, N_X10_about_64, N_X10_about_67, N_X10_about_68, N_X10_about_71, N_X10_about_72, N_X10_about_73, if_true, if_false, ite_true, ite_false, not_false_eq_true, not_true_eq_false, isRf_ref, isRf_null, c1_int, c1_ref, c1_null, c1_none, rfv_some, rfv_none, Ok_s, tl_some, tl_none, List.nil_append, b2i_n1, b2i_n0, ↓reduceIte, nI_add, pk_mul, pk_sub, n_leT, n_leF, n_ltT, n_ltF, n_eqT, n_eqF, n_shl1, n_shl, n_shr, nI_and, nI_or, nI_xor, b2i_z, b2i_o, m1_n, n_m1, m1_lt, m1_le, n_lm1, n_em1, nI_m1, and1, and3, and7, and15, and63, and255, Bool.true_eq_false, Bool.false_eq_true, reduceCtorEq, Nat.reduceAdd, Nat.reduceMul, Nat.reduceSub, Nat.reduceDiv, Nat.reduceMod, Nat.reducePow, Nat.zero_add, Nat.one_mul, c_isStoreSet, show inN u 4096 = true from h0]
          rfl
theorem lo_fold {α : Type} {n : Nat} {s f : Nat → Nat} (h : SO n s f) (F K : Nat → α) (G : Nat → α → α) (h0 : F 0 = K 0) (hF : ∀ x, F (x + 1) = if 0 < f x then G x (F x) else F x) (hK : ∀ i, K (i + 1) = G (s i) (K i)) : ∀ v, v ≤ 4096 → ∀ t, LO n s v t → F v = K t
  | 0, _, t, ho => by
    have : t = 0 := by
      by_cases e : t = 0
      · exact e
      · have := ho.2.1 0 (by omega)
        omega
    rw [this]
    exact h0
  | v + 1, hv, t, ho => by
    obtain ⟨h1, h2, h3, h4⟩ := h
    rw [hF]
    have ho1 := ho.1
    by_cases hf : 0 < f v
    · obtain ⟨i, hi, e⟩ := h4 v (by omega) hf
      have ht : t = i + 1 := by
        have a1 : i < t := by
          by_cases c : i < t
          · exact c
          · have := ho.2.2 i (by omega) hi
            omega
        by_cases c : t = i + 1
        · exact c
        · have b1 := ho.2.1 (i + 1) (by omega)
          have b2 := h3 i (i + 1) (by omega) (by omega)
          omega
      have ih := lo_fold ⟨h1, h2, h3, h4⟩ F K G h0 hF hK v (by omega) i ⟨by omega, fun j hj => by have := h3 j i hj hi; omega, fun j hj hjn => by
        by_cases c : j = i
        · rw [c]; omega
        · have := h3 i j (by omega) hjn
          omega⟩
      rw [if_pos hf, ih, ht, hK, e]
    · have ih := lo_fold ⟨h1, h2, h3, h4⟩ F K G h0 hF hK v (by omega) t ⟨ho1, fun j hj => by
        have q1 := ho.2.1 j hj
        have q2 := (h2 j (by omega)).2
        have q3 : s j ≠ v := fun c => hf (by rw [← c]; exact q2)
        omega, fun j hj hjn => by have := ho.2.2 j hj hjn; omega⟩
      rw [if_neg hf, ih]
def nrL (s : Nat → Nat) (a : Nat) : Nat → Nat × Nat
  | 0 => (0, 13)
  | i + 1 => if pp 12 (s i ^^^ a) < (nrL s a i).2 then (s i + 1, pp 12 (s i ^^^ a)) else nrL s a i
theorem nrL_s (s : Nat → Nat) (a i : Nat) : nrL s a (i + 1) = if pp 12 (s i ^^^ a) < (nrL s a i).2 then (s i + 1, pp 12 (s i ^^^ a)) else nrL s a i := id rfl
theorem nr_eq {n v : Nat} {s f : Nat → Nat} (h : SO n s f) : nrF f v 4096 = nrL s v n := by
  refine lo_fold h (nrF f v) (nrL s v) (fun x p => if pp 12 (x ^^^ v) < p.2 then (x + 1, pp 12 (x ^^^ v)) else p) rfl (fun x => ?_) (fun i => nrL_s _ _ _) 4096 (Nat.le_refl _) n (lo_top h)
  rw [nrF_s]
  by_cases hf : 0 < f x
  · rw [if_pos hf]
    by_cases hp : pp 12 (x ^^^ v) < (nrF f v x).2
    · rw [if_pos ⟨hf, hp⟩, if_pos hp]
    · rw [if_neg (fun c => hp c.2), if_neg hp]
  · rw [if_neg (fun c => hf c.1), if_neg hf]
theorem pp_pc (x : Nat) : ∀ n, pp n x = pcN x n
  | 0 => rfl
  | n + 1 => by
    rw [pp_s, pp_pc x n]
    rfl
theorem nrL_2 {s : Nat → Nat} {a : Nat} : ∀ i, ((nrL s a i).1 = 0 ∧ (nrL s a i).2 = 13) ∨ (0 < (nrL s a i).1 ∧ (nrL s a i).2 = pp 12 (((nrL s a i).1 - 1) ^^^ a) ∧ (nrL s a i).2 ≤ 12 ∧ ∃ j, j < i ∧ (nrL s a i).1 = s j + 1)
  | 0 => Or.inl ⟨rfl, rfl⟩
  | i + 1 => by
    rw [nrL_s]
    by_cases hp : pp 12 (s i ^^^ a) < (nrL s a i).2
    · rw [if_pos hp]
      right
      exact ⟨by dsimp only; omega, by dsimp only; rw [Nat.add_sub_cancel], pp_le _ _, i, by omega, rfl⟩
    · rw [if_neg hp]
      rcases nrL_2 (s := s) (a := a) i with h | ⟨h1, h2, h3, j, hj, h4⟩
      · exact Or.inl h
      · exact Or.inr ⟨h1, h2, h3, j, by omega, h4⟩
def lz (p : Nat × Nat) : Nat := if p.1 = 0 then 32768 else p.2
theorem c_nearest {n v : Nat} {s f : Nat → Nat} (hw : StW I n s f) (hv : v < 4096) : callD xs Ln (d + 2) 69 [.ref 11, .int (nI v)] (mkW D I L) = some (mkW D I L, some (.int (nM (nrL s v n).1))) := by
  obtain ⟨hn, hs, h⟩ := hw
  have h200 := h.1
  refine Ok.eq ?_
  refine semG (lo := [some (.ref 11), some (.int (nI v)), none, none, none, none]) rfl rfl (Nat.le_of_ble_eq_true rfl) rfl (show G_X7_nearest xs Ln _ 0 [some (.ref 11), some (.int (nI v)), none, none, none, none] [] _ _ from ?_)
  simp (disch := first | omega | exact c1_int _ | exact c1_none | exact c1_ref _ | exact isRf_ref _ | assumption | exact okRb _ | exact okN1 | exact okN0 | exact rfl) only [N_X7_nearest_0, N_X7_nearest_1, N_X7_nearest_2, N_X7_nearest_4, N_X7_nearest_5, N_X7_nearest_6, N_X7_nearest_10, N_X7_nearest_11, N_X7_nearest_14, N_X7_nearest_17, N_X7_nearest_18, N_X7_nearest_21, N_X7_nearest_23, N_X7_nearest_24, N_X7_nearest_25, N_X7_nearest_26, N_X7_nearest_29, N_X7_nearest_31, N_X7_nearest_33, N_X7_nearest_34, N_X7_nearest_37, N_X7_nearest_39, N_X7_nearest_40, N_X7_nearest_41, N_X7_nearest_44, N_X7_nearest_46, N_X7_nearest_47, N_X7_nearest_48, N_X7_nearest_51, N_X7_nearest_54, N_X7_nearest_55, if_true, if_false, ite_true, ite_false, not_false_eq_true, not_true_eq_false, isRf_ref, isRf_null, c1_int, c1_ref, c1_null, c1_none, rfv_some, rfv_none, Ok_s, tl_some, tl_none, List.nil_append, b2i_n1, b2i_n0, ↓reduceIte, nI_add, pk_mul, pk_sub, n_leT, n_leF, n_ltT, n_ltF, n_eqT, n_eqF, n_shl1, n_shl, n_shr, nI_and, nI_or, nI_xor, b2i_z, b2i_o, m1_n, n_m1, m1_lt, m1_le, n_lm1, n_em1, nI_m1, and1, and3, and7, and15, and63, and255, Bool.true_eq_false, Bool.false_eq_true, reduceCtorEq, Nat.reduceAdd, Nat.reduceMul, Nat.reduceSub, Nat.reduceDiv, Nat.reduceMod, Nat.reducePow, Nat.zero_add, Nat.one_mul]
  refine Lp (n := n) (σ := Unit) (E := fun i _ => ∀ u5, G_X7_nearest xs Ln (d + 1) 8 [some (.ref 11), some (.int (nI v)), some (.int (nM (nrL s v i).1)), some (.int (nI (lz (nrL s v i)))), some (.int (nI i)), u5] [] (mkW D I L) _) (Inv := fun _ _ => True) ?_ ?_ 0 () (by omega) trivial none
  · rintro _ _ u5
    rw [N_X7_nearest_8]
    simp (disch := first | omega | exact c1_int _ | exact c1_none | exact c1_ref _ | exact isRf_ref _ | assumption | exact okRb _ | exact okN1 | exact okN0 | exact rfl) only [N_X7_nearest_0, N_X7_nearest_1, N_X7_nearest_2, N_X7_nearest_4, N_X7_nearest_5, N_X7_nearest_6, N_X7_nearest_10, N_X7_nearest_11, N_X7_nearest_14, N_X7_nearest_17, N_X7_nearest_18, N_X7_nearest_21, N_X7_nearest_23, N_X7_nearest_24, N_X7_nearest_25, N_X7_nearest_26, N_X7_nearest_29, N_X7_nearest_31, N_X7_nearest_33, N_X7_nearest_34, N_X7_nearest_37, N_X7_nearest_39, N_X7_nearest_40, N_X7_nearest_41, N_X7_nearest_44, N_X7_nearest_46, N_X7_nearest_47, N_X7_nearest_48, N_X7_nearest_51, N_X7_nearest_54, N_X7_nearest_55, if_true, if_false, ite_true, ite_false, not_false_eq_true, not_true_eq_false, isRf_ref, isRf_null, c1_int, c1_ref, c1_null, c1_none, rfv_some, rfv_none, Ok_s, tl_some, tl_none, List.nil_append, b2i_n1, b2i_n0, ↓reduceIte, nI_add, pk_mul, pk_sub, n_leT, n_leF, n_ltT, n_ltF, n_eqT, n_eqF, n_shl1, n_shl, n_shr, nI_and, nI_or, nI_xor, b2i_z, b2i_o, m1_n, n_m1, m1_lt, m1_le, n_lm1, n_em1, nI_m1, and1, and3, and7, and15, and63, and255, Bool.true_eq_false, Bool.false_eq_true, reduceCtorEq, Nat.reduceAdd, Nat.reduceMul, Nat.reduceSub, Nat.reduceDiv, Nat.reduceMod, Nat.reducePow, Nat.zero_add, Nat.one_mul, hn]
  · rintro i _ hi _ ih u5
    try dsimp only at ih ⊢
    rw [N_X7_nearest_8]
    have e1 := (hs i hi).1
    have e2 := (h.2.1 i hi).1
    have hx : s i ^^^ v < 4096 := Nat.xor_lt_two_pow (n := 12) e2 hv
    have hb := bc_n hx
    rw [← pp_pc] at hb
    have hp12 := pp_le (s i ^^^ v) 12
    have hlz : lz (nrL s v i) ≤ 32768 ∧ (pp 12 (s i ^^^ v) < lz (nrL s v i) ↔ pp 12 (s i ^^^ v) < (nrL s v i).2) := by
      unfold lz
      rcases nrL_2 (s := s) (a := v) i with ⟨h1, h2⟩ | ⟨h1, h2, h3, h4⟩
      · rw [if_pos h1, h2]
        omega
      · rw [if_neg (by omega)]
        omega
    have hst := nrL_s s v i
    by_cases hp : pp 12 (s i ^^^ v) < (nrL s v i).2
    · have hp' := hlz.2.mpr hp
      rw [if_pos hp] at hst
      have e3 : nM (nrL s v (i + 1)).1 = nI (s i) := by rw [hst]; rfl
      have e4 : lz (nrL s v (i + 1)) = pp 12 (s i ^^^ v) := by rw [hst]; unfold lz; rw [if_neg (by dsimp only; omega)]
      simp (disch := first | omega | exact c1_int _ | exact c1_none | exact c1_ref _ | exact isRf_ref _ | assumption | exact okRb _ | exact okN1 | exact okN0 | exact rfl) only [N_X7_nearest_0, N_X7_nearest_1, N_X7_nearest_2, N_X7_nearest_4, N_X7_nearest_5, N_X7_nearest_6, N_X7_nearest_10, N_X7_nearest_11, N_X7_nearest_14, N_X7_nearest_17, N_X7_nearest_18, N_X7_nearest_21, N_X7_nearest_23, N_X7_nearest_24, N_X7_nearest_25, N_X7_nearest_26, N_X7_nearest_29, N_X7_nearest_31, N_X7_nearest_33, N_X7_nearest_34, N_X7_nearest_37, N_X7_nearest_39, N_X7_nearest_40, N_X7_nearest_41, N_X7_nearest_44, N_X7_nearest_46, N_X7_nearest_47, N_X7_nearest_48, N_X7_nearest_51, N_X7_nearest_54, N_X7_nearest_55, if_true, if_false, ite_true, ite_false, not_false_eq_true, not_true_eq_false, isRf_ref, isRf_null, c1_int, c1_ref, c1_null, c1_none, rfv_some, rfv_none, Ok_s, tl_some, tl_none, List.nil_append, b2i_n1, b2i_n0, ↓reduceIte, nI_add, pk_mul, pk_sub, n_leT, n_leF, n_ltT, n_ltF, n_eqT, n_eqF, n_shl1, n_shl, n_shr, nI_and, nI_or, nI_xor, b2i_z, b2i_o, m1_n, n_m1, m1_lt, m1_le, n_lm1, n_em1, nI_m1, and1, and3, and7, and15, and63, and255, Bool.true_eq_false, Bool.false_eq_true, reduceCtorEq, Nat.reduceAdd, Nat.reduceMul, Nat.reduceSub, Nat.reduceDiv, Nat.reduceMod, Nat.reducePow, Nat.zero_add, Nat.one_mul, hn, e1, c_bc, hb]
      have := ih () trivial (some (.int (nI (pp 12 (s i ^^^ v)))))
      rw [e3, e4] at this
      exact this
    · have hp' : ¬ pp 12 (s i ^^^ v) < lz (nrL s v i) := fun c => hp (hlz.2.mp c)
      rw [if_neg hp] at hst
      simp (disch := first | omega | exact c1_int _ | exact c1_none | exact c1_ref _ | exact isRf_ref _ | assumption | exact okRb _ | exact okN1 | exact okN0 | exact rfl) only [N_X7_nearest_0, N_X7_nearest_1, N_X7_nearest_2, N_X7_nearest_4, N_X7_nearest_5, N_X7_nearest_6, N_X7_nearest_10, N_X7_nearest_11, N_X7_nearest_14, N_X7_nearest_17, N_X7_nearest_18, N_X7_nearest_21, N_X7_nearest_23, N_X7_nearest_24, N_X7_nearest_25, N_X7_nearest_26, N_X7_nearest_29, N_X7_nearest_31, N_X7_nearest_33, N_X7_nearest_34, N_X7_nearest_37, N_X7_nearest_39, N_X7_nearest_40, N_X7_nearest_41, N_X7_nearest_44, N_X7_nearest_46, N_X7_nearest_47, N_X7_nearest_48, N_X7_nearest_51, N_X7_nearest_54, N_X7_nearest_55, if_true, if_false, ite_true, ite_false, not_false_eq_true, not_true_eq_false, isRf_ref, isRf_null, c1_int, c1_ref, c1_null, c1_none, rfv_some, rfv_none, Ok_s, tl_some, tl_none, List.nil_append, b2i_n1, b2i_n0, ↓reduceIte, nI_add, pk_mul, pk_sub, n_leT, n_leF, n_ltT, n_ltF, n_eqT, n_eqF, n_shl1, n_shl, n_shr, nI_and, nI_or, nI_xor, b2i_z, b2i_o, m1_n, n_m1, m1_lt, m1_le, n_lm1, n_em1, nI_m1, and1, and3, and7, and15, and63, and255, Bool.true_eq_false, Bool.false_eq_true, reduceCtorEq, Nat.reduceAdd, Nat.reduceMul, Nat.reduceSub, Nat.reduceDiv, Nat.reduceMod, Nat.reducePow, Nat.zero_add, Nat.one_mul, hn, e1, c_bc, hb]
      have := ih () trivial (some (.int (nI (pp 12 (s i ^^^ v)))))
      rw [hst] at this
      exact this
theorem C_near {u v x : Int32} (hx : x = qNear A u v) (h : CI D I A nn) : CCall xs Ln (d + 8) 126 [.ref 0, .int u, .int v] D I L A nn x := by
  subst hx
  have hst : StI I 1 (sa A) := by obtain ⟨ow, ky, ln, h⟩ := h; exact h.2.2.2.2.1
  obtain ⟨_, n, s, hw⟩ := hst.wo
  unfold qNear
  refine CC_id h (Ok.eq ?_)
  refine semG (lo := [some (.ref 0), some (.int u), some (.int v), none]) rfl rfl (Nat.le_of_ble_eq_true rfl) rfl (show G_X10_near xs Ln _ 0 [some (.ref 0), some (.int u), some (.int v), none] [] _ _ from ?_)
  cases h0 : inN u (nI 4096)
  · simp (disch := first | omega | exact c1_int _ | exact c1_none | exact c1_ref _ | exact isRf_ref _ | assumption | exact okRb _ | exact okN1 | exact okN0 | exact rfl) only [N_X10_near_0, N_X10_near_1, N_X10_near_4, N_X10_near_7, N_X10_near_8, N_X10_near_11, N_X10_near_12, N_X10_near_13, N_X10_near_16, N_X10_near_17, N_X10_near_18, N_X10_near_19, N_X10_near_22, N_X10_near_25, N_X10_near_26, N_X10_near_29, N_X10_near_30, N_X10_near_31, N_X10_near_32, N_X10_near_35, N_X10_near_36, N_X10_near_39, N_X10_near_40, N_X10_near_43, N_X10_near_44, N_X10_near_45, N_X10_near_46, N_X10_near_49, if_true, if_false, ite_true, ite_false, not_false_eq_true, not_true_eq_false, isRf_ref, isRf_null, c1_int, c1_ref, c1_null, c1_none, rfv_some, rfv_none, Ok_s, tl_some, tl_none, List.nil_append, b2i_n1, b2i_n0, ↓reduceIte, nI_add, pk_mul, pk_sub, n_leT, n_leF, n_ltT, n_ltF, n_eqT, n_eqF, n_shl1, n_shl, n_shr, nI_and, nI_or, nI_xor, b2i_z, b2i_o, m1_n, n_m1, m1_lt, m1_le, n_lm1, n_em1, nI_m1, and1, and3, and7, and15, and63, and255, Bool.true_eq_false, Bool.false_eq_true, reduceCtorEq, Nat.reduceAdd, Nat.reduceMul, Nat.reduceSub, Nat.reduceDiv, Nat.reduceMod, Nat.reducePow, Nat.zero_add, Nat.one_mul, c_isStoreSet, show inN u 4096 = false from h0]
    rfl
  · cases h1 : inN v (nI 2)
    · have w0 : ¬ v = nI 0 := fun e => by rw [e] at h1; exact absurd h1 (by decide)
      have w1 : ¬ v = nI 1 := fun e => by rw [e] at h1; exact absurd h1 (by decide)
      simp (disch := first | omega | exact c1_int _ | exact c1_none | exact c1_ref _ | exact isRf_ref _ | assumption | exact okRb _ | exact okN1 | exact okN0 | exact rfl) only [N_X10_near_0, N_X10_near_1, N_X10_near_4, N_X10_near_7, N_X10_near_8, N_X10_near_11, N_X10_near_12, N_X10_near_13, N_X10_near_16, N_X10_near_17, N_X10_near_18, N_X10_near_19, N_X10_near_22, N_X10_near_25, N_X10_near_26, N_X10_near_29, N_X10_near_30, N_X10_near_31, N_X10_near_32, N_X10_near_35, N_X10_near_36, N_X10_near_39, N_X10_near_40, N_X10_near_43, N_X10_near_44, N_X10_near_45, N_X10_near_46, N_X10_near_49, if_true, if_false, ite_true, ite_false, not_false_eq_true, not_true_eq_false, isRf_ref, isRf_null, c1_int, c1_ref, c1_null, c1_none, rfv_some, rfv_none, Ok_s, tl_some, tl_none, List.nil_append, b2i_n1, b2i_n0, ↓reduceIte, nI_add, pk_mul, pk_sub, n_leT, n_leF, n_ltT, n_ltF, n_eqT, n_eqF, n_shl1, n_shl, n_shr, nI_and, nI_or, nI_xor, b2i_z, b2i_o, m1_n, n_m1, m1_lt, m1_le, n_lm1, n_em1, nI_m1, and1, and3, and7, and15, and63, and255, Bool.true_eq_false, Bool.false_eq_true, reduceCtorEq, Nat.reduceAdd, Nat.reduceMul, Nat.reduceSub, Nat.reduceDiv, Nat.reduceMod, Nat.reducePow, Nat.zero_add, Nat.one_mul, c_isStoreSet, show inN u 4096 = true from h0, w0, w1]
      rfl
    · rw [if_neg (by decide)]
      obtain ⟨u, hu, rfl⟩ := inN_t (by decide) h0
      obtain ⟨v, hv, rfl⟩ := inN_t (by decide) h1
      rw [n_cl (by omega), show nrF (hdF A) u 4096 = nrL s u n from nr_eq hw.2.2]
      have hne := c_nearest (xs := xs) (Ln := Ln) (d := d + 5) (D := D) (L := L) hw hu
      rcases nrL_2 (s := s) (a := u) n with ⟨q1, q2⟩ | ⟨q1, q2, q3, j, hj, q4⟩
      · rw [if_pos (Or.inl q1), q1]
        rw [q1, show nM 0 = m1 from rfl] at hne
        have hv01 : v = 0 ∨ v = 1 := by omega
        rcases hv01 with rfl | rfl <;> simp (disch := first | omega | exact c1_int _ | exact c1_none | exact c1_ref _ | exact isRf_ref _ | assumption | exact okRb _ | exact okN1 | exact okN0 | exact rfl) only [N_X10_near_0, N_X10_near_1, N_X10_near_4, N_X10_near_7, N_X10_near_8, N_X10_near_11, N_X10_near_12, N_X10_near_13, N_X10_near_16, N_X10_near_17, N_X10_near_18, N_X10_near_19, N_X10_near_22, N_X10_near_25, N_X10_near_26, N_X10_near_29, N_X10_near_30, N_X10_near_31, N_X10_near_32, N_X10_near_35, N_X10_near_36, N_X10_near_39, N_X10_near_40, N_X10_near_43, N_X10_near_44, N_X10_near_45, N_X10_near_46, N_X10_near_49, if_true, if_false, ite_true, ite_false, not_false_eq_true, not_true_eq_false, isRf_ref, isRf_null, c1_int, c1_ref, c1_null, c1_none, rfv_some, rfv_none, Ok_s, tl_some, tl_none, List.nil_append, b2i_n1, b2i_n0, ↓reduceIte, nI_add, pk_mul, pk_sub, n_leT, n_leF, n_ltT, n_ltF, n_eqT, n_eqF, n_shl1, n_shl, n_shr, nI_and, nI_or, nI_xor, b2i_z, b2i_o, m1_n, n_m1, m1_lt, m1_le, n_lm1, n_em1, nI_m1, and1, and3, and7, and15, and63, and255, Bool.true_eq_false, Bool.false_eq_true, reduceCtorEq, Nat.reduceAdd, Nat.reduceMul, Nat.reduceSub, Nat.reduceDiv, Nat.reduceMod, Nat.reducePow, Nat.zero_add, Nat.one_mul, c_isStoreSet, show inN (nI u) 4096 = true from h0, hne] <;> rfl
      · have hsj := (hw.2.2.2.1 j hj).1
        have ez : nM (nrL s u n).1 = nI (s j) := by rw [q4]; rfl
        rw [ez] at hne
        have hx : s j ^^^ u < 4096 := Nat.xor_lt_two_pow (n := 12) hsj hu
        have hb := bc_n hx
        rw [← pp_pc] at hb
        rw [q4, Nat.add_sub_cancel] at q2
        have hv01 : v = 0 ∨ v = 1 := by omega
        rcases hv01 with rfl | rfl
        · rw [if_pos (show (nrL s u n).1 = 0 ∨ nI 0 = 0 from Or.inr rfl), q4, show nI (s j + 1) - 1 = nI (s j) from nI_sb (b := 1) (by omega)]
          simp (disch := first | omega | exact c1_int _ | exact c1_none | exact c1_ref _ | exact isRf_ref _ | assumption | exact okRb _ | exact okN1 | exact okN0 | exact rfl) only [N_X10_near_0, N_X10_near_1, N_X10_near_4, N_X10_near_7, N_X10_near_8, N_X10_near_11, N_X10_near_12, N_X10_near_13, N_X10_near_16, N_X10_near_17, N_X10_near_18, N_X10_near_19, N_X10_near_22, N_X10_near_25, N_X10_near_26, N_X10_near_29, N_X10_near_30, N_X10_near_31, N_X10_near_32, N_X10_near_35, N_X10_near_36, N_X10_near_39, N_X10_near_40, N_X10_near_43, N_X10_near_44, N_X10_near_45, N_X10_near_46, N_X10_near_49, if_true, if_false, ite_true, ite_false, not_false_eq_true, not_true_eq_false, isRf_ref, isRf_null, c1_int, c1_ref, c1_null, c1_none, rfv_some, rfv_none, Ok_s, tl_some, tl_none, List.nil_append, b2i_n1, b2i_n0, ↓reduceIte, nI_add, pk_mul, pk_sub, n_leT, n_leF, n_ltT, n_ltF, n_eqT, n_eqF, n_shl1, n_shl, n_shr, nI_and, nI_or, nI_xor, b2i_z, b2i_o, m1_n, n_m1, m1_lt, m1_le, n_lm1, n_em1, nI_m1, and1, and3, and7, and15, and63, and255, Bool.true_eq_false, Bool.false_eq_true, reduceCtorEq, Nat.reduceAdd, Nat.reduceMul, Nat.reduceSub, Nat.reduceDiv, Nat.reduceMod, Nat.reducePow, Nat.zero_add, Nat.one_mul, c_isStoreSet, show inN (nI u) 4096 = true from h0, hne]
        · rw [if_neg (by rintro (c | c); omega; exact absurd c (by decide)), q2]
          simp (disch := first | omega | exact c1_int _ | exact c1_none | exact c1_ref _ | exact isRf_ref _ | assumption | exact okRb _ | exact okN1 | exact okN0 | exact rfl) only [N_X10_near_0, N_X10_near_1, N_X10_near_4, N_X10_near_7, N_X10_near_8, N_X10_near_11, N_X10_near_12, N_X10_near_13, N_X10_near_16, N_X10_near_17, N_X10_near_18, N_X10_near_19, N_X10_near_22, N_X10_near_25, N_X10_near_26, N_X10_near_29, N_X10_near_30, N_X10_near_31, N_X10_near_32, N_X10_near_35, N_X10_near_36, N_X10_near_39, N_X10_near_40, N_X10_near_43, N_X10_near_44, N_X10_near_45, N_X10_near_46, N_X10_near_49, if_true, if_false, ite_true, ite_false, not_false_eq_true, not_true_eq_false, isRf_ref, isRf_null, c1_int, c1_ref, c1_null, c1_none, rfv_some, rfv_none, Ok_s, tl_some, tl_none, List.nil_append, b2i_n1, b2i_n0, ↓reduceIte, nI_add, pk_mul, pk_sub, n_leT, n_leF, n_ltT, n_ltF, n_eqT, n_eqF, n_shl1, n_shl, n_shr, nI_and, nI_or, nI_xor, b2i_z, b2i_o, m1_n, n_m1, m1_lt, m1_le, n_lm1, n_em1, nI_m1, and1, and3, and7, and15, and63, and255, Bool.true_eq_false, Bool.false_eq_true, reduceCtorEq, Nat.reduceAdd, Nat.reduceMul, Nat.reduceSub, Nat.reduceDiv, Nat.reduceMod, Nat.reducePow, Nat.zero_add, Nat.one_mul, c_isStoreSet, show inN (nI u) 4096 = true from h0, hne, c_bc, hb]
end Pg4
