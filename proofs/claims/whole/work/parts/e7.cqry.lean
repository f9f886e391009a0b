section Pe7
variable {xs : Nat → Int32} {Ln d : Nat} {D D' D'' : Dyn} {I I' I'' : Nat → Nat → Int32} {L : Nat → Nat → Int64} {w : Om} {Q : Res → Prop} {ow ow' ow'' ky ky' ky'' ln ln' ln'' a a' : Nat → Nat} {o be sr : Nat} {A : As} {nn : Nat}
theorem CI.up (h : CI D I A nn) : CI D I A (nn + 1) := by
  obtain ⟨ow, ky, ln, h⟩ := h
  exact ⟨ow, ky, ln, h.up⟩
theorem CC_id {num e : Nat} {as : List Value} {x : Int32} (h : CI D I A nn) (hc : callD xs Ln e num as (mkW D I L) = some (mkW D I L, some (.int x))) : CCall xs Ln e num as D I L A nn x := Ok.of hc ⟨_, _, _, rfl, h.up, CFr.rf I⟩
theorem CI.cs (h : CI D I A nn) : ∃ ow, CS ow D I A := by
  obtain ⟨ow, ky, ln, h⟩ := h
  exact ⟨ow, h.2.2.2.2.2.1⟩
theorem CI.mz (h : CI D I A nn) : MzI I 1 (sa A) ∧ AW (sa A) ∧ StI I 1 (sa A) := by
  obtain ⟨ow, ky, ln, h⟩ := h
  exact ⟨h.2.2.2.1.1, h.2.2.2.1.2.1, h.2.2.2.2.1⟩
theorem C_status (h : CI D I A nn) : CCall xs Ln (d + 8) 136 [.ref 0] D I L A nn (sst A) := by
  obtain ⟨ow, hs⟩ := h.cs
  have hc := c_status (xs := xs) (Ln := Ln) (d := d + 7) (D := D) (I := I) (L := L)
  rw [hs.2.1] at hc
  exact CC_id h hc
theorem C_stray (h : CI D I A nn) : CCall xs Ln (d + 8) 95 [.ref 0] D I L A nn (nI (ssy A)) := by
  obtain ⟨ow, hs⟩ := h.cs
  have hc := c_stray (xs := xs) (Ln := Ln) (d := d + 7) (D := D) (I := I) (L := L)
  rw [hs.2.2.2.1] at hc
  exact CC_id h hc
theorem C_fault (h : CI D I A nn) : CCall xs Ln (d + 8) 97 [.ref 0] D I L A nn (nO (sfl A)) := by
  obtain ⟨ow, hs⟩ := h.cs
  have hc := c_fault (xs := xs) (Ln := Ln) (d := d + 7) (D := D) (I := I) (L := L)
  rw [hs.2.2.2.2.1] at hc
  exact CC_id h hc
theorem C_where {v : Int32} {x : Int32} (hx : x = qWhere A v) (h : CI D I A nn) : CCall xs Ln (d + 8) 129 [.ref 0, .int v] D I L A nn x := by
  obtain ⟨hM, hA, _⟩ := h.mz
  have h12 := hA.2.2.1
  have e6 : I 1 6 = nI (sa A 4322) := hM.m.2.2.2.2.2.2.1
  have hw := hM.m.2.2.2.2.2.2.2.2.2.2.2.2
  unfold qWhere at hx
  subst hx
  refine CC_id h ?_
  cases h0 : inN v (nI (sa A 4322)) with
  | false =>
    rw [if_neg (by decide)]
    exact c_whereN (by rw [e6]; exact h0)
  | true =>
    obtain ⟨p, hp, rfl⟩ := inN_t (by omega) h0
    have hwp := (hw p hp).1
    have hn0 : ¬ nI p < 0 := by
      have := n_lt (a := p) (b := 0) (by omega) (by decide)
      show ¬ nI p < nI 0
      rw [this]
      omega
    have hc := c_where (xs := xs) (Ln := Ln) (d := d + 6) (D := D) (I := I) (L := L) (v := nI p) (by rw [e6]; exact h0) (by rw [n_cl (by omega)]; rintro (h | h); exact hn0 h; omega)
    rw [n_cl (by omega), hwp] at hc
    rw [if_pos rfl, n_cl (by omega)]
    exact hc
theorem C_drawn {v : Int32} {x : Int32} (hx : x = qDrawn A v) (h : CI D I A nn) : CCall xs Ln (d + 8) 132 [.ref 0, .int v] D I L A nn x := by
  obtain ⟨ow, hs⟩ := h.cs
  have hn := hs.2.2.2.2.2.2
  unfold qDrawn at hx
  subst hx
  refine CC_id h ?_
  refine Ok.eq ?_
  refine semG (lo := [some (.ref 0), some (.int v)]) rfl rfl (Nat.le_of_ble_eq_true rfl) rfl (show G_X10_drawn xs Ln _ 0 [some (.ref 0), some (.int v)] [] _ _ from ?_)
  cases hh : shn A with
  | none =>
    rw [hh] at hn
    have e0 : I 50 0 = nI 0 := hn
    simp (disch := first | omega | exact c1_int _ | exact c1_none | exact c1_ref _ | exact isRf_ref _ | assumption | exact okRb _ | exact okN1 | exact okN0 | exact rfl) only [N_X10_drawn_0, N_X10_drawn_1, N_X10_drawn_4, N_X10_drawn_7, N_X10_drawn_10, N_X10_drawn_11, N_X10_drawn_12, N_X10_drawn_13, N_X10_drawn_14, N_X10_drawn_17, N_X10_drawn_18, N_X10_drawn_21, N_X10_drawn_24, N_X10_drawn_25, N_X10_drawn_26, N_X10_drawn_29, N_X10_drawn_30, N_X10_drawn_31, N_X10_drawn_34, N_X10_drawn_37, N_X10_drawn_40, N_X10_drawn_41, N_X10_drawn_44, N_X10_drawn_45, N_X10_drawn_48, N_X10_drawn_51, N_X10_drawn_52, N_X10_drawn_53, if_true, if_false, ite_true, ite_false, not_false_eq_true, not_true_eq_false, isRf_ref, isRf_null, c1_int, c1_ref, c1_null, c1_none, rfv_some, rfv_none, Ok_s, tl_some, tl_none, List.nil_append, b2i_n1, b2i_n0, ↓reduceIte, nI_add, pk_mul, pk_sub, n_leT, n_leF, n_ltT, n_ltF, n_eqT, n_eqF, n_shl1, n_shl, n_shr, nI_and, nI_or, nI_xor, b2i_z, b2i_o, m1_n, n_m1, m1_lt, m1_le, n_lm1, n_em1, nI_m1, and1, and3, and7, and15, and63, and255, Bool.true_eq_false, Bool.false_eq_true, reduceCtorEq, Nat.reduceAdd, Nat.reduceMul, Nat.reduceSub, Nat.reduceDiv, Nat.reduceMod, Nat.reducePow, Nat.zero_add, Nat.one_mul, e0]
    rfl
  | some q =>
    rw [hh] at hn
    obtain ⟨e0, e2, q12, e1, q8, e3⟩ := hn
    dsimp only
    by_cases hm : v = m1
    · subst hm
      have em : (m1 = m1) = True := eq_true rfl
      rw [if_pos rfl]
      simp (disch := first | omega | exact c1_int _ | exact c1_none | exact c1_ref _ | exact isRf_ref _ | assumption | exact okRb _ | exact okN1 | exact okN0 | exact rfl) only [N_X10_drawn_0, N_X10_drawn_1, N_X10_drawn_4, N_X10_drawn_7, N_X10_drawn_10, N_X10_drawn_11, N_X10_drawn_12, N_X10_drawn_13, N_X10_drawn_14, N_X10_drawn_17, N_X10_drawn_18, N_X10_drawn_21, N_X10_drawn_24, N_X10_drawn_25, N_X10_drawn_26, N_X10_drawn_29, N_X10_drawn_30, N_X10_drawn_31, N_X10_drawn_34, N_X10_drawn_37, N_X10_drawn_40, N_X10_drawn_41, N_X10_drawn_44, N_X10_drawn_45, N_X10_drawn_48, N_X10_drawn_51, N_X10_drawn_52, N_X10_drawn_53, if_true, if_false, ite_true, ite_false, not_false_eq_true, not_true_eq_false, isRf_ref, isRf_null, c1_int, c1_ref, c1_null, c1_none, rfv_some, rfv_none, Ok_s, tl_some, tl_none, List.nil_append, b2i_n1, b2i_n0, ↓reduceIte, nI_add, pk_mul, pk_sub, n_leT, n_leF, n_ltT, n_ltF, n_eqT, n_eqF, n_shl1, n_shl, n_shr, nI_and, nI_or, nI_xor, b2i_z, b2i_o, m1_n, n_m1, m1_lt, m1_le, n_lm1, n_em1, nI_m1, and1, and3, and7, and15, and63, and255, Bool.true_eq_false, Bool.false_eq_true, reduceCtorEq, Nat.reduceAdd, Nat.reduceMul, Nat.reduceSub, Nat.reduceDiv, Nat.reduceMod, Nat.reducePow, Nat.zero_add, Nat.one_mul, e0, e1, em]
    · rw [if_neg hm]
      cases h0 : inN v (nI q.1) with
      | false =>
        rw [if_neg (by simp)]
        unfold inN at h0
        by_cases hl : v < 0
        · have hl' : (v < nI 0) = True := eq_true hl
          simp (disch := first | omega | exact c1_int _ | exact c1_none | exact c1_ref _ | exact isRf_ref _ | assumption | exact okRb _ | exact okN1 | exact okN0 | exact rfl) only [N_X10_drawn_0, N_X10_drawn_1, N_X10_drawn_4, N_X10_drawn_7, N_X10_drawn_10, N_X10_drawn_11, N_X10_drawn_12, N_X10_drawn_13, N_X10_drawn_14, N_X10_drawn_17, N_X10_drawn_18, N_X10_drawn_21, N_X10_drawn_24, N_X10_drawn_25, N_X10_drawn_26, N_X10_drawn_29, N_X10_drawn_30, N_X10_drawn_31, N_X10_drawn_34, N_X10_drawn_37, N_X10_drawn_40, N_X10_drawn_41, N_X10_drawn_44, N_X10_drawn_45, N_X10_drawn_48, N_X10_drawn_51, N_X10_drawn_52, N_X10_drawn_53, if_true, if_false, ite_true, ite_false, not_false_eq_true, not_true_eq_false, isRf_ref, isRf_null, c1_int, c1_ref, c1_null, c1_none, rfv_some, rfv_none, Ok_s, tl_some, tl_none, List.nil_append, b2i_n1, b2i_n0, ↓reduceIte, nI_add, pk_mul, pk_sub, n_leT, n_leF, n_ltT, n_ltF, n_eqT, n_eqF, n_shl1, n_shl, n_shr, nI_and, nI_or, nI_xor, b2i_z, b2i_o, m1_n, n_m1, m1_lt, m1_le, n_lm1, n_em1, nI_m1, and1, and3, and7, and15, and63, and255, Bool.true_eq_false, Bool.false_eq_true, reduceCtorEq, Nat.reduceAdd, Nat.reduceMul, Nat.reduceSub, Nat.reduceDiv, Nat.reduceMod, Nat.reducePow, Nat.zero_add, Nat.one_mul, e0, hm, hl']
          rfl
        · have hl' : (v < nI 0) = False := eq_false hl
          rw [decide_eq_false hl, Bool.not_false, Bool.true_and, Bool.not_eq_false', decide_eq_true_eq] at h0
          have hg : (v < nI q.1) = False := eq_false (by rw [Int32.lt_iff_toInt_lt]; rw [Int32.le_iff_toInt_le] at h0; omega)
          simp (disch := first | omega | exact c1_int _ | exact c1_none | exact c1_ref _ | exact isRf_ref _ | assumption | exact okRb _ | exact okN1 | exact okN0 | exact rfl) only [N_X10_drawn_0, N_X10_drawn_1, N_X10_drawn_4, N_X10_drawn_7, N_X10_drawn_10, N_X10_drawn_11, N_X10_drawn_12, N_X10_drawn_13, N_X10_drawn_14, N_X10_drawn_17, N_X10_drawn_18, N_X10_drawn_21, N_X10_drawn_24, N_X10_drawn_25, N_X10_drawn_26, N_X10_drawn_29, N_X10_drawn_30, N_X10_drawn_31, N_X10_drawn_34, N_X10_drawn_37, N_X10_drawn_40, N_X10_drawn_41, N_X10_drawn_44, N_X10_drawn_45, N_X10_drawn_48, N_X10_drawn_51, N_X10_drawn_52, N_X10_drawn_53, if_true, if_false, ite_true, ite_false, not_false_eq_true, not_true_eq_false, isRf_ref, isRf_null, c1_int, c1_ref, c1_null, c1_none, rfv_some, rfv_none, Ok_s, tl_some, tl_none, List.nil_append, b2i_n1, b2i_n0, ↓reduceIte, nI_add, pk_mul, pk_sub, n_leT, n_leF, n_ltT, n_ltF, n_eqT, n_eqF, n_shl1, n_shl, n_shr, nI_and, nI_or, nI_xor, b2i_z, b2i_o, m1_n, n_m1, m1_lt, m1_le, n_lm1, n_em1, nI_m1, and1, and3, and7, and15, and63, and255, Bool.true_eq_false, Bool.false_eq_true, reduceCtorEq, Nat.reduceAdd, Nat.reduceMul, Nat.reduceSub, Nat.reduceDiv, Nat.reduceMod, Nat.reducePow, Nat.zero_add, Nat.one_mul, e0, e2, hm, hl', hg]
          rfl
      | true =>
        obtain ⟨p, hp, rfl⟩ := inN_t (by omega) h0
        have he3 := e3 p hp
        rw [if_pos rfl, n_cl (by omega)]
        simp (disch := first | omega | exact c1_int _ | exact c1_none | exact c1_ref _ | exact isRf_ref _ | assumption | exact okRb _ | exact okN1 | exact okN0 | exact rfl) only [N_X10_drawn_0, N_X10_drawn_1, N_X10_drawn_4, N_X10_drawn_7, N_X10_drawn_10, N_X10_drawn_11, N_X10_drawn_12, N_X10_drawn_13, N_X10_drawn_14, N_X10_drawn_17, N_X10_drawn_18, N_X10_drawn_21, N_X10_drawn_24, N_X10_drawn_25, N_X10_drawn_26, N_X10_drawn_29, N_X10_drawn_30, N_X10_drawn_31, N_X10_drawn_34, N_X10_drawn_37, N_X10_drawn_40, N_X10_drawn_41, N_X10_drawn_44, N_X10_drawn_45, N_X10_drawn_48, N_X10_drawn_51, N_X10_drawn_52, N_X10_drawn_53, if_true, if_false, ite_true, ite_false, not_false_eq_true, not_true_eq_false, isRf_ref, isRf_null, c1_int, c1_ref, c1_null, c1_none, rfv_some, rfv_none, Ok_s, tl_some, tl_none, List.nil_append, b2i_n1, b2i_n0, ↓reduceIte, nI_add, pk_mul, pk_sub, n_leT, n_leF, n_ltT, n_ltF, n_eqT, n_eqF, n_shl1, n_shl, n_shr, nI_and, nI_or, nI_xor, b2i_z, b2i_o, m1_n, n_m1, m1_lt, m1_le, n_lm1, n_em1, nI_m1, and1, and3, and7, and15, and63, and255, Bool.true_eq_false, Bool.false_eq_true, reduceCtorEq, Nat.reduceAdd, Nat.reduceMul, Nat.reduceSub, Nat.reduceDiv, Nat.reduceMod, Nat.reducePow, Nat.zero_add, Nat.one_mul, e0, e2, he3]
theorem c_cnt0 : callD xs Ln (d + 1) 135 [.ref 0, .int (nI 0)] (mkW D I L) = some (mkW D I L, some (.int (I 1 0))) := by
  refine Ok.eq ?_
  refine semG (lo := [some (.ref 0), some (.int (nI 0))]) rfl rfl (Nat.le_of_ble_eq_true rfl) rfl (show G_X10_count xs Ln _ 0 [some (.ref 0), some (.int (nI 0))] [] _ _ from ?_)
  rw [N_X10_count_0, N_X10_count_1_0]
  simp (disch := first | omega | exact c1_int _ | exact c1_none | exact c1_ref _ | exact isRf_ref _ | assumption | exact okRb _ | exact okN1 | exact okN0 | exact rfl) only [N_X10_count_0, N_X10_count_72, N_X10_count_73, N_X10_count_76, N_X10_count_79, N_X10_count_80, N_X10_count_81, N_X10_count_84, N_X10_count_87, N_X10_count_88, N_X10_count_89, N_X10_count_92, N_X10_count_95, N_X10_count_96, N_X10_count_97, N_X10_count_100, N_X10_count_103, N_X10_count_104, N_X10_count_105, N_X10_count_108, N_X10_count_111, N_X10_count_114, N_X10_count_115, N_X10_count_116, N_X10_count_119, N_X10_count_122, N_X10_count_123, N_X10_count_124, N_X10_count_127, N_X10_count_130, N_X10_count_131, N_X10_count_132, N_X10_count_135, N_X10_count_136, N_X10_count_137, N_X10_count_138, N_X10_count_139, N_X10_count_142, N_X10_count_143, N_X10_count_144, N_X10_count_145, N_X10_count_146, N_X10_count_149, N_X10_count_150, N_X10_count_151, N_X10_count_152, N_X10_count_153, N_X10_count_156, N_X10_count_157, N_X10_count_158, N_X10_count_159, N_X10_count_160, N_X10_count_163, N_X10_count_165, N_X10_count_166, N_X10_count_167, N_X10_count_168, N_X10_count_171, N_X10_count_174, N_X10_count_175, N_X10_count_176, N_X10_count_179, N_X10_count_182, N_X10_count_183, N_X10_count_184, if_true, if_false, ite_true, ite_false, not_false_eq_true, not_true_eq_false, isRf_ref, isRf_null, c1_int, c1_ref, c1_null, c1_none, rfv_some, rfv_none, Ok_s, tl_some, tl_none, List.nil_append, b2i_n1, b2i_n0, ↓reduceIte, nI_add, pk_mul, pk_sub, n_leT, n_leF, n_ltT, n_ltF, n_eqT, n_eqF, n_shl1, n_shl, n_shr, nI_and, nI_or, nI_xor, b2i_z, b2i_o, m1_n, n_m1, m1_lt, m1_le, n_lm1, n_em1, nI_m1, and1, and3, and7, and15, and63, and255, Bool.true_eq_false, Bool.false_eq_true, reduceCtorEq, Nat.reduceAdd, Nat.reduceMul, Nat.reduceSub, Nat.reduceDiv, Nat.reduceMod, Nat.reducePow, Nat.zero_add, Nat.one_mul]
theorem c_cnt1 : callD xs Ln (d + 1) 135 [.ref 0, .int (nI 1)] (mkW D I L) = some (mkW D I L, some (.int (I 1 1))) := by
  refine Ok.eq ?_
  refine semG (lo := [some (.ref 0), some (.int (nI 1))]) rfl rfl (Nat.le_of_ble_eq_true rfl) rfl (show G_X10_count xs Ln _ 0 [some (.ref 0), some (.int (nI 1))] [] _ _ from ?_)
  rw [N_X10_count_0, N_X10_count_1_1]
  simp (disch := first | omega | exact c1_int _ | exact c1_none | exact c1_ref _ | exact isRf_ref _ | assumption | exact okRb _ | exact okN1 | exact okN0 | exact rfl) only [N_X10_count_0, N_X10_count_72, N_X10_count_73, N_X10_count_76, N_X10_count_79, N_X10_count_80, N_X10_count_81, N_X10_count_84, N_X10_count_87, N_X10_count_88, N_X10_count_89, N_X10_count_92, N_X10_count_95, N_X10_count_96, N_X10_count_97, N_X10_count_100, N_X10_count_103, N_X10_count_104, N_X10_count_105, N_X10_count_108, N_X10_count_111, N_X10_count_114, N_X10_count_115, N_X10_count_116, N_X10_count_119, N_X10_count_122, N_X10_count_123, N_X10_count_124, N_X10_count_127, N_X10_count_130, N_X10_count_131, N_X10_count_132, N_X10_count_135, N_X10_count_136, N_X10_count_137, N_X10_count_138, N_X10_count_139, N_X10_count_142, N_X10_count_143, N_X10_count_144, N_X10_count_145, N_X10_count_146, N_X10_count_149, N_X10_count_150, N_X10_count_151, N_X10_count_152, N_X10_count_153, N_X10_count_156, N_X10_count_157, N_X10_count_158, N_X10_count_159, N_X10_count_160, N_X10_count_163, N_X10_count_165, N_X10_count_166, N_X10_count_167, N_X10_count_168, N_X10_count_171, N_X10_count_174, N_X10_count_175, N_X10_count_176, N_X10_count_179, N_X10_count_182, N_X10_count_183, N_X10_count_184, if_true, if_false, ite_true, ite_false, not_false_eq_true, not_true_eq_false, isRf_ref, isRf_null, c1_int, c1_ref, c1_null, c1_none, rfv_some, rfv_none, Ok_s, tl_some, tl_none, List.nil_append, b2i_n1, b2i_n0, ↓reduceIte, nI_add, pk_mul, pk_sub, n_leT, n_leF, n_ltT, n_ltF, n_eqT, n_eqF, n_shl1, n_shl, n_shr, nI_and, nI_or, nI_xor, b2i_z, b2i_o, m1_n, n_m1, m1_lt, m1_le, n_lm1, n_em1, nI_m1, and1, and3, and7, and15, and63, and255, Bool.true_eq_false, Bool.false_eq_true, reduceCtorEq, Nat.reduceAdd, Nat.reduceMul, Nat.reduceSub, Nat.reduceDiv, Nat.reduceMod, Nat.reducePow, Nat.zero_add, Nat.one_mul]
theorem c_cnt2 : callD xs Ln (d + 1) 135 [.ref 0, .int (nI 2)] (mkW D I L) = some (mkW D I L, some (.int (I 1 3))) := by
  refine Ok.eq ?_
  refine semG (lo := [some (.ref 0), some (.int (nI 2))]) rfl rfl (Nat.le_of_ble_eq_true rfl) rfl (show G_X10_count xs Ln _ 0 [some (.ref 0), some (.int (nI 2))] [] _ _ from ?_)
  rw [N_X10_count_0, N_X10_count_1_2]
  simp (disch := first | omega | exact c1_int _ | exact c1_none | exact c1_ref _ | exact isRf_ref _ | assumption | exact okRb _ | exact okN1 | exact okN0 | exact rfl) only [N_X10_count_0, N_X10_count_72, N_X10_count_73, N_X10_count_76, N_X10_count_79, N_X10_count_80, N_X10_count_81, N_X10_count_84, N_X10_count_87, N_X10_count_88, N_X10_count_89, N_X10_count_92, N_X10_count_95, N_X10_count_96, N_X10_count_97, N_X10_count_100, N_X10_count_103, N_X10_count_104, N_X10_count_105, N_X10_count_108, N_X10_count_111, N_X10_count_114, N_X10_count_115, N_X10_count_116, N_X10_count_119, N_X10_count_122, N_X10_count_123, N_X10_count_124, N_X10_count_127, N_X10_count_130, N_X10_count_131, N_X10_count_132, N_X10_count_135, N_X10_count_136, N_X10_count_137, N_X10_count_138, N_X10_count_139, N_X10_count_142, N_X10_count_143, N_X10_count_144, N_X10_count_145, N_X10_count_146, N_X10_count_149, N_X10_count_150, N_X10_count_151, N_X10_count_152, N_X10_count_153, N_X10_count_156, N_X10_count_157, N_X10_count_158, N_X10_count_159, N_X10_count_160, N_X10_count_163, N_X10_count_165, N_X10_count_166, N_X10_count_167, N_X10_count_168, N_X10_count_171, N_X10_count_174, N_X10_count_175, N_X10_count_176, N_X10_count_179, N_X10_count_182, N_X10_count_183, N_X10_count_184, if_true, if_false, ite_true, ite_false, not_false_eq_true, not_true_eq_false, isRf_ref, isRf_null, c1_int, c1_ref, c1_null, c1_none, rfv_some, rfv_none, Ok_s, tl_some, tl_none, List.nil_append, b2i_n1, b2i_n0, ↓reduceIte, nI_add, pk_mul, pk_sub, n_leT, n_leF, n_ltT, n_ltF, n_eqT, n_eqF, n_shl1, n_shl, n_shr, nI_and, nI_or, nI_xor, b2i_z, b2i_o, m1_n, n_m1, m1_lt, m1_le, n_lm1, n_em1, nI_m1, and1, and3, and7, and15, and63, and255, Bool.true_eq_false, Bool.false_eq_true, reduceCtorEq, Nat.reduceAdd, Nat.reduceMul, Nat.reduceSub, Nat.reduceDiv, Nat.reduceMod, Nat.reducePow, Nat.zero_add, Nat.one_mul]
theorem c_cnt3 : callD xs Ln (d + 1) 135 [.ref 0, .int (nI 3)] (mkW D I L) = some (mkW D I L, some (.int (I 1 5))) := by
  refine Ok.eq ?_
  refine semG (lo := [some (.ref 0), some (.int (nI 3))]) rfl rfl (Nat.le_of_ble_eq_true rfl) rfl (show G_X10_count xs Ln _ 0 [some (.ref 0), some (.int (nI 3))] [] _ _ from ?_)
  rw [N_X10_count_0, N_X10_count_1_3]
  simp (disch := first | omega | exact c1_int _ | exact c1_none | exact c1_ref _ | exact isRf_ref _ | assumption | exact okRb _ | exact okN1 | exact okN0 | exact rfl) only [N_X10_count_0, N_X10_count_72, N_X10_count_73, N_X10_count_76, N_X10_count_79, N_X10_count_80, N_X10_count_81, N_X10_count_84, N_X10_count_87, N_X10_count_88, N_X10_count_89, N_X10_count_92, N_X10_count_95, N_X10_count_96, N_X10_count_97, N_X10_count_100, N_X10_count_103, N_X10_count_104, N_X10_count_105, N_X10_count_108, N_X10_count_111, N_X10_count_114, N_X10_count_115, N_X10_count_116, N_X10_count_119, N_X10_count_122, N_X10_count_123, N_X10_count_124, N_X10_count_127, N_X10_count_130, N_X10_count_131, N_X10_count_132, N_X10_count_135, N_X10_count_136, N_X10_count_137, N_X10_count_138, N_X10_count_139, N_X10_count_142, N_X10_count_143, N_X10_count_144, N_X10_count_145, N_X10_count_146, N_X10_count_149, N_X10_count_150, N_X10_count_151, N_X10_count_152, N_X10_count_153, N_X10_count_156, N_X10_count_157, N_X10_count_158, N_X10_count_159, N_X10_count_160, N_X10_count_163, N_X10_count_165, N_X10_count_166, N_X10_count_167, N_X10_count_168, N_X10_count_171, N_X10_count_174, N_X10_count_175, N_X10_count_176, N_X10_count_179, N_X10_count_182, N_X10_count_183, N_X10_count_184, if_true, if_false, ite_true, ite_false, not_false_eq_true, not_true_eq_false, isRf_ref, isRf_null, c1_int, c1_ref, c1_null, c1_none, rfv_some, rfv_none, Ok_s, tl_some, tl_none, List.nil_append, b2i_n1, b2i_n0, ↓reduceIte, nI_add, pk_mul, pk_sub, n_leT, n_leF, n_ltT, n_ltF, n_eqT, n_eqF, n_shl1, n_shl, n_shr, nI_and, nI_or, nI_xor, b2i_z, b2i_o, m1_n, n_m1, m1_lt, m1_le, n_lm1, n_em1, nI_m1, and1, and3, and7, and15, and63, and255, Bool.true_eq_false, Bool.false_eq_true, reduceCtorEq, Nat.reduceAdd, Nat.reduceMul, Nat.reduceSub, Nat.reduceDiv, Nat.reduceMod, Nat.reducePow, Nat.zero_add, Nat.one_mul]
theorem c_cnt4 : callD xs Ln (d + 1) 135 [.ref 0, .int (nI 4)] (mkW D I L) = some (mkW D I L, some (.int (I 11 1))) := by
  refine Ok.eq ?_
  refine semG (lo := [some (.ref 0), some (.int (nI 4))]) rfl rfl (Nat.le_of_ble_eq_true rfl) rfl (show G_X10_count xs Ln _ 0 [some (.ref 0), some (.int (nI 4))] [] _ _ from ?_)
  rw [N_X10_count_0, N_X10_count_1_4]
  simp (disch := first | omega | exact c1_int _ | exact c1_none | exact c1_ref _ | exact isRf_ref _ | assumption | exact okRb _ | exact okN1 | exact okN0 | exact rfl) only [N_X10_count_0, N_X10_count_72, N_X10_count_73, N_X10_count_76, N_X10_count_79, N_X10_count_80, N_X10_count_81, N_X10_count_84, N_X10_count_87, N_X10_count_88, N_X10_count_89, N_X10_count_92, N_X10_count_95, N_X10_count_96, N_X10_count_97, N_X10_count_100, N_X10_count_103, N_X10_count_104, N_X10_count_105, N_X10_count_108, N_X10_count_111, N_X10_count_114, N_X10_count_115, N_X10_count_116, N_X10_count_119, N_X10_count_122, N_X10_count_123, N_X10_count_124, N_X10_count_127, N_X10_count_130, N_X10_count_131, N_X10_count_132, N_X10_count_135, N_X10_count_136, N_X10_count_137, N_X10_count_138, N_X10_count_139, N_X10_count_142, N_X10_count_143, N_X10_count_144, N_X10_count_145, N_X10_count_146, N_X10_count_149, N_X10_count_150, N_X10_count_151, N_X10_count_152, N_X10_count_153, N_X10_count_156, N_X10_count_157, N_X10_count_158, N_X10_count_159, N_X10_count_160, N_X10_count_163, N_X10_count_165, N_X10_count_166, N_X10_count_167, N_X10_count_168, N_X10_count_171, N_X10_count_174, N_X10_count_175, N_X10_count_176, N_X10_count_179, N_X10_count_182, N_X10_count_183, N_X10_count_184, if_true, if_false, ite_true, ite_false, not_false_eq_true, not_true_eq_false, isRf_ref, isRf_null, c1_int, c1_ref, c1_null, c1_none, rfv_some, rfv_none, Ok_s, tl_some, tl_none, List.nil_append, b2i_n1, b2i_n0, ↓reduceIte, nI_add, pk_mul, pk_sub, n_leT, n_leF, n_ltT, n_ltF, n_eqT, n_eqF, n_shl1, n_shl, n_shr, nI_and, nI_or, nI_xor, b2i_z, b2i_o, m1_n, n_m1, m1_lt, m1_le, n_lm1, n_em1, nI_m1, and1, and3, and7, and15, and63, and255, Bool.true_eq_false, Bool.false_eq_true, reduceCtorEq, Nat.reduceAdd, Nat.reduceMul, Nat.reduceSub, Nat.reduceDiv, Nat.reduceMod, Nat.reducePow, Nat.zero_add, Nat.one_mul]
theorem c_cnt5 : callD xs Ln (d + 1) 135 [.ref 0, .int (nI 5)] (mkW D I L) = some (mkW D I L, some (.int (I 1 6))) := by
  refine Ok.eq ?_
  refine semG (lo := [some (.ref 0), some (.int (nI 5))]) rfl rfl (Nat.le_of_ble_eq_true rfl) rfl (show G_X10_count xs Ln _ 0 [some (.ref 0), some (.int (nI 5))] [] _ _ from ?_)
  rw [N_X10_count_0, N_X10_count_1_5]
  simp (disch := first | omega | exact c1_int _ | exact c1_none | exact c1_ref _ | exact isRf_ref _ | assumption | exact okRb _ | exact okN1 | exact okN0 | exact rfl) only [N_X10_count_0, N_X10_count_72, N_X10_count_73, N_X10_count_76, N_X10_count_79, N_X10_count_80, N_X10_count_81, N_X10_count_84, N_X10_count_87, N_X10_count_88, N_X10_count_89, N_X10_count_92, N_X10_count_95, N_X10_count_96, N_X10_count_97, N_X10_count_100, N_X10_count_103, N_X10_count_104, N_X10_count_105, N_X10_count_108, N_X10_count_111, N_X10_count_114, N_X10_count_115, N_X10_count_116, N_X10_count_119, N_X10_count_122, N_X10_count_123, N_X10_count_124, N_X10_count_127, N_X10_count_130, N_X10_count_131, N_X10_count_132, N_X10_count_135, N_X10_count_136, N_X10_count_137, N_X10_count_138, N_X10_count_139, N_X10_count_142, N_X10_count_143, N_X10_count_144, N_X10_count_145, N_X10_count_146, N_X10_count_149, N_X10_count_150, N_X10_count_151, N_X10_count_152, N_X10_count_153, N_X10_count_156, N_X10_count_157, N_X10_count_158, N_X10_count_159, N_X10_count_160, N_X10_count_163, N_X10_count_165, N_X10_count_166, N_X10_count_167, N_X10_count_168, N_X10_count_171, N_X10_count_174, N_X10_count_175, N_X10_count_176, N_X10_count_179, N_X10_count_182, N_X10_count_183, N_X10_count_184, if_true, if_false, ite_true, ite_false, not_false_eq_true, not_true_eq_false, isRf_ref, isRf_null, c1_int, c1_ref, c1_null, c1_none, rfv_some, rfv_none, Ok_s, tl_some, tl_none, List.nil_append, b2i_n1, b2i_n0, ↓reduceIte, nI_add, pk_mul, pk_sub, n_leT, n_leF, n_ltT, n_ltF, n_eqT, n_eqF, n_shl1, n_shl, n_shr, nI_and, nI_or, nI_xor, b2i_z, b2i_o, m1_n, n_m1, m1_lt, m1_le, n_lm1, n_em1, nI_m1, and1, and3, and7, and15, and63, and255, Bool.true_eq_false, Bool.false_eq_true, reduceCtorEq, Nat.reduceAdd, Nat.reduceMul, Nat.reduceSub, Nat.reduceDiv, Nat.reduceMod, Nat.reducePow, Nat.zero_add, Nat.one_mul]
theorem c_cnt6 : callD xs Ln (d + 1) 135 [.ref 0, .int (nI 6)] (mkW D I L) = some (mkW D I L, some (.int (I 14 0))) := by
  refine Ok.eq ?_
  refine semG (lo := [some (.ref 0), some (.int (nI 6))]) rfl rfl (Nat.le_of_ble_eq_true rfl) rfl (show G_X10_count xs Ln _ 0 [some (.ref 0), some (.int (nI 6))] [] _ _ from ?_)
  rw [N_X10_count_0, N_X10_count_1_6]
  simp (disch := first | omega | exact c1_int _ | exact c1_none | exact c1_ref _ | exact isRf_ref _ | assumption | exact okRb _ | exact okN1 | exact okN0 | exact rfl) only [N_X10_count_0, N_X10_count_72, N_X10_count_73, N_X10_count_76, N_X10_count_79, N_X10_count_80, N_X10_count_81, N_X10_count_84, N_X10_count_87, N_X10_count_88, N_X10_count_89, N_X10_count_92, N_X10_count_95, N_X10_count_96, N_X10_count_97, N_X10_count_100, N_X10_count_103, N_X10_count_104, N_X10_count_105, N_X10_count_108, N_X10_count_111, N_X10_count_114, N_X10_count_115, N_X10_count_116, N_X10_count_119, N_X10_count_122, N_X10_count_123, N_X10_count_124, N_X10_count_127, N_X10_count_130, N_X10_count_131, N_X10_count_132, N_X10_count_135, N_X10_count_136, N_X10_count_137, N_X10_count_138, N_X10_count_139, N_X10_count_142, N_X10_count_143, N_X10_count_144, N_X10_count_145, N_X10_count_146, N_X10_count_149, N_X10_count_150, N_X10_count_151, N_X10_count_152, N_X10_count_153, N_X10_count_156, N_X10_count_157, N_X10_count_158, N_X10_count_159, N_X10_count_160, N_X10_count_163, N_X10_count_165, N_X10_count_166, N_X10_count_167, N_X10_count_168, N_X10_count_171, N_X10_count_174, N_X10_count_175, N_X10_count_176, N_X10_count_179, N_X10_count_182, N_X10_count_183, N_X10_count_184, if_true, if_false, ite_true, ite_false, not_false_eq_true, not_true_eq_false, isRf_ref, isRf_null, c1_int, c1_ref, c1_null, c1_none, rfv_some, rfv_none, Ok_s, tl_some, tl_none, List.nil_append, b2i_n1, b2i_n0, ↓reduceIte, nI_add, pk_mul, pk_sub, n_leT, n_leF, n_ltT, n_ltF, n_eqT, n_eqF, n_shl1, n_shl, n_shr, nI_and, nI_or, nI_xor, b2i_z, b2i_o, m1_n, n_m1, m1_lt, m1_le, n_lm1, n_em1, nI_m1, and1, and3, and7, and15, and63, and255, Bool.true_eq_false, Bool.false_eq_true, reduceCtorEq, Nat.reduceAdd, Nat.reduceMul, Nat.reduceSub, Nat.reduceDiv, Nat.reduceMod, Nat.reducePow, Nat.zero_add, Nat.one_mul]
theorem c_cnt7 : callD xs Ln (d + 1) 135 [.ref 0, .int (nI 7)] (mkW D I L) = some (mkW D I L, some (.int (I 80 1))) := by
  refine Ok.eq ?_
  refine semG (lo := [some (.ref 0), some (.int (nI 7))]) rfl rfl (Nat.le_of_ble_eq_true rfl) rfl (show G_X10_count xs Ln _ 0 [some (.ref 0), some (.int (nI 7))] [] _ _ from ?_)
  rw [N_X10_count_0, N_X10_count_1_7]
  simp (disch := first | omega | exact c1_int _ | exact c1_none | exact c1_ref _ | exact isRf_ref _ | assumption | exact okRb _ | exact okN1 | exact okN0 | exact rfl) only [N_X10_count_0, N_X10_count_72, N_X10_count_73, N_X10_count_76, N_X10_count_79, N_X10_count_80, N_X10_count_81, N_X10_count_84, N_X10_count_87, N_X10_count_88, N_X10_count_89, N_X10_count_92, N_X10_count_95, N_X10_count_96, N_X10_count_97, N_X10_count_100, N_X10_count_103, N_X10_count_104, N_X10_count_105, N_X10_count_108, N_X10_count_111, N_X10_count_114, N_X10_count_115, N_X10_count_116, N_X10_count_119, N_X10_count_122, N_X10_count_123, N_X10_count_124, N_X10_count_127, N_X10_count_130, N_X10_count_131, N_X10_count_132, N_X10_count_135, N_X10_count_136, N_X10_count_137, N_X10_count_138, N_X10_count_139, N_X10_count_142, N_X10_count_143, N_X10_count_144, N_X10_count_145, N_X10_count_146, N_X10_count_149, N_X10_count_150, N_X10_count_151, N_X10_count_152, N_X10_count_153, N_X10_count_156, N_X10_count_157, N_X10_count_158, N_X10_count_159, N_X10_count_160, N_X10_count_163, N_X10_count_165, N_X10_count_166, N_X10_count_167, N_X10_count_168, N_X10_count_171, N_X10_count_174, N_X10_count_175, N_X10_count_176, N_X10_count_179, N_X10_count_182, N_X10_count_183, N_X10_count_184, if_true, if_false, ite_true, ite_false, not_false_eq_true, not_true_eq_false, isRf_ref, isRf_null, c1_int, c1_ref, c1_null, c1_none, rfv_some, rfv_none, Ok_s, tl_some, tl_none, List.nil_append, b2i_n1, b2i_n0, ↓reduceIte, nI_add, pk_mul, pk_sub, n_leT, n_leF, n_ltT, n_ltF, n_eqT, n_eqF, n_shl1, n_shl, n_shr, nI_and, nI_or, nI_xor, b2i_z, b2i_o, m1_n, n_m1, m1_lt, m1_le, n_lm1, n_em1, nI_m1, and1, and3, and7, and15, and63, and255, Bool.true_eq_false, Bool.false_eq_true, reduceCtorEq, Nat.reduceAdd, Nat.reduceMul, Nat.reduceSub, Nat.reduceDiv, Nat.reduceMod, Nat.reducePow, Nat.zero_add, Nat.one_mul]
theorem c_cnt8 : callD xs Ln (d + 1) 135 [.ref 0, .int (nI 8)] (mkW D I L) = some (mkW D I L, some (.int (I 80 2))) := by
  refine Ok.eq ?_
  refine semG (lo := [some (.ref 0), some (.int (nI 8))]) rfl rfl (Nat.le_of_ble_eq_true rfl) rfl (show G_X10_count xs Ln _ 0 [some (.ref 0), some (.int (nI 8))] [] _ _ from ?_)
  rw [N_X10_count_0, N_X10_count_1_8]
  simp (disch := first | omega | exact c1_int _ | exact c1_none | exact c1_ref _ | exact isRf_ref _ | assumption | exact okRb _ | exact okN1 | exact okN0 | exact rfl) only [N_X10_count_0, N_X10_count_72, N_X10_count_73, N_X10_count_76, N_X10_count_79, N_X10_count_80, N_X10_count_81, N_X10_count_84, N_X10_count_87, N_X10_count_88, N_X10_count_89, N_X10_count_92, N_X10_count_95, N_X10_count_96, N_X10_count_97, N_X10_count_100, N_X10_count_103, N_X10_count_104, N_X10_count_105, N_X10_count_108, N_X10_count_111, N_X10_count_114, N_X10_count_115, N_X10_count_116, N_X10_count_119, N_X10_count_122, N_X10_count_123, N_X10_count_124, N_X10_count_127, N_X10_count_130, N_X10_count_131, N_X10_count_132, N_X10_count_135, N_X10_count_136, N_X10_count_137, N_X10_count_138, N_X10_count_139, N_X10_count_142, N_X10_count_143, N_X10_count_144, N_X10_count_145, N_X10_count_146, N_X10_count_149, N_X10_count_150, N_X10_count_151, N_X10_count_152, N_X10_count_153, N_X10_count_156, N_X10_count_157, N_X10_count_158, N_X10_count_159, N_X10_count_160, N_X10_count_163, N_X10_count_165, N_X10_count_166, N_X10_count_167, N_X10_count_168, N_X10_count_171, N_X10_count_174, N_X10_count_175, N_X10_count_176, N_X10_count_179, N_X10_count_182, N_X10_count_183, N_X10_count_184, if_true, if_false, ite_true, ite_false, not_false_eq_true, not_true_eq_false, isRf_ref, isRf_null, c1_int, c1_ref, c1_null, c1_none, rfv_some, rfv_none, Ok_s, tl_some, tl_none, List.nil_append, b2i_n1, b2i_n0, ↓reduceIte, nI_add, pk_mul, pk_sub, n_leT, n_leF, n_ltT, n_ltF, n_eqT, n_eqF, n_shl1, n_shl, n_shr, nI_and, nI_or, nI_xor, b2i_z, b2i_o, m1_n, n_m1, m1_lt, m1_le, n_lm1, n_em1, nI_m1, and1, and3, and7, and15, and63, and255, Bool.true_eq_false, Bool.false_eq_true, reduceCtorEq, Nat.reduceAdd, Nat.reduceMul, Nat.reduceSub, Nat.reduceDiv, Nat.reduceMod, Nat.reducePow, Nat.zero_add, Nat.one_mul]
theorem c_cnt9 : callD xs Ln (d + 1) 135 [.ref 0, .int (nI 9)] (mkW D I L) = some (mkW D I L, some (.int (I 80 3))) := by
  refine Ok.eq ?_
  refine semG (lo := [some (.ref 0), some (.int (nI 9))]) rfl rfl (Nat.le_of_ble_eq_true rfl) rfl (show G_X10_count xs Ln _ 0 [some (.ref 0), some (.int (nI 9))] [] _ _ from ?_)
  rw [N_X10_count_0, N_X10_count_1_9]
  simp (disch := first | omega | exact c1_int _ | exact c1_none | exact c1_ref _ | exact isRf_ref _ | assumption | exact okRb _ | exact okN1 | exact okN0 | exact rfl) only [N_X10_count_0, N_X10_count_72, N_X10_count_73, N_X10_count_76, N_X10_count_79, N_X10_count_80, N_X10_count_81, N_X10_count_84, N_X10_count_87, N_X10_count_88, N_X10_count_89, N_X10_count_92, N_X10_count_95, N_X10_count_96, N_X10_count_97, N_X10_count_100, N_X10_count_103, N_X10_count_104, N_X10_count_105, N_X10_count_108, N_X10_count_111, N_X10_count_114, N_X10_count_115, N_X10_count_116, N_X10_count_119, N_X10_count_122, N_X10_count_123, N_X10_count_124, N_X10_count_127, N_X10_count_130, N_X10_count_131, N_X10_count_132, N_X10_count_135, N_X10_count_136, N_X10_count_137, N_X10_count_138, N_X10_count_139, N_X10_count_142, N_X10_count_143, N_X10_count_144, N_X10_count_145, N_X10_count_146, N_X10_count_149, N_X10_count_150, N_X10_count_151, N_X10_count_152, N_X10_count_153, N_X10_count_156, N_X10_count_157, N_X10_count_158, N_X10_count_159, N_X10_count_160, N_X10_count_163, N_X10_count_165, N_X10_count_166, N_X10_count_167, N_X10_count_168, N_X10_count_171, N_X10_count_174, N_X10_count_175, N_X10_count_176, N_X10_count_179, N_X10_count_182, N_X10_count_183, N_X10_count_184, if_true, if_false, ite_true, ite_false, not_false_eq_true, not_true_eq_false, isRf_ref, isRf_null, c1_int, c1_ref, c1_null, c1_none, rfv_some, rfv_none, Ok_s, tl_some, tl_none, List.nil_append, b2i_n1, b2i_n0, ↓reduceIte, nI_add, pk_mul, pk_sub, n_leT, n_leF, n_ltT, n_ltF, n_eqT, n_eqF, n_shl1, n_shl, n_shr, nI_and, nI_or, nI_xor, b2i_z, b2i_o, m1_n, n_m1, m1_lt, m1_le, n_lm1, n_em1, nI_m1, and1, and3, and7, and15, and63, and255, Bool.true_eq_false, Bool.false_eq_true, reduceCtorEq, Nat.reduceAdd, Nat.reduceMul, Nat.reduceSub, Nat.reduceDiv, Nat.reduceMod, Nat.reducePow, Nat.zero_add, Nat.one_mul]
theorem c_cnt10 : callD xs Ln (d + 1) 135 [.ref 0, .int (nI 10)] (mkW D I L) = some (mkW D I L, some (.int (I 80 5))) := by
  refine Ok.eq ?_
  refine semG (lo := [some (.ref 0), some (.int (nI 10))]) rfl rfl (Nat.le_of_ble_eq_true rfl) rfl (show G_X10_count xs Ln _ 0 [some (.ref 0), some (.int (nI 10))] [] _ _ from ?_)
  rw [N_X10_count_0, N_X10_count_1_10]
  simp (disch := first | omega | exact c1_int _ | exact c1_none | exact c1_ref _ | exact isRf_ref _ | assumption | exact okRb _ | exact okN1 | exact okN0 | exact rfl) only [N_X10_count_0, N_X10_count_72, N_X10_count_73, N_X10_count_76, N_X10_count_79, N_X10_count_80, N_X10_count_81, N_X10_count_84, N_X10_count_87, N_X10_count_88, N_X10_count_89, N_X10_count_92, N_X10_count_95, N_X10_count_96, N_X10_count_97, N_X10_count_100, N_X10_count_103, N_X10_count_104, N_X10_count_105, N_X10_count_108, N_X10_count_111, N_X10_count_114, N_X10_count_115, N_X10_count_116, N_X10_count_119, N_X10_count_122, N_X10_count_123, N_X10_count_124, N_X10_count_127, N_X10_count_130, N_X10_count_131, N_X10_count_132, N_X10_count_135, N_X10_count_136, N_X10_count_137, N_X10_count_138, N_X10_count_139, N_X10_count_142, N_X10_count_143, N_X10_count_144, N_X10_count_145, N_X10_count_146, N_X10_count_149, N_X10_count_150, N_X10_count_151, N_X10_count_152, N_X10_count_153, N_X10_count_156, N_X10_count_157, N_X10_count_158, N_X10_count_159, N_X10_count_160, N_X10_count_163, N_X10_count_165, N_X10_count_166, N_X10_count_167, N_X10_count_168, N_X10_count_171, N_X10_count_174, N_X10_count_175, N_X10_count_176, N_X10_count_179, N_X10_count_182, N_X10_count_183, N_X10_count_184, if_true, if_false, ite_true, ite_false, not_false_eq_true, not_true_eq_false, isRf_ref, isRf_null, c1_int, c1_ref, c1_null, c1_none, rfv_some, rfv_none, Ok_s, tl_some, tl_none, List.nil_append, b2i_n1, b2i_n0, ↓reduceIte, nI_add, pk_mul, pk_sub, n_leT, n_leF, n_ltT, n_ltF, n_eqT, n_eqF, n_shl1, n_shl, n_shr, nI_and, nI_or, nI_xor, b2i_z, b2i_o, m1_n, n_m1, m1_lt, m1_le, n_lm1, n_em1, nI_m1, and1, and3, and7, and15, and63, and255, Bool.true_eq_false, Bool.false_eq_true, reduceCtorEq, Nat.reduceAdd, Nat.reduceMul, Nat.reduceSub, Nat.reduceDiv, Nat.reduceMod, Nat.reducePow, Nat.zero_add, Nat.one_mul]
theorem c_cnt11 : callD xs Ln (d + 1) 135 [.ref 0, .int (nI 11)] (mkW D I L) = some (mkW D I L, some (.int (I 80 6))) := by
  refine Ok.eq ?_
  refine semG (lo := [some (.ref 0), some (.int (nI 11))]) rfl rfl (Nat.le_of_ble_eq_true rfl) rfl (show G_X10_count xs Ln _ 0 [some (.ref 0), some (.int (nI 11))] [] _ _ from ?_)
  rw [N_X10_count_0, N_X10_count_1_11]
  simp (disch := first | omega | exact c1_int _ | exact c1_none | exact c1_ref _ | exact isRf_ref _ | assumption | exact okRb _ | exact okN1 | exact okN0 | exact rfl) only [N_X10_count_0, N_X10_count_72, N_X10_count_73, N_X10_count_76, N_X10_count_79, N_X10_count_80, N_X10_count_81, N_X10_count_84, N_X10_count_87, N_X10_count_88, N_X10_count_89, N_X10_count_92, N_X10_count_95, N_X10_count_96, N_X10_count_97, N_X10_count_100, N_X10_count_103, N_X10_count_104, N_X10_count_105, N_X10_count_108, N_X10_count_111, N_X10_count_114, N_X10_count_115, N_X10_count_116, N_X10_count_119, N_X10_count_122, N_X10_count_123, N_X10_count_124, N_X10_count_127, N_X10_count_130, N_X10_count_131, N_X10_count_132, N_X10_count_135, N_X10_count_136, N_X10_count_137, N_X10_count_138, N_X10_count_139, N_X10_count_142, N_X10_count_143, N_X10_count_144, N_X10_count_145, N_X10_count_146, N_X10_count_149, N_X10_count_150, N_X10_count_151, N_X10_count_152, N_X10_count_153, N_X10_count_156, N_X10_count_157, N_X10_count_158, N_X10_count_159, N_X10_count_160, N_X10_count_163, N_X10_count_165, N_X10_count_166, N_X10_count_167, N_X10_count_168, N_X10_count_171, N_X10_count_174, N_X10_count_175, N_X10_count_176, N_X10_count_179, N_X10_count_182, N_X10_count_183, N_X10_count_184, if_true, if_false, ite_true, ite_false, not_false_eq_true, not_true_eq_false, isRf_ref, isRf_null, c1_int, c1_ref, c1_null, c1_none, rfv_some, rfv_none, Ok_s, tl_some, tl_none, List.nil_append, b2i_n1, b2i_n0, ↓reduceIte, nI_add, pk_mul, pk_sub, n_leT, n_leF, n_ltT, n_ltF, n_eqT, n_eqF, n_shl1, n_shl, n_shr, nI_and, nI_or, nI_xor, b2i_z, b2i_o, m1_n, n_m1, m1_lt, m1_le, n_lm1, n_em1, nI_m1, and1, and3, and7, and15, and63, and255, Bool.true_eq_false, Bool.false_eq_true, reduceCtorEq, Nat.reduceAdd, Nat.reduceMul, Nat.reduceSub, Nat.reduceDiv, Nat.reduceMod, Nat.reducePow, Nat.zero_add, Nat.one_mul]
theorem c_cnt12 : callD xs Ln (d + 1) 135 [.ref 0, .int (nI 12)] (mkW D I L) = some (mkW D I L, some (.int (I 1 4))) := by
  refine Ok.eq ?_
  refine semG (lo := [some (.ref 0), some (.int (nI 12))]) rfl rfl (Nat.le_of_ble_eq_true rfl) rfl (show G_X10_count xs Ln _ 0 [some (.ref 0), some (.int (nI 12))] [] _ _ from ?_)
  rw [N_X10_count_0, N_X10_count_1_12]
  simp (disch := first | omega | exact c1_int _ | exact c1_none | exact c1_ref _ | exact isRf_ref _ | assumption | exact okRb _ | exact okN1 | exact okN0 | exact rfl) only [N_X10_count_0, N_X10_count_72, N_X10_count_73, N_X10_count_76, N_X10_count_79, N_X10_count_80, N_X10_count_81, N_X10_count_84, N_X10_count_87, N_X10_count_88, N_X10_count_89, N_X10_count_92, N_X10_count_95, N_X10_count_96, N_X10_count_97, N_X10_count_100, N_X10_count_103, N_X10_count_104, N_X10_count_105, N_X10_count_108, N_X10_count_111, N_X10_count_114, N_X10_count_115, N_X10_count_116, N_X10_count_119, N_X10_count_122, N_X10_count_123, N_X10_count_124, N_X10_count_127, N_X10_count_130, N_X10_count_131, N_X10_count_132, N_X10_count_135, N_X10_count_136, N_X10_count_137, N_X10_count_138, N_X10_count_139, N_X10_count_142, N_X10_count_143, N_X10_count_144, N_X10_count_145, N_X10_count_146, N_X10_count_149, N_X10_count_150, N_X10_count_151, N_X10_count_152, N_X10_count_153, N_X10_count_156, N_X10_count_157, N_X10_count_158, N_X10_count_159, N_X10_count_160, N_X10_count_163, N_X10_count_165, N_X10_count_166, N_X10_count_167, N_X10_count_168, N_X10_count_171, N_X10_count_174, N_X10_count_175, N_X10_count_176, N_X10_count_179, N_X10_count_182, N_X10_count_183, N_X10_count_184, if_true, if_false, ite_true, ite_false, not_false_eq_true, not_true_eq_false, isRf_ref, isRf_null, c1_int, c1_ref, c1_null, c1_none, rfv_some, rfv_none, Ok_s, tl_some, tl_none, List.nil_append, b2i_n1, b2i_n0, ↓reduceIte, nI_add, pk_mul, pk_sub, n_leT, n_leF, n_ltT, n_ltF, n_eqT, n_eqF, n_shl1, n_shl, n_shr, nI_and, nI_or, nI_xor, b2i_z, b2i_o, m1_n, n_m1, m1_lt, m1_le, n_lm1, n_em1, nI_m1, and1, and3, and7, and15, and63, and255, Bool.true_eq_false, Bool.false_eq_true, reduceCtorEq, Nat.reduceAdd, Nat.reduceMul, Nat.reduceSub, Nat.reduceDiv, Nat.reduceMod, Nat.reducePow, Nat.zero_add, Nat.one_mul]
theorem c_cnt13 : callD xs Ln (d + 1) 135 [.ref 0, .int (nI 13)] (mkW D I L) = some (mkW D I L, some (.int (I 1 2))) := by
  refine Ok.eq ?_
  refine semG (lo := [some (.ref 0), some (.int (nI 13))]) rfl rfl (Nat.le_of_ble_eq_true rfl) rfl (show G_X10_count xs Ln _ 0 [some (.ref 0), some (.int (nI 13))] [] _ _ from ?_)
  rw [N_X10_count_0, N_X10_count_1_13]
  simp (disch := first | omega | exact c1_int _ | exact c1_none | exact c1_ref _ | exact isRf_ref _ | assumption | exact okRb _ | exact okN1 | exact okN0 | exact rfl) only [N_X10_count_0, N_X10_count_72, N_X10_count_73, N_X10_count_76, N_X10_count_79, N_X10_count_80, N_X10_count_81, N_X10_count_84, N_X10_count_87, N_X10_count_88, N_X10_count_89, N_X10_count_92, N_X10_count_95, N_X10_count_96, N_X10_count_97, N_X10_count_100, N_X10_count_103, N_X10_count_104, N_X10_count_105, N_X10_count_108, N_X10_count_111, N_X10_count_114, N_X10_count_115, N_X10_count_116, N_X10_count_119, N_X10_count_122, N_X10_count_123, N_X10_count_124, N_X10_count_127, N_X10_count_130, N_X10_count_131, N_X10_count_132, N_X10_count_135, N_X10_count_136, N_X10_count_137, N_X10_count_138, N_X10_count_139, N_X10_count_142, N_X10_count_143, N_X10_count_144, N_X10_count_145, N_X10_count_146, N_X10_count_149, N_X10_count_150, N_X10_count_151, N_X10_count_152, N_X10_count_153, N_X10_count_156, N_X10_count_157, N_X10_count_158, N_X10_count_159, N_X10_count_160, N_X10_count_163, N_X10_count_165, N_X10_count_166, N_X10_count_167, N_X10_count_168, N_X10_count_171, N_X10_count_174, N_X10_count_175, N_X10_count_176, N_X10_count_179, N_X10_count_182, N_X10_count_183, N_X10_count_184, if_true, if_false, ite_true, ite_false, not_false_eq_true, not_true_eq_false, isRf_ref, isRf_null, c1_int, c1_ref, c1_null, c1_none, rfv_some, rfv_none, Ok_s, tl_some, tl_none, List.nil_append, b2i_n1, b2i_n0, ↓reduceIte, nI_add, pk_mul, pk_sub, n_leT, n_leF, n_ltT, n_ltF, n_eqT, n_eqF, n_shl1, n_shl, n_shr, nI_and, nI_or, nI_xor, b2i_z, b2i_o, m1_n, n_m1, m1_lt, m1_le, n_lm1, n_em1, nI_m1, and1, and3, and7, and15, and63, and255, Bool.true_eq_false, Bool.false_eq_true, reduceCtorEq, Nat.reduceAdd, Nat.reduceMul, Nat.reduceSub, Nat.reduceDiv, Nat.reduceMod, Nat.reducePow, Nat.zero_add, Nat.one_mul]
theorem c_cntN {v : Int32} (h : v.toInt < 0 ∨ 13 < v.toInt) : callD xs Ln (d + 1) 135 [.ref 0, .int v] (mkW D I L) = some (mkW D I L, some (.int m1)) := by
  refine Ok.eq ?_
  refine semG (lo := [some (.ref 0), some (.int v)]) rfl rfl (Nat.le_of_ble_eq_true rfl) rfl (show G_X10_count xs Ln _ 0 [some (.ref 0), some (.int v)] [] _ _ from ?_)
  rw [N_X10_count_0, N_X10_count_1 h]
  simp (disch := first | omega | exact c1_int _ | exact c1_none | exact c1_ref _ | exact isRf_ref _ | assumption | exact okRb _ | exact okN1 | exact okN0 | exact rfl) only [N_X10_count_0, N_X10_count_72, N_X10_count_73, N_X10_count_76, N_X10_count_79, N_X10_count_80, N_X10_count_81, N_X10_count_84, N_X10_count_87, N_X10_count_88, N_X10_count_89, N_X10_count_92, N_X10_count_95, N_X10_count_96, N_X10_count_97, N_X10_count_100, N_X10_count_103, N_X10_count_104, N_X10_count_105, N_X10_count_108, N_X10_count_111, N_X10_count_114, N_X10_count_115, N_X10_count_116, N_X10_count_119, N_X10_count_122, N_X10_count_123, N_X10_count_124, N_X10_count_127, N_X10_count_130, N_X10_count_131, N_X10_count_132, N_X10_count_135, N_X10_count_136, N_X10_count_137, N_X10_count_138, N_X10_count_139, N_X10_count_142, N_X10_count_143, N_X10_count_144, N_X10_count_145, N_X10_count_146, N_X10_count_149, N_X10_count_150, N_X10_count_151, N_X10_count_152, N_X10_count_153, N_X10_count_156, N_X10_count_157, N_X10_count_158, N_X10_count_159, N_X10_count_160, N_X10_count_163, N_X10_count_165, N_X10_count_166, N_X10_count_167, N_X10_count_168, N_X10_count_171, N_X10_count_174, N_X10_count_175, N_X10_count_176, N_X10_count_179, N_X10_count_182, N_X10_count_183, N_X10_count_184, if_true, if_false, ite_true, ite_false, not_false_eq_true, not_true_eq_false, isRf_ref, isRf_null, c1_int, c1_ref, c1_null, c1_none, rfv_some, rfv_none, Ok_s, tl_some, tl_none, List.nil_append, b2i_n1, b2i_n0, ↓reduceIte, nI_add, pk_mul, pk_sub, n_leT, n_leF, n_ltT, n_ltF, n_eqT, n_eqF, n_shl1, n_shl, n_shr, nI_and, nI_or, nI_xor, b2i_z, b2i_o, m1_n, n_m1, m1_lt, m1_le, n_lm1, n_em1, nI_m1, and1, and3, and7, and15, and63, and255, Bool.true_eq_false, Bool.false_eq_true, reduceCtorEq, Nat.reduceAdd, Nat.reduceMul, Nat.reduceSub, Nat.reduceDiv, Nat.reduceMod, Nat.reducePow, Nat.zero_add, Nat.one_mul]
theorem C_count {v : Int32} {x : Int32} (hx : x = qCount A v) (h : CI D I A nn) : CCall xs Ln (d + 8) 135 [.ref 0, .int v] D I L A nn x := by
  obtain ⟨hM, hA, hS⟩ := h.mz
  obtain ⟨ow, hs⟩ := h.cs
  obtain ⟨m0, m1', m2, m3, m4, m5, m6, _⟩ := hM.m
  obtain ⟨n, s, t1, t2, t3, _⟩ := hS
  have h8 := hs.2.2.1
  have h14 := hs.2.2.2.2.2.1.1
  subst hx
  rcases sw14 v with rfl | rfl | rfl | rfl | rfl | rfl | rfl | rfl | rfl | rfl | rfl | rfl | rfl | rfl | hh
  · refine CC_id h ?_
    have hc := c_cnt0 (xs := xs) (Ln := Ln) (d := d + 7) (D := D) (I := I) (L := L)
    rw [m0] at hc
    exact hc
  · refine CC_id h ?_
    have hc := c_cnt1 (xs := xs) (Ln := Ln) (d := d + 7) (D := D) (I := I) (L := L)
    rw [m1'] at hc
    exact hc
  · refine CC_id h ?_
    have hc := c_cnt2 (xs := xs) (Ln := Ln) (d := d + 7) (D := D) (I := I) (L := L)
    rw [m3] at hc
    exact hc
  · refine CC_id h ?_
    have hc := c_cnt3 (xs := xs) (Ln := Ln) (d := d + 7) (D := D) (I := I) (L := L)
    rw [m5] at hc
    exact hc
  · refine CC_id h ?_
    have hc := c_cnt4 (xs := xs) (Ln := Ln) (d := d + 7) (D := D) (I := I) (L := L)
    rw [t3] at hc
    exact hc
  · refine CC_id h ?_
    have hc := c_cnt5 (xs := xs) (Ln := Ln) (d := d + 7) (D := D) (I := I) (L := L)
    rw [m6] at hc
    exact hc
  · refine CC_id h ?_
    have hc := c_cnt6 (xs := xs) (Ln := Ln) (d := d + 7) (D := D) (I := I) (L := L)
    rw [h14] at hc
    exact hc
  · refine CC_id h ?_
    have hc := c_cnt7 (xs := xs) (Ln := Ln) (d := d + 7) (D := D) (I := I) (L := L)
    rw [h8 1 (by decide)] at hc
    exact hc
  · refine CC_id h ?_
    have hc := c_cnt8 (xs := xs) (Ln := Ln) (d := d + 7) (D := D) (I := I) (L := L)
    rw [h8 2 (by decide)] at hc
    exact hc
  · refine CC_id h ?_
    have hc := c_cnt9 (xs := xs) (Ln := Ln) (d := d + 7) (D := D) (I := I) (L := L)
    rw [h8 3 (by decide)] at hc
    exact hc
  · refine CC_id h ?_
    have hc := c_cnt10 (xs := xs) (Ln := Ln) (d := d + 7) (D := D) (I := I) (L := L)
    rw [h8 5 (by decide)] at hc
    exact hc
  · refine CC_id h ?_
    have hc := c_cnt11 (xs := xs) (Ln := Ln) (d := d + 7) (D := D) (I := I) (L := L)
    rw [h8 6 (by decide)] at hc
    exact hc
  · refine CC_id h ?_
    have hc := c_cnt12 (xs := xs) (Ln := Ln) (d := d + 7) (D := D) (I := I) (L := L)
    rw [m4] at hc
    exact hc
  · refine CC_id h ?_
    have hc := c_cnt13 (xs := xs) (Ln := Ln) (d := d + 7) (D := D) (I := I) (L := L)
    rw [m2] at hc
    exact hc
  · refine CC_id h ?_
    have hc := c_cntN (xs := xs) (Ln := Ln) (d := d + 7) (D := D) (I := I) (L := L) hh
    have hq : qCount A v = m1 := by
      have hs : ∀ k : Nat, k < 14 → ¬ v = nI k := fun k hk => by rw [sw14n hh hk]; exact id
      unfold qCount
      rw [if_neg (show ¬ v = 0 from hs 0 (by decide)), if_neg (show ¬ v = 1 from hs 1 (by decide)), if_neg (show ¬ v = 2 from hs 2 (by decide)), if_neg (show ¬ v = 3 from hs 3 (by decide)), if_neg (show ¬ v = 4 from hs 4 (by decide)), if_neg (show ¬ v = 5 from hs 5 (by decide)), if_neg (show ¬ v = 6 from hs 6 (by decide)), if_neg (show ¬ v = 7 from hs 7 (by decide)), if_neg (show ¬ v = 8 from hs 8 (by decide)), if_neg (show ¬ v = 9 from hs 9 (by decide)), if_neg (show ¬ v = 10 from hs 10 (by decide)), if_neg (show ¬ v = 11 from hs 11 (by decide)), if_neg (show ¬ v = 12 from hs 12 (by decide)), if_neg (show ¬ v = 13 from hs 13 (by decide))]
      rfl
    rw [hq]
    exact hc
end Pe7
