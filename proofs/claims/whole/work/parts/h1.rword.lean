section Ph1
variable {xs : Nat → Int32} {Ln d : Nat} {D D' D'' : Dyn} {I I' I'' J : Nat → Nat → Int32} {L : Nat → Nat → Int64} {w : Om} {Q : Res → Prop} {ow ow' ow'' ky ky' ky'' ln ln' ln'' a a' : Nat → Nat} {o be sr : Nat} {A A' : As} {nn : Nat}
/-! the reference: a word's name -/
theorem nx32 {k : Nat} (hk : k < 66) : k ≤ rnE (fun j => !decide (nmN j = 32)) 66 66 k ∧ rnE (fun j => !decide (nmN j = 32)) 66 66 k < 66 ∧ nmN (rnE (fun j => !decide (nmN j = 32)) 66 66 k) = 32 ∧ ∀ j, k ≤ j → j < rnE (fun j => !decide (nmN j = 32)) 66 66 k → nmN j ≠ 32 := by
  obtain ⟨q1, q2, q3, q4⟩ := rnE_sp (p := fun j => !decide (nmN j = 32)) (n := 66) 66 k (by omega) (by omega)
  generalize hE : rnE (fun j => !decide (nmN j = 32)) 66 66 k = e at q1 q2 q3 q4
  have q5 : ∀ j, k ≤ j → j < e → nmN j ≠ 32 := fun j a b c => by
    have := q3 j a b
    rw [decide_eq_true c] at this
    cases this
  have he : e < 66 := by
    by_cases c : e < 66
    · exact c
    · exact absurd nm_65 (q5 65 (by omega) (by omega))
  rcases q4 with q4 | q4
  · omega
  · skip
    refine ⟨q1, he, ?_, q5⟩
    by_cases c : nmN e = 32
    · exact c
    · rw [decide_eq_false c] at q4
      cases q4
theorem r_wo18 {k fr to : Nat} {u3 u6 u7 : Option Value} (hW : ∀ j, j < 66 → I 87 j = nmB j) : ∀ f m, k + m ≤ 65 → 66 ≤ k + m + f → (G_X11_wordOf xs Ln (d) 39 [some (.ref 82), some (.int (nI fr)), some (.int (nI to)), u3, some (.int (nI k)), some (.int (nI (rnE (fun j => !decide (nmN j = 32)) 66 f (k + m) - k))), u6, u7] [] (mkW D I L) Q) → G_X11_wordOf xs Ln (d) 18 [some (.ref 82), some (.int (nI fr)), some (.int (nI to)), u3, some (.int (nI k)), some (.int (nI m)), u6, u7] [] (mkW D I L) Q
  | 0, m, h1, h2, h => by omega
  | f + 1, m, h1, h2, h => by
    have e := hW (k + m) (by omega)
    rw [nm_B _ (by omega)] at e
    have hl := nm_lt (k + m) (by omega)
    rw [N_X11_wordOf_18]
    rw [rnE_s] at h
    by_cases c : nmN (k + m) = 32
    · rw [if_neg (fun q => by have := q.2; rw [decide_eq_true c] at this; cases this), show k + m - k = m by omega] at h
      simp (disch := first | omega | exact c1_int _ | exact c1_none | exact c1_ref _ | exact isRf_ref _ | assumption | exact okRb _ | exact okN1 | exact okN0 | exact rfl) only [N_X11_wordOf_0, N_X11_wordOf_1, N_X11_wordOf_2, N_X11_wordOf_3, N_X11_wordOf_5, N_X11_wordOf_7, N_X11_wordOf_8, N_X11_wordOf_11, N_X11_wordOf_12, N_X11_wordOf_15, N_X11_wordOf_16, N_X11_wordOf_19, N_X11_wordOf_22, N_X11_wordOf_24, N_X11_wordOf_26, N_X11_wordOf_27, N_X11_wordOf_28, N_X11_wordOf_30, N_X11_wordOf_33, N_X11_wordOf_36, N_X11_wordOf_41, N_X11_wordOf_42, N_X11_wordOf_43, N_X11_wordOf_44, N_X11_wordOf_47, N_X11_wordOf_48, N_X11_wordOf_51, N_X11_wordOf_52, N_X11_wordOf_54, N_X11_wordOf_55, N_X11_wordOf_57, N_X11_wordOf_59, N_X11_wordOf_61, N_X11_wordOf_64, N_X11_wordOf_66, N_X11_wordOf_69, N_X11_wordOf_70, N_X11_wordOf_73, N_X11_wordOf_75, N_X11_wordOf_77, N_X11_wordOf_78, N_X11_wordOf_79, N_X11_wordOf_80, N_X11_wordOf_83, N_X11_wordOf_84, N_X11_wordOf_86, N_X11_wordOf_87, N_X11_wordOf_88, N_X11_wordOf_91, N_X11_wordOf_92, N_X11_wordOf_95, N_X11_wordOf_96, N_X11_wordOf_98, N_X11_wordOf_101, N_X11_wordOf_104, N_X11_wordOf_106, N_X11_wordOf_109, N_X11_wordOf_110, N_X11_wordOf_111, N_X11_wordOf_113, N_X11_wordOf_115, N_X11_wordOf_116, N_X11_wordOf_117, N_X11_wordOf_118, N_X11_wordOf_120, N_X11_wordOf_123, N_X11_wordOf_126, N_X11_wordOf_127, if_true, if_false, ite_true, ite_false, not_false_eq_true, not_true_eq_false, isRf_ref, isRf_null, c1_int, c1_ref, c1_null, c1_none, rfv_some, rfv_none, Ok_s, tl_some, tl_none, List.nil_append, b2i_n1, b2i_n0, ↓reduceIte, nI_add, pk_mul, pk_sub, n_leT, n_leF, n_ltT, n_ltF, n_eqT, n_eqF, n_shl1, n_shl, n_shr, nI_and, nI_or, nI_xor, b2i_z, b2i_o, m1_n, n_m1, m1_lt, m1_le, n_lm1, n_em1, nI_m1, and1, and3, and7, and15, and63, and255, Bool.true_eq_false, Bool.false_eq_true, reduceCtorEq, Nat.reduceAdd, Nat.reduceMul, Nat.reduceSub, Nat.reduceDiv, Nat.reduceMod, Nat.reducePow, Nat.zero_add, Nat.one_mul, e]
      exact h
    · rw [if_pos ⟨by omega, by rw [decide_eq_false c]; rfl⟩] at h
      have hne : k + m ≠ 65 := fun q => c (by rw [q]; exact nm_65)
      simp (disch := first | omega | exact c1_int _ | exact c1_none | exact c1_ref _ | exact isRf_ref _ | assumption | exact okRb _ | exact okN1 | exact okN0 | exact rfl) only [N_X11_wordOf_0, N_X11_wordOf_1, N_X11_wordOf_2, N_X11_wordOf_3, N_X11_wordOf_5, N_X11_wordOf_7, N_X11_wordOf_8, N_X11_wordOf_11, N_X11_wordOf_12, N_X11_wordOf_15, N_X11_wordOf_16, N_X11_wordOf_19, N_X11_wordOf_22, N_X11_wordOf_24, N_X11_wordOf_26, N_X11_wordOf_27, N_X11_wordOf_28, N_X11_wordOf_30, N_X11_wordOf_33, N_X11_wordOf_36, N_X11_wordOf_41, N_X11_wordOf_42, N_X11_wordOf_43, N_X11_wordOf_44, N_X11_wordOf_47, N_X11_wordOf_48, N_X11_wordOf_51, N_X11_wordOf_52, N_X11_wordOf_54, N_X11_wordOf_55, N_X11_wordOf_57, N_X11_wordOf_59, N_X11_wordOf_61, N_X11_wordOf_64, N_X11_wordOf_66, N_X11_wordOf_69, N_X11_wordOf_70, N_X11_wordOf_73, N_X11_wordOf_75, N_X11_wordOf_77, N_X11_wordOf_78, N_X11_wordOf_79, N_X11_wordOf_80, N_X11_wordOf_83, N_X11_wordOf_84, N_X11_wordOf_86, N_X11_wordOf_87, N_X11_wordOf_88, N_X11_wordOf_91, N_X11_wordOf_92, N_X11_wordOf_95, N_X11_wordOf_96, N_X11_wordOf_98, N_X11_wordOf_101, N_X11_wordOf_104, N_X11_wordOf_106, N_X11_wordOf_109, N_X11_wordOf_110, N_X11_wordOf_111, N_X11_wordOf_113, N_X11_wordOf_115, N_X11_wordOf_116, N_X11_wordOf_117, N_X11_wordOf_118, N_X11_wordOf_120, N_X11_wordOf_123, N_X11_wordOf_126, N_X11_wordOf_127, if_true, if_false, ite_true, ite_false, not_false_eq_true, not_true_eq_false, isRf_ref, isRf_null, c1_int, c1_ref, c1_null, c1_none, rfv_some, rfv_none, Ok_s, tl_some, tl_none, List.nil_append, b2i_n1, b2i_n0, ↓reduceIte, nI_add, pk_mul, pk_sub, n_leT, n_leF, n_ltT, n_ltF, n_eqT, n_eqF, n_shl1, n_shl, n_shr, nI_and, nI_or, nI_xor, b2i_z, b2i_o, m1_n, n_m1, m1_lt, m1_le, n_lm1, n_em1, nI_m1, and1, and3, and7, and15, and63, and255, Bool.true_eq_false, Bool.false_eq_true, reduceCtorEq, Nat.reduceAdd, Nat.reduceMul, Nat.reduceSub, Nat.reduceDiv, Nat.reduceMod, Nat.reducePow, Nat.zero_add, Nat.one_mul, e]
      exact r_wo18 hW f (m + 1) (by omega) (by omega) h
def cmB (b : Nat → Nat) (fr k : Nat) (j : Nat) : Bool := decide (nmN (k + j) = b (fr + j))
theorem tb_hi : ∀ b, b < 256 → (128 ≤ b → tb b < nI 0) := by decide +kernel
theorem tb_nm (c : Nat) (hc : c < 128) (b : Nat) (hb : b < 256) : (nI c = tb b ↔ c = b) := by
  by_cases h : b < 128
  · rw [tb_eq b h, n_eq (by omega) (by omega)]
  · have h1 := tb_hi b hb (by omega)
    constructor
    · intro q
      rw [← q, n_lt (by omega) (by decide)] at h1
      omega
    · intro q
      omega
theorem r_wo57 {b : Nat → Nat} {k fr to n : Nat} {u3 : Option Value} (s0 : Bool) (hW : ∀ j, j < 66 → I 87 j = nmB j) (hB : ∀ j, j < 400 → I 88 j = tb (b j) ∧ b j < 256) (hk : k + n ≤ 65) (hf : s0 = true → fr + n ≤ 400) (hfr : fr ≤ 400) (h : ∀ u7, G_X11_wordOf xs Ln (d) 104 [some (.ref 82), some (.int (nI fr)), some (.int (nI to)), u3, some (.int (nI k)), some (.int (nI n)), some (.int (b2i (s0 && allB (cmB b fr k) n))), u7] [] (mkW D I L) Q) : ∀ m i, n = i + m → G_X11_wordOf xs Ln (d) 57 [some (.ref 82), some (.int (nI fr)), some (.int (nI to)), u3, some (.int (nI k)), some (.int (nI n)), some (.int (b2i (s0 && allB (cmB b fr k) i))), some (.int (nI i))] [] (mkW D I L) Q
  | 0, i, hi => by
    rw [N_X11_wordOf_57]
    have hin : i = n := by omega
    subst hin
    simp (disch := first | omega | exact c1_int _ | exact c1_none | exact c1_ref _ | exact isRf_ref _ | assumption | exact okRb _ | exact okN1 | exact okN0 | exact rfl) only [N_X11_wordOf_0, N_X11_wordOf_1, N_X11_wordOf_2, N_X11_wordOf_3, N_X11_wordOf_5, N_X11_wordOf_7, N_X11_wordOf_8, N_X11_wordOf_11, N_X11_wordOf_12, N_X11_wordOf_15, N_X11_wordOf_16, N_X11_wordOf_18, N_X11_wordOf_19, N_X11_wordOf_22, N_X11_wordOf_24, N_X11_wordOf_26, N_X11_wordOf_27, N_X11_wordOf_28, N_X11_wordOf_30, N_X11_wordOf_33, N_X11_wordOf_36, N_X11_wordOf_39, N_X11_wordOf_41, N_X11_wordOf_42, N_X11_wordOf_43, N_X11_wordOf_44, N_X11_wordOf_47, N_X11_wordOf_48, N_X11_wordOf_51, N_X11_wordOf_52, N_X11_wordOf_54, N_X11_wordOf_55, N_X11_wordOf_59, N_X11_wordOf_61, N_X11_wordOf_64, N_X11_wordOf_66, N_X11_wordOf_69, N_X11_wordOf_70, N_X11_wordOf_73, N_X11_wordOf_75, N_X11_wordOf_77, N_X11_wordOf_78, N_X11_wordOf_79, N_X11_wordOf_80, N_X11_wordOf_83, N_X11_wordOf_84, N_X11_wordOf_86, N_X11_wordOf_87, N_X11_wordOf_88, N_X11_wordOf_91, N_X11_wordOf_92, N_X11_wordOf_95, N_X11_wordOf_96, N_X11_wordOf_98, N_X11_wordOf_101, N_X11_wordOf_106, N_X11_wordOf_109, N_X11_wordOf_110, N_X11_wordOf_111, N_X11_wordOf_113, N_X11_wordOf_115, N_X11_wordOf_116, N_X11_wordOf_117, N_X11_wordOf_118, N_X11_wordOf_120, N_X11_wordOf_123, N_X11_wordOf_126, N_X11_wordOf_127, if_true, if_false, ite_true, ite_false, not_false_eq_true, not_true_eq_false, isRf_ref, isRf_null, c1_int, c1_ref, c1_null, c1_none, rfv_some, rfv_none, Ok_s, tl_some, tl_none, List.nil_append, b2i_n1, b2i_n0, ↓reduceIte, nI_add, pk_mul, pk_sub, n_leT, n_leF, n_ltT, n_ltF, n_eqT, n_eqF, n_shl1, n_shl, n_shr, nI_and, nI_or, nI_xor, b2i_z, b2i_o, m1_n, n_m1, m1_lt, m1_le, n_lm1, n_em1, nI_m1, and1, and3, and7, and15, and63, and255, Bool.true_eq_false, Bool.false_eq_true, reduceCtorEq, Nat.reduceAdd, Nat.reduceMul, Nat.reduceSub, Nat.reduceDiv, Nat.reduceMod, Nat.reducePow, Nat.zero_add, Nat.one_mul]
    exact h _
  | m + 1, i, hi => by
    rw [N_X11_wordOf_57]
    cases hs : s0 && allB (cmB b fr k) i with
    | false =>
      have hz : (s0 && allB (cmB b fr k) n) = false := by
        cases hs0 : s0
        · rfl
        · rw [hs0, Bool.true_and] at hs
          rw [allB_f hs n (by omega), Bool.and_false]
      rw [hz] at h
      simp (disch := first | omega | exact c1_int _ | exact c1_none | exact c1_ref _ | exact isRf_ref _ | assumption | exact okRb _ | exact okN1 | exact okN0 | exact rfl) only [N_X11_wordOf_0, N_X11_wordOf_1, N_X11_wordOf_2, N_X11_wordOf_3, N_X11_wordOf_5, N_X11_wordOf_7, N_X11_wordOf_8, N_X11_wordOf_11, N_X11_wordOf_12, N_X11_wordOf_15, N_X11_wordOf_16, N_X11_wordOf_18, N_X11_wordOf_19, N_X11_wordOf_22, N_X11_wordOf_24, N_X11_wordOf_26, N_X11_wordOf_27, N_X11_wordOf_28, N_X11_wordOf_30, N_X11_wordOf_33, N_X11_wordOf_36, N_X11_wordOf_39, N_X11_wordOf_41, N_X11_wordOf_42, N_X11_wordOf_43, N_X11_wordOf_44, N_X11_wordOf_47, N_X11_wordOf_48, N_X11_wordOf_51, N_X11_wordOf_52, N_X11_wordOf_54, N_X11_wordOf_55, N_X11_wordOf_59, N_X11_wordOf_61, N_X11_wordOf_64, N_X11_wordOf_66, N_X11_wordOf_69, N_X11_wordOf_70, N_X11_wordOf_73, N_X11_wordOf_75, N_X11_wordOf_77, N_X11_wordOf_78, N_X11_wordOf_79, N_X11_wordOf_80, N_X11_wordOf_83, N_X11_wordOf_84, N_X11_wordOf_86, N_X11_wordOf_87, N_X11_wordOf_88, N_X11_wordOf_91, N_X11_wordOf_92, N_X11_wordOf_95, N_X11_wordOf_96, N_X11_wordOf_98, N_X11_wordOf_101, N_X11_wordOf_106, N_X11_wordOf_109, N_X11_wordOf_110, N_X11_wordOf_111, N_X11_wordOf_113, N_X11_wordOf_115, N_X11_wordOf_116, N_X11_wordOf_117, N_X11_wordOf_118, N_X11_wordOf_120, N_X11_wordOf_123, N_X11_wordOf_126, N_X11_wordOf_127, if_true, if_false, ite_true, ite_false, not_false_eq_true, not_true_eq_false, isRf_ref, isRf_null, c1_int, c1_ref, c1_null, c1_none, rfv_some, rfv_none, Ok_s, tl_some, tl_none, List.nil_append, b2i_n1, b2i_n0, ↓reduceIte, nI_add, pk_mul, pk_sub, n_leT, n_leF, n_ltT, n_ltF, n_eqT, n_eqF, n_shl1, n_shl, n_shr, nI_and, nI_or, nI_xor, b2i_z, b2i_o, m1_n, n_m1, m1_lt, m1_le, n_lm1, n_em1, nI_m1, and1, and3, and7, and15, and63, and255, Bool.true_eq_false, Bool.false_eq_true, reduceCtorEq, Nat.reduceAdd, Nat.reduceMul, Nat.reduceSub, Nat.reduceDiv, Nat.reduceMod, Nat.reducePow, Nat.zero_add, Nat.one_mul]
      exact h _
    | true =>
      have hs0 : s0 = true := by
        cases hs0 : s0
        · rw [hs0] at hs; cases hs
        · rfl
      have hf2 := hf hs0
      have e1 := hW (k + i) (by omega)
      rw [nm_B _ (by omega)] at e1
      have hl := nm_lt (k + i) (by omega)
      obtain ⟨e2, hb⟩ := hB (fr + i) (by omega)
      have hq := tb_nm _ hl _ hb
      have hn1 : (s0 && allB (cmB b fr k) (i + 1)) = cmB b fr k i := by
        rw [hs0, Bool.true_and] at hs ⊢
        rw [allB_s, hs, Bool.true_and]
      have ih := r_wo57 s0 hW hB hk hf hfr h m (i + 1) (by omega)
      rw [hn1] at ih
      unfold cmB at ih
      by_cases c : nmN (k + i) = b (fr + i)
      · have c' := eq_true (hq.mpr c)
        rw [decide_eq_true c] at ih
        simp (disch := first | omega | exact c1_int _ | exact c1_none | exact c1_ref _ | exact isRf_ref _ | assumption | exact okRb _ | exact okN1 | exact okN0 | exact rfl) only [N_X11_wordOf_0, N_X11_wordOf_1, N_X11_wordOf_2, N_X11_wordOf_3, N_X11_wordOf_5, N_X11_wordOf_7, N_X11_wordOf_8, N_X11_wordOf_11, N_X11_wordOf_12, N_X11_wordOf_15, N_X11_wordOf_16, N_X11_wordOf_18, N_X11_wordOf_19, N_X11_wordOf_22, N_X11_wordOf_24, N_X11_wordOf_26, N_X11_wordOf_27, N_X11_wordOf_28, N_X11_wordOf_30, N_X11_wordOf_33, N_X11_wordOf_36, N_X11_wordOf_39, N_X11_wordOf_41, N_X11_wordOf_42, N_X11_wordOf_43, N_X11_wordOf_44, N_X11_wordOf_47, N_X11_wordOf_48, N_X11_wordOf_51, N_X11_wordOf_52, N_X11_wordOf_54, N_X11_wordOf_55, N_X11_wordOf_59, N_X11_wordOf_61, N_X11_wordOf_64, N_X11_wordOf_66, N_X11_wordOf_69, N_X11_wordOf_70, N_X11_wordOf_73, N_X11_wordOf_75, N_X11_wordOf_77, N_X11_wordOf_78, N_X11_wordOf_79, N_X11_wordOf_80, N_X11_wordOf_83, N_X11_wordOf_84, N_X11_wordOf_86, N_X11_wordOf_87, N_X11_wordOf_88, N_X11_wordOf_91, N_X11_wordOf_92, N_X11_wordOf_95, N_X11_wordOf_96, N_X11_wordOf_98, N_X11_wordOf_101, N_X11_wordOf_106, N_X11_wordOf_109, N_X11_wordOf_110, N_X11_wordOf_111, N_X11_wordOf_113, N_X11_wordOf_115, N_X11_wordOf_116, N_X11_wordOf_117, N_X11_wordOf_118, N_X11_wordOf_120, N_X11_wordOf_123, N_X11_wordOf_126, N_X11_wordOf_127, if_true, if_false, ite_true, ite_false, not_false_eq_true, not_true_eq_false, isRf_ref, isRf_null, c1_int, c1_ref, c1_null, c1_none, rfv_some, rfv_none, Ok_s, tl_some, tl_none, List.nil_append, b2i_n1, b2i_n0, ↓reduceIte, nI_add, pk_mul, pk_sub, n_leT, n_leF, n_ltT, n_ltF, n_eqT, n_eqF, n_shl1, n_shl, n_shr, nI_and, nI_or, nI_xor, b2i_z, b2i_o, m1_n, n_m1, m1_lt, m1_le, n_lm1, n_em1, nI_m1, and1, and3, and7, and15, and63, and255, Bool.true_eq_false, Bool.false_eq_true, reduceCtorEq, Nat.reduceAdd, Nat.reduceMul, Nat.reduceSub, Nat.reduceDiv, Nat.reduceMod, Nat.reducePow, Nat.zero_add, Nat.one_mul, e1, e2, c']
        exact ih
      · have c' := eq_false (fun q => c (hq.mp q))
        rw [decide_eq_false c] at ih
        simp (disch := first | omega | exact c1_int _ | exact c1_none | exact c1_ref _ | exact isRf_ref _ | assumption | exact okRb _ | exact okN1 | exact okN0 | exact rfl) only [N_X11_wordOf_0, N_X11_wordOf_1, N_X11_wordOf_2, N_X11_wordOf_3, N_X11_wordOf_5, N_X11_wordOf_7, N_X11_wordOf_8, N_X11_wordOf_11, N_X11_wordOf_12, N_X11_wordOf_15, N_X11_wordOf_16, N_X11_wordOf_18, N_X11_wordOf_19, N_X11_wordOf_22, N_X11_wordOf_24, N_X11_wordOf_26, N_X11_wordOf_27, N_X11_wordOf_28, N_X11_wordOf_30, N_X11_wordOf_33, N_X11_wordOf_36, N_X11_wordOf_39, N_X11_wordOf_41, N_X11_wordOf_42, N_X11_wordOf_43, N_X11_wordOf_44, N_X11_wordOf_47, N_X11_wordOf_48, N_X11_wordOf_51, N_X11_wordOf_52, N_X11_wordOf_54, N_X11_wordOf_55, N_X11_wordOf_59, N_X11_wordOf_61, N_X11_wordOf_64, N_X11_wordOf_66, N_X11_wordOf_69, N_X11_wordOf_70, N_X11_wordOf_73, N_X11_wordOf_75, N_X11_wordOf_77, N_X11_wordOf_78, N_X11_wordOf_79, N_X11_wordOf_80, N_X11_wordOf_83, N_X11_wordOf_84, N_X11_wordOf_86, N_X11_wordOf_87, N_X11_wordOf_88, N_X11_wordOf_91, N_X11_wordOf_92, N_X11_wordOf_95, N_X11_wordOf_96, N_X11_wordOf_98, N_X11_wordOf_101, N_X11_wordOf_106, N_X11_wordOf_109, N_X11_wordOf_110, N_X11_wordOf_111, N_X11_wordOf_113, N_X11_wordOf_115, N_X11_wordOf_116, N_X11_wordOf_117, N_X11_wordOf_118, N_X11_wordOf_120, N_X11_wordOf_123, N_X11_wordOf_126, N_X11_wordOf_127, if_true, if_false, ite_true, ite_false, not_false_eq_true, not_true_eq_false, isRf_ref, isRf_null, c1_int, c1_ref, c1_null, c1_none, rfv_some, rfv_none, Ok_s, tl_some, tl_none, List.nil_append, b2i_n1, b2i_n0, ↓reduceIte, nI_add, pk_mul, pk_sub, n_leT, n_leF, n_ltT, n_ltF, n_eqT, n_eqF, n_shl1, n_shl, n_shr, nI_and, nI_or, nI_xor, b2i_z, b2i_o, m1_n, n_m1, m1_lt, m1_le, n_lm1, n_em1, nI_m1, and1, and3, and7, and15, and63, and255, Bool.true_eq_false, Bool.false_eq_true, reduceCtorEq, Nat.reduceAdd, Nat.reduceMul, Nat.reduceSub, Nat.reduceDiv, Nat.reduceMod, Nat.reducePow, Nat.zero_add, Nat.one_mul, e1, e2, c']
        exact ih
theorem nsO_run {k e : Nat} (hs : nsO k = k) (hr : ∀ j, k ≤ j → j < e → nmN j ≠ 32) : ∀ i, k ≤ i → i ≤ e → nsO i = k ∧ nwO i = nwO k
  | 0, h1, h2 => by
    have : k = 0 := by omega
    rw [this]
    exact ⟨rfl, rfl⟩
  | i + 1, h1, h2 => by
    by_cases c : k = i + 1
    · rw [← c]
      exact ⟨hs, rfl⟩
    · obtain ⟨q1, q2⟩ := nsO_run hs hr i (by omega) (by omega)
      have := hr i (by omega) (by omega)
      rw [nsO_s, nwO_s, if_neg this, if_neg this]
      exact ⟨q1, q2⟩
theorem wP_e {b : Nat → Nat} {fr to k e : Nat} (hft : fr ≤ to) (h1 : k ≤ e) (h32 : nmN e = 32) (hs : nsO e = k) : wP b fr to e = (decide (e - k = to - fr) && allB (cmB b fr k) (e - k)) := by
  unfold wP smA
  rw [hs, decide_eq_true h32, Bool.true_and]
  by_cases c : fr + (e - k) = to
  · rw [decide_eq_true c, decide_eq_true (show e - k = to - fr by omega), Bool.and_true, Bool.true_and]
    refine allB_c _ (fun i hi => ?_)
    unfold cmB
    rw [decide_eq_true (show fr + i < to by omega), Bool.true_and]
    exact decide_eq_decide.mpr ⟨Eq.symm, Eq.symm⟩
  · rw [decide_eq_false c, decide_eq_false (show ¬ e - k = to - fr by omega), Bool.and_false, Bool.false_and]
theorem r_wordOf {b : Nat → Nat} {fr to : Nat} (hW : ∀ j, j < 66 → I 87 j = nmB j) (hB : ∀ j, j < 400 → I 88 j = tb (b j) ∧ b j < 256) (hft : fr ≤ to) (hto : to ≤ 400) : callD xs Ln (d + 1) 180 [.ref 82, .int (nI fr), .int (nI to)] (mkW D I L) = some (mkW D I L, some (.int (nI (wrd b fr to)))) := by
  refine Ok.eq ?_
  refine semG (lo := [some (.ref 82), some (.int (nI fr)), some (.int (nI to)), none, none, none, none, none]) rfl rfl (Nat.le_of_ble_eq_true rfl) rfl (show G_X11_wordOf xs Ln _ 0 [some (.ref 82), some (.int (nI fr)), some (.int (nI to)), none, none, none, none, none] [] _ _ from ?_)
  simp (disch := first | omega | exact c1_int _ | exact c1_none | exact c1_ref _ | exact isRf_ref _ | assumption | exact okRb _ | exact okN1 | exact okN0 | exact rfl) only [N_X11_wordOf_0, N_X11_wordOf_1, N_X11_wordOf_2, N_X11_wordOf_3, N_X11_wordOf_7, N_X11_wordOf_8, N_X11_wordOf_11, N_X11_wordOf_12, N_X11_wordOf_15, N_X11_wordOf_16, N_X11_wordOf_18, N_X11_wordOf_19, N_X11_wordOf_22, N_X11_wordOf_24, N_X11_wordOf_26, N_X11_wordOf_27, N_X11_wordOf_28, N_X11_wordOf_30, N_X11_wordOf_33, N_X11_wordOf_36, N_X11_wordOf_39, N_X11_wordOf_41, N_X11_wordOf_42, N_X11_wordOf_43, N_X11_wordOf_44, N_X11_wordOf_47, N_X11_wordOf_48, N_X11_wordOf_51, N_X11_wordOf_52, N_X11_wordOf_54, N_X11_wordOf_55, N_X11_wordOf_57, N_X11_wordOf_59, N_X11_wordOf_61, N_X11_wordOf_64, N_X11_wordOf_66, N_X11_wordOf_69, N_X11_wordOf_70, N_X11_wordOf_73, N_X11_wordOf_75, N_X11_wordOf_77, N_X11_wordOf_78, N_X11_wordOf_79, N_X11_wordOf_80, N_X11_wordOf_83, N_X11_wordOf_84, N_X11_wordOf_86, N_X11_wordOf_87, N_X11_wordOf_88, N_X11_wordOf_91, N_X11_wordOf_92, N_X11_wordOf_95, N_X11_wordOf_96, N_X11_wordOf_98, N_X11_wordOf_101, N_X11_wordOf_104, N_X11_wordOf_106, N_X11_wordOf_109, N_X11_wordOf_110, N_X11_wordOf_111, N_X11_wordOf_113, N_X11_wordOf_115, N_X11_wordOf_116, N_X11_wordOf_117, N_X11_wordOf_118, N_X11_wordOf_120, N_X11_wordOf_123, N_X11_wordOf_126, N_X11_wordOf_127, if_true, if_false, ite_true, ite_false, not_false_eq_true, not_true_eq_false, isRf_ref, isRf_null, c1_int, c1_ref, c1_null, c1_none, rfv_some, rfv_none, Ok_s, tl_some, tl_none, List.nil_append, b2i_n1, b2i_n0, ↓reduceIte, nI_add, pk_mul, pk_sub, n_leT, n_leF, n_ltT, n_ltF, n_eqT, n_eqF, n_shl1, n_shl, n_shr, nI_and, nI_or, nI_xor, b2i_z, b2i_o, m1_n, n_m1, m1_lt, m1_le, n_lm1, n_em1, nI_m1, and1, and3, and7, and15, and63, and255, Bool.true_eq_false, Bool.false_eq_true, reduceCtorEq, Nat.reduceAdd, Nat.reduceMul, Nat.reduceSub, Nat.reduceDiv, Nat.reduceMod, Nat.reducePow, Nat.zero_add, Nat.one_mul]
  refine Wl (σ := Nat) (fun k => 66 - k) (E := fun k => ∀ u5 u6 u7, G_X11_wordOf xs Ln (d) 5 [some (.ref 82), some (.int (nI fr)), some (.int (nI to)), some (.int (nI (nwO k + 1))), some (.int (nI k)), u5, u6, u7] [] (mkW D I L) _) (Inv := fun k => k ≤ 66 ∧ nsO k = k ∧ ∀ j, j < k → wP b fr to j = false) ?_ 0 ⟨by omega, rfl, fun j hj => by omega⟩ none none none
  rintro k ⟨k1, k2, k3⟩ ih u5 u6 u7
  rw [N_X11_wordOf_5]
  by_cases hk : k < 66
  · obtain ⟨n1, n2, n3, n4⟩ := nx32 hk
    generalize hE : rnE (fun j => !decide (nmN j = 32)) 66 66 k = e at n1 n2 n3 n4
    have hk13 := nwO_13 k hk
    obtain ⟨r1, r2⟩ := nsO_run k2 n4 e n1 (Nat.le_refl _)
    have hwp := wP_e (b := b) (fr := fr) (to := to) hft n1 n3 r1
    have hlo : ∀ j, j < e → wP b fr to j = false := fun j hj => by
      by_cases c : j < k
      · exact k3 j c
      · unfold wP
        rw [decide_eq_false (n4 j (by omega) hj), Bool.false_and]
    simp (disch := first | omega | exact c1_int _ | exact c1_none | exact c1_ref _ | exact isRf_ref _ | assumption | exact okRb _ | exact okN1 | exact okN0 | exact rfl) only [N_X11_wordOf_0, N_X11_wordOf_1, N_X11_wordOf_2, N_X11_wordOf_3, N_X11_wordOf_7, N_X11_wordOf_8, N_X11_wordOf_11, N_X11_wordOf_12, N_X11_wordOf_15, N_X11_wordOf_16, N_X11_wordOf_19, N_X11_wordOf_22, N_X11_wordOf_24, N_X11_wordOf_26, N_X11_wordOf_27, N_X11_wordOf_28, N_X11_wordOf_30, N_X11_wordOf_33, N_X11_wordOf_36, N_X11_wordOf_39, N_X11_wordOf_41, N_X11_wordOf_42, N_X11_wordOf_43, N_X11_wordOf_44, N_X11_wordOf_47, N_X11_wordOf_48, N_X11_wordOf_51, N_X11_wordOf_52, N_X11_wordOf_54, N_X11_wordOf_55, N_X11_wordOf_59, N_X11_wordOf_61, N_X11_wordOf_64, N_X11_wordOf_66, N_X11_wordOf_69, N_X11_wordOf_70, N_X11_wordOf_73, N_X11_wordOf_75, N_X11_wordOf_77, N_X11_wordOf_78, N_X11_wordOf_79, N_X11_wordOf_80, N_X11_wordOf_83, N_X11_wordOf_84, N_X11_wordOf_86, N_X11_wordOf_87, N_X11_wordOf_88, N_X11_wordOf_91, N_X11_wordOf_92, N_X11_wordOf_95, N_X11_wordOf_96, N_X11_wordOf_98, N_X11_wordOf_101, N_X11_wordOf_106, N_X11_wordOf_109, N_X11_wordOf_110, N_X11_wordOf_111, N_X11_wordOf_113, N_X11_wordOf_115, N_X11_wordOf_116, N_X11_wordOf_117, N_X11_wordOf_118, N_X11_wordOf_120, N_X11_wordOf_123, N_X11_wordOf_126, N_X11_wordOf_127, if_true, if_false, ite_true, ite_false, not_false_eq_true, not_true_eq_false, isRf_ref, isRf_null, c1_int, c1_ref, c1_null, c1_none, rfv_some, rfv_none, Ok_s, tl_some, tl_none, List.nil_append, b2i_n1, b2i_n0, ↓reduceIte, nI_add, pk_mul, pk_sub, n_leT, n_leF, n_ltT, n_ltF, n_eqT, n_eqF, n_shl1, n_shl, n_shr, nI_and, nI_or, nI_xor, b2i_z, b2i_o, m1_n, n_m1, m1_lt, m1_le, n_lm1, n_em1, nI_m1, and1, and3, and7, and15, and63, and255, Bool.true_eq_false, Bool.false_eq_true, reduceCtorEq, Nat.reduceAdd, Nat.reduceMul, Nat.reduceSub, Nat.reduceDiv, Nat.reduceMod, Nat.reducePow, Nat.zero_add, Nat.one_mul]
    refine r_wo18 hW 66 0 (by omega) (by omega) ?_
    have hE0 : rnE (fun j => !decide (nmN j = 32)) 66 66 (k + 0) = e := hE
    rw [hE0]
    have fin : ∀ u7, G_X11_wordOf xs Ln (d) 104 [some (.ref 82), some (.int (nI fr)), some (.int (nI to)), some (.int (nI (nwO k + 1))), some (.int (nI k)), some (.int (nI (e - k))), some (.int (b2i (decide (e - k = to - fr) && allB (cmB b fr k) (e - k)))), u7] [] (mkW D I L) (fun q => q = (mkW D I L, some (.int (nI (wrd b fr to))))) := by
      intro u7
      rw [← hwp]
      cases hw : wP b fr to e
      · simp (disch := first | omega | exact c1_int _ | exact c1_none | exact c1_ref _ | exact isRf_ref _ | assumption | exact okRb _ | exact okN1 | exact okN0 | exact rfl) only [N_X11_wordOf_0, N_X11_wordOf_1, N_X11_wordOf_2, N_X11_wordOf_3, N_X11_wordOf_7, N_X11_wordOf_8, N_X11_wordOf_11, N_X11_wordOf_12, N_X11_wordOf_15, N_X11_wordOf_16, N_X11_wordOf_19, N_X11_wordOf_22, N_X11_wordOf_24, N_X11_wordOf_26, N_X11_wordOf_27, N_X11_wordOf_28, N_X11_wordOf_30, N_X11_wordOf_33, N_X11_wordOf_36, N_X11_wordOf_39, N_X11_wordOf_41, N_X11_wordOf_42, N_X11_wordOf_43, N_X11_wordOf_44, N_X11_wordOf_47, N_X11_wordOf_48, N_X11_wordOf_51, N_X11_wordOf_52, N_X11_wordOf_54, N_X11_wordOf_55, N_X11_wordOf_59, N_X11_wordOf_61, N_X11_wordOf_64, N_X11_wordOf_66, N_X11_wordOf_69, N_X11_wordOf_70, N_X11_wordOf_73, N_X11_wordOf_75, N_X11_wordOf_77, N_X11_wordOf_78, N_X11_wordOf_79, N_X11_wordOf_80, N_X11_wordOf_83, N_X11_wordOf_84, N_X11_wordOf_86, N_X11_wordOf_87, N_X11_wordOf_88, N_X11_wordOf_91, N_X11_wordOf_92, N_X11_wordOf_95, N_X11_wordOf_96, N_X11_wordOf_98, N_X11_wordOf_101, N_X11_wordOf_104, N_X11_wordOf_106, N_X11_wordOf_109, N_X11_wordOf_110, N_X11_wordOf_111, N_X11_wordOf_113, N_X11_wordOf_115, N_X11_wordOf_116, N_X11_wordOf_117, N_X11_wordOf_118, N_X11_wordOf_120, N_X11_wordOf_123, N_X11_wordOf_126, N_X11_wordOf_127, if_true, if_false, ite_true, ite_false, not_false_eq_true, not_true_eq_false, isRf_ref, isRf_null, c1_int, c1_ref, c1_null, c1_none, rfv_some, rfv_none, Ok_s, tl_some, tl_none, List.nil_append, b2i_n1, b2i_n0, ↓reduceIte, nI_add, pk_mul, pk_sub, n_leT, n_leF, n_ltT, n_ltF, n_eqT, n_eqF, n_shl1, n_shl, n_shr, nI_and, nI_or, nI_xor, b2i_z, b2i_o, m1_n, n_m1, m1_lt, m1_le, n_lm1, n_em1, nI_m1, and1, and3, and7, and15, and63, and255, Bool.true_eq_false, Bool.false_eq_true, reduceCtorEq, Nat.reduceAdd, Nat.reduceMul, Nat.reduceSub, Nat.reduceDiv, Nat.reduceMod, Nat.reducePow, Nat.zero_add, Nat.one_mul]
        have e1 : k + (e - k + 1) = e + 1 := by omega
        rw [e1]
        have h5 : nwO k + 1 + 1 = nwO (e + 1) + 1 := by rw [nwO_s, if_pos n3, r2]
        rw [h5]
        refine ih (e + 1) (by omega) ⟨by omega, by rw [nsO_s, if_pos n3], fun j hj => ?_⟩ _ _ _
        by_cases c : j = e
        · rw [c]; exact hw
        · exact hlo j (by omega)
      · have hl : wrd b fr to = nwO k + 1 := by
          unfold wrd
          rw [(lst_s _ _ _).mpr ⟨n2, hw, hlo⟩]
          show nwO e + 1 = _
          rw [r2]
        rw [hl]
        simp (disch := first | omega | exact c1_int _ | exact c1_none | exact c1_ref _ | exact isRf_ref _ | assumption | exact okRb _ | exact okN1 | exact okN0 | exact rfl) only [N_X11_wordOf_0, N_X11_wordOf_1, N_X11_wordOf_2, N_X11_wordOf_3, N_X11_wordOf_7, N_X11_wordOf_8, N_X11_wordOf_11, N_X11_wordOf_12, N_X11_wordOf_15, N_X11_wordOf_16, N_X11_wordOf_19, N_X11_wordOf_22, N_X11_wordOf_24, N_X11_wordOf_26, N_X11_wordOf_27, N_X11_wordOf_28, N_X11_wordOf_30, N_X11_wordOf_33, N_X11_wordOf_36, N_X11_wordOf_39, N_X11_wordOf_41, N_X11_wordOf_42, N_X11_wordOf_43, N_X11_wordOf_44, N_X11_wordOf_47, N_X11_wordOf_48, N_X11_wordOf_51, N_X11_wordOf_52, N_X11_wordOf_54, N_X11_wordOf_55, N_X11_wordOf_59, N_X11_wordOf_61, N_X11_wordOf_64, N_X11_wordOf_66, N_X11_wordOf_69, N_X11_wordOf_70, N_X11_wordOf_73, N_X11_wordOf_75, N_X11_wordOf_77, N_X11_wordOf_78, N_X11_wordOf_79, N_X11_wordOf_80, N_X11_wordOf_83, N_X11_wordOf_84, N_X11_wordOf_86, N_X11_wordOf_87, N_X11_wordOf_88, N_X11_wordOf_91, N_X11_wordOf_92, N_X11_wordOf_95, N_X11_wordOf_96, N_X11_wordOf_98, N_X11_wordOf_101, N_X11_wordOf_104, N_X11_wordOf_106, N_X11_wordOf_109, N_X11_wordOf_110, N_X11_wordOf_111, N_X11_wordOf_113, N_X11_wordOf_115, N_X11_wordOf_116, N_X11_wordOf_117, N_X11_wordOf_118, N_X11_wordOf_120, N_X11_wordOf_123, N_X11_wordOf_126, N_X11_wordOf_127, if_true, if_false, ite_true, ite_false, not_false_eq_true, not_true_eq_false, isRf_ref, isRf_null, c1_int, c1_ref, c1_null, c1_none, rfv_some, rfv_none, Ok_s, tl_some, tl_none, List.nil_append, b2i_n1, b2i_n0, ↓reduceIte, nI_add, pk_mul, pk_sub, n_leT, n_leF, n_ltT, n_ltF, n_eqT, n_eqF, n_shl1, n_shl, n_shr, nI_and, nI_or, nI_xor, b2i_z, b2i_o, m1_n, n_m1, m1_lt, m1_le, n_lm1, n_em1, nI_m1, and1, and3, and7, and15, and63, and255, Bool.true_eq_false, Bool.false_eq_true, reduceCtorEq, Nat.reduceAdd, Nat.reduceMul, Nat.reduceSub, Nat.reduceDiv, Nat.reduceMod, Nat.reducePow, Nat.zero_add, Nat.one_mul]
    have h57 := r_wo57 (xs := xs) (Ln := Ln) (d := d) (D := D) (L := L) (Q := fun q => q = (mkW D I L, some (.int (nI (wrd b fr to))))) (to := to) (u3 := some (.int (nI (nwO k + 1)))) (decide (e - k = to - fr)) hW hB (by omega) (fun q => by have := of_decide_eq_true q; omega) (by omega) fin (e - k) 0 (by omega)
    have ha0 : allB (cmB b fr k) 0 = true := rfl
    rw [ha0, Bool.and_true] at h57
    by_cases c : e - k = to - fr
    · rw [decide_eq_true c] at h57
      simp (disch := first | omega | exact c1_int _ | exact c1_none | exact c1_ref _ | exact isRf_ref _ | assumption | exact okRb _ | exact okN1 | exact okN0 | exact rfl) only [N_X11_wordOf_0, N_X11_wordOf_1, N_X11_wordOf_2, N_X11_wordOf_3, N_X11_wordOf_7, N_X11_wordOf_8, N_X11_wordOf_11, N_X11_wordOf_12, N_X11_wordOf_15, N_X11_wordOf_16, N_X11_wordOf_19, N_X11_wordOf_22, N_X11_wordOf_24, N_X11_wordOf_26, N_X11_wordOf_27, N_X11_wordOf_28, N_X11_wordOf_30, N_X11_wordOf_33, N_X11_wordOf_36, N_X11_wordOf_39, N_X11_wordOf_41, N_X11_wordOf_42, N_X11_wordOf_43, N_X11_wordOf_44, N_X11_wordOf_47, N_X11_wordOf_48, N_X11_wordOf_51, N_X11_wordOf_52, N_X11_wordOf_54, N_X11_wordOf_55, N_X11_wordOf_59, N_X11_wordOf_61, N_X11_wordOf_64, N_X11_wordOf_66, N_X11_wordOf_69, N_X11_wordOf_70, N_X11_wordOf_73, N_X11_wordOf_75, N_X11_wordOf_77, N_X11_wordOf_78, N_X11_wordOf_79, N_X11_wordOf_80, N_X11_wordOf_83, N_X11_wordOf_84, N_X11_wordOf_86, N_X11_wordOf_87, N_X11_wordOf_88, N_X11_wordOf_91, N_X11_wordOf_92, N_X11_wordOf_95, N_X11_wordOf_96, N_X11_wordOf_98, N_X11_wordOf_101, N_X11_wordOf_106, N_X11_wordOf_109, N_X11_wordOf_110, N_X11_wordOf_111, N_X11_wordOf_113, N_X11_wordOf_115, N_X11_wordOf_116, N_X11_wordOf_117, N_X11_wordOf_118, N_X11_wordOf_120, N_X11_wordOf_123, N_X11_wordOf_126, N_X11_wordOf_127, if_true, if_false, ite_true, ite_false, not_false_eq_true, not_true_eq_false, isRf_ref, isRf_null, c1_int, c1_ref, c1_null, c1_none, rfv_some, rfv_none, Ok_s, tl_some, tl_none, List.nil_append, b2i_n1, b2i_n0, ↓reduceIte, nI_add, pk_mul, pk_sub, n_leT, n_leF, n_ltT, n_ltF, n_eqT, n_eqF, n_shl1, n_shl, n_shr, nI_and, nI_or, nI_xor, b2i_z, b2i_o, m1_n, n_m1, m1_lt, m1_le, n_lm1, n_em1, nI_m1, and1, and3, and7, and15, and63, and255, Bool.true_eq_false, Bool.false_eq_true, reduceCtorEq, Nat.reduceAdd, Nat.reduceMul, Nat.reduceSub, Nat.reduceDiv, Nat.reduceMod, Nat.reducePow, Nat.zero_add, Nat.one_mul]
      exact h57
    · rw [decide_eq_false c] at h57
      simp (disch := first | omega | exact c1_int _ | exact c1_none | exact c1_ref _ | exact isRf_ref _ | assumption | exact okRb _ | exact okN1 | exact okN0 | exact rfl) only [N_X11_wordOf_0, N_X11_wordOf_1, N_X11_wordOf_2, N_X11_wordOf_3, N_X11_wordOf_7, N_X11_wordOf_8, N_X11_wordOf_11, N_X11_wordOf_12, N_X11_wordOf_15, N_X11_wordOf_16, N_X11_wordOf_19, N_X11_wordOf_22, N_X11_wordOf_24, N_X11_wordOf_26, N_X11_wordOf_27, N_X11_wordOf_28, N_X11_wordOf_30, N_X11_wordOf_33, N_X11_wordOf_36, N_X11_wordOf_39, N_X11_wordOf_41, N_X11_wordOf_42, N_X11_wordOf_43, N_X11_wordOf_44, N_X11_wordOf_47, N_X11_wordOf_48, N_X11_wordOf_51, N_X11_wordOf_52, N_X11_wordOf_54, N_X11_wordOf_55, N_X11_wordOf_59, N_X11_wordOf_61, N_X11_wordOf_64, N_X11_wordOf_66, N_X11_wordOf_69, N_X11_wordOf_70, N_X11_wordOf_73, N_X11_wordOf_75, N_X11_wordOf_77, N_X11_wordOf_78, N_X11_wordOf_79, N_X11_wordOf_80, N_X11_wordOf_83, N_X11_wordOf_84, N_X11_wordOf_86, N_X11_wordOf_87, N_X11_wordOf_88, N_X11_wordOf_91, N_X11_wordOf_92, N_X11_wordOf_95, N_X11_wordOf_96, N_X11_wordOf_98, N_X11_wordOf_101, N_X11_wordOf_106, N_X11_wordOf_109, N_X11_wordOf_110, N_X11_wordOf_111, N_X11_wordOf_113, N_X11_wordOf_115, N_X11_wordOf_116, N_X11_wordOf_117, N_X11_wordOf_118, N_X11_wordOf_120, N_X11_wordOf_123, N_X11_wordOf_126, N_X11_wordOf_127, if_true, if_false, ite_true, ite_false, not_false_eq_true, not_true_eq_false, isRf_ref, isRf_null, c1_int, c1_ref, c1_null, c1_none, rfv_some, rfv_none, Ok_s, tl_some, tl_none, List.nil_append, b2i_n1, b2i_n0, ↓reduceIte, nI_add, pk_mul, pk_sub, n_leT, n_leF, n_ltT, n_ltF, n_eqT, n_eqF, n_shl1, n_shl, n_shr, nI_and, nI_or, nI_xor, b2i_z, b2i_o, m1_n, n_m1, m1_lt, m1_le, n_lm1, n_em1, nI_m1, and1, and3, and7, and15, and63, and255, Bool.true_eq_false, Bool.false_eq_true, reduceCtorEq, Nat.reduceAdd, Nat.reduceMul, Nat.reduceSub, Nat.reduceDiv, Nat.reduceMod, Nat.reducePow, Nat.zero_add, Nat.one_mul]
      exact h57
  · have hk66 : k = 66 := by omega
    have hl : wrd b fr to = 0 := by
      unfold wrd
      rw [(lst_n _ _).mpr (fun j hj => k3 j (by omega))]
    rw [hl]
    simp (disch := first | omega | exact c1_int _ | exact c1_none | exact c1_ref _ | exact isRf_ref _ | assumption | exact okRb _ | exact okN1 | exact okN0 | exact rfl) only [N_X11_wordOf_0, N_X11_wordOf_1, N_X11_wordOf_2, N_X11_wordOf_3, N_X11_wordOf_7, N_X11_wordOf_8, N_X11_wordOf_11, N_X11_wordOf_12, N_X11_wordOf_15, N_X11_wordOf_16, N_X11_wordOf_18, N_X11_wordOf_19, N_X11_wordOf_22, N_X11_wordOf_24, N_X11_wordOf_26, N_X11_wordOf_27, N_X11_wordOf_28, N_X11_wordOf_30, N_X11_wordOf_33, N_X11_wordOf_36, N_X11_wordOf_39, N_X11_wordOf_41, N_X11_wordOf_42, N_X11_wordOf_43, N_X11_wordOf_44, N_X11_wordOf_47, N_X11_wordOf_48, N_X11_wordOf_51, N_X11_wordOf_52, N_X11_wordOf_54, N_X11_wordOf_55, N_X11_wordOf_57, N_X11_wordOf_59, N_X11_wordOf_61, N_X11_wordOf_64, N_X11_wordOf_66, N_X11_wordOf_69, N_X11_wordOf_70, N_X11_wordOf_73, N_X11_wordOf_75, N_X11_wordOf_77, N_X11_wordOf_78, N_X11_wordOf_79, N_X11_wordOf_80, N_X11_wordOf_83, N_X11_wordOf_84, N_X11_wordOf_86, N_X11_wordOf_87, N_X11_wordOf_88, N_X11_wordOf_91, N_X11_wordOf_92, N_X11_wordOf_95, N_X11_wordOf_96, N_X11_wordOf_98, N_X11_wordOf_101, N_X11_wordOf_104, N_X11_wordOf_106, N_X11_wordOf_109, N_X11_wordOf_110, N_X11_wordOf_111, N_X11_wordOf_113, N_X11_wordOf_115, N_X11_wordOf_116, N_X11_wordOf_117, N_X11_wordOf_118, N_X11_wordOf_120, N_X11_wordOf_123, N_X11_wordOf_126, N_X11_wordOf_127, if_true, if_false, ite_true, ite_false, not_false_eq_true, not_true_eq_false, isRf_ref, isRf_null, c1_int, c1_ref, c1_null, c1_none, rfv_some, rfv_none, Ok_s, tl_some, tl_none, List.nil_append, b2i_n1, b2i_n0, ↓reduceIte, nI_add, pk_mul, pk_sub, n_leT, n_leF, n_ltT, n_ltF, n_eqT, n_eqF, n_shl1, n_shl, n_shr, nI_and, nI_or, nI_xor, b2i_z, b2i_o, m1_n, n_m1, m1_lt, m1_le, n_lm1, n_em1, nI_m1, and1, and3, and7, and15, and63, and255, Bool.true_eq_false, Bool.false_eq_true, reduceCtorEq, Nat.reduceAdd, Nat.reduceMul, Nat.reduceSub, Nat.reduceDiv, Nat.reduceMod, Nat.reducePow, Nat.zero_add, Nat.one_mul, hk66]
end Ph1
