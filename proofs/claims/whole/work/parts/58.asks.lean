section P58
variable {xs : Nat → Int32} {Ln d : Nat} {D : Dyn} {I : Nat → Nat → Int32} {L : Nat → Nat → Int64} {w : Om}
def estx (I : Nat → Nat → Int32) (g : Nat) (x : Int32) : Nat → Nat → Int32 := up2 (up2 I 82 19 (nI g)) 82 21 x
def ast (I : Nat → Nat → Int32) (ge : Nat) (tl : Bool) : Nat → Nat → Int32 := up2 (up2 I 82 20 (nI ge)) 82 24 (b2i tl)
theorem estx_b (I : Nat → Nat → Int32) (g : Nat) (b : Bool) : est I g b = estx I g (b2i b) := id rfl
theorem estx19 (I : Nat → Nat → Int32) (g : Nat) (x : Int32) : estx I g x 82 19 = nI g := by simp [estx, up2]
theorem estx20 (I : Nat → Nat → Int32) (g ge : Nat) (tl : Bool) (x : Int32) : estx (ast I ge tl) g x 82 20 = nI ge := by simp [estx, ast, up2]
theorem estxw (I : Nat → Nat → Int32) (g : Nat) (x : Int32) : up2 (estx I g x) 82 21 (nI 0) = est I g false := by
  funext k j
  by_cases hk : k = 82
  · subst hk
    by_cases h1 : j = 19 <;> by_cases h2 : j = 21 <;> simp [est, estx, up2, h1, h2] <;> rfl
  · simp [est, estx, up2, hk]
theorem estc24 (I : Nat → Nat → Int32) (g ge : Nat) (b tl : Bool) : up2 (est (ast I ge tl) g b) 82 24 (nI 1) = est (ast I ge true) g b := by
  funext k j
  by_cases hk : k = 82
  · subst hk
    by_cases h1 : j = 19 <;> by_cases h2 : j = 21 <;> by_cases h3 : j = 24 <;> simp [est, ast, up2, h1, h2, h3] <;> first | rfl | omega
  · simp [est, ast, up2, hk]
theorem ast0 (I : Nat → Nat → Int32) (g ge : Nat) : up2 (up2 (up2 I 82 24 (nI 0)) 82 19 (nI g)) 82 20 (nI ge) = estx (ast I ge false) g (I 82 21) := by
  funext k j
  by_cases hk : k = 82
  · subst hk
    by_cases h1 : j = 19 <;> by_cases h2 : j = 21 <;> by_cases h3 : j = 24 <;> by_cases h4 : j = 20 <;> simp [estx, ast, up2, h1, h2, h3, h4] <;> first | rfl | omega
  · simp [estx, ast, up2, hk]
section EV
variable {bs n : Nat} {tk vl : Nat → Nat} {F : Fc}
theorem asks147 {d' hd h g ge : Nat} {v : Int64} {br1 br2 t tl : Bool} {u6 : Option Value} {Q : Res → Prop} (hh : h < 400) (hhd : hd < 400)
    (h1 : t = true → br2 = false → br1 = false → h = hd → ∀ u, G_X11_asks xs Ln d' 65 [some (.ref 82), some (.int (nI hd)), some (.int (nI h)), some (.long v), none, some (.int (b2i br1)), u] [] (mkW D (est (ast I ge true) (g + 1) br2) (up2 L 82 23 v)) Q)
    (h2 : ¬ (t = true ∧ br2 = false ∧ br1 = false ∧ h = hd) → ∀ u, G_X11_asks xs Ln d' 65 [some (.ref 82), some (.int (nI hd)), some (.int (nI h)), some (.long v), none, some (.int (b2i br1)), u] [] (mkW D (est (ast I ge tl) (g + 1) br2) L) Q) :
    G_X11_asks xs Ln d' 147 [some (.ref 82), some (.int (nI hd)), some (.int (nI h)), some (.long v), none, some (.int (b2i br1)), u6] [.int (b2i t)] (mkW D (est (ast I ge tl) g br2) L) Q := by
  cases t with
  | false =>
    simp (disch := first | omega | exact c1_int _ | exact c1_none | exact c1_ref _ | exact isRf_ref _ | assumption | exact okRb _ | exact okN1 | exact okN0 | exact rfl) only [N_X11_asks_0, N_X11_asks_1, N_X11_asks_2, N_X11_asks_5, N_X11_asks_6, N_X11_asks_7, N_X11_asks_10, N_X11_asks_11, N_X11_asks_14, N_X11_asks_17, N_X11_asks_18, N_X11_asks_19, N_X11_asks_22, N_X11_asks_23, N_X11_asks_24, N_X11_asks_27, N_X11_asks_28, N_X11_asks_31, N_X11_asks_34, N_X11_asks_35, N_X11_asks_36, N_X11_asks_39, N_X11_asks_40, N_X11_asks_41, N_X11_asks_44, N_X11_asks_45, N_X11_asks_48, N_X11_asks_51, N_X11_asks_52, N_X11_asks_55, N_X11_asks_58, N_X11_asks_59, N_X11_asks_60, N_X11_asks_61, N_X11_asks_62, N_X11_asks_66, N_X11_asks_69, N_X11_asks_70, N_X11_asks_73, N_X11_asks_76, N_X11_asks_77, N_X11_asks_78, N_X11_asks_81, N_X11_asks_82, N_X11_asks_83, N_X11_asks_86, N_X11_asks_89, N_X11_asks_90, N_X11_asks_91, N_X11_asks_92, N_X11_asks_95, N_X11_asks_96, N_X11_asks_97, N_X11_asks_100, N_X11_asks_101, N_X11_asks_102, N_X11_asks_105, N_X11_asks_106, N_X11_asks_107, N_X11_asks_110, N_X11_asks_113, N_X11_asks_114, N_X11_asks_115, N_X11_asks_116, N_X11_asks_119, N_X11_asks_121, N_X11_asks_122, N_X11_asks_123, N_X11_asks_126, N_X11_asks_127, N_X11_asks_128, N_X11_asks_131, N_X11_asks_134, N_X11_asks_135, N_X11_asks_136, N_X11_asks_139, N_X11_asks_142, N_X11_asks_143, N_X11_asks_146, N_X11_asks_147, N_X11_asks_149, N_X11_asks_151, N_X11_asks_154, N_X11_asks_155, N_X11_asks_158, N_X11_asks_161, N_X11_asks_163, N_X11_asks_166, N_X11_asks_167, N_X11_asks_168, N_X11_asks_171, N_X11_asks_172, N_X11_asks_175, N_X11_asks_176, N_X11_asks_178, N_X11_asks_179, N_X11_asks_180, N_X11_asks_183, N_X11_asks_184, N_X11_asks_185, N_X11_asks_188, N_X11_asks_190, N_X11_asks_193, N_X11_asks_196, N_X11_asks_197, N_X11_asks_198, N_X11_asks_201, N_X11_asks_202, N_X11_asks_203, N_X11_asks_206, N_X11_asks_209, if_true, if_false, ite_true, ite_false, not_false_eq_true, not_true_eq_false, isRf_ref, isRf_null, c1_int, c1_ref, c1_null, c1_none, rfv_some, rfv_none, Ok_s, tl_some, tl_none, List.nil_append, b2i_n1, b2i_n0, ↓reduceIte, nI_add, pk_mul, pk_sub, n_leT, n_leF, n_ltT, n_ltF, n_eqT, n_eqF, n_shl1, n_shl, n_shr, nI_and, nI_or, nI_xor, b2i_z, b2i_o, m1_n, n_m1, m1_lt, m1_le, n_lm1, n_em1, nI_m1, and1, and3, and7, and15, and63, and255, Bool.true_eq_false, Bool.false_eq_true, reduceCtorEq, Nat.reduceAdd, Nat.reduceMul, Nat.reduceSub, Nat.reduceDiv, Nat.reduceMod, Nat.reducePow, Nat.zero_add, Nat.one_mul, est19, estw19]
    exact h2 (by simp) _
  | true =>
    cases br2 with
    | true =>
      simp (disch := first | omega | exact c1_int _ | exact c1_none | exact c1_ref _ | exact isRf_ref _ | assumption | exact okRb _ | exact okN1 | exact okN0 | exact rfl) only [N_X11_asks_0, N_X11_asks_1, N_X11_asks_2, N_X11_asks_5, N_X11_asks_6, N_X11_asks_7, N_X11_asks_10, N_X11_asks_11, N_X11_asks_14, N_X11_asks_17, N_X11_asks_18, N_X11_asks_19, N_X11_asks_22, N_X11_asks_23, N_X11_asks_24, N_X11_asks_27, N_X11_asks_28, N_X11_asks_31, N_X11_asks_34, N_X11_asks_35, N_X11_asks_36, N_X11_asks_39, N_X11_asks_40, N_X11_asks_41, N_X11_asks_44, N_X11_asks_45, N_X11_asks_48, N_X11_asks_51, N_X11_asks_52, N_X11_asks_55, N_X11_asks_58, N_X11_asks_59, N_X11_asks_60, N_X11_asks_61, N_X11_asks_62, N_X11_asks_66, N_X11_asks_69, N_X11_asks_70, N_X11_asks_73, N_X11_asks_76, N_X11_asks_77, N_X11_asks_78, N_X11_asks_81, N_X11_asks_82, N_X11_asks_83, N_X11_asks_86, N_X11_asks_89, N_X11_asks_90, N_X11_asks_91, N_X11_asks_92, N_X11_asks_95, N_X11_asks_96, N_X11_asks_97, N_X11_asks_100, N_X11_asks_101, N_X11_asks_102, N_X11_asks_105, N_X11_asks_106, N_X11_asks_107, N_X11_asks_110, N_X11_asks_113, N_X11_asks_114, N_X11_asks_115, N_X11_asks_116, N_X11_asks_119, N_X11_asks_121, N_X11_asks_122, N_X11_asks_123, N_X11_asks_126, N_X11_asks_127, N_X11_asks_128, N_X11_asks_131, N_X11_asks_134, N_X11_asks_135, N_X11_asks_136, N_X11_asks_139, N_X11_asks_142, N_X11_asks_143, N_X11_asks_146, N_X11_asks_147, N_X11_asks_149, N_X11_asks_151, N_X11_asks_154, N_X11_asks_155, N_X11_asks_158, N_X11_asks_161, N_X11_asks_163, N_X11_asks_166, N_X11_asks_167, N_X11_asks_168, N_X11_asks_171, N_X11_asks_172, N_X11_asks_175, N_X11_asks_176, N_X11_asks_178, N_X11_asks_179, N_X11_asks_180, N_X11_asks_183, N_X11_asks_184, N_X11_asks_185, N_X11_asks_188, N_X11_asks_190, N_X11_asks_193, N_X11_asks_196, N_X11_asks_197, N_X11_asks_198, N_X11_asks_201, N_X11_asks_202, N_X11_asks_203, N_X11_asks_206, N_X11_asks_209, if_true, if_false, ite_true, ite_false, not_false_eq_true, not_true_eq_false, isRf_ref, isRf_null, c1_int, c1_ref, c1_null, c1_none, rfv_some, rfv_none, Ok_s, tl_some, tl_none, List.nil_append, b2i_n1, b2i_n0, ↓reduceIte, nI_add, pk_mul, pk_sub, n_leT, n_leF, n_ltT, n_ltF, n_eqT, n_eqF, n_shl1, n_shl, n_shr, nI_and, nI_or, nI_xor, b2i_z, b2i_o, m1_n, n_m1, m1_lt, m1_le, n_lm1, n_em1, nI_m1, and1, and3, and7, and15, and63, and255, Bool.true_eq_false, Bool.false_eq_true, reduceCtorEq, Nat.reduceAdd, Nat.reduceMul, Nat.reduceSub, Nat.reduceDiv, Nat.reduceMod, Nat.reducePow, Nat.zero_add, Nat.one_mul, est19, est21, estw19]
      exact h2 (by simp) _
    | false =>
      cases br1 with
      | true =>
        simp (disch := first | omega | exact c1_int _ | exact c1_none | exact c1_ref _ | exact isRf_ref _ | assumption | exact okRb _ | exact okN1 | exact okN0 | exact rfl) only [N_X11_asks_0, N_X11_asks_1, N_X11_asks_2, N_X11_asks_5, N_X11_asks_6, N_X11_asks_7, N_X11_asks_10, N_X11_asks_11, N_X11_asks_14, N_X11_asks_17, N_X11_asks_18, N_X11_asks_19, N_X11_asks_22, N_X11_asks_23, N_X11_asks_24, N_X11_asks_27, N_X11_asks_28, N_X11_asks_31, N_X11_asks_34, N_X11_asks_35, N_X11_asks_36, N_X11_asks_39, N_X11_asks_40, N_X11_asks_41, N_X11_asks_44, N_X11_asks_45, N_X11_asks_48, N_X11_asks_51, N_X11_asks_52, N_X11_asks_55, N_X11_asks_58, N_X11_asks_59, N_X11_asks_60, N_X11_asks_61, N_X11_asks_62, N_X11_asks_66, N_X11_asks_69, N_X11_asks_70, N_X11_asks_73, N_X11_asks_76, N_X11_asks_77, N_X11_asks_78, N_X11_asks_81, N_X11_asks_82, N_X11_asks_83, N_X11_asks_86, N_X11_asks_89, N_X11_asks_90, N_X11_asks_91, N_X11_asks_92, N_X11_asks_95, N_X11_asks_96, N_X11_asks_97, N_X11_asks_100, N_X11_asks_101, N_X11_asks_102, N_X11_asks_105, N_X11_asks_106, N_X11_asks_107, N_X11_asks_110, N_X11_asks_113, N_X11_asks_114, N_X11_asks_115, N_X11_asks_116, N_X11_asks_119, N_X11_asks_121, N_X11_asks_122, N_X11_asks_123, N_X11_asks_126, N_X11_asks_127, N_X11_asks_128, N_X11_asks_131, N_X11_asks_134, N_X11_asks_135, N_X11_asks_136, N_X11_asks_139, N_X11_asks_142, N_X11_asks_143, N_X11_asks_146, N_X11_asks_147, N_X11_asks_149, N_X11_asks_151, N_X11_asks_154, N_X11_asks_155, N_X11_asks_158, N_X11_asks_161, N_X11_asks_163, N_X11_asks_166, N_X11_asks_167, N_X11_asks_168, N_X11_asks_171, N_X11_asks_172, N_X11_asks_175, N_X11_asks_176, N_X11_asks_178, N_X11_asks_179, N_X11_asks_180, N_X11_asks_183, N_X11_asks_184, N_X11_asks_185, N_X11_asks_188, N_X11_asks_190, N_X11_asks_193, N_X11_asks_196, N_X11_asks_197, N_X11_asks_198, N_X11_asks_201, N_X11_asks_202, N_X11_asks_203, N_X11_asks_206, N_X11_asks_209, if_true, if_false, ite_true, ite_false, not_false_eq_true, not_true_eq_false, isRf_ref, isRf_null, c1_int, c1_ref, c1_null, c1_none, rfv_some, rfv_none, Ok_s, tl_some, tl_none, List.nil_append, b2i_n1, b2i_n0, ↓reduceIte, nI_add, pk_mul, pk_sub, n_leT, n_leF, n_ltT, n_ltF, n_eqT, n_eqF, n_shl1, n_shl, n_shr, nI_and, nI_or, nI_xor, b2i_z, b2i_o, m1_n, n_m1, m1_lt, m1_le, n_lm1, n_em1, nI_m1, and1, and3, and7, and15, and63, and255, Bool.true_eq_false, Bool.false_eq_true, reduceCtorEq, Nat.reduceAdd, Nat.reduceMul, Nat.reduceSub, Nat.reduceDiv, Nat.reduceMod, Nat.reducePow, Nat.zero_add, Nat.one_mul, est19, est21, estw19]
        exact h2 (by simp) _
      | false =>
        by_cases he : h = hd
        · simp (disch := first | omega | exact c1_int _ | exact c1_none | exact c1_ref _ | exact isRf_ref _ | assumption | exact okRb _ | exact okN1 | exact okN0 | exact rfl) only [N_X11_asks_0, N_X11_asks_1, N_X11_asks_2, N_X11_asks_5, N_X11_asks_6, N_X11_asks_7, N_X11_asks_10, N_X11_asks_11, N_X11_asks_14, N_X11_asks_17, N_X11_asks_18, N_X11_asks_19, N_X11_asks_22, N_X11_asks_23, N_X11_asks_24, N_X11_asks_27, N_X11_asks_28, N_X11_asks_31, N_X11_asks_34, N_X11_asks_35, N_X11_asks_36, N_X11_asks_39, N_X11_asks_40, N_X11_asks_41, N_X11_asks_44, N_X11_asks_45, N_X11_asks_48, N_X11_asks_51, N_X11_asks_52, N_X11_asks_55, N_X11_asks_58, N_X11_asks_59, N_X11_asks_60, N_X11_asks_61, N_X11_asks_62, N_X11_asks_66, N_X11_asks_69, N_X11_asks_70, N_X11_asks_73, N_X11_asks_76, N_X11_asks_77, N_X11_asks_78, N_X11_asks_81, N_X11_asks_82, N_X11_asks_83, N_X11_asks_86, N_X11_asks_89, N_X11_asks_90, N_X11_asks_91, N_X11_asks_92, N_X11_asks_95, N_X11_asks_96, N_X11_asks_97, N_X11_asks_100, N_X11_asks_101, N_X11_asks_102, N_X11_asks_105, N_X11_asks_106, N_X11_asks_107, N_X11_asks_110, N_X11_asks_113, N_X11_asks_114, N_X11_asks_115, N_X11_asks_116, N_X11_asks_119, N_X11_asks_121, N_X11_asks_122, N_X11_asks_123, N_X11_asks_126, N_X11_asks_127, N_X11_asks_128, N_X11_asks_131, N_X11_asks_134, N_X11_asks_135, N_X11_asks_136, N_X11_asks_139, N_X11_asks_142, N_X11_asks_143, N_X11_asks_146, N_X11_asks_147, N_X11_asks_149, N_X11_asks_151, N_X11_asks_154, N_X11_asks_155, N_X11_asks_158, N_X11_asks_161, N_X11_asks_163, N_X11_asks_166, N_X11_asks_167, N_X11_asks_168, N_X11_asks_171, N_X11_asks_172, N_X11_asks_175, N_X11_asks_176, N_X11_asks_178, N_X11_asks_179, N_X11_asks_180, N_X11_asks_183, N_X11_asks_184, N_X11_asks_185, N_X11_asks_188, N_X11_asks_190, N_X11_asks_193, N_X11_asks_196, N_X11_asks_197, N_X11_asks_198, N_X11_asks_201, N_X11_asks_202, N_X11_asks_203, N_X11_asks_206, N_X11_asks_209, if_true, if_false, ite_true, ite_false, not_false_eq_true, not_true_eq_false, isRf_ref, isRf_null, c1_int, c1_ref, c1_null, c1_none, rfv_some, rfv_none, Ok_s, tl_some, tl_none, List.nil_append, b2i_n1, b2i_n0, ↓reduceIte, nI_add, pk_mul, pk_sub, n_leT, n_leF, n_ltT, n_ltF, n_eqT, n_eqF, n_shl1, n_shl, n_shr, nI_and, nI_or, nI_xor, b2i_z, b2i_o, m1_n, n_m1, m1_lt, m1_le, n_lm1, n_em1, nI_m1, and1, and3, and7, and15, and63, and255, Bool.true_eq_false, Bool.false_eq_true, reduceCtorEq, Nat.reduceAdd, Nat.reduceMul, Nat.reduceSub, Nat.reduceDiv, Nat.reduceMod, Nat.reducePow, Nat.zero_add, Nat.one_mul, est19, est21, estw19, estc24]
          exact h1 rfl rfl rfl he _
        · simp (disch := first | omega | exact c1_int _ | exact c1_none | exact c1_ref _ | exact isRf_ref _ | assumption | exact okRb _ | exact okN1 | exact okN0 | exact rfl) only [N_X11_asks_0, N_X11_asks_1, N_X11_asks_2, N_X11_asks_5, N_X11_asks_6, N_X11_asks_7, N_X11_asks_10, N_X11_asks_11, N_X11_asks_14, N_X11_asks_17, N_X11_asks_18, N_X11_asks_19, N_X11_asks_22, N_X11_asks_23, N_X11_asks_24, N_X11_asks_27, N_X11_asks_28, N_X11_asks_31, N_X11_asks_34, N_X11_asks_35, N_X11_asks_36, N_X11_asks_39, N_X11_asks_40, N_X11_asks_41, N_X11_asks_44, N_X11_asks_45, N_X11_asks_48, N_X11_asks_51, N_X11_asks_52, N_X11_asks_55, N_X11_asks_58, N_X11_asks_59, N_X11_asks_60, N_X11_asks_61, N_X11_asks_62, N_X11_asks_66, N_X11_asks_69, N_X11_asks_70, N_X11_asks_73, N_X11_asks_76, N_X11_asks_77, N_X11_asks_78, N_X11_asks_81, N_X11_asks_82, N_X11_asks_83, N_X11_asks_86, N_X11_asks_89, N_X11_asks_90, N_X11_asks_91, N_X11_asks_92, N_X11_asks_95, N_X11_asks_96, N_X11_asks_97, N_X11_asks_100, N_X11_asks_101, N_X11_asks_102, N_X11_asks_105, N_X11_asks_106, N_X11_asks_107, N_X11_asks_110, N_X11_asks_113, N_X11_asks_114, N_X11_asks_115, N_X11_asks_116, N_X11_asks_119, N_X11_asks_121, N_X11_asks_122, N_X11_asks_123, N_X11_asks_126, N_X11_asks_127, N_X11_asks_128, N_X11_asks_131, N_X11_asks_134, N_X11_asks_135, N_X11_asks_136, N_X11_asks_139, N_X11_asks_142, N_X11_asks_143, N_X11_asks_146, N_X11_asks_147, N_X11_asks_149, N_X11_asks_151, N_X11_asks_154, N_X11_asks_155, N_X11_asks_158, N_X11_asks_161, N_X11_asks_163, N_X11_asks_166, N_X11_asks_167, N_X11_asks_168, N_X11_asks_171, N_X11_asks_172, N_X11_asks_175, N_X11_asks_176, N_X11_asks_178, N_X11_asks_179, N_X11_asks_180, N_X11_asks_183, N_X11_asks_184, N_X11_asks_185, N_X11_asks_188, N_X11_asks_190, N_X11_asks_193, N_X11_asks_196, N_X11_asks_197, N_X11_asks_198, N_X11_asks_201, N_X11_asks_202, N_X11_asks_203, N_X11_asks_206, N_X11_asks_209, if_true, if_false, ite_true, ite_false, not_false_eq_true, not_true_eq_false, isRf_ref, isRf_null, c1_int, c1_ref, c1_null, c1_none, rfv_some, rfv_none, Ok_s, tl_some, tl_none, List.nil_append, b2i_n1, b2i_n0, ↓reduceIte, nI_add, pk_mul, pk_sub, n_leT, n_leF, n_ltT, n_ltF, n_eqT, n_eqF, n_shl1, n_shl, n_shr, nI_and, nI_or, nI_xor, b2i_z, b2i_o, m1_n, n_m1, m1_lt, m1_le, n_lm1, n_em1, nI_m1, and1, and3, and7, and15, and63, and255, Bool.true_eq_false, Bool.false_eq_true, reduceCtorEq, Nat.reduceAdd, Nat.reduceMul, Nat.reduceSub, Nat.reduceDiv, Nat.reduceMod, Nat.reducePow, Nat.zero_add, Nat.one_mul, est19, est21, estw19]
          exact h2 (by simp [he]) _
/-- asks(), from the loop's head on -/
theorem r_asksL {hd ge d' : Nat} {Q : Res → Prop} (hhd : hd < 400) (hge : ge = bs + n) (hE : ∀ tl, EvH (ast I ge tl) bs n tk vl F) (hd' : 100 ≤ d') : ∀ k pos lv sz c cls (o : Option Int) x (L : Nat → Nat → Int64) u2 u3 u4 u5 u6, rdL tk vl n k pos lv sz = .inr (c, cls) → pos ≤ n → (hd = 1 → ∀ v, o = some v → L 82 23 = lI v) → (∀ g' x' L', (hd = 1 → ∀ v, askF hd F cls o = some v → L' 82 23 = lI v) → Q (mkW D (estx (ast I ge (askF hd F cls o).isSome) g' x') L', none)) → G_X11_asks xs Ln d' 65 [some (.ref 82), some (.int (nI hd)), u2, u3, u4, u5, u6] [] (mkW D (estx (ast I ge o.isSome) (bs + pos) x) L) Q := by
  obtain ⟨d0, rfl⟩ : ∃ d0, d' = d0 + 100 := ⟨d' - 100, by omega⟩
  obtain ⟨g1, g2, _, _, _, hz, g7, g8, _, g10⟩ := hE true
  intro k
  induction k with
  | zero => intro pos lv sz c cls o x L u2 u3 u4 u5 u6 hr; cases hr
  | succ k ih =>
    intro pos lv sz c cls o x L u2 u3 u4 u5 u6 hr hp hL hQ
    unfold rdL at hr
    split at hr
    · cases hr
    · rename_i p2 l2 c2 cl hC
      have i1 := rdC_p hz hp hC
      have htp := g7 pos
      -- behind the clause
      have next : ∀ (o' : Option Int) (L' : Nat → Nat → Int64) (b : Bool) (tl : Bool) u2 u3 u4 u5 u6, o' = askS hd F cl o → tl = o'.isSome → (hd = 1 → ∀ v, o' = some v → L' 82 23 = lI v) → G_X11_asks xs Ln (d0 + 100) 65 [some (.ref 82), some (.int (nI hd)), u2, u3, u4, u5, u6] [] (mkW D (est (ast I ge tl) (bs + p2 + 1) b) L') Q := by
        intro o' L' b tl u2 u3 u4 u5 u6 ho htl hL'
        subst htl
        rw [estx_b]
        split at hr
        · split at hr
          · cases hr
          · rename_i c3 cs h3
            cases hr
            have := tk_p hz (by assumption) (by decide)
            refine ih (p2 + 1) l2 _ _ cs o' _ L' u2 u3 u4 u5 u6 h3 (by omega) hL' ?_
            intro g' x' L'' h''
            rw [ho] at h'' ⊢
            exact hQ g' x' L'' h''
        · split at hr
          · rename_i hpn
            cases hr
            rw [N_X11_asks_65]
            simp (disch := first | omega | exact c1_int _ | exact c1_none | exact c1_ref _ | exact isRf_ref _ | assumption | exact okRb _ | exact okN1 | exact okN0 | exact rfl) only [N_X11_asks_0, N_X11_asks_1, N_X11_asks_2, N_X11_asks_5, N_X11_asks_6, N_X11_asks_7, N_X11_asks_10, N_X11_asks_11, N_X11_asks_14, N_X11_asks_17, N_X11_asks_18, N_X11_asks_19, N_X11_asks_22, N_X11_asks_23, N_X11_asks_24, N_X11_asks_27, N_X11_asks_28, N_X11_asks_31, N_X11_asks_34, N_X11_asks_35, N_X11_asks_36, N_X11_asks_39, N_X11_asks_40, N_X11_asks_41, N_X11_asks_44, N_X11_asks_45, N_X11_asks_48, N_X11_asks_51, N_X11_asks_52, N_X11_asks_55, N_X11_asks_58, N_X11_asks_59, N_X11_asks_60, N_X11_asks_61, N_X11_asks_62, N_X11_asks_66, N_X11_asks_69, N_X11_asks_70, N_X11_asks_73, N_X11_asks_76, N_X11_asks_77, N_X11_asks_78, N_X11_asks_81, N_X11_asks_82, N_X11_asks_83, N_X11_asks_86, N_X11_asks_89, N_X11_asks_90, N_X11_asks_91, N_X11_asks_92, N_X11_asks_95, N_X11_asks_96, N_X11_asks_97, N_X11_asks_100, N_X11_asks_101, N_X11_asks_102, N_X11_asks_105, N_X11_asks_106, N_X11_asks_107, N_X11_asks_110, N_X11_asks_113, N_X11_asks_114, N_X11_asks_115, N_X11_asks_116, N_X11_asks_119, N_X11_asks_121, N_X11_asks_122, N_X11_asks_123, N_X11_asks_126, N_X11_asks_127, N_X11_asks_128, N_X11_asks_131, N_X11_asks_134, N_X11_asks_135, N_X11_asks_136, N_X11_asks_139, N_X11_asks_142, N_X11_asks_143, N_X11_asks_146, N_X11_asks_147, N_X11_asks_149, N_X11_asks_151, N_X11_asks_154, N_X11_asks_155, N_X11_asks_158, N_X11_asks_161, N_X11_asks_163, N_X11_asks_166, N_X11_asks_167, N_X11_asks_168, N_X11_asks_171, N_X11_asks_172, N_X11_asks_175, N_X11_asks_176, N_X11_asks_178, N_X11_asks_179, N_X11_asks_180, N_X11_asks_183, N_X11_asks_184, N_X11_asks_185, N_X11_asks_188, N_X11_asks_190, N_X11_asks_193, N_X11_asks_196, N_X11_asks_197, N_X11_asks_198, N_X11_asks_201, N_X11_asks_202, N_X11_asks_203, N_X11_asks_206, N_X11_asks_209, if_true, if_false, ite_true, ite_false, not_false_eq_true, not_true_eq_false, isRf_ref, isRf_null, c1_int, c1_ref, c1_null, c1_none, rfv_some, rfv_none, Ok_s, tl_some, tl_none, List.nil_append, b2i_n1, b2i_n0, ↓reduceIte, nI_add, pk_mul, pk_sub, n_leT, n_leF, n_ltT, n_ltF, n_eqT, n_eqF, n_shl1, n_shl, n_shr, nI_and, nI_or, nI_xor, b2i_z, b2i_o, m1_n, n_m1, m1_lt, m1_le, n_lm1, n_em1, nI_m1, and1, and3, and7, and15, and63, and255, Bool.true_eq_false, Bool.false_eq_true, reduceCtorEq, Nat.reduceAdd, Nat.reduceMul, Nat.reduceSub, Nat.reduceDiv, Nat.reduceMod, Nat.reducePow, Nat.zero_add, Nat.one_mul, estx19, estx20]
            rw [ho]
            exact hQ _ _ L' (by rw [ho] at hL'; exact hL')
          · cases hr
      -- behind the sum
      have test : ∀ (h p1 l1 : Nat) (c1 : List Nat) (ds : Dn) (v : Int64) (br1 : Bool) u6, h < 400 → p1 ≤ n → rdT tk vl h p1 l1 sz c1 ds = .inr (p2, l2, c2, cl) → CV true false (ds F) v br1 ∨ (h = 2 ∧ ds = d1 ∧ br1 = false) → G_X11_asks xs Ln (d0 + 100) 126 [some (.ref 82), some (.int (nI hd)), some (.int (nI h)), some (.long v), none, some (.int (b2i br1)), u6] [] (mkW D (est (ast I ge o.isSome) (bs + p1) false) L) Q := by
        intro h p1 l1 c1' ds v br1 u6 hh hp1 hT hcv
        have dsS : br1 = false → (ds F).isSome = true := by
          intro hb
          rcases hcv with hcv | ⟨_, rfl, _⟩
          · cases hds : ds F with
            | none =>
              have := hcv.2.1 rfl rfl hds
              rw [hb] at this
              cases this
            | some x => rfl
          · rfl
        have dsN : br1 = true → ds F = none := by
          intro hb
          rcases hcv with hcv | ⟨_, _, h0⟩
          · cases hds : ds F with
            | none => rfl
            | some x =>
              have := (hcv.1 x rfl rfl hds).2
              rw [hb] at this
              cases this
          · rw [hb] at h0
            cases h0
        have dsV : hd = 1 → h = hd → ∀ x, ds F = some x → v = lI x := by
          intro hd1 hh1 x hx
          rcases hcv with hcv | ⟨h2, _, _⟩
          · exact (hcv.1 x rfl rfl hx).1
          · omega
        rcases rdT_i hT with ⟨h3, c3, e3, h4, rfl, hcl⟩ | ⟨h3, rfl, rfl, rfl, hcl⟩
        · have hlt := tk_p hz h3 (by decide)
          simp (disch := first | omega | exact c1_int _ | exact c1_none | exact c1_ref _ | exact isRf_ref _ | assumption | exact okRb _ | exact okN1 | exact okN0 | exact rfl) only [N_X11_asks_0, N_X11_asks_1, N_X11_asks_2, N_X11_asks_5, N_X11_asks_6, N_X11_asks_7, N_X11_asks_10, N_X11_asks_11, N_X11_asks_14, N_X11_asks_17, N_X11_asks_18, N_X11_asks_19, N_X11_asks_22, N_X11_asks_23, N_X11_asks_24, N_X11_asks_27, N_X11_asks_28, N_X11_asks_31, N_X11_asks_34, N_X11_asks_35, N_X11_asks_36, N_X11_asks_39, N_X11_asks_40, N_X11_asks_41, N_X11_asks_44, N_X11_asks_45, N_X11_asks_48, N_X11_asks_51, N_X11_asks_52, N_X11_asks_55, N_X11_asks_58, N_X11_asks_59, N_X11_asks_60, N_X11_asks_61, N_X11_asks_62, N_X11_asks_66, N_X11_asks_69, N_X11_asks_70, N_X11_asks_73, N_X11_asks_76, N_X11_asks_77, N_X11_asks_78, N_X11_asks_81, N_X11_asks_82, N_X11_asks_83, N_X11_asks_86, N_X11_asks_89, N_X11_asks_90, N_X11_asks_91, N_X11_asks_92, N_X11_asks_95, N_X11_asks_96, N_X11_asks_97, N_X11_asks_100, N_X11_asks_101, N_X11_asks_102, N_X11_asks_105, N_X11_asks_106, N_X11_asks_107, N_X11_asks_110, N_X11_asks_113, N_X11_asks_114, N_X11_asks_115, N_X11_asks_116, N_X11_asks_119, N_X11_asks_121, N_X11_asks_122, N_X11_asks_123, N_X11_asks_126, N_X11_asks_127, N_X11_asks_128, N_X11_asks_131, N_X11_asks_134, N_X11_asks_135, N_X11_asks_136, N_X11_asks_139, N_X11_asks_142, N_X11_asks_143, N_X11_asks_146, N_X11_asks_147, N_X11_asks_149, N_X11_asks_151, N_X11_asks_154, N_X11_asks_155, N_X11_asks_158, N_X11_asks_161, N_X11_asks_163, N_X11_asks_166, N_X11_asks_167, N_X11_asks_168, N_X11_asks_171, N_X11_asks_172, N_X11_asks_175, N_X11_asks_176, N_X11_asks_178, N_X11_asks_179, N_X11_asks_180, N_X11_asks_183, N_X11_asks_184, N_X11_asks_185, N_X11_asks_188, N_X11_asks_190, N_X11_asks_193, N_X11_asks_196, N_X11_asks_197, N_X11_asks_198, N_X11_asks_201, N_X11_asks_202, N_X11_asks_203, N_X11_asks_206, N_X11_asks_209, if_true, if_false, ite_true, ite_false, not_false_eq_true, not_true_eq_false, isRf_ref, isRf_null, c1_int, c1_ref, c1_null, c1_none, rfv_some, rfv_none, Ok_s, tl_some, tl_none, List.nil_append, b2i_n1, b2i_n0, ↓reduceIte, nI_add, pk_mul, pk_sub, n_leT, n_leF, n_ltT, n_ltF, n_eqT, n_eqF, n_shl1, n_shl, n_shr, nI_and, nI_or, nI_xor, b2i_z, b2i_o, m1_n, n_m1, m1_lt, m1_le, n_lm1, n_em1, nI_m1, and1, and3, and7, and15, and63, and255, Bool.true_eq_false, Bool.false_eq_true, reduceCtorEq, Nat.reduceAdd, Nat.reduceMul, Nat.reduceSub, Nat.reduceDiv, Nat.reduceMod, Nat.reducePow, Nat.zero_add, Nat.one_mul, r_passY (hE _) hp1 h3]
          have := ((eAll (xs := xs) (Ln := Ln) (D := D) (L := L) (hE o.isSome) 4000).1 0 0 (p1 + 1) l1 _ d1 (d0 + 100) p2 l2 c3 e3 true false (by decide) (by decide) (by omega) (by unfold depE; simp) h4).1 rfl
          rw [b2i_n1] at this
          refine Ok.mono this ?_
          rintro q ⟨t, br2, rfl, hct⟩
          have b3 := rd_dn g10 4000 _ _ _ _ _ _ p2 l2 c3 e3 (by omega) h4 (fun h => by omega)
          have go : G_X11_asks xs Ln (d0 + 100) 147 [some (.ref 82), some (.int (nI hd)), some (.int (nI h)), some (.long v), none, some (.int (b2i br1)), u6] [.int (b2i t)] (mkW D (est (ast I ge o.isSome) (bs + p2) br2) L) Q := by
            refine asks147 hh hhd ?_ ?_
            · intro ht hb2 hb1 hhd1 u
              have hdt : e3 F = some 1 := by
                cases he : e3 F with
                | none =>
                  have := hct.2.1 rfl rfl he
                  rw [hb2] at this
                  cases this
                | some y =>
                  have := (hct.1 y rfl rfl he).1
                  rw [ht] at this
                  have : y = 1 := by simpa using this.symm
                  rw [this]
              have ho : askS hd F cl o = ds F := by
                unfold askS
                rw [hcl]
                exact if_pos ⟨hhd1, hdt, dsS hb1⟩
              refine next (ds F) _ _ _ _ _ _ _ _ ho.symm (dsS hb1).symm ?_
              intro hd1 x hx
              rw [up2_s]
              exact dsV hd1 hhd1 x hx
            · intro hno u
              have ho : askS hd F cl o = o := by
                unfold askS
                rw [hcl]
                refine if_neg ?_
                rintro ⟨q1, q2, q3⟩
                apply hno
                have hb1 : br1 = false := by
                  cases hb : br1
                  · rfl
                  · have h9 := dsN hb
                    have h8 : (ds F).isSome = true := q3
                    rw [h9] at h8
                    cases h8
                have q2' : e3 F = some 1 := q2
                have := hct.1 1 rfl rfl q2'
                exact ⟨this.1, this.2, hb1, q1⟩
              exact next o L _ _ _ _ _ _ _ ho.symm rfl hL
          cases t <;> simp (disch := first | omega | exact c1_int _ | exact c1_none | exact c1_ref _ | exact isRf_ref _ | assumption | exact okRb _ | exact okN1 | exact okN0 | exact rfl) only [N_X11_asks_0, N_X11_asks_1, N_X11_asks_2, N_X11_asks_5, N_X11_asks_6, N_X11_asks_7, N_X11_asks_10, N_X11_asks_11, N_X11_asks_14, N_X11_asks_17, N_X11_asks_18, N_X11_asks_19, N_X11_asks_22, N_X11_asks_23, N_X11_asks_24, N_X11_asks_27, N_X11_asks_28, N_X11_asks_31, N_X11_asks_34, N_X11_asks_35, N_X11_asks_36, N_X11_asks_39, N_X11_asks_40, N_X11_asks_41, N_X11_asks_44, N_X11_asks_45, N_X11_asks_48, N_X11_asks_51, N_X11_asks_52, N_X11_asks_55, N_X11_asks_58, N_X11_asks_59, N_X11_asks_60, N_X11_asks_61, N_X11_asks_62, N_X11_asks_66, N_X11_asks_69, N_X11_asks_70, N_X11_asks_73, N_X11_asks_76, N_X11_asks_77, N_X11_asks_78, N_X11_asks_81, N_X11_asks_82, N_X11_asks_83, N_X11_asks_86, N_X11_asks_89, N_X11_asks_90, N_X11_asks_91, N_X11_asks_92, N_X11_asks_95, N_X11_asks_96, N_X11_asks_97, N_X11_asks_100, N_X11_asks_101, N_X11_asks_102, N_X11_asks_105, N_X11_asks_106, N_X11_asks_107, N_X11_asks_110, N_X11_asks_113, N_X11_asks_114, N_X11_asks_115, N_X11_asks_116, N_X11_asks_119, N_X11_asks_121, N_X11_asks_122, N_X11_asks_123, N_X11_asks_126, N_X11_asks_127, N_X11_asks_128, N_X11_asks_131, N_X11_asks_134, N_X11_asks_135, N_X11_asks_136, N_X11_asks_139, N_X11_asks_142, N_X11_asks_143, N_X11_asks_146, N_X11_asks_149, N_X11_asks_151, N_X11_asks_154, N_X11_asks_155, N_X11_asks_158, N_X11_asks_161, N_X11_asks_163, N_X11_asks_166, N_X11_asks_167, N_X11_asks_168, N_X11_asks_171, N_X11_asks_172, N_X11_asks_175, N_X11_asks_176, N_X11_asks_178, N_X11_asks_179, N_X11_asks_180, N_X11_asks_183, N_X11_asks_184, N_X11_asks_185, N_X11_asks_188, N_X11_asks_190, N_X11_asks_193, N_X11_asks_196, N_X11_asks_197, N_X11_asks_198, N_X11_asks_201, N_X11_asks_202, N_X11_asks_203, N_X11_asks_206, N_X11_asks_209, if_true, if_false, ite_true, ite_false, not_false_eq_true, not_true_eq_false, isRf_ref, isRf_null, c1_int, c1_ref, c1_null, c1_none, rfv_some, rfv_none, Ok_s, tl_some, tl_none, List.nil_append, b2i_n1, b2i_n0, ↓reduceIte, nI_add, pk_mul, pk_sub, n_leT, n_leF, n_ltT, n_ltF, n_eqT, n_eqF, n_shl1, n_shl, n_shr, nI_and, nI_or, nI_xor, b2i_z, b2i_o, m1_n, n_m1, m1_lt, m1_le, n_lm1, n_em1, nI_m1, and1, and3, and7, and15, and63, and255, Bool.true_eq_false, Bool.false_eq_true, reduceCtorEq, Nat.reduceAdd, Nat.reduceMul, Nat.reduceSub, Nat.reduceDiv, Nat.reduceMod, Nat.reducePow, Nat.zero_add, Nat.one_mul] <;> simp only [b2i_n1, b2i_n0] at go <;> exact go
        · simp (disch := first | omega | exact c1_int _ | exact c1_none | exact c1_ref _ | exact isRf_ref _ | assumption | exact okRb _ | exact okN1 | exact okN0 | exact rfl) only [N_X11_asks_0, N_X11_asks_1, N_X11_asks_2, N_X11_asks_5, N_X11_asks_6, N_X11_asks_7, N_X11_asks_10, N_X11_asks_11, N_X11_asks_14, N_X11_asks_17, N_X11_asks_18, N_X11_asks_19, N_X11_asks_22, N_X11_asks_23, N_X11_asks_24, N_X11_asks_27, N_X11_asks_28, N_X11_asks_31, N_X11_asks_34, N_X11_asks_35, N_X11_asks_36, N_X11_asks_39, N_X11_asks_40, N_X11_asks_41, N_X11_asks_44, N_X11_asks_45, N_X11_asks_48, N_X11_asks_51, N_X11_asks_52, N_X11_asks_55, N_X11_asks_58, N_X11_asks_59, N_X11_asks_60, N_X11_asks_61, N_X11_asks_62, N_X11_asks_66, N_X11_asks_69, N_X11_asks_70, N_X11_asks_73, N_X11_asks_76, N_X11_asks_77, N_X11_asks_78, N_X11_asks_81, N_X11_asks_82, N_X11_asks_83, N_X11_asks_86, N_X11_asks_89, N_X11_asks_90, N_X11_asks_91, N_X11_asks_92, N_X11_asks_95, N_X11_asks_96, N_X11_asks_97, N_X11_asks_100, N_X11_asks_101, N_X11_asks_102, N_X11_asks_105, N_X11_asks_106, N_X11_asks_107, N_X11_asks_110, N_X11_asks_113, N_X11_asks_114, N_X11_asks_115, N_X11_asks_116, N_X11_asks_119, N_X11_asks_121, N_X11_asks_122, N_X11_asks_123, N_X11_asks_126, N_X11_asks_127, N_X11_asks_128, N_X11_asks_131, N_X11_asks_134, N_X11_asks_135, N_X11_asks_136, N_X11_asks_139, N_X11_asks_142, N_X11_asks_143, N_X11_asks_146, N_X11_asks_149, N_X11_asks_151, N_X11_asks_154, N_X11_asks_155, N_X11_asks_158, N_X11_asks_161, N_X11_asks_163, N_X11_asks_166, N_X11_asks_167, N_X11_asks_168, N_X11_asks_171, N_X11_asks_172, N_X11_asks_175, N_X11_asks_176, N_X11_asks_178, N_X11_asks_179, N_X11_asks_180, N_X11_asks_183, N_X11_asks_184, N_X11_asks_185, N_X11_asks_188, N_X11_asks_190, N_X11_asks_193, N_X11_asks_196, N_X11_asks_197, N_X11_asks_198, N_X11_asks_201, N_X11_asks_202, N_X11_asks_203, N_X11_asks_206, N_X11_asks_209, if_true, if_false, ite_true, ite_false, not_false_eq_true, not_true_eq_false, isRf_ref, isRf_null, c1_int, c1_ref, c1_null, c1_none, rfv_some, rfv_none, Ok_s, tl_some, tl_none, List.nil_append, b2i_n1, b2i_n0, ↓reduceIte, nI_add, pk_mul, pk_sub, n_leT, n_leF, n_ltT, n_ltF, n_eqT, n_eqF, n_shl1, n_shl, n_shr, nI_and, nI_or, nI_xor, b2i_z, b2i_o, m1_n, n_m1, m1_lt, m1_le, n_lm1, n_em1, nI_m1, and1, and3, and7, and15, and63, and255, Bool.true_eq_false, Bool.false_eq_true, reduceCtorEq, Nat.reduceAdd, Nat.reduceMul, Nat.reduceSub, Nat.reduceDiv, Nat.reduceMod, Nat.reducePow, Nat.zero_add, Nat.one_mul, r_passN (hE _) hp1 h3 (by decide)]
          refine asks147 (t := true) hh hhd ?_ ?_
          · intro ht hb2 hb1 hhd1 u
            have ho : askS hd F cl o = ds F := by
              unfold askS
              rw [hcl]
              exact if_pos ⟨hhd1, rfl, dsS hb1⟩
            refine next (ds F) _ _ _ _ _ _ _ _ ho.symm (dsS hb1).symm ?_
            intro hd1 x hx
            rw [up2_s]
            exact dsV hd1 hhd1 x hx
          · intro hno u
            have ho : askS hd F cl o = o := by
              unfold askS
              rw [hcl]
              refine if_neg ?_
              rintro ⟨q1, q2, q3⟩
              apply hno
              have hb1 : br1 = false := by
                cases hb : br1
                · rfl
                · have h9 := dsN hb
                  have h8 : (ds F).isSome = true := q3
                  rw [h9] at h8
                  cases h8
              exact ⟨rfl, rfl, hb1, q1⟩
            exact next o L _ _ _ _ _ _ _ ho.symm rfl hL
      rcases rdC_i hC with ⟨h1, p1, l1, c1', e1, h4, h5⟩ | ⟨h2, h5⟩
      · rw [N_X11_asks_65]
        have j1 := rd_ok hz 4000 _ _ _ _ _ _ p1 l1 c1' e1 (by omega) (by omega) h4
        simp (disch := first | omega | exact c1_int _ | exact c1_none | exact c1_ref _ | exact isRf_ref _ | assumption | exact okRb _ | exact okN1 | exact okN0 | exact rfl) only [N_X11_asks_0, N_X11_asks_1, N_X11_asks_2, N_X11_asks_5, N_X11_asks_6, N_X11_asks_7, N_X11_asks_10, N_X11_asks_11, N_X11_asks_14, N_X11_asks_17, N_X11_asks_18, N_X11_asks_19, N_X11_asks_22, N_X11_asks_23, N_X11_asks_24, N_X11_asks_27, N_X11_asks_28, N_X11_asks_31, N_X11_asks_34, N_X11_asks_35, N_X11_asks_36, N_X11_asks_39, N_X11_asks_40, N_X11_asks_41, N_X11_asks_44, N_X11_asks_45, N_X11_asks_48, N_X11_asks_51, N_X11_asks_52, N_X11_asks_55, N_X11_asks_58, N_X11_asks_59, N_X11_asks_60, N_X11_asks_61, N_X11_asks_62, N_X11_asks_66, N_X11_asks_69, N_X11_asks_70, N_X11_asks_73, N_X11_asks_76, N_X11_asks_77, N_X11_asks_78, N_X11_asks_81, N_X11_asks_82, N_X11_asks_83, N_X11_asks_86, N_X11_asks_89, N_X11_asks_90, N_X11_asks_91, N_X11_asks_92, N_X11_asks_95, N_X11_asks_96, N_X11_asks_97, N_X11_asks_100, N_X11_asks_101, N_X11_asks_102, N_X11_asks_105, N_X11_asks_106, N_X11_asks_107, N_X11_asks_110, N_X11_asks_113, N_X11_asks_114, N_X11_asks_115, N_X11_asks_116, N_X11_asks_119, N_X11_asks_121, N_X11_asks_122, N_X11_asks_123, N_X11_asks_126, N_X11_asks_127, N_X11_asks_128, N_X11_asks_131, N_X11_asks_134, N_X11_asks_135, N_X11_asks_136, N_X11_asks_139, N_X11_asks_142, N_X11_asks_143, N_X11_asks_146, N_X11_asks_147, N_X11_asks_149, N_X11_asks_151, N_X11_asks_154, N_X11_asks_155, N_X11_asks_158, N_X11_asks_161, N_X11_asks_163, N_X11_asks_166, N_X11_asks_167, N_X11_asks_168, N_X11_asks_171, N_X11_asks_172, N_X11_asks_175, N_X11_asks_176, N_X11_asks_178, N_X11_asks_179, N_X11_asks_180, N_X11_asks_183, N_X11_asks_184, N_X11_asks_185, N_X11_asks_188, N_X11_asks_190, N_X11_asks_193, N_X11_asks_196, N_X11_asks_197, N_X11_asks_198, N_X11_asks_201, N_X11_asks_202, N_X11_asks_203, N_X11_asks_206, N_X11_asks_209, if_true, if_false, ite_true, ite_false, not_false_eq_true, not_true_eq_false, isRf_ref, isRf_null, c1_int, c1_ref, c1_null, c1_none, rfv_some, rfv_none, Ok_s, tl_some, tl_none, List.nil_append, b2i_n1, b2i_n0, ↓reduceIte, nI_add, pk_mul, pk_sub, n_leT, n_leF, n_ltT, n_ltF, n_eqT, n_eqF, n_shl1, n_shl, n_shr, nI_and, nI_or, nI_xor, b2i_z, b2i_o, m1_n, n_m1, m1_lt, m1_le, n_lm1, n_em1, nI_m1, and1, and3, and7, and15, and63, and255, Bool.true_eq_false, Bool.false_eq_true, reduceCtorEq, Nat.reduceAdd, Nat.reduceMul, Nat.reduceSub, Nat.reduceDiv, Nat.reduceMod, Nat.reducePow, Nat.zero_add, Nat.one_mul, estx19, estx20, estxw, est19, estw19, r_codeAt (hE _) hp, Nat.add_assoc]
        have := ((eAll (xs := xs) (Ln := Ln) (D := D) (L := L) (hE o.isSome) 4000).1 3 0 (pos + 1) lv sz d1 (d0 + 100) p1 l1 c1' e1 true false (by decide) (by decide) (by omega) (by unfold depE; simp) h4).2.2.2.1 rfl
        rw [b2i_n1] at this
        refine Ok.mono this ?_
        rintro q ⟨v, br1, rfl, hcv⟩
        simp (disch := first | omega | exact c1_int _ | exact c1_none | exact c1_ref _ | exact isRf_ref _ | assumption | exact okRb _ | exact okN1 | exact okN0 | exact rfl) only [N_X11_asks_0, N_X11_asks_1, N_X11_asks_2, N_X11_asks_5, N_X11_asks_6, N_X11_asks_7, N_X11_asks_10, N_X11_asks_11, N_X11_asks_14, N_X11_asks_17, N_X11_asks_18, N_X11_asks_19, N_X11_asks_22, N_X11_asks_23, N_X11_asks_24, N_X11_asks_27, N_X11_asks_28, N_X11_asks_31, N_X11_asks_34, N_X11_asks_35, N_X11_asks_36, N_X11_asks_39, N_X11_asks_40, N_X11_asks_41, N_X11_asks_44, N_X11_asks_45, N_X11_asks_48, N_X11_asks_51, N_X11_asks_52, N_X11_asks_55, N_X11_asks_58, N_X11_asks_59, N_X11_asks_60, N_X11_asks_61, N_X11_asks_62, N_X11_asks_66, N_X11_asks_69, N_X11_asks_70, N_X11_asks_73, N_X11_asks_76, N_X11_asks_77, N_X11_asks_78, N_X11_asks_81, N_X11_asks_82, N_X11_asks_83, N_X11_asks_86, N_X11_asks_89, N_X11_asks_90, N_X11_asks_91, N_X11_asks_92, N_X11_asks_95, N_X11_asks_96, N_X11_asks_97, N_X11_asks_100, N_X11_asks_101, N_X11_asks_102, N_X11_asks_105, N_X11_asks_106, N_X11_asks_107, N_X11_asks_110, N_X11_asks_113, N_X11_asks_114, N_X11_asks_115, N_X11_asks_116, N_X11_asks_119, N_X11_asks_121, N_X11_asks_122, N_X11_asks_123, N_X11_asks_127, N_X11_asks_128, N_X11_asks_131, N_X11_asks_134, N_X11_asks_135, N_X11_asks_136, N_X11_asks_139, N_X11_asks_142, N_X11_asks_143, N_X11_asks_146, N_X11_asks_147, N_X11_asks_149, N_X11_asks_151, N_X11_asks_154, N_X11_asks_155, N_X11_asks_158, N_X11_asks_161, N_X11_asks_163, N_X11_asks_166, N_X11_asks_167, N_X11_asks_168, N_X11_asks_171, N_X11_asks_172, N_X11_asks_175, N_X11_asks_176, N_X11_asks_178, N_X11_asks_179, N_X11_asks_180, N_X11_asks_183, N_X11_asks_184, N_X11_asks_185, N_X11_asks_188, N_X11_asks_190, N_X11_asks_193, N_X11_asks_196, N_X11_asks_197, N_X11_asks_198, N_X11_asks_201, N_X11_asks_202, N_X11_asks_203, N_X11_asks_206, N_X11_asks_209, if_true, if_false, ite_true, ite_false, not_false_eq_true, not_true_eq_false, isRf_ref, isRf_null, c1_int, c1_ref, c1_null, c1_none, rfv_some, rfv_none, Ok_s, tl_some, tl_none, List.nil_append, b2i_n1, b2i_n0, ↓reduceIte, nI_add, pk_mul, pk_sub, n_leT, n_leF, n_ltT, n_ltF, n_eqT, n_eqF, n_shl1, n_shl, n_shr, nI_and, nI_or, nI_xor, b2i_z, b2i_o, m1_n, n_m1, m1_lt, m1_le, n_lm1, n_em1, nI_m1, and1, and3, and7, and15, and63, and255, Bool.true_eq_false, Bool.false_eq_true, reduceCtorEq, Nat.reduceAdd, Nat.reduceMul, Nat.reduceSub, Nat.reduceDiv, Nat.reduceMod, Nat.reducePow, Nat.zero_add, Nat.one_mul, est21, estw21f]
        rw [h1]
        exact test 1 p1 l1 _ _ v br1 _ (by decide) (by omega) h5 (Or.inl hcv)
      · rw [N_X11_asks_65]
        simp (disch := first | omega | exact c1_int _ | exact c1_none | exact c1_ref _ | exact isRf_ref _ | assumption | exact okRb _ | exact okN1 | exact okN0 | exact rfl) only [N_X11_asks_0, N_X11_asks_1, N_X11_asks_2, N_X11_asks_5, N_X11_asks_6, N_X11_asks_7, N_X11_asks_10, N_X11_asks_11, N_X11_asks_14, N_X11_asks_17, N_X11_asks_18, N_X11_asks_19, N_X11_asks_22, N_X11_asks_23, N_X11_asks_24, N_X11_asks_27, N_X11_asks_28, N_X11_asks_31, N_X11_asks_34, N_X11_asks_35, N_X11_asks_36, N_X11_asks_39, N_X11_asks_40, N_X11_asks_41, N_X11_asks_44, N_X11_asks_45, N_X11_asks_48, N_X11_asks_51, N_X11_asks_52, N_X11_asks_55, N_X11_asks_58, N_X11_asks_59, N_X11_asks_60, N_X11_asks_61, N_X11_asks_62, N_X11_asks_66, N_X11_asks_69, N_X11_asks_70, N_X11_asks_73, N_X11_asks_76, N_X11_asks_77, N_X11_asks_78, N_X11_asks_81, N_X11_asks_82, N_X11_asks_83, N_X11_asks_86, N_X11_asks_89, N_X11_asks_90, N_X11_asks_91, N_X11_asks_92, N_X11_asks_95, N_X11_asks_96, N_X11_asks_97, N_X11_asks_100, N_X11_asks_101, N_X11_asks_102, N_X11_asks_105, N_X11_asks_106, N_X11_asks_107, N_X11_asks_110, N_X11_asks_113, N_X11_asks_114, N_X11_asks_115, N_X11_asks_116, N_X11_asks_119, N_X11_asks_121, N_X11_asks_122, N_X11_asks_123, N_X11_asks_127, N_X11_asks_128, N_X11_asks_131, N_X11_asks_134, N_X11_asks_135, N_X11_asks_136, N_X11_asks_139, N_X11_asks_142, N_X11_asks_143, N_X11_asks_146, N_X11_asks_147, N_X11_asks_149, N_X11_asks_151, N_X11_asks_154, N_X11_asks_155, N_X11_asks_158, N_X11_asks_161, N_X11_asks_163, N_X11_asks_166, N_X11_asks_167, N_X11_asks_168, N_X11_asks_171, N_X11_asks_172, N_X11_asks_175, N_X11_asks_176, N_X11_asks_178, N_X11_asks_179, N_X11_asks_180, N_X11_asks_183, N_X11_asks_184, N_X11_asks_185, N_X11_asks_188, N_X11_asks_190, N_X11_asks_193, N_X11_asks_196, N_X11_asks_197, N_X11_asks_198, N_X11_asks_201, N_X11_asks_202, N_X11_asks_203, N_X11_asks_206, N_X11_asks_209, if_true, if_false, ite_true, ite_false, not_false_eq_true, not_true_eq_false, isRf_ref, isRf_null, c1_int, c1_ref, c1_null, c1_none, rfv_some, rfv_none, Ok_s, tl_some, tl_none, List.nil_append, b2i_n1, b2i_n0, ↓reduceIte, nI_add, pk_mul, pk_sub, n_leT, n_leF, n_ltT, n_ltF, n_eqT, n_eqF, n_shl1, n_shl, n_shr, nI_and, nI_or, nI_xor, b2i_z, b2i_o, m1_n, n_m1, m1_lt, m1_le, n_lm1, n_em1, nI_m1, and1, and3, and7, and15, and63, and255, Bool.true_eq_false, Bool.false_eq_true, reduceCtorEq, Nat.reduceAdd, Nat.reduceMul, Nat.reduceSub, Nat.reduceDiv, Nat.reduceMod, Nat.reducePow, Nat.zero_add, Nat.one_mul, estx19, estx20, estxw, est19, estw19, est21, estw21f, r_codeAt (hE _) hp, Nat.add_assoc]
        rw [h2]
        exact test 2 (pos + 1) lv _ _ 0 false _ (by decide) (by omega) h5 (Or.inr ⟨rfl, rfl, rfl⟩)
end EV
end P58
