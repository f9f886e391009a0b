section P39
variable {xs : Nat → Int32} {Ln d : Nat} {D : Dyn} {I : Nat → Nat → Int32} {L : Nat → Nat → Int64} {w : Om}
/-- steps of a loop by their numbers -/
def itr {α : Type} (f : Nat → α → α) : Nat → α → α
  | 0, x => x
  | n + 1, x => f n (itr f n x)
theorem E_itr {n : Nat} {E : Nat → Prop} (h : ∀ i, i < n → E i = E (i + 1)) : E 0 = E n := by
  have : ∀ m, m ≤ n → E 0 = E m := by
    intro m
    induction m with
    | zero => intro _; rfl
    | succ m ih => intro hm; rw [ih (by omega)]; exact h m (by omega)
  exact this n (Nat.le_refl n)
theorem cnk0 : cntR I 0 = I 84 4320 := id rfl
theorem cnk1 : cntR I 1 = I 84 4321 := id rfl
theorem cnk2 : cntR I 2 = I 84 4325 := id rfl
theorem cnk3 : cntR I 3 = I 84 4323 := id rfl
theorem cnk4 : cntR I 4 = I 84 4324 := id rfl
theorem cnk5 : cntR I 5 = I 84 4322 := id rfl
theorem cnk6 : cntR I 6 = I 82 10 := id rfl
theorem cnk7 : cntR I 7 = I 83 1 := id rfl
theorem cnk8 : cntR I 8 = I 83 2 := id rfl
theorem cnk9 : cntR I 9 = I 83 3 := id rfl
theorem cnk10 : cntR I 10 = I 83 5 := id rfl
theorem cnk11 : cntR I 11 = I 83 6 := id rfl
theorem cnk12 : cntR I 12 = I 84 4326 := id rfl
theorem cnk13 : cntR I 13 = I 84 4327 := id rfl
theorem r_countG {v : Int32} : callD xs Ln (d + 2) 265 [.ref 82, .int v] (mkW D I L) = some (mkW D I L, some (.int (cntR I v))) := by
  have e1 : (7 : Int32) - 6 = 1 := by decide
  have e2 : (8 : Int32) - 6 = 2 := by decide
  have e3 : (9 : Int32) - 6 = 3 := by decide
  refine semI (lo := [some (.ref 82), some (.int v)]) rfl rfl (Nat.le_of_ble_eq_true rfl) rfl ?_
  rcases sw14 v with rfl | rfl | rfl | rfl | rfl | rfl | rfl | rfl | rfl | rfl | rfl | rfl | rfl | rfl | h
  iterate 14 (· simp only [S_X11_count_0, S_X11_count_1_0, S_X11_count_1_1, S_X11_count_1_2, S_X11_count_1_3, S_X11_count_1_4, S_X11_count_1_5, S_X11_count_1_6, S_X11_count_1_7, S_X11_count_1_8, S_X11_count_1_9, S_X11_count_1_10, S_X11_count_1_11, S_X11_count_1_12, S_X11_count_1_13, S_X11_count_1, S_X11_count_72, S_X11_count_73, S_X11_count_76, S_X11_count_77, S_X11_count_78, S_X11_count_81, S_X11_count_82, S_X11_count_83, S_X11_count_86, S_X11_count_89, S_X11_count_90, S_X11_count_91, S_X11_count_92, S_X11_count_95, S_X11_count_98, S_X11_count_99, S_X11_count_100, S_X11_count_101, S_X11_count_104, S_X11_count_107, S_X11_count_108, S_X11_count_109, S_X11_count_110, S_X11_count_113, S_X11_count_116, S_X11_count_117, S_X11_count_118, S_X11_count_119, S_X11_count_122, S_X11_count_123, S_X11_count_124, S_X11_count_127, S_X11_count_128, S_X11_count_130, S_X11_count_131, S_X11_count_132, S_X11_count_133, S_X11_count_134, S_X11_count_137, S_X11_count_138, S_X11_count_139, S_X11_count_140, S_X11_count_141, S_X11_count_144, S_X11_count_146, S_X11_count_147, S_X11_count_148, S_X11_count_149, S_X11_count_152, S_X11_count_155, S_X11_count_156, S_X11_count_157, S_X11_count_158, S_X11_count_161, S_X11_count_164, S_X11_count_165, S_X11_count_166, S_X11_count_167, if_true, if_false, ite_true, ite_false, not_false_eq_true, not_true_eq_false, isRf_ref, isRf_null, c1_int, c1_ref, c1_null, c1_none, rfv_some, rfv_none, aft_s, tl_some, tl_none, w_I, w_L, w_f, List.nil_append, okRb0, okRb1, okRb, Sum.inl.injEq, Prod.mk.injEq, i10, b2i_t, b2i_f, true_and, and_true, or_true, true_or, w_o82, w_p82_2, w_p82_3, w_p82_4, w_p82_5, w_p82_7, w_p82_8, w_p82_9, w_p82_12, w_p82_13, w_p82_14, w_p82_22, w_p82_25, w_p82_26, w_p82_30, w_p82_31, w_p82_32, w_p82_33, w_p82_37, w_p82_38, w_p82_40, w_h83, w_h84, Int32.reduceLT, Int32.reduceLE, Int32.reduceToNatClampNeg, Nat.reduceLeDiff, Nat.reduceEqDiff, false_or, or_false, c_places, c_words, cnk0, cnk1, cnk2, cnk3, cnk4, cnk5, cnk6, cnk7, cnk8, cnk9, cnk10, cnk11, cnk12, cnk13, e1, e2, e3])
  have hs : ∀ k : Nat, k < 14 → (v = nI k) = False := fun k hk => sw14n h hk
  have a0 : (v = 0) = False := hs 0 (by decide)
  have a1 : (v = 1) = False := hs 1 (by decide)
  have a2 : (v = 2) = False := hs 2 (by decide)
  have a3 : (v = 3) = False := hs 3 (by decide)
  have a4 : (v = 4) = False := hs 4 (by decide)
  have a5 : (v = 5) = False := hs 5 (by decide)
  have a6 : (v = 6) = False := hs 6 (by decide)
  have a7 : (v = 7) = False := hs 7 (by decide)
  have a8 : (v = 8) = False := hs 8 (by decide)
  have a9 : (v = 9) = False := hs 9 (by decide)
  have a10 : (v = 10) = False := hs 10 (by decide)
  have a11 : (v = 11) = False := hs 11 (by decide)
  have a12 : (v = 12) = False := hs 12 (by decide)
  have a13 : (v = 13) = False := hs 13 (by decide)
  simp only [S_X11_count_0, S_X11_count_1_0, S_X11_count_1_1, S_X11_count_1_2, S_X11_count_1_3, S_X11_count_1_4, S_X11_count_1_5, S_X11_count_1_6, S_X11_count_1_7, S_X11_count_1_8, S_X11_count_1_9, S_X11_count_1_10, S_X11_count_1_11, S_X11_count_1_12, S_X11_count_1_13, S_X11_count_1, S_X11_count_72, S_X11_count_73, S_X11_count_76, S_X11_count_77, S_X11_count_78, S_X11_count_81, S_X11_count_82, S_X11_count_83, S_X11_count_86, S_X11_count_89, S_X11_count_90, S_X11_count_91, S_X11_count_92, S_X11_count_95, S_X11_count_98, S_X11_count_99, S_X11_count_100, S_X11_count_101, S_X11_count_104, S_X11_count_107, S_X11_count_108, S_X11_count_109, S_X11_count_110, S_X11_count_113, S_X11_count_116, S_X11_count_117, S_X11_count_118, S_X11_count_119, S_X11_count_122, S_X11_count_123, S_X11_count_124, S_X11_count_127, S_X11_count_128, S_X11_count_130, S_X11_count_131, S_X11_count_132, S_X11_count_133, S_X11_count_134, S_X11_count_137, S_X11_count_138, S_X11_count_139, S_X11_count_140, S_X11_count_141, S_X11_count_144, S_X11_count_146, S_X11_count_147, S_X11_count_148, S_X11_count_149, S_X11_count_152, S_X11_count_155, S_X11_count_156, S_X11_count_157, S_X11_count_158, S_X11_count_161, S_X11_count_164, S_X11_count_165, S_X11_count_166, S_X11_count_167, if_true, if_false, ite_true, ite_false, not_false_eq_true, not_true_eq_false, isRf_ref, isRf_null, c1_int, c1_ref, c1_null, c1_none, rfv_some, rfv_none, aft_s, tl_some, tl_none, w_I, w_L, w_f, List.nil_append, okRb0, okRb1, okRb, Sum.inl.injEq, Prod.mk.injEq, i10, b2i_t, b2i_f, true_and, and_true, or_true, true_or, w_o82, w_p82_2, w_p82_3, w_p82_4, w_p82_5, w_p82_7, w_p82_8, w_p82_9, w_p82_12, w_p82_13, w_p82_14, w_p82_22, w_p82_25, w_p82_26, w_p82_30, w_p82_31, w_p82_32, w_p82_33, w_p82_37, w_p82_38, w_p82_40, w_h83, w_h84, cntR, a0, a1, a2, a3, a4, a5, a6, a7, a8, a9, a10, a11, a12, a13, h]
-- place
def plcR (I : Nat → Nat → Int32) (p : Nat) (v : Int32) : Nat → Nat → Int32 := itr (fun i J => up2 J 84 (28 + 12 * i + p) (nI p)) 8 (up2 I 84 p v)
theorem r_place1 {v : Int32} (h : inR v 0 3 = false) : callD xs Ln (d + 2) 168 [.ref 82, .int v] (mkW D I L) = some (mkW D (rfR I (-1)) L, some (.int (-1))) := by
  refine semI (lo := [some (.ref 82), some (.int v), none, none]) rfl rfl (Nat.le_of_ble_eq_true rfl) rfl ?_
  simp only [S_X11_place_0, S_X11_place_1, S_X11_place_2, S_X11_place_3, S_X11_place_6, S_X11_place_9, S_X11_place_10, S_X11_place_11, S_X11_place_14, S_X11_place_15, S_X11_place_16, S_X11_place_19, S_X11_place_20, S_X11_place_21, S_X11_place_23, S_X11_place_26, S_X11_place_27, S_X11_place_29, S_X11_place_32, S_X11_place_33, S_X11_place_34, S_X11_place_37, S_X11_place_38, S_X11_place_39, S_X11_place_40, S_X11_place_41, S_X11_place_42, S_X11_place_43, S_X11_place_44, S_X11_place_45, S_X11_place_47, S_X11_place_50, S_X11_place_51, S_X11_place_54, S_X11_place_56, S_X11_place_58, S_X11_place_59, S_X11_place_60, S_X11_place_61, S_X11_place_62, S_X11_place_63, S_X11_place_64, S_X11_place_65, S_X11_place_68, S_X11_place_71, S_X11_place_72, S_X11_place_75, S_X11_place_78, S_X11_place_79, S_X11_place_80, S_X11_place_81, S_X11_place_82, S_X11_place_83, S_X11_place_84, S_X11_place_85, S_X11_place_88, if_true, if_false, ite_true, ite_false, not_false_eq_true, not_true_eq_false, isRf_ref, isRf_null, c1_int, c1_ref, c1_null, c1_none, rfv_some, rfv_none, aft_s, tl_some, tl_none, w_I, w_L, w_f, List.nil_append, okRb0, okRb1, okRb, Sum.inl.injEq, Prod.mk.injEq, i10, b2i_t, b2i_f, true_and, and_true, or_true, true_or, w_o82, w_p82_2, w_p82_3, w_p82_4, w_p82_5, w_p82_7, w_p82_8, w_p82_9, w_p82_12, w_p82_13, w_p82_14, w_p82_22, w_p82_25, w_p82_26, w_p82_30, w_p82_31, w_p82_32, w_p82_33, w_p82_37, w_p82_38, w_p82_40, c_lies, r_refuses rc1, h]
theorem r_place5 {v : Int32} (h : inR v 0 3 = true) (hp : I 84 4320 = 12) : callD xs Ln (d + 2) 168 [.ref 82, .int v] (mkW D I L) = some (mkW D (rfR I (-5)) L, some (.int (-5))) := by
  refine semI (lo := [some (.ref 82), some (.int v), none, none]) rfl rfl (Nat.le_of_ble_eq_true rfl) rfl ?_
  simp only [S_X11_place_0, S_X11_place_1, S_X11_place_2, S_X11_place_3, S_X11_place_6, S_X11_place_9, S_X11_place_10, S_X11_place_11, S_X11_place_14, S_X11_place_15, S_X11_place_16, S_X11_place_19, S_X11_place_20, S_X11_place_21, S_X11_place_23, S_X11_place_26, S_X11_place_27, S_X11_place_29, S_X11_place_32, S_X11_place_33, S_X11_place_34, S_X11_place_37, S_X11_place_38, S_X11_place_39, S_X11_place_40, S_X11_place_41, S_X11_place_42, S_X11_place_43, S_X11_place_44, S_X11_place_45, S_X11_place_47, S_X11_place_50, S_X11_place_51, S_X11_place_54, S_X11_place_56, S_X11_place_58, S_X11_place_59, S_X11_place_60, S_X11_place_61, S_X11_place_62, S_X11_place_63, S_X11_place_64, S_X11_place_65, S_X11_place_68, S_X11_place_71, S_X11_place_72, S_X11_place_75, S_X11_place_78, S_X11_place_79, S_X11_place_80, S_X11_place_81, S_X11_place_82, S_X11_place_83, S_X11_place_84, S_X11_place_85, S_X11_place_88, if_true, if_false, ite_true, ite_false, not_false_eq_true, not_true_eq_false, isRf_ref, isRf_null, c1_int, c1_ref, c1_null, c1_none, rfv_some, rfv_none, aft_s, tl_some, tl_none, w_I, w_L, w_f, List.nil_append, okRb0, okRb1, okRb, Sum.inl.injEq, Prod.mk.injEq, i10, b2i_t, b2i_f, true_and, and_true, or_true, true_or, w_o82, w_p82_2, w_p82_3, w_p82_4, w_p82_5, w_p82_7, w_p82_8, w_p82_9, w_p82_12, w_p82_13, w_p82_14, w_p82_22, w_p82_25, w_p82_26, w_p82_30, w_p82_31, w_p82_32, w_p82_33, w_p82_37, w_p82_38, w_p82_40, c_lies, c_places, r_refuses rc5, h, hp]
theorem plcR_q {p : Nat} {v : Int32} (hp : p < 12) : ∀ i, i ≤ 8 → itr (fun i J => up2 J 84 (28 + 12 * i + p) (nI p)) i (up2 I 84 p v) 84 4320 = I 84 4320 ∧ ∀ k, k ≠ 84 → itr (fun i J => up2 J 84 (28 + 12 * i + p) (nI p)) i (up2 I 84 p v) k = I k := by
  intro i
  induction i with
  | zero => intro _; exact ⟨up2_j _ _ _ (by omega), fun k hk => up2_ro _ _ _ hk⟩
  | succ i ih =>
    intro hi
    have := ih (by omega)
    exact ⟨by rw [itr, up2_j _ _ _ (by omega)]; exact this.1, fun k hk => by rw [itr, up2_ro _ _ _ hk]; exact this.2 k hk⟩
theorem r_place {v : Int32} {p : Nat} (h : inR v 0 3 = true) (hp : I 84 4320 = nI p) (h12 : p < 12) : callD xs Ln (d + 2) 168 [.ref 82, .int v] (mkW D I L) = some (mkW D (grR (up2 (plcR I p v) 84 4320 (nI (p + 1)))) L, some (.int (nI p))) := by
  have h5' : ¬ nI p = 12 := nl_ne (b := 12) (by omega) (by omega) (by decide)
  have e0 : (0 : Int32) + nI p = nI p := by rw [Int32.zero_add]
  refine semI (lo := [some (.ref 82), some (.int v), none, none]) rfl rfl (Nat.le_of_ble_eq_true rfl) rfl ?_
  simp only [S_X11_place_0, S_X11_place_1, S_X11_place_2, S_X11_place_3, S_X11_place_6, S_X11_place_9, S_X11_place_10, S_X11_place_11, S_X11_place_14, S_X11_place_15, S_X11_place_16, S_X11_place_19, S_X11_place_20, S_X11_place_21, S_X11_place_23, S_X11_place_26, S_X11_place_27, S_X11_place_29, S_X11_place_32, S_X11_place_33, S_X11_place_34, S_X11_place_37, S_X11_place_38, S_X11_place_39, S_X11_place_40, S_X11_place_41, S_X11_place_42, S_X11_place_43, S_X11_place_45, S_X11_place_47, S_X11_place_50, S_X11_place_51, S_X11_place_54, S_X11_place_56, S_X11_place_58, S_X11_place_59, S_X11_place_60, S_X11_place_61, S_X11_place_62, S_X11_place_63, S_X11_place_64, S_X11_place_65, S_X11_place_68, S_X11_place_71, S_X11_place_72, S_X11_place_75, S_X11_place_78, S_X11_place_79, S_X11_place_80, S_X11_place_81, S_X11_place_82, S_X11_place_83, S_X11_place_84, S_X11_place_85, S_X11_place_88, if_true, if_false, ite_true, ite_false, not_false_eq_true, not_true_eq_false, isRf_ref, isRf_null, c1_int, c1_ref, c1_null, c1_none, rfv_some, rfv_none, aft_s, tl_some, tl_none, w_I, w_L, w_f, List.nil_append, okRb0, okRb1, okRb, Sum.inl.injEq, Prod.mk.injEq, i10, b2i_t, b2i_f, true_and, and_true, or_true, true_or, w_o82, w_p82_2, w_p82_3, w_p82_4, w_p82_5, w_p82_7, w_p82_8, w_p82_9, w_p82_12, w_p82_13, w_p82_14, w_p82_22, w_p82_25, w_p82_26, w_p82_30, w_p82_31, w_p82_32, w_p82_33, w_p82_37, w_p82_38, w_p82_40, w_h84, Int32.reduceLT, Int32.reduceLE, Int32.reduceToNatClampNeg, Nat.reduceLeDiff, Nat.reduceEqDiff, false_or, or_false, c_lies, c_places, h, hp, h5', e0, n_ng (show p < 2147483648 by omega), n_cl (show p < 2147483648 by omega), eq_false (show ¬ 9134 ≤ p by omega)]
  refine (E_itr (n := 8) (E := fun i => Ev T_X11_place (some .int) xs Ln (callD xs Ln (d + 1)) 44 [some (.ref 82), some (.int v), some (.int (nI p)), some (.int (nI i))] [] (mkW D (itr (fun i J => up2 J 84 (28 + 12 * i + p) (nI p)) i (up2 I 84 p v)) L) _) ?_).mpr ?_
  · intro i hi
    rw [S_X11_place_44]
    have g : ¬ (8 : Int32) ≤ nI i := nl_nle (a := 8) hi (by decide) (by omega)
    have e : (28 : Int32) + 12 * nI i + nI p = nI (28 + 12 * i + p) := by
      show nI 28 + nI 12 * nI i + nI p = _
      rw [pk_mul, nI_add, nI_add]
    simp only [S_X11_place_0, S_X11_place_1, S_X11_place_2, S_X11_place_3, S_X11_place_6, S_X11_place_9, S_X11_place_10, S_X11_place_11, S_X11_place_14, S_X11_place_15, S_X11_place_16, S_X11_place_19, S_X11_place_20, S_X11_place_21, S_X11_place_23, S_X11_place_26, S_X11_place_27, S_X11_place_29, S_X11_place_32, S_X11_place_33, S_X11_place_34, S_X11_place_37, S_X11_place_38, S_X11_place_39, S_X11_place_40, S_X11_place_41, S_X11_place_42, S_X11_place_43, S_X11_place_45, S_X11_place_47, S_X11_place_50, S_X11_place_51, S_X11_place_54, S_X11_place_56, S_X11_place_58, S_X11_place_59, S_X11_place_60, S_X11_place_61, S_X11_place_62, S_X11_place_63, S_X11_place_64, S_X11_place_65, S_X11_place_68, S_X11_place_71, S_X11_place_72, S_X11_place_75, S_X11_place_78, S_X11_place_79, S_X11_place_80, S_X11_place_81, S_X11_place_82, S_X11_place_83, S_X11_place_84, S_X11_place_85, S_X11_place_88, if_true, if_false, ite_true, ite_false, not_false_eq_true, not_true_eq_false, isRf_ref, isRf_null, c1_int, c1_ref, c1_null, c1_none, rfv_some, rfv_none, aft_s, tl_some, tl_none, w_I, w_L, w_f, List.nil_append, okRb0, okRb1, okRb, Sum.inl.injEq, Prod.mk.injEq, i10, b2i_t, b2i_f, true_and, and_true, or_true, true_or, w_o82, w_p82_2, w_p82_3, w_p82_4, w_p82_5, w_p82_7, w_p82_8, w_p82_9, w_p82_12, w_p82_13, w_p82_14, w_p82_22, w_p82_25, w_p82_26, w_p82_30, w_p82_31, w_p82_32, w_p82_33, w_p82_37, w_p82_38, w_p82_40, w_h84, g, e, nI_1, n_ng (show 28 + 12 * i + p < 2147483648 by omega), n_cl (show 28 + 12 * i + p < 2147483648 by omega), eq_false (show ¬ 9134 ≤ 28 + 12 * i + p by omega), false_or]
    rfl
  · have hq := plcR_q (I := I) (v := v) h12 8 (by omega)
    have hq1 := hq.1
    rw [hp] at hq1
    have g : (8 : Int32) ≤ nI 8 := by decide
    simp only [S_X11_place_0, S_X11_place_1, S_X11_place_2, S_X11_place_3, S_X11_place_6, S_X11_place_9, S_X11_place_10, S_X11_place_11, S_X11_place_14, S_X11_place_15, S_X11_place_16, S_X11_place_19, S_X11_place_20, S_X11_place_21, S_X11_place_23, S_X11_place_26, S_X11_place_27, S_X11_place_29, S_X11_place_32, S_X11_place_33, S_X11_place_34, S_X11_place_37, S_X11_place_38, S_X11_place_39, S_X11_place_40, S_X11_place_41, S_X11_place_42, S_X11_place_43, S_X11_place_44, S_X11_place_45, S_X11_place_47, S_X11_place_50, S_X11_place_51, S_X11_place_54, S_X11_place_56, S_X11_place_58, S_X11_place_59, S_X11_place_60, S_X11_place_61, S_X11_place_62, S_X11_place_63, S_X11_place_64, S_X11_place_65, S_X11_place_68, S_X11_place_71, S_X11_place_72, S_X11_place_75, S_X11_place_78, S_X11_place_79, S_X11_place_80, S_X11_place_81, S_X11_place_82, S_X11_place_83, S_X11_place_84, S_X11_place_85, S_X11_place_88, if_true, if_false, ite_true, ite_false, not_false_eq_true, not_true_eq_false, isRf_ref, isRf_null, c1_int, c1_ref, c1_null, c1_none, rfv_some, rfv_none, aft_s, tl_some, tl_none, w_I, w_L, w_f, List.nil_append, okRb0, okRb1, okRb, Sum.inl.injEq, Prod.mk.injEq, i10, b2i_t, b2i_f, true_and, and_true, or_true, true_or, w_o82, w_p82_2, w_p82_3, w_p82_4, w_p82_5, w_p82_7, w_p82_8, w_p82_9, w_p82_12, w_p82_13, w_p82_14, w_p82_22, w_p82_25, w_p82_26, w_p82_30, w_p82_31, w_p82_32, w_p82_33, w_p82_37, w_p82_38, w_p82_40, w_h84, Int32.reduceLT, Int32.reduceLE, Int32.reduceToNatClampNeg, Nat.reduceLeDiff, Nat.reduceEqDiff, false_or, or_false, c_good, g, plcR, hq1, nI_1, grR, up2_k _ _ _ _ (show (82 : Nat) ≠ 84 by decide)]
end P39
