section Pf0
variable {xs : Nat → Int32} {Ln d : Nat} {D D' D'' : Dyn} {I I' I'' J : Nat → Nat → Int32} {L : Nat → Nat → Int64} {w : Om} {Q : Res → Prop} {ow ow' ow'' ky ky' ky'' ln ln' ln'' a a' : Nat → Nat} {o be sr : Nat} {A A' : As} {nn : Nat}
theorem pcN_cnt (s : Nat) : ∀ n, pcN s n = cntB (fun i => s.testBit i) n
  | 0 => rfl
  | n + 1 => by
    rw [cntB_s, ← pcN_cnt s n]
    show pcN s n + s / 2 ^ n % 2 = _
    cases hb : s.testBit n
    · have : s / 2 ^ n % 2 = 0 := by rw [dv_bit0]; exact hb
      rw [this, if_neg (by decide)]
    · have : s / 2 ^ n % 2 = 1 := by rw [dv_bit]; exact hb
      rw [this, if_pos rfl]
theorem cntB_cg {p q : Nat → Bool} : ∀ n, (∀ i, i < n → p i = q i) → cntB p n = cntB q n
  | 0, _ => rfl
  | n + 1, h => by rw [cntB_s, cntB_s, cntB_cg n (fun i hi => h i (by omega)), h n (by omega)]
theorem cntB_cut {q : Nat → Bool} {W : Nat} : ∀ n, W ≤ n → cntB (fun i => decide (i < W) && q i) n = cntB q W
  | 0, h => by rw [show W = 0 by omega]; rfl
  | n + 1, h => by
    by_cases e : W = n + 1
    · subst e
      exact cntB_cg _ (fun i hi => by rw [decide_eq_true hi, Bool.true_and])
    · rw [cntB_s, cntB_cut n (by omega), decide_eq_false (by omega), Bool.false_and, if_neg (by decide)]
      rfl
theorem hnC_pc {e : Nat} (hW : a 4321 ≤ 8) : pcN (alN a e) 12 = hnC a e := by
  rw [pcN_cnt]
  have : (fun i => (alN a e).testBit i) = fun i => decide (i < a 4321) && unb a e i := by
    funext i
    rw [alN_tb]
    rfl
  rw [this]
  exact cntB_cut 12 (by omega)
theorem c_draw0 {e : Nat} (hA : AW a) (hc : hnC a e = 0) : callD xs Ln (d + 2) 2 [.ref 50, .int (nI (alN a e))] (mkW D I L) = some (mkW D I L, some (.int m1)) := by
  have hW := hA.2.1
  have hal := alN_lt hW e
  have hpc := hnC_pc (a := a) (e := e) hW
  rw [hc] at hpc
  refine Ok.eq ?_
  refine semG (lo := [some (.ref 50), some (.int (nI (alN a e))), none, none, none]) rfl rfl (Nat.le_of_ble_eq_true rfl) rfl (show G_X0_draw xs Ln _ 0 [some (.ref 50), some (.int (nI (alN a e))), none, none, none] [] _ _ from ?_)
  simp (disch := first | omega | exact c1_int _ | exact c1_none | exact c1_ref _ | exact isRf_ref _ | assumption | exact okRb _ | exact okN1 | exact okN0 | exact rfl) only [N_X0_draw_0, N_X0_draw_1, N_X0_draw_4, N_X0_draw_5, N_X0_draw_6, N_X0_draw_9, N_X0_draw_10, N_X0_draw_11, N_X0_draw_12, N_X0_draw_13, N_X0_draw_16, N_X0_draw_19, N_X0_draw_20, N_X0_draw_23, N_X0_draw_24, N_X0_draw_26, N_X0_draw_27, N_X0_draw_30, N_X0_draw_31, N_X0_draw_34, N_X0_draw_35, N_X0_draw_36, N_X0_draw_37, N_X0_draw_38, N_X0_draw_42, N_X0_draw_44, N_X0_draw_47, N_X0_draw_48, N_X0_draw_50, N_X0_draw_51, N_X0_draw_52, N_X0_draw_53, N_X0_draw_54, N_X0_draw_57, N_X0_draw_58, N_X0_draw_61, N_X0_draw_63, N_X0_draw_64, N_X0_draw_67, N_X0_draw_70, N_X0_draw_73, N_X0_draw_74, if_true, if_false, ite_true, ite_false, not_false_eq_true, not_true_eq_false, isRf_ref, isRf_null, c1_int, c1_ref, c1_null, c1_none, rfv_some, rfv_none, Ok_s, tl_some, tl_none, List.nil_append, b2i_n1, b2i_n0, ↓reduceIte, nI_add, pk_mul, pk_sub, n_leT, n_leF, n_ltT, n_ltF, n_eqT, n_eqF, n_shl1, n_shl, n_shr, nI_and, nI_or, nI_xor, b2i_z, b2i_o, m1_n, n_m1, m1_lt, m1_le, n_lm1, n_em1, nI_m1, and1, and3, and7, and15, and63, and255, Bool.true_eq_false, Bool.false_eq_true, reduceCtorEq, Nat.reduceAdd, Nat.reduceMul, Nat.reduceSub, Nat.reduceDiv, Nat.reduceMod, Nat.reducePow, Nat.zero_add, Nat.one_mul, c_bc, bc_n (show alN a e < 4096 by omega), hpc]
theorem c_drawS {e sd : Nat} (hA : AW a) (hc : hnC a e ≠ 0) (hs : I 50 4 = nI sd) (hsd : sd ≤ 1000002) : callD xs Ln (d + 2) 2 [.ref 50, .int (nI (alN a e))] (mkW D I L) = some (mkW D (up2 I 50 4 (nI (hnS sd))) L, some (.int (nI (hnP a e (hnS sd % hnC a e))))) := by
  have hW := hA.2.1
  have hal := alN_lt hW e
  have hpc := hnC_pc (a := a) (e := e) hW
  have hcl : hnC a e ≤ a 4321 := cntB_le _ _
  have hS : (sd * 1103 + 12345) % 1000003 = hnS sd := by unfold hnS; rw [Nat.mul_comm]
  have hSl : hnS sd < 1000003 := Nat.mod_lt _ (by decide)
  obtain ⟨p1, p2, p3, p4⟩ := hnP_s (a := a) (e := e) (r := hnS sd % hnC a e) (Nat.mod_lt _ (by omega))
  have hrl : hnS sd % hnC a e < hnC a e := Nat.mod_lt _ (by omega)
  refine Ok.eq ?_
  refine semG (lo := [some (.ref 50), some (.int (nI (alN a e))), none, none, none]) rfl rfl (Nat.le_of_ble_eq_true rfl) rfl (show G_X0_draw xs Ln _ 0 [some (.ref 50), some (.int (nI (alN a e))), none, none, none] [] _ _ from ?_)
  simp (disch := first | omega | exact c1_int _ | exact c1_none | exact c1_ref _ | exact isRf_ref _ | assumption | exact okRb _ | exact okN1 | exact okN0 | exact rfl) only [N_X0_draw_0, N_X0_draw_1, N_X0_draw_4, N_X0_draw_5, N_X0_draw_6, N_X0_draw_9, N_X0_draw_10, N_X0_draw_11, N_X0_draw_12, N_X0_draw_13, N_X0_draw_16, N_X0_draw_19, N_X0_draw_20, N_X0_draw_23, N_X0_draw_24, N_X0_draw_26, N_X0_draw_27, N_X0_draw_30, N_X0_draw_31, N_X0_draw_34, N_X0_draw_35, N_X0_draw_36, N_X0_draw_37, N_X0_draw_38, N_X0_draw_42, N_X0_draw_44, N_X0_draw_47, N_X0_draw_48, N_X0_draw_50, N_X0_draw_51, N_X0_draw_52, N_X0_draw_53, N_X0_draw_54, N_X0_draw_57, N_X0_draw_58, N_X0_draw_61, N_X0_draw_63, N_X0_draw_64, N_X0_draw_67, N_X0_draw_70, N_X0_draw_73, N_X0_draw_74, if_true, if_false, ite_true, ite_false, not_false_eq_true, not_true_eq_false, isRf_ref, isRf_null, c1_int, c1_ref, c1_null, c1_none, rfv_some, rfv_none, Ok_s, tl_some, tl_none, List.nil_append, b2i_n1, b2i_n0, ↓reduceIte, nI_add, pk_mul, pk_sub, n_leT, n_leF, n_ltT, n_ltF, n_eqT, n_eqF, n_shl1, n_shl, n_shr, nI_and, nI_or, nI_xor, b2i_z, b2i_o, m1_n, n_m1, m1_lt, m1_le, n_lm1, n_em1, nI_m1, and1, and3, and7, and15, and63, and255, Bool.true_eq_false, Bool.false_eq_true, reduceCtorEq, Nat.reduceAdd, Nat.reduceMul, Nat.reduceSub, Nat.reduceDiv, Nat.reduceMod, Nat.reducePow, Nat.zero_add, Nat.one_mul, c_bc, bc_n (show alN a e < 4096 by omega), hpc, hs, hS, up2_s]
  generalize hnS sd % hnC a e = r at *
  generalize hnP a e r = p at *
  refine Lp (n := p) (σ := Unit) (E := fun i _ => G_X0_draw xs Ln (d + 1) 40 [some (.ref 50), some (.int (nI (alN a e))), some (.int (nI (hnC a e))), some (.int (nI (r - cntB (unb a e) i))), some (.int (nI i))] [] (mkW D (up2 I 50 4 (nI (hnS sd))) L) _) (Inv := fun i _ => cntB (unb a e) i ≤ r) ?_ ?_ 0 () (by omega) (Nat.zero_le _)
  · rintro _ j1
    have hb : alN a e / 2 ^ p % 2 = 1 := by rw [dv_bit, alN_tb, decide_eq_true p1, p2]; rfl
    have h0 : r - cntB (unb a e) p = 0 := by omega
    rw [N_X0_draw_40]
    simp (disch := first | omega | exact c1_int _ | exact c1_none | exact c1_ref _ | exact isRf_ref _ | assumption | exact okRb _ | exact okN1 | exact okN0 | exact rfl) only [N_X0_draw_0, N_X0_draw_1, N_X0_draw_4, N_X0_draw_5, N_X0_draw_6, N_X0_draw_9, N_X0_draw_10, N_X0_draw_11, N_X0_draw_12, N_X0_draw_13, N_X0_draw_16, N_X0_draw_19, N_X0_draw_20, N_X0_draw_23, N_X0_draw_24, N_X0_draw_26, N_X0_draw_27, N_X0_draw_30, N_X0_draw_31, N_X0_draw_34, N_X0_draw_35, N_X0_draw_36, N_X0_draw_37, N_X0_draw_38, N_X0_draw_42, N_X0_draw_44, N_X0_draw_47, N_X0_draw_48, N_X0_draw_50, N_X0_draw_51, N_X0_draw_52, N_X0_draw_53, N_X0_draw_54, N_X0_draw_57, N_X0_draw_58, N_X0_draw_61, N_X0_draw_63, N_X0_draw_64, N_X0_draw_67, N_X0_draw_70, N_X0_draw_73, N_X0_draw_74, if_true, if_false, ite_true, ite_false, not_false_eq_true, not_true_eq_false, isRf_ref, isRf_null, c1_int, c1_ref, c1_null, c1_none, rfv_some, rfv_none, Ok_s, tl_some, tl_none, List.nil_append, b2i_n1, b2i_n0, ↓reduceIte, nI_add, pk_mul, pk_sub, n_leT, n_leF, n_ltT, n_ltF, n_eqT, n_eqF, n_shl1, n_shl, n_shr, nI_and, nI_or, nI_xor, b2i_z, b2i_o, m1_n, n_m1, m1_lt, m1_le, n_lm1, n_em1, nI_m1, and1, and3, and7, and15, and63, and255, Bool.true_eq_false, Bool.false_eq_true, reduceCtorEq, Nat.reduceAdd, Nat.reduceMul, Nat.reduceSub, Nat.reduceDiv, Nat.reduceMod, Nat.reducePow, Nat.zero_add, Nat.one_mul, hb, h0]
  · rintro i _ hi j1 ih
    rw [N_X0_draw_40]
    cases hb : brA a i e
    · have hlt : cntB (unb a e) i < r := by
        rcases p4 i hi with h | h
        · rw [hb] at h; cases h
        · exact h
      have hbit : alN a e / 2 ^ i % 2 = 1 := by rw [dv_bit, alN_tb, decide_eq_true (show i < a 4321 by omega), hb]; rfl
      have hcs : cntB (unb a e) (i + 1) = cntB (unb a e) i + 1 := by
        rw [cntB_s]
        unfold unb
        rw [hb]
        rfl
      have hn := ih () (by rw [hcs]; omega)
      rw [hcs, ← Nat.sub_sub] at hn
      simp (disch := first | omega | exact c1_int _ | exact c1_none | exact c1_ref _ | exact isRf_ref _ | assumption | exact okRb _ | exact okN1 | exact okN0 | exact rfl) only [N_X0_draw_0, N_X0_draw_1, N_X0_draw_4, N_X0_draw_5, N_X0_draw_6, N_X0_draw_9, N_X0_draw_10, N_X0_draw_11, N_X0_draw_12, N_X0_draw_13, N_X0_draw_16, N_X0_draw_19, N_X0_draw_20, N_X0_draw_23, N_X0_draw_24, N_X0_draw_26, N_X0_draw_27, N_X0_draw_30, N_X0_draw_31, N_X0_draw_34, N_X0_draw_35, N_X0_draw_36, N_X0_draw_37, N_X0_draw_38, N_X0_draw_42, N_X0_draw_44, N_X0_draw_47, N_X0_draw_48, N_X0_draw_50, N_X0_draw_51, N_X0_draw_52, N_X0_draw_53, N_X0_draw_54, N_X0_draw_57, N_X0_draw_58, N_X0_draw_61, N_X0_draw_63, N_X0_draw_64, N_X0_draw_67, N_X0_draw_70, N_X0_draw_73, N_X0_draw_74, if_true, if_false, ite_true, ite_false, not_false_eq_true, not_true_eq_false, isRf_ref, isRf_null, c1_int, c1_ref, c1_null, c1_none, rfv_some, rfv_none, Ok_s, tl_some, tl_none, List.nil_append, b2i_n1, b2i_n0, ↓reduceIte, nI_add, pk_mul, pk_sub, n_leT, n_leF, n_ltT, n_ltF, n_eqT, n_eqF, n_shl1, n_shl, n_shr, nI_and, nI_or, nI_xor, b2i_z, b2i_o, m1_n, n_m1, m1_lt, m1_le, n_lm1, n_em1, nI_m1, and1, and3, and7, and15, and63, and255, Bool.true_eq_false, Bool.false_eq_true, reduceCtorEq, Nat.reduceAdd, Nat.reduceMul, Nat.reduceSub, Nat.reduceDiv, Nat.reduceMod, Nat.reducePow, Nat.zero_add, Nat.one_mul, hbit]
      exact hn
    · have hbit : alN a e / 2 ^ i % 2 = 0 := by rw [dv_bit0, alN_tb, hb, Bool.not_true, Bool.and_false]
      have hcs : cntB (unb a e) (i + 1) = cntB (unb a e) i := by
        rw [cntB_s]
        unfold unb
        rw [hb]
        rfl
      have hn := ih () (by rw [hcs]; exact j1)
      rw [hcs] at hn
      simp (disch := first | omega | exact c1_int _ | exact c1_none | exact c1_ref _ | exact isRf_ref _ | assumption | exact okRb _ | exact okN1 | exact okN0 | exact rfl) only [N_X0_draw_0, N_X0_draw_1, N_X0_draw_4, N_X0_draw_5, N_X0_draw_6, N_X0_draw_9, N_X0_draw_10, N_X0_draw_11, N_X0_draw_12, N_X0_draw_13, N_X0_draw_16, N_X0_draw_19, N_X0_draw_20, N_X0_draw_23, N_X0_draw_24, N_X0_draw_26, N_X0_draw_27, N_X0_draw_30, N_X0_draw_31, N_X0_draw_34, N_X0_draw_35, N_X0_draw_36, N_X0_draw_37, N_X0_draw_38, N_X0_draw_42, N_X0_draw_44, N_X0_draw_47, N_X0_draw_48, N_X0_draw_50, N_X0_draw_51, N_X0_draw_52, N_X0_draw_53, N_X0_draw_54, N_X0_draw_57, N_X0_draw_58, N_X0_draw_61, N_X0_draw_63, N_X0_draw_64, N_X0_draw_67, N_X0_draw_70, N_X0_draw_73, N_X0_draw_74, if_true, if_false, ite_true, ite_false, not_false_eq_true, not_true_eq_false, isRf_ref, isRf_null, c1_int, c1_ref, c1_null, c1_none, rfv_some, rfv_none, Ok_s, tl_some, tl_none, List.nil_append, b2i_n1, b2i_n0, ↓reduceIte, nI_add, pk_mul, pk_sub, n_leT, n_leF, n_ltT, n_ltF, n_eqT, n_eqF, n_shl1, n_shl, n_shr, nI_and, nI_or, nI_xor, b2i_z, b2i_o, m1_n, n_m1, m1_lt, m1_le, n_lm1, n_em1, nI_m1, and1, and3, and7, and15, and63, and255, Bool.true_eq_false, Bool.false_eq_true, reduceCtorEq, Nat.reduceAdd, Nat.reduceMul, Nat.reduceSub, Nat.reduceDiv, Nat.reduceMod, Nat.reducePow, Nat.zero_add, Nat.one_mul, hbit]
      exact hn
theorem MzI.k {b : Nat} (h : MzI I b a) (hr : ∀ k, b ≤ k → k ≤ b + 8 → I' k = I k) : MzI I' b a := by
  unfold MzI at h ⊢
  rw [hr b (by omega) (by omega), hr (b + 1) (by omega) (by omega), hr (b + 2) (by omega) (by omega), hr (b + 3) (by omega) (by omega), hr (b + 4) (by omega) (by omega), hr (b + 5) (by omega) (by omega), hr (b + 6) (by omega) (by omega), hr (b + 7) (by omega) (by omega), hr (b + 8) (by omega) (by omega)]
  exact h
theorem c_hearP {wd e : Nat} {f : Nat → Nat} (hM : MM ow D I a) (hw : wd < a 4321) (he : e < 8) (hbr : brA a wd e = false) (g1 : I 50 1 = nI e) (g2 : I 50 2 = nI (a 4322)) (g3 : ∀ i, i < a 4322 → I 51 i = nI (f i) ∧ f i < a 4320) : Ok (callD xs Ln (d + 6) 154 [.ref 0, .int (nI wd)] (mkW D I L)) (fun r => ∃ I1 I' L', r = (mkW D I' L', none) ∧ MM ow D I1 a ∧ Kp a I I1 ∧ (∀ k, k ≠ 50 → k ≠ 51 → I' k = I1 k) ∧ I' 50 1 = nI (dbA a wd e) ∧ (∀ j, j ≠ 1 → I' 50 j = I 50 j) ∧ ∀ i, i < a 4322 → I' 51 i = nI (goA a (a (140 + 2 * i + 1)) wd e (f i))) := by
  have hA := hM.2.1
  have hW := hA.2.1
  have h12 := hA.2.2.1
  have hpw : 2 ^ wd < 256 := Nat.lt_of_lt_of_le (Nat.pow_lt_pow_right (by decide) (show wd < 8 by omega)) (by decide)
  refine semG (lo := [some (.ref 0), some (.int (nI wd)), none, none]) rfl rfl (Nat.le_of_ble_eq_true rfl) rfl (show G_X10_hearOnPaper xs Ln _ 0 [some (.ref 0), some (.int (nI wd)), none, none] [] _ _ from ?_)
  simp (disch := first | omega | exact c1_int _ | exact c1_none | exact c1_ref _ | exact isRf_ref _ | assumption | exact okRb _ | exact okN1 | exact okN0 | exact rfl) only [N_X10_hearOnPaper_0, N_X10_hearOnPaper_1, N_X10_hearOnPaper_4, N_X10_hearOnPaper_7, N_X10_hearOnPaper_8, N_X10_hearOnPaper_9, N_X10_hearOnPaper_12, N_X10_hearOnPaper_13, N_X10_hearOnPaper_14, N_X10_hearOnPaper_15, N_X10_hearOnPaper_16, N_X10_hearOnPaper_17, N_X10_hearOnPaper_20, N_X10_hearOnPaper_21, N_X10_hearOnPaper_23, N_X10_hearOnPaper_24, N_X10_hearOnPaper_27, N_X10_hearOnPaper_30, N_X10_hearOnPaper_33, N_X10_hearOnPaper_34, N_X10_hearOnPaper_37, N_X10_hearOnPaper_40, N_X10_hearOnPaper_41, N_X10_hearOnPaper_42, N_X10_hearOnPaper_45, N_X10_hearOnPaper_46, N_X10_hearOnPaper_49, N_X10_hearOnPaper_52, N_X10_hearOnPaper_53, N_X10_hearOnPaper_54, N_X10_hearOnPaper_55, N_X10_hearOnPaper_56, N_X10_hearOnPaper_59, N_X10_hearOnPaper_62, N_X10_hearOnPaper_63, N_X10_hearOnPaper_64, N_X10_hearOnPaper_65, N_X10_hearOnPaper_68, N_X10_hearOnPaper_69, N_X10_hearOnPaper_72, N_X10_hearOnPaper_75, N_X10_hearOnPaper_76, N_X10_hearOnPaper_79, N_X10_hearOnPaper_80, N_X10_hearOnPaper_83, N_X10_hearOnPaper_84, N_X10_hearOnPaper_85, N_X10_hearOnPaper_88, N_X10_hearOnPaper_91, if_true, if_false, ite_true, ite_false, not_false_eq_true, not_true_eq_false, isRf_ref, isRf_null, c1_int, c1_ref, c1_null, c1_none, rfv_some, rfv_none, Ok_s, tl_some, tl_none, List.nil_append, b2i_n1, b2i_n0, ↓reduceIte, nI_add, pk_mul, pk_sub, n_leT, n_leF, n_ltT, n_ltF, n_eqT, n_eqF, n_shl1, n_shl, n_shr, nI_and, nI_or, nI_xor, b2i_z, b2i_o, m1_n, n_m1, m1_lt, m1_le, n_lm1, n_em1, nI_m1, and1, and3, and7, and15, and63, and255, Bool.true_eq_false, Bool.false_eq_true, reduceCtorEq, Nat.reduceAdd, Nat.reduceMul, Nat.reduceSub, Nat.reduceDiv, Nat.reduceMod, Nat.reducePow, Nat.zero_add, Nat.one_mul, g1]
  refine Ok.mono (c_makeReady (d := d) (m := 3) (e := e) (ws := 2 ^ wd) hM (by omega) he hpw) ?_
  rintro _ ⟨I1, L1, rfl, hM1, hK1, h28, hT⟩
  have r50 : I1 50 = I 50 := hK1.1 50 (by omega)
  have r51 : I1 51 = I 51 := hK1.1 51 (by omega)
  simp (disch := first | omega | exact c1_int _ | exact c1_none | exact c1_ref _ | exact isRf_ref _ | assumption | exact okRb _ | exact okN1 | exact okN0 | exact rfl) only [N_X10_hearOnPaper_0, N_X10_hearOnPaper_1, N_X10_hearOnPaper_4, N_X10_hearOnPaper_7, N_X10_hearOnPaper_8, N_X10_hearOnPaper_9, N_X10_hearOnPaper_12, N_X10_hearOnPaper_13, N_X10_hearOnPaper_14, N_X10_hearOnPaper_15, N_X10_hearOnPaper_16, N_X10_hearOnPaper_17, N_X10_hearOnPaper_20, N_X10_hearOnPaper_21, N_X10_hearOnPaper_23, N_X10_hearOnPaper_24, N_X10_hearOnPaper_27, N_X10_hearOnPaper_30, N_X10_hearOnPaper_33, N_X10_hearOnPaper_34, N_X10_hearOnPaper_37, N_X10_hearOnPaper_40, N_X10_hearOnPaper_41, N_X10_hearOnPaper_42, N_X10_hearOnPaper_45, N_X10_hearOnPaper_46, N_X10_hearOnPaper_49, N_X10_hearOnPaper_52, N_X10_hearOnPaper_53, N_X10_hearOnPaper_54, N_X10_hearOnPaper_55, N_X10_hearOnPaper_56, N_X10_hearOnPaper_59, N_X10_hearOnPaper_62, N_X10_hearOnPaper_63, N_X10_hearOnPaper_64, N_X10_hearOnPaper_65, N_X10_hearOnPaper_68, N_X10_hearOnPaper_69, N_X10_hearOnPaper_72, N_X10_hearOnPaper_75, N_X10_hearOnPaper_76, N_X10_hearOnPaper_79, N_X10_hearOnPaper_80, N_X10_hearOnPaper_83, N_X10_hearOnPaper_84, N_X10_hearOnPaper_85, N_X10_hearOnPaper_88, N_X10_hearOnPaper_91, if_true, if_false, ite_true, ite_false, not_false_eq_true, not_true_eq_false, isRf_ref, isRf_null, c1_int, c1_ref, c1_null, c1_none, rfv_some, rfv_none, Ok_s, tl_some, tl_none, List.nil_append, b2i_n1, b2i_n0, ↓reduceIte, nI_add, pk_mul, pk_sub, n_leT, n_leF, n_ltT, n_ltF, n_eqT, n_eqF, n_shl1, n_shl, n_shr, nI_and, nI_or, nI_xor, b2i_z, b2i_o, m1_n, n_m1, m1_lt, m1_le, n_lm1, n_em1, nI_m1, and1, and3, and7, and15, and63, and255, Bool.true_eq_false, Bool.false_eq_true, reduceCtorEq, Nat.reduceAdd, Nat.reduceMul, Nat.reduceSub, Nat.reduceDiv, Nat.reduceMod, Nat.reducePow, Nat.zero_add, Nat.one_mul]
  refine Lp (n := a 4322) (σ := Nat → Nat → Int32) (E := fun i J => G_X10_hearOnPaper xs Ln (d + 5) 22 [some (.ref 0), some (.int (nI wd)), some (.int (nI e)), some (.int (nI i))] [] (mkW D J L1) _) (Inv := fun i J => (∀ k, k ≠ 51 → J k = I1 k) ∧ (∀ j, j < i → J 51 j = nI (goA a (a (140 + 2 * j + 1)) wd e (f j))) ∧ ∀ j, i ≤ j → j < a 4322 → J 51 j = nI (f j)) ?_ ?_ 0 I1 (by omega) ⟨fun _ _ => rfl, fun j hj => absurd hj (Nat.not_lt_zero j), fun j _ hj => by rw [r51]; exact (g3 j hj).1⟩
  · rintro J ⟨j1, j2, j3⟩
    have e2 : J 50 2 = nI (a 4322) := by rw [j1 50 (by decide), r50]; exact g2
    have hMJ : MzI J 1 a := hM1.1.k (fun k k1 k2 => j1 k (by omega))
    have hd := c_doorsB (xs := xs) (Ln := Ln) (d := d + 4) (D := D) (I := J) (L := L1) hMJ hA hw he
    rw [N_X10_hearOnPaper_22]
    simp (disch := first | omega | exact c1_int _ | exact c1_none | exact c1_ref _ | exact isRf_ref _ | assumption | exact okRb _ | exact okN1 | exact okN0 | exact rfl) only [N_X10_hearOnPaper_0, N_X10_hearOnPaper_1, N_X10_hearOnPaper_4, N_X10_hearOnPaper_7, N_X10_hearOnPaper_8, N_X10_hearOnPaper_9, N_X10_hearOnPaper_12, N_X10_hearOnPaper_13, N_X10_hearOnPaper_14, N_X10_hearOnPaper_15, N_X10_hearOnPaper_16, N_X10_hearOnPaper_17, N_X10_hearOnPaper_20, N_X10_hearOnPaper_21, N_X10_hearOnPaper_23, N_X10_hearOnPaper_24, N_X10_hearOnPaper_27, N_X10_hearOnPaper_30, N_X10_hearOnPaper_33, N_X10_hearOnPaper_34, N_X10_hearOnPaper_37, N_X10_hearOnPaper_40, N_X10_hearOnPaper_41, N_X10_hearOnPaper_42, N_X10_hearOnPaper_45, N_X10_hearOnPaper_46, N_X10_hearOnPaper_49, N_X10_hearOnPaper_52, N_X10_hearOnPaper_53, N_X10_hearOnPaper_54, N_X10_hearOnPaper_55, N_X10_hearOnPaper_56, N_X10_hearOnPaper_59, N_X10_hearOnPaper_62, N_X10_hearOnPaper_63, N_X10_hearOnPaper_64, N_X10_hearOnPaper_65, N_X10_hearOnPaper_68, N_X10_hearOnPaper_69, N_X10_hearOnPaper_72, N_X10_hearOnPaper_75, N_X10_hearOnPaper_76, N_X10_hearOnPaper_79, N_X10_hearOnPaper_80, N_X10_hearOnPaper_83, N_X10_hearOnPaper_84, N_X10_hearOnPaper_85, N_X10_hearOnPaper_88, N_X10_hearOnPaper_91, if_true, if_false, ite_true, ite_false, not_false_eq_true, not_true_eq_false, isRf_ref, isRf_null, c1_int, c1_ref, c1_null, c1_none, rfv_some, rfv_none, Ok_s, tl_some, tl_none, List.nil_append, b2i_n1, b2i_n0, ↓reduceIte, nI_add, pk_mul, pk_sub, n_leT, n_leF, n_ltT, n_ltF, n_eqT, n_eqF, n_shl1, n_shl, n_shr, nI_and, nI_or, nI_xor, b2i_z, b2i_o, m1_n, n_m1, m1_lt, m1_le, n_lm1, n_em1, nI_m1, and1, and3, and7, and15, and63, and255, Bool.true_eq_false, Bool.false_eq_true, reduceCtorEq, Nat.reduceAdd, Nat.reduceMul, Nat.reduceSub, Nat.reduceDiv, Nat.reduceMod, Nat.reducePow, Nat.zero_add, Nat.one_mul, e2, hd]
    refine ⟨I1, _, _, rfl, hM1, hK1, fun k k1 k2 => ?_, up2_s _ _ _ _, fun j hj => ?_, fun i hi => ?_⟩
    · rw [up2_ro _ _ _ k1]; exact j1 k k2
    · rw [up2_j _ _ _ hj, j1 50 (by decide), r50]
    · rw [up2_ro _ _ _ (show (51 : Nat) ≠ 50 by decide)]; exact j2 i hi
  · rintro i J hi ⟨j1, j2, j3⟩ ih
    have h13 := hA.2.2.2.2.2.2.2.2.2.2.2.2.1 i hi
    have e2 : J 50 2 = nI (a 4322) := by rw [j1 50 (by decide), r50]; exact g2
    have ek : J 9 i = nI (a (140 + 2 * i + 1)) := by rw [j1 9 (by decide)]; exact (hM1.1.m.2.2.2.2.2.2.2.2.2.2.2.2 i hi).2
    have ep : J 51 i = nI (f i) := j3 i (Nat.le_refl i) hi
    have hT1 : TbI J a (a (140 + 2 * i + 1)) wd e := by
      have h31 : (3 : Nat).testBit (a (140 + 2 * i + 1)) = true := by
        have := h13.2
        generalize a (140 + 2 * i + 1) = k at this
        have : k = 0 ∨ k = 1 := by omega
        rcases this with rfl | rfl <;> rfl
      have := hT (a (140 + 2 * i + 1)) h13.2 h31 wd hw hbr (by rw [Nat.testBit_two_pow]; exact decide_eq_true rfl)
      unfold TbI at this ⊢
      rw [j1 25 (by decide)]
      exact this
    have hpb := c_placeB (xs := xs) (Ln := Ln) (d := d + 3) (D := D) (I := J) (L := L1) (p := f i) hA h13.2 hw (g3 i hi).2 he hT1
    rw [N_X10_hearOnPaper_22]
    simp (disch := first | omega | exact c1_int _ | exact c1_none | exact c1_ref _ | exact isRf_ref _ | assumption | exact okRb _ | exact okN1 | exact okN0 | exact rfl) only [N_X10_hearOnPaper_0, N_X10_hearOnPaper_1, N_X10_hearOnPaper_4, N_X10_hearOnPaper_7, N_X10_hearOnPaper_8, N_X10_hearOnPaper_9, N_X10_hearOnPaper_12, N_X10_hearOnPaper_13, N_X10_hearOnPaper_14, N_X10_hearOnPaper_15, N_X10_hearOnPaper_16, N_X10_hearOnPaper_17, N_X10_hearOnPaper_20, N_X10_hearOnPaper_21, N_X10_hearOnPaper_23, N_X10_hearOnPaper_24, N_X10_hearOnPaper_27, N_X10_hearOnPaper_30, N_X10_hearOnPaper_33, N_X10_hearOnPaper_34, N_X10_hearOnPaper_37, N_X10_hearOnPaper_40, N_X10_hearOnPaper_41, N_X10_hearOnPaper_42, N_X10_hearOnPaper_45, N_X10_hearOnPaper_46, N_X10_hearOnPaper_49, N_X10_hearOnPaper_52, N_X10_hearOnPaper_53, N_X10_hearOnPaper_54, N_X10_hearOnPaper_55, N_X10_hearOnPaper_56, N_X10_hearOnPaper_59, N_X10_hearOnPaper_62, N_X10_hearOnPaper_63, N_X10_hearOnPaper_64, N_X10_hearOnPaper_65, N_X10_hearOnPaper_68, N_X10_hearOnPaper_69, N_X10_hearOnPaper_72, N_X10_hearOnPaper_75, N_X10_hearOnPaper_76, N_X10_hearOnPaper_79, N_X10_hearOnPaper_80, N_X10_hearOnPaper_83, N_X10_hearOnPaper_84, N_X10_hearOnPaper_85, N_X10_hearOnPaper_88, N_X10_hearOnPaper_91, if_true, if_false, ite_true, ite_false, not_false_eq_true, not_true_eq_false, isRf_ref, isRf_null, c1_int, c1_ref, c1_null, c1_none, rfv_some, rfv_none, Ok_s, tl_some, tl_none, List.nil_append, b2i_n1, b2i_n0, ↓reduceIte, nI_add, pk_mul, pk_sub, n_leT, n_leF, n_ltT, n_ltF, n_eqT, n_eqF, n_shl1, n_shl, n_shr, nI_and, nI_or, nI_xor, b2i_z, b2i_o, m1_n, n_m1, m1_lt, m1_le, n_lm1, n_em1, nI_m1, and1, and3, and7, and15, and63, and255, Bool.true_eq_false, Bool.false_eq_true, reduceCtorEq, Nat.reduceAdd, Nat.reduceMul, Nat.reduceSub, Nat.reduceDiv, Nat.reduceMod, Nat.reducePow, Nat.zero_add, Nat.one_mul, e2, ek, ep, hpb]
    refine ih _ ⟨fun k hk => ?_, fun j hj => ?_, fun j hj1 hj2 => ?_⟩
    · rw [up2_ro _ _ _ hk]; exact j1 k hk
    · by_cases ej : j = i
      · subst ej; rw [up2_s]
      · rw [up2_j _ _ _ ej]; exact j2 j (by omega)
    · rw [up2_j _ _ _ (by omega)]; exact j3 j (by omega) hj2
end Pf0
