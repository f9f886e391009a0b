section P9a
variable {xs : Nat → Int32} {Ln d : Nat} {D : Dyn} {I : Nat → Nat → Int32} {L : Nat → Nat → Int64} {w : Om} {Q : Res → Prop} {ow : Nat → Nat} {a : Nat → Nat}
theorem im_sh (f : Nat → Nat) (s : Nat) : ∀ n, im (fun i => f i + 6) s n = im f s n * 64
  | 0 => by simp [im]
  | n + 1 => by
    rw [im_s, im_s, im_sh f s n]
    split
    · rw [Nat.pow_add]
      apply Nat.eq_of_testBit_eq
      intro i
      have e : ∀ x, x * 64 = x <<< 6 := fun x => by rw [Nat.shiftLeft_eq]
      rw [show 2 ^ f n * 2 ^ 6 = 2 ^ f n <<< 6 by rw [Nat.shiftLeft_eq], e, e, Nat.testBit_or, Nat.testBit_shiftLeft, Nat.testBit_shiftLeft, Nat.testBit_shiftLeft, Nat.testBit_or]
      cases decide (i ≥ 6) <;> simp
    · simp
/-- what the tables tell of a set -/
theorem sb_m {m s w e : Nat} (hm : m ≠ 3) : sbN (goA a) m s w e = im (fun i => goA a (m - 1) w e i) (s % 64) 6 ||| im (fun i => goA a (m - 1) w e (6 + i)) (s / 64) 6 := by
  unfold sbN
  rw [im_add _ s 6 6, show s / 2 ^ 6 = s / 64 by rfl, ← im_mod _ s 6 6 (Nat.le_refl _)]
  rw [im_c (f := tgt (goA a) m w e) (g := fun i => goA a (m - 1) w e i) 6 (fun i _ => by unfold tgt; rw [if_neg hm]), im_c (f := fun i => tgt (goA a) m w e (6 + i)) (g := fun i => goA a (m - 1) w e (6 + i)) 6 (fun i _ => by unfold tgt; rw [if_neg hm])]
theorem sb_3 {s w e : Nat} : sbN (goA a) 3 s w e = im (fun i => goA a 0 w e i) (s % 64) 6 ||| im (fun i => goA a 1 w e i) (s / 64) 6 * 64 := by
  unfold sbN
  rw [im_add _ s 6 6, show s / 2 ^ 6 = s / 64 by rfl, ← im_mod _ s 6 6 (Nat.le_refl _), ← im_sh]
  rw [im_c (f := tgt (goA a) 3 w e) (g := fun i => goA a 0 w e i) 6 (fun i hi => by unfold tgt; rw [if_pos rfl, show i / 6 = 0 by omega, show i % 6 = i by omega, Nat.mul_zero, Nat.add_zero]), im_c (f := fun i => tgt (goA a) 3 w e (6 + i)) (g := fun i => goA a 1 w e i + 6) 6 (fun i hi => by unfold tgt; rw [if_pos rfl, show (6 + i) / 6 = 1 by omega, show (6 + i) % 6 = i by omega])]
theorem c_standB {m st wd : Nat} (hM : MzI I 1 a) (hA : AW a) (hm1 : 1 ≤ m) (hm3 : m ≤ 3) (hv : vSt a m st) (hw : wd < 8) (h28 : I 28 (st % 8) = nI (alN a (st % 8))) (hT : ∀ k, k < 2 → m.testBit k = true → wd < a 4321 → brA a wd (st % 8) = false → TbI I a k wd (st % 8)) : callD xs Ln (d + 2) 49 [.ref 23, .int (nI m), .int (nI st), .int (nI wd)] (mkW D I L) = some (mkW D I L, some (.int (nO (behA a m st wd)))) := by
  have h1 := hA.1
  have h2 := hA.2.1
  obtain ⟨v1, v2⟩ := hv
  have he : st % 8 < 8 := by omega
  have hal := alN_lt h2 (st % 8)
  have hbit := alN_tb a (st % 8) wd
  have hb0 := tbo_lt (show 0 < 2 by decide) hw he
  have hb1 := tbo_lt (show 1 < 2 by decide) hw he
  refine Ok.eq ?_
  refine semG (lo := [some (.ref 23), some (.int (nI m)), some (.int (nI st)), some (.int (nI wd)), none, none, none, none, none]) rfl rfl (Nat.le_of_ble_eq_true rfl) rfl (show G_X5_standBehind xs Ln _ 0 [some (.ref 23), some (.int (nI m)), some (.int (nI st)), some (.int (nI wd)), none, none, none, none, none] [] _ _ from ?_)
  by_cases hc : wd < a 4321 ∧ brA a wd (st % 8) = false
  · have hz : alN a (st % 8) / 2 ^ wd % 2 = 1 := by rw [dv_bit, hbit, decide_eq_true hc.1, hc.2]; rfl
    have hbeh : behA a m st wd = some (8 * sbN (goA a) m (st / 8) wd (st % 8) + dbA a wd (st % 8)) := by unfold behA; rw [if_pos hc]
    rw [hbeh, nO_s]
    have e3 : st / 2 ^ 3 = st / 8 := by rfl
    have e9 : st / 2 ^ 9 % 64 = st / 8 / 64 := by rw [show st / 2 ^ 9 = st / 512 by rfl]; omega
    have hdb := c_doorsB (xs := xs) (Ln := Ln) (d := d) (D := D) (L := L) hM hA hc.1 he
    have fin : ∀ x, x * 8 + dbA a wd (st % 8) = 8 * x + dbA a wd (st % 8) := fun x => by omega
    by_cases hm : m = 3
    · subst hm
      have v3 : a 4320 ≤ 6 ∧ st / 8 % 64 < 2 ^ a 4320 ∧ st / 8 / 64 < 2 ^ a 4320 := by
        unfold okS at v2
        simp only [if_true, Bool.and_eq_true, decide_eq_true_eq] at v2
        exact ⟨v2.1.1, v2.1.2, v2.2⟩
      have t0 := (hT 0 (by decide) (by decide) hc.1 hc.2).1 (st / 8 % 64) (by omega) (by simpa using v3.2.1)
      have t1 := (hT 1 (by decide) (by decide) hc.1 hc.2).1 (st / 8 / 64) (by omega) (by simpa using v3.2.2)
      simp only [Nat.mul_zero, Nat.zero_add, Nat.add_zero] at t0 t1
      have hil : im (fun i => goA a 1 wd (st % 8) i) (st / 8 / 64) 6 < 2 ^ 12 := by
        apply im_lt
        intro i hi hb
        have := goA_lt hA (k := 1) (w := wd) (e := st % 8) (p := i) (by decide) hc.1 (by have := bit_lt hb v3.2.2; omega)
        omega
      have hil2 : im (fun i => goA a 1 wd (st % 8) i) (st / 8 / 64) 6 * 2 ^ 6 < 4294967296 := by
        simp only [Nat.reducePow] at hil ⊢
        omega
      simp (disch := first | omega | exact c1_int _ | exact c1_none | exact c1_ref _ | exact isRf_ref _ | assumption | exact okRb _ | exact okN1 | exact okN0 | exact rfl) only [N_X5_standBehind_0, N_X5_standBehind_1, N_X5_standBehind_3, N_X5_standBehind_4, N_X5_standBehind_6, N_X5_standBehind_7, N_X5_standBehind_10, N_X5_standBehind_12, N_X5_standBehind_13, N_X5_standBehind_14, N_X5_standBehind_15, N_X5_standBehind_16, N_X5_standBehind_17, N_X5_standBehind_20, N_X5_standBehind_21, N_X5_standBehind_22, N_X5_standBehind_23, N_X5_standBehind_24, N_X5_standBehind_25, N_X5_standBehind_27, N_X5_standBehind_28, N_X5_standBehind_30, N_X5_standBehind_31, N_X5_standBehind_33, N_X5_standBehind_34, N_X5_standBehind_36, N_X5_standBehind_37, N_X5_standBehind_39, N_X5_standBehind_40, N_X5_standBehind_41, N_X5_standBehind_44, N_X5_standBehind_45, N_X5_standBehind_48, N_X5_standBehind_49, N_X5_standBehind_50, N_X5_standBehind_52, N_X5_standBehind_55, N_X5_standBehind_57, N_X5_standBehind_58, N_X5_standBehind_59, N_X5_standBehind_60, N_X5_standBehind_63, N_X5_standBehind_64, N_X5_standBehind_65, N_X5_standBehind_67, N_X5_standBehind_70, N_X5_standBehind_72, N_X5_standBehind_73, N_X5_standBehind_74, N_X5_standBehind_76, N_X5_standBehind_77, N_X5_standBehind_78, N_X5_standBehind_80, N_X5_standBehind_83, N_X5_standBehind_84, N_X5_standBehind_85, N_X5_standBehind_86, N_X5_standBehind_87, N_X5_standBehind_89, N_X5_standBehind_92, N_X5_standBehind_94, N_X5_standBehind_95, N_X5_standBehind_98, N_X5_standBehind_100, N_X5_standBehind_102, N_X5_standBehind_103, N_X5_standBehind_104, N_X5_standBehind_105, N_X5_standBehind_108, N_X5_standBehind_110, N_X5_standBehind_112, N_X5_standBehind_113, N_X5_standBehind_115, N_X5_standBehind_116, N_X5_standBehind_117, N_X5_standBehind_118, N_X5_standBehind_120, N_X5_standBehind_122, N_X5_standBehind_124, N_X5_standBehind_125, N_X5_standBehind_126, N_X5_standBehind_129, N_X5_standBehind_130, N_X5_standBehind_132, N_X5_standBehind_135, N_X5_standBehind_136, if_true, if_false, ite_true, ite_false, not_false_eq_true, not_true_eq_false, isRf_ref, isRf_null, c1_int, c1_ref, c1_null, c1_none, rfv_some, rfv_none, Ok_s, tl_some, tl_none, List.nil_append, b2i_n1, b2i_n0, ↓reduceIte, nI_add, pk_mul, pk_sub, n_leT, n_leF, n_ltT, n_ltF, n_eqT, n_eqF, n_shl1, n_shl, n_shr, nI_and, nI_or, nI_xor, b2i_z, b2i_o, m1_n, n_m1, m1_lt, m1_le, n_lm1, n_em1, nI_m1, and1, and3, and7, and15, and63, and255, Bool.true_eq_false, Bool.false_eq_true, reduceCtorEq, Nat.reduceAdd, Nat.reduceMul, Nat.reduceSub, Nat.reduceDiv, Nat.reduceMod, Nat.reducePow, Nat.zero_add, Nat.one_mul, h28, hz, e9, c_tableOf (show 0 < 2 by decide) hw he, c_tableOf (show 1 < 2 by decide) hw he, t0, t1, n_shl (show 6 < 32 by decide) hil2, hdb, fin, show (2 : Nat) ^ 6 = 64 from rfl]
      rw [sb_3]
    · have v3 : st / 8 < 2 ^ a 4320 := by
        unfold okS at v2
        rw [if_neg hm] at v2
        exact of_decide_eq_true v2
      have hlo : st / 8 % 64 < 2 ^ (a 4320 - 6 * 0) := by
        rw [Nat.mul_zero, Nat.sub_zero]
        exact Nat.lt_of_le_of_lt (Nat.mod_le _ _) v3
      have hhi : st / 8 / 64 < 2 ^ (a 4320 - 6 * 1) := by
        by_cases h6 : 6 ≤ a 4320
        · rw [show a 4320 = (a 4320 - 6) + 6 by omega, Nat.pow_add] at v3
          rw [Nat.mul_one]
          omega
        · have : 2 ^ a 4320 ≤ 2 ^ 6 := pw_lt (by omega)
          rw [show a 4320 - 6 * 1 = 0 by omega]
          simp only [Nat.reducePow] at this ⊢
          omega
      have hmb : m.testBit (m - 1) = true := by
        have : m = 1 ∨ m = 2 := by omega
        rcases this with rfl | rfl <;> decide
      have t := hT (m - 1) (by omega) hmb hc.1 hc.2
      have t0 := t.1 (st / 8 % 64) (by omega) hlo
      have t1 := t.2 (st / 8 / 64) (by omega) hhi
      simp only [Nat.mul_zero, Nat.zero_add, Nat.add_zero] at t0
      simp only [Nat.mul_one] at t1
      have hb2 := tbo_lt (show m - 1 < 2 by omega) hw he
      simp (disch := first | omega | exact c1_int _ | exact c1_none | exact c1_ref _ | exact isRf_ref _ | assumption | exact okRb _ | exact okN1 | exact okN0 | exact rfl) only [N_X5_standBehind_0, N_X5_standBehind_1, N_X5_standBehind_3, N_X5_standBehind_4, N_X5_standBehind_6, N_X5_standBehind_7, N_X5_standBehind_10, N_X5_standBehind_12, N_X5_standBehind_13, N_X5_standBehind_14, N_X5_standBehind_15, N_X5_standBehind_16, N_X5_standBehind_17, N_X5_standBehind_20, N_X5_standBehind_21, N_X5_standBehind_22, N_X5_standBehind_23, N_X5_standBehind_24, N_X5_standBehind_25, N_X5_standBehind_27, N_X5_standBehind_28, N_X5_standBehind_30, N_X5_standBehind_31, N_X5_standBehind_33, N_X5_standBehind_34, N_X5_standBehind_36, N_X5_standBehind_37, N_X5_standBehind_39, N_X5_standBehind_40, N_X5_standBehind_41, N_X5_standBehind_44, N_X5_standBehind_45, N_X5_standBehind_48, N_X5_standBehind_49, N_X5_standBehind_50, N_X5_standBehind_52, N_X5_standBehind_55, N_X5_standBehind_57, N_X5_standBehind_58, N_X5_standBehind_59, N_X5_standBehind_60, N_X5_standBehind_63, N_X5_standBehind_64, N_X5_standBehind_65, N_X5_standBehind_67, N_X5_standBehind_70, N_X5_standBehind_72, N_X5_standBehind_73, N_X5_standBehind_74, N_X5_standBehind_76, N_X5_standBehind_77, N_X5_standBehind_78, N_X5_standBehind_80, N_X5_standBehind_83, N_X5_standBehind_84, N_X5_standBehind_85, N_X5_standBehind_86, N_X5_standBehind_87, N_X5_standBehind_89, N_X5_standBehind_92, N_X5_standBehind_94, N_X5_standBehind_95, N_X5_standBehind_98, N_X5_standBehind_100, N_X5_standBehind_102, N_X5_standBehind_103, N_X5_standBehind_104, N_X5_standBehind_105, N_X5_standBehind_108, N_X5_standBehind_110, N_X5_standBehind_112, N_X5_standBehind_113, N_X5_standBehind_115, N_X5_standBehind_116, N_X5_standBehind_117, N_X5_standBehind_118, N_X5_standBehind_120, N_X5_standBehind_122, N_X5_standBehind_124, N_X5_standBehind_125, N_X5_standBehind_126, N_X5_standBehind_129, N_X5_standBehind_130, N_X5_standBehind_132, N_X5_standBehind_135, N_X5_standBehind_136, if_true, if_false, ite_true, ite_false, not_false_eq_true, not_true_eq_false, isRf_ref, isRf_null, c1_int, c1_ref, c1_null, c1_none, rfv_some, rfv_none, Ok_s, tl_some, tl_none, List.nil_append, b2i_n1, b2i_n0, ↓reduceIte, nI_add, pk_mul, pk_sub, n_leT, n_leF, n_ltT, n_ltF, n_eqT, n_eqF, n_shl1, n_shl, n_shr, nI_and, nI_or, nI_xor, b2i_z, b2i_o, m1_n, n_m1, m1_lt, m1_le, n_lm1, n_em1, nI_m1, and1, and3, and7, and15, and63, and255, Bool.true_eq_false, Bool.false_eq_true, reduceCtorEq, Nat.reduceAdd, Nat.reduceMul, Nat.reduceSub, Nat.reduceDiv, Nat.reduceMod, Nat.reducePow, Nat.zero_add, Nat.one_mul, h28, hz, e9, c_tableOf (show m - 1 < 2 by omega) hw he, t0, t1, hdb, fin]
      rw [sb_m hm]
  · have hz : alN a (st % 8) / 2 ^ wd % 2 = 0 := by
      rw [dv_bit0, hbit]
      by_cases h : wd < a 4321
      · have : brA a wd (st % 8) = true := by
          cases hb : brA a wd (st % 8)
          · exact absurd ⟨h, hb⟩ hc
          · rfl
        rw [this]
        simp
      · rw [decide_eq_false h]
        rfl
    have hbeh : behA a m st wd = none := by unfold behA; rw [if_neg hc]
    rw [hbeh]
    simp (disch := first | omega | exact c1_int _ | exact c1_none | exact c1_ref _ | exact isRf_ref _ | assumption | exact okRb _ | exact okN1 | exact okN0 | exact rfl) only [N_X5_standBehind_0, N_X5_standBehind_1, N_X5_standBehind_3, N_X5_standBehind_4, N_X5_standBehind_6, N_X5_standBehind_7, N_X5_standBehind_10, N_X5_standBehind_12, N_X5_standBehind_13, N_X5_standBehind_14, N_X5_standBehind_15, N_X5_standBehind_16, N_X5_standBehind_17, N_X5_standBehind_20, N_X5_standBehind_21, N_X5_standBehind_22, N_X5_standBehind_23, N_X5_standBehind_24, N_X5_standBehind_25, N_X5_standBehind_27, N_X5_standBehind_28, N_X5_standBehind_30, N_X5_standBehind_31, N_X5_standBehind_33, N_X5_standBehind_34, N_X5_standBehind_36, N_X5_standBehind_37, N_X5_standBehind_39, N_X5_standBehind_40, N_X5_standBehind_41, N_X5_standBehind_44, N_X5_standBehind_45, N_X5_standBehind_48, N_X5_standBehind_49, N_X5_standBehind_50, N_X5_standBehind_52, N_X5_standBehind_55, N_X5_standBehind_57, N_X5_standBehind_58, N_X5_standBehind_59, N_X5_standBehind_60, N_X5_standBehind_63, N_X5_standBehind_64, N_X5_standBehind_65, N_X5_standBehind_67, N_X5_standBehind_70, N_X5_standBehind_72, N_X5_standBehind_73, N_X5_standBehind_74, N_X5_standBehind_76, N_X5_standBehind_77, N_X5_standBehind_78, N_X5_standBehind_80, N_X5_standBehind_83, N_X5_standBehind_84, N_X5_standBehind_85, N_X5_standBehind_86, N_X5_standBehind_87, N_X5_standBehind_89, N_X5_standBehind_92, N_X5_standBehind_94, N_X5_standBehind_95, N_X5_standBehind_98, N_X5_standBehind_100, N_X5_standBehind_102, N_X5_standBehind_103, N_X5_standBehind_104, N_X5_standBehind_105, N_X5_standBehind_108, N_X5_standBehind_110, N_X5_standBehind_112, N_X5_standBehind_113, N_X5_standBehind_115, N_X5_standBehind_116, N_X5_standBehind_117, N_X5_standBehind_118, N_X5_standBehind_120, N_X5_standBehind_122, N_X5_standBehind_124, N_X5_standBehind_125, N_X5_standBehind_126, N_X5_standBehind_129, N_X5_standBehind_130, N_X5_standBehind_132, N_X5_standBehind_135, N_X5_standBehind_136, if_true, if_false, ite_true, ite_false, not_false_eq_true, not_true_eq_false, isRf_ref, isRf_null, c1_int, c1_ref, c1_null, c1_none, rfv_some, rfv_none, Ok_s, tl_some, tl_none, List.nil_append, b2i_n1, b2i_n0, ↓reduceIte, nI_add, pk_mul, pk_sub, n_leT, n_leF, n_ltT, n_ltF, n_eqT, n_eqF, n_shl1, n_shl, n_shr, nI_and, nI_or, nI_xor, b2i_z, b2i_o, m1_n, n_m1, m1_lt, m1_le, n_lm1, n_em1, nI_m1, and1, and3, and7, and15, and63, and255, Bool.true_eq_false, Bool.false_eq_true, reduceCtorEq, Nat.reduceAdd, Nat.reduceMul, Nat.reduceSub, Nat.reduceDiv, Nat.reduceMod, Nat.reducePow, Nat.zero_add, Nat.one_mul, h28, hz]
    rfl
/-- the same where all is ready -/
theorem c_standR {m st wd : Nat} (hM : MzI I 1 a) (hA : AW a) (hm1 : 1 ≤ m) (hm3 : m ≤ 3) (hv : vSt a m st) (hw : wd < 8) (hR : Rdy I a m (st % 8)) : callD xs Ln (d + 2) 49 [.ref 23, .int (nI m), .int (nI st), .int (nI wd)] (mkW D I L) = some (mkW D I L, some (.int (nO (behA a m st wd)))) := c_standB hM hA hm1 hm3 hv hw hR.1 (fun k hk hm h1 h2 => hR.2 k hk hm wd h1 h2)
theorem pw63 : ∀ i, i < 6 → 2 ^ i % 64 = 2 ^ i := by decide
theorem c_placeB {k wd p e : Nat} (hA : AW a) (hk : k < 2) (hw : wd < a 4321) (hp : p < a 4320) (he : e < 8) (hT : TbI I a k wd e) : callD xs Ln (d + 2) 50 [.ref 23, .int (nI k), .int (nI wd), .int (nI p), .int (nI e)] (mkW D I L) = some (mkW D I L, some (.int (nI (goA a k wd e p)))) := by
  have h1 := hA.1
  have h2 := hA.2.1
  have hgl := goA_lt hA (e := e) hk hw hp
  have hb := tbo_lt hk (show wd < 8 by omega) he
  have htz := tz_pw (goA a k wd e p) (by omega)
  refine Ok.eq ?_
  refine semG (lo := [some (.ref 23), some (.int (nI k)), some (.int (nI wd)), some (.int (nI p)), some (.int (nI e)), none, none]) rfl rfl (Nat.le_of_ble_eq_true rfl) rfl (show G_X5_placeBehind xs Ln _ 0 [some (.ref 23), some (.int (nI k)), some (.int (nI wd)), some (.int (nI p)), some (.int (nI e)), none, none] [] _ _ from ?_)
  by_cases h6 : p < 6
  · have p63 := pw63 p h6
    have hlt : 2 ^ p < 2 ^ 6 := Nat.pow_lt_pow_right (by decide) h6
    simp only [Nat.reducePow] at hlt
    have t := hT.1 (2 ^ p) hlt (Nat.pow_lt_pow_right (by decide) (by omega))
    rw [im_1, if_pos h6, Nat.mul_zero, Nat.add_zero, Nat.zero_add] at t
    simp (disch := first | omega | exact c1_int _ | exact c1_none | exact c1_ref _ | exact isRf_ref _ | assumption | exact okRb _ | exact okN1 | exact okN0 | exact rfl) only [N_X5_placeBehind_0, N_X5_placeBehind_1, N_X5_placeBehind_2, N_X5_placeBehind_4, N_X5_placeBehind_7, N_X5_placeBehind_9, N_X5_placeBehind_10, N_X5_placeBehind_12, N_X5_placeBehind_15, N_X5_placeBehind_16, N_X5_placeBehind_19, N_X5_placeBehind_21, N_X5_placeBehind_22, N_X5_placeBehind_23, N_X5_placeBehind_24, N_X5_placeBehind_26, N_X5_placeBehind_27, N_X5_placeBehind_28, N_X5_placeBehind_29, N_X5_placeBehind_32, N_X5_placeBehind_33, N_X5_placeBehind_36, N_X5_placeBehind_38, N_X5_placeBehind_40, N_X5_placeBehind_41, N_X5_placeBehind_42, N_X5_placeBehind_43, N_X5_placeBehind_45, N_X5_placeBehind_46, N_X5_placeBehind_47, N_X5_placeBehind_49, N_X5_placeBehind_50, N_X5_placeBehind_51, N_X5_placeBehind_52, N_X5_placeBehind_54, N_X5_placeBehind_56, N_X5_placeBehind_59, if_true, if_false, ite_true, ite_false, not_false_eq_true, not_true_eq_false, isRf_ref, isRf_null, c1_int, c1_ref, c1_null, c1_none, rfv_some, rfv_none, Ok_s, tl_some, tl_none, List.nil_append, b2i_n1, b2i_n0, ↓reduceIte, nI_add, pk_mul, pk_sub, n_leT, n_leF, n_ltT, n_ltF, n_eqT, n_eqF, n_shl1, n_shl, n_shr, nI_and, nI_or, nI_xor, b2i_z, b2i_o, m1_n, n_m1, m1_lt, m1_le, n_lm1, n_em1, nI_m1, and1, and3, and7, and15, and63, and255, Bool.true_eq_false, Bool.false_eq_true, reduceCtorEq, Nat.reduceAdd, Nat.reduceMul, Nat.reduceSub, Nat.reduceDiv, Nat.reduceMod, Nat.reducePow, Nat.zero_add, Nat.one_mul, c_tableOf hk (show wd < 8 by omega) he, p63, t, c_tz, htz]
  · have p63 := pw63 (p - 6) (by omega)
    have hlt : 2 ^ (p - 6) < 2 ^ 6 := Nat.pow_lt_pow_right (by decide) (by omega)
    simp only [Nat.reducePow] at hlt
    have t := hT.2 (2 ^ (p - 6)) hlt (Nat.pow_lt_pow_right (by decide) (by omega))
    rw [im_1, if_pos (by omega), Nat.mul_one, show 6 + (p - 6) = p by omega] at t
    simp (disch := first | omega | exact c1_int _ | exact c1_none | exact c1_ref _ | exact isRf_ref _ | assumption | exact okRb _ | exact okN1 | exact okN0 | exact rfl) only [N_X5_placeBehind_0, N_X5_placeBehind_1, N_X5_placeBehind_2, N_X5_placeBehind_4, N_X5_placeBehind_7, N_X5_placeBehind_9, N_X5_placeBehind_10, N_X5_placeBehind_12, N_X5_placeBehind_15, N_X5_placeBehind_16, N_X5_placeBehind_19, N_X5_placeBehind_21, N_X5_placeBehind_22, N_X5_placeBehind_23, N_X5_placeBehind_24, N_X5_placeBehind_26, N_X5_placeBehind_27, N_X5_placeBehind_28, N_X5_placeBehind_29, N_X5_placeBehind_32, N_X5_placeBehind_33, N_X5_placeBehind_36, N_X5_placeBehind_38, N_X5_placeBehind_40, N_X5_placeBehind_41, N_X5_placeBehind_42, N_X5_placeBehind_43, N_X5_placeBehind_45, N_X5_placeBehind_46, N_X5_placeBehind_47, N_X5_placeBehind_49, N_X5_placeBehind_50, N_X5_placeBehind_51, N_X5_placeBehind_52, N_X5_placeBehind_54, N_X5_placeBehind_56, N_X5_placeBehind_59, if_true, if_false, ite_true, ite_false, not_false_eq_true, not_true_eq_false, isRf_ref, isRf_null, c1_int, c1_ref, c1_null, c1_none, rfv_some, rfv_none, Ok_s, tl_some, tl_none, List.nil_append, b2i_n1, b2i_n0, ↓reduceIte, nI_add, pk_mul, pk_sub, n_leT, n_leF, n_ltT, n_ltF, n_eqT, n_eqF, n_shl1, n_shl, n_shr, nI_and, nI_or, nI_xor, b2i_z, b2i_o, m1_n, n_m1, m1_lt, m1_le, n_lm1, n_em1, nI_m1, and1, and3, and7, and15, and63, and255, Bool.true_eq_false, Bool.false_eq_true, reduceCtorEq, Nat.reduceAdd, Nat.reduceMul, Nat.reduceSub, Nat.reduceDiv, Nat.reduceMod, Nat.reducePow, Nat.zero_add, Nat.one_mul, c_tableOf hk (show wd < 8 by omega) he, p63, t, c_tz, htz]
theorem pw_self (w : Nat) : (2 ^ w).testBit w = true := by rw [Nat.testBit_two_pow]; simp
theorem c_hearAt {m st wd : Nat} (hM : MM ow D I a) (hm1 : 1 ≤ m) (hm3 : m ≤ 3) (hv : vSt a m st) (hw : wd < a 4321) : Ok (callD xs Ln (d + 6) 146 [.ref 0, .int (nI m), .int (nI st), .int (nI wd)] (mkW D I L)) (fun r => ∃ I' L', r = (mkW D I' L', some (.int (nO (behA a m st wd)))) ∧ MM ow D I' a ∧ Kp a I I') := by
  have hA := hM.2.1
  have h2 := hA.2.1
  have v1 := hv.1
  have hpw := pw8 (show wd < 8 by omega)
  refine semG (lo := [some (.ref 0), some (.int (nI m)), some (.int (nI st)), some (.int (nI wd))]) rfl rfl (Nat.le_of_ble_eq_true rfl) rfl (show G_X10_hearAt xs Ln _ 0 [some (.ref 0), some (.int (nI m)), some (.int (nI st)), some (.int (nI wd))] [] _ _ from ?_)
  simp (disch := first | omega | exact c1_int _ | exact c1_none | exact c1_ref _ | exact isRf_ref _ | assumption | exact okRb _ | exact okN1 | exact okN0 | exact rfl) only [N_X10_hearAt_0, N_X10_hearAt_1, N_X10_hearAt_4, N_X10_hearAt_5, N_X10_hearAt_6, N_X10_hearAt_8, N_X10_hearAt_9, N_X10_hearAt_10, N_X10_hearAt_11, N_X10_hearAt_12, N_X10_hearAt_15, N_X10_hearAt_16, N_X10_hearAt_19, N_X10_hearAt_20, N_X10_hearAt_21, N_X10_hearAt_22, N_X10_hearAt_25, if_true, if_false, ite_true, ite_false, not_false_eq_true, not_true_eq_false, isRf_ref, isRf_null, c1_int, c1_ref, c1_null, c1_none, rfv_some, rfv_none, Ok_s, tl_some, tl_none, List.nil_append, b2i_n1, b2i_n0, ↓reduceIte, nI_add, pk_mul, pk_sub, n_leT, n_leF, n_ltT, n_ltF, n_eqT, n_eqF, n_shl1, n_shl, n_shr, nI_and, nI_or, nI_xor, b2i_z, b2i_o, m1_n, n_m1, m1_lt, m1_le, n_lm1, n_em1, nI_m1, and1, and3, and7, and15, and63, and255, Bool.true_eq_false, Bool.false_eq_true, reduceCtorEq, Nat.reduceAdd, Nat.reduceMul, Nat.reduceSub, Nat.reduceDiv, Nat.reduceMod, Nat.reducePow, Nat.zero_add, Nat.one_mul]
  refine Ok.mono (c_makeReady (d := d) hM (by omega) (show st % 8 < 8 by omega) hpw) ?_
  rintro _ ⟨J, K, rfl, hM1, hK1, h28, hT⟩
  simp (disch := first | omega | exact c1_int _ | exact c1_none | exact c1_ref _ | exact isRf_ref _ | assumption | exact okRb _ | exact okN1 | exact okN0 | exact rfl) only [N_X10_hearAt_0, N_X10_hearAt_1, N_X10_hearAt_4, N_X10_hearAt_5, N_X10_hearAt_6, N_X10_hearAt_8, N_X10_hearAt_9, N_X10_hearAt_10, N_X10_hearAt_11, N_X10_hearAt_12, N_X10_hearAt_15, N_X10_hearAt_16, N_X10_hearAt_19, N_X10_hearAt_20, N_X10_hearAt_21, N_X10_hearAt_22, N_X10_hearAt_25, if_true, if_false, ite_true, ite_false, not_false_eq_true, not_true_eq_false, isRf_ref, isRf_null, c1_int, c1_ref, c1_null, c1_none, rfv_some, rfv_none, Ok_s, tl_some, tl_none, List.nil_append, b2i_n1, b2i_n0, ↓reduceIte, nI_add, pk_mul, pk_sub, n_leT, n_leF, n_ltT, n_ltF, n_eqT, n_eqF, n_shl1, n_shl, n_shr, nI_and, nI_or, nI_xor, b2i_z, b2i_o, m1_n, n_m1, m1_lt, m1_le, n_lm1, n_em1, nI_m1, and1, and3, and7, and15, and63, and255, Bool.true_eq_false, Bool.false_eq_true, reduceCtorEq, Nat.reduceAdd, Nat.reduceMul, Nat.reduceSub, Nat.reduceDiv, Nat.reduceMod, Nat.reducePow, Nat.zero_add, Nat.one_mul]
  rw [c_standB (d := d + 3) hM1.1 hA hm1 hm3 hv (by omega) h28 (fun k hk hm h3 h4 => hT k hk hm wd h3 h4 (pw_self wd))]
  simp (disch := first | omega | exact c1_int _ | exact c1_none | exact c1_ref _ | exact isRf_ref _ | assumption | exact okRb _ | exact okN1 | exact okN0 | exact rfl) only [N_X10_hearAt_0, N_X10_hearAt_1, N_X10_hearAt_4, N_X10_hearAt_5, N_X10_hearAt_6, N_X10_hearAt_8, N_X10_hearAt_9, N_X10_hearAt_10, N_X10_hearAt_11, N_X10_hearAt_12, N_X10_hearAt_15, N_X10_hearAt_16, N_X10_hearAt_19, N_X10_hearAt_20, N_X10_hearAt_21, N_X10_hearAt_22, N_X10_hearAt_25, if_true, if_false, ite_true, ite_false, not_false_eq_true, not_true_eq_false, isRf_ref, isRf_null, c1_int, c1_ref, c1_null, c1_none, rfv_some, rfv_none, Ok_s, tl_some, tl_none, List.nil_append, b2i_n1, b2i_n0, ↓reduceIte, nI_add, pk_mul, pk_sub, n_leT, n_leF, n_ltT, n_ltF, n_eqT, n_eqF, n_shl1, n_shl, n_shr, nI_and, nI_or, nI_xor, b2i_z, b2i_o, m1_n, n_m1, m1_lt, m1_le, n_lm1, n_em1, nI_m1, and1, and3, and7, and15, and63, and255, Bool.true_eq_false, Bool.false_eq_true, reduceCtorEq, Nat.reduceAdd, Nat.reduceMul, Nat.reduceSub, Nat.reduceDiv, Nat.reduceMod, Nat.reducePow, Nat.zero_add, Nat.one_mul]
  exact ⟨_, _, rfl, hM1, hK1⟩
end P9a
