section Pe5
variable {xs : Nat → Int32} {Ln d : Nat} {D D' D'' : Dyn} {I I' I'' : Nat → Nat → Int32} {L : Nat → Nat → Int64} {w : Om} {Q : Res → Prop} {ow ow' ow'' ky ky' ky'' ln ln' ln'' a a' : Nat → Nat} {o be sr : Nat} {A : As} {nn : Nat}
theorem c_lvTwo {k e0 n e x y l : Nat} {sg q lev : Nat → Nat} {S : Nat → Bool} (hA : AW a) (hD : DA D ow ky ln) (hV : PrV I ky ln a (k + 1) e0 sg S n q lev) (hk : k < 2) (hx : x < a 4320) (hy : y < a 4320) (he : e < 8) (hin : ∃ p, p < n ∧ q p = 8 * (2 ^ x ||| 2 ^ y) + e) (hl : prN a k e x y = some l) : callD xs Ln (d + 2) 27 [.ref 34, .int (nI (2 ^ x ||| 2 ^ y)), .int (nI e)] (mkW D I L) = some (mkW D I L, some (.int (nI l))) := by
  obtain ⟨t1, t2, t3⟩ := two_v (m := k + 1) (S := fun _ => true) hA (by omega) (by omega) hx hy he rfl
  have e8 : (8 * (2 ^ x ||| 2 ^ y) + e) / 8 = 2 ^ x ||| 2 ^ y := by omega
  have hlv := c_lvAt (xs := xs) (Ln := Ln) (d := d) (L := L) hD hV t2 he (Or.inr hin)
  have hgl : glv (behA a (k + 1)) sg 1 (8 * (2 ^ x ||| 2 ^ y) + e) = prN a k e x y := by
    rw [glv_few hA (by omega) (by omega) hV.2.1 t1.1 (by rw [e8]; exact t3)]
    rfl
  rw [hgl, hl, nO_s] at hlv
  exact hlv
theorem c_bring {k e0 n st x y l : Nat} {sg q lev : Nat → Nat} {S : Nat → Bool} (hC : CIx ow ky ln D I A nn) (hV : PrV I ky ln (sa A) (k + 1) e0 sg S n q lev) (hk : k < 2) (hvs : vSt (sa A) (k + 1) st) (hPE : PE n q st) (hso : soonA (sa A) k st = some (x, y, l)) : Ok (callD xs Ln (d + 5) 153 [.ref 0, .int (nI k), .int (nI (2 ^ x ||| 2 ^ y)), .int (nI st)] (mkW D I L)) (fun r => ∃ st', mvA (sa A) k st x y l l = some st' ∧ PE n q st' ∧ vSt (sa A) (k + 1) st' ∧ r = (mkW D I L, some (.int (nI st')))) := by
  have hM := hC.2.2.2.1
  have hA := hM.2.1
  have hP := hA.1
  have hst := hvs.1
  have he : st % 8 < 8 := by omega
  obtain ⟨p1, p2, p3, p4, p5, p6⟩ := pl_step hA hk hvs hso
  have hx : x < sa A 4320 := by omega
  obtain ⟨_, _, hbx, hby, _⟩ := spX_ok (g := prN (sa A) k (st % 8)) (s := st / 8) (P := sa A 4320) (sa A 4320) none (Nat.le_refl _) (fun x y v e => by cases e) x y l hso
  have hin := hPE x y p4 hbx hby
  have hl := prN_lt2 hA hk hx p5 he p6
  obtain ⟨t1, t2, t3⟩ := two_v (m := k + 1) (S := fun _ => true) hA (by omega) (by omega) hx p5 he rfl
  have hlv := c_lvTwo (xs := xs) (Ln := Ln) (d := d + 2) (L := L) hA hC.2.1 hV hk hx p5 he hin p6
  obtain ⟨l1, l2, l3, l4, l5, l6, l7, l8⟩ := hV.1
  have hway := pr_way hV hA hk hx p5 he hin p6
  have ec : (2 ^ x ||| 2 ^ y) * 8 + st % 8 = 8 * (2 ^ x ||| 2 ^ y) + st % 8 := by omega
  refine semG (lo := [some (.ref 0), some (.int (nI k)), some (.int (nI (2 ^ x ||| 2 ^ y))), some (.int (nI st)), none, none, none, none, none]) rfl rfl (Nat.le_of_ble_eq_true rfl) rfl (show G_X10_bringTogether xs Ln _ 0 [some (.ref 0), some (.int (nI k)), some (.int (nI (2 ^ x ||| 2 ^ y))), some (.int (nI st)), none, none, none, none, none] [] _ _ from ?_)
  simp (disch := first | omega | exact c1_int _ | exact c1_none | exact c1_ref _ | exact isRf_ref _ | assumption | exact okRb _ | exact okN1 | exact okN0 | exact rfl) only [N_X10_bringTogether_0, N_X10_bringTogether_1, N_X10_bringTogether_3, N_X10_bringTogether_4, N_X10_bringTogether_6, N_X10_bringTogether_7, N_X10_bringTogether_8, N_X10_bringTogether_10, N_X10_bringTogether_11, N_X10_bringTogether_12, N_X10_bringTogether_14, N_X10_bringTogether_15, N_X10_bringTogether_18, N_X10_bringTogether_19, N_X10_bringTogether_20, N_X10_bringTogether_22, N_X10_bringTogether_23, N_X10_bringTogether_26, N_X10_bringTogether_28, N_X10_bringTogether_29, N_X10_bringTogether_33, N_X10_bringTogether_35, N_X10_bringTogether_38, N_X10_bringTogether_39, N_X10_bringTogether_42, N_X10_bringTogether_44, N_X10_bringTogether_46, N_X10_bringTogether_47, N_X10_bringTogether_49, N_X10_bringTogether_51, N_X10_bringTogether_52, N_X10_bringTogether_55, N_X10_bringTogether_57, N_X10_bringTogether_59, N_X10_bringTogether_60, N_X10_bringTogether_63, N_X10_bringTogether_65, N_X10_bringTogether_66, N_X10_bringTogether_67, N_X10_bringTogether_70, N_X10_bringTogether_71, N_X10_bringTogether_72, N_X10_bringTogether_73, N_X10_bringTogether_75, N_X10_bringTogether_77, N_X10_bringTogether_80, N_X10_bringTogether_82, N_X10_bringTogether_83, N_X10_bringTogether_86, N_X10_bringTogether_87, N_X10_bringTogether_88, N_X10_bringTogether_89, N_X10_bringTogether_91, N_X10_bringTogether_93, N_X10_bringTogether_96, N_X10_bringTogether_98, N_X10_bringTogether_101, N_X10_bringTogether_104, N_X10_bringTogether_106, if_true, if_false, ite_true, ite_false, not_false_eq_true, not_true_eq_false, isRf_ref, isRf_null, c1_int, c1_ref, c1_null, c1_none, rfv_some, rfv_none, Ok_s, tl_some, tl_none, List.nil_append, b2i_n1, b2i_n0, ↓reduceIte, nI_add, pk_mul, pk_sub, n_leT, n_leF, n_ltT, n_ltF, n_eqT, n_eqF, n_shl1, n_shl, n_shr, nI_and, nI_or, nI_xor, b2i_z, b2i_o, m1_n, n_m1, m1_lt, m1_le, n_lm1, n_em1, nI_m1, and1, and3, and7, and15, and63, and255, Bool.true_eq_false, Bool.false_eq_true, reduceCtorEq, Nat.reduceAdd, Nat.reduceMul, Nat.reduceSub, Nat.reduceDiv, Nat.reduceMod, Nat.reducePow, Nat.zero_add, Nat.one_mul, hlv, ec]
  refine Lp (n := l) (σ := Nat) (E := fun j W => ∀ u8, G_X10_bringTogether xs Ln (d + 4) 31 [some (.ref 0), some (.int (nI k)), some (.int (nI (2 ^ x ||| 2 ^ y))), some (.int (nI st)), some (.int (nI W)), some (.int (nI (spx (behA (sa A) (k + 1)) (golA (k + 1) none) l (8 * (2 ^ x ||| 2 ^ y) + st % 8) j))), some (.int (nI l)), some (.int (nI j)), u8] [] (mkW D I L) _) (Inv := fun j W => mvA (sa A) k st x y l j = some W ∧ PE n q W ∧ vSt (sa A) (k + 1) W) ?_ ?_ 0 st (by omega) ⟨rfl, hPE, hvs⟩ none
  · rintro W ⟨j1, j2, j3⟩ u8
    rw [N_X10_bringTogether_31]
    simp (disch := first | omega | exact c1_int _ | exact c1_none | exact c1_ref _ | exact isRf_ref _ | assumption | exact okRb _ | exact okN1 | exact okN0 | exact rfl) only [N_X10_bringTogether_0, N_X10_bringTogether_1, N_X10_bringTogether_3, N_X10_bringTogether_4, N_X10_bringTogether_6, N_X10_bringTogether_7, N_X10_bringTogether_8, N_X10_bringTogether_10, N_X10_bringTogether_11, N_X10_bringTogether_12, N_X10_bringTogether_14, N_X10_bringTogether_15, N_X10_bringTogether_18, N_X10_bringTogether_19, N_X10_bringTogether_20, N_X10_bringTogether_22, N_X10_bringTogether_23, N_X10_bringTogether_26, N_X10_bringTogether_28, N_X10_bringTogether_29, N_X10_bringTogether_33, N_X10_bringTogether_35, N_X10_bringTogether_38, N_X10_bringTogether_39, N_X10_bringTogether_42, N_X10_bringTogether_44, N_X10_bringTogether_46, N_X10_bringTogether_47, N_X10_bringTogether_49, N_X10_bringTogether_51, N_X10_bringTogether_52, N_X10_bringTogether_55, N_X10_bringTogether_57, N_X10_bringTogether_59, N_X10_bringTogether_60, N_X10_bringTogether_63, N_X10_bringTogether_65, N_X10_bringTogether_66, N_X10_bringTogether_67, N_X10_bringTogether_70, N_X10_bringTogether_71, N_X10_bringTogether_72, N_X10_bringTogether_73, N_X10_bringTogether_75, N_X10_bringTogether_77, N_X10_bringTogether_80, N_X10_bringTogether_82, N_X10_bringTogether_83, N_X10_bringTogether_86, N_X10_bringTogether_87, N_X10_bringTogether_88, N_X10_bringTogether_89, N_X10_bringTogether_91, N_X10_bringTogether_93, N_X10_bringTogether_96, N_X10_bringTogether_98, N_X10_bringTogether_101, N_X10_bringTogether_104, N_X10_bringTogether_106, if_true, if_false, ite_true, ite_false, not_false_eq_true, not_true_eq_false, isRf_ref, isRf_null, c1_int, c1_ref, c1_null, c1_none, rfv_some, rfv_none, Ok_s, tl_some, tl_none, List.nil_append, b2i_n1, b2i_n0, ↓reduceIte, nI_add, pk_mul, pk_sub, n_leT, n_leF, n_ltT, n_ltF, n_eqT, n_eqF, n_shl1, n_shl, n_shr, nI_and, nI_or, nI_xor, b2i_z, b2i_o, m1_n, n_m1, m1_lt, m1_le, n_lm1, n_em1, nI_m1, and1, and3, and7, and15, and63, and255, Bool.true_eq_false, Bool.false_eq_true, reduceCtorEq, Nat.reduceAdd, Nat.reduceMul, Nat.reduceSub, Nat.reduceDiv, Nat.reduceMod, Nat.reducePow, Nat.zero_add, Nat.one_mul]
    exact ⟨W, j1, j2, j3, rfl⟩
  · rintro j W hj ⟨j1, j2, j3⟩ ih u8
    obtain ⟨⟨p, q1, q2⟩, w2, w3, w4, w5⟩ := hway j hj
    obtain ⟨s', r1, r2, r3⟩ := p2 j (by omega)
    rw [j1] at r1
    cases r1
    have hVPp := (l8.2.2.1.2 p q1).1
    rw [q2] at hVPp
    generalize hXj : spx (behA (sa A) (k + 1)) (golA (k + 1) none) l (8 * (2 ^ x ||| 2 ^ y) + st % 8) j = X at *
    generalize hXj1 : spx (behA (sa A) (k + 1)) (golA (k + 1) none) l (8 * (2 ^ x ||| 2 ^ y) + st % 8) (j + 1) = X' at *
    have hX := w5.1
    have hW := j3.1
    have hX8 : 8 * (X / 8) + X % 8 = X := by omega
    have hRX := (l7.2 (X % 8) (by omega) hVPp.2).1
    have hfw := c_firstW (xs := xs) (Ln := Ln) (d := d) (L := L) (s := X / 8) (e := X % 8) (Or.inl ⟨rfl, rfl, rfl⟩) hC.2.1 l8 l6 hM (by omega) (by omega) l3 (by omega) (by omega) (by rw [hX8]; exact Or.inr ⟨p, q1, q2⟩) (by rw [hX8]; exact w5) hRX
    rw [hX8, w2, nO_s] at hfw
    have hs1 := c_standR (xs := xs) (Ln := Ln) (d := d + 2) (D := D) (I := I) (L := L) (m := k + 1) (st := X) (wd := wdA (sa A) k (st % 8) x y l j) hM.1 hA (by omega) (by omega) w5 w3 hRX
    rw [w4, nO_s] at hs1
    have hs2 := c_standR (xs := xs) (Ln := Ln) (d := d + 2) (D := D) (I := I) (L := L) (m := k + 1) (st := W) (wd := wdA (sa A) k (st % 8) x y l j) hM.1 hA (by omega) (by omega) j3 w3 (by rw [r2]; exact hRX)
    obtain ⟨W', hW', _⟩ := p2 (j + 1) (by omega)
    have hbW : behA (sa A) (k + 1) W (wdA (sa A) k (st % 8) x y l j) = some W' := by
      have h := hW'
      unfold mvA itb at h
      have h1 := j1
      unfold mvA at h1
      rw [h1] at h
      exact h
    rw [hbW, nO_s] at hs2
    rw [N_X10_bringTogether_31]
    simp (disch := first | omega | exact c1_int _ | exact c1_none | exact c1_ref _ | exact isRf_ref _ | assumption | exact okRb _ | exact okN1 | exact okN0 | exact rfl) only [N_X10_bringTogether_0, N_X10_bringTogether_1, N_X10_bringTogether_3, N_X10_bringTogether_4, N_X10_bringTogether_6, N_X10_bringTogether_7, N_X10_bringTogether_8, N_X10_bringTogether_10, N_X10_bringTogether_11, N_X10_bringTogether_12, N_X10_bringTogether_14, N_X10_bringTogether_15, N_X10_bringTogether_18, N_X10_bringTogether_19, N_X10_bringTogether_20, N_X10_bringTogether_22, N_X10_bringTogether_23, N_X10_bringTogether_26, N_X10_bringTogether_28, N_X10_bringTogether_29, N_X10_bringTogether_33, N_X10_bringTogether_35, N_X10_bringTogether_38, N_X10_bringTogether_39, N_X10_bringTogether_42, N_X10_bringTogether_44, N_X10_bringTogether_46, N_X10_bringTogether_47, N_X10_bringTogether_49, N_X10_bringTogether_51, N_X10_bringTogether_52, N_X10_bringTogether_55, N_X10_bringTogether_57, N_X10_bringTogether_59, N_X10_bringTogether_60, N_X10_bringTogether_63, N_X10_bringTogether_65, N_X10_bringTogether_66, N_X10_bringTogether_67, N_X10_bringTogether_70, N_X10_bringTogether_71, N_X10_bringTogether_72, N_X10_bringTogether_73, N_X10_bringTogether_75, N_X10_bringTogether_77, N_X10_bringTogether_80, N_X10_bringTogether_82, N_X10_bringTogether_83, N_X10_bringTogether_86, N_X10_bringTogether_87, N_X10_bringTogether_88, N_X10_bringTogether_89, N_X10_bringTogether_91, N_X10_bringTogether_93, N_X10_bringTogether_96, N_X10_bringTogether_98, N_X10_bringTogether_101, N_X10_bringTogether_104, N_X10_bringTogether_106, if_true, if_false, ite_true, ite_false, not_false_eq_true, not_true_eq_false, isRf_ref, isRf_null, c1_int, c1_ref, c1_null, c1_none, rfv_some, rfv_none, Ok_s, tl_some, tl_none, List.nil_append, b2i_n1, b2i_n0, ↓reduceIte, nI_add, pk_mul, pk_sub, n_leT, n_leF, n_ltT, n_ltF, n_eqT, n_eqF, n_shl1, n_shl, n_shr, nI_and, nI_or, nI_xor, b2i_z, b2i_o, m1_n, n_m1, m1_lt, m1_le, n_lm1, n_em1, nI_m1, and1, and3, and7, and15, and63, and255, Bool.true_eq_false, Bool.false_eq_true, reduceCtorEq, Nat.reduceAdd, Nat.reduceMul, Nat.reduceSub, Nat.reduceDiv, Nat.reduceMod, Nat.reducePow, Nat.zero_add, Nat.one_mul, hfw, hs1, hs2]
    exact ih W' ⟨hW', PE_st hV hA (by omega) (by omega) j3 j2 w3 hbW, (beh_v hA (by omega) (by omega) j3 hbW).1⟩ _
theorem tog_pc {s : Nat} (h : s < 4096) : (tog 1 s).isSome = decide (pcN s 12 = 1) := by
  have h1 : golA 1 none (8 * s) = decide (pcN s 12 = 1) := by
    rw [golB_s (m := 1) (s := s) (t := none) h (fun q h => by cases h) (8 * s) (by omega)]
    show decide (pcN (all3 1 s) 12 = 1) = _
    unfold all3
    rw [if_neg (by omega)]
  have h2 : golA 1 none (8 * s) = (tog 1 s).isSome := by
    unfold golA
    rw [show 8 * s / 8 = s by omega]
    cases tog 1 s <;> rfl
  rw [← h2, h1]
theorem C_plod {kv set : Int32} {x : Int32} (hx : x = aPlod (sa A) kv set) (h : CI D I A nn) : CCall xs Ln (d + 8) 117 [.ref 0, .int kv, .int set] D I L A nn x := by
  obtain ⟨ow, ky, ln, h⟩ := h
  have hM := h.2.2.2.1
  have hA := hM.2.1
  have hP := hA.1
  have h8 := hA.2.2.2.2.2.2.2.1
  refine semG (lo := [some (.ref 0), some (.int kv), some (.int set), none, none, none, none]) rfl rfl (Nat.le_of_ble_eq_true rfl) rfl (show G_X10_plod xs Ln _ 0 [some (.ref 0), some (.int kv), some (.int set), none, none, none, none] [] _ _ from ?_)
  unfold aPlod at hx
  have no : x = m1 → ∃ D' I' L', ((mkW D I L, some (.int m1)) : Res) = (mkW D' I' L', some (.int x)) ∧ CI D' I' A (nn + 1) ∧ CFr I I' := fun e => ⟨D, I, L, by rw [e], ⟨ow, ky, ln, h.up⟩, CFr.rf I⟩
  cases h1 : inN kv (nI 2)
  · rw [h1, Bool.false_and, Bool.false_and, if_neg (by decide)] at hx
    simp (disch := first | omega | exact c1_int _ | exact c1_none | exact c1_ref _ | exact isRf_ref _ | assumption | exact okRb _ | exact okN1 | exact okN0 | exact rfl) only [N_X10_plod_0, N_X10_plod_1, N_X10_plod_4, N_X10_plod_7, N_X10_plod_8, N_X10_plod_9, N_X10_plod_10, N_X10_plod_13, N_X10_plod_16, N_X10_plod_17, N_X10_plod_20, N_X10_plod_21, N_X10_plod_22, N_X10_plod_23, N_X10_plod_24, N_X10_plod_27, N_X10_plod_28, N_X10_plod_29, N_X10_plod_32, N_X10_plod_33, N_X10_plod_34, N_X10_plod_36, N_X10_plod_37, N_X10_plod_41, N_X10_plod_43, N_X10_plod_46, N_X10_plod_47, N_X10_plod_49, N_X10_plod_50, N_X10_plod_53, N_X10_plod_54, N_X10_plod_57, N_X10_plod_58, N_X10_plod_59, N_X10_plod_62, N_X10_plod_64, N_X10_plod_66, N_X10_plod_67, N_X10_plod_70, N_X10_plod_71, N_X10_plod_72, N_X10_plod_74, N_X10_plod_75, N_X10_plod_78, N_X10_plod_80, N_X10_plod_81, N_X10_plod_83, N_X10_plod_84, N_X10_plod_87, N_X10_plod_88, N_X10_plod_90, N_X10_plod_91, N_X10_plod_92, N_X10_plod_94, N_X10_plod_95, N_X10_plod_98, N_X10_plod_99, N_X10_plod_102, N_X10_plod_105, N_X10_plod_107, if_true, if_false, ite_true, ite_false, not_false_eq_true, not_true_eq_false, isRf_ref, isRf_null, c1_int, c1_ref, c1_null, c1_none, rfv_some, rfv_none, Ok_s, tl_some, tl_none, List.nil_append, b2i_n1, b2i_n0, ↓reduceIte, nI_add, pk_mul, pk_sub, n_leT, n_leF, n_ltT, n_ltF, n_eqT, n_eqF, n_shl1, n_shl, n_shr, nI_and, nI_or, nI_xor, b2i_z, b2i_o, m1_n, n_m1, m1_lt, m1_le, n_lm1, n_em1, nI_m1, and1, and3, and7, and15, and63, and255, Bool.true_eq_false, Bool.false_eq_true, reduceCtorEq, Nat.reduceAdd, Nat.reduceMul, Nat.reduceSub, Nat.reduceDiv, Nat.reduceMod, Nat.reducePow, Nat.zero_add, Nat.one_mul, c_isKN, h1]
    exact no hx
  · cases h2 : okSI (sa A 4320) (nI 1) set
    · rw [h2, Bool.and_false, Bool.false_and, if_neg (by decide)] at hx
      simp (disch := first | omega | exact c1_int _ | exact c1_none | exact c1_ref _ | exact isRf_ref _ | assumption | exact okRb _ | exact okN1 | exact okN0 | exact rfl) only [N_X10_plod_0, N_X10_plod_1, N_X10_plod_4, N_X10_plod_7, N_X10_plod_8, N_X10_plod_9, N_X10_plod_10, N_X10_plod_13, N_X10_plod_16, N_X10_plod_17, N_X10_plod_20, N_X10_plod_21, N_X10_plod_22, N_X10_plod_23, N_X10_plod_24, N_X10_plod_27, N_X10_plod_28, N_X10_plod_29, N_X10_plod_32, N_X10_plod_33, N_X10_plod_34, N_X10_plod_36, N_X10_plod_37, N_X10_plod_41, N_X10_plod_43, N_X10_plod_46, N_X10_plod_47, N_X10_plod_49, N_X10_plod_50, N_X10_plod_53, N_X10_plod_54, N_X10_plod_57, N_X10_plod_58, N_X10_plod_59, N_X10_plod_62, N_X10_plod_64, N_X10_plod_66, N_X10_plod_67, N_X10_plod_70, N_X10_plod_71, N_X10_plod_72, N_X10_plod_74, N_X10_plod_75, N_X10_plod_78, N_X10_plod_80, N_X10_plod_81, N_X10_plod_83, N_X10_plod_84, N_X10_plod_87, N_X10_plod_88, N_X10_plod_90, N_X10_plod_91, N_X10_plod_92, N_X10_plod_94, N_X10_plod_95, N_X10_plod_98, N_X10_plod_99, N_X10_plod_102, N_X10_plod_105, N_X10_plod_107, if_true, if_false, ite_true, ite_false, not_false_eq_true, not_true_eq_false, isRf_ref, isRf_null, c1_int, c1_ref, c1_null, c1_none, rfv_some, rfv_none, Ok_s, tl_some, tl_none, List.nil_append, b2i_n1, b2i_n0, ↓reduceIte, nI_add, pk_mul, pk_sub, n_leT, n_leF, n_ltT, n_ltF, n_eqT, n_eqF, n_shl1, n_shl, n_shr, nI_and, nI_or, nI_xor, b2i_z, b2i_o, m1_n, n_m1, m1_lt, m1_le, n_lm1, n_em1, nI_m1, and1, and3, and7, and15, and63, and255, Bool.true_eq_false, Bool.false_eq_true, reduceCtorEq, Nat.reduceAdd, Nat.reduceMul, Nat.reduceSub, Nat.reduceDiv, Nat.reduceMod, Nat.reducePow, Nat.zero_add, Nat.one_mul, c_isKN, h1, c_isSetOf hM.1 hA, h2]
      exact no hx
    · obtain ⟨s, hs4, rfl, hS⟩ := okSI_1 h2
      obtain ⟨k, hk, rfl⟩ := inN_t (by decide) h1
      by_cases h0 : s = 0
      · subst h0
        rw [decide_eq_true rfl, Bool.not_true, Bool.and_false, if_neg (by decide)] at hx
        simp (disch := first | omega | exact c1_int _ | exact c1_none | exact c1_ref _ | exact isRf_ref _ | assumption | exact okRb _ | exact okN1 | exact okN0 | exact rfl) only [N_X10_plod_0, N_X10_plod_1, N_X10_plod_4, N_X10_plod_7, N_X10_plod_8, N_X10_plod_9, N_X10_plod_10, N_X10_plod_13, N_X10_plod_16, N_X10_plod_17, N_X10_plod_20, N_X10_plod_21, N_X10_plod_22, N_X10_plod_23, N_X10_plod_24, N_X10_plod_27, N_X10_plod_28, N_X10_plod_29, N_X10_plod_32, N_X10_plod_33, N_X10_plod_34, N_X10_plod_36, N_X10_plod_37, N_X10_plod_41, N_X10_plod_43, N_X10_plod_46, N_X10_plod_47, N_X10_plod_49, N_X10_plod_50, N_X10_plod_53, N_X10_plod_54, N_X10_plod_57, N_X10_plod_58, N_X10_plod_59, N_X10_plod_62, N_X10_plod_64, N_X10_plod_66, N_X10_plod_67, N_X10_plod_70, N_X10_plod_71, N_X10_plod_72, N_X10_plod_74, N_X10_plod_75, N_X10_plod_78, N_X10_plod_80, N_X10_plod_81, N_X10_plod_83, N_X10_plod_84, N_X10_plod_87, N_X10_plod_88, N_X10_plod_90, N_X10_plod_91, N_X10_plod_92, N_X10_plod_94, N_X10_plod_95, N_X10_plod_98, N_X10_plod_99, N_X10_plod_102, N_X10_plod_105, N_X10_plod_107, if_true, if_false, ite_true, ite_false, not_false_eq_true, not_true_eq_false, isRf_ref, isRf_null, c1_int, c1_ref, c1_null, c1_none, rfv_some, rfv_none, Ok_s, tl_some, tl_none, List.nil_append, b2i_n1, b2i_n0, ↓reduceIte, nI_add, pk_mul, pk_sub, n_leT, n_leF, n_ltT, n_ltF, n_eqT, n_eqF, n_shl1, n_shl, n_shr, nI_and, nI_or, nI_xor, b2i_z, b2i_o, m1_n, n_m1, m1_lt, m1_le, n_lm1, n_em1, nI_m1, and1, and3, and7, and15, and63, and255, Bool.true_eq_false, Bool.false_eq_true, reduceCtorEq, Nat.reduceAdd, Nat.reduceMul, Nat.reduceSub, Nat.reduceDiv, Nat.reduceMod, Nat.reducePow, Nat.zero_add, Nat.one_mul, c_isKN, h1, c_isSetOf hM.1 hA, h2]
        exact no hx
      · have hne : decide (nI s = nI 0) = false := decide_eq_false (nl_ne h0 (by omega) (by decide))
        have hst : stA (sa A) (nI s) = 8 * s + sa A 4327 := by unfold stA; rw [n_cl (by omega)]
        rw [h1, h2, hne, if_pos (by decide), n_cl (by omega), hst] at hx
        simp (disch := first | omega | exact c1_int _ | exact c1_none | exact c1_ref _ | exact isRf_ref _ | assumption | exact okRb _ | exact okN1 | exact okN0 | exact rfl) only [N_X10_plod_0, N_X10_plod_1, N_X10_plod_4, N_X10_plod_7, N_X10_plod_8, N_X10_plod_9, N_X10_plod_10, N_X10_plod_13, N_X10_plod_16, N_X10_plod_17, N_X10_plod_20, N_X10_plod_21, N_X10_plod_22, N_X10_plod_23, N_X10_plod_24, N_X10_plod_27, N_X10_plod_28, N_X10_plod_29, N_X10_plod_32, N_X10_plod_33, N_X10_plod_34, N_X10_plod_36, N_X10_plod_37, N_X10_plod_41, N_X10_plod_43, N_X10_plod_46, N_X10_plod_47, N_X10_plod_49, N_X10_plod_50, N_X10_plod_53, N_X10_plod_54, N_X10_plod_57, N_X10_plod_58, N_X10_plod_59, N_X10_plod_62, N_X10_plod_64, N_X10_plod_66, N_X10_plod_67, N_X10_plod_70, N_X10_plod_71, N_X10_plod_72, N_X10_plod_74, N_X10_plod_75, N_X10_plod_78, N_X10_plod_80, N_X10_plod_81, N_X10_plod_83, N_X10_plod_84, N_X10_plod_87, N_X10_plod_88, N_X10_plod_90, N_X10_plod_91, N_X10_plod_92, N_X10_plod_94, N_X10_plod_95, N_X10_plod_98, N_X10_plod_99, N_X10_plod_102, N_X10_plod_105, N_X10_plod_107, if_true, if_false, ite_true, ite_false, not_false_eq_true, not_true_eq_false, isRf_ref, isRf_null, c1_int, c1_ref, c1_null, c1_none, rfv_some, rfv_none, Ok_s, tl_some, tl_none, List.nil_append, b2i_n1, b2i_n0, ↓reduceIte, nI_add, pk_mul, pk_sub, n_leT, n_leF, n_ltT, n_ltF, n_eqT, n_eqF, n_shl1, n_shl, n_shr, nI_and, nI_or, nI_xor, b2i_z, b2i_o, m1_n, n_m1, m1_lt, m1_le, n_lm1, n_em1, nI_m1, and1, and3, and7, and15, and63, and255, Bool.true_eq_false, Bool.false_eq_true, reduceCtorEq, Nat.reduceAdd, Nat.reduceMul, Nat.reduceSub, Nat.reduceDiv, Nat.reduceMod, Nat.reducePow, Nat.zero_add, Nat.one_mul, c_isKN, h1, c_isSetOf hM.1 hA, h2]
        refine Ok.mono (c_findPr (d := d) h hk) ?_
        rintro _ ⟨D', I', L', ow', ky', ln', rfl, hC, hF, sg, S, n, q, lev, hV⟩
        have hSk : okS (sa A 4320) (k + 1) s = true := by rw [okS_k hk]; exact hS
        have hvs := vS_of (m := k + 1) hA hs4 hSk
        have hPE : PE n q (8 * s + sa A 4327) := by
          intro u v huv _ tv
          rw [show (8 * s + sa A 4327) / 8 = s by omega] at tv
          have bv := okS_bit hSk hs4 tv
          rw [if_neg (by omega)] at bv
          rw [show (8 * s + sa A 4327) % 8 = sa A 4327 by omega]
          exact hV.2.2 u v huv bv
        simp (disch := first | omega | exact c1_int _ | exact c1_none | exact c1_ref _ | exact isRf_ref _ | assumption | exact okRb _ | exact okN1 | exact okN0 | exact rfl) only [N_X10_plod_0, N_X10_plod_1, N_X10_plod_4, N_X10_plod_7, N_X10_plod_8, N_X10_plod_9, N_X10_plod_10, N_X10_plod_13, N_X10_plod_16, N_X10_plod_17, N_X10_plod_20, N_X10_plod_21, N_X10_plod_22, N_X10_plod_23, N_X10_plod_24, N_X10_plod_27, N_X10_plod_28, N_X10_plod_29, N_X10_plod_32, N_X10_plod_33, N_X10_plod_34, N_X10_plod_36, N_X10_plod_37, N_X10_plod_41, N_X10_plod_43, N_X10_plod_46, N_X10_plod_47, N_X10_plod_49, N_X10_plod_50, N_X10_plod_53, N_X10_plod_54, N_X10_plod_57, N_X10_plod_58, N_X10_plod_59, N_X10_plod_62, N_X10_plod_64, N_X10_plod_66, N_X10_plod_67, N_X10_plod_70, N_X10_plod_71, N_X10_plod_72, N_X10_plod_74, N_X10_plod_75, N_X10_plod_78, N_X10_plod_80, N_X10_plod_81, N_X10_plod_83, N_X10_plod_84, N_X10_plod_87, N_X10_plod_88, N_X10_plod_90, N_X10_plod_91, N_X10_plod_92, N_X10_plod_94, N_X10_plod_95, N_X10_plod_98, N_X10_plod_99, N_X10_plod_102, N_X10_plod_105, N_X10_plod_107, if_true, if_false, ite_true, ite_false, not_false_eq_true, not_true_eq_false, isRf_ref, isRf_null, c1_int, c1_ref, c1_null, c1_none, rfv_some, rfv_none, Ok_s, tl_some, tl_none, List.nil_append, b2i_n1, b2i_n0, ↓reduceIte, nI_add, pk_mul, pk_sub, n_leT, n_leF, n_ltT, n_ltF, n_eqT, n_eqF, n_shl1, n_shl, n_shr, nI_and, nI_or, nI_xor, b2i_z, b2i_o, m1_n, n_m1, m1_lt, m1_le, n_lm1, n_em1, nI_m1, and1, and3, and7, and15, and63, and255, Bool.true_eq_false, Bool.false_eq_true, reduceCtorEq, Nat.reduceAdd, Nat.reduceMul, Nat.reduceSub, Nat.reduceDiv, Nat.reduceMod, Nat.reducePow, Nat.zero_add, Nat.one_mul, c_standOfN hC.2.2.2.1.1]
        have main : ∀ f i st tot u6, f + i = 12 → pcB (st / 8) ≤ f → tot + 32769 * f ≤ 32769 * 12 → st / 8 ≠ 0 → vSt (sa A) (k + 1) st → PE n q st → x = nO (plA (sa A) k f st tot) → G_X10_plod xs Ln (d + 7) 39 [some (.ref 0), some (.int (nI k)), some (.int (nI s)), some (.int (nI st)), some (.int (nI tot)), some (.int (nI i)), u6] [] (mkW D' I' L') (fun r => ∃ D'' I'' L'', r = (mkW D'' I'' L'', some (.int x)) ∧ CI D'' I'' A (nn + 1) ∧ CFr I I'') := by
          intro f
          induction f with
          | zero =>
            intro i st tot u6 hfi hpc htot hst0 hv hpe heq
            exact absurd (pcB_0 (by have := hv.1; omega) hpc) hst0
          | succ f ih =>
            intro i st tot u6 hfi hpc htot hst0 hv hpe heq
            have hst1 := hv.1
            have hs12 : st / 8 < 4096 := by omega
            have hn0 : pcN (st / 8) 12 ≠ 0 := by rw [Ne, pc_0 hs12]; exact hst0
            have hpc12 := pcN12_lt (st / 8)
            have hpl : plA (sa A) k (f + 1) st tot = if (tog 1 (st / 8)).isSome = true then some tot else (match soonA (sa A) k st with
              | none => none
              | some q => match mvA (sa A) k st q.1 q.2.1 q.2.2 q.2.2 with
                | none => none
                | some st' => plA (sa A) k f st' (tot + q.2.2)) := rfl
            rw [hpl, tog_pc hs12] at heq
            rw [N_X10_plod_39]
            by_cases hp1 : pcN (st / 8) 12 = 1
            · rw [decide_eq_true hp1, if_pos rfl] at heq
              simp (disch := first | omega | exact c1_int _ | exact c1_none | exact c1_ref _ | exact isRf_ref _ | assumption | exact okRb _ | exact okN1 | exact okN0 | exact rfl) only [N_X10_plod_0, N_X10_plod_1, N_X10_plod_4, N_X10_plod_7, N_X10_plod_8, N_X10_plod_9, N_X10_plod_10, N_X10_plod_13, N_X10_plod_16, N_X10_plod_17, N_X10_plod_20, N_X10_plod_21, N_X10_plod_22, N_X10_plod_23, N_X10_plod_24, N_X10_plod_27, N_X10_plod_28, N_X10_plod_29, N_X10_plod_32, N_X10_plod_33, N_X10_plod_34, N_X10_plod_36, N_X10_plod_37, N_X10_plod_41, N_X10_plod_43, N_X10_plod_46, N_X10_plod_47, N_X10_plod_49, N_X10_plod_50, N_X10_plod_53, N_X10_plod_54, N_X10_plod_57, N_X10_plod_58, N_X10_plod_59, N_X10_plod_62, N_X10_plod_64, N_X10_plod_66, N_X10_plod_67, N_X10_plod_70, N_X10_plod_71, N_X10_plod_72, N_X10_plod_74, N_X10_plod_75, N_X10_plod_78, N_X10_plod_80, N_X10_plod_81, N_X10_plod_83, N_X10_plod_84, N_X10_plod_87, N_X10_plod_88, N_X10_plod_90, N_X10_plod_91, N_X10_plod_92, N_X10_plod_94, N_X10_plod_95, N_X10_plod_98, N_X10_plod_99, N_X10_plod_102, N_X10_plod_105, N_X10_plod_107, if_true, if_false, ite_true, ite_false, not_false_eq_true, not_true_eq_false, isRf_ref, isRf_null, c1_int, c1_ref, c1_null, c1_none, rfv_some, rfv_none, Ok_s, tl_some, tl_none, List.nil_append, b2i_n1, b2i_n0, ↓reduceIte, nI_add, pk_mul, pk_sub, n_leT, n_leF, n_ltT, n_ltF, n_eqT, n_eqF, n_shl1, n_shl, n_shr, nI_and, nI_or, nI_xor, b2i_z, b2i_o, m1_n, n_m1, m1_lt, m1_le, n_lm1, n_em1, nI_m1, and1, and3, and7, and15, and63, and255, Bool.true_eq_false, Bool.false_eq_true, reduceCtorEq, Nat.reduceAdd, Nat.reduceMul, Nat.reduceSub, Nat.reduceDiv, Nat.reduceMod, Nat.reducePow, Nat.zero_add, Nat.one_mul, c_bc, bc_n hs12, hp1]
              exact ⟨D', I', L', by rw [heq]; rfl, ⟨ow', ky', ln', hC.up⟩, hF⟩
            · rw [decide_eq_false hp1, if_neg (by simp)] at heq
              have hsn := c_soonest (xs := xs) (Ln := Ln) (d := d + 4) (L := L') hC hV hk hv hpe
              cases hso : soonA (sa A) k st with
              | none =>
                rw [hso] at heq hsn
                have em : (m1 = m1) = True := eq_true rfl
                have e1 : nO (twO none) = m1 := rfl
                rw [e1] at hsn
                simp (disch := first | omega | exact c1_int _ | exact c1_none | exact c1_ref _ | exact isRf_ref _ | assumption | exact okRb _ | exact okN1 | exact okN0 | exact rfl) only [N_X10_plod_0, N_X10_plod_1, N_X10_plod_4, N_X10_plod_7, N_X10_plod_8, N_X10_plod_9, N_X10_plod_10, N_X10_plod_13, N_X10_plod_16, N_X10_plod_17, N_X10_plod_20, N_X10_plod_21, N_X10_plod_22, N_X10_plod_23, N_X10_plod_24, N_X10_plod_27, N_X10_plod_28, N_X10_plod_29, N_X10_plod_32, N_X10_plod_33, N_X10_plod_34, N_X10_plod_36, N_X10_plod_37, N_X10_plod_41, N_X10_plod_43, N_X10_plod_46, N_X10_plod_47, N_X10_plod_49, N_X10_plod_50, N_X10_plod_53, N_X10_plod_54, N_X10_plod_57, N_X10_plod_58, N_X10_plod_59, N_X10_plod_62, N_X10_plod_64, N_X10_plod_66, N_X10_plod_67, N_X10_plod_70, N_X10_plod_71, N_X10_plod_72, N_X10_plod_74, N_X10_plod_75, N_X10_plod_78, N_X10_plod_80, N_X10_plod_81, N_X10_plod_83, N_X10_plod_84, N_X10_plod_87, N_X10_plod_88, N_X10_plod_90, N_X10_plod_91, N_X10_plod_92, N_X10_plod_94, N_X10_plod_95, N_X10_plod_98, N_X10_plod_99, N_X10_plod_102, N_X10_plod_105, N_X10_plod_107, if_true, if_false, ite_true, ite_false, not_false_eq_true, not_true_eq_false, isRf_ref, isRf_null, c1_int, c1_ref, c1_null, c1_none, rfv_some, rfv_none, Ok_s, tl_some, tl_none, List.nil_append, b2i_n1, b2i_n0, ↓reduceIte, nI_add, pk_mul, pk_sub, n_leT, n_leF, n_ltT, n_ltF, n_eqT, n_eqF, n_shl1, n_shl, n_shr, nI_and, nI_or, nI_xor, b2i_z, b2i_o, m1_n, n_m1, m1_lt, m1_le, n_lm1, n_em1, nI_m1, and1, and3, and7, and15, and63, and255, Bool.true_eq_false, Bool.false_eq_true, reduceCtorEq, Nat.reduceAdd, Nat.reduceMul, Nat.reduceSub, Nat.reduceDiv, Nat.reduceMod, Nat.reducePow, Nat.zero_add, Nat.one_mul, c_bc, bc_n hs12, hsn, em]
                exact ⟨D', I', L', by rw [heq]; rfl, ⟨ow', ky', ln', hC.up⟩, hF⟩
              | some z =>
                obtain ⟨px, py, l⟩ := z
                obtain ⟨p1, p2, ⟨sl, p3a, p3b⟩, p4, p5, p6⟩ := pl_step hA hk hv hso
                obtain ⟨_, _, hbx, hby, _⟩ := spX_ok (g := prN (sa A) k (st % 8)) (s := st / 8) (P := sa A 4320) (sa A 4320) none (Nat.le_refl _) (fun x y v e => by cases e) px py l hso
                have hpx : px < sa A 4320 := by omega
                have hl := prN_lt2 hA hk hpx p5 (by omega) p6
                obtain ⟨t1, t2, t3⟩ := two_v (m := k + 1) (S := fun _ => true) hA (by omega) (by omega) hpx p5 (show st % 8 < 8 by omega) rfl
                have hlv := c_lvTwo (xs := xs) (Ln := Ln) (d := d + 5) (L := L') hA hC.2.1 hV hk hpx p5 (show st % 8 < 8 by omega) (hpe px py p4 hbx hby) p6
                rw [hso] at heq hsn
                have e1 : nO (twO (some (px, py, l))) = nI (2 ^ px ||| 2 ^ py) := rfl
                rw [e1] at hsn
                simp (disch := first | omega | exact c1_int _ | exact c1_none | exact c1_ref _ | exact isRf_ref _ | assumption | exact okRb _ | exact okN1 | exact okN0 | exact rfl) only [N_X10_plod_0, N_X10_plod_1, N_X10_plod_4, N_X10_plod_7, N_X10_plod_8, N_X10_plod_9, N_X10_plod_10, N_X10_plod_13, N_X10_plod_16, N_X10_plod_17, N_X10_plod_20, N_X10_plod_21, N_X10_plod_22, N_X10_plod_23, N_X10_plod_24, N_X10_plod_27, N_X10_plod_28, N_X10_plod_29, N_X10_plod_32, N_X10_plod_33, N_X10_plod_34, N_X10_plod_36, N_X10_plod_37, N_X10_plod_41, N_X10_plod_43, N_X10_plod_46, N_X10_plod_47, N_X10_plod_49, N_X10_plod_50, N_X10_plod_53, N_X10_plod_54, N_X10_plod_57, N_X10_plod_58, N_X10_plod_59, N_X10_plod_62, N_X10_plod_64, N_X10_plod_66, N_X10_plod_67, N_X10_plod_70, N_X10_plod_71, N_X10_plod_72, N_X10_plod_74, N_X10_plod_75, N_X10_plod_78, N_X10_plod_80, N_X10_plod_81, N_X10_plod_83, N_X10_plod_84, N_X10_plod_87, N_X10_plod_88, N_X10_plod_90, N_X10_plod_91, N_X10_plod_92, N_X10_plod_94, N_X10_plod_95, N_X10_plod_98, N_X10_plod_99, N_X10_plod_102, N_X10_plod_105, N_X10_plod_107, if_true, if_false, ite_true, ite_false, not_false_eq_true, not_true_eq_false, isRf_ref, isRf_null, c1_int, c1_ref, c1_null, c1_none, rfv_some, rfv_none, Ok_s, tl_some, tl_none, List.nil_append, b2i_n1, b2i_n0, ↓reduceIte, nI_add, pk_mul, pk_sub, n_leT, n_leF, n_ltT, n_ltF, n_eqT, n_eqF, n_shl1, n_shl, n_shr, nI_and, nI_or, nI_xor, b2i_z, b2i_o, m1_n, n_m1, m1_lt, m1_le, n_lm1, n_em1, nI_m1, and1, and3, and7, and15, and63, and255, Bool.true_eq_false, Bool.false_eq_true, reduceCtorEq, Nat.reduceAdd, Nat.reduceMul, Nat.reduceSub, Nat.reduceDiv, Nat.reduceMod, Nat.reducePow, Nat.zero_add, Nat.one_mul, c_bc, bc_n hs12, hsn, hlv]
                refine Ok.mono (c_bring (d := d + 2) hC hV hk hv hpe hso) ?_
                rintro _ ⟨st', b1, b2, b3, rfl⟩
                have hsl : sl = st' := by rw [b1] at p3a; exact (Option.some.inj p3a).symm
                rw [hsl] at p3b
                dsimp only at heq
                rw [b1] at heq
                dsimp only at heq
                simp (disch := first | omega | exact c1_int _ | exact c1_none | exact c1_ref _ | exact isRf_ref _ | assumption | exact okRb _ | exact okN1 | exact okN0 | exact rfl) only [N_X10_plod_0, N_X10_plod_1, N_X10_plod_4, N_X10_plod_7, N_X10_plod_8, N_X10_plod_9, N_X10_plod_10, N_X10_plod_13, N_X10_plod_16, N_X10_plod_17, N_X10_plod_20, N_X10_plod_21, N_X10_plod_22, N_X10_plod_23, N_X10_plod_24, N_X10_plod_27, N_X10_plod_28, N_X10_plod_29, N_X10_plod_32, N_X10_plod_33, N_X10_plod_34, N_X10_plod_36, N_X10_plod_37, N_X10_plod_41, N_X10_plod_43, N_X10_plod_46, N_X10_plod_47, N_X10_plod_49, N_X10_plod_50, N_X10_plod_53, N_X10_plod_54, N_X10_plod_57, N_X10_plod_58, N_X10_plod_59, N_X10_plod_62, N_X10_plod_64, N_X10_plod_66, N_X10_plod_67, N_X10_plod_70, N_X10_plod_71, N_X10_plod_72, N_X10_plod_74, N_X10_plod_75, N_X10_plod_78, N_X10_plod_80, N_X10_plod_81, N_X10_plod_83, N_X10_plod_84, N_X10_plod_87, N_X10_plod_88, N_X10_plod_90, N_X10_plod_91, N_X10_plod_92, N_X10_plod_94, N_X10_plod_95, N_X10_plod_98, N_X10_plod_99, N_X10_plod_102, N_X10_plod_105, N_X10_plod_107, if_true, if_false, ite_true, ite_false, not_false_eq_true, not_true_eq_false, isRf_ref, isRf_null, c1_int, c1_ref, c1_null, c1_none, rfv_some, rfv_none, Ok_s, tl_some, tl_none, List.nil_append, b2i_n1, b2i_n0, ↓reduceIte, nI_add, pk_mul, pk_sub, n_leT, n_leF, n_ltT, n_ltF, n_eqT, n_eqF, n_shl1, n_shl, n_shr, nI_and, nI_or, nI_xor, b2i_z, b2i_o, m1_n, n_m1, m1_lt, m1_le, n_lm1, n_em1, nI_m1, and1, and3, and7, and15, and63, and255, Bool.true_eq_false, Bool.false_eq_true, reduceCtorEq, Nat.reduceAdd, Nat.reduceMul, Nat.reduceSub, Nat.reduceDiv, Nat.reduceMod, Nat.reducePow, Nat.zero_add, Nat.one_mul]
                refine ih (i + 1) st' (tot + l) _ (by omega) (by omega) (by omega) ?_ b3 b2 heq
                intro hz
                have hm0 : ∀ j sj, mvA (sa A) k st px py l j = some sj → vSt (sa A) (k + 1) sj ∧ sj / 8 ≠ 0 := by
                  intro j
                  induction j with
                  | zero => intro sj hj; cases hj; exact ⟨hv, hst0⟩
                  | succ j ihj =>
                    intro sj hj
                    unfold mvA itb at hj
                    split at hj
                    · cases hj
                    · rename_i s1 hs1
                      obtain ⟨v1, v2⟩ := ihj s1 hs1
                      exact ⟨(beh_v hA (by omega) (by omega) v1 hj).1, beh_ne2 hA (by omega) (by omega) v1 v2 hj⟩
                exact (hm0 l st' b1).2 hz
        refine main 12 0 (8 * s + sa A 4327) 0 none rfl (cntB_le _ _) (by omega) (by omega) hvs hPE hx
end Pe5
