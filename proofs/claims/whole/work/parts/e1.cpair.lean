section Pe1
variable {xs : Nat → Int32} {Ln d : Nat} {D D' D'' : Dyn} {I I' I'' : Nat → Nat → Int32} {L : Nat → Nat → Int64} {w : Om} {Q : Res → Prop} {ow ow' ow'' ky ky' ky'' ln ln' ln'' a a' : Nat → Nat} {o be sr : Nat} {A : As} {nn : Nat}
theorem pc_one : ∀ x, x < 12 → pcN (2 ^ x) 12 = 1 := by decide +kernel
theorem PrV.lv {m e n x y : Nat} {sg q lev : Nat → Nat} {S : Nat → Bool} (h : PrV I ky ln a m e sg S n q lev) (hA : AW a) (hx : x < a 4320) (hy : y < a 4320) : kwn n q (8 * (2 ^ x ||| 2 ^ y) + e) ∧ glv (behA a m) sg 1 (8 * (2 ^ x ||| 2 ^ y) + e) = prN a (m - 1) e x y := by
  obtain ⟨⟨h1, h2, h3, h4, h5, h6, h7, h8⟩, hs, hent⟩ := h
  have hP := hA.1
  obtain ⟨t1, t2, t3⟩ := two_v (m := m) hA h1 h2 hx hy h5 h7.1
  have e8 : (8 * (2 ^ x ||| 2 ^ y) + e) / 8 = 2 ^ x ||| 2 ^ y := by omega
  refine ⟨?_, ?_⟩
  · by_cases exy : x = y
    · subst exy
      refine Or.inl ?_
      rw [e8, Nat.or_self]
      exact pc_one x (by omega)
    · refine Or.inr ?_
      by_cases hlt : x < y
      · exact hent x y hlt hy
      · rw [Nat.or_comm]
        exact hent y x (by omega) hx
  · rw [glv_few hA h1 h2 hs t1.1 (by rw [e8]; exact t3)]
    unfold prN
    rw [show m - 1 + 1 = m by omega]
theorem C_pair {kv xv yv : Int32} {x : Int32} (hx : x = aPair (sa A) kv xv yv) (h : CI D I A nn) : CCall xs Ln (d + 8) 113 [.ref 0, .int kv, .int xv, .int yv] D I L A nn x := by
  obtain ⟨ow, ky, ln, h⟩ := h
  have hM := h.2.2.2.1
  have hA := hM.2.1
  have g0 : I 1 0 = nI (sa A 4320) := hM.1.m.1
  have hP := hA.1
  have h8 := hA.2.2.2.2.2.2.2.1
  refine semG (lo := [some (.ref 0), some (.int kv), some (.int xv), some (.int yv)]) rfl rfl (Nat.le_of_ble_eq_true rfl) rfl (show G_X10_pair xs Ln _ 0 [some (.ref 0), some (.int kv), some (.int xv), some (.int yv)] [] _ _ from ?_)
  unfold aPair at hx
  have no : x = m1 → ∃ D' I' L', ((mkW D I L, some (.int m1)) : Res) = (mkW D' I' L', some (.int x)) ∧ CI D' I' A (nn + 1) ∧ CFr I I' := fun e => ⟨D, I, L, by rw [e], ⟨ow, ky, ln, h.up⟩, CFr.rf I⟩
  cases h1 : inN kv (nI 2)
  · rw [h1, Bool.false_and, Bool.false_and, if_neg (by decide)] at hx
    simp (disch := first | omega | exact c1_int _ | exact c1_none | exact c1_ref _ | exact isRf_ref _ | assumption | exact okRb _ | exact okN1 | exact okN0 | exact rfl) only [N_X10_pair_0, N_X10_pair_1, N_X10_pair_4, N_X10_pair_7, N_X10_pair_8, N_X10_pair_11, N_X10_pair_12, N_X10_pair_15, N_X10_pair_18, N_X10_pair_19, N_X10_pair_22, N_X10_pair_23, N_X10_pair_26, N_X10_pair_29, N_X10_pair_30, N_X10_pair_31, N_X10_pair_32, N_X10_pair_33, N_X10_pair_36, N_X10_pair_37, N_X10_pair_40, N_X10_pair_41, N_X10_pair_42, N_X10_pair_43, N_X10_pair_44, N_X10_pair_45, N_X10_pair_46, N_X10_pair_47, N_X10_pair_48, N_X10_pair_51, N_X10_pair_54, N_X10_pair_57, if_true, if_false, ite_true, ite_false, not_false_eq_true, not_true_eq_false, isRf_ref, isRf_null, c1_int, c1_ref, c1_null, c1_none, rfv_some, rfv_none, Ok_s, tl_some, tl_none, List.nil_append, b2i_n1, b2i_n0, ↓reduceIte, nI_add, pk_mul, pk_sub, n_leT, n_leF, n_ltT, n_ltF, n_eqT, n_eqF, n_shl1, n_shl, n_shr, nI_and, nI_or, nI_xor, b2i_z, b2i_o, m1_n, n_m1, m1_lt, m1_le, n_lm1, n_em1, nI_m1, and1, and3, and7, and15, and63, and255, Bool.true_eq_false, Bool.false_eq_true, reduceCtorEq, Nat.reduceAdd, Nat.reduceMul, Nat.reduceSub, Nat.reduceDiv, Nat.reduceMod, Nat.reducePow, Nat.zero_add, Nat.one_mul, c_isKN, h1]
    exact no hx
  · cases h2 : inN xv (nI (sa A 4320))
    · rw [h2, Bool.and_false, Bool.false_and, if_neg (by decide)] at hx
      simp (disch := first | omega | exact c1_int _ | exact c1_none | exact c1_ref _ | exact isRf_ref _ | assumption | exact okRb _ | exact okN1 | exact okN0 | exact rfl) only [N_X10_pair_0, N_X10_pair_1, N_X10_pair_4, N_X10_pair_7, N_X10_pair_8, N_X10_pair_11, N_X10_pair_12, N_X10_pair_15, N_X10_pair_18, N_X10_pair_19, N_X10_pair_22, N_X10_pair_23, N_X10_pair_26, N_X10_pair_29, N_X10_pair_30, N_X10_pair_31, N_X10_pair_32, N_X10_pair_33, N_X10_pair_36, N_X10_pair_37, N_X10_pair_40, N_X10_pair_41, N_X10_pair_42, N_X10_pair_43, N_X10_pair_44, N_X10_pair_45, N_X10_pair_46, N_X10_pair_47, N_X10_pair_48, N_X10_pair_51, N_X10_pair_54, N_X10_pair_57, if_true, if_false, ite_true, ite_false, not_false_eq_true, not_true_eq_false, isRf_ref, isRf_null, c1_int, c1_ref, c1_null, c1_none, rfv_some, rfv_none, Ok_s, tl_some, tl_none, List.nil_append, b2i_n1, b2i_n0, ↓reduceIte, nI_add, pk_mul, pk_sub, n_leT, n_leF, n_ltT, n_ltF, n_eqT, n_eqF, n_shl1, n_shl, n_shr, nI_and, nI_or, nI_xor, b2i_z, b2i_o, m1_n, n_m1, m1_lt, m1_le, n_lm1, n_em1, nI_m1, and1, and3, and7, and15, and63, and255, Bool.true_eq_false, Bool.false_eq_true, reduceCtorEq, Nat.reduceAdd, Nat.reduceMul, Nat.reduceSub, Nat.reduceDiv, Nat.reduceMod, Nat.reducePow, Nat.zero_add, Nat.one_mul, c_isKN, h1, c_hasPlace, g0, h2]
      exact no hx
    · cases h3 : inN yv (nI (sa A 4320))
      · rw [h3, Bool.and_false, if_neg (by decide)] at hx
        simp (disch := first | omega | exact c1_int _ | exact c1_none | exact c1_ref _ | exact isRf_ref _ | assumption | exact okRb _ | exact okN1 | exact okN0 | exact rfl) only [N_X10_pair_0, N_X10_pair_1, N_X10_pair_4, N_X10_pair_7, N_X10_pair_8, N_X10_pair_11, N_X10_pair_12, N_X10_pair_15, N_X10_pair_18, N_X10_pair_19, N_X10_pair_22, N_X10_pair_23, N_X10_pair_26, N_X10_pair_29, N_X10_pair_30, N_X10_pair_31, N_X10_pair_32, N_X10_pair_33, N_X10_pair_36, N_X10_pair_37, N_X10_pair_40, N_X10_pair_41, N_X10_pair_42, N_X10_pair_43, N_X10_pair_44, N_X10_pair_45, N_X10_pair_46, N_X10_pair_47, N_X10_pair_48, N_X10_pair_51, N_X10_pair_54, N_X10_pair_57, if_true, if_false, ite_true, ite_false, not_false_eq_true, not_true_eq_false, isRf_ref, isRf_null, c1_int, c1_ref, c1_null, c1_none, rfv_some, rfv_none, Ok_s, tl_some, tl_none, List.nil_append, b2i_n1, b2i_n0, ↓reduceIte, nI_add, pk_mul, pk_sub, n_leT, n_leF, n_ltT, n_ltF, n_eqT, n_eqF, n_shl1, n_shl, n_shr, nI_and, nI_or, nI_xor, b2i_z, b2i_o, m1_n, n_m1, m1_lt, m1_le, n_lm1, n_em1, nI_m1, and1, and3, and7, and15, and63, and255, Bool.true_eq_false, Bool.false_eq_true, reduceCtorEq, Nat.reduceAdd, Nat.reduceMul, Nat.reduceSub, Nat.reduceDiv, Nat.reduceMod, Nat.reducePow, Nat.zero_add, Nat.one_mul, c_isKN, h1, c_hasPlace, g0, h2, h3]
        exact no hx
      · rw [h1, h2, h3, if_pos (by decide)] at hx
        obtain ⟨k, hk, rfl⟩ := inN_t (by decide) h1
        obtain ⟨px, hpx, rfl⟩ := inN_t (by omega) h2
        obtain ⟨py, hpy, rfl⟩ := inN_t (by omega) h3
        rw [n_cl (by omega), n_cl (by omega), n_cl (by omega)] at hx
        simp (disch := first | omega | exact c1_int _ | exact c1_none | exact c1_ref _ | exact isRf_ref _ | assumption | exact okRb _ | exact okN1 | exact okN0 | exact rfl) only [N_X10_pair_0, N_X10_pair_1, N_X10_pair_4, N_X10_pair_7, N_X10_pair_8, N_X10_pair_11, N_X10_pair_12, N_X10_pair_15, N_X10_pair_18, N_X10_pair_19, N_X10_pair_22, N_X10_pair_23, N_X10_pair_26, N_X10_pair_29, N_X10_pair_30, N_X10_pair_31, N_X10_pair_32, N_X10_pair_33, N_X10_pair_36, N_X10_pair_37, N_X10_pair_40, N_X10_pair_41, N_X10_pair_42, N_X10_pair_43, N_X10_pair_44, N_X10_pair_45, N_X10_pair_46, N_X10_pair_47, N_X10_pair_48, N_X10_pair_51, N_X10_pair_54, N_X10_pair_57, if_true, if_false, ite_true, ite_false, not_false_eq_true, not_true_eq_false, isRf_ref, isRf_null, c1_int, c1_ref, c1_null, c1_none, rfv_some, rfv_none, Ok_s, tl_some, tl_none, List.nil_append, b2i_n1, b2i_n0, ↓reduceIte, nI_add, pk_mul, pk_sub, n_leT, n_leF, n_ltT, n_ltF, n_eqT, n_eqF, n_shl1, n_shl, n_shr, nI_and, nI_or, nI_xor, b2i_z, b2i_o, m1_n, n_m1, m1_lt, m1_le, n_lm1, n_em1, nI_m1, and1, and3, and7, and15, and63, and255, Bool.true_eq_false, Bool.false_eq_true, reduceCtorEq, Nat.reduceAdd, Nat.reduceMul, Nat.reduceSub, Nat.reduceDiv, Nat.reduceMod, Nat.reducePow, Nat.zero_add, Nat.one_mul, c_isKN, h1, c_hasPlace, g0, h2, h3]
        refine Ok.mono (c_findPr (d := d) h hk) ?_
        rintro _ ⟨D', I', L', ow', ky', ln', rfl, hC, hF, sg, S, n, q, lev, hV⟩
        have gd : I' 1 2 = nI (sa A 4327) := hC.2.2.2.1.1.m.2.2.1
        obtain ⟨v1, v2⟩ := hV.lv hA hpx hpy
        rw [show k + 1 - 1 = k by omega] at v2
        obtain ⟨t1, t2, t3⟩ := two_v (m := k + 1) hA (by omega) (by omega) hpx hpy h8 hV.1.2.2.2.2.2.2.1.1
        have hl := c_levelOf (xs := xs) (Ln := Ln) (d := d + 5) (L := L') (Or.inl ⟨rfl, rfl, rfl⟩) hC.2.1 hV.1.2.2.2.2.2.2.2 t2 h8 v1
        rw [v2] at hl
        simp (disch := first | omega | exact c1_int _ | exact c1_none | exact c1_ref _ | exact isRf_ref _ | assumption | exact okRb _ | exact okN1 | exact okN0 | exact rfl) only [N_X10_pair_0, N_X10_pair_1, N_X10_pair_4, N_X10_pair_7, N_X10_pair_8, N_X10_pair_11, N_X10_pair_12, N_X10_pair_15, N_X10_pair_18, N_X10_pair_19, N_X10_pair_22, N_X10_pair_23, N_X10_pair_26, N_X10_pair_29, N_X10_pair_30, N_X10_pair_31, N_X10_pair_32, N_X10_pair_33, N_X10_pair_36, N_X10_pair_37, N_X10_pair_40, N_X10_pair_41, N_X10_pair_42, N_X10_pair_43, N_X10_pair_44, N_X10_pair_45, N_X10_pair_46, N_X10_pair_47, N_X10_pair_48, N_X10_pair_51, N_X10_pair_54, N_X10_pair_57, if_true, if_false, ite_true, ite_false, not_false_eq_true, not_true_eq_false, isRf_ref, isRf_null, c1_int, c1_ref, c1_null, c1_none, rfv_some, rfv_none, Ok_s, tl_some, tl_none, List.nil_append, b2i_n1, b2i_n0, ↓reduceIte, nI_add, pk_mul, pk_sub, n_leT, n_leF, n_ltT, n_ltF, n_eqT, n_eqF, n_shl1, n_shl, n_shr, nI_and, nI_or, nI_xor, b2i_z, b2i_o, m1_n, n_m1, m1_lt, m1_le, n_lm1, n_em1, nI_m1, and1, and3, and7, and15, and63, and255, Bool.true_eq_false, Bool.false_eq_true, reduceCtorEq, Nat.reduceAdd, Nat.reduceMul, Nat.reduceSub, Nat.reduceDiv, Nat.reduceMod, Nat.reducePow, Nat.zero_add, Nat.one_mul, gd, hl]
        exact ⟨D', I', L', by rw [hx], ⟨ow', ky', ln', hC.up⟩, hF⟩
theorem lst_W {p q : Nat → Bool} {W : Nat} (hW : W ≤ 8) (h : ∀ w, w < W → p w = q w) (h0 : ∀ w, W ≤ w → w < 8 → p w = false) : lst p 8 = lst q W := by
  cases hq : lst q W with
  | none =>
    have := (lst_n _ _).mp hq
    refine (lst_n _ _).mpr (fun i hi => ?_)
    by_cases hiW : i < W
    · rw [h i hiW]; exact this i hiW
    · exact h0 i (by omega) hi
  | some i =>
    obtain ⟨q1, q2, q3⟩ := (lst_s _ _ _).mp hq
    exact (lst_s _ _ _).mpr ⟨by omega, by rw [h i q1]; exact q2, fun j hj => by rw [h j (by omega)]; exact q3 j hj⟩
theorem beh_two {m x y e wd : Nat} (hA : AW a) (hm1 : 1 ≤ m) (hm : m ≤ 2) (hx : x < a 4320) (hy : y < a 4320) (he : e < 8) : behA a m (8 * (2 ^ x ||| 2 ^ y) + e) wd = if wd < a 4321 ∧ brA a wd e = false then some (8 * (2 ^ goA a (m - 1) wd e x ||| 2 ^ goA a (m - 1) wd e y) + dbA a wd e) else none := by
  have hP := hA.1
  unfold behA
  rw [show (8 * (2 ^ x ||| 2 ^ y) + e) / 8 = 2 ^ x ||| 2 ^ y by omega, show (8 * (2 ^ x ||| 2 ^ y) + e) % 8 = e by omega]
  by_cases hc : wd < a 4321 ∧ brA a wd e = false
  · rw [if_pos hc, if_pos hc]
    unfold sbN
    rw [im_or, im_1, im_1, if_pos (by omega), if_pos (by omega)]
    unfold tgt
    rw [if_neg (by omega), if_neg (by omega)]
  · rw [if_neg hc, if_neg hc]
/-- the first word of a pair -/
theorem fwd_pair {m x y e : Nat} {sg : Nat → Nat} (hA : AW a) (hm1 : 1 ≤ m) (hm : m ≤ 2) (hx : x < a 4320) (hy : y < a 4320) (he : e < 8) (hs : sg 0 = 4095) : fwd (behA a m) sg 1 (8 * (2 ^ x ||| 2 ^ y) + e) = (match prN a (m - 1) e x y with
    | none => none
    | some 0 => none
    | some (b + 1) => whN a (m - 1) e x y b) := by
  have hW := hA.2.1
  obtain ⟨t1, t2, t3⟩ := two_v (m := m) (S := fun _ => true) hA hm1 hm hx hy he rfl
  have e8 : (8 * (2 ^ x ||| 2 ^ y) + e) / 8 = 2 ^ x ||| 2 ^ y := by omega
  have hg : glv (behA a m) sg 1 (8 * (2 ^ x ||| 2 ^ y) + e) = prN a (m - 1) e x y := by
    rw [glv_few hA hm1 hm hs t1.1 (by rw [e8]; exact t3)]
    unfold prN
    rw [show m - 1 + 1 = m by omega]
  unfold fwd
  rw [hg]
  cases hp : prN a (m - 1) e x y with
  | none => rfl
  | some b =>
    cases b with
    | zero => rfl
    | succ b =>
      show lst (okw (behA a m) sg 1 b (8 * (2 ^ x ||| 2 ^ y) + e)) 8 = whN a (m - 1) e x y b
      rw [hp] at hg
      obtain ⟨gb, gb2, gb3⟩ := glv_b hg
      unfold whN
      refine lst_W hW (fun wd hw => ?_) (fun wd hw _ => ?_)
      · unfold okw
        rw [beh_two hA hm1 hm hx hy he]
        cases hbr : brA a wd e
        · rw [if_pos ⟨hw, rfl⟩]
          have gx := goA_lt hA (k := m - 1) (e := e) (by omega) hw hx
          have gy := goA_lt hA (k := m - 1) (e := e) (by omega) hw hy
          have hdl := dbA_lt hA hw he
          obtain ⟨u1, u2, u3⟩ := two_v (m := m) (S := fun _ => true) hA hm1 hm gx gy hdl rfl
          have u8 : (8 * (2 ^ goA a (m - 1) wd e x ||| 2 ^ goA a (m - 1) wd e y) + dbA a wd e) / 8 = 2 ^ goA a (m - 1) wd e x ||| 2 ^ goA a (m - 1) wd e y := by omega
          have hgY : glv (behA a m) sg 1 (8 * (2 ^ goA a (m - 1) wd e x ||| 2 ^ goA a (m - 1) wd e y) + dbA a wd e) = prN a (m - 1) (dbA a wd e) (goA a (m - 1) wd e x) (goA a (m - 1) wd e y) := by
            rw [glv_few hA hm1 hm hs u1.1 (by rw [u8]; exact u3)]
            unfold prN
            rw [show m - 1 + 1 = m by omega]
          have hall : allN (fun c => decide (pcN ((8 * (2 ^ goA a (m - 1) wd e x ||| 2 ^ goA a (m - 1) wd e y) + dbA a wd e) / 8 &&& sg c) 12 = 0) || gW (behA a m) sg 1 b (prS sg (8 * (2 ^ goA a (m - 1) wd e x ||| 2 ^ goA a (m - 1) wd e y) + dbA a wd e) c)) 1 = gW (behA a m) sg 1 b (8 * (2 ^ goA a (m - 1) wd e x ||| 2 ^ goA a (m - 1) wd e y) + dbA a wd e) := by
            show (true && (decide (pcN ((8 * (2 ^ goA a (m - 1) wd e x ||| 2 ^ goA a (m - 1) wd e y) + dbA a wd e) / 8 &&& sg 0) 12 = 0) || gW (behA a m) sg 1 b (prS sg (8 * (2 ^ goA a (m - 1) wd e x ||| 2 ^ goA a (m - 1) wd e y) + dbA a wd e) 0))) = _
            rw [Bool.true_and, pr_4095 hs u1.1.1, hs, u8, and_4095 u2, decide_eq_false (by rw [pc_0 u2]; exact u3), Bool.false_or]
          dsimp only
          rw [hall, glv_w (by omega), hgY, Bool.not_false, Bool.true_and]
          cases hpv : prN a (m - 1) (dbA a wd e) (goA a (m - 1) wd e x) (goA a (m - 1) wd e y) with
          | none => simp
          | some v =>
            show decide (v ≤ b) = decide (some v = some b)
            have hge : b ≤ v := by
              by_cases hlt : v < b
              · exfalso
                rw [hpv] at hgY
                have hgv := (glv_b hgY).2.1
                have : gW (behA a m) sg 1 (v + 1) (8 * (2 ^ x ||| 2 ^ y) + e) = true := by
                  refine (gW_iff _ _).mpr (Or.inr ⟨wd, _, by omega, by rw [beh_two hA hm1 hm hx hy he, if_pos ⟨hw, hbr⟩], fun c hc => Or.inr ?_⟩)
                  have : c = 0 := by omega
                  subst this
                  rw [pr_4095 hs u1.1.1]
                  exact hgv
                rw [gb3 (v + 1) (by omega)] at this
                cases this
              · omega
            by_cases hvb : v = b
            · subst hvb; simp
            · rw [decide_eq_false (by omega), decide_eq_false (fun h => hvb (Option.some.inj h))]
        · rw [if_neg (by simp)]
          rfl
      · unfold okw
        rw [beh_two hA hm1 hm hx hy he, if_neg (by omega)]
theorem C_which {kv xv yv : Int32} {x : Int32} (hx : x = aWhich (sa A) kv xv yv) (h : CI D I A nn) : CCall xs Ln (d + 8) 114 [.ref 0, .int kv, .int xv, .int yv] D I L A nn x := by
  obtain ⟨ow, ky, ln, h⟩ := h
  have hM := h.2.2.2.1
  have hA := hM.2.1
  have g0 : I 1 0 = nI (sa A 4320) := hM.1.m.1
  have hP := hA.1
  have h8 := hA.2.2.2.2.2.2.2.1
  refine semG (lo := [some (.ref 0), some (.int kv), some (.int xv), some (.int yv)]) rfl rfl (Nat.le_of_ble_eq_true rfl) rfl (show G_X10_which xs Ln _ 0 [some (.ref 0), some (.int kv), some (.int xv), some (.int yv)] [] _ _ from ?_)
  unfold aWhich at hx
  have no : x = m1 → ∃ D' I' L', ((mkW D I L, some (.int m1)) : Res) = (mkW D' I' L', some (.int x)) ∧ CI D' I' A (nn + 1) ∧ CFr I I' := fun e => ⟨D, I, L, by rw [e], ⟨ow, ky, ln, h.up⟩, CFr.rf I⟩
  cases h1 : inN kv (nI 2)
  · rw [h1, Bool.false_and, Bool.false_and, if_neg (by decide)] at hx
    simp (disch := first | omega | exact c1_int _ | exact c1_none | exact c1_ref _ | exact isRf_ref _ | assumption | exact okRb _ | exact okN1 | exact okN0 | exact rfl) only [N_X10_which_0, N_X10_which_1, N_X10_which_4, N_X10_which_7, N_X10_which_8, N_X10_which_11, N_X10_which_12, N_X10_which_15, N_X10_which_18, N_X10_which_19, N_X10_which_22, N_X10_which_23, N_X10_which_26, N_X10_which_29, N_X10_which_30, N_X10_which_31, N_X10_which_32, N_X10_which_33, N_X10_which_36, N_X10_which_37, N_X10_which_40, N_X10_which_41, N_X10_which_42, N_X10_which_43, N_X10_which_44, N_X10_which_45, N_X10_which_46, N_X10_which_47, N_X10_which_48, N_X10_which_51, N_X10_which_54, N_X10_which_57, if_true, if_false, ite_true, ite_false, not_false_eq_true, not_true_eq_false, isRf_ref, isRf_null, c1_int, c1_ref, c1_null, c1_none, rfv_some, rfv_none, Ok_s, tl_some, tl_none, List.nil_append, b2i_n1, b2i_n0, ↓reduceIte, nI_add, pk_mul, pk_sub, n_leT, n_leF, n_ltT, n_ltF, n_eqT, n_eqF, n_shl1, n_shl, n_shr, nI_and, nI_or, nI_xor, b2i_z, b2i_o, m1_n, n_m1, m1_lt, m1_le, n_lm1, n_em1, nI_m1, and1, and3, and7, and15, and63, and255, Bool.true_eq_false, Bool.false_eq_true, reduceCtorEq, Nat.reduceAdd, Nat.reduceMul, Nat.reduceSub, Nat.reduceDiv, Nat.reduceMod, Nat.reducePow, Nat.zero_add, Nat.one_mul, c_isKN, h1]
    exact no hx
  · cases h2 : inN xv (nI (sa A 4320))
    · rw [h2, Bool.and_false, Bool.false_and, if_neg (by decide)] at hx
      simp (disch := first | omega | exact c1_int _ | exact c1_none | exact c1_ref _ | exact isRf_ref _ | assumption | exact okRb _ | exact okN1 | exact okN0 | exact rfl) only [N_X10_which_0, N_X10_which_1, N_X10_which_4, N_X10_which_7, N_X10_which_8, N_X10_which_11, N_X10_which_12, N_X10_which_15, N_X10_which_18, N_X10_which_19, N_X10_which_22, N_X10_which_23, N_X10_which_26, N_X10_which_29, N_X10_which_30, N_X10_which_31, N_X10_which_32, N_X10_which_33, N_X10_which_36, N_X10_which_37, N_X10_which_40, N_X10_which_41, N_X10_which_42, N_X10_which_43, N_X10_which_44, N_X10_which_45, N_X10_which_46, N_X10_which_47, N_X10_which_48, N_X10_which_51, N_X10_which_54, N_X10_which_57, if_true, if_false, ite_true, ite_false, not_false_eq_true, not_true_eq_false, isRf_ref, isRf_null, c1_int, c1_ref, c1_null, c1_none, rfv_some, rfv_none, Ok_s, tl_some, tl_none, List.nil_append, b2i_n1, b2i_n0, ↓reduceIte, nI_add, pk_mul, pk_sub, n_leT, n_leF, n_ltT, n_ltF, n_eqT, n_eqF, n_shl1, n_shl, n_shr, nI_and, nI_or, nI_xor, b2i_z, b2i_o, m1_n, n_m1, m1_lt, m1_le, n_lm1, n_em1, nI_m1, and1, and3, and7, and15, and63, and255, Bool.true_eq_false, Bool.false_eq_true, reduceCtorEq, Nat.reduceAdd, Nat.reduceMul, Nat.reduceSub, Nat.reduceDiv, Nat.reduceMod, Nat.reducePow, Nat.zero_add, Nat.one_mul, c_isKN, h1, c_hasPlace, g0, h2]
      exact no hx
    · cases h3 : inN yv (nI (sa A 4320))
      · rw [h3, Bool.and_false, if_neg (by decide)] at hx
        simp (disch := first | omega | exact c1_int _ | exact c1_none | exact c1_ref _ | exact isRf_ref _ | assumption | exact okRb _ | exact okN1 | exact okN0 | exact rfl) only [N_X10_which_0, N_X10_which_1, N_X10_which_4, N_X10_which_7, N_X10_which_8, N_X10_which_11, N_X10_which_12, N_X10_which_15, N_X10_which_18, N_X10_which_19, N_X10_which_22, N_X10_which_23, N_X10_which_26, N_X10_which_29, N_X10_which_30, N_X10_which_31, N_X10_which_32, N_X10_which_33, N_X10_which_36, N_X10_which_37, N_X10_which_40, N_X10_which_41, N_X10_which_42, N_X10_which_43, N_X10_which_44, N_X10_which_45, N_X10_which_46, N_X10_which_47, N_X10_which_48, N_X10_which_51, N_X10_which_54, N_X10_which_57, if_true, if_false, ite_true, ite_false, not_false_eq_true, not_true_eq_false, isRf_ref, isRf_null, c1_int, c1_ref, c1_null, c1_none, rfv_some, rfv_none, Ok_s, tl_some, tl_none, List.nil_append, b2i_n1, b2i_n0, ↓reduceIte, nI_add, pk_mul, pk_sub, n_leT, n_leF, n_ltT, n_ltF, n_eqT, n_eqF, n_shl1, n_shl, n_shr, nI_and, nI_or, nI_xor, b2i_z, b2i_o, m1_n, n_m1, m1_lt, m1_le, n_lm1, n_em1, nI_m1, and1, and3, and7, and15, and63, and255, Bool.true_eq_false, Bool.false_eq_true, reduceCtorEq, Nat.reduceAdd, Nat.reduceMul, Nat.reduceSub, Nat.reduceDiv, Nat.reduceMod, Nat.reducePow, Nat.zero_add, Nat.one_mul, c_isKN, h1, c_hasPlace, g0, h2, h3]
        exact no hx
      · rw [h1, h2, h3, if_pos (by decide)] at hx
        obtain ⟨k, hk, rfl⟩ := inN_t (by decide) h1
        obtain ⟨px, hpx, rfl⟩ := inN_t (by omega) h2
        obtain ⟨py, hpy, rfl⟩ := inN_t (by omega) h3
        rw [n_cl (by omega), n_cl (by omega), n_cl (by omega)] at hx
        simp (disch := first | omega | exact c1_int _ | exact c1_none | exact c1_ref _ | exact isRf_ref _ | assumption | exact okRb _ | exact okN1 | exact okN0 | exact rfl) only [N_X10_which_0, N_X10_which_1, N_X10_which_4, N_X10_which_7, N_X10_which_8, N_X10_which_11, N_X10_which_12, N_X10_which_15, N_X10_which_18, N_X10_which_19, N_X10_which_22, N_X10_which_23, N_X10_which_26, N_X10_which_29, N_X10_which_30, N_X10_which_31, N_X10_which_32, N_X10_which_33, N_X10_which_36, N_X10_which_37, N_X10_which_40, N_X10_which_41, N_X10_which_42, N_X10_which_43, N_X10_which_44, N_X10_which_45, N_X10_which_46, N_X10_which_47, N_X10_which_48, N_X10_which_51, N_X10_which_54, N_X10_which_57, if_true, if_false, ite_true, ite_false, not_false_eq_true, not_true_eq_false, isRf_ref, isRf_null, c1_int, c1_ref, c1_null, c1_none, rfv_some, rfv_none, Ok_s, tl_some, tl_none, List.nil_append, b2i_n1, b2i_n0, ↓reduceIte, nI_add, pk_mul, pk_sub, n_leT, n_leF, n_ltT, n_ltF, n_eqT, n_eqF, n_shl1, n_shl, n_shr, nI_and, nI_or, nI_xor, b2i_z, b2i_o, m1_n, n_m1, m1_lt, m1_le, n_lm1, n_em1, nI_m1, and1, and3, and7, and15, and63, and255, Bool.true_eq_false, Bool.false_eq_true, reduceCtorEq, Nat.reduceAdd, Nat.reduceMul, Nat.reduceSub, Nat.reduceDiv, Nat.reduceMod, Nat.reducePow, Nat.zero_add, Nat.one_mul, c_isKN, h1, c_hasPlace, g0, h2, h3]
        refine Ok.mono (c_findPr (d := d) h hk) ?_
        rintro _ ⟨D', I', L', ow', ky', ln', rfl, hC, hF, sg, S, n, q, lev, hV⟩
        have gd : I' 1 2 = nI (sa A 4327) := hC.2.2.2.1.1.m.2.2.1
        obtain ⟨v1, v2⟩ := hV.lv hA hpx hpy
        obtain ⟨l1, l2, l3, l4, l5, l6, l7, l8⟩ := hV.1
        obtain ⟨t1, t2, t3⟩ := two_v (m := k + 1) hA (by omega) (by omega) hpx hpy h8 l7.1
        have hl := c_firstW (xs := xs) (Ln := Ln) (d := d + 3) (L := L') (Or.inl ⟨rfl, rfl, rfl⟩) hC.2.1 l8 l6 hC.2.2.2.1 (by omega) (by omega) l3 t2 h8 v1 t1.1 (l7.2 _ h8 l7.1).1
        rw [fwd_pair hA (by omega) (by omega) hpx hpy h8 hV.2.1, show k + 1 - 1 = k by omega] at hl
        simp (disch := first | omega | exact c1_int _ | exact c1_none | exact c1_ref _ | exact isRf_ref _ | assumption | exact okRb _ | exact okN1 | exact okN0 | exact rfl) only [N_X10_which_0, N_X10_which_1, N_X10_which_4, N_X10_which_7, N_X10_which_8, N_X10_which_11, N_X10_which_12, N_X10_which_15, N_X10_which_18, N_X10_which_19, N_X10_which_22, N_X10_which_23, N_X10_which_26, N_X10_which_29, N_X10_which_30, N_X10_which_31, N_X10_which_32, N_X10_which_33, N_X10_which_36, N_X10_which_37, N_X10_which_40, N_X10_which_41, N_X10_which_42, N_X10_which_43, N_X10_which_44, N_X10_which_45, N_X10_which_46, N_X10_which_47, N_X10_which_48, N_X10_which_51, N_X10_which_54, N_X10_which_57, if_true, if_false, ite_true, ite_false, not_false_eq_true, not_true_eq_false, isRf_ref, isRf_null, c1_int, c1_ref, c1_null, c1_none, rfv_some, rfv_none, Ok_s, tl_some, tl_none, List.nil_append, b2i_n1, b2i_n0, ↓reduceIte, nI_add, pk_mul, pk_sub, n_leT, n_leF, n_ltT, n_ltF, n_eqT, n_eqF, n_shl1, n_shl, n_shr, nI_and, nI_or, nI_xor, b2i_z, b2i_o, m1_n, n_m1, m1_lt, m1_le, n_lm1, n_em1, nI_m1, and1, and3, and7, and15, and63, and255, Bool.true_eq_false, Bool.false_eq_true, reduceCtorEq, Nat.reduceAdd, Nat.reduceMul, Nat.reduceSub, Nat.reduceDiv, Nat.reduceMod, Nat.reducePow, Nat.zero_add, Nat.one_mul, gd, hl]
        refine ⟨D', I', L', ?_, ⟨ow', ky', ln', hC.up⟩, hF⟩
        rw [hx]
        cases hp : prN (sa A) k (sa A 4327) px py with
        | none => rfl
        | some b =>
          cases b with
          | zero => rfl
          | succ b => rfl
end Pe1
