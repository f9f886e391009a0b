section Pe6
variable {xs : Nat → Int32} {Ln d : Nat} {D D' D'' : Dyn} {I I' I'' : Nat → Nat → Int32} {L : Nat → Nat → Int64} {w : Om} {Q : Res → Prop} {ow ow' ow'' ky ky' ky'' ln ln' ln'' a a' : Nat → Nat} {o be sr : Nat} {A : As} {nn : Nat}
/-- the sights are the colours: the same parts -/
theorem sg_all {k x wd : Nat} {sg : Nat → Nat} (hA : AW a) (hS : SgC a k sg) (hv : vSt a 1 x) (hw : wd < a 4321) (P : Nat → Prop) : (∀ j, j < k → pcN ((8 * sbN (goA a) 1 (x / 8) wd (x % 8) + dbA a wd (x % 8)) / 8 &&& sg j) 12 = 0 ∨ P (prS sg (8 * sbN (goA a) 1 (x / 8) wd (x % 8) + dbA a wd (x % 8)) j)) ↔ ∀ c, c < 4 → ptA a x wd c = 0 ∨ P (8 * ptA a x wd c + dbA a wd (x % 8)) := by
  have hdl := dbA_lt hA hw (show x % 8 < 8 by omega)
  have h8 : (8 * sbN (goA a) 1 (x / 8) wd (x % 8) + dbA a wd (x % 8)) / 8 = sbN (goA a) 1 (x / 8) wd (x % 8) := by omega
  have hm : (8 * sbN (goA a) 1 (x / 8) wd (x % 8) + dbA a wd (x % 8)) % 8 = dbA a wd (x % 8) := by omega
  have hp := ptA_lt hA hv hw
  have h12 : 2 ^ a 4320 ≤ 4096 := by have := pw_lt hA.1; simpa using this
  have key : ∀ j c, sg j = cpl a c (a 4320) → (8 * sbN (goA a) 1 (x / 8) wd (x % 8) + dbA a wd (x % 8)) / 8 &&& sg j = ptA a x wd c ∧ prS sg (8 * sbN (goA a) 1 (x / 8) wd (x % 8) + dbA a wd (x % 8)) j = 8 * ptA a x wd c + dbA a wd (x % 8) := by
    intro j c h
    refine ⟨by rw [h8, h]; rfl, ?_⟩
    unfold prS
    rw [h8, hm, h]
    rfl
  constructor
  · intro h c hc
    have hpc := hp c
    rcases hS.2 c hc with h0 | ⟨j, hj, e⟩
    · left
      unfold ptA
      rw [h0, Nat.and_zero]
    · obtain ⟨k1, k2⟩ := key j c e
      rcases h j hj with h' | h'
      · left
        rw [k1, pc_0 (by omega)] at h'
        exact h'
      · right
        rw [k2] at h'
        exact h'
  · intro h j hj
    obtain ⟨c, hc, e⟩ := hS.1 j hj
    have hpc := hp c
    obtain ⟨k1, k2⟩ := key j c e
    rcases h c hc with h' | h'
    · left
      rw [k1, pc_0 (by omega)]
      exact h'
    · right
      rw [k2]
      exact h'
theorem pt_v {x wd : Nat} (hA : AW a) (hv : vSt a 1 x) (hw : wd < a 4321) (c : Nat) : vSt a 1 (8 * ptA a x wd c + dbA a wd (x % 8)) := by
  have hdl := dbA_lt hA hw (show x % 8 < 8 by omega)
  have hp := ptA_lt hA hv hw c
  have h12 : 2 ^ a 4320 ≤ 4096 := by have := pw_lt hA.1; simpa using this
  refine ⟨by omega, ?_⟩
  rw [show (8 * ptA a x wd c + dbA a wd (x % 8)) / 8 = ptA a x wd c by omega, okS1]
  exact hp
theorem gW_sg {k : Nat} {sg : Nat → Nat} (hA : AW a) (hS : SgC a k sg) : ∀ N x, vSt a 1 x → (gW (behA a 1) sg k N x = true ↔ sgW a N x = true) := by
  have hw8 := hA.2.1
  intro N
  induction N with
  | zero =>
    intro x hx
    show decide (pcN (x / 8) 12 = 1) = true ↔ (tog 1 (x / 8)).isSome = true
    rw [tog_pc (by have := hx.1; omega)]
  | succ N ih =>
    intro x hx
    rw [gW_iff, sgW_s, Bool.or_eq_true, anyN_iff]
    constructor
    · rintro (h | ⟨wd, y, h8, hy, hall⟩)
      · exact Or.inl ((ih x hx).mp h)
      · right
        unfold behA at hy
        split at hy
        · rename_i hc
          cases hy
          refine ⟨wd, hc.1, ?_⟩
          rw [hc.2, Bool.not_false, Bool.true_and, allN_iff]
          intro c hc4
          rw [Bool.or_eq_true, decide_eq_true_eq]
          rcases (sg_all hA hS hx hc.1 (fun z => gW (behA a 1) sg k N z = true)).mp hall c hc4 with h0 | h1
          · exact Or.inl h0
          · exact Or.inr ((ih _ (pt_v hA hx hc.1 c)).mp h1)
        · cases hy
    · rintro (h | ⟨wd, hw, hh⟩)
      · exact Or.inl ((ih x hx).mpr h)
      · right
        rw [Bool.and_eq_true, allN_iff] at hh
        obtain ⟨hb, hall⟩ := hh
        have hb' : brA a wd (x % 8) = false := by simpa using hb
        refine ⟨wd, 8 * sbN (goA a) 1 (x / 8) wd (x % 8) + dbA a wd (x % 8), by omega, ?_, ?_⟩
        · unfold behA
          rw [if_pos ⟨hw, hb'⟩]
        · refine (sg_all hA hS hx hw (fun z => gW (behA a 1) sg k N z = true)).mpr (fun c hc4 => ?_)
          have := hall c hc4
          rw [Bool.or_eq_true, decide_eq_true_eq] at this
          rcases this with h0 | h1
          · exact Or.inl h0
          · exact Or.inr ((ih _ (pt_v hA hx hw c)).mpr h1)
theorem glv_sg {k x : Nat} {sg : Nat → Nat} (hA : AW a) (hS : SgC a k sg) (hv : vSt a 1 x) : glv (behA a 1) sg k x = sgA a x := by
  unfold glv sgA
  exact lst_cg _ (fun N _ => Bool.eq_iff_iff.mpr (gW_sg hA hS N x hv))
theorem sgA_w {x b : Nat} (hb : b < 32769) : sgW a b x = true ↔ ∃ u, sgA a x = some u ∧ u < b + 1 := by
  constructor
  · intro h
    cases hs : sgA a x with
    | none =>
      have := (lst_n _ _).mp hs b (by rw [bnd_e]; exact hb)
      rw [h] at this
      cases this
    | some u =>
      refine ⟨u, rfl, ?_⟩
      obtain ⟨h1, h2, h3⟩ := (lst_s _ _ _).mp hs
      by_cases hu : u < b + 1
      · exact hu
      · have := h3 b (by omega)
        rw [h] at this
        cases this
  · rintro ⟨u, hu, hub⟩
    obtain ⟨h1, h2, h3⟩ := (lst_s _ _ _).mp hu
    exact sgW_le h2 (by omega)
theorem fwd_sg {k x : Nat} {sg : Nat → Nat} (hA : AW a) (hS : SgC a k sg) (hv : vSt a 1 x) : fwd (behA a 1) sg k x = (match sgA a x with
    | none => none
    | some 0 => none
    | some (b + 1) => akN a x (b + 1)) := by
  have hW := hA.2.1
  unfold fwd
  rw [glv_sg hA hS hv]
  cases hg : sgA a x with
  | none => rfl
  | some b =>
    cases b with
    | zero => rfl
    | succ b =>
      have hb := sgA_lt hg
      show lst (okw (behA a 1) sg k b x) 8 = akN a x (b + 1)
      unfold akN
      refine lst_W hW (fun wd hw => ?_) (fun wd hw _ => ?_)
      · unfold okw svB
        cases hbr : brA a wd (x % 8)
        · have hbe : behA a 1 x wd = some (8 * sbN (goA a) 1 (x / 8) wd (x % 8) + dbA a wd (x % 8)) := by
            unfold behA
            rw [if_pos ⟨hw, hbr⟩]
          rw [hbe, if_neg (by simp)]
          have hmx := mxC_iff (s := sgA a) (pt := ptA a x wd) (e := dbA a wd (x % 8)) (r := b + 1) (by omega) 4
          have hl : (allN (fun c => decide (pcN ((8 * sbN (goA a) 1 (x / 8) wd (x % 8) + dbA a wd (x % 8)) / 8 &&& sg c) 12 = 0) || gW (behA a 1) sg k b (prS sg (8 * sbN (goA a) 1 (x / 8) wd (x % 8) + dbA a wd (x % 8)) c)) k = true) ↔ ∃ v, mxC (sgA a) (ptA a x wd) (dbA a wd (x % 8)) 4 = some v ∧ v < b + 1 := by
            rw [hmx, allN_iff]
            simp only [Bool.or_eq_true, decide_eq_true_eq]
            rw [sg_all hA hS hv hw (fun z => gW (behA a 1) sg k b z = true)]
            constructor
            · intro h c hc
              rcases h c hc with h0 | h1
              · exact Or.inl h0
              · exact Or.inr ((sgA_w (by omega)).mp ((gW_sg hA hS b _ (pt_v hA hv hw c)).mp h1))
            · intro h c hc
              rcases h c hc with h0 | h1
              · exact Or.inl h0
              · exact Or.inr ((gW_sg hA hS b _ (pt_v hA hv hw c)).mpr ((sgA_w (by omega)).mpr h1))
          apply Bool.eq_iff_iff.mpr
          dsimp only
          rw [hl]
          cases hm : mxC (sgA a) (ptA a x wd) (dbA a wd (x % 8)) 4 with
          | none =>
            constructor
            · rintro ⟨v, h1, _⟩; cases h1
            · intro h; cases h
          | some v =>
            constructor
            · rintro ⟨v', h1, h2⟩
              cases h1
              exact decide_eq_true h2
            · intro h
              exact ⟨v, rfl, of_decide_eq_true h⟩
        · have hbe : behA a 1 x wd = none := by
            unfold behA
            rw [if_neg (by rintro ⟨_, h⟩; rw [hbr] at h; cases h)]
          rw [hbe, if_pos rfl]
      · unfold okw
        have hbe : behA a 1 x wd = none := by
          unfold behA
          rw [if_neg (by rintro ⟨h, _⟩; omega)]
        rw [hbe]
theorem c_findSi {s : Nat} (h : CIx ow ky ln D I A nn) (hs : s < 4096) (hS : okS (sa A 4320) 1 s = true) : Ok (callD xs Ln (d + 7) 151 [.ref 0, .int (nI s)] (mkW D I L)) (fun r => ∃ D' I' L' ow' ky' ln', r = (mkW D' I' L', none) ∧ CIx ow' ky' ln' D' I' A nn ∧ CFr I I' ∧ ∃ k sg S n q lev, Lvd (sa A) I' ky' ln' 42 11 43 1 k sg (sa A 4327) S n q lev ∧ SgC (sa A) k sg ∧ (2 ≤ pcN s 12 → ∃ p, p < n ∧ q p = 8 * s + sa A 4327)) := by
  have hM := h.2.2.2.1
  have hA := hM.2.1
  have hP := hA.1
  have h8 := hA.2.2.2.2.2.2.2.1
  have g2 : I 1 2 = nI (sa A 4327) := hM.1.m.2.2.1
  have hL : LvO 42 11 43 := Or.inr ⟨rfl, rfl, rfl⟩
  have hSi := h.n.2
  have h12 : 2 ^ sa A 4320 ≤ 4096 := by have := pw_lt hA.1; simpa using this
  refine semG (lo := [some (.ref 0), some (.int (nI s)), none]) rfl rfl (Nat.le_of_ble_eq_true rfl) rfl (show G_X10_findSights xs Ln _ 0 [some (.ref 0), some (.int (nI s)), none] [] _ _ from ?_)
  by_cases hall : I 42 3 = I 23 0 ∧ I 42 0 = nI 1 ∧ I 42 1 = nI s ∧ I 42 2 = nI (sa A 4327)
  · obtain ⟨a1, a2, a3, a4⟩ := hall
    obtain ⟨k, sg, e, S, n, q, lev, r, v1, v2, v3, v4, v5⟩ := hSi.2 a1
    have er : r = s := by
      have := v2
      rw [a3, n_eq (by omega) (by omega)] at this
      exact this.symm
    have ee : e = sa A 4327 := by
      have := v1.2.2.2.1
      rw [a4, n_eq (by omega) (by have := v1.2.2.2.2.1; omega)] at this
      exact this.symm
    subst er ee
    have hof := c_isOf (xs := xs) (Ln := Ln) (d := d + 5) (D := D) (I := I) (L := L) (mi := nI 1) (ro := nI r) (bg := nI (sa A 4327)) hL
    rw [decide_eq_true a1, decide_eq_true a2, decide_eq_true a3, decide_eq_true a4] at hof
    simp (disch := first | omega | exact c1_int _ | exact c1_none | exact c1_ref _ | exact isRf_ref _ | assumption | exact okRb _ | exact okN1 | exact okN0 | exact rfl) only [N_X10_findSights_0, N_X10_findSights_1, N_X10_findSights_4, N_X10_findSights_5, N_X10_findSights_6, N_X10_findSights_7, N_X10_findSights_10, N_X10_findSights_13, N_X10_findSights_16, N_X10_findSights_19, N_X10_findSights_20, N_X10_findSights_21, N_X10_findSights_24, N_X10_findSights_25, N_X10_findSights_26, N_X10_findSights_29, N_X10_findSights_32, N_X10_findSights_35, N_X10_findSights_36, N_X10_findSights_39, N_X10_findSights_40, N_X10_findSights_41, N_X10_findSights_42, N_X10_findSights_45, N_X10_findSights_48, N_X10_findSights_51, N_X10_findSights_52, N_X10_findSights_54, N_X10_findSights_55, N_X10_findSights_58, N_X10_findSights_59, N_X10_findSights_62, N_X10_findSights_63, N_X10_findSights_66, N_X10_findSights_67, N_X10_findSights_70, N_X10_findSights_73, N_X10_findSights_76, N_X10_findSights_79, N_X10_findSights_80, N_X10_findSights_83, N_X10_findSights_84, N_X10_findSights_85, N_X10_findSights_88, N_X10_findSights_91, N_X10_findSights_94, N_X10_findSights_95, N_X10_findSights_98, N_X10_findSights_101, if_true, if_false, ite_true, ite_false, not_false_eq_true, not_true_eq_false, isRf_ref, isRf_null, c1_int, c1_ref, c1_null, c1_none, rfv_some, rfv_none, Ok_s, tl_some, tl_none, List.nil_append, b2i_n1, b2i_n0, ↓reduceIte, nI_add, pk_mul, pk_sub, n_leT, n_leF, n_ltT, n_ltF, n_eqT, n_eqF, n_shl1, n_shl, n_shr, nI_and, nI_or, nI_xor, b2i_z, b2i_o, m1_n, n_m1, m1_lt, m1_le, n_lm1, n_em1, nI_m1, and1, and3, and7, and15, and63, and255, Bool.true_eq_false, Bool.false_eq_true, reduceCtorEq, Nat.reduceAdd, Nat.reduceMul, Nat.reduceSub, Nat.reduceDiv, Nat.reduceMod, Nat.reducePow, Nat.zero_add, Nat.one_mul, g2, hof, Bool.and_true, Bool.and_self]
    exact ⟨D, I, L, ow, ky, ln, rfl, h, CFr.rf I, k, sg, S, n, q, lev, v1, v4, v5⟩
  · have hof := c_isOf (xs := xs) (Ln := Ln) (d := d + 5) (D := D) (I := I) (L := L) (mi := nI 1) (ro := nI s) (bg := nI (sa A 4327)) hL
    have hfl : (decide (I 42 3 = I 23 0) && decide (I 42 0 = nI 1) && decide (I 42 1 = nI s) && decide (I 42 2 = nI (sa A 4327))) = false := by
      rw [← Bool.not_eq_true]
      simp only [Bool.and_eq_true, decide_eq_true_eq]
      rintro ⟨⟨⟨b1, b2⟩, b3⟩, b4⟩
      exact hall ⟨b1, b2, b3, b4⟩
    rw [hfl] at hof
    simp (disch := first | omega | exact c1_int _ | exact c1_none | exact c1_ref _ | exact isRf_ref _ | assumption | exact okRb _ | exact okN1 | exact okN0 | exact rfl) only [N_X10_findSights_0, N_X10_findSights_1, N_X10_findSights_4, N_X10_findSights_5, N_X10_findSights_6, N_X10_findSights_7, N_X10_findSights_10, N_X10_findSights_13, N_X10_findSights_16, N_X10_findSights_19, N_X10_findSights_20, N_X10_findSights_21, N_X10_findSights_24, N_X10_findSights_25, N_X10_findSights_26, N_X10_findSights_29, N_X10_findSights_32, N_X10_findSights_35, N_X10_findSights_36, N_X10_findSights_39, N_X10_findSights_40, N_X10_findSights_41, N_X10_findSights_42, N_X10_findSights_45, N_X10_findSights_48, N_X10_findSights_51, N_X10_findSights_52, N_X10_findSights_54, N_X10_findSights_55, N_X10_findSights_58, N_X10_findSights_59, N_X10_findSights_62, N_X10_findSights_63, N_X10_findSights_66, N_X10_findSights_67, N_X10_findSights_70, N_X10_findSights_73, N_X10_findSights_76, N_X10_findSights_79, N_X10_findSights_80, N_X10_findSights_83, N_X10_findSights_84, N_X10_findSights_85, N_X10_findSights_88, N_X10_findSights_91, N_X10_findSights_94, N_X10_findSights_95, N_X10_findSights_98, N_X10_findSights_101, if_true, if_false, ite_true, ite_false, not_false_eq_true, not_true_eq_false, isRf_ref, isRf_null, c1_int, c1_ref, c1_null, c1_none, rfv_some, rfv_none, Ok_s, tl_some, tl_none, List.nil_append, b2i_n1, b2i_n0, ↓reduceIte, nI_add, pk_mul, pk_sub, n_leT, n_leF, n_ltT, n_ltF, n_eqT, n_eqF, n_shl1, n_shl, n_shr, nI_and, nI_or, nI_xor, b2i_z, b2i_o, m1_n, n_m1, m1_lt, m1_le, n_lm1, n_em1, nI_m1, and1, and3, and7, and15, and63, and255, Bool.true_eq_false, Bool.false_eq_true, reduceCtorEq, Nat.reduceAdd, Nat.reduceMul, Nat.reduceSub, Nat.reduceDiv, Nat.reduceMod, Nat.reducePow, Nat.zero_add, Nat.one_mul, g2, hof]
    refine Ok.mono (c_makeAll (d := d) hM (show 1 < 4 by omega) h8) ?_
    rintro _ ⟨I1, L1, rfl, hM1, hK1, S, sS1, sS2⟩
    obtain ⟨hC1, hF1⟩ := h.kp hM1 hK1
    have hRS1 : RS I1 (sa A) 1 S (sa A 4327) := ⟨sS1, sS2⟩
    obtain ⟨hm1, n1, q1, hE1⟩ : CIn ow ky ln D I1 A nn ∧ ∃ n q, LE I1 ky ln 42 11 n q := ⟨hC1.n.1, hC1.n.2.1⟩
    have g2' : I1 1 2 = nI (sa A 4327) := hM1.1.m.2.2.1
    simp (disch := first | omega | exact c1_int _ | exact c1_none | exact c1_ref _ | exact isRf_ref _ | assumption | exact okRb _ | exact okN1 | exact okN0 | exact rfl) only [N_X10_findSights_0, N_X10_findSights_1, N_X10_findSights_4, N_X10_findSights_5, N_X10_findSights_6, N_X10_findSights_7, N_X10_findSights_10, N_X10_findSights_13, N_X10_findSights_16, N_X10_findSights_19, N_X10_findSights_20, N_X10_findSights_21, N_X10_findSights_24, N_X10_findSights_25, N_X10_findSights_26, N_X10_findSights_29, N_X10_findSights_32, N_X10_findSights_35, N_X10_findSights_36, N_X10_findSights_39, N_X10_findSights_40, N_X10_findSights_41, N_X10_findSights_42, N_X10_findSights_45, N_X10_findSights_48, N_X10_findSights_51, N_X10_findSights_52, N_X10_findSights_54, N_X10_findSights_55, N_X10_findSights_58, N_X10_findSights_59, N_X10_findSights_62, N_X10_findSights_63, N_X10_findSights_66, N_X10_findSights_67, N_X10_findSights_70, N_X10_findSights_73, N_X10_findSights_76, N_X10_findSights_79, N_X10_findSights_80, N_X10_findSights_83, N_X10_findSights_84, N_X10_findSights_85, N_X10_findSights_88, N_X10_findSights_91, N_X10_findSights_94, N_X10_findSights_95, N_X10_findSights_98, N_X10_findSights_101, if_true, if_false, ite_true, ite_false, not_false_eq_true, not_true_eq_false, isRf_ref, isRf_null, c1_int, c1_ref, c1_null, c1_none, rfv_some, rfv_none, Ok_s, tl_some, tl_none, List.nil_append, b2i_n1, b2i_n0, ↓reduceIte, nI_add, pk_mul, pk_sub, n_leT, n_leF, n_ltT, n_ltF, n_eqT, n_eqF, n_shl1, n_shl, n_shr, nI_and, nI_or, nI_xor, b2i_z, b2i_o, m1_n, n_m1, m1_lt, m1_le, n_lm1, n_em1, nI_m1, and1, and3, and7, and15, and63, and255, Bool.true_eq_false, Bool.false_eq_true, reduceCtorEq, Nat.reduceAdd, Nat.reduceMul, Nat.reduceSub, Nat.reduceDiv, Nat.reduceMod, Nat.reducePow, Nat.zero_add, Nat.one_mul, g2']
    refine Ok.mono (c_begin (d := d + 5) hL hC1.2.1 hE1) ?_
    rintro _ ⟨I2, rfl, b1, b2, b3, b4, b5, b6, b7, b8⟩
    obtain ⟨hm2, hF2⟩ := hm1.g b1 hC1.2.1 hC1.2.2.1 (Or.inr b6)
    have hRS2 := b1.rs (a := sa A) hC1.1 (by omega) (by omega) (Or.inr (Or.inr rfl)) _ _ _ hRS1
    simp (disch := first | omega | exact c1_int _ | exact c1_none | exact c1_ref _ | exact isRf_ref _ | assumption | exact okRb _ | exact okN1 | exact okN0 | exact rfl) only [N_X10_findSights_0, N_X10_findSights_1, N_X10_findSights_4, N_X10_findSights_5, N_X10_findSights_6, N_X10_findSights_7, N_X10_findSights_10, N_X10_findSights_13, N_X10_findSights_16, N_X10_findSights_19, N_X10_findSights_20, N_X10_findSights_21, N_X10_findSights_24, N_X10_findSights_25, N_X10_findSights_26, N_X10_findSights_29, N_X10_findSights_32, N_X10_findSights_35, N_X10_findSights_36, N_X10_findSights_39, N_X10_findSights_40, N_X10_findSights_41, N_X10_findSights_42, N_X10_findSights_45, N_X10_findSights_48, N_X10_findSights_51, N_X10_findSights_52, N_X10_findSights_54, N_X10_findSights_55, N_X10_findSights_58, N_X10_findSights_59, N_X10_findSights_62, N_X10_findSights_63, N_X10_findSights_66, N_X10_findSights_67, N_X10_findSights_70, N_X10_findSights_73, N_X10_findSights_76, N_X10_findSights_79, N_X10_findSights_80, N_X10_findSights_83, N_X10_findSights_84, N_X10_findSights_85, N_X10_findSights_88, N_X10_findSights_91, N_X10_findSights_94, N_X10_findSights_95, N_X10_findSights_98, N_X10_findSights_101, if_true, if_false, ite_true, ite_false, not_false_eq_true, not_true_eq_false, isRf_ref, isRf_null, c1_int, c1_ref, c1_null, c1_none, rfv_some, rfv_none, Ok_s, tl_some, tl_none, List.nil_append, b2i_n1, b2i_n0, ↓reduceIte, nI_add, pk_mul, pk_sub, n_leT, n_leF, n_ltT, n_ltF, n_eqT, n_eqF, n_shl1, n_shl, n_shr, nI_and, nI_or, nI_xor, b2i_z, b2i_o, m1_n, n_m1, m1_lt, m1_le, n_lm1, n_em1, nI_m1, and1, and3, and7, and15, and63, and255, Bool.true_eq_false, Bool.false_eq_true, reduceCtorEq, Nat.reduceAdd, Nat.reduceMul, Nat.reduceSub, Nat.reduceDiv, Nat.reduceMod, Nat.reducePow, Nat.zero_add, Nat.one_mul]
    refine Lp (n := 4) (σ := (Nat → Nat → Int32) × Nat × (Nat → Nat)) (E := fun c X => G_X10_findSights xs Ln (d + 6) 53 [some (.ref 0), some (.int (nI s)), some (.int (nI c))] [] (mkW D X.1 L1) _) (Inv := fun c X => X.2.1 ≤ c ∧ SgR X.1 42 43 X.2.1 X.2.2 ∧ (∀ k', k' ≠ 42 → k' ≠ 43 → X.1 k' = I2 k') ∧ (∀ j, j ≠ 4 → X.1 42 j = I2 42 j) ∧ (∀ j, j < X.2.1 → ∃ c', c' < c ∧ X.2.2 j = cpl (sa A) c' (sa A 4320)) ∧ ∀ c', c' < c → cpl (sa A) c' (sa A 4320) = 0 ∨ ∃ j, j < X.2.1 ∧ X.2.2 j = cpl (sa A) c' (sa A 4320)) ?_ ?_ 0 (I2, 0, fun _ => 0) (by omega) ⟨Nat.le_refl _, ⟨b7, Nat.zero_le _, fun c hc => absurd hc (Nat.not_lt_zero c)⟩, fun _ _ _ => rfl, fun _ _ => rfl, fun j hj => absurd hj (Nat.not_lt_zero j), fun c hc => absurd hc (Nat.not_lt_zero c)⟩
    · rintro ⟨I3, k, sg⟩ ⟨k1, k2, r3, o3, k5, k6⟩
      dsimp only at k1 k2 r3 o3 k5 k6 ⊢
      obtain ⟨hm3, hF3⟩ := hm2.ad r3 (o3 3 (by decide))
      have hSg : SgC (sa A) k sg := ⟨k5, k6⟩
      have hRS3 : RS I3 (sa A) 1 S (sa A 4327) := by
        refine ⟨hRS2.1, fun e he hs => ⟨?_, (hRS2.2 e he hs).2⟩⟩
        have := (hRS2.2 e he hs).1
        unfold Rdy TbI at this ⊢
        rw [r3 25 (by decide) (by decide), r3 28 (by decide) (by decide)]
        exact this
      have hE3 : LE I3 ky ln 42 11 0 (fun _ => 0) := by
        have hk3 : ∀ i, 11 ≤ i → i ≤ 11 + 5 → I3 (ky i) = I2 (ky i) ∧ ln i = ln i := fun i hi1 hi2 => ⟨r3 _ (by have := hC1.2.1.hi (i := i) (by omega) (by omega); omega) (by have := hC1.2.1.hi (i := i) (by omega) (by omega); omega), rfl⟩
        obtain ⟨c1, c2, c3, c4, c5, c6, c7, c8, c9, c10⟩ := b2
        refine ⟨by rw [o3 5 (by decide)]; exact c1, c2, c3, c4, c5, c6, c7, c8, fun i hi => absurd hi (Nat.not_lt_zero i), ?_⟩
        rw [(hk3 11 (by omega) (by omega)).1]
        exact c10
      have g23 : I3 1 2 = nI (sa A 4327) := hm3.2.2.2.1.1.m.2.2.1
      have hVS : VP (sa A) 1 S (8 * s + sa A 4327) := ⟨vS_of hA hs hS, by rw [show (8 * s + sa A 4327) % 8 = sa A 4327 by omega]; exact sS1⟩
      have hLY : LY D I3 ow ky ln 42 11 (zB + 600 * nn) (VP (sa A) 1 S) 0 (fun _ => 0) ((D, I3, L1, ow, ky, ln), 0, fun _ => 0) := ⟨⟨hC1.2.1, hC1.2.2.1, GX.rf, hE3, fun i hi => absurd hi (Nat.not_lt_zero i), fun _ _ => rfl⟩, ⟨Nat.le_refl _, fun _ _ => rfl⟩, fun i j hi => absurd hi (Nat.not_lt_zero i), fun i hi => absurd hi (Nat.not_lt_zero i)⟩
      rw [N_X10_findSights_53]
      simp (disch := first | omega | exact c1_int _ | exact c1_none | exact c1_ref _ | exact isRf_ref _ | assumption | exact okRb _ | exact okN1 | exact okN0 | exact rfl) only [N_X10_findSights_0, N_X10_findSights_1, N_X10_findSights_4, N_X10_findSights_5, N_X10_findSights_6, N_X10_findSights_7, N_X10_findSights_10, N_X10_findSights_13, N_X10_findSights_16, N_X10_findSights_19, N_X10_findSights_20, N_X10_findSights_21, N_X10_findSights_24, N_X10_findSights_25, N_X10_findSights_26, N_X10_findSights_29, N_X10_findSights_32, N_X10_findSights_35, N_X10_findSights_36, N_X10_findSights_39, N_X10_findSights_40, N_X10_findSights_41, N_X10_findSights_42, N_X10_findSights_45, N_X10_findSights_48, N_X10_findSights_51, N_X10_findSights_52, N_X10_findSights_54, N_X10_findSights_55, N_X10_findSights_58, N_X10_findSights_59, N_X10_findSights_62, N_X10_findSights_63, N_X10_findSights_66, N_X10_findSights_67, N_X10_findSights_70, N_X10_findSights_73, N_X10_findSights_76, N_X10_findSights_79, N_X10_findSights_80, N_X10_findSights_83, N_X10_findSights_84, N_X10_findSights_85, N_X10_findSights_88, N_X10_findSights_91, N_X10_findSights_94, N_X10_findSights_95, N_X10_findSights_98, N_X10_findSights_101, if_true, if_false, ite_true, ite_false, not_false_eq_true, not_true_eq_false, isRf_ref, isRf_null, c1_int, c1_ref, c1_null, c1_none, rfv_some, rfv_none, Ok_s, tl_some, tl_none, List.nil_append, b2i_n1, b2i_n0, ↓reduceIte, nI_add, pk_mul, pk_sub, n_leT, n_leF, n_ltT, n_ltF, n_eqT, n_eqF, n_shl1, n_shl, n_shr, nI_and, nI_or, nI_xor, b2i_z, b2i_o, m1_n, n_m1, m1_lt, m1_le, n_lm1, n_em1, nI_m1, and1, and3, and7, and15, and63, and255, Bool.true_eq_false, Bool.false_eq_true, reduceCtorEq, Nat.reduceAdd, Nat.reduceMul, Nat.reduceSub, Nat.reduceDiv, Nat.reduceMod, Nat.reducePow, Nat.zero_add, Nat.one_mul, g23]
      refine Ok.mono (c_enterP (d := d + 3) (s := s) (e := sa A 4327) hL hLY (fun x hx => hx.1.1) hs h8 (fun _ => hVS)) ?_
      rintro _ ⟨⟨⟨D4, I4, L4, ow4, ky4, ln4⟩, n4, q4⟩, rfl, ⟨⟨x1, x2, x3, x4, x5, x6⟩, y1, y2⟩, w2, w3⟩
      dsimp only at x1 x2 x3 x4 x5 x6 y2 w3 ⊢
      obtain ⟨hm4, hF4⟩ := hm3.g x3 x1 x2 (Or.inl (x6 3 (by decide)))
      have hM4 := hm4.2.2.2.1
      have hRS4 := x3.rs (a := sa A) hm3.1 (by omega) (by omega) (Or.inr (Or.inr rfl)) _ _ _ hRS3
      have hSg4 : SgR I4 42 43 k sg := ⟨by rw [x6 4 (by decide)]; exact k2.1, by omega, fun c hc => by rw [x3.i hm3.1 (by omega) (by omega) (by omega) (by unfold dy; omega) (by omega)]; exact k2.2.2 c hc⟩
      have e00 : I4 42 0 = nI 1 := by rw [x6 0 (by decide), o3 0 (by decide)]; exact b3
      simp (disch := first | omega | exact c1_int _ | exact c1_none | exact c1_ref _ | exact isRf_ref _ | assumption | exact okRb _ | exact okN1 | exact okN0 | exact rfl) only [N_X10_findSights_0, N_X10_findSights_1, N_X10_findSights_4, N_X10_findSights_5, N_X10_findSights_6, N_X10_findSights_7, N_X10_findSights_10, N_X10_findSights_13, N_X10_findSights_16, N_X10_findSights_19, N_X10_findSights_20, N_X10_findSights_21, N_X10_findSights_24, N_X10_findSights_25, N_X10_findSights_26, N_X10_findSights_29, N_X10_findSights_32, N_X10_findSights_35, N_X10_findSights_36, N_X10_findSights_39, N_X10_findSights_40, N_X10_findSights_41, N_X10_findSights_42, N_X10_findSights_45, N_X10_findSights_48, N_X10_findSights_51, N_X10_findSights_52, N_X10_findSights_54, N_X10_findSights_55, N_X10_findSights_58, N_X10_findSights_59, N_X10_findSights_62, N_X10_findSights_63, N_X10_findSights_66, N_X10_findSights_67, N_X10_findSights_70, N_X10_findSights_73, N_X10_findSights_76, N_X10_findSights_79, N_X10_findSights_80, N_X10_findSights_83, N_X10_findSights_84, N_X10_findSights_85, N_X10_findSights_88, N_X10_findSights_91, N_X10_findSights_94, N_X10_findSights_95, N_X10_findSights_98, N_X10_findSights_101, if_true, if_false, ite_true, ite_false, not_false_eq_true, not_true_eq_false, isRf_ref, isRf_null, c1_int, c1_ref, c1_null, c1_none, rfv_some, rfv_none, Ok_s, tl_some, tl_none, List.nil_append, b2i_n1, b2i_n0, ↓reduceIte, nI_add, pk_mul, pk_sub, n_leT, n_leF, n_ltT, n_ltF, n_eqT, n_eqF, n_shl1, n_shl, n_shr, nI_and, nI_or, nI_xor, b2i_z, b2i_o, m1_n, n_m1, m1_lt, m1_le, n_lm1, n_em1, nI_m1, and1, and3, and7, and15, and63, and255, Bool.true_eq_false, Bool.false_eq_true, reduceCtorEq, Nat.reduceAdd, Nat.reduceMul, Nat.reduceSub, Nat.reduceDiv, Nat.reduceMod, Nat.reducePow, Nat.zero_add, Nat.one_mul]
      refine Ok.mono (c_solve (d := d) (VV := VP (sa A) 1 S) hL hm4.1 x1 x2 hM4 (by omega) (by omega) e00 (by rw [x6 6 (by decide), o3 6 (by decide)]; exact b8) hSg4 x4 x5 y2 (fun x hx => ⟨hx.1, (hRS4.2 (x % 8) (by omega) hx.2).1⟩) (fun x w y c hx hy _ => VP_cl hA (by omega) (by omega) hRS4 x w y c hx hy)) ?_
      rintro _ ⟨⟨D5, I5, L5, ow5, ky5, ln5⟩, n5, q5, lev5, rfl, z1, z2, z3, z4, z5, z6⟩
      dsimp only at z1 z2 z3 z4 z6 ⊢
      obtain ⟨hm5, hF5⟩ := hm4.g z3 z1 z2 (Or.inl (z4 3 (by decide) (by decide)))
      have hRS5 := z3.rs (a := sa A) hm4.1 (by omega) (by omega) (Or.inr (Or.inr rfl)) _ _ _ hRS4
      have hent5 : 2 ≤ pcN s 12 → ∃ p, p < n5 ∧ q5 p = 8 * s + sa A 4327 := by
        intro h2
        obtain ⟨p, p1, p2⟩ := w3 h2
        exact ⟨p, Nat.lt_of_lt_of_le p1 z5.1, by rw [z5.2 p p1]; exact p2⟩
      have hLv : Lvd (sa A) I5 ky5 ln5 42 11 43 1 k sg (sa A 4327) S n5 q5 lev5 := by
        refine ⟨by omega, by omega, by rw [z4 0 (by decide) (by decide)]; exact e00, ?_, h8, ⟨by rw [z4 4 (by decide) (by decide)]; exact hSg4.1, by omega, fun c hc => ?_⟩, hRS5, z6⟩
        · rw [z4 2 (by decide) (by decide), x6 2 (by decide), o3 2 (by decide)]; exact b5
        · rw [z3.i hm4.1 (by omega) (by omega) (by omega) (by unfold dy; omega) (by omega)]; exact hSg4.2.2 c hc
      simp (disch := first | omega | exact c1_int _ | exact c1_none | exact c1_ref _ | exact isRf_ref _ | assumption | exact okRb _ | exact okN1 | exact okN0 | exact rfl) only [N_X10_findSights_0, N_X10_findSights_1, N_X10_findSights_4, N_X10_findSights_5, N_X10_findSights_6, N_X10_findSights_7, N_X10_findSights_10, N_X10_findSights_13, N_X10_findSights_16, N_X10_findSights_19, N_X10_findSights_20, N_X10_findSights_21, N_X10_findSights_24, N_X10_findSights_25, N_X10_findSights_26, N_X10_findSights_29, N_X10_findSights_32, N_X10_findSights_35, N_X10_findSights_36, N_X10_findSights_39, N_X10_findSights_40, N_X10_findSights_41, N_X10_findSights_42, N_X10_findSights_45, N_X10_findSights_48, N_X10_findSights_51, N_X10_findSights_52, N_X10_findSights_54, N_X10_findSights_55, N_X10_findSights_58, N_X10_findSights_59, N_X10_findSights_62, N_X10_findSights_63, N_X10_findSights_66, N_X10_findSights_67, N_X10_findSights_70, N_X10_findSights_73, N_X10_findSights_76, N_X10_findSights_79, N_X10_findSights_80, N_X10_findSights_83, N_X10_findSights_84, N_X10_findSights_85, N_X10_findSights_88, N_X10_findSights_91, N_X10_findSights_94, N_X10_findSights_95, N_X10_findSights_98, N_X10_findSights_101, if_true, if_false, ite_true, ite_false, not_false_eq_true, not_true_eq_false, isRf_ref, isRf_null, c1_int, c1_ref, c1_null, c1_none, rfv_some, rfv_none, Ok_s, tl_some, tl_none, List.nil_append, b2i_n1, b2i_n0, ↓reduceIte, nI_add, pk_mul, pk_sub, n_leT, n_leF, n_ltT, n_ltF, n_eqT, n_eqF, n_shl1, n_shl, n_shr, nI_and, nI_or, nI_xor, b2i_z, b2i_o, m1_n, n_m1, m1_lt, m1_le, n_lm1, n_em1, nI_m1, and1, and3, and7, and15, and63, and255, Bool.true_eq_false, Bool.false_eq_true, reduceCtorEq, Nat.reduceAdd, Nat.reduceMul, Nat.reduceSub, Nat.reduceDiv, Nat.reduceMod, Nat.reducePow, Nat.zero_add, Nat.one_mul]
      refine ⟨D5, I5, L5, ow5, ky5, ln5, rfl, hm5.x ⟨⟨n5, q5, z6.1⟩, fun _ => ⟨k, sg, sa A 4327, S, n5, q5, lev5, s, hLv, ?_, hs, hSg, hent5⟩⟩, ((((hF1.tr hF2).tr hF3).tr hF4).tr hF5), k, sg, S, n5, q5, lev5, hLv, hSg, hent5⟩
      rw [z4 1 (by decide) (by decide), x6 1 (by decide), o3 1 (by decide)]; exact b4
    · rintro c ⟨I3, k, sg⟩ hc ⟨k1, k2, r3, o3, k5, k6⟩ ih
      dsimp only at k1 k2 r3 o3 k5 k6 ⊢
      obtain ⟨hm3, hF3⟩ := hm2.ad r3 (o3 3 (by decide))
      have hpl := c_placesOf (xs := xs) (Ln := Ln) (d := d + 5) (D := D) (L := L1) hm3.2.2.2.1.1 hA hc
      have hcl := cpl_lt (sa A) c (sa A 4320)
      obtain ⟨I4, hc4, r4, o4, s4⟩ := c_addSight (xs := xs) (Ln := Ln) (d := d + 5) (D := D) (I := I3) (L := L1) (k := k) (s := cpl (sa A) c (sa A 4320)) (sg := sg) hL k2 (by omega) (by omega)
      rw [N_X10_findSights_53]
      simp (disch := first | omega | exact c1_int _ | exact c1_none | exact c1_ref _ | exact isRf_ref _ | assumption | exact okRb _ | exact okN1 | exact okN0 | exact rfl) only [N_X10_findSights_0, N_X10_findSights_1, N_X10_findSights_4, N_X10_findSights_5, N_X10_findSights_6, N_X10_findSights_7, N_X10_findSights_10, N_X10_findSights_13, N_X10_findSights_16, N_X10_findSights_19, N_X10_findSights_20, N_X10_findSights_21, N_X10_findSights_24, N_X10_findSights_25, N_X10_findSights_26, N_X10_findSights_29, N_X10_findSights_32, N_X10_findSights_35, N_X10_findSights_36, N_X10_findSights_39, N_X10_findSights_40, N_X10_findSights_41, N_X10_findSights_42, N_X10_findSights_45, N_X10_findSights_48, N_X10_findSights_51, N_X10_findSights_52, N_X10_findSights_54, N_X10_findSights_55, N_X10_findSights_58, N_X10_findSights_59, N_X10_findSights_62, N_X10_findSights_63, N_X10_findSights_66, N_X10_findSights_67, N_X10_findSights_70, N_X10_findSights_73, N_X10_findSights_76, N_X10_findSights_79, N_X10_findSights_80, N_X10_findSights_83, N_X10_findSights_84, N_X10_findSights_85, N_X10_findSights_88, N_X10_findSights_91, N_X10_findSights_94, N_X10_findSights_95, N_X10_findSights_98, N_X10_findSights_101, if_true, if_false, ite_true, ite_false, not_false_eq_true, not_true_eq_false, isRf_ref, isRf_null, c1_int, c1_ref, c1_null, c1_none, rfv_some, rfv_none, Ok_s, tl_some, tl_none, List.nil_append, b2i_n1, b2i_n0, ↓reduceIte, nI_add, pk_mul, pk_sub, n_leT, n_leF, n_ltT, n_ltF, n_eqT, n_eqF, n_shl1, n_shl, n_shr, nI_and, nI_or, nI_xor, b2i_z, b2i_o, m1_n, n_m1, m1_lt, m1_le, n_lm1, n_em1, nI_m1, and1, and3, and7, and15, and63, and255, Bool.true_eq_false, Bool.false_eq_true, reduceCtorEq, Nat.reduceAdd, Nat.reduceMul, Nat.reduceSub, Nat.reduceDiv, Nat.reduceMod, Nat.reducePow, Nat.zero_add, Nat.one_mul, hpl, hc4]
      have r4' : ∀ k', k' ≠ 42 → k' ≠ 43 → I4 k' = I2 k' := fun k' h1 h2 => by rw [r4 k' h1 h2, r3 k' h1 h2]
      have o4' : ∀ j, j ≠ 4 → I4 42 j = I2 42 j := fun j hj => by rw [o4 j hj, o3 j hj]
      by_cases hz : cpl (sa A) c (sa A 4320) = 0
      · rw [if_pos hz] at s4
        refine ih (I4, k, sg) ⟨by show k ≤ c + 1; omega, s4, r4', o4', fun j hj => ?_, fun c' hc' => ?_⟩
        · obtain ⟨c', e1, e2⟩ := k5 j hj
          exact ⟨c', by omega, e2⟩
        · by_cases ec : c' = c
          · subst ec; exact Or.inl hz
          · exact k6 c' (by omega)
      · rw [if_neg hz] at s4
        refine ih (I4, k + 1, up1 sg k (cpl (sa A) c (sa A 4320))) ⟨by show k + 1 ≤ c + 1; omega, s4, r4', o4', fun j hj => ?_, fun c' hc' => ?_⟩
        · by_cases ej : j = k
          · subst ej
            exact ⟨c, by omega, up1_s _ _ _⟩
          · have hj' : j < k + 1 := hj
            obtain ⟨c', e1, e2⟩ := k5 j (by omega)
            refine ⟨c', by omega, ?_⟩
            show up1 sg k (cpl (sa A) c (sa A 4320)) j = _
            rw [up1_n _ _ ej]
            exact e2
        · by_cases ec : c' = c
          · subst ec
            exact Or.inr ⟨k, Nat.lt_succ_self k, up1_s _ _ _⟩
          · rcases k6 c' (by omega) with h0 | ⟨j, j1, j2⟩
            · exact Or.inl h0
            · refine Or.inr ⟨j, Nat.lt_succ_of_lt j1, ?_⟩
              show up1 sg k (cpl (sa A) c (sa A 4320)) j = _
              rw [up1_n _ _ (by omega)]
              exact j2
theorem C_sight {set : Int32} {x : Int32} (hx : x = aSight (sa A) set) (h : CI D I A nn) : CCall xs Ln (d + 8) 118 [.ref 0, .int set] D I L A nn x := by
  obtain ⟨ow, ky, ln, h⟩ := h
  have hM := h.2.2.2.1
  have hA := hM.2.1
  have hP := hA.1
  have h8 := hA.2.2.2.2.2.2.2.1
  refine semG (lo := [some (.ref 0), some (.int set)]) rfl rfl (Nat.le_of_ble_eq_true rfl) rfl (show G_X10_sight xs Ln _ 0 [some (.ref 0), some (.int set)] [] _ _ from ?_)
  unfold aSight at hx
  have no : x = m1 → ∃ D' I' L', ((mkW D I L, some (.int m1)) : Res) = (mkW D' I' L', some (.int x)) ∧ CI D' I' A (nn + 1) ∧ CFr I I' := fun e => ⟨D, I, L, by rw [e], ⟨ow, ky, ln, h.up⟩, CFr.rf I⟩
  cases h2 : okSI (sa A 4320) (nI 1) set
  · rw [h2, Bool.false_and, if_neg (by decide)] at hx
    simp (disch := first | omega | exact c1_int _ | exact c1_none | exact c1_ref _ | exact isRf_ref _ | assumption | exact okRb _ | exact okN1 | exact okN0 | exact rfl) only [N_X10_sight_0, N_X10_sight_1, N_X10_sight_2, N_X10_sight_3, N_X10_sight_6, N_X10_sight_9, N_X10_sight_10, N_X10_sight_13, N_X10_sight_14, N_X10_sight_15, N_X10_sight_16, N_X10_sight_17, N_X10_sight_20, N_X10_sight_21, N_X10_sight_24, N_X10_sight_25, N_X10_sight_26, N_X10_sight_29, N_X10_sight_32, N_X10_sight_35, if_true, if_false, ite_true, ite_false, not_false_eq_true, not_true_eq_false, isRf_ref, isRf_null, c1_int, c1_ref, c1_null, c1_none, rfv_some, rfv_none, Ok_s, tl_some, tl_none, List.nil_append, b2i_n1, b2i_n0, ↓reduceIte, nI_add, pk_mul, pk_sub, n_leT, n_leF, n_ltT, n_ltF, n_eqT, n_eqF, n_shl1, n_shl, n_shr, nI_and, nI_or, nI_xor, b2i_z, b2i_o, m1_n, n_m1, m1_lt, m1_le, n_lm1, n_em1, nI_m1, and1, and3, and7, and15, and63, and255, Bool.true_eq_false, Bool.false_eq_true, reduceCtorEq, Nat.reduceAdd, Nat.reduceMul, Nat.reduceSub, Nat.reduceDiv, Nat.reduceMod, Nat.reducePow, Nat.zero_add, Nat.one_mul, c_isSetOf hM.1 hA, h2]
    exact no hx
  · obtain ⟨s, hs4, rfl, hS⟩ := okSI_1 h2
    by_cases h0 : s = 0
    · subst h0
      rw [decide_eq_true rfl, Bool.not_true, Bool.and_false, if_neg (by decide)] at hx
      simp (disch := first | omega | exact c1_int _ | exact c1_none | exact c1_ref _ | exact isRf_ref _ | assumption | exact okRb _ | exact okN1 | exact okN0 | exact rfl) only [N_X10_sight_0, N_X10_sight_1, N_X10_sight_2, N_X10_sight_3, N_X10_sight_6, N_X10_sight_9, N_X10_sight_10, N_X10_sight_13, N_X10_sight_14, N_X10_sight_15, N_X10_sight_16, N_X10_sight_17, N_X10_sight_20, N_X10_sight_21, N_X10_sight_24, N_X10_sight_25, N_X10_sight_26, N_X10_sight_29, N_X10_sight_32, N_X10_sight_35, if_true, if_false, ite_true, ite_false, not_false_eq_true, not_true_eq_false, isRf_ref, isRf_null, c1_int, c1_ref, c1_null, c1_none, rfv_some, rfv_none, Ok_s, tl_some, tl_none, List.nil_append, b2i_n1, b2i_n0, ↓reduceIte, nI_add, pk_mul, pk_sub, n_leT, n_leF, n_ltT, n_ltF, n_eqT, n_eqF, n_shl1, n_shl, n_shr, nI_and, nI_or, nI_xor, b2i_z, b2i_o, m1_n, n_m1, m1_lt, m1_le, n_lm1, n_em1, nI_m1, and1, and3, and7, and15, and63, and255, Bool.true_eq_false, Bool.false_eq_true, reduceCtorEq, Nat.reduceAdd, Nat.reduceMul, Nat.reduceSub, Nat.reduceDiv, Nat.reduceMod, Nat.reducePow, Nat.zero_add, Nat.one_mul, c_isSetOf hM.1 hA, h2]
      exact no hx
    · have hne : decide (nI s = nI 0) = false := decide_eq_false (nl_ne h0 (by omega) (by decide))
      have hst : stA (sa A) (nI s) = 8 * s + sa A 4327 := by unfold stA; rw [n_cl (by omega)]
      rw [h2, hne, if_pos (by decide), hst] at hx
      simp (disch := first | omega | exact c1_int _ | exact c1_none | exact c1_ref _ | exact isRf_ref _ | assumption | exact okRb _ | exact okN1 | exact okN0 | exact rfl) only [N_X10_sight_0, N_X10_sight_1, N_X10_sight_2, N_X10_sight_3, N_X10_sight_6, N_X10_sight_9, N_X10_sight_10, N_X10_sight_13, N_X10_sight_14, N_X10_sight_15, N_X10_sight_16, N_X10_sight_17, N_X10_sight_20, N_X10_sight_21, N_X10_sight_24, N_X10_sight_25, N_X10_sight_26, N_X10_sight_29, N_X10_sight_32, N_X10_sight_35, if_true, if_false, ite_true, ite_false, not_false_eq_true, not_true_eq_false, isRf_ref, isRf_null, c1_int, c1_ref, c1_null, c1_none, rfv_some, rfv_none, Ok_s, tl_some, tl_none, List.nil_append, b2i_n1, b2i_n0, ↓reduceIte, nI_add, pk_mul, pk_sub, n_leT, n_leF, n_ltT, n_ltF, n_eqT, n_eqF, n_shl1, n_shl, n_shr, nI_and, nI_or, nI_xor, b2i_z, b2i_o, m1_n, n_m1, m1_lt, m1_le, n_lm1, n_em1, nI_m1, and1, and3, and7, and15, and63, and255, Bool.true_eq_false, Bool.false_eq_true, reduceCtorEq, Nat.reduceAdd, Nat.reduceMul, Nat.reduceSub, Nat.reduceDiv, Nat.reduceMod, Nat.reducePow, Nat.zero_add, Nat.one_mul, c_isSetOf hM.1 hA, h2]
      refine Ok.mono (c_findSi (d := d) h hs4 hS) ?_
      rintro _ ⟨D', I', L', ow', ky', ln', rfl, hC, hF, k, sg, S, n, q, lev, hV, hSg, hen⟩
      have gd : I' 1 2 = nI (sa A 4327) := hC.2.2.2.1.1.m.2.2.1
      have hn0 : pcN s 12 ≠ 0 := by rw [Ne, pc_0 hs4]; exact h0
      have hk : kwn n q (8 * s + sa A 4327) := by
        by_cases h1 : pcN s 12 = 1
        · exact Or.inl (by rw [show (8 * s + sa A 4327) / 8 = s by omega]; exact h1)
        · exact Or.inr (hen (by omega))
      have hl := c_levelOf (xs := xs) (Ln := Ln) (d := d + 5) (L := L') (Or.inr ⟨rfl, rfl, rfl⟩) hC.2.1 hV.2.2.2.2.2.2.2 hs4 h8 hk
      rw [glv_sg hA hSg (vS_of hA hs4 hS)] at hl
      simp (disch := first | omega | exact c1_int _ | exact c1_none | exact c1_ref _ | exact isRf_ref _ | assumption | exact okRb _ | exact okN1 | exact okN0 | exact rfl) only [N_X10_sight_0, N_X10_sight_1, N_X10_sight_2, N_X10_sight_3, N_X10_sight_6, N_X10_sight_9, N_X10_sight_10, N_X10_sight_13, N_X10_sight_14, N_X10_sight_15, N_X10_sight_16, N_X10_sight_17, N_X10_sight_20, N_X10_sight_21, N_X10_sight_24, N_X10_sight_25, N_X10_sight_26, N_X10_sight_29, N_X10_sight_32, N_X10_sight_35, if_true, if_false, ite_true, ite_false, not_false_eq_true, not_true_eq_false, isRf_ref, isRf_null, c1_int, c1_ref, c1_null, c1_none, rfv_some, rfv_none, Ok_s, tl_some, tl_none, List.nil_append, b2i_n1, b2i_n0, ↓reduceIte, nI_add, pk_mul, pk_sub, n_leT, n_leF, n_ltT, n_ltF, n_eqT, n_eqF, n_shl1, n_shl, n_shr, nI_and, nI_or, nI_xor, b2i_z, b2i_o, m1_n, n_m1, m1_lt, m1_le, n_lm1, n_em1, nI_m1, and1, and3, and7, and15, and63, and255, Bool.true_eq_false, Bool.false_eq_true, reduceCtorEq, Nat.reduceAdd, Nat.reduceMul, Nat.reduceSub, Nat.reduceDiv, Nat.reduceMod, Nat.reducePow, Nat.zero_add, Nat.one_mul, gd, hl]
      exact ⟨D', I', L', by rw [hx], ⟨ow', ky', ln', hC.up⟩, hF⟩
theorem C_ask {set : Int32} {x : Int32} (hx : x = aAsk (sa A) set) (h : CI D I A nn) : CCall xs Ln (d + 8) 119 [.ref 0, .int set] D I L A nn x := by
  obtain ⟨ow, ky, ln, h⟩ := h
  have hM := h.2.2.2.1
  have hA := hM.2.1
  have hP := hA.1
  have h8 := hA.2.2.2.2.2.2.2.1
  refine semG (lo := [some (.ref 0), some (.int set)]) rfl rfl (Nat.le_of_ble_eq_true rfl) rfl (show G_X10_ask xs Ln _ 0 [some (.ref 0), some (.int set)] [] _ _ from ?_)
  unfold aAsk at hx
  have no : x = m1 → ∃ D' I' L', ((mkW D I L, some (.int m1)) : Res) = (mkW D' I' L', some (.int x)) ∧ CI D' I' A (nn + 1) ∧ CFr I I' := fun e => ⟨D, I, L, by rw [e], ⟨ow, ky, ln, h.up⟩, CFr.rf I⟩
  cases h2 : okSI (sa A 4320) (nI 1) set
  · rw [h2, Bool.false_and, if_neg (by decide)] at hx
    simp (disch := first | omega | exact c1_int _ | exact c1_none | exact c1_ref _ | exact isRf_ref _ | assumption | exact okRb _ | exact okN1 | exact okN0 | exact rfl) only [N_X10_ask_0, N_X10_ask_1, N_X10_ask_2, N_X10_ask_3, N_X10_ask_6, N_X10_ask_9, N_X10_ask_10, N_X10_ask_13, N_X10_ask_14, N_X10_ask_15, N_X10_ask_16, N_X10_ask_17, N_X10_ask_20, N_X10_ask_21, N_X10_ask_24, N_X10_ask_25, N_X10_ask_26, N_X10_ask_29, N_X10_ask_32, N_X10_ask_35, if_true, if_false, ite_true, ite_false, not_false_eq_true, not_true_eq_false, isRf_ref, isRf_null, c1_int, c1_ref, c1_null, c1_none, rfv_some, rfv_none, Ok_s, tl_some, tl_none, List.nil_append, b2i_n1, b2i_n0, ↓reduceIte, nI_add, pk_mul, pk_sub, n_leT, n_leF, n_ltT, n_ltF, n_eqT, n_eqF, n_shl1, n_shl, n_shr, nI_and, nI_or, nI_xor, b2i_z, b2i_o, m1_n, n_m1, m1_lt, m1_le, n_lm1, n_em1, nI_m1, and1, and3, and7, and15, and63, and255, Bool.true_eq_false, Bool.false_eq_true, reduceCtorEq, Nat.reduceAdd, Nat.reduceMul, Nat.reduceSub, Nat.reduceDiv, Nat.reduceMod, Nat.reducePow, Nat.zero_add, Nat.one_mul, c_isSetOf hM.1 hA, h2]
    exact no hx
  · obtain ⟨s, hs4, rfl, hS⟩ := okSI_1 h2
    by_cases h0 : s = 0
    · subst h0
      rw [decide_eq_true rfl, Bool.not_true, Bool.and_false, if_neg (by decide)] at hx
      simp (disch := first | omega | exact c1_int _ | exact c1_none | exact c1_ref _ | exact isRf_ref _ | assumption | exact okRb _ | exact okN1 | exact okN0 | exact rfl) only [N_X10_ask_0, N_X10_ask_1, N_X10_ask_2, N_X10_ask_3, N_X10_ask_6, N_X10_ask_9, N_X10_ask_10, N_X10_ask_13, N_X10_ask_14, N_X10_ask_15, N_X10_ask_16, N_X10_ask_17, N_X10_ask_20, N_X10_ask_21, N_X10_ask_24, N_X10_ask_25, N_X10_ask_26, N_X10_ask_29, N_X10_ask_32, N_X10_ask_35, if_true, if_false, ite_true, ite_false, not_false_eq_true, not_true_eq_false, isRf_ref, isRf_null, c1_int, c1_ref, c1_null, c1_none, rfv_some, rfv_none, Ok_s, tl_some, tl_none, List.nil_append, b2i_n1, b2i_n0, ↓reduceIte, nI_add, pk_mul, pk_sub, n_leT, n_leF, n_ltT, n_ltF, n_eqT, n_eqF, n_shl1, n_shl, n_shr, nI_and, nI_or, nI_xor, b2i_z, b2i_o, m1_n, n_m1, m1_lt, m1_le, n_lm1, n_em1, nI_m1, and1, and3, and7, and15, and63, and255, Bool.true_eq_false, Bool.false_eq_true, reduceCtorEq, Nat.reduceAdd, Nat.reduceMul, Nat.reduceSub, Nat.reduceDiv, Nat.reduceMod, Nat.reducePow, Nat.zero_add, Nat.one_mul, c_isSetOf hM.1 hA, h2]
      exact no hx
    · have hne : decide (nI s = nI 0) = false := decide_eq_false (nl_ne h0 (by omega) (by decide))
      have hst : stA (sa A) (nI s) = 8 * s + sa A 4327 := by unfold stA; rw [n_cl (by omega)]
      rw [h2, hne, if_pos (by decide), hst] at hx
      simp (disch := first | omega | exact c1_int _ | exact c1_none | exact c1_ref _ | exact isRf_ref _ | assumption | exact okRb _ | exact okN1 | exact okN0 | exact rfl) only [N_X10_ask_0, N_X10_ask_1, N_X10_ask_2, N_X10_ask_3, N_X10_ask_6, N_X10_ask_9, N_X10_ask_10, N_X10_ask_13, N_X10_ask_14, N_X10_ask_15, N_X10_ask_16, N_X10_ask_17, N_X10_ask_20, N_X10_ask_21, N_X10_ask_24, N_X10_ask_25, N_X10_ask_26, N_X10_ask_29, N_X10_ask_32, N_X10_ask_35, if_true, if_false, ite_true, ite_false, not_false_eq_true, not_true_eq_false, isRf_ref, isRf_null, c1_int, c1_ref, c1_null, c1_none, rfv_some, rfv_none, Ok_s, tl_some, tl_none, List.nil_append, b2i_n1, b2i_n0, ↓reduceIte, nI_add, pk_mul, pk_sub, n_leT, n_leF, n_ltT, n_ltF, n_eqT, n_eqF, n_shl1, n_shl, n_shr, nI_and, nI_or, nI_xor, b2i_z, b2i_o, m1_n, n_m1, m1_lt, m1_le, n_lm1, n_em1, nI_m1, and1, and3, and7, and15, and63, and255, Bool.true_eq_false, Bool.false_eq_true, reduceCtorEq, Nat.reduceAdd, Nat.reduceMul, Nat.reduceSub, Nat.reduceDiv, Nat.reduceMod, Nat.reducePow, Nat.zero_add, Nat.one_mul, c_isSetOf hM.1 hA, h2]
      refine Ok.mono (c_findSi (d := d) h hs4 hS) ?_
      rintro _ ⟨D', I', L', ow', ky', ln', rfl, hC, hF, k, sg, S, n, q, lev, hV, hSg, hen⟩
      have gd : I' 1 2 = nI (sa A 4327) := hC.2.2.2.1.1.m.2.2.1
      have hn0 : pcN s 12 ≠ 0 := by rw [Ne, pc_0 hs4]; exact h0
      have hk : kwn n q (8 * s + sa A 4327) := by
        by_cases h1 : pcN s 12 = 1
        · exact Or.inl (by rw [show (8 * s + sa A 4327) / 8 = s by omega]; exact h1)
        · exact Or.inr (hen (by omega))
      obtain ⟨l1, l2, l3, l4, l5, l6, l7, l8⟩ := hV
      have hl := c_firstW (xs := xs) (Ln := Ln) (d := d + 3) (L := L') (Or.inr ⟨rfl, rfl, rfl⟩) hC.2.1 l8 l6 hC.2.2.2.1 (by omega) (by omega) l3 hs4 h8 hk (vS_of hA hs4 hS) (l7.2 _ h8 l7.1).1
      rw [fwd_sg hA hSg (vS_of hA hs4 hS)] at hl
      simp (disch := first | omega | exact c1_int _ | exact c1_none | exact c1_ref _ | exact isRf_ref _ | assumption | exact okRb _ | exact okN1 | exact okN0 | exact rfl) only [N_X10_ask_0, N_X10_ask_1, N_X10_ask_2, N_X10_ask_3, N_X10_ask_6, N_X10_ask_9, N_X10_ask_10, N_X10_ask_13, N_X10_ask_14, N_X10_ask_15, N_X10_ask_16, N_X10_ask_17, N_X10_ask_20, N_X10_ask_21, N_X10_ask_24, N_X10_ask_25, N_X10_ask_26, N_X10_ask_29, N_X10_ask_32, N_X10_ask_35, if_true, if_false, ite_true, ite_false, not_false_eq_true, not_true_eq_false, isRf_ref, isRf_null, c1_int, c1_ref, c1_null, c1_none, rfv_some, rfv_none, Ok_s, tl_some, tl_none, List.nil_append, b2i_n1, b2i_n0, ↓reduceIte, nI_add, pk_mul, pk_sub, n_leT, n_leF, n_ltT, n_ltF, n_eqT, n_eqF, n_shl1, n_shl, n_shr, nI_and, nI_or, nI_xor, b2i_z, b2i_o, m1_n, n_m1, m1_lt, m1_le, n_lm1, n_em1, nI_m1, and1, and3, and7, and15, and63, and255, Bool.true_eq_false, Bool.false_eq_true, reduceCtorEq, Nat.reduceAdd, Nat.reduceMul, Nat.reduceSub, Nat.reduceDiv, Nat.reduceMod, Nat.reducePow, Nat.zero_add, Nat.one_mul, gd, hl]
      refine ⟨D', I', L', ?_, ⟨ow', ky', ln', hC.up⟩, hF⟩
      rw [hx]
      cases hg : sgA (sa A) (8 * s + sa A 4327) with
      | none => rfl
      | some b =>
        cases b with
        | zero => rfl
        | succ b => rfl
end Pe6
