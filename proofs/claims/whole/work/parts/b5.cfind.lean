section Pb5
variable {xs : Nat → Int32} {Ln d : Nat} {D D' D'' : Dyn} {I I' I'' : Nat → Nat → Int32} {L : Nat → Nat → Int64} {w : Om} {Q : Res → Prop} {ow ow' ow'' ky ky' ky'' ln ln' ln'' a : Nat → Nat}
/-- what a search has found -/
def SR (I : Nat → Nat → Int32) (ky ln a : Nat → Nat) (m : Nat) (v : Option (Option Nat)) (wo : Option Nat) (st : Nat) : Prop := ∃ s, SS I ky ln s ∧ Ext s (bZ (behW a m wo) st) ∧ (v = none → s = bZ (behW a m wo) st) ∧ (match g0 (behW a m wo) (golB m v) st with
  | none => I 29 0 = m1 ∧ I 29 3 = m1 ∧ I 29 1 = nI 0
  | some g => g < bN s ∧ I 29 3 = nI g ∧ I 29 0 = nI (Fi (bZ (behW a m wo) st) g) ∧ I 29 1 = nI (wyZ (behW a m wo) (golB m v) st (Fi (bZ (behW a m wo) st) g) (bN (bZ (behW a m wo) st))))
/-- what the search keeps -/
def SrC (I : Nat → Nat → Int32) (ky ln a : Nat → Nat) : Prop := (∃ s, SS I ky ln s) ∧ (I 29 8 = I 23 0 → ∃ m v wo st, 1 ≤ m ∧ m ≤ 3 ∧ I 29 4 = nI m ∧ I 29 5 = nI st ∧ vSt a m st ∧ I 29 6 = avI v ∧ I 29 7 = nO wo ∧ (∀ q, v = some (some q) → q < 12) ∧ (∀ x, wo = some x → x < 8) ∧ SR I ky ln a m v wo st)
theorem nO_inj {x y : Option Nat} {N : Nat} (hN : N ≤ 2147483648) (hx : ∀ q, x = some q → q < N) (hy : ∀ q, y = some q → q < N) (h : nO x = nO y) : x = y := by
  cases x with
  | none =>
    cases y with
    | none => rfl
    | some q => rw [nO_n, nO_s, m1_n (by have := hy q rfl; omega)] at h; exact h.elim
  | some p =>
    have := hx p rfl
    cases y with
    | none => rw [nO_n, nO_s, n_m1 (by omega)] at h; exact h.elim
    | some q =>
      have := hy q rfl
      rw [nO_s, nO_s, n_eq (by omega) (by omega)] at h
      rw [h]
theorem m2_n {a : Nat} (h : a < 2147483648) : m2 ≠ nI a := by
  intro e
  have := congrArg Int32.toInt e
  rw [nI_toInt h, show m2.toInt = -2 by decide] at this
  omega
theorem avI_inj {x y : Option (Option Nat)} (hx : ∀ q, x = some (some q) → q < 12) (hy : ∀ q, y = some (some q) → q < 12) (h : avI x = avI y) : x = y := by
  have key : ∀ t : Option Nat, (∀ q, t = some q → q < 12) → m2 ≠ nO t := by
    intro t ht
    cases t with
    | none => decide
    | some q => exact m2_n (by have := ht q rfl; omega)
  cases x with
  | none =>
    cases y with
    | none => rfl
    | some t => exact absurd h (key t (fun q hq => hy q (by rw [hq])))
  | some s =>
    cases y with
    | none => exact absurd h.symm (key s (fun q hq => hx q (by rw [hq])))
    | some t => rw [nO_inj (N := 12) (by decide) (fun q hq => hx q (by rw [hq])) (fun q hq => hy q (by rw [hq])) h]
theorem golB_t (m : Nat) (t : Option Nat) : golB m (some t) = golA m t := rfl
theorem c_find {vo : Int32} {m st z : Nat} {v : Option (Option Nat)} {wo : Option Nat} (hO : OwS ow) (hD : DA D ow ky ln) (hR : Rm D ln z) (hM : MM ow D I a) (hm1 : 1 ≤ m) (hm : m ≤ 3) (hv : ∀ q, v = some (some q) → q < 12) (hwo : ∀ x, wo = some x → x < 8) (hvs : vSt a m st) (hRa : Rall I a m (st % 8)) (hC : SrC I ky ln a) (hvo : I 29 8 = vo) :
    Ok (callD xs Ln (d + 5) 52 [.ref 29, .int (nI m), .int (nI st), .int (avI v), .int (nO wo)] (mkW D I L)) (fun q => ∃ X : Wd6, q = (mkW X.1 X.2.1 X.2.2.1, none) ∧ DA X.1 X.2.2.2.1 X.2.2.2.2.1 X.2.2.2.2.2 ∧ Rm X.1 X.2.2.2.2.2 z ∧ GX 1 4 29 D I ow ky ln X.1 X.2.1 X.2.2.2.1 X.2.2.2.2.1 X.2.2.2.2.2 ∧ SrC X.2.1 X.2.2.2.2.1 X.2.2.2.2.2 a ∧ SR X.2.1 X.2.2.2.2.1 X.2.2.2.2.2 a m v wo st ∧ (X.2.1 29 8 = vo ∨ X.2.1 29 8 = I 23 0)) := by
  have hA := hM.2.1
  have hst := hvs.1
  obtain ⟨s0, hs0⟩ := hC.1
  refine semG (lo := [some (.ref 29), some (.int (nI m)), some (.int (nI st)), some (.int (avI v)), some (.int (nO wo)), none, none, none]) rfl rfl (Nat.le_of_ble_eq_true rfl) rfl (show G_X6_find xs Ln _ 0 [some (.ref 29), some (.int (nI m)), some (.int (nI st)), some (.int (avI v)), some (.int (nO wo)), none, none, none] [] _ _ from ?_)
  -- the search itself
  have search : G_X6_find xs Ln (d + 4) 48 [some (.ref 29), some (.int (nI m)), some (.int (nI st)), some (.int (avI v)), some (.int (nO wo)), none, none, none] [] (mkW D I L) (fun q => ∃ X : Wd6, q = (mkW X.1 X.2.1 X.2.2.1, none) ∧ DA X.1 X.2.2.2.1 X.2.2.2.2.1 X.2.2.2.2.2 ∧ Rm X.1 X.2.2.2.2.2 z ∧ GX 1 4 29 D I ow ky ln X.1 X.2.1 X.2.2.2.1 X.2.2.2.2.1 X.2.2.2.2.2 ∧ SrC X.2.1 X.2.2.2.2.1 X.2.2.2.2.2 a ∧ SR X.2.1 X.2.2.2.2.1 X.2.2.2.2.2 a m v wo st ∧ (X.2.1 29 8 = vo ∨ X.2.1 29 8 = I 23 0)) := by
    simp (disch := first | omega | exact c1_int _ | exact c1_none | exact c1_ref _ | exact isRf_ref _ | assumption | exact okRb _ | exact okN1 | exact okN0 | exact rfl) only [N_X6_find_0, N_X6_find_1, N_X6_find_4, N_X6_find_5, N_X6_find_8, N_X6_find_11, N_X6_find_14, N_X6_find_15, N_X6_find_18, N_X6_find_19, N_X6_find_22, N_X6_find_23, N_X6_find_26, N_X6_find_27, N_X6_find_30, N_X6_find_31, N_X6_find_34, N_X6_find_35, N_X6_find_38, N_X6_find_39, N_X6_find_42, N_X6_find_44, N_X6_find_47, N_X6_find_48, N_X6_find_49, N_X6_find_52, N_X6_find_53, N_X6_find_54, N_X6_find_57, N_X6_find_60, N_X6_find_63, N_X6_find_64, N_X6_find_65, N_X6_find_68, N_X6_find_69, N_X6_find_70, N_X6_find_73, N_X6_find_74, N_X6_find_75, N_X6_find_78, N_X6_find_79, N_X6_find_81, N_X6_find_84, N_X6_find_85, N_X6_find_86, N_X6_find_87, N_X6_find_88, N_X6_find_91, N_X6_find_92, N_X6_find_94, N_X6_find_95, N_X6_find_99, N_X6_find_101, N_X6_find_104, N_X6_find_106, N_X6_find_107, N_X6_find_110, N_X6_find_113, N_X6_find_114, N_X6_find_117, N_X6_find_119, N_X6_find_120, N_X6_find_122, N_X6_find_124, N_X6_find_127, N_X6_find_128, N_X6_find_131, N_X6_find_132, N_X6_find_135, N_X6_find_136, N_X6_find_138, N_X6_find_141, N_X6_find_142, N_X6_find_143, N_X6_find_145, N_X6_find_147, N_X6_find_150, N_X6_find_152, N_X6_find_154, N_X6_find_157, N_X6_find_160, if_true, if_false, ite_true, ite_false, not_false_eq_true, not_true_eq_false, isRf_ref, isRf_null, c1_int, c1_ref, c1_null, c1_none, rfv_some, rfv_none, Ok_s, tl_some, tl_none, List.nil_append, b2i_n1, b2i_n0, ↓reduceIte, nI_add, pk_mul, pk_sub, n_leT, n_leF, n_ltT, n_ltF, n_eqT, n_eqF, n_shl1, n_shl, n_shr, nI_and, nI_or, nI_xor, b2i_z, b2i_o, m1_n, n_m1, m1_lt, m1_le, n_lm1, n_em1, nI_m1, and1, and3, and7, and15, and63, and255, Bool.true_eq_false, Bool.false_eq_true, reduceCtorEq, Nat.reduceAdd, Nat.reduceMul, Nat.reduceSub, Nat.reduceDiv, Nat.reduceMod, Nat.reducePow, Nat.zero_add, Nat.one_mul]
    refine Ok.mono (c_clear (d := d + 3) hD hs0) ?_
    rintro _ ⟨I1, rfl, g1, c1', c2, c3, c4, c5⟩
    have e23 : I1 23 0 = I 23 0 := by rw [g1.i hO (by omega) (by omega) (by omega) (ndy_lo (by omega)) (by omega)]
    simp (disch := first | omega | exact c1_int _ | exact c1_none | exact c1_ref _ | exact isRf_ref _ | assumption | exact okRb _ | exact okN1 | exact okN0 | exact rfl) only [N_X6_find_0, N_X6_find_1, N_X6_find_4, N_X6_find_5, N_X6_find_8, N_X6_find_11, N_X6_find_14, N_X6_find_15, N_X6_find_18, N_X6_find_19, N_X6_find_22, N_X6_find_23, N_X6_find_26, N_X6_find_27, N_X6_find_30, N_X6_find_31, N_X6_find_34, N_X6_find_35, N_X6_find_38, N_X6_find_39, N_X6_find_42, N_X6_find_44, N_X6_find_47, N_X6_find_48, N_X6_find_49, N_X6_find_52, N_X6_find_53, N_X6_find_54, N_X6_find_57, N_X6_find_60, N_X6_find_63, N_X6_find_64, N_X6_find_65, N_X6_find_68, N_X6_find_69, N_X6_find_70, N_X6_find_73, N_X6_find_74, N_X6_find_75, N_X6_find_78, N_X6_find_79, N_X6_find_81, N_X6_find_84, N_X6_find_85, N_X6_find_86, N_X6_find_87, N_X6_find_88, N_X6_find_91, N_X6_find_92, N_X6_find_94, N_X6_find_95, N_X6_find_99, N_X6_find_101, N_X6_find_104, N_X6_find_106, N_X6_find_107, N_X6_find_110, N_X6_find_113, N_X6_find_114, N_X6_find_117, N_X6_find_119, N_X6_find_120, N_X6_find_122, N_X6_find_124, N_X6_find_127, N_X6_find_128, N_X6_find_131, N_X6_find_132, N_X6_find_135, N_X6_find_136, N_X6_find_138, N_X6_find_141, N_X6_find_142, N_X6_find_143, N_X6_find_145, N_X6_find_147, N_X6_find_150, N_X6_find_152, N_X6_find_154, N_X6_find_157, N_X6_find_160, if_true, if_false, ite_true, ite_false, not_false_eq_true, not_true_eq_false, isRf_ref, isRf_null, c1_int, c1_ref, c1_null, c1_none, rfv_some, rfv_none, Ok_s, tl_some, tl_none, List.nil_append, b2i_n1, b2i_n0, ↓reduceIte, nI_add, pk_mul, pk_sub, n_leT, n_leF, n_ltT, n_ltF, n_eqT, n_eqF, n_shl1, n_shl, n_shr, nI_and, nI_or, nI_xor, b2i_z, b2i_o, m1_n, n_m1, m1_lt, m1_le, n_lm1, n_em1, nI_m1, and1, and3, and7, and15, and63, and255, Bool.true_eq_false, Bool.false_eq_true, reduceCtorEq, Nat.reduceAdd, Nat.reduceMul, Nat.reduceSub, Nat.reduceDiv, Nat.reduceMod, Nat.reducePow, Nat.zero_add, Nat.one_mul, e23]
    have g2 : GX 1 4 29 D I ow ky ln D (up2 (up2 (up2 (up2 (up2 I1 29 8 (I 23 0)) 29 4 (nI m)) 29 5 (nI st)) 29 6 (avI v)) 29 7 (nO wo)) ow ky ln := ((((g1.u (Or.inl rfl)).u (Or.inl rfl)).u (Or.inl rfl)).u (Or.inl rfl)).u (Or.inl rfl)
    generalize hI2 : up2 (up2 (up2 (up2 (up2 I1 29 8 (I 23 0)) 29 4 (nI m)) 29 5 (nI st)) 29 6 (avI v)) 29 7 (nO wo) = I2 at *
    have r29 : ∀ k, k ≠ 29 → I2 k = I1 k := by
      intro k hk
      rw [← hI2, up2_ro _ _ _ hk, up2_ro _ _ _ hk, up2_ro _ _ _ hk, up2_ro _ _ _ hk, up2_ro _ _ _ hk]
    have r3 : ∀ j, j < 4 → I2 29 j = I1 29 j := by
      intro j hj
      rw [← hI2, up2_j _ _ _ (by omega), up2_j _ _ _ (by omega), up2_j _ _ _ (by omega), up2_j _ _ _ (by omega), up2_j _ _ _ (by omega)]
    have k8 : I2 29 8 = I 23 0 := by rw [← hI2, up2_j _ _ _ (by decide), up2_j _ _ _ (by decide), up2_j _ _ _ (by decide), up2_j _ _ _ (by decide), up2_s]
    have k4 : I2 29 4 = nI m := by rw [← hI2, up2_j _ _ _ (by decide), up2_j _ _ _ (by decide), up2_j _ _ _ (by decide), up2_s]
    have k5 : I2 29 5 = nI st := by rw [← hI2, up2_j _ _ _ (by decide), up2_j _ _ _ (by decide), up2_s]
    have k6 : I2 29 6 = avI v := by rw [← hI2, up2_j _ _ _ (by decide), up2_s]
    have k7 : I2 29 7 = nO wo := by rw [← hI2, up2_s]
    have d1 := hD.st (i := 1) (by omega) (ndy_lo (show 29 < 30 by omega))
    have d2 := hD.st (i := 2) (by omega) (ndy_lo (show 29 < 30 by omega))
    have d3 := hD.st (i := 3) (by omega) (ndy_lo (show 29 < 30 by omega))
    have d4 := hD.st (i := 4) (by omega) (ndy_lo (show 29 < 30 by omega))
    have S2 : SS I2 ky ln e0 := by
      obtain ⟨w1, w2, w3, w4, w5, w6, w7, w8⟩ := c1'
      refine ⟨by rw [r3 2 (by omega)]; exact w1, w2, w3, w4, w5, w6, ?_, ?_⟩
      · rw [r29 _ d2.symm, r29 _ d3.symm, r29 _ d4.symm]; exact w7
      · rw [r29 _ d1.symm]; exact w8
    refine Ok.mono (c_add (d := d + 1) (s := e0) (t := st) (r := 1) (e := 0) (ev := m1) (z := z) hD hR S2 hst (fun i hi => absurd hi (Nat.not_lt_zero i)) (by show 0 < _; omega) (fun h => absurd h (Nat.lt_irrefl 0))) ?_
    rintro _ ⟨D3, I3, L3, ow3, ky3, ln3, rfl, y1, y2, y3, y4, y5⟩
    have g3 := g2.tr y3
    have S3 : SS I3 ky3 ln3 (b0 st) := by
      refine y4.cg rfl (fun i hi => ?_) (fun i hi => ?_) (fun i hi h0 => ?_)
      · have : i = 0 := by have : i < 1 := hi; omega
        subst this
        show st = up1 (fun _ => 0) 0 st 0
        rw [up1_s]
      · have : i = 0 := by have : i < 1 := hi; omega
        subst this
        rfl
      · have : i < 1 := hi
        omega
    obtain ⟨S, sS1, sS2⟩ := hRa
    have hI := fun e => bfs_I (beh := behW a m wo) (V := fun x => vSt a m x ∧ S (x % 8) = true) (st := st) ⟨hvs, sS1⟩ (by
      intro x wd t hx ht
      unfold behW at ht
      split at ht
      · cases ht
      · refine ⟨(beh_v hA hm1 hm hx.1 ht).1, ?_⟩
        unfold behA at ht
        split at ht
        · rename_i hc
          cases ht
          have hdl := dbA_lt hA hc.1 (show x % 8 < 8 by omega)
          rw [show (8 * sbN (goA a) m (x / 8) wd (x % 8) + dbA a wd (x % 8)) % 8 = dbA a wd (x % 8) by omega]
          exact (sS2 (x % 8) (by omega) hx.2).2 wd hc.1 hc.2
        · cases ht) (fun x hx => hx.1.1) e
    have hV : ∀ x, (vSt a m x ∧ S (x % 8) = true) → vSt a m x ∧ Rdy I a m (x % 8) := fun x hx => ⟨hx.1, (sS2 (x % 8) (by omega) hx.2).1⟩
    simp (disch := first | omega | exact c1_int _ | exact c1_none | exact c1_ref _ | exact isRf_ref _ | assumption | exact okRb _ | exact okN1 | exact okN0 | exact rfl) only [N_X6_find_0, N_X6_find_1, N_X6_find_4, N_X6_find_5, N_X6_find_8, N_X6_find_11, N_X6_find_14, N_X6_find_15, N_X6_find_18, N_X6_find_19, N_X6_find_22, N_X6_find_23, N_X6_find_26, N_X6_find_27, N_X6_find_30, N_X6_find_31, N_X6_find_34, N_X6_find_35, N_X6_find_38, N_X6_find_39, N_X6_find_42, N_X6_find_44, N_X6_find_47, N_X6_find_48, N_X6_find_49, N_X6_find_52, N_X6_find_53, N_X6_find_54, N_X6_find_57, N_X6_find_60, N_X6_find_63, N_X6_find_64, N_X6_find_65, N_X6_find_68, N_X6_find_69, N_X6_find_70, N_X6_find_73, N_X6_find_74, N_X6_find_75, N_X6_find_78, N_X6_find_79, N_X6_find_81, N_X6_find_84, N_X6_find_85, N_X6_find_86, N_X6_find_87, N_X6_find_88, N_X6_find_91, N_X6_find_92, N_X6_find_94, N_X6_find_95, N_X6_find_99, N_X6_find_101, N_X6_find_104, N_X6_find_106, N_X6_find_107, N_X6_find_110, N_X6_find_113, N_X6_find_114, N_X6_find_117, N_X6_find_119, N_X6_find_120, N_X6_find_122, N_X6_find_124, N_X6_find_127, N_X6_find_128, N_X6_find_131, N_X6_find_132, N_X6_find_135, N_X6_find_136, N_X6_find_138, N_X6_find_141, N_X6_find_142, N_X6_find_143, N_X6_find_145, N_X6_find_147, N_X6_find_150, N_X6_find_152, N_X6_find_154, N_X6_find_157, N_X6_find_160, if_true, if_false, ite_true, ite_false, not_false_eq_true, not_true_eq_false, isRf_ref, isRf_null, c1_int, c1_ref, c1_null, c1_none, rfv_some, rfv_none, Ok_s, tl_some, tl_none, List.nil_append, b2i_n1, b2i_n0, ↓reduceIte, nI_add, pk_mul, pk_sub, n_leT, n_leF, n_ltT, n_ltF, n_eqT, n_eqF, n_shl1, n_shl, n_shr, nI_and, nI_or, nI_xor, b2i_z, b2i_o, m1_n, n_m1, m1_lt, m1_le, n_lm1, n_em1, nI_m1, and1, and3, and7, and15, and63, and255, Bool.true_eq_false, Bool.false_eq_true, reduceCtorEq, Nat.reduceAdd, Nat.reduceMul, Nat.reduceSub, Nat.reduceDiv, Nat.reduceMod, Nat.reducePow, Nat.zero_add, Nat.one_mul]
    -- the loop over the levels
    have F3 : I3 29 8 = I 23 0 ∧ I3 29 4 = nI m ∧ I3 29 5 = nI st ∧ I3 29 6 = avI v ∧ I3 29 7 = nO wo ∧ I3 29 0 = m1 ∧ I3 29 1 = nI 0 ∧ I3 29 3 = m1 := by
      refine ⟨?_, ?_, ?_, ?_, ?_, ?_, ?_, ?_⟩
      · rw [y5 8 (by decide)]; exact k8
      · rw [y5 4 (by decide)]; exact k4
      · rw [y5 5 (by decide)]; exact k5
      · rw [y5 6 (by decide)]; exact k6
      · rw [y5 7 (by decide)]; exact k7
      · rw [y5 0 (by decide), r3 0 (by omega)]; exact c2
      · rw [y5 1 (by decide), r3 1 (by omega)]; exact c3
      · rw [y5 3 (by decide), r3 3 (by omega)]; exact c4
    have fin : ∀ (X : Wd6), DA X.1 X.2.2.2.1 X.2.2.2.2.1 X.2.2.2.2.2 → Rm X.1 X.2.2.2.2.2 z → GX 1 4 29 D I ow ky ln X.1 X.2.1 X.2.2.2.1 X.2.2.2.2.1 X.2.2.2.2.2 → X.2.1 29 8 = I 23 0 → X.2.1 29 4 = nI m → X.2.1 29 5 = nI st → X.2.1 29 6 = avI v → X.2.1 29 7 = nO wo → (∃ s, SS X.2.1 X.2.2.2.2.1 X.2.2.2.2.2 s) → SR X.2.1 X.2.2.2.2.1 X.2.2.2.2.2 a m v wo st → DA X.1 X.2.2.2.1 X.2.2.2.2.1 X.2.2.2.2.2 ∧ Rm X.1 X.2.2.2.2.2 z ∧ GX 1 4 29 D I ow ky ln X.1 X.2.1 X.2.2.2.1 X.2.2.2.2.1 X.2.2.2.2.2 ∧ SrC X.2.1 X.2.2.2.2.1 X.2.2.2.2.2 a ∧ SR X.2.1 X.2.2.2.2.1 X.2.2.2.2.2 a m v wo st ∧ (X.2.1 29 8 = vo ∨ X.2.1 29 8 = I 23 0) := fun X a1 a2 a3 a0 a4 a5 a6 a7 a8 a9 => ⟨a1, a2, a3, ⟨a8, fun _ => ⟨m, v, wo, st, hm1, hm, a4, a5, hvs, a6, a7, hv, hwo, a9⟩⟩, a9, Or.inr a0⟩
    refine Wl (σ := (Nat × Nat) × Wd6) (fun s => 40000 - s.1.1) (E := fun s => ∀ u7, G_X6_find xs Ln (d + 4) 97 [some (.ref 29), some (.int (nI m)), some (.int (nI st)), some (.int (avI v)), some (.int (nO wo)), some (.int (nI s.1.1)), some (.int (nI s.1.2)), u7] [] (mkW s.2.1 s.2.2.1 s.2.2.2.1) _) (Inv := fun s => (DA s.2.1 s.2.2.2.2.1 s.2.2.2.2.2.1 s.2.2.2.2.2.2 ∧ Rm s.2.1 s.2.2.2.2.2.2 z ∧ GX 1 4 29 D I ow ky ln s.2.1 s.2.2.1 s.2.2.2.2.1 s.2.2.2.2.2.1 s.2.2.2.2.2.2 ∧ SS s.2.2.1 s.2.2.2.2.2.1 s.2.2.2.2.2.2 (bfs (behW a m wo) st (8 * s.1.1)) ∧ (∀ j, j ≠ 2 → s.2.2.1 29 j = I3 29 j) ∧ s.1.1 ≤ bN (bfs (behW a m wo) st (8 * s.1.1)) ∧ (∀ j, j < s.1.1 → Fi (bfs (behW a m wo) st (8 * s.1.1)) j < s.1.2) ∧ (∀ j, s.1.1 ≤ j → j < bN (bfs (behW a m wo) st (8 * s.1.1)) → Fi (bfs (behW a m wo) st (8 * s.1.1)) j = s.1.2) ∧ (∀ j, j < s.1.1 → golB m v (bQ (bfs (behW a m wo) st (8 * s.1.1)) j) = false) ∧ s.1.2 ≤ s.1.1)) ?_ ((0, 0), (D3, I3, L3, ow3, ky3, ln3)) ?_ none
    · rintro ⟨⟨f, lv⟩, D4, I4, L4, ow4, ky4, ln4⟩ ⟨x1, x2, x3, x4, x5, x6, x7, x8, x9, x10⟩ ih u7
      dsimp only at x1 x2 x3 x4 x5 x6 x7 x8 x9 x10 ⊢
      have hIe := hI (8 * f)
      have hn32 := bI_n hIe
      have e2 : I4 29 2 = nI (bN (bfs (behW a m wo) st (8 * f))) := x4.1
      have E8 : I4 29 8 = I 23 0 := by rw [x5 8 (by decide)]; exact F3.1
      have E4 : I4 29 4 = nI m := by rw [x5 4 (by decide)]; exact F3.2.1
      have E5 : I4 29 5 = nI st := by rw [x5 5 (by decide)]; exact F3.2.2.1
      have E6 : I4 29 6 = avI v := by rw [x5 6 (by decide)]; exact F3.2.2.2.1
      have E7 : I4 29 7 = nO wo := by rw [x5 7 (by decide)]; exact F3.2.2.2.2.1
      have E0 : I4 29 0 = m1 := by rw [x5 0 (by decide)]; exact F3.2.2.2.2.2.1
      have E1 : I4 29 1 = nI 0 := by rw [x5 1 (by decide)]; exact F3.2.2.2.2.2.2.1
      have E3 : I4 29 3 = m1 := by rw [x5 3 (by decide)]; exact F3.2.2.2.2.2.2.2
      rw [N_X6_find_97]
      by_cases hfn : f < bN (bfs (behW a m wo) st (8 * f))
      · have hlvf : lv ≤ f := by
          have := (hIe.2.2.1 f hfn).2
          rw [x8 f (Nat.le_refl _) hfn] at this
          exact this
        simp (disch := first | omega | exact c1_int _ | exact c1_none | exact c1_ref _ | exact isRf_ref _ | assumption | exact okRb _ | exact okN1 | exact okN0 | exact rfl) only [N_X6_find_0, N_X6_find_1, N_X6_find_4, N_X6_find_5, N_X6_find_8, N_X6_find_11, N_X6_find_14, N_X6_find_15, N_X6_find_18, N_X6_find_19, N_X6_find_22, N_X6_find_23, N_X6_find_26, N_X6_find_27, N_X6_find_30, N_X6_find_31, N_X6_find_34, N_X6_find_35, N_X6_find_38, N_X6_find_39, N_X6_find_42, N_X6_find_44, N_X6_find_47, N_X6_find_48, N_X6_find_49, N_X6_find_52, N_X6_find_53, N_X6_find_54, N_X6_find_57, N_X6_find_60, N_X6_find_63, N_X6_find_64, N_X6_find_65, N_X6_find_68, N_X6_find_69, N_X6_find_70, N_X6_find_73, N_X6_find_74, N_X6_find_75, N_X6_find_78, N_X6_find_79, N_X6_find_81, N_X6_find_84, N_X6_find_85, N_X6_find_86, N_X6_find_87, N_X6_find_88, N_X6_find_91, N_X6_find_92, N_X6_find_94, N_X6_find_95, N_X6_find_99, N_X6_find_101, N_X6_find_104, N_X6_find_106, N_X6_find_107, N_X6_find_110, N_X6_find_113, N_X6_find_114, N_X6_find_117, N_X6_find_119, N_X6_find_120, N_X6_find_122, N_X6_find_124, N_X6_find_127, N_X6_find_128, N_X6_find_131, N_X6_find_132, N_X6_find_135, N_X6_find_136, N_X6_find_138, N_X6_find_141, N_X6_find_142, N_X6_find_143, N_X6_find_145, N_X6_find_147, N_X6_find_150, N_X6_find_152, N_X6_find_154, N_X6_find_157, N_X6_find_160, if_true, if_false, ite_true, ite_false, not_false_eq_true, not_true_eq_false, isRf_ref, isRf_null, c1_int, c1_ref, c1_null, c1_none, rfv_some, rfv_none, Ok_s, tl_some, tl_none, List.nil_append, b2i_n1, b2i_n0, ↓reduceIte, nI_add, pk_mul, pk_sub, n_leT, n_leF, n_ltT, n_ltF, n_eqT, n_eqF, n_shl1, n_shl, n_shr, nI_and, nI_or, nI_xor, b2i_z, b2i_o, m1_n, n_m1, m1_lt, m1_le, n_lm1, n_em1, nI_m1, and1, and3, and7, and15, and63, and255, Bool.true_eq_false, Bool.false_eq_true, reduceCtorEq, Nat.reduceAdd, Nat.reduceMul, Nat.reduceSub, Nat.reduceDiv, Nat.reduceMod, Nat.reducePow, Nat.zero_add, Nat.one_mul, e2]
        refine Ok.mono (c_gather (d := d + 1) (m := m) (f := f) (v := v) x1 x4 hm1 hm E4 E6 hv E3 E1 x6 (fun i hi => (hIe.2.1 i hi).1.1) hIe.2.2.2.2.2.2.2.2.2.2.1) ?_
        rintro _ ⟨I5, rfl, w1, w2, w3, w4⟩
        have z5 : GX 1 4 29 D I ow ky ln D4 I5 ow4 ky4 ln4 := ⟨x3.1, x3.2.1, x3.2.2.1, fun k hk ho hn => by rw [w1 k ho]; exact x3.2.2.2.1 k hk ho hn, x3.2.2.2.2⟩
        have dk := fun i (hi : 1 ≤ i ∧ i ≤ 16) => x1.st hi (ndy_lo (show 29 < 30 by omega))
        have S5 : SS I5 ky4 ln4 (bfs (behW a m wo) st (8 * f)) := by
          obtain ⟨v1, v2, v3, v4, v5, v6, v7, v8⟩ := x4
          refine ⟨by rw [w2 2 (by decide) (by decide)]; exact v1, v2, v3, v4, v5, v6, ?_, ?_⟩
          · rw [w1 _ (dk 2 (by omega)).symm, w1 _ (dk 3 (by omega)).symm, w1 _ (dk 4 (by omega)).symm]; exact v7
          · rw [w1 _ (dk 1 (by omega)).symm]; exact v8
        cases hg : lst (fun i => decide (f ≤ i) && golB m v (bQ (bfs (behW a m wo) st (8 * f)) i)) (bN (bfs (behW a m wo) st (8 * f))) with
        | none =>
          rw [hg, nO_n] at w3
          have hgn := (lst_n _ _).mp hg
          have em : (m1 = m1) = True := eq_true rfl
          simp (disch := first | omega | exact c1_int _ | exact c1_none | exact c1_ref _ | exact isRf_ref _ | assumption | exact okRb _ | exact okN1 | exact okN0 | exact rfl) only [N_X6_find_0, N_X6_find_1, N_X6_find_4, N_X6_find_5, N_X6_find_8, N_X6_find_11, N_X6_find_14, N_X6_find_15, N_X6_find_18, N_X6_find_19, N_X6_find_22, N_X6_find_23, N_X6_find_26, N_X6_find_27, N_X6_find_30, N_X6_find_31, N_X6_find_34, N_X6_find_35, N_X6_find_38, N_X6_find_39, N_X6_find_42, N_X6_find_44, N_X6_find_47, N_X6_find_48, N_X6_find_49, N_X6_find_52, N_X6_find_53, N_X6_find_54, N_X6_find_57, N_X6_find_60, N_X6_find_63, N_X6_find_64, N_X6_find_65, N_X6_find_68, N_X6_find_69, N_X6_find_70, N_X6_find_73, N_X6_find_74, N_X6_find_75, N_X6_find_78, N_X6_find_79, N_X6_find_81, N_X6_find_84, N_X6_find_85, N_X6_find_86, N_X6_find_87, N_X6_find_88, N_X6_find_91, N_X6_find_92, N_X6_find_94, N_X6_find_95, N_X6_find_99, N_X6_find_101, N_X6_find_104, N_X6_find_106, N_X6_find_107, N_X6_find_110, N_X6_find_113, N_X6_find_114, N_X6_find_117, N_X6_find_119, N_X6_find_120, N_X6_find_122, N_X6_find_124, N_X6_find_127, N_X6_find_128, N_X6_find_131, N_X6_find_132, N_X6_find_135, N_X6_find_136, N_X6_find_138, N_X6_find_141, N_X6_find_142, N_X6_find_143, N_X6_find_145, N_X6_find_147, N_X6_find_150, N_X6_find_152, N_X6_find_154, N_X6_find_157, N_X6_find_160, if_true, if_false, ite_true, ite_false, not_false_eq_true, not_true_eq_false, isRf_ref, isRf_null, c1_int, c1_ref, c1_null, c1_none, rfv_some, rfv_none, Ok_s, tl_some, tl_none, List.nil_append, b2i_n1, b2i_n0, ↓reduceIte, nI_add, pk_mul, pk_sub, n_leT, n_leF, n_ltT, n_ltF, n_eqT, n_eqF, n_shl1, n_shl, n_shr, nI_and, nI_or, nI_xor, b2i_z, b2i_o, m1_n, n_m1, m1_lt, m1_le, n_lm1, n_em1, nI_m1, and1, and3, and7, and15, and63, and255, Bool.true_eq_false, Bool.false_eq_true, reduceCtorEq, Nat.reduceAdd, Nat.reduceMul, Nat.reduceSub, Nat.reduceDiv, Nat.reduceMod, Nat.reducePow, Nat.zero_add, Nat.one_mul, w3, em]
          have hM4 := x3.mm hO (by omega) (by omega) (Or.inl rfl) hM
          have hM5 := z5.mm hO (by omega) (by omega) (Or.inl rfl) hM
          refine Ok.mono (c_spread (d := d) (a := a) (m := m) (st := st) (f := f) (lv := lv) (z := z) (wo := wo) (z5.os hO) x1 x2 hM5 hm1 hm (by rw [w2 4 (by decide) (by decide)]; exact E4) (by rw [w2 7 (by decide) (by decide)]; exact E7) hwo hI (fun x hx => ⟨(hV x hx).1, z5.rdy hO (by omega) (by omega) (Or.inl rfl) (hV x hx).2⟩) S5 hfn x7 x8) ?_
          rintro _ ⟨⟨D6, I6, L6, ow6, ky6, ln6⟩, rfl, s1, s2, s3, s4, s5⟩
          dsimp only at s1 s2 s3 s4 s5 ⊢
          obtain ⟨l1, l2, l3⟩ := lev_e hI hfn x7 x8 (e := 8 * bN (bfs (behW a m wo) st (8 * f))) (by omega) (Nat.le_refl _)
          simp (disch := first | omega | exact c1_int _ | exact c1_none | exact c1_ref _ | exact isRf_ref _ | assumption | exact okRb _ | exact okN1 | exact okN0 | exact rfl) only [N_X6_find_0, N_X6_find_1, N_X6_find_4, N_X6_find_5, N_X6_find_8, N_X6_find_11, N_X6_find_14, N_X6_find_15, N_X6_find_18, N_X6_find_19, N_X6_find_22, N_X6_find_23, N_X6_find_26, N_X6_find_27, N_X6_find_30, N_X6_find_31, N_X6_find_34, N_X6_find_35, N_X6_find_38, N_X6_find_39, N_X6_find_42, N_X6_find_44, N_X6_find_47, N_X6_find_48, N_X6_find_49, N_X6_find_52, N_X6_find_53, N_X6_find_54, N_X6_find_57, N_X6_find_60, N_X6_find_63, N_X6_find_64, N_X6_find_65, N_X6_find_68, N_X6_find_69, N_X6_find_70, N_X6_find_73, N_X6_find_74, N_X6_find_75, N_X6_find_78, N_X6_find_79, N_X6_find_81, N_X6_find_84, N_X6_find_85, N_X6_find_86, N_X6_find_87, N_X6_find_88, N_X6_find_91, N_X6_find_92, N_X6_find_94, N_X6_find_95, N_X6_find_99, N_X6_find_101, N_X6_find_104, N_X6_find_106, N_X6_find_107, N_X6_find_110, N_X6_find_113, N_X6_find_114, N_X6_find_117, N_X6_find_119, N_X6_find_120, N_X6_find_122, N_X6_find_124, N_X6_find_127, N_X6_find_128, N_X6_find_131, N_X6_find_132, N_X6_find_135, N_X6_find_136, N_X6_find_138, N_X6_find_141, N_X6_find_142, N_X6_find_143, N_X6_find_145, N_X6_find_147, N_X6_find_150, N_X6_find_152, N_X6_find_154, N_X6_find_157, N_X6_find_160, if_true, if_false, ite_true, ite_false, not_false_eq_true, not_true_eq_false, isRf_ref, isRf_null, c1_int, c1_ref, c1_null, c1_none, rfv_some, rfv_none, Ok_s, tl_some, tl_none, List.nil_append, b2i_n1, b2i_n0, ↓reduceIte, nI_add, pk_mul, pk_sub, n_leT, n_leF, n_ltT, n_ltF, n_eqT, n_eqF, n_shl1, n_shl, n_shr, nI_and, nI_or, nI_xor, b2i_z, b2i_o, m1_n, n_m1, m1_lt, m1_le, n_lm1, n_em1, nI_m1, and1, and3, and7, and15, and63, and255, Bool.true_eq_false, Bool.false_eq_true, reduceCtorEq, Nat.reduceAdd, Nat.reduceMul, Nat.reduceSub, Nat.reduceDiv, Nat.reduceMod, Nat.reducePow, Nat.zero_add, Nat.one_mul]
          refine ih ((bN (bfs (behW a m wo) st (8 * f)), lv + 1), (D6, I6, L6, ow6, ky6, ln6)) (by show 40000 - bN (bfs (behW a m wo) st (8 * f)) < 40000 - f; omega) ⟨s1, s2, z5.tr s3, s4, fun j hj => ?_, l1, fun j hj => ?_, fun j hj hj2 => l3 j hj hj2, fun j hj => ?_, by show lv + 1 ≤ bN (bfs (behW a m wo) st (8 * f)); omega⟩ _
          · show I6 29 j = I3 29 j
            rw [s5 j hj]
            by_cases j1 : j = 1
            · subst j1
              rw [w4, F3.2.2.2.2.2.2.1]
              have : ∀ k, k ≤ bN (bfs (behW a m wo) st (8 * f)) → wyC (bfs (behW a m wo) st (8 * f)) (golB m v) f k = 0 := by
                intro k
                induction k with
                | zero => intro _; rfl
                | succ k ihk =>
                  intro hk
                  show (if f ≤ k ∧ golB m v (bQ (bfs (behW a m wo) st (8 * f)) k) = true then _ else _) = 0
                  rw [if_neg ?_, ihk (by omega)]
                  rintro ⟨h1, h2⟩
                  have := hgn k (by omega)
                  rw [decide_eq_true h1, h2] at this
                  cases this
              rw [this _ (Nat.le_refl _)]
            · by_cases j3 : j = 3
              · subst j3
                rw [w3, F3.2.2.2.2.2.2.2]
              · rw [w2 j j1 j3]; exact x5 j hj
          · rw [(l2 j hj).2]
            show Fi (bfs (behW a m wo) st (8 * f)) j < lv + 1
            by_cases hjf : j < f
            · have := x7 j hjf; omega
            · rw [x8 j (by omega) hj]; omega
          · rw [(l2 j hj).1]
            by_cases hjf : j < f
            · exact x9 j hjf
            · have := hgn j hj
              rw [decide_eq_true (show f ≤ j by omega), Bool.true_and] at this
              exact this
        | some g =>
          rw [hg, nO_s] at w3
          obtain ⟨q1, q2, q3⟩ := (lst_s _ _ _).mp hg
          simp only [Bool.and_eq_true, decide_eq_true_eq] at q2
          simp (disch := first | omega | exact c1_int _ | exact c1_none | exact c1_ref _ | exact isRf_ref _ | assumption | exact okRb _ | exact okN1 | exact okN0 | exact rfl) only [N_X6_find_0, N_X6_find_1, N_X6_find_4, N_X6_find_5, N_X6_find_8, N_X6_find_11, N_X6_find_14, N_X6_find_15, N_X6_find_18, N_X6_find_19, N_X6_find_22, N_X6_find_23, N_X6_find_26, N_X6_find_27, N_X6_find_30, N_X6_find_31, N_X6_find_34, N_X6_find_35, N_X6_find_38, N_X6_find_39, N_X6_find_42, N_X6_find_44, N_X6_find_47, N_X6_find_48, N_X6_find_49, N_X6_find_52, N_X6_find_53, N_X6_find_54, N_X6_find_57, N_X6_find_60, N_X6_find_63, N_X6_find_64, N_X6_find_65, N_X6_find_68, N_X6_find_69, N_X6_find_70, N_X6_find_73, N_X6_find_74, N_X6_find_75, N_X6_find_78, N_X6_find_79, N_X6_find_81, N_X6_find_84, N_X6_find_85, N_X6_find_86, N_X6_find_87, N_X6_find_88, N_X6_find_91, N_X6_find_92, N_X6_find_94, N_X6_find_95, N_X6_find_99, N_X6_find_101, N_X6_find_104, N_X6_find_106, N_X6_find_107, N_X6_find_110, N_X6_find_113, N_X6_find_114, N_X6_find_117, N_X6_find_119, N_X6_find_120, N_X6_find_122, N_X6_find_124, N_X6_find_127, N_X6_find_128, N_X6_find_131, N_X6_find_132, N_X6_find_135, N_X6_find_136, N_X6_find_138, N_X6_find_141, N_X6_find_142, N_X6_find_143, N_X6_find_145, N_X6_find_147, N_X6_find_150, N_X6_find_152, N_X6_find_154, N_X6_find_157, N_X6_find_160, if_true, if_false, ite_true, ite_false, not_false_eq_true, not_true_eq_false, isRf_ref, isRf_null, c1_int, c1_ref, c1_null, c1_none, rfv_some, rfv_none, Ok_s, tl_some, tl_none, List.nil_append, b2i_n1, b2i_n0, ↓reduceIte, nI_add, pk_mul, pk_sub, n_leT, n_leF, n_ltT, n_ltF, n_eqT, n_eqF, n_shl1, n_shl, n_shr, nI_and, nI_or, nI_xor, b2i_z, b2i_o, m1_n, n_m1, m1_lt, m1_le, n_lm1, n_em1, nI_m1, and1, and3, and7, and15, and63, and255, Bool.true_eq_false, Bool.false_eq_true, reduceCtorEq, Nat.reduceAdd, Nat.reduceMul, Nat.reduceSub, Nat.reduceDiv, Nat.reduceMod, Nat.reducePow, Nat.zero_add, Nat.one_mul, w3]
          have hx := bZ_xe (beh := behW a m wo) (st := st) (e := 8 * f) (by omega)
          have hFg : Fi (bZ (behW a m wo) st) g = lv := by rw [hx.F hIe q1]; exact x8 g q2.1 q1
          have hg0 : g0 (behW a m wo) (golB m v) st = some g := by
            unfold g0
            refine (lst_s _ _ _).mpr ⟨by have := hx.1; omega, ?_, fun j hj => ?_⟩
            · rw [hx.2.1 g q1]; exact q2.2
            · rw [hx.2.1 j (by omega)]
              by_cases hjf : j < f
              · exact x9 j hjf
              · have := q3 j hj
                rw [decide_eq_true (show f ≤ j by omega), Bool.true_and] at this
                exact this
          have z6 : GX 1 4 29 D I ow ky ln D4 (up2 I5 29 0 (nI lv)) ow4 ky4 ln4 := z5.u (Or.inl rfl)
          have S6 : SS (up2 I5 29 0 (nI lv)) ky4 ln4 (bfs (behW a m wo) st (8 * f)) := by
            obtain ⟨v1, v2, v3, v4, v5, v6, v7, v8⟩ := S5
            refine ⟨by rw [up2_j _ _ _ (by decide)]; exact v1, v2, v3, v4, v5, v6, ?_, ?_⟩
            · rw [up2_ro _ _ _ (dk 2 (by omega)).symm, up2_ro _ _ _ (dk 3 (by omega)).symm, up2_ro _ _ _ (dk 4 (by omega)).symm]; exact v7
            · rw [up2_ro _ _ _ (dk 1 (by omega)).symm]; exact v8
          refine ⟨(D4, up2 I5 29 0 (nI lv), L4, ow4, ky4, ln4), rfl, fin (D4, up2 I5 29 0 (nI lv), L4, ow4, ky4, ln4) x1 x2 z6 ?_ ?_ ?_ ?_ ?_ ⟨_, S6⟩ ⟨_, S6, hx, ?_, ?_⟩⟩
          · show up2 I5 29 0 (nI lv) 29 8 = _
            rw [up2_j _ _ _ (by decide), w2 8 (by decide) (by decide)]; exact E8
          · show up2 I5 29 0 (nI lv) 29 4 = _
            rw [up2_j _ _ _ (by decide), w2 4 (by decide) (by decide)]; exact E4
          · show up2 I5 29 0 (nI lv) 29 5 = _
            rw [up2_j _ _ _ (by decide), w2 5 (by decide) (by decide)]; exact E5
          · show up2 I5 29 0 (nI lv) 29 6 = _
            rw [up2_j _ _ _ (by decide), w2 6 (by decide) (by decide)]; exact E6
          · show up2 I5 29 0 (nI lv) 29 7 = _
            rw [up2_j _ _ _ (by decide), w2 7 (by decide) (by decide)]; exact E7
          · intro hvn
            rw [hvn] at q2
            cases q2.2
          · rw [hg0]
            refine ⟨q1, ?_, ?_, ?_⟩
            · show up2 I5 29 0 (nI lv) 29 3 = _
              rw [up2_j _ _ _ (by decide)]; exact w3
            · show up2 I5 29 0 (nI lv) 29 0 = _
              rw [up2_s, hFg]
            · show up2 I5 29 0 (nI lv) 29 1 = _
              rw [up2_j _ _ _ (by decide), w4, hFg, lev_w hI hfn x7 x8 x9]
      · have hfe : bN (bfs (behW a m wo) st (8 * f)) = f := by omega
        have hz := bZ_K hI hfe
        have hg0 : g0 (behW a m wo) (golB m v) st = none := by
          unfold g0
          rw [hz, hfe]
          exact (lst_n _ _).mpr x9
        have done : ∃ X : Wd6, ((mkW D4 I4 L4, none) : Res) = (mkW X.1 X.2.1 X.2.2.1, none) ∧ DA X.1 X.2.2.2.1 X.2.2.2.2.1 X.2.2.2.2.2 ∧ Rm X.1 X.2.2.2.2.2 z ∧ GX 1 4 29 D I ow ky ln X.1 X.2.1 X.2.2.2.1 X.2.2.2.2.1 X.2.2.2.2.2 ∧ SrC X.2.1 X.2.2.2.2.1 X.2.2.2.2.2 a ∧ SR X.2.1 X.2.2.2.2.1 X.2.2.2.2.2 a m v wo st ∧ (X.2.1 29 8 = vo ∨ X.2.1 29 8 = I 23 0) := by
          refine ⟨(D4, I4, L4, ow4, ky4, ln4), rfl, fin (D4, I4, L4, ow4, ky4, ln4) x1 x2 x3 E8 E4 E5 E6 E7 ⟨_, x4⟩ ⟨_, x4, by rw [hz]; exact Ext.rf _, fun _ => hz.symm, ?_⟩⟩
          rw [hg0]
          exact ⟨E0, E3, E1⟩
        simp (disch := first | omega | exact c1_int _ | exact c1_none | exact c1_ref _ | exact isRf_ref _ | assumption | exact okRb _ | exact okN1 | exact okN0 | exact rfl) only [N_X6_find_0, N_X6_find_1, N_X6_find_4, N_X6_find_5, N_X6_find_8, N_X6_find_11, N_X6_find_14, N_X6_find_15, N_X6_find_18, N_X6_find_19, N_X6_find_22, N_X6_find_23, N_X6_find_26, N_X6_find_27, N_X6_find_30, N_X6_find_31, N_X6_find_34, N_X6_find_35, N_X6_find_38, N_X6_find_39, N_X6_find_42, N_X6_find_44, N_X6_find_47, N_X6_find_48, N_X6_find_49, N_X6_find_52, N_X6_find_53, N_X6_find_54, N_X6_find_57, N_X6_find_60, N_X6_find_63, N_X6_find_64, N_X6_find_65, N_X6_find_68, N_X6_find_69, N_X6_find_70, N_X6_find_73, N_X6_find_74, N_X6_find_75, N_X6_find_78, N_X6_find_79, N_X6_find_81, N_X6_find_84, N_X6_find_85, N_X6_find_86, N_X6_find_87, N_X6_find_88, N_X6_find_91, N_X6_find_92, N_X6_find_94, N_X6_find_95, N_X6_find_99, N_X6_find_101, N_X6_find_104, N_X6_find_106, N_X6_find_107, N_X6_find_110, N_X6_find_113, N_X6_find_114, N_X6_find_117, N_X6_find_119, N_X6_find_120, N_X6_find_122, N_X6_find_124, N_X6_find_127, N_X6_find_128, N_X6_find_131, N_X6_find_132, N_X6_find_135, N_X6_find_136, N_X6_find_138, N_X6_find_141, N_X6_find_142, N_X6_find_143, N_X6_find_145, N_X6_find_147, N_X6_find_150, N_X6_find_152, N_X6_find_154, N_X6_find_157, N_X6_find_160, if_true, if_false, ite_true, ite_false, not_false_eq_true, not_true_eq_false, isRf_ref, isRf_null, c1_int, c1_ref, c1_null, c1_none, rfv_some, rfv_none, Ok_s, tl_some, tl_none, List.nil_append, b2i_n1, b2i_n0, ↓reduceIte, nI_add, pk_mul, pk_sub, n_leT, n_leF, n_ltT, n_ltF, n_eqT, n_eqF, n_shl1, n_shl, n_shr, nI_and, nI_or, nI_xor, b2i_z, b2i_o, m1_n, n_m1, m1_lt, m1_le, n_lm1, n_em1, nI_m1, and1, and3, and7, and15, and63, and255, Bool.true_eq_false, Bool.false_eq_true, reduceCtorEq, Nat.reduceAdd, Nat.reduceMul, Nat.reduceSub, Nat.reduceDiv, Nat.reduceMod, Nat.reducePow, Nat.zero_add, Nat.one_mul, e2]
        exact done
    · refine ⟨y1, y2, g3, S3, fun _ _ => rfl, Nat.zero_le _, fun j hj => absurd hj (Nat.not_lt_zero j), fun j _ hj => ?_, fun j hj => absurd hj (Nat.not_lt_zero j), Nat.le_refl _⟩
      have : j < 1 := hj
      have : j = 0 := by omega
      subst this
      exact (hI 0).2.2.2.2.2.2.2.2.2.2.2.2.2
  by_cases hall : I 29 8 = I 23 0 ∧ I 29 4 = nI m ∧ I 29 5 = nI st ∧ I 29 6 = avI v ∧ I 29 7 = nO wo
  · obtain ⟨a1, a2, a3, a4, a5⟩ := hall
    obtain ⟨m', v', wo', st', b1, b2, b3, b4, b5, b6, b7, b8, b9, b10⟩ := hC.2 a1
    have em : m' = m := by rw [a2, n_eq (by omega) (by omega)] at b3; exact b3.symm
    have es : st' = st := by rw [a3, n_eq (by omega) (by have := b5.1; omega)] at b4; exact b4.symm
    have ev : v' = v := avI_inj b8 hv (by rw [← b6, a4])
    have eo : wo' = wo := nO_inj (N := 8) (by decide) b9 hwo (by rw [← b7, a5])
    subst em es ev eo
    have t1 : (I 23 0 = I 23 0) = True := eq_true rfl
    have t2 : (avI v' = avI v') = True := eq_true rfl
    have t3 : (nO wo' = nO wo') = True := eq_true rfl
    simp (disch := first | omega | exact c1_int _ | exact c1_none | exact c1_ref _ | exact isRf_ref _ | assumption | exact okRb _ | exact okN1 | exact okN0 | exact rfl) only [N_X6_find_0, N_X6_find_1, N_X6_find_4, N_X6_find_5, N_X6_find_8, N_X6_find_11, N_X6_find_14, N_X6_find_15, N_X6_find_18, N_X6_find_19, N_X6_find_22, N_X6_find_23, N_X6_find_26, N_X6_find_27, N_X6_find_30, N_X6_find_31, N_X6_find_34, N_X6_find_35, N_X6_find_38, N_X6_find_39, N_X6_find_42, N_X6_find_44, N_X6_find_47, N_X6_find_49, N_X6_find_52, N_X6_find_53, N_X6_find_54, N_X6_find_57, N_X6_find_60, N_X6_find_63, N_X6_find_64, N_X6_find_65, N_X6_find_68, N_X6_find_69, N_X6_find_70, N_X6_find_73, N_X6_find_74, N_X6_find_75, N_X6_find_78, N_X6_find_79, N_X6_find_81, N_X6_find_84, N_X6_find_85, N_X6_find_86, N_X6_find_87, N_X6_find_88, N_X6_find_91, N_X6_find_92, N_X6_find_94, N_X6_find_95, N_X6_find_99, N_X6_find_101, N_X6_find_104, N_X6_find_106, N_X6_find_107, N_X6_find_110, N_X6_find_113, N_X6_find_114, N_X6_find_117, N_X6_find_119, N_X6_find_120, N_X6_find_122, N_X6_find_124, N_X6_find_127, N_X6_find_128, N_X6_find_131, N_X6_find_132, N_X6_find_135, N_X6_find_136, N_X6_find_138, N_X6_find_141, N_X6_find_142, N_X6_find_143, N_X6_find_145, N_X6_find_147, N_X6_find_150, N_X6_find_152, N_X6_find_154, N_X6_find_157, N_X6_find_160, if_true, if_false, ite_true, ite_false, not_false_eq_true, not_true_eq_false, isRf_ref, isRf_null, c1_int, c1_ref, c1_null, c1_none, rfv_some, rfv_none, Ok_s, tl_some, tl_none, List.nil_append, b2i_n1, b2i_n0, ↓reduceIte, nI_add, pk_mul, pk_sub, n_leT, n_leF, n_ltT, n_ltF, n_eqT, n_eqF, n_shl1, n_shl, n_shr, nI_and, nI_or, nI_xor, b2i_z, b2i_o, m1_n, n_m1, m1_lt, m1_le, n_lm1, n_em1, nI_m1, and1, and3, and7, and15, and63, and255, Bool.true_eq_false, Bool.false_eq_true, reduceCtorEq, Nat.reduceAdd, Nat.reduceMul, Nat.reduceSub, Nat.reduceDiv, Nat.reduceMod, Nat.reducePow, Nat.zero_add, Nat.one_mul, a1, a2, a3, a4, a5, t1, t2, t3]
    exact ⟨(D, I, L, ow, ky, ln), rfl, hD, hR, GX.rf, hC, b10, Or.inl hvo⟩
  · by_cases q1 : I 29 8 = I 23 0
    · by_cases q2 : I 29 4 = nI m
      · by_cases q3 : I 29 5 = nI st
        · by_cases q4 : I 29 6 = avI v
          · by_cases q5 : I 29 7 = nO wo
            · exact absurd ⟨q1, q2, q3, q4, q5⟩ hall
            · simp (disch := first | omega | exact c1_int _ | exact c1_none | exact c1_ref _ | exact isRf_ref _ | assumption | exact okRb _ | exact okN1 | exact okN0 | exact rfl) only [N_X6_find_0, N_X6_find_1, N_X6_find_4, N_X6_find_5, N_X6_find_8, N_X6_find_11, N_X6_find_14, N_X6_find_15, N_X6_find_18, N_X6_find_19, N_X6_find_22, N_X6_find_23, N_X6_find_26, N_X6_find_27, N_X6_find_30, N_X6_find_31, N_X6_find_34, N_X6_find_35, N_X6_find_38, N_X6_find_39, N_X6_find_42, N_X6_find_44, N_X6_find_47, N_X6_find_49, N_X6_find_52, N_X6_find_53, N_X6_find_54, N_X6_find_57, N_X6_find_60, N_X6_find_63, N_X6_find_64, N_X6_find_65, N_X6_find_68, N_X6_find_69, N_X6_find_70, N_X6_find_73, N_X6_find_74, N_X6_find_75, N_X6_find_78, N_X6_find_79, N_X6_find_81, N_X6_find_84, N_X6_find_85, N_X6_find_86, N_X6_find_87, N_X6_find_88, N_X6_find_91, N_X6_find_92, N_X6_find_94, N_X6_find_95, N_X6_find_99, N_X6_find_101, N_X6_find_104, N_X6_find_106, N_X6_find_107, N_X6_find_110, N_X6_find_113, N_X6_find_114, N_X6_find_117, N_X6_find_119, N_X6_find_120, N_X6_find_122, N_X6_find_124, N_X6_find_127, N_X6_find_128, N_X6_find_131, N_X6_find_132, N_X6_find_135, N_X6_find_136, N_X6_find_138, N_X6_find_141, N_X6_find_142, N_X6_find_143, N_X6_find_145, N_X6_find_147, N_X6_find_150, N_X6_find_152, N_X6_find_154, N_X6_find_157, N_X6_find_160, if_true, if_false, ite_true, ite_false, not_false_eq_true, not_true_eq_false, isRf_ref, isRf_null, c1_int, c1_ref, c1_null, c1_none, rfv_some, rfv_none, Ok_s, tl_some, tl_none, List.nil_append, b2i_n1, b2i_n0, ↓reduceIte, q1, q2, q3, q4, q5]
              exact search
          · simp (disch := first | omega | exact c1_int _ | exact c1_none | exact c1_ref _ | exact isRf_ref _ | assumption | exact okRb _ | exact okN1 | exact okN0 | exact rfl) only [N_X6_find_0, N_X6_find_1, N_X6_find_4, N_X6_find_5, N_X6_find_8, N_X6_find_11, N_X6_find_14, N_X6_find_15, N_X6_find_18, N_X6_find_19, N_X6_find_22, N_X6_find_23, N_X6_find_26, N_X6_find_27, N_X6_find_30, N_X6_find_31, N_X6_find_34, N_X6_find_35, N_X6_find_38, N_X6_find_39, N_X6_find_42, N_X6_find_44, N_X6_find_47, N_X6_find_49, N_X6_find_52, N_X6_find_53, N_X6_find_54, N_X6_find_57, N_X6_find_60, N_X6_find_63, N_X6_find_64, N_X6_find_65, N_X6_find_68, N_X6_find_69, N_X6_find_70, N_X6_find_73, N_X6_find_74, N_X6_find_75, N_X6_find_78, N_X6_find_79, N_X6_find_81, N_X6_find_84, N_X6_find_85, N_X6_find_86, N_X6_find_87, N_X6_find_88, N_X6_find_91, N_X6_find_92, N_X6_find_94, N_X6_find_95, N_X6_find_99, N_X6_find_101, N_X6_find_104, N_X6_find_106, N_X6_find_107, N_X6_find_110, N_X6_find_113, N_X6_find_114, N_X6_find_117, N_X6_find_119, N_X6_find_120, N_X6_find_122, N_X6_find_124, N_X6_find_127, N_X6_find_128, N_X6_find_131, N_X6_find_132, N_X6_find_135, N_X6_find_136, N_X6_find_138, N_X6_find_141, N_X6_find_142, N_X6_find_143, N_X6_find_145, N_X6_find_147, N_X6_find_150, N_X6_find_152, N_X6_find_154, N_X6_find_157, N_X6_find_160, if_true, if_false, ite_true, ite_false, not_false_eq_true, not_true_eq_false, isRf_ref, isRf_null, c1_int, c1_ref, c1_null, c1_none, rfv_some, rfv_none, Ok_s, tl_some, tl_none, List.nil_append, b2i_n1, b2i_n0, ↓reduceIte, q1, q2, q3, q4]
            exact search
        · simp (disch := first | omega | exact c1_int _ | exact c1_none | exact c1_ref _ | exact isRf_ref _ | assumption | exact okRb _ | exact okN1 | exact okN0 | exact rfl) only [N_X6_find_0, N_X6_find_1, N_X6_find_4, N_X6_find_5, N_X6_find_8, N_X6_find_11, N_X6_find_14, N_X6_find_15, N_X6_find_18, N_X6_find_19, N_X6_find_22, N_X6_find_23, N_X6_find_26, N_X6_find_27, N_X6_find_30, N_X6_find_31, N_X6_find_34, N_X6_find_35, N_X6_find_38, N_X6_find_39, N_X6_find_42, N_X6_find_44, N_X6_find_47, N_X6_find_49, N_X6_find_52, N_X6_find_53, N_X6_find_54, N_X6_find_57, N_X6_find_60, N_X6_find_63, N_X6_find_64, N_X6_find_65, N_X6_find_68, N_X6_find_69, N_X6_find_70, N_X6_find_73, N_X6_find_74, N_X6_find_75, N_X6_find_78, N_X6_find_79, N_X6_find_81, N_X6_find_84, N_X6_find_85, N_X6_find_86, N_X6_find_87, N_X6_find_88, N_X6_find_91, N_X6_find_92, N_X6_find_94, N_X6_find_95, N_X6_find_99, N_X6_find_101, N_X6_find_104, N_X6_find_106, N_X6_find_107, N_X6_find_110, N_X6_find_113, N_X6_find_114, N_X6_find_117, N_X6_find_119, N_X6_find_120, N_X6_find_122, N_X6_find_124, N_X6_find_127, N_X6_find_128, N_X6_find_131, N_X6_find_132, N_X6_find_135, N_X6_find_136, N_X6_find_138, N_X6_find_141, N_X6_find_142, N_X6_find_143, N_X6_find_145, N_X6_find_147, N_X6_find_150, N_X6_find_152, N_X6_find_154, N_X6_find_157, N_X6_find_160, if_true, if_false, ite_true, ite_false, not_false_eq_true, not_true_eq_false, isRf_ref, isRf_null, c1_int, c1_ref, c1_null, c1_none, rfv_some, rfv_none, Ok_s, tl_some, tl_none, List.nil_append, b2i_n1, b2i_n0, ↓reduceIte, q1, q2, q3]
          exact search
      · simp (disch := first | omega | exact c1_int _ | exact c1_none | exact c1_ref _ | exact isRf_ref _ | assumption | exact okRb _ | exact okN1 | exact okN0 | exact rfl) only [N_X6_find_0, N_X6_find_1, N_X6_find_4, N_X6_find_5, N_X6_find_8, N_X6_find_11, N_X6_find_14, N_X6_find_15, N_X6_find_18, N_X6_find_19, N_X6_find_22, N_X6_find_23, N_X6_find_26, N_X6_find_27, N_X6_find_30, N_X6_find_31, N_X6_find_34, N_X6_find_35, N_X6_find_38, N_X6_find_39, N_X6_find_42, N_X6_find_44, N_X6_find_47, N_X6_find_49, N_X6_find_52, N_X6_find_53, N_X6_find_54, N_X6_find_57, N_X6_find_60, N_X6_find_63, N_X6_find_64, N_X6_find_65, N_X6_find_68, N_X6_find_69, N_X6_find_70, N_X6_find_73, N_X6_find_74, N_X6_find_75, N_X6_find_78, N_X6_find_79, N_X6_find_81, N_X6_find_84, N_X6_find_85, N_X6_find_86, N_X6_find_87, N_X6_find_88, N_X6_find_91, N_X6_find_92, N_X6_find_94, N_X6_find_95, N_X6_find_99, N_X6_find_101, N_X6_find_104, N_X6_find_106, N_X6_find_107, N_X6_find_110, N_X6_find_113, N_X6_find_114, N_X6_find_117, N_X6_find_119, N_X6_find_120, N_X6_find_122, N_X6_find_124, N_X6_find_127, N_X6_find_128, N_X6_find_131, N_X6_find_132, N_X6_find_135, N_X6_find_136, N_X6_find_138, N_X6_find_141, N_X6_find_142, N_X6_find_143, N_X6_find_145, N_X6_find_147, N_X6_find_150, N_X6_find_152, N_X6_find_154, N_X6_find_157, N_X6_find_160, if_true, if_false, ite_true, ite_false, not_false_eq_true, not_true_eq_false, isRf_ref, isRf_null, c1_int, c1_ref, c1_null, c1_none, rfv_some, rfv_none, Ok_s, tl_some, tl_none, List.nil_append, b2i_n1, b2i_n0, ↓reduceIte, q1, q2]
        exact search
    · simp (disch := first | omega | exact c1_int _ | exact c1_none | exact c1_ref _ | exact isRf_ref _ | assumption | exact okRb _ | exact okN1 | exact okN0 | exact rfl) only [N_X6_find_0, N_X6_find_1, N_X6_find_4, N_X6_find_5, N_X6_find_8, N_X6_find_11, N_X6_find_14, N_X6_find_15, N_X6_find_18, N_X6_find_19, N_X6_find_22, N_X6_find_23, N_X6_find_26, N_X6_find_27, N_X6_find_30, N_X6_find_31, N_X6_find_34, N_X6_find_35, N_X6_find_38, N_X6_find_39, N_X6_find_42, N_X6_find_44, N_X6_find_47, N_X6_find_49, N_X6_find_52, N_X6_find_53, N_X6_find_54, N_X6_find_57, N_X6_find_60, N_X6_find_63, N_X6_find_64, N_X6_find_65, N_X6_find_68, N_X6_find_69, N_X6_find_70, N_X6_find_73, N_X6_find_74, N_X6_find_75, N_X6_find_78, N_X6_find_79, N_X6_find_81, N_X6_find_84, N_X6_find_85, N_X6_find_86, N_X6_find_87, N_X6_find_88, N_X6_find_91, N_X6_find_92, N_X6_find_94, N_X6_find_95, N_X6_find_99, N_X6_find_101, N_X6_find_104, N_X6_find_106, N_X6_find_107, N_X6_find_110, N_X6_find_113, N_X6_find_114, N_X6_find_117, N_X6_find_119, N_X6_find_120, N_X6_find_122, N_X6_find_124, N_X6_find_127, N_X6_find_128, N_X6_find_131, N_X6_find_132, N_X6_find_135, N_X6_find_136, N_X6_find_138, N_X6_find_141, N_X6_find_142, N_X6_find_143, N_X6_find_145, N_X6_find_147, N_X6_find_150, N_X6_find_152, N_X6_find_154, N_X6_find_157, N_X6_find_160, if_true, if_false, ite_true, ite_false, not_false_eq_true, not_true_eq_false, isRf_ref, isRf_null, c1_int, c1_ref, c1_null, c1_none, rfv_some, rfv_none, Ok_s, tl_some, tl_none, List.nil_append, b2i_n1, b2i_n0, ↓reduceIte, q1]
      exact search
end Pb5
