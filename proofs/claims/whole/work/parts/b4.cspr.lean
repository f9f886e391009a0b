section Pb4
variable {xs : Nat → Int32} {Ln d : Nat} {D D' D'' : Dyn} {I I' I'' : Nat → Nat → Int32} {L : Nat → Nat → Int64} {w : Om} {Q : Res → Prop} {ow ow' ow'' ky ky' ky'' ln ln' ln'' a : Nat → Nat}
theorem SS.cg {s s' : Bs} (h : SS I ky ln s) (hN : bN s' = bN s) (hQ : ∀ i, i < bN s → bQ s' i = bQ s i) (hM : ∀ i, i < bN s → bM s' (bQ s i) = bM s (bQ s i)) (hP : ∀ i, i < bN s → 0 < i → bP s' i = bP s i) : SS I ky ln s' := by
  obtain ⟨c1, c2, c3, c4, c5, c6, c7, c8⟩ := h
  refine ⟨by rw [hN]; exact c1, by rw [hN]; exact c2, c3, c4, c5, c6, fun i hi => ?_, fun t ht => ?_⟩
  · rw [hN] at hi
    obtain ⟨g1, g2, g3, g4⟩ := c7 i hi
    rw [hQ i hi, hM i hi]
    exact ⟨g1, g2, g3, fun h0 => by rw [hP i hi h0]; exact g4 h0⟩
  · rw [c8 t ht]
    have : lst (fun i => decide (bQ s' i = t)) (bN s') = lst (fun i => decide (bQ s i = t)) (bN s) := by
      rw [hN]
      exact lst_cg _ (fun i hi => by rw [hQ i hi])
    unfold spo
    rw [this]
/-- a memory with rows that grow -/
abbrev Wd6 : Type := Dyn × (Nat → Nat → Int32) × (Nat → Nat → Int64) × (Nat → Nat) × (Nat → Nat) × (Nat → Nat)
/-- what a part of a search leaves -/
def SXw (D : Dyn) (I : Nat → Nat → Int32) (ow ky ln : Nat → Nat) (z : Nat) (s : Bs) (X : Wd6) : Prop := DA X.1 X.2.2.2.1 X.2.2.2.2.1 X.2.2.2.2.2 ∧ Rm X.1 X.2.2.2.2.2 z ∧ GX 1 4 29 D I ow ky ln X.1 X.2.1 X.2.2.2.1 X.2.2.2.2.1 X.2.2.2.2.2 ∧ SS X.2.1 X.2.2.2.2.1 X.2.2.2.2.2 s ∧ ∀ j, j ≠ 2 → X.2.1 29 j = I 29 j
theorem nI_m1z : nI 0 - nI 1 = m1 := by decide
theorem nO_eq {w : Nat} {wo : Option Nat} (hw : w < 8) (hwo : ∀ x, wo = some x → x < 8) : (nI w = nO wo) = (wo = some w) := by
  cases wo with
  | none =>
    rw [nO_n, n_m1 (by omega)]
    apply propext
    constructor
    · intro h; cases h
    · intro h; cases h
  | some x =>
    have := hwo x rfl
    rw [nO_s, n_eq (by omega) (by omega)]
    apply propext
    constructor
    · intro h; rw [h]
    · intro h; cases h; rfl
theorem c_spread {m st f lv z : Nat} {wo : Option Nat} {V : Nat → Prop} (hO : OwS ow) (hD : DA D ow ky ln) (hR : Rm D ln z) (hM : MM ow D I a) (hm1 : 1 ≤ m) (hm : m ≤ 3) (h4 : I 29 4 = nI m) (h7 : I 29 7 = nO wo) (hwo : ∀ x, wo = some x → x < 8)
    (hI : ∀ e, BI (behW a m wo) V st (bfs (behW a m wo) st e) e) (hV : ∀ x, V x → vSt a m x ∧ Rdy I a m (x % 8)) (hS : SS I ky ln (bfs (behW a m wo) st (8 * f)))
    (hf : f < bN (bfs (behW a m wo) st (8 * f))) (h1 : ∀ j, j < f → Fi (bfs (behW a m wo) st (8 * f)) j < lv) (h2 : ∀ j, f ≤ j → j < bN (bfs (behW a m wo) st (8 * f)) → Fi (bfs (behW a m wo) st (8 * f)) j = lv) :
    Ok (callD xs Ln (d + 4) 56 [.ref 29, .int (nI f), .int (nI (bN (bfs (behW a m wo) st (8 * f))))] (mkW D I L)) (fun q => ∃ X : Wd6, q = (mkW X.1 X.2.1 X.2.2.1, none) ∧ SXw D I ow ky ln z (bfs (behW a m wo) st (8 * bN (bfs (behW a m wo) st (8 * f)))) X) := by
  have hA := hM.2.1
  have hl32 := bI_n (hI (8 * f))
  generalize hl : bN (bfs (behW a m wo) st (8 * f)) = l at *
  refine semG (lo := [some (.ref 29), some (.int (nI f)), some (.int (nI l)), none, none, none, none]) rfl rfl (Nat.le_of_ble_eq_true rfl) rfl (show G_X6_spread xs Ln _ 0 [some (.ref 29), some (.int (nI f)), some (.int (nI l)), none, none, none, none] [] _ _ from ?_)
  simp (disch := first | omega | exact c1_int _ | exact c1_none | exact c1_ref _ | exact isRf_ref _ | assumption | exact okRb _ | exact okN1 | exact okN0 | exact rfl) only [N_X6_spread_0, N_X6_spread_1, N_X6_spread_3, N_X6_spread_4, N_X6_spread_7, N_X6_spread_8, N_X6_spread_12, N_X6_spread_14, N_X6_spread_17, N_X6_spread_19, N_X6_spread_20, N_X6_spread_23, N_X6_spread_26, N_X6_spread_27, N_X6_spread_30, N_X6_spread_31, N_X6_spread_34, N_X6_spread_35, N_X6_spread_38, N_X6_spread_39, N_X6_spread_42, N_X6_spread_43, N_X6_spread_44, N_X6_spread_46, N_X6_spread_49, N_X6_spread_51, N_X6_spread_53, N_X6_spread_54, N_X6_spread_57, N_X6_spread_59, N_X6_spread_60, N_X6_spread_63, N_X6_spread_64, N_X6_spread_67, N_X6_spread_68, N_X6_spread_71, N_X6_spread_73, N_X6_spread_74, N_X6_spread_75, N_X6_spread_76, N_X6_spread_79, N_X6_spread_80, N_X6_spread_82, N_X6_spread_84, N_X6_spread_85, N_X6_spread_88, N_X6_spread_89, N_X6_spread_91, N_X6_spread_92, N_X6_spread_94, N_X6_spread_95, N_X6_spread_97, N_X6_spread_98, N_X6_spread_99, N_X6_spread_102, N_X6_spread_103, N_X6_spread_104, N_X6_spread_107, N_X6_spread_110, N_X6_spread_112, N_X6_spread_113, N_X6_spread_116, N_X6_spread_117, N_X6_spread_120, N_X6_spread_122, N_X6_spread_124, N_X6_spread_125, N_X6_spread_128, N_X6_spread_130, N_X6_spread_131, N_X6_spread_132, N_X6_spread_135, N_X6_spread_136, N_X6_spread_137, N_X6_spread_138, N_X6_spread_141, N_X6_spread_142, N_X6_spread_145, N_X6_spread_148, N_X6_spread_151, N_X6_spread_154, if_true, if_false, ite_true, ite_false, not_false_eq_true, not_true_eq_false, isRf_ref, isRf_null, c1_int, c1_ref, c1_null, c1_none, rfv_some, rfv_none, Ok_s, tl_some, tl_none, List.nil_append, b2i_n1, b2i_n0, ↓reduceIte, nI_add, pk_mul, pk_sub, n_leT, n_leF, n_ltT, n_ltF, n_eqT, n_eqF, n_shl1, n_shl, n_shr, nI_and, nI_or, nI_xor, b2i_z, b2i_o, m1_n, n_m1, m1_lt, m1_le, n_lm1, n_em1, nI_m1, and1, and3, and7, and15, and63, and255, Bool.true_eq_false, Bool.false_eq_true, reduceCtorEq, Nat.reduceAdd, Nat.reduceMul, Nat.reduceSub, Nat.reduceDiv, Nat.reduceMod, Nat.reducePow, Nat.zero_add, Nat.one_mul]
  refine Lp (n := l) (σ := Wd6) (E := fun i X => ∀ u4 u5 u6, f ≤ i → G_X6_spread xs Ln (d + 3) 2 [some (.ref 29), some (.int (nI f)), some (.int (nI l)), some (.int (nI i)), u4, u5, u6] [] (mkW X.1 X.2.1 X.2.2.1) _) (Inv := fun i X => SXw D I ow ky ln z (bfs (behW a m wo) st (8 * i)) X) ?_ ?_ f (D, I, L, ow, ky, ln) (by omega) ⟨hD, hR, GX.rf, hS, fun _ _ => rfl⟩ none none none (Nat.le_refl _)
  · rintro X hX u4 u5 u6 _
    rw [N_X6_spread_2]
    simp (disch := first | omega | exact c1_int _ | exact c1_none | exact c1_ref _ | exact isRf_ref _ | assumption | exact okRb _ | exact okN1 | exact okN0 | exact rfl) only [N_X6_spread_0, N_X6_spread_1, N_X6_spread_3, N_X6_spread_4, N_X6_spread_7, N_X6_spread_8, N_X6_spread_12, N_X6_spread_14, N_X6_spread_17, N_X6_spread_19, N_X6_spread_20, N_X6_spread_23, N_X6_spread_26, N_X6_spread_27, N_X6_spread_30, N_X6_spread_31, N_X6_spread_34, N_X6_spread_35, N_X6_spread_38, N_X6_spread_39, N_X6_spread_42, N_X6_spread_43, N_X6_spread_44, N_X6_spread_46, N_X6_spread_49, N_X6_spread_51, N_X6_spread_53, N_X6_spread_54, N_X6_spread_57, N_X6_spread_59, N_X6_spread_60, N_X6_spread_63, N_X6_spread_64, N_X6_spread_67, N_X6_spread_68, N_X6_spread_71, N_X6_spread_73, N_X6_spread_74, N_X6_spread_75, N_X6_spread_76, N_X6_spread_79, N_X6_spread_80, N_X6_spread_82, N_X6_spread_84, N_X6_spread_85, N_X6_spread_88, N_X6_spread_89, N_X6_spread_91, N_X6_spread_92, N_X6_spread_94, N_X6_spread_95, N_X6_spread_97, N_X6_spread_98, N_X6_spread_99, N_X6_spread_102, N_X6_spread_103, N_X6_spread_104, N_X6_spread_107, N_X6_spread_110, N_X6_spread_112, N_X6_spread_113, N_X6_spread_116, N_X6_spread_117, N_X6_spread_120, N_X6_spread_122, N_X6_spread_124, N_X6_spread_125, N_X6_spread_128, N_X6_spread_130, N_X6_spread_131, N_X6_spread_132, N_X6_spread_135, N_X6_spread_136, N_X6_spread_137, N_X6_spread_138, N_X6_spread_141, N_X6_spread_142, N_X6_spread_145, N_X6_spread_148, N_X6_spread_151, N_X6_spread_154, if_true, if_false, ite_true, ite_false, not_false_eq_true, not_true_eq_false, isRf_ref, isRf_null, c1_int, c1_ref, c1_null, c1_none, rfv_some, rfv_none, Ok_s, tl_some, tl_none, List.nil_append, b2i_n1, b2i_n0, ↓reduceIte, nI_add, pk_mul, pk_sub, n_leT, n_leF, n_ltT, n_ltF, n_eqT, n_eqF, n_shl1, n_shl, n_shr, nI_and, nI_or, nI_xor, b2i_z, b2i_o, m1_n, n_m1, m1_lt, m1_le, n_lm1, n_em1, nI_m1, and1, and3, and7, and15, and63, and255, Bool.true_eq_false, Bool.false_eq_true, reduceCtorEq, Nat.reduceAdd, Nat.reduceMul, Nat.reduceSub, Nat.reduceDiv, Nat.reduceMod, Nat.reducePow, Nat.zero_add, Nat.one_mul]
    exact ⟨X, rfl, hX⟩
  · rintro i X hi hX ih u4 u5 u6 hfi
    rw [N_X6_spread_2]
    simp (disch := first | omega | exact c1_int _ | exact c1_none | exact c1_ref _ | exact isRf_ref _ | assumption | exact okRb _ | exact okN1 | exact okN0 | exact rfl) only [N_X6_spread_0, N_X6_spread_1, N_X6_spread_3, N_X6_spread_4, N_X6_spread_7, N_X6_spread_8, N_X6_spread_12, N_X6_spread_14, N_X6_spread_17, N_X6_spread_19, N_X6_spread_20, N_X6_spread_23, N_X6_spread_26, N_X6_spread_27, N_X6_spread_30, N_X6_spread_31, N_X6_spread_34, N_X6_spread_35, N_X6_spread_38, N_X6_spread_39, N_X6_spread_42, N_X6_spread_43, N_X6_spread_44, N_X6_spread_46, N_X6_spread_49, N_X6_spread_51, N_X6_spread_53, N_X6_spread_54, N_X6_spread_57, N_X6_spread_59, N_X6_spread_60, N_X6_spread_63, N_X6_spread_64, N_X6_spread_67, N_X6_spread_68, N_X6_spread_71, N_X6_spread_73, N_X6_spread_74, N_X6_spread_75, N_X6_spread_76, N_X6_spread_79, N_X6_spread_80, N_X6_spread_82, N_X6_spread_84, N_X6_spread_85, N_X6_spread_88, N_X6_spread_89, N_X6_spread_91, N_X6_spread_92, N_X6_spread_94, N_X6_spread_95, N_X6_spread_97, N_X6_spread_98, N_X6_spread_99, N_X6_spread_102, N_X6_spread_103, N_X6_spread_104, N_X6_spread_107, N_X6_spread_110, N_X6_spread_112, N_X6_spread_113, N_X6_spread_116, N_X6_spread_117, N_X6_spread_120, N_X6_spread_122, N_X6_spread_124, N_X6_spread_125, N_X6_spread_128, N_X6_spread_130, N_X6_spread_131, N_X6_spread_132, N_X6_spread_135, N_X6_spread_136, N_X6_spread_137, N_X6_spread_138, N_X6_spread_141, N_X6_spread_142, N_X6_spread_145, N_X6_spread_148, N_X6_spread_151, N_X6_spread_154, if_true, if_false, ite_true, ite_false, not_false_eq_true, not_true_eq_false, isRf_ref, isRf_null, c1_int, c1_ref, c1_null, c1_none, rfv_some, rfv_none, Ok_s, tl_some, tl_none, List.nil_append, b2i_n1, b2i_n0, ↓reduceIte, nI_add, pk_mul, pk_sub, n_leT, n_leF, n_ltT, n_ltF, n_eqT, n_eqF, n_shl1, n_shl, n_shr, nI_and, nI_or, nI_xor, b2i_z, b2i_o, m1_n, n_m1, m1_lt, m1_le, n_lm1, n_em1, nI_m1, and1, and3, and7, and15, and63, and255, Bool.true_eq_false, Bool.false_eq_true, reduceCtorEq, Nat.reduceAdd, Nat.reduceMul, Nat.reduceSub, Nat.reduceDiv, Nat.reduceMod, Nat.reducePow, Nat.zero_add, Nat.one_mul]
    refine Lp (n := 8) (σ := Wd6) (E := fun wd X => ∀ u5 u6, G_X6_spread xs Ln (d + 3) 10 [some (.ref 29), some (.int (nI f)), some (.int (nI l)), some (.int (nI i)), some (.int (nI wd)), u5, u6] [] (mkW X.1 X.2.1 X.2.2.1) _) (Inv := fun wd X => SXw D I ow ky ln z (bfs (behW a m wo) st (8 * i + wd)) X) ?_ ?_ 0 X (by omega) hX u5 u6
    · rintro X hX u5 u6
      rw [N_X6_spread_10]
      simp (disch := first | omega | exact c1_int _ | exact c1_none | exact c1_ref _ | exact isRf_ref _ | assumption | exact okRb _ | exact okN1 | exact okN0 | exact rfl) only [N_X6_spread_0, N_X6_spread_1, N_X6_spread_3, N_X6_spread_4, N_X6_spread_7, N_X6_spread_8, N_X6_spread_12, N_X6_spread_14, N_X6_spread_17, N_X6_spread_19, N_X6_spread_20, N_X6_spread_23, N_X6_spread_26, N_X6_spread_27, N_X6_spread_30, N_X6_spread_31, N_X6_spread_34, N_X6_spread_35, N_X6_spread_38, N_X6_spread_39, N_X6_spread_42, N_X6_spread_43, N_X6_spread_44, N_X6_spread_46, N_X6_spread_49, N_X6_spread_51, N_X6_spread_53, N_X6_spread_54, N_X6_spread_57, N_X6_spread_59, N_X6_spread_60, N_X6_spread_63, N_X6_spread_64, N_X6_spread_67, N_X6_spread_68, N_X6_spread_71, N_X6_spread_73, N_X6_spread_74, N_X6_spread_75, N_X6_spread_76, N_X6_spread_79, N_X6_spread_80, N_X6_spread_82, N_X6_spread_84, N_X6_spread_85, N_X6_spread_88, N_X6_spread_89, N_X6_spread_91, N_X6_spread_92, N_X6_spread_94, N_X6_spread_95, N_X6_spread_97, N_X6_spread_98, N_X6_spread_99, N_X6_spread_102, N_X6_spread_103, N_X6_spread_104, N_X6_spread_107, N_X6_spread_110, N_X6_spread_112, N_X6_spread_113, N_X6_spread_116, N_X6_spread_117, N_X6_spread_120, N_X6_spread_122, N_X6_spread_124, N_X6_spread_125, N_X6_spread_128, N_X6_spread_130, N_X6_spread_131, N_X6_spread_132, N_X6_spread_135, N_X6_spread_136, N_X6_spread_137, N_X6_spread_138, N_X6_spread_141, N_X6_spread_142, N_X6_spread_145, N_X6_spread_148, N_X6_spread_151, N_X6_spread_154, if_true, if_false, ite_true, ite_false, not_false_eq_true, not_true_eq_false, isRf_ref, isRf_null, c1_int, c1_ref, c1_null, c1_none, rfv_some, rfv_none, Ok_s, tl_some, tl_none, List.nil_append, b2i_n1, b2i_n0, ↓reduceIte, nI_add, pk_mul, pk_sub, n_leT, n_leF, n_ltT, n_ltF, n_eqT, n_eqF, n_shl1, n_shl, n_shr, nI_and, nI_or, nI_xor, b2i_z, b2i_o, m1_n, n_m1, m1_lt, m1_le, n_lm1, n_em1, nI_m1, and1, and3, and7, and15, and63, and255, Bool.true_eq_false, Bool.false_eq_true, reduceCtorEq, Nat.reduceAdd, Nat.reduceMul, Nat.reduceSub, Nat.reduceDiv, Nat.reduceMod, Nat.reducePow, Nat.zero_add, Nat.one_mul]
      exact ih X hX _ _ _ (by omega)
    · rintro wd ⟨D1, I1, L1, ow1, ky1, ln1⟩ hwd hX ih2 u5 u6
      obtain ⟨x1, x2, x3, x4, x5⟩ := hX
      dsimp only at x1 x2 x3 x4 x5 ⊢
      have hl' : 8 * i + wd ≤ 8 * bN (bfs (behW a m wo) st (8 * f)) := by omega
      obtain ⟨v1, v2, v3⟩ := lev_e hI (by omega) h1 (fun j h3 h4 => h2 j h3 (by omega)) (e := 8 * i + wd) (by omega) hl'
      rw [hl] at v1 v2 v3
      have hIe := hI (8 * i + wd)
      have hIe1 := hI (8 * i + wd + 1)
      have hb1 : bfs (behW a m wo) st (8 * i + wd + 1) = bstep (behW a m wo) (bfs (behW a m wo) st (8 * i + wd)) (8 * i + wd) := rfl
      generalize hs : bfs (behW a m wo) st (8 * i + wd) = s at *
      have e8 : (8 * i + wd) / 8 = i := by omega
      have e8' : (8 * i + wd) % 8 = wd := by omega
      have hin : i < bN s := by omega
      have hstep : bstep (behW a m wo) s (8 * i + wd) = (match behW a m wo (bQ s i) wd with
        | none => s
        | some t => bput s (8 * i + wd) t) := by
        unfold bstep
        rw [e8, e8', if_pos hin]
        rfl
      have hFi : Fi s i = lv := by rw [(v2 i hi).2]; exact h2 i hfi hi
      have hdist := hIe.2.2.2.2.1
      obtain ⟨p1, q1, o1, y1, z1, -, b1⟩ := x1 1 (by omega) (by omega)
      obtain ⟨p2, q2, o2, y2, z2, -, b2⟩ := x1 2 (by omega) (by omega)
      obtain ⟨p4, q4, o4, y4, z4, -, b4⟩ := x1 4 (by omega) (by omega)
      have p1' : pF D1 29 10 = some (ky1 1) := p1
      have p2' : pF D1 29 11 = some (ky1 2) := p2
      have p4' : pF D1 29 13 = some (ky1 4) := p4
      have x4' := x4
      obtain ⟨c1', c2, c3, c4, c5, c6, c7, c8⟩ := x4
      obtain ⟨g1, g2, g3, -⟩ := c7 i hin
      have hq := hV _ (hIe.2.1 i hin)
      have f4 : I1 29 4 = nI m := by rw [x5 4 (by decide)]; exact h4
      have f7 : I1 29 7 = nO wo := by rw [x5 7 (by decide)]; exact h7
      have hM1 := x3.mm hO (by omega) (by omega) (Or.inl rfl) hM
      have hsb := c_standR (xs := xs) (Ln := Ln) (d := d + 1) (D := D1) (I := I1) (L := L1) (m := m) (st := bQ s i) (wd := wd) hM1.1 hA hm1 hm hq.1 hwd (x3.rdy hO (by omega) (by omega) (Or.inl rfl) hq.2)
      have hq32 := hq.1.1
      have next : ∀ (X' : Wd6) u5 u6, SXw D I ow ky ln z (bstep (behW a m wo) s (8 * i + wd)) X' → G_X6_spread xs Ln (d + 3) 10 [some (.ref 29), some (.int (nI f)), some (.int (nI l)), some (.int (nI i)), some (.int (nI (wd + 1))), u5, u6] [] (mkW X'.1 X'.2.1 X'.2.2.1) (fun q => ∃ X : Wd6, q = (mkW X.1 X.2.1 X.2.2.1, none) ∧ SXw D I ow ky ln z (bfs (behW a m wo) st (8 * l)) X) := by
        intro X' u5 u6 hX'
        refine ih2 X' ?_ u5 u6
        rw [← Nat.add_assoc, hb1]
        exact hX'
      rw [N_X6_spread_10]
      by_cases hsk : wo = some wd
      · have hsk' : nI wd = nO wo := by rw [nO_eq hwd hwo]; exact hsk
        have hbn : behW a m wo (bQ s i) wd = none := by unfold behW; rw [if_pos hsk]
        have hskT : (nI wd = nO wo) = True := eq_true hsk'
        have em : (m1 = m1) = True := eq_true rfl
        simp (disch := first | omega | exact c1_int _ | exact c1_none | exact c1_ref _ | exact isRf_ref _ | assumption | exact okRb _ | exact okN1 | exact okN0 | exact rfl) only [N_X6_spread_0, N_X6_spread_1, N_X6_spread_3, N_X6_spread_4, N_X6_spread_7, N_X6_spread_8, N_X6_spread_12, N_X6_spread_14, N_X6_spread_17, N_X6_spread_19, N_X6_spread_20, N_X6_spread_23, N_X6_spread_26, N_X6_spread_27, N_X6_spread_30, N_X6_spread_31, N_X6_spread_34, N_X6_spread_35, N_X6_spread_38, N_X6_spread_39, N_X6_spread_42, N_X6_spread_43, N_X6_spread_44, N_X6_spread_46, N_X6_spread_49, N_X6_spread_51, N_X6_spread_53, N_X6_spread_54, N_X6_spread_57, N_X6_spread_59, N_X6_spread_60, N_X6_spread_63, N_X6_spread_64, N_X6_spread_67, N_X6_spread_68, N_X6_spread_71, N_X6_spread_73, N_X6_spread_74, N_X6_spread_75, N_X6_spread_76, N_X6_spread_79, N_X6_spread_80, N_X6_spread_82, N_X6_spread_84, N_X6_spread_85, N_X6_spread_88, N_X6_spread_89, N_X6_spread_91, N_X6_spread_92, N_X6_spread_94, N_X6_spread_95, N_X6_spread_97, N_X6_spread_98, N_X6_spread_99, N_X6_spread_102, N_X6_spread_103, N_X6_spread_104, N_X6_spread_107, N_X6_spread_110, N_X6_spread_112, N_X6_spread_113, N_X6_spread_116, N_X6_spread_117, N_X6_spread_120, N_X6_spread_122, N_X6_spread_124, N_X6_spread_125, N_X6_spread_128, N_X6_spread_130, N_X6_spread_131, N_X6_spread_132, N_X6_spread_135, N_X6_spread_136, N_X6_spread_137, N_X6_spread_138, N_X6_spread_141, N_X6_spread_142, N_X6_spread_145, N_X6_spread_148, N_X6_spread_151, N_X6_spread_154, if_true, if_false, ite_true, ite_false, not_false_eq_true, not_true_eq_false, isRf_ref, isRf_null, c1_int, c1_ref, c1_null, c1_none, rfv_some, rfv_none, Ok_s, tl_some, tl_none, List.nil_append, b2i_n1, b2i_n0, ↓reduceIte, nI_add, pk_mul, pk_sub, n_leT, n_leF, n_ltT, n_ltF, n_eqT, n_eqF, n_shl1, n_shl, n_shr, nI_and, nI_or, nI_xor, b2i_z, b2i_o, m1_n, n_m1, m1_lt, m1_le, n_lm1, n_em1, nI_m1, and1, and3, and7, and15, and63, and255, Bool.true_eq_false, Bool.false_eq_true, reduceCtorEq, Nat.reduceAdd, Nat.reduceMul, Nat.reduceSub, Nat.reduceDiv, Nat.reduceMod, Nat.reducePow, Nat.zero_add, Nat.one_mul, f7, hskT, em]
        refine next (D1, I1, L1, ow1, ky1, ln1) _ _ ⟨x1, x2, x3, ?_, x5⟩
        rw [hstep, hbn]
        exact x4'
      · have hskF : (nI wd = nO wo) = False := by rw [nO_eq hwd hwo]; exact eq_false hsk
        have hbw : behW a m wo (bQ s i) wd = behA a m (bQ s i) wd := by unfold behW; rw [if_neg hsk]
        simp (disch := first | omega | exact c1_int _ | exact c1_none | exact c1_ref _ | exact isRf_ref _ | assumption | exact okRb _ | exact okN1 | exact okN0 | exact rfl) only [N_X6_spread_0, N_X6_spread_1, N_X6_spread_3, N_X6_spread_4, N_X6_spread_7, N_X6_spread_8, N_X6_spread_12, N_X6_spread_14, N_X6_spread_17, N_X6_spread_19, N_X6_spread_20, N_X6_spread_23, N_X6_spread_26, N_X6_spread_27, N_X6_spread_30, N_X6_spread_31, N_X6_spread_34, N_X6_spread_35, N_X6_spread_38, N_X6_spread_39, N_X6_spread_42, N_X6_spread_43, N_X6_spread_44, N_X6_spread_46, N_X6_spread_49, N_X6_spread_51, N_X6_spread_53, N_X6_spread_54, N_X6_spread_57, N_X6_spread_59, N_X6_spread_60, N_X6_spread_63, N_X6_spread_64, N_X6_spread_67, N_X6_spread_68, N_X6_spread_71, N_X6_spread_73, N_X6_spread_74, N_X6_spread_75, N_X6_spread_76, N_X6_spread_79, N_X6_spread_80, N_X6_spread_82, N_X6_spread_84, N_X6_spread_85, N_X6_spread_88, N_X6_spread_89, N_X6_spread_91, N_X6_spread_92, N_X6_spread_94, N_X6_spread_95, N_X6_spread_97, N_X6_spread_98, N_X6_spread_99, N_X6_spread_102, N_X6_spread_103, N_X6_spread_104, N_X6_spread_107, N_X6_spread_110, N_X6_spread_112, N_X6_spread_113, N_X6_spread_116, N_X6_spread_117, N_X6_spread_120, N_X6_spread_122, N_X6_spread_124, N_X6_spread_125, N_X6_spread_128, N_X6_spread_130, N_X6_spread_131, N_X6_spread_132, N_X6_spread_135, N_X6_spread_136, N_X6_spread_137, N_X6_spread_138, N_X6_spread_141, N_X6_spread_142, N_X6_spread_145, N_X6_spread_148, N_X6_spread_151, N_X6_spread_154, if_true, if_false, ite_true, ite_false, not_false_eq_true, not_true_eq_false, isRf_ref, isRf_null, c1_int, c1_ref, c1_null, c1_none, rfv_some, rfv_none, Ok_s, tl_some, tl_none, List.nil_append, b2i_n1, b2i_n0, ↓reduceIte, nI_add, pk_mul, pk_sub, n_leT, n_leF, n_ltT, n_ltF, n_eqT, n_eqF, n_shl1, n_shl, n_shr, nI_and, nI_or, nI_xor, b2i_z, b2i_o, m1_n, n_m1, m1_lt, m1_le, n_lm1, n_em1, nI_m1, and1, and3, and7, and15, and63, and255, Bool.true_eq_false, Bool.false_eq_true, reduceCtorEq, Nat.reduceAdd, Nat.reduceMul, Nat.reduceSub, Nat.reduceDiv, Nat.reduceMod, Nat.reducePow, Nat.zero_add, Nat.one_mul, f7, hskF, f4, p2', g1, hsb]
        cases hbh : behA a m (bQ s i) wd with
        | none =>
          have em : (m1 = m1) = True := eq_true rfl
          simp (disch := first | omega | exact c1_int _ | exact c1_none | exact c1_ref _ | exact isRf_ref _ | assumption | exact okRb _ | exact okN1 | exact okN0 | exact rfl) only [N_X6_spread_0, N_X6_spread_1, N_X6_spread_3, N_X6_spread_4, N_X6_spread_7, N_X6_spread_8, N_X6_spread_12, N_X6_spread_14, N_X6_spread_17, N_X6_spread_19, N_X6_spread_20, N_X6_spread_23, N_X6_spread_26, N_X6_spread_27, N_X6_spread_30, N_X6_spread_31, N_X6_spread_34, N_X6_spread_35, N_X6_spread_38, N_X6_spread_39, N_X6_spread_42, N_X6_spread_43, N_X6_spread_44, N_X6_spread_46, N_X6_spread_49, N_X6_spread_51, N_X6_spread_53, N_X6_spread_54, N_X6_spread_57, N_X6_spread_59, N_X6_spread_60, N_X6_spread_63, N_X6_spread_64, N_X6_spread_67, N_X6_spread_68, N_X6_spread_71, N_X6_spread_73, N_X6_spread_74, N_X6_spread_75, N_X6_spread_76, N_X6_spread_79, N_X6_spread_80, N_X6_spread_82, N_X6_spread_84, N_X6_spread_85, N_X6_spread_88, N_X6_spread_89, N_X6_spread_91, N_X6_spread_92, N_X6_spread_94, N_X6_spread_95, N_X6_spread_97, N_X6_spread_98, N_X6_spread_99, N_X6_spread_102, N_X6_spread_103, N_X6_spread_104, N_X6_spread_107, N_X6_spread_110, N_X6_spread_112, N_X6_spread_113, N_X6_spread_116, N_X6_spread_117, N_X6_spread_120, N_X6_spread_122, N_X6_spread_124, N_X6_spread_125, N_X6_spread_128, N_X6_spread_130, N_X6_spread_131, N_X6_spread_132, N_X6_spread_135, N_X6_spread_136, N_X6_spread_137, N_X6_spread_138, N_X6_spread_141, N_X6_spread_142, N_X6_spread_145, N_X6_spread_148, N_X6_spread_151, N_X6_spread_154, if_true, if_false, ite_true, ite_false, not_false_eq_true, not_true_eq_false, isRf_ref, isRf_null, c1_int, c1_ref, c1_null, c1_none, rfv_some, rfv_none, Ok_s, tl_some, tl_none, List.nil_append, b2i_n1, b2i_n0, ↓reduceIte, nI_add, pk_mul, pk_sub, n_leT, n_leF, n_ltT, n_ltF, n_eqT, n_eqF, n_shl1, n_shl, n_shr, nI_and, nI_or, nI_xor, b2i_z, b2i_o, m1_n, n_m1, m1_lt, m1_le, n_lm1, n_em1, nI_m1, and1, and3, and7, and15, and63, and255, Bool.true_eq_false, Bool.false_eq_true, reduceCtorEq, Nat.reduceAdd, Nat.reduceMul, Nat.reduceSub, Nat.reduceDiv, Nat.reduceMod, Nat.reducePow, Nat.zero_add, Nat.one_mul, nO_n, em]
          refine next (D1, I1, L1, ow1, ky1, ln1) _ _ ⟨x1, x2, x3, ?_, x5⟩
          rw [hstep, hbw, hbh]
          exact x4'
        | some t =>
          have hstep' : bstep (behW a m wo) s (8 * i + wd) = bput s (8 * i + wd) t := by rw [hstep, hbw, hbh]
          have ht := (beh_v hA hm1 hm hq.1 hbh).1.1
          have hMle := hIe.2.2.2.2.2.2.2.2.2.2.1
          -- t is new
          have new : (∀ j, j < bN s → bQ s j ≠ t) → G_X6_spread xs Ln (d + 3) 88 [some (.ref 29), some (.int (nI f)), some (.int (nI l)), some (.int (nI i)), some (.int (nI wd)), some (.int (nI t)), some (.int m1)] [] (mkW D1 I1 L1) (fun q => ∃ X : Wd6, q = (mkW X.1 X.2.1 X.2.2.1, none) ∧ SXw D I ow ky ln z (bfs (behW a m wo) st (8 * l)) X) := by
            intro hn
            have hFn : bF s t = none := by
              cases hF : bF s t with
              | none => rfl
              | some y =>
                obtain ⟨j, hj, hj2⟩ := hIe.2.2.2.1 t y hF
                exact absurd hj2 (hn j hj)
            have hbp : bput s (8 * i + wd) t = (bN s + 1, up1 (bQ s) (bN s) t, up1 (bF s) t (some (Fi s i + 1)), up1 (bM s) t (bM s (bQ s i)), up1 (bP s) (bN s) (8 * i + wd)) := by
              unfold bput
              rw [if_pos hFn, e8]
            have hN1 : bN s + 1 ≤ 32768 := by
              have := bI_n hIe1
              rw [hb1, hstep', hbp] at this
              exact this
            have ee : i * 8 + wd = 8 * i + wd := by omega
            simp (disch := first | omega | exact c1_int _ | exact c1_none | exact c1_ref _ | exact isRf_ref _ | assumption | exact okRb _ | exact okN1 | exact okN0 | exact rfl) only [N_X6_spread_0, N_X6_spread_1, N_X6_spread_3, N_X6_spread_4, N_X6_spread_7, N_X6_spread_8, N_X6_spread_12, N_X6_spread_14, N_X6_spread_17, N_X6_spread_19, N_X6_spread_20, N_X6_spread_23, N_X6_spread_26, N_X6_spread_27, N_X6_spread_30, N_X6_spread_31, N_X6_spread_34, N_X6_spread_35, N_X6_spread_38, N_X6_spread_39, N_X6_spread_42, N_X6_spread_43, N_X6_spread_44, N_X6_spread_46, N_X6_spread_49, N_X6_spread_51, N_X6_spread_53, N_X6_spread_54, N_X6_spread_57, N_X6_spread_59, N_X6_spread_60, N_X6_spread_63, N_X6_spread_64, N_X6_spread_67, N_X6_spread_68, N_X6_spread_71, N_X6_spread_73, N_X6_spread_74, N_X6_spread_75, N_X6_spread_76, N_X6_spread_79, N_X6_spread_80, N_X6_spread_82, N_X6_spread_84, N_X6_spread_85, N_X6_spread_88, N_X6_spread_89, N_X6_spread_91, N_X6_spread_92, N_X6_spread_94, N_X6_spread_95, N_X6_spread_97, N_X6_spread_98, N_X6_spread_99, N_X6_spread_102, N_X6_spread_103, N_X6_spread_104, N_X6_spread_107, N_X6_spread_110, N_X6_spread_112, N_X6_spread_113, N_X6_spread_116, N_X6_spread_117, N_X6_spread_120, N_X6_spread_122, N_X6_spread_124, N_X6_spread_125, N_X6_spread_128, N_X6_spread_130, N_X6_spread_131, N_X6_spread_132, N_X6_spread_135, N_X6_spread_136, N_X6_spread_137, N_X6_spread_138, N_X6_spread_141, N_X6_spread_142, N_X6_spread_145, N_X6_spread_148, N_X6_spread_151, N_X6_spread_154, if_true, if_false, ite_true, ite_false, not_false_eq_true, not_true_eq_false, isRf_ref, isRf_null, c1_int, c1_ref, c1_null, c1_none, rfv_some, rfv_none, Ok_s, tl_some, tl_none, List.nil_append, b2i_n1, b2i_n0, ↓reduceIte, nI_add, pk_mul, pk_sub, n_leT, n_leF, n_ltT, n_ltF, n_eqT, n_eqF, n_shl1, n_shl, n_shr, nI_and, nI_or, nI_xor, b2i_z, b2i_o, m1_n, n_m1, m1_lt, m1_le, n_lm1, n_em1, nI_m1, and1, and3, and7, and15, and63, and255, Bool.true_eq_false, Bool.false_eq_true, reduceCtorEq, Nat.reduceAdd, Nat.reduceMul, Nat.reduceSub, Nat.reduceDiv, Nat.reduceMod, Nat.reducePow, Nat.zero_add, Nat.one_mul, p4', g3, ee]
            refine Ok.mono (c_add (d := d) (s := s) (t := t) (r := bM s (bQ s i)) (e := 8 * i + wd) (z := z) x1 x2 x4' ht hn (by omega) (fun _ => rfl)) ?_
            rintro _ ⟨D2, I2, L2, ow2, ky2, ln2, rfl, y1, y2, y3, y4, y5⟩
            simp (disch := first | omega | exact c1_int _ | exact c1_none | exact c1_ref _ | exact isRf_ref _ | assumption | exact okRb _ | exact okN1 | exact okN0 | exact rfl) only [N_X6_spread_0, N_X6_spread_1, N_X6_spread_3, N_X6_spread_4, N_X6_spread_7, N_X6_spread_8, N_X6_spread_12, N_X6_spread_14, N_X6_spread_17, N_X6_spread_19, N_X6_spread_20, N_X6_spread_23, N_X6_spread_26, N_X6_spread_27, N_X6_spread_30, N_X6_spread_31, N_X6_spread_34, N_X6_spread_35, N_X6_spread_38, N_X6_spread_39, N_X6_spread_42, N_X6_spread_43, N_X6_spread_44, N_X6_spread_46, N_X6_spread_49, N_X6_spread_51, N_X6_spread_53, N_X6_spread_54, N_X6_spread_57, N_X6_spread_59, N_X6_spread_60, N_X6_spread_63, N_X6_spread_64, N_X6_spread_67, N_X6_spread_68, N_X6_spread_71, N_X6_spread_73, N_X6_spread_74, N_X6_spread_75, N_X6_spread_76, N_X6_spread_79, N_X6_spread_80, N_X6_spread_82, N_X6_spread_84, N_X6_spread_85, N_X6_spread_88, N_X6_spread_89, N_X6_spread_91, N_X6_spread_92, N_X6_spread_94, N_X6_spread_95, N_X6_spread_97, N_X6_spread_98, N_X6_spread_99, N_X6_spread_102, N_X6_spread_103, N_X6_spread_104, N_X6_spread_107, N_X6_spread_110, N_X6_spread_112, N_X6_spread_113, N_X6_spread_116, N_X6_spread_117, N_X6_spread_120, N_X6_spread_122, N_X6_spread_124, N_X6_spread_125, N_X6_spread_128, N_X6_spread_130, N_X6_spread_131, N_X6_spread_132, N_X6_spread_135, N_X6_spread_136, N_X6_spread_137, N_X6_spread_138, N_X6_spread_141, N_X6_spread_142, N_X6_spread_145, N_X6_spread_148, N_X6_spread_151, N_X6_spread_154, if_true, if_false, ite_true, ite_false, not_false_eq_true, not_true_eq_false, isRf_ref, isRf_null, c1_int, c1_ref, c1_null, c1_none, rfv_some, rfv_none, Ok_s, tl_some, tl_none, List.nil_append, b2i_n1, b2i_n0, ↓reduceIte, nI_add, pk_mul, pk_sub, n_leT, n_leF, n_ltT, n_ltF, n_eqT, n_eqF, n_shl1, n_shl, n_shr, nI_and, nI_or, nI_xor, b2i_z, b2i_o, m1_n, n_m1, m1_lt, m1_le, n_lm1, n_em1, nI_m1, and1, and3, and7, and15, and63, and255, Bool.true_eq_false, Bool.false_eq_true, reduceCtorEq, Nat.reduceAdd, Nat.reduceMul, Nat.reduceSub, Nat.reduceDiv, Nat.reduceMod, Nat.reducePow, Nat.zero_add, Nat.one_mul]
            refine next (D2, I2, L2, ow2, ky2, ln2) _ _ ⟨y1, y2, x3.tr y3, ?_, fun j hj => by show I2 29 j = _; rw [y5 j hj]; exact x5 j hj⟩
            rw [hstep', hbp]
            exact y4
          by_cases htl : t < ln1 1
          · rcases spo_c s t with ⟨h0, hn⟩ | ⟨k, k1, k2, k3⟩
            · have r1 := c8 t htl
              rw [h0] at r1
              have em : (m1 = m1) = True := eq_true rfl
              simp (disch := first | omega | exact c1_int _ | exact c1_none | exact c1_ref _ | exact isRf_ref _ | assumption | exact okRb _ | exact okN1 | exact okN0 | exact rfl) only [N_X6_spread_0, N_X6_spread_1, N_X6_spread_3, N_X6_spread_4, N_X6_spread_7, N_X6_spread_8, N_X6_spread_12, N_X6_spread_14, N_X6_spread_17, N_X6_spread_19, N_X6_spread_20, N_X6_spread_23, N_X6_spread_26, N_X6_spread_27, N_X6_spread_30, N_X6_spread_31, N_X6_spread_34, N_X6_spread_35, N_X6_spread_38, N_X6_spread_39, N_X6_spread_42, N_X6_spread_43, N_X6_spread_44, N_X6_spread_46, N_X6_spread_49, N_X6_spread_51, N_X6_spread_53, N_X6_spread_54, N_X6_spread_57, N_X6_spread_59, N_X6_spread_60, N_X6_spread_63, N_X6_spread_64, N_X6_spread_67, N_X6_spread_68, N_X6_spread_71, N_X6_spread_73, N_X6_spread_74, N_X6_spread_75, N_X6_spread_76, N_X6_spread_79, N_X6_spread_80, N_X6_spread_82, N_X6_spread_84, N_X6_spread_85, N_X6_spread_89, N_X6_spread_91, N_X6_spread_92, N_X6_spread_94, N_X6_spread_95, N_X6_spread_97, N_X6_spread_98, N_X6_spread_99, N_X6_spread_102, N_X6_spread_103, N_X6_spread_104, N_X6_spread_107, N_X6_spread_110, N_X6_spread_112, N_X6_spread_113, N_X6_spread_116, N_X6_spread_117, N_X6_spread_120, N_X6_spread_122, N_X6_spread_124, N_X6_spread_125, N_X6_spread_128, N_X6_spread_130, N_X6_spread_131, N_X6_spread_132, N_X6_spread_135, N_X6_spread_136, N_X6_spread_137, N_X6_spread_138, N_X6_spread_141, N_X6_spread_142, N_X6_spread_145, N_X6_spread_148, N_X6_spread_151, N_X6_spread_154, if_true, if_false, ite_true, ite_false, not_false_eq_true, not_true_eq_false, isRf_ref, isRf_null, c1_int, c1_ref, c1_null, c1_none, rfv_some, rfv_none, Ok_s, tl_some, tl_none, List.nil_append, b2i_n1, b2i_n0, ↓reduceIte, nI_add, pk_mul, pk_sub, n_leT, n_leF, n_ltT, n_ltF, n_eqT, n_eqF, n_shl1, n_shl, n_shr, nI_and, nI_or, nI_xor, b2i_z, b2i_o, m1_n, n_m1, m1_lt, m1_le, n_lm1, n_em1, nI_m1, and1, and3, and7, and15, and63, and255, Bool.true_eq_false, Bool.false_eq_true, reduceCtorEq, Nat.reduceAdd, Nat.reduceMul, Nat.reduceSub, Nat.reduceDiv, Nat.reduceMod, Nat.reducePow, Nat.zero_add, Nat.one_mul, nO_s, p1', r1, nI_m1z, em]
              exact new hn
            · have r1 := c8 t htl
              rw [k3] at r1
              have hFt : bF s t = some (Fi s k) := by rw [← k2]; exact (hIe.2.2.1 k k1).1
              have ek : nI (k + 1) - nI 1 = nI k := by rw [pk_sub (by omega), Nat.add_sub_cancel]
              by_cases hkl : k < l
              · have hFk : Fi s k ≤ lv := by
                  rw [(v2 k hkl).2]
                  by_cases hkf : k < f
                  · have := h1 k hkf; omega
                  · rw [h2 k (by omega) hkl]; omega
                simp (disch := first | omega | exact c1_int _ | exact c1_none | exact c1_ref _ | exact isRf_ref _ | assumption | exact okRb _ | exact okN1 | exact okN0 | exact rfl) only [N_X6_spread_0, N_X6_spread_1, N_X6_spread_3, N_X6_spread_4, N_X6_spread_7, N_X6_spread_8, N_X6_spread_12, N_X6_spread_14, N_X6_spread_17, N_X6_spread_19, N_X6_spread_20, N_X6_spread_23, N_X6_spread_26, N_X6_spread_27, N_X6_spread_30, N_X6_spread_31, N_X6_spread_34, N_X6_spread_35, N_X6_spread_38, N_X6_spread_39, N_X6_spread_42, N_X6_spread_43, N_X6_spread_44, N_X6_spread_46, N_X6_spread_49, N_X6_spread_51, N_X6_spread_53, N_X6_spread_54, N_X6_spread_57, N_X6_spread_59, N_X6_spread_60, N_X6_spread_63, N_X6_spread_64, N_X6_spread_67, N_X6_spread_68, N_X6_spread_71, N_X6_spread_73, N_X6_spread_74, N_X6_spread_75, N_X6_spread_76, N_X6_spread_79, N_X6_spread_80, N_X6_spread_82, N_X6_spread_84, N_X6_spread_85, N_X6_spread_89, N_X6_spread_91, N_X6_spread_92, N_X6_spread_94, N_X6_spread_95, N_X6_spread_97, N_X6_spread_98, N_X6_spread_99, N_X6_spread_102, N_X6_spread_103, N_X6_spread_104, N_X6_spread_107, N_X6_spread_110, N_X6_spread_112, N_X6_spread_113, N_X6_spread_116, N_X6_spread_117, N_X6_spread_120, N_X6_spread_122, N_X6_spread_124, N_X6_spread_125, N_X6_spread_128, N_X6_spread_130, N_X6_spread_131, N_X6_spread_132, N_X6_spread_135, N_X6_spread_136, N_X6_spread_137, N_X6_spread_138, N_X6_spread_141, N_X6_spread_142, N_X6_spread_145, N_X6_spread_148, N_X6_spread_151, N_X6_spread_154, if_true, if_false, ite_true, ite_false, not_false_eq_true, not_true_eq_false, isRf_ref, isRf_null, c1_int, c1_ref, c1_null, c1_none, rfv_some, rfv_none, Ok_s, tl_some, tl_none, List.nil_append, b2i_n1, b2i_n0, ↓reduceIte, nI_add, pk_mul, pk_sub, n_leT, n_leF, n_ltT, n_ltF, n_eqT, n_eqF, n_shl1, n_shl, n_shr, nI_and, nI_or, nI_xor, b2i_z, b2i_o, m1_n, n_m1, m1_lt, m1_le, n_lm1, n_em1, nI_m1, and1, and3, and7, and15, and63, and255, Bool.true_eq_false, Bool.false_eq_true, reduceCtorEq, Nat.reduceAdd, Nat.reduceMul, Nat.reduceSub, Nat.reduceDiv, Nat.reduceMod, Nat.reducePow, Nat.zero_add, Nat.one_mul, nO_s, p1', r1, ek]
                refine next (D1, I1, L1, ow1, ky1, ln1) _ _ ⟨x1, x2, x3, ?_, x5⟩
                rw [hstep']
                unfold bput
                rw [e8, hFt, if_neg (by simp), if_neg (by rw [hFi]; intro h; have := Option.some.inj h; omega)]
                exact x4'
              · have hFk : Fi s k = lv + 1 := v3 k (by omega) k1
                obtain ⟨-, -, g3k, -⟩ := c7 k k1
                rw [k2] at g3k
                have hmin := n_min (hMle t) (hMle (bQ s i))
                simp (disch := first | omega | exact c1_int _ | exact c1_none | exact c1_ref _ | exact isRf_ref _ | assumption | exact okRb _ | exact okN1 | exact okN0 | exact rfl) only [N_X6_spread_0, N_X6_spread_1, N_X6_spread_3, N_X6_spread_4, N_X6_spread_7, N_X6_spread_8, N_X6_spread_12, N_X6_spread_14, N_X6_spread_17, N_X6_spread_19, N_X6_spread_20, N_X6_spread_23, N_X6_spread_26, N_X6_spread_27, N_X6_spread_30, N_X6_spread_31, N_X6_spread_34, N_X6_spread_35, N_X6_spread_38, N_X6_spread_39, N_X6_spread_42, N_X6_spread_43, N_X6_spread_44, N_X6_spread_46, N_X6_spread_49, N_X6_spread_51, N_X6_spread_53, N_X6_spread_54, N_X6_spread_57, N_X6_spread_59, N_X6_spread_60, N_X6_spread_63, N_X6_spread_64, N_X6_spread_67, N_X6_spread_68, N_X6_spread_71, N_X6_spread_73, N_X6_spread_74, N_X6_spread_75, N_X6_spread_76, N_X6_spread_79, N_X6_spread_80, N_X6_spread_82, N_X6_spread_84, N_X6_spread_85, N_X6_spread_89, N_X6_spread_91, N_X6_spread_92, N_X6_spread_94, N_X6_spread_95, N_X6_spread_97, N_X6_spread_98, N_X6_spread_99, N_X6_spread_102, N_X6_spread_103, N_X6_spread_104, N_X6_spread_107, N_X6_spread_110, N_X6_spread_112, N_X6_spread_113, N_X6_spread_116, N_X6_spread_117, N_X6_spread_120, N_X6_spread_122, N_X6_spread_124, N_X6_spread_125, N_X6_spread_128, N_X6_spread_130, N_X6_spread_131, N_X6_spread_132, N_X6_spread_135, N_X6_spread_136, N_X6_spread_137, N_X6_spread_138, N_X6_spread_141, N_X6_spread_142, N_X6_spread_145, N_X6_spread_148, N_X6_spread_151, N_X6_spread_154, if_true, if_false, ite_true, ite_false, not_false_eq_true, not_true_eq_false, isRf_ref, isRf_null, c1_int, c1_ref, c1_null, c1_none, rfv_some, rfv_none, Ok_s, tl_some, tl_none, List.nil_append, b2i_n1, b2i_n0, ↓reduceIte, nI_add, pk_mul, pk_sub, n_leT, n_leF, n_ltT, n_ltF, n_eqT, n_eqF, n_shl1, n_shl, n_shr, nI_and, nI_or, nI_xor, b2i_z, b2i_o, m1_n, n_m1, m1_lt, m1_le, n_lm1, n_em1, nI_m1, and1, and3, and7, and15, and63, and255, Bool.true_eq_false, Bool.false_eq_true, reduceCtorEq, Nat.reduceAdd, Nat.reduceMul, Nat.reduceSub, Nat.reduceDiv, Nat.reduceMod, Nat.reducePow, Nat.zero_add, Nat.one_mul, nO_s, p1', p4', r1, ek, g3k, g3, hmin]
                have d4 := x1.st (i := 4) (by omega) (ndy_lo (show 29 < 30 by omega))
                have n14 : ky1 1 ≠ ky1 4 := x1.ne (by omega) (by omega) (by omega)
                have n24 : ky1 2 ≠ ky1 4 := x1.ne (by omega) (by omega) (by omega)
                have n34 : ky1 3 ≠ ky1 4 := x1.ne (by omega) (by omega) (by omega)
                refine next (D1, up2 I1 (ky1 4) k (nI (addS (bM s t) (bM s (bQ s i)))), L1, ow1, ky1, ln1) _ _ ⟨x1, x2, x3.u (Or.inr (by omega)), ?_, fun j hj => ?_⟩
                · rw [hstep']
                  have hbp : bput s (8 * i + wd) t = (bN s, bQ s, bF s, up1 (bM s) t (addS (bM s t) (bM s (bQ s i))), bP s) := by
                    unfold bput
                    rw [e8, hFt, if_neg (by simp), if_pos (by rw [hFi, hFk])]
                  rw [hbp]
                  dsimp only
                  refine ⟨?_, c2, c3, c4, c5, c6, fun j hj => ?_, fun u hu => ?_⟩
                  · rw [up2_k _ _ _ _ d4]; exact c1'
                  · obtain ⟨w1, w2, w3, w4⟩ := c7 j hj
                    show up2 I1 (ky1 4) k _ (ky1 2) j = nI (bQ s j) ∧ bQ s j < ln1 1 ∧ up2 I1 (ky1 4) k _ (ky1 4) j = nI (up1 (bM s) t _ (bQ s j)) ∧ (0 < j → up2 I1 (ky1 4) k _ (ky1 3) j = nI (bP s j))
                    rw [up2_k _ _ _ _ n24, up2_k _ _ _ _ n34]
                    refine ⟨w1, w2, ?_, w4⟩
                    by_cases ej : j = k
                    · subst ej
                      rw [up2_s, k2, up1_s]
                    · rw [up2_j _ _ _ ej, up1_n _ _ (fun h => ej (hdist j k hj k1 (by rw [h, k2])))]
                      exact w3
                  · rw [up2_k _ _ _ _ n14]
                    exact c8 u hu
                · show up2 I1 (ky1 4) k _ 29 j = _
                  rw [up2_k _ _ _ _ d4]
                  exact x5 j hj
          · have hn : ∀ j, j < bN s → bQ s j ≠ t := fun j hj h => by have := (c7 j hj).2.1; omega
            have em : (m1 = m1) = True := eq_true rfl
            simp (disch := first | omega | exact c1_int _ | exact c1_none | exact c1_ref _ | exact isRf_ref _ | assumption | exact okRb _ | exact okN1 | exact okN0 | exact rfl) only [N_X6_spread_0, N_X6_spread_1, N_X6_spread_3, N_X6_spread_4, N_X6_spread_7, N_X6_spread_8, N_X6_spread_12, N_X6_spread_14, N_X6_spread_17, N_X6_spread_19, N_X6_spread_20, N_X6_spread_23, N_X6_spread_26, N_X6_spread_27, N_X6_spread_30, N_X6_spread_31, N_X6_spread_34, N_X6_spread_35, N_X6_spread_38, N_X6_spread_39, N_X6_spread_42, N_X6_spread_43, N_X6_spread_44, N_X6_spread_46, N_X6_spread_49, N_X6_spread_51, N_X6_spread_53, N_X6_spread_54, N_X6_spread_57, N_X6_spread_59, N_X6_spread_60, N_X6_spread_63, N_X6_spread_64, N_X6_spread_67, N_X6_spread_68, N_X6_spread_71, N_X6_spread_73, N_X6_spread_74, N_X6_spread_75, N_X6_spread_76, N_X6_spread_79, N_X6_spread_80, N_X6_spread_82, N_X6_spread_84, N_X6_spread_85, N_X6_spread_89, N_X6_spread_91, N_X6_spread_92, N_X6_spread_94, N_X6_spread_95, N_X6_spread_97, N_X6_spread_98, N_X6_spread_99, N_X6_spread_102, N_X6_spread_103, N_X6_spread_104, N_X6_spread_107, N_X6_spread_110, N_X6_spread_112, N_X6_spread_113, N_X6_spread_116, N_X6_spread_117, N_X6_spread_120, N_X6_spread_122, N_X6_spread_124, N_X6_spread_125, N_X6_spread_128, N_X6_spread_130, N_X6_spread_131, N_X6_spread_132, N_X6_spread_135, N_X6_spread_136, N_X6_spread_137, N_X6_spread_138, N_X6_spread_141, N_X6_spread_142, N_X6_spread_145, N_X6_spread_148, N_X6_spread_151, N_X6_spread_154, if_true, if_false, ite_true, ite_false, not_false_eq_true, not_true_eq_false, isRf_ref, isRf_null, c1_int, c1_ref, c1_null, c1_none, rfv_some, rfv_none, Ok_s, tl_some, tl_none, List.nil_append, b2i_n1, b2i_n0, ↓reduceIte, nI_add, pk_mul, pk_sub, n_leT, n_leF, n_ltT, n_ltF, n_eqT, n_eqF, n_shl1, n_shl, n_shr, nI_and, nI_or, nI_xor, b2i_z, b2i_o, m1_n, n_m1, m1_lt, m1_le, n_lm1, n_em1, nI_m1, and1, and3, and7, and15, and63, and255, Bool.true_eq_false, Bool.false_eq_true, reduceCtorEq, Nat.reduceAdd, Nat.reduceMul, Nat.reduceSub, Nat.reduceDiv, Nat.reduceMod, Nat.reducePow, Nat.zero_add, Nat.one_mul, nO_s, p1', em]
            exact new hn
end Pb4
