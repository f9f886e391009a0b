section Pg1
variable {xs : Nat → Int32} {Ln d : Nat} {D D' D'' : Dyn} {I I' I'' J : Nat → Nat → Int32} {L : Nat → Nat → Int64} {w : Om} {Q : Res → Prop} {ow ow' ow'' ky ky' ky'' ln ln' ln'' a a' : Nat → Nat} {o be sr : Nat} {A A' : As} {nn : Nat}
/-! feed, row -/
def q4 (b : Nat → Nat) (n : Nat) (x : Int32) : Nat → Nat := itr (fun k b => up1 b (n + k) (byV x k)) 4 b
theorem fdA20 (b : Nat → Nat) (n : Nat) (x1 x2 x3 x4 x5 : Int32) : fdA b n x1 x2 x3 x4 x5 20 = q4 (q4 (q4 (q4 (q4 b n x1) (n + 4) x2) (n + 8) x3) (n + 12) x4) (n + 16) x5 := id rfl
theorem a4_b {b : Nat → Nat} {n : Nat} {x : Int32} (h : ∀ j, j < 400 → J 15 j = nI (b j) ∧ b j < 256) : ∀ j, j < 400 → a4C J n x 15 j = nI (q4 b n x j) ∧ q4 b n x j < 256 := by
  have hh : ∀ k, ∀ j, j < 400 → itr (fun k J => up2 J 15 (n + k) (nI (byV x k))) k J 15 j = nI (itr (fun k b => up1 b (n + k) (byV x k)) k b j) ∧ itr (fun k b => up1 b (n + k) (byV x k)) k b j < 256 := by
    intro k
    induction k with
    | zero => exact h
    | succ k ih =>
      intro j hj
      rw [itr_s, itr_s]
      by_cases e : j = n + k
      · rw [e, up2_s, up1_s]
        exact ⟨rfl, byV_lt _ _⟩
      · rw [up2_j _ _ _ e, up1_n _ _ e]
        exact ih j hj
  intro j hj
  unfold a4C q4
  rw [up2_k _ _ _ _ (by decide)]
  exact hh 4 j hj
theorem a4_o {n k : Nat} {x : Int32} (h1 : k ≠ 14) (h2 : k ≠ 15) : a4C J n x k = J k := by
  unfold a4C
  rw [up2_ro _ _ _ h1, itr_ro (fun i J _ => up2_ro _ _ _ h2)]
theorem CIx.tp {b : Nat → Nat} {m : Nat} (h : CIx ow ky ln D I A nn) (hm : m ≤ 400) (hk : ∀ k, k ≠ 14 → k ≠ 15 → I' k = I k) (h14 : I' 14 0 = nI m) (h15 : ∀ j, j < 400 → I' 15 j = nI (b j) ∧ b j < 256) : CIx ow ky ln D I' (aFd A b m) nn ∧ CFr I I' := by
  have hM := h.2.2.2.1
  have hi := h.2.2.2.2.2.1.img (b := sa A) (I' := I') (fun k h1 h2 => hk k (by omega) (by omega))
  obtain ⟨s1, s2, s3, s4, s5, s6, s7⟩ := h.2.2.2.2.2.1
  have hcs : CS ow D I' (aFd A b m) := by
    refine ⟨hi, by rw [hk 0 (by decide) (by decide)]; exact s2, by rw [hk 80 (by decide) (by decide)]; exact s3, by rw [hk 0 (by decide) (by decide)]; exact s4, by rw [hk 0 (by decide) (by decide)]; exact s5, ⟨h14, hm, h15⟩, ?_⟩
    show HnC _ (shn A)
    unfold HnC
    rw [hk 50 (by decide) (by decide), hk 51 (by decide) (by decide)]
    exact s7
  exact h.gen (A' := aFd A b m) (I' := I') (fun k h1 _ _ _ _ => hk k (by omega) (by omega)) (SMv.rf _) (hM.1.k (fun k k1 k2 => hk k (by omega) (by omega))) hM.2.1 (hM.2.2.1.i2 (fun k hk' => hk k (by omega) (by omega))) (h.2.2.2.2.1.fr (hk _ (by decide) (by decide)) (hk _ (by decide) (by decide)) (hk _ (by decide) (by decide))) hcs
theorem C_feed {x1 x2 x3 x4 x5 : Int32} (h : CI D I A nn) : CCall xs Ln (d + 8) 92 [.ref 0, .int x1, .int x2, .int x3, .int x4, .int x5] D I L (nFeed A x1 x2 x3 x4 x5).1 nn (nFeed A x1 x2 x3 x4 x5).2 := by
  obtain ⟨ow0, hs0⟩ := h.cs
  obtain ⟨g14, hst, g15⟩ := hs0.2.2.2.2.2.1
  unfold nFeed
  by_cases h0 : stn A ≤ 380
  · rw [if_pos h0]
    have hc := c_feed (xs := xs) (Ln := Ln) (d := d + 5) (D := D) (I := I) (L := L) (a := x1) (b := x2) (c := x3) (e := x4) (g := x5) g14 h0
    obtain ⟨ow, ky, ln, h⟩ := h
    have hg := h.tp (I' := a4C (a4C (a4C (a4C (a4C I (stn A) x1) (stn A + 4) x2) (stn A + 8) x3) (stn A + 12) x4) (stn A + 16) x5) (b := fdA (stB A) (stn A) x1 x2 x3 x4 x5 20) (m := stn A + 20) (by omega) (fun k k1 k2 => by rw [a4_o k1 k2, a4_o k1 k2, a4_o k1 k2, a4_o k1 k2, a4_o k1 k2]) (by unfold a4C; rw [up2_s]) (by rw [fdA20]; exact a4_b (a4_b (a4_b (a4_b (a4_b g15)))))
    exact Ok.of hc ⟨_, _, _, rfl, ⟨ow, ky, ln, hg.1.up⟩, hg.2⟩
  · rw [if_neg h0]
    exact CC_id h (c_feedN (d := d + 5) g14 (by omega) hst)
theorem rwA_cut {b : Nat → Nat} {v : Nat} : ∀ n, a 4320 ≤ n → rwA a b v n = rwA a b v (a 4320)
  | 0, h => by rw [show a 4320 = 0 by omega]
  | n + 1, h => by
    by_cases e : a 4320 = n + 1
    · rw [← e]
    · rw [rwA_s, if_neg (fun hr => by have := (rc_i hr).1; omega)]
      exact rwA_cut n (by omega)
theorem rc_cut {b : Nat → Nat} {P : Nat} : ∀ n, P ≤ n → cntB (rc P b) n = cntB (rc P b) P
  | 0, h => by rw [show P = 0 by omega]
  | n + 1, h => by
    by_cases e : P = n + 1
    · rw [← e]
    · rw [cntB_s, if_neg (fun hr => by have := (rc_i hr).1; omega)]
      exact rc_cut n (by omega)
theorem CIx.sy {s : Nat} (h : CIx ow ky ln D I A nn) : CIx ow ky ln D (up2 I 0 14 (nI s)) (aSy A s) nn ∧ CFr I (up2 I 0 14 (nI s)) := by
  have hM := h.2.2.2.1
  have hk : ∀ k, k ≠ 0 → up2 I 0 14 (nI s) k = I k := fun k h1 => up2_ro _ _ _ h1
  have hj : ∀ j, j ≠ 14 → up2 I 0 14 (nI s) 0 j = I 0 j := fun j h1 => up2_j _ _ _ h1
  have hi := h.2.2.2.2.2.1.img (b := sa A) (I' := up2 I 0 14 (nI s)) (fun k h1 h2 => hk k (by omega))
  obtain ⟨s1, s2, s3, s4, s5, s6, s7⟩ := h.2.2.2.2.2.1
  have hcs : CS ow D (up2 I 0 14 (nI s)) (aSy A s) := by
    refine ⟨hi, by rw [hj 12 (by decide)]; exact s2, by rw [hk 80 (by decide)]; exact s3, up2_s _ _ _ _, by rw [hj 13 (by decide)]; exact s5, by rw [hk 14 (by decide), hk 15 (by decide)]; exact s6, ?_⟩
    show HnC _ (shn A)
    unfold HnC
    rw [hk 50 (by decide), hk 51 (by decide)]
    exact s7
  exact h.gen (A' := aSy A s) (I' := up2 I 0 14 (nI s)) (fun k h1 _ _ _ _ => hk k (by omega)) (SMv.rf _) (hM.1.k (fun k k1 k2 => hk k (by omega))) hM.2.1 (hM.2.2.1.i2 (fun k hk' => hk k (by omega))) (h.2.2.2.2.1.fr (hk _ (by decide)) (hk _ (by decide)) (hk _ (by decide))) hcs
theorem C_row {v : Int32} (h : CI D I A nn) (hn : nn < 99999) : CCall xs Ln (d + 8) 94 [.ref 0, .int v] D I L (nRow A v).1 nn (nRow A v).2 := by
  obtain ⟨hMz, hA, _⟩ := h.mz
  have g0 : I 1 0 = nI (sa A 4320) := hMz.m.1
  have g1 : I 1 1 = nI (sa A 4321) := hMz.m.2.1
  have hP := hA.1
  have hW := hA.2.1
  obtain ⟨ow0, hs0⟩ := h.cs
  obtain ⟨g14, hst, g15⟩ := hs0.2.2.2.2.2.1
  unfold nRow
  cases h0 : inN v (nI (sa A 4321))
  · rw [if_pos rfl]
    refine CC_rf rc2 h (Ok.eq ?_)
    refine semG (lo := [some (.ref 0), some (.int v), none, none]) rfl rfl (Nat.le_of_ble_eq_true rfl) rfl (show G_X10_row xs Ln _ 0 [some (.ref 0), some (.int v), none, none] [] _ _ from ?_)
    simp (disch := first | omega | exact c1_int _ | exact c1_none | exact c1_ref _ | exact isRf_ref _ | assumption | exact okRb _ | exact okN1 | exact okN0 | exact rfl) only [N_X10_row_0, N_X10_row_1, N_X10_row_4, N_X10_row_5, N_X10_row_8, N_X10_row_11, N_X10_row_12, N_X10_row_14, N_X10_row_17, N_X10_row_18, N_X10_row_19, N_X10_row_22, N_X10_row_25, N_X10_row_28, N_X10_row_29, N_X10_row_31, N_X10_row_34, N_X10_row_35, N_X10_row_36, N_X10_row_39, N_X10_row_42, N_X10_row_43, N_X10_row_44, N_X10_row_45, N_X10_row_47, N_X10_row_48, N_X10_row_51, N_X10_row_54, N_X10_row_57, N_X10_row_58, N_X10_row_59, N_X10_row_62, N_X10_row_65, N_X10_row_68, N_X10_row_69, N_X10_row_72, N_X10_row_73, N_X10_row_76, N_X10_row_79, N_X10_row_80, N_X10_row_81, N_X10_row_84, N_X10_row_87, N_X10_row_88, N_X10_row_91, N_X10_row_94, N_X10_row_95, N_X10_row_97, N_X10_row_98, N_X10_row_99, N_X10_row_100, N_X10_row_101, N_X10_row_104, N_X10_row_107, N_X10_row_108, N_X10_row_109, N_X10_row_110, N_X10_row_113, N_X10_row_116, N_X10_row_119, N_X10_row_120, N_X10_row_121, N_X10_row_124, N_X10_row_127, N_X10_row_128, N_X10_row_129, N_X10_row_132, N_X10_row_133, N_X10_row_136, N_X10_row_137, N_X10_row_140, N_X10_row_141, N_X10_row_142, N_X10_row_145, if_true, if_false, ite_true, ite_false, not_false_eq_true, not_true_eq_false, isRf_ref, isRf_null, c1_int, c1_ref, c1_null, c1_none, rfv_some, rfv_none, Ok_s, tl_some, tl_none, List.nil_append, b2i_n1, b2i_n0, ↓reduceIte, nI_add, pk_mul, pk_sub, n_leT, n_leF, n_ltT, n_ltF, n_eqT, n_eqF, n_shl1, n_shl, n_shr, nI_and, nI_or, nI_xor, b2i_z, b2i_o, m1_n, n_m1, m1_lt, m1_le, n_lm1, n_em1, nI_m1, and1, and3, and7, and15, and63, and255, Bool.true_eq_false, Bool.false_eq_true, reduceCtorEq, Nat.reduceAdd, Nat.reduceMul, Nat.reduceSub, Nat.reduceDiv, Nat.reduceMod, Nat.reducePow, Nat.zero_add, Nat.one_mul, c_hasWord, g1, h0]
    rw [c_refuse (y := m2) rc2]
    simp (disch := first | omega | exact c1_int _ | exact c1_none | exact c1_ref _ | exact isRf_ref _ | assumption | exact okRb _ | exact okN1 | exact okN0 | exact rfl) only [N_X10_row_0, N_X10_row_1, N_X10_row_4, N_X10_row_5, N_X10_row_8, N_X10_row_11, N_X10_row_12, N_X10_row_14, N_X10_row_17, N_X10_row_18, N_X10_row_19, N_X10_row_22, N_X10_row_25, N_X10_row_28, N_X10_row_29, N_X10_row_31, N_X10_row_34, N_X10_row_35, N_X10_row_36, N_X10_row_39, N_X10_row_42, N_X10_row_43, N_X10_row_44, N_X10_row_45, N_X10_row_47, N_X10_row_48, N_X10_row_51, N_X10_row_54, N_X10_row_57, N_X10_row_58, N_X10_row_59, N_X10_row_62, N_X10_row_65, N_X10_row_68, N_X10_row_69, N_X10_row_72, N_X10_row_73, N_X10_row_76, N_X10_row_79, N_X10_row_80, N_X10_row_81, N_X10_row_84, N_X10_row_87, N_X10_row_88, N_X10_row_91, N_X10_row_94, N_X10_row_95, N_X10_row_97, N_X10_row_98, N_X10_row_99, N_X10_row_100, N_X10_row_101, N_X10_row_104, N_X10_row_107, N_X10_row_108, N_X10_row_109, N_X10_row_110, N_X10_row_113, N_X10_row_116, N_X10_row_119, N_X10_row_120, N_X10_row_121, N_X10_row_124, N_X10_row_127, N_X10_row_128, N_X10_row_129, N_X10_row_132, N_X10_row_133, N_X10_row_136, N_X10_row_137, N_X10_row_140, N_X10_row_141, N_X10_row_142, N_X10_row_145, if_true, if_false, ite_true, ite_false, not_false_eq_true, not_true_eq_false, isRf_ref, isRf_null, c1_int, c1_ref, c1_null, c1_none, rfv_some, rfv_none, Ok_s, tl_some, tl_none, List.nil_append, b2i_n1, b2i_n0, ↓reduceIte, nI_add, pk_mul, pk_sub, n_leT, n_leF, n_ltT, n_ltF, n_eqT, n_eqF, n_shl1, n_shl, n_shr, nI_and, nI_or, nI_xor, b2i_z, b2i_o, m1_n, n_m1, m1_lt, m1_le, n_lm1, n_em1, nI_m1, and1, and3, and7, and15, and63, and255, Bool.true_eq_false, Bool.false_eq_true, reduceCtorEq, Nat.reduceAdd, Nat.reduceMul, Nat.reduceSub, Nat.reduceDiv, Nat.reduceMod, Nat.reducePow, Nat.zero_add, Nat.one_mul]
    rfl
  · rw [if_neg (by decide)]
    by_cases h5 : stn A = 0
    · rw [if_pos h5]
      have e0 : aTp A (stn A) = A := rfl
      rw [h5] at e0 g14
      rw [e0]
      refine CC_rf rc6 h (Ok.eq ?_)
      refine semG (lo := [some (.ref 0), some (.int v), none, none]) rfl rfl (Nat.le_of_ble_eq_true rfl) rfl (show G_X10_row xs Ln _ 0 [some (.ref 0), some (.int v), none, none] [] _ _ from ?_)
      simp (disch := first | omega | exact c1_int _ | exact c1_none | exact c1_ref _ | exact isRf_ref _ | assumption | exact okRb _ | exact okN1 | exact okN0 | exact rfl) only [N_X10_row_0, N_X10_row_1, N_X10_row_4, N_X10_row_5, N_X10_row_8, N_X10_row_11, N_X10_row_12, N_X10_row_14, N_X10_row_17, N_X10_row_18, N_X10_row_19, N_X10_row_22, N_X10_row_25, N_X10_row_28, N_X10_row_29, N_X10_row_31, N_X10_row_34, N_X10_row_35, N_X10_row_36, N_X10_row_39, N_X10_row_42, N_X10_row_43, N_X10_row_44, N_X10_row_45, N_X10_row_47, N_X10_row_48, N_X10_row_51, N_X10_row_54, N_X10_row_57, N_X10_row_58, N_X10_row_59, N_X10_row_62, N_X10_row_65, N_X10_row_68, N_X10_row_69, N_X10_row_72, N_X10_row_73, N_X10_row_76, N_X10_row_79, N_X10_row_80, N_X10_row_81, N_X10_row_84, N_X10_row_87, N_X10_row_88, N_X10_row_91, N_X10_row_94, N_X10_row_95, N_X10_row_97, N_X10_row_98, N_X10_row_99, N_X10_row_100, N_X10_row_101, N_X10_row_104, N_X10_row_107, N_X10_row_108, N_X10_row_109, N_X10_row_110, N_X10_row_113, N_X10_row_116, N_X10_row_119, N_X10_row_120, N_X10_row_121, N_X10_row_124, N_X10_row_127, N_X10_row_128, N_X10_row_129, N_X10_row_132, N_X10_row_133, N_X10_row_136, N_X10_row_137, N_X10_row_140, N_X10_row_141, N_X10_row_142, N_X10_row_145, if_true, if_false, ite_true, ite_false, not_false_eq_true, not_true_eq_false, isRf_ref, isRf_null, c1_int, c1_ref, c1_null, c1_none, rfv_some, rfv_none, Ok_s, tl_some, tl_none, List.nil_append, b2i_n1, b2i_n0, ↓reduceIte, nI_add, pk_mul, pk_sub, n_leT, n_leF, n_ltT, n_ltF, n_eqT, n_eqF, n_shl1, n_shl, n_shr, nI_and, nI_or, nI_xor, b2i_z, b2i_o, m1_n, n_m1, m1_lt, m1_le, n_lm1, n_em1, nI_m1, and1, and3, and7, and15, and63, and255, Bool.true_eq_false, Bool.false_eq_true, reduceCtorEq, Nat.reduceAdd, Nat.reduceMul, Nat.reduceSub, Nat.reduceDiv, Nat.reduceMod, Nat.reducePow, Nat.zero_add, Nat.one_mul, c_hasWord, g1, h0, g14]
      rw [c_refuse (y := m6) rc6]
      simp (disch := first | omega | exact c1_int _ | exact c1_none | exact c1_ref _ | exact isRf_ref _ | assumption | exact okRb _ | exact okN1 | exact okN0 | exact rfl) only [N_X10_row_0, N_X10_row_1, N_X10_row_4, N_X10_row_5, N_X10_row_8, N_X10_row_11, N_X10_row_12, N_X10_row_14, N_X10_row_17, N_X10_row_18, N_X10_row_19, N_X10_row_22, N_X10_row_25, N_X10_row_28, N_X10_row_29, N_X10_row_31, N_X10_row_34, N_X10_row_35, N_X10_row_36, N_X10_row_39, N_X10_row_42, N_X10_row_43, N_X10_row_44, N_X10_row_45, N_X10_row_47, N_X10_row_48, N_X10_row_51, N_X10_row_54, N_X10_row_57, N_X10_row_58, N_X10_row_59, N_X10_row_62, N_X10_row_65, N_X10_row_68, N_X10_row_69, N_X10_row_72, N_X10_row_73, N_X10_row_76, N_X10_row_79, N_X10_row_80, N_X10_row_81, N_X10_row_84, N_X10_row_87, N_X10_row_88, N_X10_row_91, N_X10_row_94, N_X10_row_95, N_X10_row_97, N_X10_row_98, N_X10_row_99, N_X10_row_100, N_X10_row_101, N_X10_row_104, N_X10_row_107, N_X10_row_108, N_X10_row_109, N_X10_row_110, N_X10_row_113, N_X10_row_116, N_X10_row_119, N_X10_row_120, N_X10_row_121, N_X10_row_124, N_X10_row_127, N_X10_row_128, N_X10_row_129, N_X10_row_132, N_X10_row_133, N_X10_row_136, N_X10_row_137, N_X10_row_140, N_X10_row_141, N_X10_row_142, N_X10_row_145, if_true, if_false, ite_true, ite_false, not_false_eq_true, not_true_eq_false, isRf_ref, isRf_null, c1_int, c1_ref, c1_null, c1_none, rfv_some, rfv_none, Ok_s, tl_some, tl_none, List.nil_append, b2i_n1, b2i_n0, ↓reduceIte, nI_add, pk_mul, pk_sub, n_leT, n_leF, n_ltT, n_ltF, n_eqT, n_eqF, n_shl1, n_shl, n_shr, nI_and, nI_or, nI_xor, b2i_z, b2i_o, m1_n, n_m1, m1_lt, m1_le, n_lm1, n_em1, nI_m1, and1, and3, and7, and15, and63, and255, Bool.true_eq_false, Bool.false_eq_true, reduceCtorEq, Nat.reduceAdd, Nat.reduceMul, Nat.reduceSub, Nat.reduceDiv, Nat.reduceMod, Nat.reducePow, Nat.zero_add, Nat.one_mul]
      rfl
    · rw [if_neg h5]
      obtain ⟨wd, hw2, rfl⟩ := inN_t (by omega) h0
      rw [n_cl (by omega)]
      obtain ⟨ow, ky, ln, h⟩ := h
      have hM := h.2.2.2.1
      obtain ⟨f1, f2, f3, f4, f5⟩ := fg_f I
      have hMf : MzI (fgC I) 1 (sa A) := hM.1.k (fun k k1 k2 => f1 k (by omega) (by omega))
      have hcl := cntB_le (rc (sa A 4320) (stB A)) (stn A)
      refine semG (lo := [some (.ref 0), some (.int (nI wd)), none, none]) rfl rfl (Nat.le_of_ble_eq_true rfl) rfl (show G_X10_row xs Ln _ 0 [some (.ref 0), some (.int (nI wd)), none, none] [] _ _ from ?_)
      simp (disch := first | omega | exact c1_int _ | exact c1_none | exact c1_ref _ | exact isRf_ref _ | assumption | exact okRb _ | exact okN1 | exact okN0 | exact rfl) only [N_X10_row_0, N_X10_row_1, N_X10_row_4, N_X10_row_5, N_X10_row_8, N_X10_row_11, N_X10_row_12, N_X10_row_14, N_X10_row_17, N_X10_row_18, N_X10_row_19, N_X10_row_22, N_X10_row_25, N_X10_row_28, N_X10_row_29, N_X10_row_31, N_X10_row_34, N_X10_row_35, N_X10_row_36, N_X10_row_39, N_X10_row_42, N_X10_row_43, N_X10_row_44, N_X10_row_45, N_X10_row_47, N_X10_row_48, N_X10_row_51, N_X10_row_54, N_X10_row_57, N_X10_row_58, N_X10_row_59, N_X10_row_62, N_X10_row_65, N_X10_row_68, N_X10_row_69, N_X10_row_72, N_X10_row_73, N_X10_row_76, N_X10_row_79, N_X10_row_80, N_X10_row_81, N_X10_row_84, N_X10_row_87, N_X10_row_88, N_X10_row_91, N_X10_row_94, N_X10_row_95, N_X10_row_97, N_X10_row_98, N_X10_row_99, N_X10_row_100, N_X10_row_101, N_X10_row_104, N_X10_row_107, N_X10_row_108, N_X10_row_109, N_X10_row_110, N_X10_row_113, N_X10_row_116, N_X10_row_119, N_X10_row_120, N_X10_row_121, N_X10_row_124, N_X10_row_127, N_X10_row_128, N_X10_row_129, N_X10_row_132, N_X10_row_133, N_X10_row_136, N_X10_row_137, N_X10_row_140, N_X10_row_141, N_X10_row_142, N_X10_row_145, if_true, if_false, ite_true, ite_false, not_false_eq_true, not_true_eq_false, isRf_ref, isRf_null, c1_int, c1_ref, c1_null, c1_none, rfv_some, rfv_none, Ok_s, tl_some, tl_none, List.nil_append, b2i_n1, b2i_n0, ↓reduceIte, nI_add, pk_mul, pk_sub, n_leT, n_leF, n_ltT, n_ltF, n_eqT, n_eqF, n_shl1, n_shl, n_shr, nI_and, nI_or, nI_xor, b2i_z, b2i_o, m1_n, n_m1, m1_lt, m1_le, n_lm1, n_em1, nI_m1, and1, and3, and7, and15, and63, and255, Bool.true_eq_false, Bool.false_eq_true, reduceCtorEq, Nat.reduceAdd, Nat.reduceMul, Nat.reduceSub, Nat.reduceDiv, Nat.reduceMod, Nat.reducePow, Nat.zero_add, Nat.one_mul, c_hasWord, g1, h0, g14, c_forget]
      have hN : cntB (rc (sa A 4320) (stB A)) (min (stn A) (sa A 4320)) = cntB (rc (sa A 4320) (stB A)) (stn A) ∧ rwA (sa A) (stB A) wd (min (stn A) (sa A 4320)) = rwA (sa A) (stB A) wd (stn A) := by
        by_cases hl : stn A ≤ sa A 4320
        · rw [Nat.min_eq_left hl]; exact ⟨rfl, rfl⟩
        · rw [Nat.min_eq_right (by omega), rwA_cut (stn A) (by omega), rc_cut (stn A) (by omega)]; exact ⟨rfl, rfl⟩
      refine Lp (n := min (stn A) (sa A 4320)) (σ := Nat → Nat → Int32) (E := fun i J => G_X10_row xs Ln (d + 7) 46 [some (.ref 0), some (.int (nI wd)), some (.int (nI (cntB (rc (sa A 4320) (stB A)) i))), some (.int (nI i))] [] (mkW D J L) _) (Inv := fun i J => (∀ k, k ≠ 5 → J k = fgC I k) ∧ MzI J 1 (rwA (sa A) (stB A) wd i)) ?_ ?_ 0 (fgC I) (by omega) ⟨fun _ _ => rfl, hMf⟩
      · rintro J ⟨j1, j2⟩
        rw [hN.2] at j2
        rw [hN.1, N_X10_row_46]
        have e14 : J 14 0 = nI (stn A) := by rw [j1 14 (by decide), f1 14 (by decide) (by decide)]; exact g14
        have e0 : J 1 0 = nI (sa A 4320) := by rw [j1 1 (by decide), f1 1 (by decide) (by decide)]; exact g0
        have ha := (h.tp (I' := up2 I 14 0 (nI 0)) (b := stB A) (m := 0) (by omega) (fun k k1 k2 => up2_ro _ _ _ k1) (up2_s _ _ _ _) (by rw [up2_ro _ _ _ (by decide)]; exact g15))
        have hb := (CIx.sy (s := stn A - cntB (rc (sa A 4320) (stB A)) (stn A)) ha.1)
        have hz : ∀ k, k ≠ 0 → k ≠ 14 → up2 (up2 J 0 14 (nI (stn A - cntB (rc (sa A 4320) (stB A)) (stn A)))) 14 0 (nI 0) k = J k := fun k k1 k2 => by rw [up2_ro _ _ _ k2, up2_ro _ _ _ k1]
        have hy : ∀ k, k ≠ 0 → k ≠ 14 → up2 (up2 I 14 0 (nI 0)) 0 14 (nI (stn A - cntB (rc (sa A 4320) (stB A)) (stn A))) k = I k := fun k k1 k2 => by rw [up2_ro _ _ _ k1, up2_ro _ _ _ k2]
        have e1 : ∀ {j : Nat}, (∀ i, i < sa A 4320 → j ≠ 28 + 12 * wd + i) → rwA (sa A) (stB A) wd (stn A) j = sa A j := fun hh => rwA_o hh (stn A)
        have hg := hb.1.fg (I' := up2 (up2 J 0 14 (nI (stn A - cntB (rc (sa A 4320) (stB A)) (stn A)))) 14 0 (nI 0)) (a' := rwA (sa A) (stB A) wd (stn A)) hn (fun k k1 k2 k3 => by
          by_cases e : k = 14
          · rw [e, up2_rs, up2_ro _ _ _ (show (14 : Nat) ≠ 0 by decide), up2_ro _ _ _ (show (14 : Nat) ≠ 0 by decide), up2_rs, j1 14 (by decide), f1 14 (by decide) (by decide)]
          · rw [hz k (by omega) e, hy k (by omega) e, j1 k (by omega), f1 k k2 k3]) (by rw [hz 23 (by decide) (by decide), hy 23 (by decide) (by decide), j1 23 (by decide)]; exact f2) (fun j hj => by rw [hz 26 (by decide) (by decide), j1 26 (by decide)]; exact f3 j hj) (fun j hj => by rw [hz 27 (by decide) (by decide), j1 27 (by decide)]; exact f4 j hj) (fun j hj => by rw [hz 28 (by decide) (by decide), j1 28 (by decide)]; exact f5 j hj) (fun j => by rw [up2_ro _ _ _ (show (0 : Nat) ≠ 14 by decide), up2_rs, up2_rs, up2_ro _ _ _ (show (0 : Nat) ≠ 14 by decide), j1 0 (by decide), f1 0 (by decide) (by omega)]) ((hM.2.2.1.e2 (fun j hj => e1 (fun i hi => by omega)) (e1 (fun i hi => by omega))).i2 (fun k hk' => by rw [hz k (by omega) (by omega), j1 k (by omega)]; exact f1 k (by omega) (by omega))) (AW_row hA hw2 _) (j2.k (fun k k1 k2 => hz k (by omega) (by omega))) ((h.2.2.2.2.1.fr (by rw [hz _ (by decide) (by decide), j1 _ (by decide)]; exact f1 _ (by decide) (by decide)) (by rw [hz _ (by decide) (by decide), j1 _ (by decide)]; exact f1 _ (by decide) (by decide)) (by rw [hz _ (by decide) (by decide), j1 _ (by decide)]; exact f1 _ (by decide) (by decide))).e (e1 (fun i hi => by omega)) (fun x hx => e1 (fun i hi => by omega)))
        have hfin : ∃ D' I' L', ((mkW D (up2 (up2 (up2 J 0 14 (nI (stn A - cntB (rc (sa A 4320) (stB A)) (stn A)))) 14 0 (nI 0)) 0 12 0) L, some (.int (nI (cntB (rc (sa A 4320) (stB A)) (stn A))))) : Res) = (mkW D' I' L', some (.int (nI (cntB (rc (sa A 4320) (stB A)) (stn A))))) ∧ CI D' I' (aGr (aSy (aTp A 0) (stn A - cntB (rc (sa A 4320) (stB A)) (stn A))) (rwA (sa A) (stB A) wd (stn A))) (nn + 1) ∧ CFr I I' := ⟨_, _, _, rfl, ⟨ow, ky, ln, hg.1⟩, ha.2.tr (hb.2.tr hg.2)⟩
        by_cases hl : stn A ≤ sa A 4320
        · rw [Nat.min_eq_left hl]
          simp (disch := first | omega | exact c1_int _ | exact c1_none | exact c1_ref _ | exact isRf_ref _ | assumption | exact okRb _ | exact okN1 | exact okN0 | exact rfl) only [N_X10_row_0, N_X10_row_1, N_X10_row_4, N_X10_row_5, N_X10_row_8, N_X10_row_11, N_X10_row_12, N_X10_row_14, N_X10_row_17, N_X10_row_18, N_X10_row_19, N_X10_row_22, N_X10_row_25, N_X10_row_28, N_X10_row_29, N_X10_row_31, N_X10_row_34, N_X10_row_35, N_X10_row_36, N_X10_row_39, N_X10_row_42, N_X10_row_43, N_X10_row_44, N_X10_row_45, N_X10_row_47, N_X10_row_48, N_X10_row_51, N_X10_row_54, N_X10_row_57, N_X10_row_58, N_X10_row_59, N_X10_row_62, N_X10_row_65, N_X10_row_68, N_X10_row_69, N_X10_row_72, N_X10_row_73, N_X10_row_76, N_X10_row_79, N_X10_row_80, N_X10_row_81, N_X10_row_84, N_X10_row_87, N_X10_row_88, N_X10_row_91, N_X10_row_94, N_X10_row_95, N_X10_row_97, N_X10_row_98, N_X10_row_99, N_X10_row_100, N_X10_row_101, N_X10_row_104, N_X10_row_107, N_X10_row_108, N_X10_row_109, N_X10_row_110, N_X10_row_113, N_X10_row_116, N_X10_row_119, N_X10_row_120, N_X10_row_121, N_X10_row_124, N_X10_row_127, N_X10_row_128, N_X10_row_129, N_X10_row_132, N_X10_row_133, N_X10_row_136, N_X10_row_137, N_X10_row_140, N_X10_row_141, N_X10_row_142, N_X10_row_145, if_true, if_false, ite_true, ite_false, not_false_eq_true, not_true_eq_false, isRf_ref, isRf_null, c1_int, c1_ref, c1_null, c1_none, rfv_some, rfv_none, Ok_s, tl_some, tl_none, List.nil_append, b2i_n1, b2i_n0, ↓reduceIte, nI_add, pk_mul, pk_sub, n_leT, n_leF, n_ltT, n_ltF, n_eqT, n_eqF, n_shl1, n_shl, n_shr, nI_and, nI_or, nI_xor, b2i_z, b2i_o, m1_n, n_m1, m1_lt, m1_le, n_lm1, n_em1, nI_m1, and1, and3, and7, and15, and63, and255, Bool.true_eq_false, Bool.false_eq_true, reduceCtorEq, Nat.reduceAdd, Nat.reduceMul, Nat.reduceSub, Nat.reduceDiv, Nat.reduceMod, Nat.reducePow, Nat.zero_add, Nat.one_mul, e14, c_grant]
          exact hfin
        · rw [Nat.min_eq_right (by omega)]
          simp (disch := first | omega | exact c1_int _ | exact c1_none | exact c1_ref _ | exact isRf_ref _ | assumption | exact okRb _ | exact okN1 | exact okN0 | exact rfl) only [N_X10_row_0, N_X10_row_1, N_X10_row_4, N_X10_row_5, N_X10_row_8, N_X10_row_11, N_X10_row_12, N_X10_row_14, N_X10_row_17, N_X10_row_18, N_X10_row_19, N_X10_row_22, N_X10_row_25, N_X10_row_28, N_X10_row_29, N_X10_row_31, N_X10_row_34, N_X10_row_35, N_X10_row_36, N_X10_row_39, N_X10_row_42, N_X10_row_43, N_X10_row_44, N_X10_row_45, N_X10_row_47, N_X10_row_48, N_X10_row_51, N_X10_row_54, N_X10_row_57, N_X10_row_58, N_X10_row_59, N_X10_row_62, N_X10_row_65, N_X10_row_68, N_X10_row_69, N_X10_row_72, N_X10_row_73, N_X10_row_76, N_X10_row_79, N_X10_row_80, N_X10_row_81, N_X10_row_84, N_X10_row_87, N_X10_row_88, N_X10_row_91, N_X10_row_94, N_X10_row_95, N_X10_row_97, N_X10_row_98, N_X10_row_99, N_X10_row_100, N_X10_row_101, N_X10_row_104, N_X10_row_107, N_X10_row_108, N_X10_row_109, N_X10_row_110, N_X10_row_113, N_X10_row_116, N_X10_row_119, N_X10_row_120, N_X10_row_121, N_X10_row_124, N_X10_row_127, N_X10_row_128, N_X10_row_129, N_X10_row_132, N_X10_row_133, N_X10_row_136, N_X10_row_137, N_X10_row_140, N_X10_row_141, N_X10_row_142, N_X10_row_145, if_true, if_false, ite_true, ite_false, not_false_eq_true, not_true_eq_false, isRf_ref, isRf_null, c1_int, c1_ref, c1_null, c1_none, rfv_some, rfv_none, Ok_s, tl_some, tl_none, List.nil_append, b2i_n1, b2i_n0, ↓reduceIte, nI_add, pk_mul, pk_sub, n_leT, n_leF, n_ltT, n_ltF, n_eqT, n_eqF, n_shl1, n_shl, n_shr, nI_and, nI_or, nI_xor, b2i_z, b2i_o, m1_n, n_m1, m1_lt, m1_le, n_lm1, n_em1, nI_m1, and1, and3, and7, and15, and63, and255, Bool.true_eq_false, Bool.false_eq_true, reduceCtorEq, Nat.reduceAdd, Nat.reduceMul, Nat.reduceSub, Nat.reduceDiv, Nat.reduceMod, Nat.reducePow, Nat.zero_add, Nat.one_mul, e14, e0, c_grant]
          exact hfin
      · rintro i J hi ⟨j1, j2⟩ ih
        have hi1 : i < stn A := by omega
        have hi2 : i < sa A 4320 := by omega
        have hcs := cntB_s (rc (sa A 4320) (stB A)) i
        have hrs := rwA_s (sa A) (stB A) wd i
        rw [N_X10_row_46]
        have e14 : J 14 0 = nI (stn A) := by rw [j1 14 (by decide), f1 14 (by decide) (by decide)]; exact g14
        have e0 : J 1 0 = nI (sa A 4320) := by rw [j1 1 (by decide), f1 1 (by decide) (by decide)]; exact g0
        have e15 : J 15 i = nI (stB A i) := by rw [j1 15 (by decide), f1 15 (by decide) (by decide)]; exact (g15 i (by omega)).1
        have hb6 := (g15 i (by omega)).2
        have hin : inN (nI (stB A i)) (nI (sa A 4320)) = decide (stB A i < sa A 4320) := inN_nI (by omega) (by omega)
        by_cases hb : stB A i < sa A 4320
        · have hr : rc (sa A 4320) (stB A) i = true := by unfold rc; simp [hi2, hb]
          rw [decide_eq_true hb] at hin
          rw [hr, if_pos rfl] at hcs hrs
          simp (disch := first | omega | exact c1_int _ | exact c1_none | exact c1_ref _ | exact isRf_ref _ | assumption | exact okRb _ | exact okN1 | exact okN0 | exact rfl) only [N_X10_row_0, N_X10_row_1, N_X10_row_4, N_X10_row_5, N_X10_row_8, N_X10_row_11, N_X10_row_12, N_X10_row_14, N_X10_row_17, N_X10_row_18, N_X10_row_19, N_X10_row_22, N_X10_row_25, N_X10_row_28, N_X10_row_29, N_X10_row_31, N_X10_row_34, N_X10_row_35, N_X10_row_36, N_X10_row_39, N_X10_row_42, N_X10_row_43, N_X10_row_44, N_X10_row_45, N_X10_row_47, N_X10_row_48, N_X10_row_51, N_X10_row_54, N_X10_row_57, N_X10_row_58, N_X10_row_59, N_X10_row_62, N_X10_row_65, N_X10_row_68, N_X10_row_69, N_X10_row_72, N_X10_row_73, N_X10_row_76, N_X10_row_79, N_X10_row_80, N_X10_row_81, N_X10_row_84, N_X10_row_87, N_X10_row_88, N_X10_row_91, N_X10_row_94, N_X10_row_95, N_X10_row_97, N_X10_row_98, N_X10_row_99, N_X10_row_100, N_X10_row_101, N_X10_row_104, N_X10_row_107, N_X10_row_108, N_X10_row_109, N_X10_row_110, N_X10_row_113, N_X10_row_116, N_X10_row_119, N_X10_row_120, N_X10_row_121, N_X10_row_124, N_X10_row_127, N_X10_row_128, N_X10_row_129, N_X10_row_132, N_X10_row_133, N_X10_row_136, N_X10_row_137, N_X10_row_140, N_X10_row_141, N_X10_row_142, N_X10_row_145, if_true, if_false, ite_true, ite_false, not_false_eq_true, not_true_eq_false, isRf_ref, isRf_null, c1_int, c1_ref, c1_null, c1_none, rfv_some, rfv_none, Ok_s, tl_some, tl_none, List.nil_append, b2i_n1, b2i_n0, ↓reduceIte, nI_add, pk_mul, pk_sub, n_leT, n_leF, n_ltT, n_ltF, n_eqT, n_eqF, n_shl1, n_shl, n_shr, nI_and, nI_or, nI_xor, b2i_z, b2i_o, m1_n, n_m1, m1_lt, m1_le, n_lm1, n_em1, nI_m1, and1, and3, and7, and15, and63, and255, Bool.true_eq_false, Bool.false_eq_true, reduceCtorEq, Nat.reduceAdd, Nat.reduceMul, Nat.reduceSub, Nat.reduceDiv, Nat.reduceMod, Nat.reducePow, Nat.zero_add, Nat.one_mul, e14, e0, e15, c_hasPlace, hin]
          rw [← hcs]
          refine ih _ ⟨fun k hk => by rw [up2_ro _ _ _ hk, j1 k hk], ?_⟩
          rw [hrs]
          exact MzI_ld j2 (AW_row hA hw2 _) (by rw [rwA_o (fun i hi => by omega)]; exact hw2) (by omega)
        · have hr : rc (sa A 4320) (stB A) i = false := by unfold rc; simp [hb]
          rw [decide_eq_false hb] at hin
          rw [hr, if_neg (by decide)] at hcs hrs
          simp (disch := first | omega | exact c1_int _ | exact c1_none | exact c1_ref _ | exact isRf_ref _ | assumption | exact okRb _ | exact okN1 | exact okN0 | exact rfl) only [N_X10_row_0, N_X10_row_1, N_X10_row_4, N_X10_row_5, N_X10_row_8, N_X10_row_11, N_X10_row_12, N_X10_row_14, N_X10_row_17, N_X10_row_18, N_X10_row_19, N_X10_row_22, N_X10_row_25, N_X10_row_28, N_X10_row_29, N_X10_row_31, N_X10_row_34, N_X10_row_35, N_X10_row_36, N_X10_row_39, N_X10_row_42, N_X10_row_43, N_X10_row_44, N_X10_row_45, N_X10_row_47, N_X10_row_48, N_X10_row_51, N_X10_row_54, N_X10_row_57, N_X10_row_58, N_X10_row_59, N_X10_row_62, N_X10_row_65, N_X10_row_68, N_X10_row_69, N_X10_row_72, N_X10_row_73, N_X10_row_76, N_X10_row_79, N_X10_row_80, N_X10_row_81, N_X10_row_84, N_X10_row_87, N_X10_row_88, N_X10_row_91, N_X10_row_94, N_X10_row_95, N_X10_row_97, N_X10_row_98, N_X10_row_99, N_X10_row_100, N_X10_row_101, N_X10_row_104, N_X10_row_107, N_X10_row_108, N_X10_row_109, N_X10_row_110, N_X10_row_113, N_X10_row_116, N_X10_row_119, N_X10_row_120, N_X10_row_121, N_X10_row_124, N_X10_row_127, N_X10_row_128, N_X10_row_129, N_X10_row_132, N_X10_row_133, N_X10_row_136, N_X10_row_137, N_X10_row_140, N_X10_row_141, N_X10_row_142, N_X10_row_145, if_true, if_false, ite_true, ite_false, not_false_eq_true, not_true_eq_false, isRf_ref, isRf_null, c1_int, c1_ref, c1_null, c1_none, rfv_some, rfv_none, Ok_s, tl_some, tl_none, List.nil_append, b2i_n1, b2i_n0, ↓reduceIte, nI_add, pk_mul, pk_sub, n_leT, n_leF, n_ltT, n_ltF, n_eqT, n_eqF, n_shl1, n_shl, n_shr, nI_and, nI_or, nI_xor, b2i_z, b2i_o, m1_n, n_m1, m1_lt, m1_le, n_lm1, n_em1, nI_m1, and1, and3, and7, and15, and63, and255, Bool.true_eq_false, Bool.false_eq_true, reduceCtorEq, Nat.reduceAdd, Nat.reduceMul, Nat.reduceSub, Nat.reduceDiv, Nat.reduceMod, Nat.reducePow, Nat.zero_add, Nat.one_mul, e14, e0, e15, c_hasPlace, hin]
          have hcs2 : cntB (rc (sa A 4320) (stB A)) (i + 1) = cntB (rc (sa A 4320) (stB A)) i := hcs
          rw [← hcs2]
          refine ih _ ⟨j1, ?_⟩
          rw [hrs]
          exact j2
end Pg1
