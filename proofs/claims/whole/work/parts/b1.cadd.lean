section Pb1
variable {xs : Nat → Int32} {Ln d : Nat} {D D' D'' : Dyn} {I I' I'' : Nat → Nat → Int32} {L : Nat → Nat → Int64} {w : Om} {Q : Res → Prop} {ow ow' ow'' ky ky' ky'' ln ln' ln'' a : Nat → Nat}
theorem c_hobK {v : Nat} (h1 : 16 ≤ v) (h2 : v < 32768) : ∃ k, 4 ≤ k ∧ k ≤ 14 ∧ 2 ^ k ≤ v ∧ v < 2 ^ (k + 1) ∧ callD xs Ln (d + 2) 267 [.int (nI v)] (mkW D I L) = some (mkW D I L, some (.int (nI (2 ^ k)))) := by
  obtain ⟨k, k1, k2, k3, k4⟩ := lg_ex v h1 h2
  refine ⟨k, k1, k2, k3, k4, ?_⟩
  refine Ok.eq ?_
  refine semG (lo := [some (.int (nI v))]) rfl rfl (Nat.le_of_ble_eq_true rfl) rfl (show G_J6_highestOneBit_0f7a4 xs Ln _ 0 [some (.int (nI v))] [] _ _ from ?_)
  simp (disch := first | omega | exact c1_int _ | exact c1_none | exact c1_ref _ | exact isRf_ref _ | assumption | exact okRb _ | exact okN1 | exact okN0 | exact rfl) only [N_J6_highestOneBit_0f7a4_0, N_J6_highestOneBit_0f7a4_1, N_J6_highestOneBit_0f7a4_3, N_J6_highestOneBit_0f7a4_4, N_J6_highestOneBit_0f7a4_7, N_J6_highestOneBit_0f7a4_8, N_J6_highestOneBit_0f7a4_9, if_true, if_false, ite_true, ite_false, not_false_eq_true, not_true_eq_false, isRf_ref, isRf_null, c1_int, c1_ref, c1_null, c1_none, rfv_some, rfv_none, Ok_s, tl_some, tl_none, List.nil_append, b2i_n1, b2i_n0, c_nlz ⟨k1, k2⟩ k3 k4, min_sh k k1 k2, nI_and, and_pw k3 k4]
theorem pw_le15 {j : Nat} (h : j ≤ 15) : 2 ^ j ≤ 32768 := by
  have := pw_lt h
  simpa using this
theorem pw_inj {i j : Nat} (h : 2 ^ i < 2 ^ (j + 1)) : i ≤ j := by
  by_cases e : i ≤ j
  · exact e
  · have := pw_lt (show j + 1 ≤ i by omega)
    omega
/-- where a stand is in the queue, and one -/
def spo (s : Bs) (t : Nat) : Nat := match lst (fun i => decide (bQ s i = t)) (bN s) with
  | some i => i + 1
  | none => 0
theorem lst_cg {p q : Nat → Bool} : ∀ n, (∀ i, i < n → p i = q i) → lst p n = lst q n
  | 0, _ => rfl
  | n + 1, h => by
    unfold lst
    rw [lst_cg n (fun i hi => h i (by omega)), h n (by omega)]
theorem spo_0 {s : Bs} {t : Nat} (h : ∀ i, i < bN s → bQ s i ≠ t) : spo s t = 0 := by
  unfold spo
  rw [(lst_n _ _).mpr (fun i hi => decide_eq_false (h i hi))]
theorem spo_i {s : Bs} {i : Nat} (hi : i < bN s) (hd : ∀ i j, i < bN s → j < bN s → bQ s i = bQ s j → i = j) : spo s (bQ s i) = i + 1 := by
  unfold spo
  rw [(lst_s _ _ i).mpr ⟨hi, by simp, fun j hj => by
    apply decide_eq_false
    intro e
    have := hd j i (by omega) hi e
    omega⟩]
theorem spo_c (s : Bs) (t : Nat) : (spo s t = 0 ∧ ∀ i, i < bN s → bQ s i ≠ t) ∨ ∃ i, i < bN s ∧ bQ s i = t ∧ spo s t = i + 1 := by
  unfold spo
  cases hl : lst (fun i => decide (bQ s i = t)) (bN s) with
  | none =>
    refine Or.inl ⟨rfl, fun i hi e => ?_⟩
    have := (lst_n _ _).mp hl i hi
    rw [decide_eq_true e] at this
    cases this
  | some i =>
    have := (lst_s _ _ i).mp hl
    exact Or.inr ⟨i, this.1, of_decide_eq_true this.2.1, rfl⟩
/-- the search's rows hold s -/
def SS (I : Nat → Nat → Int32) (ky ln : Nat → Nat) (s : Bs) : Prop := I 29 2 = nI (bN s) ∧ bN s ≤ ln 2 ∧ ln 3 = ln 2 ∧ ln 4 = ln 2 ∧ (∃ j, j ≤ 15 ∧ ln 2 = 2 ^ j) ∧ (∃ j, j ≤ 15 ∧ ln 1 = 2 ^ j) ∧ (∀ i, i < bN s → I (ky 2) i = nI (bQ s i) ∧ bQ s i < ln 1 ∧ I (ky 4) i = nI (bM s (bQ s i)) ∧ (0 < i → I (ky 3) i = nI (bP s i))) ∧ (∀ t, t < ln 1 → I (ky 1) t = nI (spo s t))
/-- one more in the queue -/
def qad (s : Bs) (t r e : Nat) : Bs := (bN s + 1, up1 (bQ s) (bN s) t, bF s, up1 (bM s) t r, up1 (bP s) (bN s) e)
theorem spo_a {s : Bs} {t r e u : Nat} (hn : ∀ i, i < bN s → bQ s i ≠ t) : spo (qad s t r e) u = if u = t then bN s + 1 else spo s u := by
  unfold spo
  by_cases hu : u = t
  · subst hu
    rw [if_pos rfl]
    have hl : lst (fun i => decide (bQ (qad s u r e) i = u)) (bN (qad s u r e)) = some (bN s) := by
      refine (lst_s _ _ _).mpr ⟨Nat.lt_succ_self _, decide_eq_true ?_, fun j hj => decide_eq_false ?_⟩
      · show up1 (bQ s) (bN s) u (bN s) = u
        rw [up1_s]
      · show up1 (bQ s) (bN s) u j ≠ u
        rw [up1_n _ _ (by omega)]; exact hn j hj
    rw [hl]
  · rw [if_neg hu]
    have hl : lst (fun i => decide (bQ (qad s t r e) i = u)) (bN (qad s t r e)) = lst (fun i => decide (bQ s i = u)) (bN s) := by
      show lst (fun i => decide (up1 (bQ s) (bN s) t i = u)) (bN s + 1) = _
      have h1 : lst (fun i => decide (up1 (bQ s) (bN s) t i = u)) (bN s) = lst (fun i => decide (bQ s i = u)) (bN s) := lst_cg _ (fun i hi => by rw [up1_n _ _ (by omega)])
      show (match lst (fun i => decide (up1 (bQ s) (bN s) t i = u)) (bN s) with
        | some i => some i
        | none => if decide (up1 (bQ s) (bN s) t (bN s) = u) = true then some (bN s) else none) = _
      rw [h1, up1_s, decide_eq_false (fun e => hu e.symm)]
      cases lst (fun i => decide (bQ s i = u)) (bN s) <;> rfl
    rw [hl]
theorem c_add {s : Bs} {t r e z : Nat} {ev : Int32} (hD : DA D ow ky ln) (hR : Rm D ln z) (hS : SS I ky ln s) (ht : t < 32768) (hn : ∀ i, i < bN s → bQ s i ≠ t) (hN : bN s < 32768) (hev : 0 < bN s → ev = nI e) : Ok (callD xs Ln (d + 3) 57 [.ref 29, .int (nI t), .int ev, .int (nI r)] (mkW D I L)) (fun q => ∃ D' I' L' ow' ky' ln', q = (mkW D' I' L', none) ∧ DA D' ow' ky' ln' ∧ Rm D' ln' z ∧ GX 1 4 29 D I ow ky ln D' I' ow' ky' ln' ∧ SS I' ky' ln' (qad s t r e) ∧ ∀ j, j ≠ 2 → I' 29 j = I 29 j) := by
  refine semG (lo := [some (.ref 29), some (.int (nI t)), some (.int ev), some (.int (nI r))]) rfl rfl (Nat.le_of_ble_eq_true rfl) rfl (show G_X6_add xs Ln _ 0 [some (.ref 29), some (.int (nI t)), some (.int ev), some (.int (nI r))] [] _ _ from ?_)
  -- the writes
  have P3 : ∀ D1 I1 L1 ow1 ky1 ln1, DA D1 ow1 ky1 ln1 → Rm D1 ln1 z → GX 1 4 29 D I ow ky ln D1 I1 ow1 ky1 ln1 → SS I1 ky1 ln1 s → (∀ j, I1 29 j = I 29 j) → t < ln1 1 → bN s < ln1 2 → G_X6_add xs Ln (d + 2) 100 [some (.ref 29), some (.int (nI t)), some (.int ev), some (.int (nI r))] [] (mkW D1 I1 L1) (fun q => ∃ D' I' L' ow' ky' ln', q = (mkW D' I' L', none) ∧ DA D' ow' ky' ln' ∧ Rm D' ln' z ∧ GX 1 4 29 D I ow ky ln D' I' ow' ky' ln' ∧ SS I' ky' ln' (qad s t r e) ∧ ∀ j, j ≠ 2 → I' 29 j = I 29 j) := by
    intro D1 I1 L1 ow1 ky1 ln1 hD1 hR1 hG1 hS1 h29 ht1 hn1
    obtain ⟨p1, q1, o1, y1, -, -, b1⟩ := hD1 1 (by omega) (by omega)
    obtain ⟨p2, q2, o2, y2, -, -, b2⟩ := hD1 2 (by omega) (by omega)
    obtain ⟨p3, q3, o3, y3, -, -, b3⟩ := hD1 3 (by omega) (by omega)
    obtain ⟨p4, q4, o4, y4, -, -, b4⟩ := hD1 4 (by omega) (by omega)
    have p1' : pF D1 29 10 = some (ky1 1) := p1
    have p2' : pF D1 29 11 = some (ky1 2) := p2
    have p3' : pF D1 29 12 = some (ky1 3) := p3
    have p4' : pF D1 29 13 = some (ky1 4) := p4
    obtain ⟨c1', c2, c3, c4, c5, c6, c7, c8⟩ := hS1
    have n12 : ky1 1 ≠ ky1 2 := hD1.ne (by omega) (by omega) (by omega)
    have n13 : ky1 1 ≠ ky1 3 := hD1.ne (by omega) (by omega) (by omega)
    have n14 : ky1 1 ≠ ky1 4 := hD1.ne (by omega) (by omega) (by omega)
    have n23 : ky1 2 ≠ ky1 3 := hD1.ne (by omega) (by omega) (by omega)
    have n24 : ky1 2 ≠ ky1 4 := hD1.ne (by omega) (by omega) (by omega)
    have n34 : ky1 3 ≠ ky1 4 := hD1.ne (by omega) (by omega) (by omega)
    have d29 : ¬ dy 29 := ndy_lo (by omega)
    have m1 := hD1.st (i := 1) (by omega) d29
    have m2' := hD1.st (i := 2) (by omega) d29
    have m3' := hD1.st (i := 3) (by omega) d29
    have m4' := hD1.st (i := 4) (by omega) d29
    simp (disch := first | omega | exact c1_int _ | exact c1_none | exact c1_ref _ | exact isRf_ref _ | assumption | exact okRb _ | exact okN1 | exact okN0 | exact rfl) only [N_X6_add_0, N_X6_add_1, N_X6_add_4, N_X6_add_5, N_X6_add_7, N_X6_add_10, N_X6_add_11, N_X6_add_12, N_X6_add_13, N_X6_add_16, N_X6_add_17, N_X6_add_20, N_X6_add_21, N_X6_add_22, N_X6_add_25, N_X6_add_26, N_X6_add_29, N_X6_add_30, N_X6_add_31, N_X6_add_34, N_X6_add_37, N_X6_add_38, N_X6_add_41, N_X6_add_42, N_X6_add_45, N_X6_add_46, N_X6_add_49, N_X6_add_50, N_X6_add_51, N_X6_add_54, N_X6_add_55, N_X6_add_58, N_X6_add_59, N_X6_add_60, N_X6_add_63, N_X6_add_66, N_X6_add_67, N_X6_add_68, N_X6_add_71, N_X6_add_72, N_X6_add_75, N_X6_add_76, N_X6_add_77, N_X6_add_80, N_X6_add_83, N_X6_add_84, N_X6_add_85, N_X6_add_88, N_X6_add_89, N_X6_add_92, N_X6_add_93, N_X6_add_94, N_X6_add_97, N_X6_add_100, N_X6_add_101, N_X6_add_104, N_X6_add_105, N_X6_add_108, N_X6_add_109, N_X6_add_110, N_X6_add_111, N_X6_add_114, N_X6_add_115, N_X6_add_118, N_X6_add_119, N_X6_add_120, N_X6_add_121, N_X6_add_124, N_X6_add_125, N_X6_add_128, N_X6_add_129, N_X6_add_130, N_X6_add_131, N_X6_add_132, N_X6_add_135, N_X6_add_136, N_X6_add_137, N_X6_add_140, N_X6_add_141, N_X6_add_144, N_X6_add_145, N_X6_add_146, N_X6_add_149, N_X6_add_150, if_true, if_false, ite_true, ite_false, not_false_eq_true, not_true_eq_false, isRf_ref, isRf_null, c1_int, c1_ref, c1_null, c1_none, rfv_some, rfv_none, Ok_s, tl_some, tl_none, List.nil_append, b2i_n1, b2i_n0, ↓reduceIte, nI_add, pk_mul, pk_sub, n_leT, n_leF, n_ltT, n_ltF, n_eqT, n_eqF, n_shl1, n_shl, n_shr, nI_and, nI_or, nI_xor, b2i_z, b2i_o, m1_n, n_m1, m1_lt, m1_le, n_lm1, n_em1, nI_m1, and1, and3, and7, and15, and63, and255, Bool.true_eq_false, Bool.false_eq_true, reduceCtorEq, Nat.reduceAdd, Nat.reduceMul, Nat.reduceSub, Nat.reduceDiv, Nat.reduceMod, Nat.reducePow, Nat.zero_add, Nat.one_mul, p1', p2', p3', p4', c1', up2_s, up2_k _ _ _ _ m1, up2_k _ _ _ _ m2', up2_k _ _ _ _ m3', up2_k _ _ _ _ m4']
    refine ⟨_, _, _, _, _, _, rfl, hD1, hR1, ?_, ?_, ?_⟩
    · exact ((((hG1.u (Or.inr (by omega))).u (Or.inr (by omega))).u (Or.inr (by omega))).u (Or.inl rfl)).u (Or.inr (by omega))
    · refine ⟨?_, by show bN s + 1 ≤ _; omega, c3, c4, c5, c6, fun i hi => ?_, fun u hu => ?_⟩
      · rw [up2_k _ _ _ _ m1, up2_s]; rfl
      · have hi' : i < bN s + 1 := hi
        show _ = nI (up1 (bQ s) (bN s) t i) ∧ up1 (bQ s) (bN s) t i < ln1 1 ∧ _ = nI (up1 (bM s) t r (up1 (bQ s) (bN s) t i)) ∧ (0 < i → _ = nI (up1 (bP s) (bN s) e i))
        rw [up2_k _ _ _ _ n12.symm, up2_k _ _ _ _ m2'.symm, up2_k _ _ _ _ n24, up2_k _ _ _ _ n23]
        rw [up2_k _ _ _ _ n14.symm, up2_k _ _ _ _ m4'.symm]
        rw [up2_k _ _ _ _ n13.symm, up2_k _ _ _ _ m3'.symm, up2_k _ _ _ _ n34]
        by_cases ei : i = bN s
        · subst ei
          rw [up2_s, up1_s, up1_s, up2_s, up2_s, up1_s]
          exact ⟨rfl, ht1, rfl, hev⟩
        · obtain ⟨g1, g2, g3, g4⟩ := c7 i (by omega)
          rw [up2_j _ _ _ ei, up1_n _ _ ei, up2_j _ _ _ ei, up2_j _ _ _ ei, up1_n _ _ ei, up2_k _ _ _ _ n34.symm, up2_k _ _ _ _ n24.symm, up2_k _ _ _ _ n23.symm, up1_n _ _ (hn i (by omega))]
          exact ⟨g1, g2, g3, g4⟩
      · rw [spo_a hn]
        by_cases eu : u = t
        · subst eu
          rw [if_pos rfl, up2_s]
        · rw [if_neg eu, up2_j _ _ _ eu, up2_k _ _ _ _ m1.symm, up2_k _ _ _ _ n14, up2_k _ _ _ _ n13, up2_k _ _ _ _ n12]
          exact c8 u hu
    · intro j hj
      rw [up2_k _ _ _ _ m1, up2_j _ _ _ hj, up2_k _ _ _ _ m4', up2_k _ _ _ _ m3', up2_k _ _ _ _ m2']
      exact h29 j
  -- the queue grows
  have P2 : ∀ D1 I1 L1 ow1 ky1 ln1, DA D1 ow1 ky1 ln1 → Rm D1 ln1 z → GX 1 4 29 D I ow ky ln D1 I1 ow1 ky1 ln1 → SS I1 ky1 ln1 s → (∀ j, I1 29 j = I 29 j) → t < ln1 1 → G_X6_add xs Ln (d + 2) 37 [some (.ref 29), some (.int (nI t)), some (.int ev), some (.int (nI r))] [] (mkW D1 I1 L1) (fun q => ∃ D' I' L' ow' ky' ln', q = (mkW D' I' L', none) ∧ DA D' ow' ky' ln' ∧ Rm D' ln' z ∧ GX 1 4 29 D I ow ky ln D' I' ow' ky' ln' ∧ SS I' ky' ln' (qad s t r e) ∧ ∀ j, j ≠ 2 → I' 29 j = I 29 j) := by
    intro D1 I1 L1 ow1 ky1 ln1 hD1 hR1 hG1 hS1 h29 ht1
    obtain ⟨p2, q2, o2, y2, x2, g2, b2⟩ := hD1 2 (by omega) (by omega)
    have p2' : pF D1 29 11 = some (ky1 2) := p2
    have hS1' := hS1
    obtain ⟨c1', c2, c3, c4, ⟨j2, c5, c5'⟩, c6, c7, c8⟩ := hS1
    have hl15 := pw_le15 c5
    by_cases hlt : bN s < ln1 2
    · simp (disch := first | omega | exact c1_int _ | exact c1_none | exact c1_ref _ | exact isRf_ref _ | assumption | exact okRb _ | exact okN1 | exact okN0 | exact rfl) only [N_X6_add_0, N_X6_add_1, N_X6_add_4, N_X6_add_5, N_X6_add_7, N_X6_add_10, N_X6_add_11, N_X6_add_12, N_X6_add_13, N_X6_add_16, N_X6_add_17, N_X6_add_20, N_X6_add_21, N_X6_add_22, N_X6_add_25, N_X6_add_26, N_X6_add_29, N_X6_add_30, N_X6_add_31, N_X6_add_34, N_X6_add_37, N_X6_add_38, N_X6_add_41, N_X6_add_42, N_X6_add_45, N_X6_add_46, N_X6_add_49, N_X6_add_50, N_X6_add_51, N_X6_add_54, N_X6_add_55, N_X6_add_58, N_X6_add_59, N_X6_add_60, N_X6_add_63, N_X6_add_66, N_X6_add_67, N_X6_add_68, N_X6_add_71, N_X6_add_72, N_X6_add_75, N_X6_add_76, N_X6_add_77, N_X6_add_80, N_X6_add_83, N_X6_add_84, N_X6_add_85, N_X6_add_88, N_X6_add_89, N_X6_add_92, N_X6_add_93, N_X6_add_94, N_X6_add_97, N_X6_add_101, N_X6_add_104, N_X6_add_105, N_X6_add_108, N_X6_add_109, N_X6_add_110, N_X6_add_111, N_X6_add_114, N_X6_add_115, N_X6_add_118, N_X6_add_119, N_X6_add_120, N_X6_add_121, N_X6_add_124, N_X6_add_125, N_X6_add_128, N_X6_add_129, N_X6_add_130, N_X6_add_131, N_X6_add_132, N_X6_add_135, N_X6_add_136, N_X6_add_137, N_X6_add_140, N_X6_add_141, N_X6_add_144, N_X6_add_145, N_X6_add_146, N_X6_add_149, N_X6_add_150, if_true, if_false, ite_true, ite_false, not_false_eq_true, not_true_eq_false, isRf_ref, isRf_null, c1_int, c1_ref, c1_null, c1_none, rfv_some, rfv_none, Ok_s, tl_some, tl_none, List.nil_append, b2i_n1, b2i_n0, ↓reduceIte, nI_add, pk_mul, pk_sub, n_leT, n_leF, n_ltT, n_ltF, n_eqT, n_eqF, n_shl1, n_shl, n_shr, nI_and, nI_or, nI_xor, b2i_z, b2i_o, m1_n, n_m1, m1_lt, m1_le, n_lm1, n_em1, nI_m1, and1, and3, and7, and15, and63, and255, Bool.true_eq_false, Bool.false_eq_true, reduceCtorEq, Nat.reduceAdd, Nat.reduceMul, Nat.reduceSub, Nat.reduceDiv, Nat.reduceMod, Nat.reducePow, Nat.zero_add, Nat.one_mul, p2', c1']
      exact P3 D1 I1 L1 ow1 ky1 ln1 hD1 hR1 hG1 hS1' h29 ht1 hlt
    · have he : bN s = ln1 2 := by omega
      have hj14 : j2 ≤ 14 := pw_inj (show 2 ^ j2 < 2 ^ (14 + 1) by simp only [Nat.reduceAdd, Nat.reducePow]; omega)
      have hpw2 : bN s * 2 = 2 ^ (j2 + 1) := by rw [Nat.pow_succ]; omega
      simp (disch := first | omega | exact c1_int _ | exact c1_none | exact c1_ref _ | exact isRf_ref _ | assumption | exact okRb _ | exact okN1 | exact okN0 | exact rfl) only [N_X6_add_0, N_X6_add_1, N_X6_add_4, N_X6_add_5, N_X6_add_7, N_X6_add_10, N_X6_add_11, N_X6_add_12, N_X6_add_13, N_X6_add_16, N_X6_add_17, N_X6_add_20, N_X6_add_21, N_X6_add_22, N_X6_add_25, N_X6_add_26, N_X6_add_29, N_X6_add_30, N_X6_add_31, N_X6_add_34, N_X6_add_37, N_X6_add_38, N_X6_add_41, N_X6_add_42, N_X6_add_45, N_X6_add_46, N_X6_add_49, N_X6_add_50, N_X6_add_51, N_X6_add_54, N_X6_add_55, N_X6_add_58, N_X6_add_59, N_X6_add_60, N_X6_add_63, N_X6_add_66, N_X6_add_67, N_X6_add_68, N_X6_add_71, N_X6_add_72, N_X6_add_75, N_X6_add_76, N_X6_add_77, N_X6_add_80, N_X6_add_83, N_X6_add_84, N_X6_add_85, N_X6_add_88, N_X6_add_89, N_X6_add_92, N_X6_add_93, N_X6_add_94, N_X6_add_97, N_X6_add_101, N_X6_add_104, N_X6_add_105, N_X6_add_108, N_X6_add_109, N_X6_add_110, N_X6_add_111, N_X6_add_114, N_X6_add_115, N_X6_add_118, N_X6_add_119, N_X6_add_120, N_X6_add_121, N_X6_add_124, N_X6_add_125, N_X6_add_128, N_X6_add_129, N_X6_add_130, N_X6_add_131, N_X6_add_132, N_X6_add_135, N_X6_add_136, N_X6_add_137, N_X6_add_140, N_X6_add_141, N_X6_add_144, N_X6_add_145, N_X6_add_146, N_X6_add_149, N_X6_add_150, if_true, if_false, ite_true, ite_false, not_false_eq_true, not_true_eq_false, isRf_ref, isRf_null, c1_int, c1_ref, c1_null, c1_none, rfv_some, rfv_none, Ok_s, tl_some, tl_none, List.nil_append, b2i_n1, b2i_n0, ↓reduceIte, nI_add, pk_mul, pk_sub, n_leT, n_leF, n_ltT, n_ltF, n_eqT, n_eqF, n_shl1, n_shl, n_shr, nI_and, nI_or, nI_xor, b2i_z, b2i_o, m1_n, n_m1, m1_lt, m1_le, n_lm1, n_em1, nI_m1, and1, and3, and7, and15, and63, and255, Bool.true_eq_false, Bool.false_eq_true, reduceCtorEq, Nat.reduceAdd, Nat.reduceMul, Nat.reduceSub, Nat.reduceDiv, Nat.reduceMod, Nat.reducePow, Nat.zero_add, Nat.one_mul, p2', c1']
      refine Ok.mono (c_copyOf (d := d + 1) (n := ln1 2) (m := bN s * 2) q2 (by omega) (by omega) (by omega)) ?_
      rintro _ ⟨I2, L2, rfl, f2, v2, -⟩
      obtain ⟨hD2, hR2, hG2⟩ := grow (i := 2) (n := bN s * 2) hD1 hR1 (by omega) (by omega) (by omega) f2
      have hG2' := hG1.tr (hG2 1 4 (by omega) (by omega))
      obtain ⟨p3, q3, o3, y3, x3, g3, b3⟩ := hD2 3 (by omega) (by omega)
      have p3' : pF (dGr D1 2 (bN s * 2)) 29 12 = some (ky1 3) := by rw [up1_n _ _ (show (3 : Nat) ≠ 2 by decide)] at p3; exact p3
      rw [up1_n _ _ (show (3 : Nat) ≠ 2 by decide)] at q3 x3
      rw [up1_n _ _ (show (3 : Nat) ≠ 2 by decide)] at q3
      have eD2 : dPut (dNew D1 (.inl (.int, bN s * 2)) (bN s * 2)) 29 11 (103 + D1.1) = dGr D1 2 (bN s * 2) := rfl
      have k3 := (hD1 3 (by omega) (by omega)).2.2.2.2.1
      have k4 := (hD1 4 (by omega) (by omega)).2.2.2.2.1
      have k1 := (hD1 1 (by omega) (by omega)).2.2.2.2.1
      have e29 : I2 29 2 = nI (bN s) := by rw [f2 29 (by omega)]; exact c1'
      simp (disch := first | omega | exact c1_int _ | exact c1_none | exact c1_ref _ | exact isRf_ref _ | assumption | exact okRb _ | exact okN1 | exact okN0 | exact rfl) only [N_X6_add_0, N_X6_add_1, N_X6_add_4, N_X6_add_5, N_X6_add_7, N_X6_add_10, N_X6_add_11, N_X6_add_12, N_X6_add_13, N_X6_add_16, N_X6_add_17, N_X6_add_20, N_X6_add_21, N_X6_add_22, N_X6_add_25, N_X6_add_26, N_X6_add_29, N_X6_add_30, N_X6_add_31, N_X6_add_34, N_X6_add_37, N_X6_add_38, N_X6_add_41, N_X6_add_42, N_X6_add_45, N_X6_add_46, N_X6_add_49, N_X6_add_50, N_X6_add_51, N_X6_add_54, N_X6_add_55, N_X6_add_58, N_X6_add_59, N_X6_add_60, N_X6_add_63, N_X6_add_66, N_X6_add_67, N_X6_add_68, N_X6_add_71, N_X6_add_72, N_X6_add_75, N_X6_add_76, N_X6_add_77, N_X6_add_80, N_X6_add_83, N_X6_add_84, N_X6_add_85, N_X6_add_88, N_X6_add_89, N_X6_add_92, N_X6_add_93, N_X6_add_94, N_X6_add_97, N_X6_add_101, N_X6_add_104, N_X6_add_105, N_X6_add_108, N_X6_add_109, N_X6_add_110, N_X6_add_111, N_X6_add_114, N_X6_add_115, N_X6_add_118, N_X6_add_119, N_X6_add_120, N_X6_add_121, N_X6_add_124, N_X6_add_125, N_X6_add_128, N_X6_add_129, N_X6_add_130, N_X6_add_131, N_X6_add_132, N_X6_add_135, N_X6_add_136, N_X6_add_137, N_X6_add_140, N_X6_add_141, N_X6_add_144, N_X6_add_145, N_X6_add_146, N_X6_add_149, N_X6_add_150, if_true, if_false, ite_true, ite_false, not_false_eq_true, not_true_eq_false, isRf_ref, isRf_null, c1_int, c1_ref, c1_null, c1_none, rfv_some, rfv_none, Ok_s, tl_some, tl_none, List.nil_append, b2i_n1, b2i_n0, ↓reduceIte, nI_add, pk_mul, pk_sub, n_leT, n_leF, n_ltT, n_ltF, n_eqT, n_eqF, n_shl1, n_shl, n_shr, nI_and, nI_or, nI_xor, b2i_z, b2i_o, m1_n, n_m1, m1_lt, m1_le, n_lm1, n_em1, nI_m1, and1, and3, and7, and15, and63, and255, Bool.true_eq_false, Bool.false_eq_true, reduceCtorEq, Nat.reduceAdd, Nat.reduceMul, Nat.reduceSub, Nat.reduceDiv, Nat.reduceMod, Nat.reducePow, Nat.zero_add, Nat.one_mul, eD2, p3', e29]
      refine Ok.mono (c_copyOf (d := d + 1) (n := ln1 3) (m := bN s * 2) q3 (by show ky1 3 ≠ 103 + (D1.1 + 1); omega) (by omega) (by omega)) ?_
      rintro _ ⟨I3, L3, rfl, f3, v3, -⟩
      obtain ⟨hD3, hR3, hG3⟩ := grow (i := 3) (n := bN s * 2) hD2 hR2 (by omega) (by rw [up1_n _ _ (show (3 : Nat) ≠ 2 by decide)]; omega) (by omega) f3
      have hG3' := hG2'.tr (hG3 1 4 (by omega) (by omega))
      have eD3 : dPut (dNew (dGr D1 2 (bN s * 2)) (.inl (.int, bN s * 2)) (bN s * 2)) 29 12 (103 + (dGr D1 2 (bN s * 2)).1) = dGr (dGr D1 2 (bN s * 2)) 3 (bN s * 2) := rfl
      obtain ⟨p4, q4, o4, y4, x4, g4, b4⟩ := hD3 4 (by omega) (by omega)
      have p4' : pF (dGr (dGr D1 2 (bN s * 2)) 3 (bN s * 2)) 29 13 = some (ky1 4) := by rw [up1_n _ _ (show (4 : Nat) ≠ 3 by decide), up1_n _ _ (show (4 : Nat) ≠ 2 by decide)] at p4; exact p4
      rw [up1_n _ _ (show (4 : Nat) ≠ 3 by decide), up1_n _ _ (show (4 : Nat) ≠ 2 by decide)] at q4
      rw [up1_n _ _ (show (4 : Nat) ≠ 3 by decide), up1_n _ _ (show (4 : Nat) ≠ 2 by decide)] at q4
      have e29' : I3 29 2 = nI (bN s) := by rw [f3 29 (by show 29 ≠ 103 + (D1.1 + 1); omega)]; exact e29
      simp (disch := first | omega | exact c1_int _ | exact c1_none | exact c1_ref _ | exact isRf_ref _ | assumption | exact okRb _ | exact okN1 | exact okN0 | exact rfl) only [N_X6_add_0, N_X6_add_1, N_X6_add_4, N_X6_add_5, N_X6_add_7, N_X6_add_10, N_X6_add_11, N_X6_add_12, N_X6_add_13, N_X6_add_16, N_X6_add_17, N_X6_add_20, N_X6_add_21, N_X6_add_22, N_X6_add_25, N_X6_add_26, N_X6_add_29, N_X6_add_30, N_X6_add_31, N_X6_add_34, N_X6_add_37, N_X6_add_38, N_X6_add_41, N_X6_add_42, N_X6_add_45, N_X6_add_46, N_X6_add_49, N_X6_add_50, N_X6_add_51, N_X6_add_54, N_X6_add_55, N_X6_add_58, N_X6_add_59, N_X6_add_60, N_X6_add_63, N_X6_add_66, N_X6_add_67, N_X6_add_68, N_X6_add_71, N_X6_add_72, N_X6_add_75, N_X6_add_76, N_X6_add_77, N_X6_add_80, N_X6_add_83, N_X6_add_84, N_X6_add_85, N_X6_add_88, N_X6_add_89, N_X6_add_92, N_X6_add_93, N_X6_add_94, N_X6_add_97, N_X6_add_101, N_X6_add_104, N_X6_add_105, N_X6_add_108, N_X6_add_109, N_X6_add_110, N_X6_add_111, N_X6_add_114, N_X6_add_115, N_X6_add_118, N_X6_add_119, N_X6_add_120, N_X6_add_121, N_X6_add_124, N_X6_add_125, N_X6_add_128, N_X6_add_129, N_X6_add_130, N_X6_add_131, N_X6_add_132, N_X6_add_135, N_X6_add_136, N_X6_add_137, N_X6_add_140, N_X6_add_141, N_X6_add_144, N_X6_add_145, N_X6_add_146, N_X6_add_149, N_X6_add_150, if_true, if_false, ite_true, ite_false, not_false_eq_true, not_true_eq_false, isRf_ref, isRf_null, c1_int, c1_ref, c1_null, c1_none, rfv_some, rfv_none, Ok_s, tl_some, tl_none, List.nil_append, b2i_n1, b2i_n0, ↓reduceIte, nI_add, pk_mul, pk_sub, n_leT, n_leF, n_ltT, n_ltF, n_eqT, n_eqF, n_shl1, n_shl, n_shr, nI_and, nI_or, nI_xor, b2i_z, b2i_o, m1_n, n_m1, m1_lt, m1_le, n_lm1, n_em1, nI_m1, and1, and3, and7, and15, and63, and255, Bool.true_eq_false, Bool.false_eq_true, reduceCtorEq, Nat.reduceAdd, Nat.reduceMul, Nat.reduceSub, Nat.reduceDiv, Nat.reduceMod, Nat.reducePow, Nat.zero_add, Nat.one_mul, eD3, p4', e29']
      refine Ok.mono (c_copyOf (d := d + 1) (n := ln1 4) (m := bN s * 2) q4 (by show ky1 4 ≠ 103 + (D1.1 + 1 + 1); omega) (by omega) (by omega)) ?_
      rintro _ ⟨I4, L4, rfl, f4, v4, -⟩
      obtain ⟨hD4, hR4, hG4⟩ := grow (i := 4) (n := bN s * 2) hD3 hR3 (by omega) (by rw [up1_n _ _ (show (4 : Nat) ≠ 3 by decide), up1_n _ _ (show (4 : Nat) ≠ 2 by decide)]; omega) (by omega) f4
      have hG4' := hG3'.tr (hG4 1 4 (by omega) (by omega))
      have eD4 : dPut (dNew (dGr (dGr D1 2 (bN s * 2)) 3 (bN s * 2)) (.inl (.int, bN s * 2)) (bN s * 2)) 29 13 (103 + (dGr (dGr D1 2 (bN s * 2)) 3 (bN s * 2)).1) = dGr (dGr (dGr D1 2 (bN s * 2)) 3 (bN s * 2)) 4 (bN s * 2) := rfl
      simp (disch := first | omega | exact c1_int _ | exact c1_none | exact c1_ref _ | exact isRf_ref _ | assumption | exact okRb _ | exact okN1 | exact okN0 | exact rfl) only [N_X6_add_0, N_X6_add_1, N_X6_add_4, N_X6_add_5, N_X6_add_7, N_X6_add_10, N_X6_add_11, N_X6_add_12, N_X6_add_13, N_X6_add_16, N_X6_add_17, N_X6_add_20, N_X6_add_21, N_X6_add_22, N_X6_add_25, N_X6_add_26, N_X6_add_29, N_X6_add_30, N_X6_add_31, N_X6_add_34, N_X6_add_37, N_X6_add_38, N_X6_add_41, N_X6_add_42, N_X6_add_45, N_X6_add_46, N_X6_add_49, N_X6_add_50, N_X6_add_51, N_X6_add_54, N_X6_add_55, N_X6_add_58, N_X6_add_59, N_X6_add_60, N_X6_add_63, N_X6_add_66, N_X6_add_67, N_X6_add_68, N_X6_add_71, N_X6_add_72, N_X6_add_75, N_X6_add_76, N_X6_add_77, N_X6_add_80, N_X6_add_83, N_X6_add_84, N_X6_add_85, N_X6_add_88, N_X6_add_89, N_X6_add_92, N_X6_add_93, N_X6_add_94, N_X6_add_97, N_X6_add_101, N_X6_add_104, N_X6_add_105, N_X6_add_108, N_X6_add_109, N_X6_add_110, N_X6_add_111, N_X6_add_114, N_X6_add_115, N_X6_add_118, N_X6_add_119, N_X6_add_120, N_X6_add_121, N_X6_add_124, N_X6_add_125, N_X6_add_128, N_X6_add_129, N_X6_add_130, N_X6_add_131, N_X6_add_132, N_X6_add_135, N_X6_add_136, N_X6_add_137, N_X6_add_140, N_X6_add_141, N_X6_add_144, N_X6_add_145, N_X6_add_146, N_X6_add_149, N_X6_add_150, if_true, if_false, ite_true, ite_false, not_false_eq_true, not_true_eq_false, isRf_ref, isRf_null, c1_int, c1_ref, c1_null, c1_none, rfv_some, rfv_none, Ok_s, tl_some, tl_none, List.nil_append, b2i_n1, b2i_n0, ↓reduceIte, nI_add, pk_mul, pk_sub, n_leT, n_leF, n_ltT, n_ltF, n_eqT, n_eqF, n_shl1, n_shl, n_shr, nI_and, nI_or, nI_xor, b2i_z, b2i_o, m1_n, n_m1, m1_lt, m1_le, n_lm1, n_em1, nI_m1, and1, and3, and7, and15, and63, and255, Bool.true_eq_false, Bool.false_eq_true, reduceCtorEq, Nat.reduceAdd, Nat.reduceMul, Nat.reduceSub, Nat.reduceDiv, Nat.reduceMod, Nat.reducePow, Nat.zero_add, Nat.one_mul, eD4]
      have old : ∀ k, k < 103 + D1.1 → I4 k = I1 k := by
        intro k hk
        rw [f4 k (by show k ≠ 103 + (D1.1 + 1 + 1); omega), f3 k (by show k ≠ 103 + (D1.1 + 1); omega), f2 k (by omega)]
      have r2 : I4 (103 + D1.1) = I2 (103 + D1.1) := by rw [f4 _ (by show 103 + D1.1 ≠ 103 + (D1.1 + 1 + 1); omega), f3 _ (by show 103 + D1.1 ≠ 103 + (D1.1 + 1); omega)]
      have r3 : I4 (103 + (D1.1 + 1)) = I3 (103 + (D1.1 + 1)) := f4 _ (by show 103 + (D1.1 + 1) ≠ 103 + (D1.1 + 1 + 1); omega)
      refine P3 _ I4 L4 _ _ _ hD4 hR4 hG4' ?_ (fun j => by rw [old 29 (by omega)]; exact h29 j) ?_ ?_
      · refine ⟨?_, ?_, ?_, ?_, ⟨j2 + 1, by omega, ?_⟩, ?_, fun i hi => ?_, fun u hu => ?_⟩
        · rw [old 29 (by omega)]; exact c1'
        · rw [up1_n _ _ (show (2 : Nat) ≠ 4 by decide), up1_n _ _ (show (2 : Nat) ≠ 3 by decide), up1_s]; omega
        · rw [up1_n _ _ (show (3 : Nat) ≠ 4 by decide), up1_s, up1_n _ _ (show (2 : Nat) ≠ 4 by decide), up1_n _ _ (show (2 : Nat) ≠ 3 by decide), up1_s]
        · rw [up1_s, up1_n _ _ (show (2 : Nat) ≠ 4 by decide), up1_n _ _ (show (2 : Nat) ≠ 3 by decide), up1_s]
        · rw [up1_n _ _ (show (2 : Nat) ≠ 4 by decide), up1_n _ _ (show (2 : Nat) ≠ 3 by decide), up1_s]; exact hpw2
        · rw [up1_n _ _ (show (1 : Nat) ≠ 4 by decide), up1_n _ _ (show (1 : Nat) ≠ 3 by decide), up1_n _ _ (show (1 : Nat) ≠ 2 by decide)]; exact c6
        · obtain ⟨g1, g2, g3, g4⟩ := c7 i hi
          rw [up1_n _ _ (show (2 : Nat) ≠ 4 by decide), up1_n _ _ (show (2 : Nat) ≠ 3 by decide), up1_s, up1_n _ _ (show (1 : Nat) ≠ 4 by decide), up1_n _ _ (show (1 : Nat) ≠ 3 by decide), up1_n _ _ (show (1 : Nat) ≠ 2 by decide), up1_s, up1_n _ _ (show (3 : Nat) ≠ 4 by decide), up1_s]
          refine ⟨?_, g2, ?_, fun h0 => ?_⟩
          · rw [r2, v2 i (by omega) (by omega)]; exact g1
          · rw [v4 i (by omega) (by omega), f3 _ (by show ky1 4 ≠ 103 + (D1.1 + 1); omega), f2 _ (by omega)]; exact g3
          · show I4 (103 + (D1.1 + 1)) i = _
            rw [r3]
            have := v3 i (by omega) (by omega)
            rw [show 103 + (dGr D1 2 (bN s * 2)).1 = 103 + (D1.1 + 1) from rfl] at this
            rw [this, f2 _ (by omega)]; exact g4 h0
        · rw [up1_n _ _ (show (1 : Nat) ≠ 4 by decide), up1_n _ _ (show (1 : Nat) ≠ 3 by decide), up1_n _ _ (show (1 : Nat) ≠ 2 by decide)] at hu ⊢
          rw [old _ k1]
          exact c8 u hu
      · rw [up1_n _ _ (show (1 : Nat) ≠ 4 by decide), up1_n _ _ (show (1 : Nat) ≠ 3 by decide), up1_n _ _ (show (1 : Nat) ≠ 2 by decide)]; exact ht1
      · rw [up1_n _ _ (show (2 : Nat) ≠ 4 by decide), up1_n _ _ (show (2 : Nat) ≠ 3 by decide), up1_s]; omega
  -- what was seen grows
  obtain ⟨p1, q1, o1, y1, x1, g1, b1⟩ := hD 1 (by omega) (by omega)
  have p1' : pF D 29 10 = some (ky 1) := p1
  have hS' := hS
  obtain ⟨c1', c2, c3, c4, c5, ⟨j1, c6, c6'⟩, c7, c8⟩ := hS
  have hl15 := pw_le15 c6
  by_cases hlt : t < ln 1
  · simp (disch := first | omega | exact c1_int _ | exact c1_none | exact c1_ref _ | exact isRf_ref _ | assumption | exact okRb _ | exact okN1 | exact okN0 | exact rfl) only [N_X6_add_0, N_X6_add_1, N_X6_add_4, N_X6_add_5, N_X6_add_7, N_X6_add_10, N_X6_add_11, N_X6_add_12, N_X6_add_13, N_X6_add_16, N_X6_add_17, N_X6_add_20, N_X6_add_21, N_X6_add_22, N_X6_add_25, N_X6_add_26, N_X6_add_29, N_X6_add_30, N_X6_add_31, N_X6_add_34, N_X6_add_38, N_X6_add_41, N_X6_add_42, N_X6_add_45, N_X6_add_46, N_X6_add_49, N_X6_add_50, N_X6_add_51, N_X6_add_54, N_X6_add_55, N_X6_add_58, N_X6_add_59, N_X6_add_60, N_X6_add_63, N_X6_add_66, N_X6_add_67, N_X6_add_68, N_X6_add_71, N_X6_add_72, N_X6_add_75, N_X6_add_76, N_X6_add_77, N_X6_add_80, N_X6_add_83, N_X6_add_84, N_X6_add_85, N_X6_add_88, N_X6_add_89, N_X6_add_92, N_X6_add_93, N_X6_add_94, N_X6_add_97, N_X6_add_101, N_X6_add_104, N_X6_add_105, N_X6_add_108, N_X6_add_109, N_X6_add_110, N_X6_add_111, N_X6_add_114, N_X6_add_115, N_X6_add_118, N_X6_add_119, N_X6_add_120, N_X6_add_121, N_X6_add_124, N_X6_add_125, N_X6_add_128, N_X6_add_129, N_X6_add_130, N_X6_add_131, N_X6_add_132, N_X6_add_135, N_X6_add_136, N_X6_add_137, N_X6_add_140, N_X6_add_141, N_X6_add_144, N_X6_add_145, N_X6_add_146, N_X6_add_149, N_X6_add_150, if_true, if_false, ite_true, ite_false, not_false_eq_true, not_true_eq_false, isRf_ref, isRf_null, c1_int, c1_ref, c1_null, c1_none, rfv_some, rfv_none, Ok_s, tl_some, tl_none, List.nil_append, b2i_n1, b2i_n0, ↓reduceIte, nI_add, pk_mul, pk_sub, n_leT, n_leF, n_ltT, n_ltF, n_eqT, n_eqF, n_shl1, n_shl, n_shr, nI_and, nI_or, nI_xor, b2i_z, b2i_o, m1_n, n_m1, m1_lt, m1_le, n_lm1, n_em1, nI_m1, and1, and3, and7, and15, and63, and255, Bool.true_eq_false, Bool.false_eq_true, reduceCtorEq, Nat.reduceAdd, Nat.reduceMul, Nat.reduceSub, Nat.reduceDiv, Nat.reduceMod, Nat.reducePow, Nat.zero_add, Nat.one_mul, p1']
    exact P2 D I L ow ky ln hD hR GX.rf hS' (fun _ => rfl) hlt
  · obtain ⟨k, k1, k2, k3, k4, hh⟩ := c_hobK (xs := xs) (Ln := Ln) (d := d) (D := D) (I := I) (L := L) (v := t) (by omega) ht
    have hkj : j1 ≤ k := pw_inj (by omega)
    have hpk := pw_lt hkj
    have hk15 := pw_le15 (show k + 1 ≤ 15 by omega)
    have hps : 2 ^ (k + 1) = 2 ^ k * 2 := Nat.pow_succ 2 k
    simp (disch := first | omega | exact c1_int _ | exact c1_none | exact c1_ref _ | exact isRf_ref _ | assumption | exact okRb _ | exact okN1 | exact okN0 | exact rfl) only [N_X6_add_0, N_X6_add_1, N_X6_add_4, N_X6_add_5, N_X6_add_7, N_X6_add_10, N_X6_add_11, N_X6_add_12, N_X6_add_13, N_X6_add_16, N_X6_add_17, N_X6_add_20, N_X6_add_21, N_X6_add_22, N_X6_add_25, N_X6_add_26, N_X6_add_29, N_X6_add_30, N_X6_add_31, N_X6_add_34, N_X6_add_38, N_X6_add_41, N_X6_add_42, N_X6_add_45, N_X6_add_46, N_X6_add_49, N_X6_add_50, N_X6_add_51, N_X6_add_54, N_X6_add_55, N_X6_add_58, N_X6_add_59, N_X6_add_60, N_X6_add_63, N_X6_add_66, N_X6_add_67, N_X6_add_68, N_X6_add_71, N_X6_add_72, N_X6_add_75, N_X6_add_76, N_X6_add_77, N_X6_add_80, N_X6_add_83, N_X6_add_84, N_X6_add_85, N_X6_add_88, N_X6_add_89, N_X6_add_92, N_X6_add_93, N_X6_add_94, N_X6_add_97, N_X6_add_101, N_X6_add_104, N_X6_add_105, N_X6_add_108, N_X6_add_109, N_X6_add_110, N_X6_add_111, N_X6_add_114, N_X6_add_115, N_X6_add_118, N_X6_add_119, N_X6_add_120, N_X6_add_121, N_X6_add_124, N_X6_add_125, N_X6_add_128, N_X6_add_129, N_X6_add_130, N_X6_add_131, N_X6_add_132, N_X6_add_135, N_X6_add_136, N_X6_add_137, N_X6_add_140, N_X6_add_141, N_X6_add_144, N_X6_add_145, N_X6_add_146, N_X6_add_149, N_X6_add_150, if_true, if_false, ite_true, ite_false, not_false_eq_true, not_true_eq_false, isRf_ref, isRf_null, c1_int, c1_ref, c1_null, c1_none, rfv_some, rfv_none, Ok_s, tl_some, tl_none, List.nil_append, b2i_n1, b2i_n0, ↓reduceIte, nI_add, pk_mul, pk_sub, n_leT, n_leF, n_ltT, n_ltF, n_eqT, n_eqF, n_shl1, n_shl, n_shr, nI_and, nI_or, nI_xor, b2i_z, b2i_o, m1_n, n_m1, m1_lt, m1_le, n_lm1, n_em1, nI_m1, and1, and3, and7, and15, and63, and255, Bool.true_eq_false, Bool.false_eq_true, reduceCtorEq, Nat.reduceAdd, Nat.reduceMul, Nat.reduceSub, Nat.reduceDiv, Nat.reduceMod, Nat.reducePow, Nat.zero_add, Nat.one_mul, p1', hh]
    refine Ok.mono (c_copyOf (d := d + 1) (n := ln 1) (m := 2 ^ k * 2) q1 (by omega) (by omega) (by omega)) ?_
    rintro _ ⟨I2, L2, rfl, f2, v2, v2'⟩
    obtain ⟨hD2, hR2, hG2⟩ := grow (i := 1) (n := 2 ^ k * 2) hD hR (by omega) (by omega) (by omega) f2
    have eD2 : dPut (dNew D (.inl (.int, 2 ^ k * 2)) (2 ^ k * 2)) 29 10 (103 + D.1) = dGr D 1 (2 ^ k * 2) := rfl
    simp (disch := first | omega | exact c1_int _ | exact c1_none | exact c1_ref _ | exact isRf_ref _ | assumption | exact okRb _ | exact okN1 | exact okN0 | exact rfl) only [N_X6_add_0, N_X6_add_1, N_X6_add_4, N_X6_add_5, N_X6_add_7, N_X6_add_10, N_X6_add_11, N_X6_add_12, N_X6_add_13, N_X6_add_16, N_X6_add_17, N_X6_add_20, N_X6_add_21, N_X6_add_22, N_X6_add_25, N_X6_add_26, N_X6_add_29, N_X6_add_30, N_X6_add_31, N_X6_add_34, N_X6_add_38, N_X6_add_41, N_X6_add_42, N_X6_add_45, N_X6_add_46, N_X6_add_49, N_X6_add_50, N_X6_add_51, N_X6_add_54, N_X6_add_55, N_X6_add_58, N_X6_add_59, N_X6_add_60, N_X6_add_63, N_X6_add_66, N_X6_add_67, N_X6_add_68, N_X6_add_71, N_X6_add_72, N_X6_add_75, N_X6_add_76, N_X6_add_77, N_X6_add_80, N_X6_add_83, N_X6_add_84, N_X6_add_85, N_X6_add_88, N_X6_add_89, N_X6_add_92, N_X6_add_93, N_X6_add_94, N_X6_add_97, N_X6_add_101, N_X6_add_104, N_X6_add_105, N_X6_add_108, N_X6_add_109, N_X6_add_110, N_X6_add_111, N_X6_add_114, N_X6_add_115, N_X6_add_118, N_X6_add_119, N_X6_add_120, N_X6_add_121, N_X6_add_124, N_X6_add_125, N_X6_add_128, N_X6_add_129, N_X6_add_130, N_X6_add_131, N_X6_add_132, N_X6_add_135, N_X6_add_136, N_X6_add_137, N_X6_add_140, N_X6_add_141, N_X6_add_144, N_X6_add_145, N_X6_add_146, N_X6_add_149, N_X6_add_150, if_true, if_false, ite_true, ite_false, not_false_eq_true, not_true_eq_false, isRf_ref, isRf_null, c1_int, c1_ref, c1_null, c1_none, rfv_some, rfv_none, Ok_s, tl_some, tl_none, List.nil_append, b2i_n1, b2i_n0, ↓reduceIte, nI_add, pk_mul, pk_sub, n_leT, n_leF, n_ltT, n_ltF, n_eqT, n_eqF, n_shl1, n_shl, n_shr, nI_and, nI_or, nI_xor, b2i_z, b2i_o, m1_n, n_m1, m1_lt, m1_le, n_lm1, n_em1, nI_m1, and1, and3, and7, and15, and63, and255, Bool.true_eq_false, Bool.false_eq_true, reduceCtorEq, Nat.reduceAdd, Nat.reduceMul, Nat.reduceSub, Nat.reduceDiv, Nat.reduceMod, Nat.reducePow, Nat.zero_add, Nat.one_mul, eD2]
    have z2 := (hD 2 (by omega) (by omega)).2.2.2.2.1
    have z3 := (hD 3 (by omega) (by omega)).2.2.2.2.1
    have z4 := (hD 4 (by omega) (by omega)).2.2.2.2.1
    refine P2 _ I2 L2 _ _ _ hD2 hR2 (hG2 1 4 (by omega) (by omega)) ?_ (fun j => by rw [f2 29 (by omega)]) (by rw [up1_s]; omega)
    refine ⟨?_, ?_, ?_, ?_, ?_, ⟨k + 1, by omega, ?_⟩, fun i hi => ?_, fun u hu => ?_⟩
    · rw [f2 29 (by omega)]; exact c1'
    · rw [up1_n _ _ (show (2 : Nat) ≠ 1 by decide)]; exact c2
    · rw [up1_n _ _ (show (2 : Nat) ≠ 1 by decide), up1_n _ _ (show (3 : Nat) ≠ 1 by decide)]; exact c3
    · rw [up1_n _ _ (show (2 : Nat) ≠ 1 by decide), up1_n _ _ (show (4 : Nat) ≠ 1 by decide)]; exact c4
    · rw [up1_n _ _ (show (2 : Nat) ≠ 1 by decide)]; exact c5
    · rw [up1_s]; omega
    · obtain ⟨g1, g2, g3, g4⟩ := c7 i hi
      rw [up1_n _ _ (show (2 : Nat) ≠ 1 by decide), up1_n _ _ (show (3 : Nat) ≠ 1 by decide), up1_n _ _ (show (4 : Nat) ≠ 1 by decide), up1_s, f2 _ (by omega), f2 _ (by omega), f2 _ (by omega)]
      exact ⟨g1, by omega, g3, g4⟩
    · rw [up1_s] at hu ⊢
      by_cases hu2 : u < ln 1
      · rw [v2 u hu2 hu]; exact c8 u hu2
      · rw [v2' u (by omega) hu, spo_0 (fun i hi e => by have := (c7 i hi).2.1; omega)]
end Pb1
