section Pc1
variable {xs : Nat → Int32} {Ln d : Nat} {D D' D'' : Dyn} {I I' I'' : Nat → Nat → Int32} {L : Nat → Nat → Int64} {w : Om} {Q : Res → Prop} {ow ow' ow'' ky ky' ky'' ln ln' ln'' a : Nat → Nat} {o be sr : Nat}
theorem c_begin {n : Nat} {q : Nat → Nat} {mi ro bg : Int32} (hL : LvO o be sr) (hD : DA D ow ky ln) (hE : LE I ky ln o be n q) : Ok (callD xs Ln (d + 1) 19 [.ref o, .int mi, .int ro, .int bg] (mkW D I L)) (fun r => ∃ I', r = (mkW D I' L, none) ∧ GX be (be + 5) o D I ow ky ln D I' ow ky ln ∧ LE I' ky ln o be 0 (fun _ => 0) ∧ I' o 0 = mi ∧ I' o 1 = ro ∧ I' o 2 = bg ∧ I' o 3 = I 23 0 ∧ I' o 4 = nI 0 ∧ I' o 6 = nI 0) := by
  obtain ⟨f1, f2, f3, hO, hsr, f6, f7, f8, f9, f10, f11, f12, f13, f14⟩ := hL.f
  obtain ⟨p0', q0', o0, y0, -, -, b0'⟩ := hD be (by omega) (by omega)
  obtain ⟨p1, q1, o1, y1, -, -, b1⟩ := hD (be + 1) (by omega) (by omega)
  have p0'' : pF D o 9 = some (ky be) := by have := f1 0 (by omega); rw [Nat.add_zero] at this; rw [this.1, this.2.1] at p0'; exact p0'
  have p1' : pF D o 10 = some (ky (be + 1)) := by have := f1 1 (by omega); rw [this.1, this.2.1] at p1; exact p1
  obtain ⟨c1, c2, c3, c4, c5, c6, c7, c8, c9, c10⟩ := hE
  have m0 := hD.st (i := be) (by omega) f6
  have n01 : ky be ≠ ky (be + 1) := hD.ne (by omega) (by omega) (by omega)
  have m23 := hD.st (i := be) (by omega) (ndy_lo (show 23 < 30 by omega))
  have o23 : (23 : Nat) ≠ o := by omega
  refine semG (lo := [some (.ref o), some (.int mi), some (.int ro), some (.int bg), none]) rfl rfl (Nat.le_of_ble_eq_true rfl) rfl (show G_X3_begin xs Ln _ 0 [some (.ref o), some (.int mi), some (.int ro), some (.int bg), none] [] _ _ from ?_)
  simp (disch := first | omega | exact c1_int _ | exact c1_none | exact c1_ref _ | exact isRf_ref _ | assumption | exact hO _ _ _ | exact ob23 _ _ _ | exact hsr _ | exact isRf_null | exact okRb _ | exact okN1 | exact okN0 | exact rfl) only [N_X3_begin_0, N_X3_begin_1, N_X3_begin_5, N_X3_begin_6, N_X3_begin_9, N_X3_begin_12, N_X3_begin_13, N_X3_begin_16, N_X3_begin_17, N_X3_begin_20, N_X3_begin_22, N_X3_begin_23, N_X3_begin_24, N_X3_begin_25, N_X3_begin_28, N_X3_begin_31, N_X3_begin_32, N_X3_begin_33, N_X3_begin_36, N_X3_begin_37, N_X3_begin_38, N_X3_begin_41, N_X3_begin_42, N_X3_begin_43, N_X3_begin_46, N_X3_begin_47, N_X3_begin_48, N_X3_begin_51, N_X3_begin_54, N_X3_begin_57, N_X3_begin_58, N_X3_begin_59, N_X3_begin_62, N_X3_begin_63, N_X3_begin_64, N_X3_begin_67, N_X3_begin_68, N_X3_begin_69, N_X3_begin_72, if_true, if_false, ite_true, ite_false, not_false_eq_true, not_true_eq_false, isRf_ref, isRf_null, c1_int, c1_ref, c1_null, c1_none, rfv_some, rfv_none, Ok_s, tl_some, tl_none, List.nil_append, b2i_n1, b2i_n0, ↓reduceIte, nI_add, pk_mul, pk_sub, n_leT, n_leF, n_ltT, n_ltF, n_eqT, n_eqF, n_shl1, n_shl, n_shr, nI_and, nI_or, nI_xor, b2i_z, b2i_o, m1_n, n_m1, m1_lt, m1_le, n_lm1, n_em1, nI_m1, and1, and3, and7, and15, and63, and255, Bool.true_eq_false, Bool.false_eq_true, reduceCtorEq, Nat.reduceAdd, Nat.reduceMul, Nat.reduceSub, Nat.reduceDiv, Nat.reduceMod, Nat.reducePow, Nat.zero_add, Nat.one_mul]
  refine Lp (n := n) (σ := Nat → Nat → Int32) (E := fun i J => G_X3_begin xs Ln (d) 3 [some (.ref o), some (.int mi), some (.int ro), some (.int bg), some (.int (nI i))] [] (mkW D J L) _) (Inv := fun i J => (∀ k, k ≠ ky be → J k = I k) ∧ ∀ t, t < ln be → (J (ky be) t = nI (spo (bsq n q) t) ∨ J (ky be) t = nI 0) ∧ ∀ i', i' < i → q i' = t → J (ky be) t = nI 0) ?_ ?_ 0 I (by omega) ⟨fun _ _ => rfl, fun t ht => ⟨Or.inl (c10 t ht), fun i' hi' => by omega⟩⟩
  · rintro J ⟨j1, j2⟩
    have e2 : J o 5 = nI n := by rw [j1 o m0]; exact c1
    have e23 : J 23 0 = I 23 0 := by rw [j1 23 m23]
    rw [N_X3_begin_3]
    simp (disch := first | omega | exact c1_int _ | exact c1_none | exact c1_ref _ | exact isRf_ref _ | assumption | exact hO _ _ _ | exact ob23 _ _ _ | exact hsr _ | exact isRf_null | exact okRb _ | exact okN1 | exact okN0 | exact rfl) only [N_X3_begin_0, N_X3_begin_1, N_X3_begin_5, N_X3_begin_6, N_X3_begin_9, N_X3_begin_12, N_X3_begin_13, N_X3_begin_16, N_X3_begin_17, N_X3_begin_20, N_X3_begin_22, N_X3_begin_23, N_X3_begin_24, N_X3_begin_25, N_X3_begin_28, N_X3_begin_31, N_X3_begin_32, N_X3_begin_33, N_X3_begin_36, N_X3_begin_37, N_X3_begin_38, N_X3_begin_41, N_X3_begin_42, N_X3_begin_43, N_X3_begin_46, N_X3_begin_47, N_X3_begin_48, N_X3_begin_51, N_X3_begin_54, N_X3_begin_57, N_X3_begin_58, N_X3_begin_59, N_X3_begin_62, N_X3_begin_63, N_X3_begin_64, N_X3_begin_67, N_X3_begin_68, N_X3_begin_69, N_X3_begin_72, if_true, if_false, ite_true, ite_false, not_false_eq_true, not_true_eq_false, isRf_ref, isRf_null, c1_int, c1_ref, c1_null, c1_none, rfv_some, rfv_none, Ok_s, tl_some, tl_none, List.nil_append, b2i_n1, b2i_n0, ↓reduceIte, nI_add, pk_mul, pk_sub, n_leT, n_leF, n_ltT, n_ltF, n_eqT, n_eqF, n_shl1, n_shl, n_shr, nI_and, nI_or, nI_xor, b2i_z, b2i_o, m1_n, n_m1, m1_lt, m1_le, n_lm1, n_em1, nI_m1, and1, and3, and7, and15, and63, and255, Bool.true_eq_false, Bool.false_eq_true, reduceCtorEq, Nat.reduceAdd, Nat.reduceMul, Nat.reduceSub, Nat.reduceDiv, Nat.reduceMod, Nat.reducePow, Nat.zero_add, Nat.one_mul, e2, f2, up2_k _ _ _ _ o23, e23]
    refine ⟨_, rfl, ?_, ?_, ?_, ?_, ?_, ?_, ?_, ?_⟩
    · refine GX.u (GX.u (GX.u (GX.u (GX.u (GX.u (GX.u ?_ (Or.inl rfl)) (Or.inl rfl)) (Or.inl rfl)) (Or.inl rfl)) (Or.inl rfl)) (Or.inl rfl)) (Or.inl rfl)
      refine ⟨Nat.le_refl _, fun _ _ => ⟨rfl, rfl⟩, fun _ _ _ _ => rfl, fun k _ _ hn => j1 k ?_, fun _ _ => ⟨rfl, rfl⟩⟩
      rintro rfl
      exact hn (by omega)
    · refine ⟨?_, by omega, c3, c4, c5, c6, c7, c8, fun i hi => absurd hi (Nat.not_lt_zero i), fun t ht => ?_⟩
      · rw [up2_j _ _ _ (by decide), up2_j _ _ _ (by decide), up2_j _ _ _ (by decide), up2_j _ _ _ (by decide), up2_j _ _ _ (by decide), up2_j _ _ _ (by decide), up2_s]
      · have hz : J (ky be) t = nI 0 := by
          rcases spo_c (bsq n q) t with ⟨h0, -⟩ | ⟨i, h1, h2, -⟩
          · rcases (j2 t ht).1 with h | h
            · rw [h, h0]
            · exact h
          · exact (j2 t ht).2 i h1 h2
        rw [up2_k _ _ _ _ m0.symm, up2_k _ _ _ _ m0.symm, up2_k _ _ _ _ m0.symm, up2_k _ _ _ _ m0.symm, up2_k _ _ _ _ m0.symm, up2_k _ _ _ _ m0.symm, up2_k _ _ _ _ m0.symm, hz]
        rfl
    · rw [up2_j _ _ _ (by decide), up2_j _ _ _ (by decide), up2_s]
    · rw [up2_j _ _ _ (by decide), up2_s]
    · rw [up2_s]
    · rw [up2_j _ _ _ (by decide), up2_j _ _ _ (by decide), up2_j _ _ _ (by decide), up2_s]
    · rw [up2_j _ _ _ (by decide), up2_j _ _ _ (by decide), up2_j _ _ _ (by decide), up2_j _ _ _ (by decide), up2_s]
    · rw [up2_j _ _ _ (by decide), up2_j _ _ _ (by decide), up2_j _ _ _ (by decide), up2_j _ _ _ (by decide), up2_j _ _ _ (by decide), up2_s]
  · rintro i J hi ⟨j1, j2⟩ ih
    have e2 : J o 5 = nI n := by rw [j1 o m0]; exact c1
    obtain ⟨g1, g2⟩ := c9 i hi
    have g1' : J (ky (be + 1)) i = nI (q i) := by rw [j1 _ n01.symm]; exact g1
    rw [N_X3_begin_3]
    simp (disch := first | omega | exact c1_int _ | exact c1_none | exact c1_ref _ | exact isRf_ref _ | assumption | exact hO _ _ _ | exact ob23 _ _ _ | exact hsr _ | exact isRf_null | exact okRb _ | exact okN1 | exact okN0 | exact rfl) only [N_X3_begin_0, N_X3_begin_1, N_X3_begin_5, N_X3_begin_6, N_X3_begin_9, N_X3_begin_12, N_X3_begin_13, N_X3_begin_16, N_X3_begin_17, N_X3_begin_20, N_X3_begin_22, N_X3_begin_23, N_X3_begin_24, N_X3_begin_25, N_X3_begin_28, N_X3_begin_31, N_X3_begin_32, N_X3_begin_33, N_X3_begin_36, N_X3_begin_37, N_X3_begin_38, N_X3_begin_41, N_X3_begin_42, N_X3_begin_43, N_X3_begin_46, N_X3_begin_47, N_X3_begin_48, N_X3_begin_51, N_X3_begin_54, N_X3_begin_57, N_X3_begin_58, N_X3_begin_59, N_X3_begin_62, N_X3_begin_63, N_X3_begin_64, N_X3_begin_67, N_X3_begin_68, N_X3_begin_69, N_X3_begin_72, if_true, if_false, ite_true, ite_false, not_false_eq_true, not_true_eq_false, isRf_ref, isRf_null, c1_int, c1_ref, c1_null, c1_none, rfv_some, rfv_none, Ok_s, tl_some, tl_none, List.nil_append, b2i_n1, b2i_n0, ↓reduceIte, nI_add, pk_mul, pk_sub, n_leT, n_leF, n_ltT, n_ltF, n_eqT, n_eqF, n_shl1, n_shl, n_shr, nI_and, nI_or, nI_xor, b2i_z, b2i_o, m1_n, n_m1, m1_lt, m1_le, n_lm1, n_em1, nI_m1, and1, and3, and7, and15, and63, and255, Bool.true_eq_false, Bool.false_eq_true, reduceCtorEq, Nat.reduceAdd, Nat.reduceMul, Nat.reduceSub, Nat.reduceDiv, Nat.reduceMod, Nat.reducePow, Nat.zero_add, Nat.one_mul, e2, p0'', p1', g1']
    refine ih (up2 J (ky be) (q i) (nI 0)) ⟨fun k hk => by rw [up2_ro _ _ _ hk]; exact j1 k hk, fun t ht => ?_⟩
    by_cases et : t = q i
    · subst et
      rw [up2_s]
      exact ⟨Or.inr rfl, fun _ _ _ => rfl⟩
    · rw [up2_j _ _ _ et]
      refine ⟨(j2 t ht).1, fun i' hi' he => ?_⟩
      by_cases ei : i' = i
      · subst ei; exact absurd he.symm et
      · exact (j2 t ht).2 i' (by omega) he
/-- the sights: k of them, sg -/
def SgR (I : Nat → Nat → Int32) (o sr k : Nat) (sg : Nat → Nat) : Prop := I o 4 = nI k ∧ k ≤ 4 ∧ ∀ c, c < k → I sr c = nI (sg c) ∧ sg c < 4096
theorem c_addSight {k s : Nat} {sg : Nat → Nat} (hL : LvO o be sr) (hS : SgR I o sr k sg) (hs : s < 4096) (hk : k < 4) : ∃ I', callD xs Ln (d + 1) 20 [.ref o, .int (nI s)] (mkW D I L) = some (mkW D I' L, none) ∧ (∀ k', k' ≠ o → k' ≠ sr → I' k' = I k') ∧ (∀ j, j ≠ 4 → I' o j = I o j) ∧ (if s = 0 then SgR I' o sr k sg else SgR I' o sr (k + 1) (up1 sg k s)) := by
  obtain ⟨f1, f2, f3, hO, hsr, f6, f7, f8, f9, f10, f11, f12, f13, f14⟩ := hL.f
  obtain ⟨s1, s2, s3⟩ := hS
  by_cases h0 : s = 0
  · refine ⟨I, ?_, fun _ _ _ => rfl, fun _ _ => rfl, by rw [if_pos h0]; exact ⟨s1, s2, s3⟩⟩
    refine Ok.eq ?_
    refine semG (lo := [some (.ref o), some (.int (nI s))]) rfl rfl (Nat.le_of_ble_eq_true rfl) rfl (show G_X3_addSight xs Ln _ 0 [some (.ref o), some (.int (nI s))] [] _ _ from ?_)
    simp (disch := first | omega | exact c1_int _ | exact c1_none | exact c1_ref _ | exact isRf_ref _ | assumption | exact hO _ _ _ | exact ob23 _ _ _ | exact hsr _ | exact isRf_null | exact okRb _ | exact okN1 | exact okN0 | exact rfl) only [N_X3_addSight_0, N_X3_addSight_1, N_X3_addSight_4, N_X3_addSight_5, N_X3_addSight_8, N_X3_addSight_9, N_X3_addSight_12, N_X3_addSight_13, N_X3_addSight_16, N_X3_addSight_17, N_X3_addSight_20, N_X3_addSight_21, N_X3_addSight_24, N_X3_addSight_25, N_X3_addSight_26, N_X3_addSight_27, N_X3_addSight_28, N_X3_addSight_31, N_X3_addSight_32, N_X3_addSight_33, N_X3_addSight_36, if_true, if_false, ite_true, ite_false, not_false_eq_true, not_true_eq_false, isRf_ref, isRf_null, c1_int, c1_ref, c1_null, c1_none, rfv_some, rfv_none, Ok_s, tl_some, tl_none, List.nil_append, b2i_n1, b2i_n0, ↓reduceIte, nI_add, pk_mul, pk_sub, n_leT, n_leF, n_ltT, n_ltF, n_eqT, n_eqF, n_shl1, n_shl, n_shr, nI_and, nI_or, nI_xor, b2i_z, b2i_o, m1_n, n_m1, m1_lt, m1_le, n_lm1, n_em1, nI_m1, and1, and3, and7, and15, and63, and255, Bool.true_eq_false, Bool.false_eq_true, reduceCtorEq, Nat.reduceAdd, Nat.reduceMul, Nat.reduceSub, Nat.reduceDiv, Nat.reduceMod, Nat.reducePow, Nat.zero_add, Nat.one_mul, h0]
  · refine ⟨up2 (up2 I sr k (nI s)) o 4 (nI (k + 1)), ?_, fun k' h1 h2 => by rw [up2_ro _ _ _ h1, up2_ro _ _ _ h2], fun j hj => by rw [up2_j _ _ _ hj, up2_ro _ _ _ f8], ?_⟩
    · refine Ok.eq ?_
      refine semG (lo := [some (.ref o), some (.int (nI s))]) rfl rfl (Nat.le_of_ble_eq_true rfl) rfl (show G_X3_addSight xs Ln _ 0 [some (.ref o), some (.int (nI s))] [] _ _ from ?_)
      simp (disch := first | omega | exact c1_int _ | exact c1_none | exact c1_ref _ | exact isRf_ref _ | assumption | exact hO _ _ _ | exact ob23 _ _ _ | exact hsr _ | exact isRf_null | exact okRb _ | exact okN1 | exact okN0 | exact rfl) only [N_X3_addSight_0, N_X3_addSight_1, N_X3_addSight_4, N_X3_addSight_5, N_X3_addSight_8, N_X3_addSight_9, N_X3_addSight_12, N_X3_addSight_13, N_X3_addSight_16, N_X3_addSight_17, N_X3_addSight_20, N_X3_addSight_21, N_X3_addSight_24, N_X3_addSight_25, N_X3_addSight_26, N_X3_addSight_27, N_X3_addSight_28, N_X3_addSight_31, N_X3_addSight_32, N_X3_addSight_33, N_X3_addSight_36, if_true, if_false, ite_true, ite_false, not_false_eq_true, not_true_eq_false, isRf_ref, isRf_null, c1_int, c1_ref, c1_null, c1_none, rfv_some, rfv_none, Ok_s, tl_some, tl_none, List.nil_append, b2i_n1, b2i_n0, ↓reduceIte, nI_add, pk_mul, pk_sub, n_leT, n_leF, n_ltT, n_ltF, n_eqT, n_eqF, n_shl1, n_shl, n_shr, nI_and, nI_or, nI_xor, b2i_z, b2i_o, m1_n, n_m1, m1_lt, m1_le, n_lm1, n_em1, nI_m1, and1, and3, and7, and15, and63, and255, Bool.true_eq_false, Bool.false_eq_true, reduceCtorEq, Nat.reduceAdd, Nat.reduceMul, Nat.reduceSub, Nat.reduceDiv, Nat.reduceMod, Nat.reducePow, Nat.zero_add, Nat.one_mul, f3, s1, up2_k _ _ _ _ f8]
    · rw [if_neg h0]
      refine ⟨up2_s _ _ _ _, by omega, fun c hc => ?_⟩
      rw [up2_k _ _ _ _ f8.symm]
      by_cases e : c = k
      · subst e; rw [up2_s, up1_s]; exact ⟨rfl, hs⟩
      · rw [up2_j _ _ _ e, up1_n _ _ e]; exact s3 c (by omega)
theorem inj_cnt {q : Nat → Nat} {N : Nat} : ∀ n, (∀ i j, i < n → j < n → q i = q j → i = j) → (∀ i, i < n → q i < N) → cntB (fun t => (lst (fun i => decide (q i = t)) n).isSome) N = n
  | 0, _, _ => by
    have : ∀ M, cntB (fun t => (lst (fun i => decide (q i = t)) 0).isSome) M = 0 := by
      intro M
      induction M with
      | zero => rfl
      | succ M ih => rw [cntB_s, ih]; rfl
    exact this N
  | n + 1, hd, hb => by
    have ih := inj_cnt n (fun i j hi hj h => hd i j (by omega) (by omega) h) (fun i hi => hb i (by omega))
    have hs : ∀ t, lst (fun i => decide (q i = t)) (n + 1) = (match lst (fun i => decide (q i = t)) n with
      | some i => some i
      | none => if decide (q n = t) = true then some n else none) := fun t => rfl
    have hn : lst (fun i => decide (q i = q n)) n = none := (lst_n _ _).mpr (fun i hi => decide_eq_false (fun e => by have := hd i n (by omega) (by omega) e; omega))
    have := cntB_up (p := fun t => (lst (fun i => decide (q i = t)) n).isSome) (q := fun t => (lst (fun i => decide (q i = t)) (n + 1)).isSome) (t := q n) (by show _ = false; rw [hn]; rfl) (by show _ = true; rw [hs, hn]; simp) (by
      intro t ht
      show (lst (fun i => decide (q i = t)) (n + 1)).isSome = (lst (fun i => decide (q i = t)) n).isSome
      rw [hs, decide_eq_false (fun e => ht e.symm)]
      cases lst (fun i => decide (q i = t)) n <;> rfl) N (hb n (by omega))
    rw [this, ih]
theorem inj_le {q : Nat → Nat} {n N : Nat} (hd : ∀ i j, i < n → j < n → q i = q j → i = j) (hb : ∀ i, i < n → q i < N) : n ≤ N := by
  rw [← inj_cnt n hd hb]
  exact cntB_le _ _
/-- good stands -/
def QG (VV : Nat → Prop) (n : Nat) (q : Nat → Nat) : Prop := (∀ i j, i < n → j < n → q i = q j → i = j) ∧ ∀ i, i < n → VV (q i) ∧ 2 ≤ pcN (q i / 8) 12
def EX (n : Nat) (q : Nat → Nat) (n' : Nat) (q' : Nat → Nat) : Prop := n ≤ n' ∧ ∀ i, i < n → q' i = q i
theorem EX.tr {n n' n'' : Nat} {q q' q'' : Nat → Nat} (h : EX n q n' q') (h' : EX n' q' n'' q'') : EX n q n'' q'' := ⟨Nat.le_trans h.1 h'.1, fun i hi => by rw [h'.2 i (Nat.lt_of_lt_of_le hi h.1), h.2 i hi]⟩
/-- the part of what is behind that a sight shows -/
def prS (sg : Nat → Nat) (y c : Nat) : Nat := 8 * (y / 8 &&& sg c) + y % 8
theorem prS8 (sg : Nat → Nat) (y c : Nat) : prS sg y c / 8 = y / 8 &&& sg c := by unfold prS; omega
/-- an entering step: the rows, the stands -/
def LY (D : Dyn) (I : Nat → Nat → Int32) (ow ky ln : Nat → Nat) (o be z : Nat) (VV : Nat → Prop) (n : Nat) (q : Nat → Nat) (X : Wd6 × Nat × (Nat → Nat)) : Prop := LX D I ow ky ln o be z X.2.1 X.2.2 X.1 ∧ EX n q X.2.1 X.2.2 ∧ QG VV X.2.1 X.2.2
theorem c_enterP {n s e z : Nat} {q : Nat → Nat} {VV : Nat → Prop} {X0 : Wd6 × Nat × (Nat → Nat)} (hL : LvO o be sr) (hX : LY D I ow ky ln o be z VV n q X0) (hV32 : ∀ x, VV x → x < 32768) (hs : s < 4096) (he : e < 8) (hV : 2 ≤ pcN s 12 → VV (8 * s + e)) : Ok (callD xs Ln (d + 3) 21 [.ref o, .int (nI s), .int (nI e)] (mkW X0.1.1 X0.1.2.1 X0.1.2.2.1)) (fun r => ∃ X : Wd6 × Nat × (Nat → Nat), r = (mkW X.1.1 X.1.2.1 X.1.2.2.1, none) ∧ LY D I ow ky ln o be z VV n q X ∧ EX X0.2.1 X0.2.2 X.2.1 X.2.2 ∧ (2 ≤ pcN s 12 → ∃ i, i < X.2.1 ∧ X.2.2 i = 8 * s + e)) := by
  obtain ⟨⟨D1, I1, L1, ow1, ky1, ln1⟩, n1, q1⟩ := X0
  obtain ⟨⟨x1, x2, x3, x4, x5, x6⟩, y1, y2, y3⟩ := hX
  dsimp only at x1 x2 x3 x4 x5 x6 y1 y2 y3 ⊢
  refine Ok.mono (c_enter (d := d) (z := z) hL x1 x2 x4 x5 hs he ?_) ?_
  · intro h2 hno
    have := inj_le (q := up1 q1 n1 (8 * s + e)) (n := n1 + 1) (N := 32768) (by
        intro i j hi hj hq
        by_cases ei : i = n1
        · by_cases ej : j = n1
          · omega
          · rw [ei, up1_s, up1_n _ _ ej] at hq
            exact absurd hq.symm (hno j (by omega))
        · by_cases ej : j = n1
          · rw [ej, up1_s, up1_n _ _ ei] at hq
            exact absurd hq (hno i (by omega))
          · rw [up1_n _ _ ei, up1_n _ _ ej] at hq
            exact y2 i j (by omega) (by omega) hq) (by
        intro i hi
        by_cases ei : i = n1
        · rw [ei, up1_s]; exact hV32 _ (hV h2)
        · rw [up1_n _ _ ei]; exact hV32 _ (y3 i (by omega)).1)
    omega
  · rintro r ⟨X, n', q', rfl, hLX, e1, e2, e3, e4, e5⟩
    refine ⟨(X, n', q'), rfl, ⟨?_, y1.tr ⟨e1, e2⟩, e4 y2, fun i hi => ?_⟩, ⟨e1, e2⟩, e5⟩
    · obtain ⟨a1, a2, a3, a4, a5, a6⟩ := hLX
      exact ⟨a1, a2, x3.tr a3, a4, a5, fun j hj => by rw [a6 j hj]; exact x6 j hj⟩
    · by_cases hin : i < n1
      · show VV (q' i) ∧ 2 ≤ pcN (q' i / 8) 12
        rw [e2 i hin]; exact y3 i hin
      · have := e3 i (by omega) hi
        show VV (q' i) ∧ 2 ≤ pcN (q' i / 8) 12
        rw [this.1, show (8 * s + e) / 8 = s by omega]
        exact ⟨hV this.2, this.2⟩
theorem c_enterB {n z m k x : Nat} {q sg : Nat → Nat} {VV : Nat → Prop} {X0 : Wd6 × Nat × (Nat → Nat)} (hL : LvO o be sr) (hOw : OwS ow) (hM : MM ow D I a) (hm1 : 1 ≤ m) (hm : m ≤ 3) (h0 : I o 0 = nI m) (hS : SgR I o sr k sg) (hX : LY D I ow ky ln o be z VV n q X0) (hV : ∀ x, VV x → vSt a m x ∧ Rdy I a m (x % 8)) (hcl : ∀ x w y c, VV x → behA a m x w = some y → c < k → VV (prS sg y c)) (hx : VV x) : Ok (callD xs Ln (d + 4) 24 [.ref o, .int (nI x)] (mkW X0.1.1 X0.1.2.1 X0.1.2.2.1)) (fun r => ∃ X : Wd6 × Nat × (Nat → Nat), r = (mkW X.1.1 X.1.2.1 X.1.2.2.1, none) ∧ LY D I ow ky ln o be z VV n q X ∧ EX X0.2.1 X0.2.2 X.2.1 X.2.2 ∧ ∀ w, w < 8 → ∀ y, behA a m x w = some y → ∀ c, c < k → 2 ≤ pcN (y / 8 &&& sg c) 12 → ∃ i, i < X.2.1 ∧ X.2.2 i = prS sg y c) := by
  have hA := hM.2.1
  have hL' := hL
  obtain ⟨f1, f2, f3, hO, hsr, f6, f7, f8, f9, f10, f11, f12, f13, f14⟩ := hL.f
  have ho3 : o = 29 ∨ o = 34 ∨ o = 42 := by rcases hL with ⟨h, -⟩ | ⟨h, -⟩ <;> omega
  obtain ⟨vx1, vx2⟩ := hV x hx
  have hx32 := vx1.1
  refine semG (lo := [some (.ref o), some (.int (nI x)), none, none, none]) rfl rfl (Nat.le_of_ble_eq_true rfl) rfl (show G_X3_enterBehind xs Ln _ 0 [some (.ref o), some (.int (nI x)), none, none, none] [] _ _ from ?_)
  simp (disch := first | omega | exact c1_int _ | exact c1_none | exact c1_ref _ | exact isRf_ref _ | assumption | exact hO _ _ _ | exact ob23 _ _ _ | exact hsr _ | exact isRf_null | exact okRb _ | exact okN1 | exact okN0 | exact rfl) only [N_X3_enterBehind_0, N_X3_enterBehind_1, N_X3_enterBehind_3, N_X3_enterBehind_5, N_X3_enterBehind_8, N_X3_enterBehind_9, N_X3_enterBehind_12, N_X3_enterBehind_13, N_X3_enterBehind_16, N_X3_enterBehind_17, N_X3_enterBehind_18, N_X3_enterBehind_21, N_X3_enterBehind_22, N_X3_enterBehind_23, N_X3_enterBehind_27, N_X3_enterBehind_28, N_X3_enterBehind_31, N_X3_enterBehind_34, N_X3_enterBehind_35, N_X3_enterBehind_36, N_X3_enterBehind_39, N_X3_enterBehind_40, N_X3_enterBehind_41, N_X3_enterBehind_43, N_X3_enterBehind_44, N_X3_enterBehind_45, N_X3_enterBehind_48, N_X3_enterBehind_50, N_X3_enterBehind_51, N_X3_enterBehind_52, N_X3_enterBehind_53, N_X3_enterBehind_55, N_X3_enterBehind_56, N_X3_enterBehind_59, N_X3_enterBehind_62, N_X3_enterBehind_65, N_X3_enterBehind_68, N_X3_enterBehind_71, if_true, if_false, ite_true, ite_false, not_false_eq_true, not_true_eq_false, isRf_ref, isRf_null, c1_int, c1_ref, c1_null, c1_none, rfv_some, rfv_none, Ok_s, tl_some, tl_none, List.nil_append, b2i_n1, b2i_n0, ↓reduceIte, nI_add, pk_mul, pk_sub, n_leT, n_leF, n_ltT, n_ltF, n_eqT, n_eqF, n_shl1, n_shl, n_shr, nI_and, nI_or, nI_xor, b2i_z, b2i_o, m1_n, n_m1, m1_lt, m1_le, n_lm1, n_em1, nI_m1, and1, and3, and7, and15, and63, and255, Bool.true_eq_false, Bool.false_eq_true, reduceCtorEq, Nat.reduceAdd, Nat.reduceMul, Nat.reduceSub, Nat.reduceDiv, Nat.reduceMod, Nat.reducePow, Nat.zero_add, Nat.one_mul]
  refine Lp (n := 8) (σ := Wd6 × Nat × (Nat → Nat)) (E := fun wd X => ∀ u3 u4, G_X3_enterBehind xs Ln (d + 3) 2 [some (.ref o), some (.int (nI x)), some (.int (nI wd)), u3, u4] [] (mkW X.1.1 X.1.2.1 X.1.2.2.1) _) (Inv := fun wd X => LY D I ow ky ln o be z VV n q X ∧ EX X0.2.1 X0.2.2 X.2.1 X.2.2 ∧ ∀ w, w < wd → ∀ y, behA a m x w = some y → ∀ c, c < k → 2 ≤ pcN (y / 8 &&& sg c) 12 → ∃ i, i < X.2.1 ∧ X.2.2 i = prS sg y c) ?_ ?_ 0 X0 (by omega) ⟨hX, ⟨Nat.le_refl _, fun _ _ => rfl⟩, fun w hw => by omega⟩ none none
  · rintro X ⟨j1, j2, j3⟩ u3 u4
    rw [N_X3_enterBehind_2]
    simp (disch := first | omega | exact c1_int _ | exact c1_none | exact c1_ref _ | exact isRf_ref _ | assumption | exact hO _ _ _ | exact ob23 _ _ _ | exact hsr _ | exact isRf_null | exact okRb _ | exact okN1 | exact okN0 | exact rfl) only [N_X3_enterBehind_0, N_X3_enterBehind_1, N_X3_enterBehind_3, N_X3_enterBehind_5, N_X3_enterBehind_8, N_X3_enterBehind_9, N_X3_enterBehind_12, N_X3_enterBehind_13, N_X3_enterBehind_16, N_X3_enterBehind_17, N_X3_enterBehind_18, N_X3_enterBehind_21, N_X3_enterBehind_22, N_X3_enterBehind_23, N_X3_enterBehind_27, N_X3_enterBehind_28, N_X3_enterBehind_31, N_X3_enterBehind_34, N_X3_enterBehind_35, N_X3_enterBehind_36, N_X3_enterBehind_39, N_X3_enterBehind_40, N_X3_enterBehind_41, N_X3_enterBehind_43, N_X3_enterBehind_44, N_X3_enterBehind_45, N_X3_enterBehind_48, N_X3_enterBehind_50, N_X3_enterBehind_51, N_X3_enterBehind_52, N_X3_enterBehind_53, N_X3_enterBehind_55, N_X3_enterBehind_56, N_X3_enterBehind_59, N_X3_enterBehind_62, N_X3_enterBehind_65, N_X3_enterBehind_68, N_X3_enterBehind_71, if_true, if_false, ite_true, ite_false, not_false_eq_true, not_true_eq_false, isRf_ref, isRf_null, c1_int, c1_ref, c1_null, c1_none, rfv_some, rfv_none, Ok_s, tl_some, tl_none, List.nil_append, b2i_n1, b2i_n0, ↓reduceIte, nI_add, pk_mul, pk_sub, n_leT, n_leF, n_ltT, n_ltF, n_eqT, n_eqF, n_shl1, n_shl, n_shr, nI_and, nI_or, nI_xor, b2i_z, b2i_o, m1_n, n_m1, m1_lt, m1_le, n_lm1, n_em1, nI_m1, and1, and3, and7, and15, and63, and255, Bool.true_eq_false, Bool.false_eq_true, reduceCtorEq, Nat.reduceAdd, Nat.reduceMul, Nat.reduceSub, Nat.reduceDiv, Nat.reduceMod, Nat.reducePow, Nat.zero_add, Nat.one_mul]
    exact ⟨X, rfl, j1, j2, j3⟩
  · rintro wd ⟨⟨D1, I1, L1, ow1, ky1, ln1⟩, n1, q1⟩ hwd ⟨j1, j2, j3⟩ ih u3 u4
    have jG := j1.1.2.2.1
    have jo := j1.1.2.2.2.2.2
    dsimp only at j2 j3 jG jo ⊢
    have hM1 := jG.mm hOw (by omega) (by omega) ho3 hM
    have e0 : I1 o 0 = nI m := by rw [jo 0 (by decide)]; exact h0
    have hsb := c_standR (xs := xs) (Ln := Ln) (d := d + 1) (D := D1) (I := I1) (L := L1) (m := m) (st := x) (wd := wd) hM1.1 hA hm1 hm vx1 hwd (jG.rdy hOw (by omega) (by omega) ho3 vx2)
    rw [N_X3_enterBehind_2]
    simp (disch := first | omega | exact c1_int _ | exact c1_none | exact c1_ref _ | exact isRf_ref _ | assumption | exact hO _ _ _ | exact ob23 _ _ _ | exact hsr _ | exact isRf_null | exact okRb _ | exact okN1 | exact okN0 | exact rfl) only [N_X3_enterBehind_0, N_X3_enterBehind_1, N_X3_enterBehind_3, N_X3_enterBehind_5, N_X3_enterBehind_8, N_X3_enterBehind_9, N_X3_enterBehind_12, N_X3_enterBehind_13, N_X3_enterBehind_16, N_X3_enterBehind_17, N_X3_enterBehind_18, N_X3_enterBehind_21, N_X3_enterBehind_22, N_X3_enterBehind_23, N_X3_enterBehind_27, N_X3_enterBehind_28, N_X3_enterBehind_31, N_X3_enterBehind_34, N_X3_enterBehind_35, N_X3_enterBehind_36, N_X3_enterBehind_39, N_X3_enterBehind_40, N_X3_enterBehind_41, N_X3_enterBehind_43, N_X3_enterBehind_44, N_X3_enterBehind_45, N_X3_enterBehind_48, N_X3_enterBehind_50, N_X3_enterBehind_51, N_X3_enterBehind_52, N_X3_enterBehind_53, N_X3_enterBehind_55, N_X3_enterBehind_56, N_X3_enterBehind_59, N_X3_enterBehind_62, N_X3_enterBehind_65, N_X3_enterBehind_68, N_X3_enterBehind_71, if_true, if_false, ite_true, ite_false, not_false_eq_true, not_true_eq_false, isRf_ref, isRf_null, c1_int, c1_ref, c1_null, c1_none, rfv_some, rfv_none, Ok_s, tl_some, tl_none, List.nil_append, b2i_n1, b2i_n0, ↓reduceIte, nI_add, pk_mul, pk_sub, n_leT, n_leF, n_ltT, n_ltF, n_eqT, n_eqF, n_shl1, n_shl, n_shr, nI_and, nI_or, nI_xor, b2i_z, b2i_o, m1_n, n_m1, m1_lt, m1_le, n_lm1, n_em1, nI_m1, and1, and3, and7, and15, and63, and255, Bool.true_eq_false, Bool.false_eq_true, reduceCtorEq, Nat.reduceAdd, Nat.reduceMul, Nat.reduceSub, Nat.reduceDiv, Nat.reduceMod, Nat.reducePow, Nat.zero_add, Nat.one_mul, f2, e0, hsb]
    cases hb : behA a m x wd with
    | none =>
      have e4 : I1 o 4 = nI k := by rw [jo 4 (by decide)]; exact hS.1
      have hk4 := hS.2.1
      have em : (m1 = m1) = True := eq_true rfl
      rw [nO_n, N_X3_enterBehind_25]
      by_cases hk0 : k = 0
      · rw [hk0] at e4
        simp (disch := first | omega | exact c1_int _ | exact c1_none | exact c1_ref _ | exact isRf_ref _ | assumption | exact hO _ _ _ | exact ob23 _ _ _ | exact hsr _ | exact isRf_null | exact okRb _ | exact okN1 | exact okN0 | exact rfl) only [N_X3_enterBehind_0, N_X3_enterBehind_1, N_X3_enterBehind_3, N_X3_enterBehind_5, N_X3_enterBehind_8, N_X3_enterBehind_9, N_X3_enterBehind_12, N_X3_enterBehind_13, N_X3_enterBehind_16, N_X3_enterBehind_17, N_X3_enterBehind_18, N_X3_enterBehind_21, N_X3_enterBehind_22, N_X3_enterBehind_23, N_X3_enterBehind_27, N_X3_enterBehind_28, N_X3_enterBehind_31, N_X3_enterBehind_34, N_X3_enterBehind_35, N_X3_enterBehind_36, N_X3_enterBehind_39, N_X3_enterBehind_40, N_X3_enterBehind_41, N_X3_enterBehind_43, N_X3_enterBehind_44, N_X3_enterBehind_45, N_X3_enterBehind_48, N_X3_enterBehind_50, N_X3_enterBehind_51, N_X3_enterBehind_52, N_X3_enterBehind_53, N_X3_enterBehind_55, N_X3_enterBehind_56, N_X3_enterBehind_59, N_X3_enterBehind_62, N_X3_enterBehind_65, N_X3_enterBehind_68, N_X3_enterBehind_71, if_true, if_false, ite_true, ite_false, not_false_eq_true, not_true_eq_false, isRf_ref, isRf_null, c1_int, c1_ref, c1_null, c1_none, rfv_some, rfv_none, Ok_s, tl_some, tl_none, List.nil_append, b2i_n1, b2i_n0, ↓reduceIte, nI_add, pk_mul, pk_sub, n_leT, n_leF, n_ltT, n_ltF, n_eqT, n_eqF, n_shl1, n_shl, n_shr, nI_and, nI_or, nI_xor, b2i_z, b2i_o, m1_n, n_m1, m1_lt, m1_le, n_lm1, n_em1, nI_m1, and1, and3, and7, and15, and63, and255, Bool.true_eq_false, Bool.false_eq_true, reduceCtorEq, Nat.reduceAdd, Nat.reduceMul, Nat.reduceSub, Nat.reduceDiv, Nat.reduceMod, Nat.reducePow, Nat.zero_add, Nat.one_mul, e4]
        refine ih ((D1, I1, L1, ow1, ky1, ln1), n1, q1) ⟨j1, j2, fun w hw y hy c hc => by omega⟩ _ _
      · simp (disch := first | omega | exact c1_int _ | exact c1_none | exact c1_ref _ | exact isRf_ref _ | assumption | exact hO _ _ _ | exact ob23 _ _ _ | exact hsr _ | exact isRf_null | exact okRb _ | exact okN1 | exact okN0 | exact rfl) only [N_X3_enterBehind_0, N_X3_enterBehind_1, N_X3_enterBehind_3, N_X3_enterBehind_5, N_X3_enterBehind_8, N_X3_enterBehind_9, N_X3_enterBehind_12, N_X3_enterBehind_13, N_X3_enterBehind_16, N_X3_enterBehind_17, N_X3_enterBehind_18, N_X3_enterBehind_21, N_X3_enterBehind_22, N_X3_enterBehind_23, N_X3_enterBehind_27, N_X3_enterBehind_28, N_X3_enterBehind_31, N_X3_enterBehind_34, N_X3_enterBehind_35, N_X3_enterBehind_36, N_X3_enterBehind_39, N_X3_enterBehind_40, N_X3_enterBehind_41, N_X3_enterBehind_43, N_X3_enterBehind_44, N_X3_enterBehind_45, N_X3_enterBehind_48, N_X3_enterBehind_50, N_X3_enterBehind_51, N_X3_enterBehind_52, N_X3_enterBehind_53, N_X3_enterBehind_55, N_X3_enterBehind_56, N_X3_enterBehind_59, N_X3_enterBehind_62, N_X3_enterBehind_65, N_X3_enterBehind_68, N_X3_enterBehind_71, if_true, if_false, ite_true, ite_false, not_false_eq_true, not_true_eq_false, isRf_ref, isRf_null, c1_int, c1_ref, c1_null, c1_none, rfv_some, rfv_none, Ok_s, tl_some, tl_none, List.nil_append, b2i_n1, b2i_n0, ↓reduceIte, nI_add, pk_mul, pk_sub, n_leT, n_leF, n_ltT, n_ltF, n_eqT, n_eqF, n_shl1, n_shl, n_shr, nI_and, nI_or, nI_xor, b2i_z, b2i_o, m1_n, n_m1, m1_lt, m1_le, n_lm1, n_em1, nI_m1, and1, and3, and7, and15, and63, and255, Bool.true_eq_false, Bool.false_eq_true, reduceCtorEq, Nat.reduceAdd, Nat.reduceMul, Nat.reduceSub, Nat.reduceDiv, Nat.reduceMod, Nat.reducePow, Nat.zero_add, Nat.one_mul, e4, em]
        refine ih ((D1, I1, L1, ow1, ky1, ln1), n1, q1) ⟨j1, j2, fun w hw y hy c hc h2 => ?_⟩ _ _
        by_cases ew : w = wd
        · subst ew; rw [hb] at hy; cases hy
        · exact j3 w (by omega) y hy c hc h2
    | some y =>
      have hy32 := (beh_v hA hm1 hm vx1 hb).1.1
      rw [nO_s]
      refine Lp (n := k) (σ := Wd6 × Nat × (Nat → Nat)) (E := fun c X => G_X3_enterBehind xs Ln (d + 3) 25 [some (.ref o), some (.int (nI x)), some (.int (nI wd)), some (.int (nI y)), some (.int (nI c))] [] (mkW X.1.1 X.1.2.1 X.1.2.2.1) _) (Inv := fun c X => LY D I ow ky ln o be z VV n q X ∧ EX X0.2.1 X0.2.2 X.2.1 X.2.2 ∧ (∀ w, w < wd → ∀ y, behA a m x w = some y → ∀ c, c < k → 2 ≤ pcN (y / 8 &&& sg c) 12 → ∃ i, i < X.2.1 ∧ X.2.2 i = prS sg y c) ∧ ∀ c', c' < c → 2 ≤ pcN (y / 8 &&& sg c') 12 → ∃ i, i < X.2.1 ∧ X.2.2 i = prS sg y c') ?_ ?_ 0 ((D1, I1, L1, ow1, ky1, ln1), n1, q1) (by omega) ⟨j1, j2, j3, fun c' hc' => by omega⟩
      · rintro X ⟨g1, g2, g3, g4⟩
        have e4 : X.1.2.1 o 4 = nI k := by rw [g1.1.2.2.2.2.2 4 (by decide)]; exact hS.1
        have hk4 := hS.2.1
        rw [N_X3_enterBehind_25]
        simp (disch := first | omega | exact c1_int _ | exact c1_none | exact c1_ref _ | exact isRf_ref _ | assumption | exact hO _ _ _ | exact ob23 _ _ _ | exact hsr _ | exact isRf_null | exact okRb _ | exact okN1 | exact okN0 | exact rfl) only [N_X3_enterBehind_0, N_X3_enterBehind_1, N_X3_enterBehind_3, N_X3_enterBehind_5, N_X3_enterBehind_8, N_X3_enterBehind_9, N_X3_enterBehind_12, N_X3_enterBehind_13, N_X3_enterBehind_16, N_X3_enterBehind_17, N_X3_enterBehind_18, N_X3_enterBehind_21, N_X3_enterBehind_22, N_X3_enterBehind_23, N_X3_enterBehind_27, N_X3_enterBehind_28, N_X3_enterBehind_31, N_X3_enterBehind_34, N_X3_enterBehind_35, N_X3_enterBehind_36, N_X3_enterBehind_39, N_X3_enterBehind_40, N_X3_enterBehind_41, N_X3_enterBehind_43, N_X3_enterBehind_44, N_X3_enterBehind_45, N_X3_enterBehind_48, N_X3_enterBehind_50, N_X3_enterBehind_51, N_X3_enterBehind_52, N_X3_enterBehind_53, N_X3_enterBehind_55, N_X3_enterBehind_56, N_X3_enterBehind_59, N_X3_enterBehind_62, N_X3_enterBehind_65, N_X3_enterBehind_68, N_X3_enterBehind_71, if_true, if_false, ite_true, ite_false, not_false_eq_true, not_true_eq_false, isRf_ref, isRf_null, c1_int, c1_ref, c1_null, c1_none, rfv_some, rfv_none, Ok_s, tl_some, tl_none, List.nil_append, b2i_n1, b2i_n0, ↓reduceIte, nI_add, pk_mul, pk_sub, n_leT, n_leF, n_ltT, n_ltF, n_eqT, n_eqF, n_shl1, n_shl, n_shr, nI_and, nI_or, nI_xor, b2i_z, b2i_o, m1_n, n_m1, m1_lt, m1_le, n_lm1, n_em1, nI_m1, and1, and3, and7, and15, and63, and255, Bool.true_eq_false, Bool.false_eq_true, reduceCtorEq, Nat.reduceAdd, Nat.reduceMul, Nat.reduceSub, Nat.reduceDiv, Nat.reduceMod, Nat.reducePow, Nat.zero_add, Nat.one_mul, e4]
        refine ih X ⟨g1, g2, fun w hw y' hy' c hc h2 => ?_⟩ _ _
        by_cases ew : w = wd
        · subst ew
          rw [hb] at hy'
          cases hy'
          exact g4 c hc h2
        · exact g3 w (by omega) y' hy' c hc h2
      · rintro c X hc ⟨g1, g2, g3, g4⟩ ih2
        have e4 : X.1.2.1 o 4 = nI k := by rw [g1.1.2.2.2.2.2 4 (by decide)]; exact hS.1
        have hk4 := hS.2.1
        obtain ⟨s1, s2⟩ := hS.2.2 c hc
        have es : X.1.2.1 sr c = nI (sg c) := by rw [g1.1.2.2.1.i hOw (by omega) (by omega) f10 f7 f8.symm]; exact s1
        have hand : y / 8 &&& sg c < 4096 := Nat.lt_of_le_of_lt Nat.and_le_right s2
        rw [N_X3_enterBehind_25]
        simp (disch := first | omega | exact c1_int _ | exact c1_none | exact c1_ref _ | exact isRf_ref _ | assumption | exact hO _ _ _ | exact ob23 _ _ _ | exact hsr _ | exact isRf_null | exact okRb _ | exact okN1 | exact okN0 | exact rfl) only [N_X3_enterBehind_0, N_X3_enterBehind_1, N_X3_enterBehind_3, N_X3_enterBehind_5, N_X3_enterBehind_8, N_X3_enterBehind_9, N_X3_enterBehind_12, N_X3_enterBehind_13, N_X3_enterBehind_16, N_X3_enterBehind_17, N_X3_enterBehind_18, N_X3_enterBehind_21, N_X3_enterBehind_22, N_X3_enterBehind_23, N_X3_enterBehind_27, N_X3_enterBehind_28, N_X3_enterBehind_31, N_X3_enterBehind_34, N_X3_enterBehind_35, N_X3_enterBehind_36, N_X3_enterBehind_39, N_X3_enterBehind_40, N_X3_enterBehind_41, N_X3_enterBehind_43, N_X3_enterBehind_44, N_X3_enterBehind_45, N_X3_enterBehind_48, N_X3_enterBehind_50, N_X3_enterBehind_51, N_X3_enterBehind_52, N_X3_enterBehind_53, N_X3_enterBehind_55, N_X3_enterBehind_56, N_X3_enterBehind_59, N_X3_enterBehind_62, N_X3_enterBehind_65, N_X3_enterBehind_68, N_X3_enterBehind_71, if_true, if_false, ite_true, ite_false, not_false_eq_true, not_true_eq_false, isRf_ref, isRf_null, c1_int, c1_ref, c1_null, c1_none, rfv_some, rfv_none, Ok_s, tl_some, tl_none, List.nil_append, b2i_n1, b2i_n0, ↓reduceIte, nI_add, pk_mul, pk_sub, n_leT, n_leF, n_ltT, n_ltF, n_eqT, n_eqF, n_shl1, n_shl, n_shr, nI_and, nI_or, nI_xor, b2i_z, b2i_o, m1_n, n_m1, m1_lt, m1_le, n_lm1, n_em1, nI_m1, and1, and3, and7, and15, and63, and255, Bool.true_eq_false, Bool.false_eq_true, reduceCtorEq, Nat.reduceAdd, Nat.reduceMul, Nat.reduceSub, Nat.reduceDiv, Nat.reduceMod, Nat.reducePow, Nat.zero_add, Nat.one_mul, e4, f3, es]
        refine Ok.mono (c_enterP (d := d) (s := y / 8 &&& sg c) (e := y % 8) hL' g1 (fun x hx => (hV x hx).1.1) hand (by omega) (fun _ => hcl x wd y c hx hb hc)) ?_
        rintro _ ⟨X', rfl, h1, h2, h3⟩
        simp (disch := first | omega | exact c1_int _ | exact c1_none | exact c1_ref _ | exact isRf_ref _ | assumption | exact hO _ _ _ | exact ob23 _ _ _ | exact hsr _ | exact isRf_null | exact okRb _ | exact okN1 | exact okN0 | exact rfl) only [N_X3_enterBehind_0, N_X3_enterBehind_1, N_X3_enterBehind_3, N_X3_enterBehind_5, N_X3_enterBehind_8, N_X3_enterBehind_9, N_X3_enterBehind_12, N_X3_enterBehind_13, N_X3_enterBehind_16, N_X3_enterBehind_17, N_X3_enterBehind_18, N_X3_enterBehind_21, N_X3_enterBehind_22, N_X3_enterBehind_23, N_X3_enterBehind_27, N_X3_enterBehind_28, N_X3_enterBehind_31, N_X3_enterBehind_34, N_X3_enterBehind_35, N_X3_enterBehind_36, N_X3_enterBehind_39, N_X3_enterBehind_40, N_X3_enterBehind_41, N_X3_enterBehind_43, N_X3_enterBehind_44, N_X3_enterBehind_45, N_X3_enterBehind_48, N_X3_enterBehind_50, N_X3_enterBehind_51, N_X3_enterBehind_52, N_X3_enterBehind_53, N_X3_enterBehind_55, N_X3_enterBehind_56, N_X3_enterBehind_59, N_X3_enterBehind_62, N_X3_enterBehind_65, N_X3_enterBehind_68, N_X3_enterBehind_71, if_true, if_false, ite_true, ite_false, not_false_eq_true, not_true_eq_false, isRf_ref, isRf_null, c1_int, c1_ref, c1_null, c1_none, rfv_some, rfv_none, Ok_s, tl_some, tl_none, List.nil_append, b2i_n1, b2i_n0, ↓reduceIte, nI_add, pk_mul, pk_sub, n_leT, n_leF, n_ltT, n_ltF, n_eqT, n_eqF, n_shl1, n_shl, n_shr, nI_and, nI_or, nI_xor, b2i_z, b2i_o, m1_n, n_m1, m1_lt, m1_le, n_lm1, n_em1, nI_m1, and1, and3, and7, and15, and63, and255, Bool.true_eq_false, Bool.false_eq_true, reduceCtorEq, Nat.reduceAdd, Nat.reduceMul, Nat.reduceSub, Nat.reduceDiv, Nat.reduceMod, Nat.reducePow, Nat.zero_add, Nat.one_mul]
        have lift : ∀ t, (∃ i, i < X.2.1 ∧ X.2.2 i = t) → ∃ i, i < X'.2.1 ∧ X'.2.2 i = t := by
          rintro t ⟨i, i1, i2⟩
          exact ⟨i, Nat.lt_of_lt_of_le i1 h2.1, by rw [h2.2 i i1]; exact i2⟩
        refine ih2 X' ⟨h1, g2.tr h2, fun w hw y' hy' c' hc' h4 => lift _ (g3 w hw y' hy' c' hc' h4), fun c' hc' h4 => ?_⟩
        by_cases ec : c' = c
        · subst ec; exact h3 h4
        · exact lift _ (g4 c' (by omega) h4)
end Pc1
