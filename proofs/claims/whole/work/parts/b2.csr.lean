section Pb2
variable {xs : Nat → Int32} {Ln d : Nat} {D D' D'' : Dyn} {I I' I'' : Nat → Nat → Int32} {L : Nat → Nat → Int64} {w : Om} {Q : Res → Prop} {ow ow' ow'' ky ky' ky'' ln ln' ln'' a : Nat → Nat}
def e0 : Bs := (0, fun _ => 0, fun _ => none, fun _ => 0, fun _ => 0)
theorem c_clear {s : Bs} (hD : DA D ow ky ln) (hS : SS I ky ln s) : Ok (callD xs Ln (d + 1) 53 [.ref 29] (mkW D I L)) (fun q => ∃ I', q = (mkW D I' L, none) ∧ GX 1 4 29 D I ow ky ln D I' ow ky ln ∧ SS I' ky ln e0 ∧ I' 29 0 = m1 ∧ I' 29 1 = nI 0 ∧ I' 29 3 = m1 ∧ ∀ j, 3 < j → I' 29 j = I 29 j) := by
  obtain ⟨p1, q1, o1, y1, -, -, b1⟩ := hD 1 (by omega) (by omega)
  obtain ⟨p2, q2, o2, y2, -, -, b2⟩ := hD 2 (by omega) (by omega)
  have p1' : pF D 29 10 = some (ky 1) := p1
  have p2' : pF D 29 11 = some (ky 2) := p2
  obtain ⟨c1', c2, c3, c4, c5, c6, c7, c8⟩ := hS
  have n12 : ky 1 ≠ ky 2 := hD.ne (by omega) (by omega) (by omega)
  have m1' := hD.st (i := 1) (by omega) (ndy_lo (show 29 < 30 by omega))
  refine semG (lo := [some (.ref 29), none]) rfl rfl (Nat.le_of_ble_eq_true rfl) rfl (show G_X6_clear xs Ln _ 0 [some (.ref 29), none] [] _ _ from ?_)
  simp (disch := first | omega | exact c1_int _ | exact c1_none | exact c1_ref _ | exact isRf_ref _ | assumption | exact okRb _ | exact okN1 | exact okN0 | exact rfl) only [N_X6_clear_0, N_X6_clear_1, N_X6_clear_3, N_X6_clear_4, N_X6_clear_7, N_X6_clear_10, N_X6_clear_11, N_X6_clear_14, N_X6_clear_15, N_X6_clear_18, N_X6_clear_19, N_X6_clear_20, N_X6_clear_21, N_X6_clear_22, N_X6_clear_25, N_X6_clear_28, N_X6_clear_29, N_X6_clear_30, N_X6_clear_33, N_X6_clear_34, N_X6_clear_35, N_X6_clear_38, N_X6_clear_39, N_X6_clear_40, N_X6_clear_43, N_X6_clear_44, N_X6_clear_45, N_X6_clear_48, if_true, if_false, ite_true, ite_false, not_false_eq_true, not_true_eq_false, isRf_ref, isRf_null, c1_int, c1_ref, c1_null, c1_none, rfv_some, rfv_none, Ok_s, tl_some, tl_none, List.nil_append, b2i_n1, b2i_n0, ↓reduceIte, nI_add, pk_mul, pk_sub, n_leT, n_leF, n_ltT, n_ltF, n_eqT, n_eqF, n_shl1, n_shl, n_shr, nI_and, nI_or, nI_xor, b2i_z, b2i_o, m1_n, n_m1, m1_lt, m1_le, n_lm1, n_em1, nI_m1, and1, and3, and7, and15, and63, and255, Bool.true_eq_false, Bool.false_eq_true, reduceCtorEq, Nat.reduceAdd, Nat.reduceMul, Nat.reduceSub, Nat.reduceDiv, Nat.reduceMod, Nat.reducePow, Nat.zero_add, Nat.one_mul]
  refine Lp (n := bN s) (σ := Nat → Nat → Int32) (E := fun i J => G_X6_clear xs Ln (d) 2 [some (.ref 29), some (.int (nI i))] [] (mkW D J L) _) (Inv := fun i J => (∀ k, k ≠ ky 1 → J k = I k) ∧ ∀ t, t < ln 1 → (J (ky 1) t = nI (spo s t) ∨ J (ky 1) t = nI 0) ∧ ∀ i', i' < i → bQ s i' = t → J (ky 1) t = nI 0) ?_ ?_ 0 I (by omega) ⟨fun _ _ => rfl, fun t ht => ⟨Or.inl (c8 t ht), fun i' hi' => by omega⟩⟩
  · rintro J ⟨j1, j2⟩
    have e2 : J 29 2 = nI (bN s) := by rw [j1 29 m1']; exact c1'
    rw [N_X6_clear_2]
    simp (disch := first | omega | exact c1_int _ | exact c1_none | exact c1_ref _ | exact isRf_ref _ | assumption | exact okRb _ | exact okN1 | exact okN0 | exact rfl) only [N_X6_clear_0, N_X6_clear_1, N_X6_clear_3, N_X6_clear_4, N_X6_clear_7, N_X6_clear_10, N_X6_clear_11, N_X6_clear_14, N_X6_clear_15, N_X6_clear_18, N_X6_clear_19, N_X6_clear_20, N_X6_clear_21, N_X6_clear_22, N_X6_clear_25, N_X6_clear_28, N_X6_clear_29, N_X6_clear_30, N_X6_clear_33, N_X6_clear_34, N_X6_clear_35, N_X6_clear_38, N_X6_clear_39, N_X6_clear_40, N_X6_clear_43, N_X6_clear_44, N_X6_clear_45, N_X6_clear_48, if_true, if_false, ite_true, ite_false, not_false_eq_true, not_true_eq_false, isRf_ref, isRf_null, c1_int, c1_ref, c1_null, c1_none, rfv_some, rfv_none, Ok_s, tl_some, tl_none, List.nil_append, b2i_n1, b2i_n0, ↓reduceIte, nI_add, pk_mul, pk_sub, n_leT, n_leF, n_ltT, n_ltF, n_eqT, n_eqF, n_shl1, n_shl, n_shr, nI_and, nI_or, nI_xor, b2i_z, b2i_o, m1_n, n_m1, m1_lt, m1_le, n_lm1, n_em1, nI_m1, and1, and3, and7, and15, and63, and255, Bool.true_eq_false, Bool.false_eq_true, reduceCtorEq, Nat.reduceAdd, Nat.reduceMul, Nat.reduceSub, Nat.reduceDiv, Nat.reduceMod, Nat.reducePow, Nat.zero_add, Nat.one_mul, e2]
    refine ⟨_, rfl, ?_, ?_, ?_, ?_, ?_, ?_⟩
    · refine GX.u (GX.u (GX.u (GX.u ?_ (Or.inl rfl)) (Or.inl rfl)) (Or.inl rfl)) (Or.inl rfl)
      refine ⟨Nat.le_refl _, fun _ _ => ⟨rfl, rfl⟩, fun _ _ _ _ => rfl, fun k _ _ hn => j1 k ?_, fun _ _ => ⟨rfl, rfl⟩⟩
      rintro rfl
      exact hn (by omega)
    · refine ⟨?_, by show 0 ≤ _; omega, c3, c4, c5, c6, fun i hi => absurd hi (Nat.not_lt_zero i), fun t ht => ?_⟩
      · rw [up2_j _ _ _ (by decide), up2_j _ _ _ (by decide), up2_j _ _ _ (by decide), up2_s]; rfl
      · have hz : J (ky 1) t = nI 0 := by
          rcases spo_c s t with ⟨h0, -⟩ | ⟨i, h1, h2, -⟩
          · rcases (j2 t ht).1 with h | h
            · rw [h, h0]
            · exact h
          · exact (j2 t ht).2 i h1 h2
        rw [up2_k _ _ _ _ m1'.symm, up2_k _ _ _ _ m1'.symm, up2_k _ _ _ _ m1'.symm, up2_k _ _ _ _ m1'.symm, hz]
        rfl
    · rw [up2_j _ _ _ (by decide), up2_s]
    · rw [up2_s]
    · rw [up2_j _ _ _ (by decide), up2_j _ _ _ (by decide), up2_s]
    · intro j hj
      rw [up2_j _ _ _ (by omega), up2_j _ _ _ (by omega), up2_j _ _ _ (by omega), up2_j _ _ _ (by omega), j1 29 m1']
  · rintro i J hi ⟨j1, j2⟩ ih
    have e2 : J 29 2 = nI (bN s) := by rw [j1 29 m1']; exact c1'
    obtain ⟨g1, g2, -⟩ := c7 i hi
    have g1' : J (ky 2) i = nI (bQ s i) := by rw [j1 _ n12.symm]; exact g1
    have hpw : ∃ j, j ≤ 15 ∧ ln 2 = 2 ^ j := c5
    rw [N_X6_clear_2]
    simp (disch := first | omega | exact c1_int _ | exact c1_none | exact c1_ref _ | exact isRf_ref _ | assumption | exact okRb _ | exact okN1 | exact okN0 | exact rfl) only [N_X6_clear_0, N_X6_clear_1, N_X6_clear_3, N_X6_clear_4, N_X6_clear_7, N_X6_clear_10, N_X6_clear_11, N_X6_clear_14, N_X6_clear_15, N_X6_clear_18, N_X6_clear_19, N_X6_clear_20, N_X6_clear_21, N_X6_clear_22, N_X6_clear_25, N_X6_clear_28, N_X6_clear_29, N_X6_clear_30, N_X6_clear_33, N_X6_clear_34, N_X6_clear_35, N_X6_clear_38, N_X6_clear_39, N_X6_clear_40, N_X6_clear_43, N_X6_clear_44, N_X6_clear_45, N_X6_clear_48, if_true, if_false, ite_true, ite_false, not_false_eq_true, not_true_eq_false, isRf_ref, isRf_null, c1_int, c1_ref, c1_null, c1_none, rfv_some, rfv_none, Ok_s, tl_some, tl_none, List.nil_append, b2i_n1, b2i_n0, ↓reduceIte, nI_add, pk_mul, pk_sub, n_leT, n_leF, n_ltT, n_ltF, n_eqT, n_eqF, n_shl1, n_shl, n_shr, nI_and, nI_or, nI_xor, b2i_z, b2i_o, m1_n, n_m1, m1_lt, m1_le, n_lm1, n_em1, nI_m1, and1, and3, and7, and15, and63, and255, Bool.true_eq_false, Bool.false_eq_true, reduceCtorEq, Nat.reduceAdd, Nat.reduceMul, Nat.reduceSub, Nat.reduceDiv, Nat.reduceMod, Nat.reducePow, Nat.zero_add, Nat.one_mul, e2, p1', p2', g1']
    refine ih (up2 J (ky 1) (bQ s i) (nI 0)) ⟨fun k hk => by rw [up2_ro _ _ _ hk]; exact j1 k hk, fun t ht => ?_⟩
    by_cases et : t = bQ s i
    · subst et
      rw [up2_s]
      exact ⟨Or.inr rfl, fun _ _ _ => rfl⟩
    · rw [up2_j _ _ _ et]
      refine ⟨(j2 t ht).1, fun i' hi' he => ?_⟩
      by_cases ei : i' = i
      · subst ei; exact absurd he.symm et
      · exact (j2 t ht).2 i' (by omega) he
/-- an aim: none is an aim that no stand meets -/
def avI (v : Option (Option Nat)) : Int32 := match v with
  | none => m2
  | some t => nO t
def golB (m : Nat) (v : Option (Option Nat)) (st : Nat) : Bool := match v with
  | none => false
  | some t => golA m t st
theorem pw_i {i j : Nat} (h : 2 ^ i = 2 ^ j) : i = j := by
  have h1 : 2 ^ j < 2 ^ (j + 1) := Nat.pow_lt_pow_right (by decide) (by omega)
  have h2 : 2 ^ i < 2 ^ (i + 1) := Nat.pow_lt_pow_right (by decide) (by omega)
  have := pw_inj (show 2 ^ i < 2 ^ (j + 1) by omega)
  have := pw_inj (show 2 ^ j < 2 ^ (i + 1) by omega)
  omega
theorem tgr_iff {v p : Nat} : ∀ n i, tgr v i n = some p ↔ v = 2 ^ p ∧ i ≤ p ∧ p < i + n
  | 0, i => by
    simp only [tgr]
    constructor
    · intro h; cases h
    · rintro ⟨h1, h2, h3⟩; omega
  | n + 1, i => by
    unfold tgr
    by_cases h : v = 2 ^ i
    · rw [if_pos h]
      constructor
      · intro e
        cases e
        exact ⟨h, Nat.le_refl _, by omega⟩
      · rintro ⟨h1, h2, h3⟩
        rw [h] at h1
        rw [pw_i h1]
    · rw [if_neg h, tgr_iff n (i + 1)]
      constructor
      · rintro ⟨h1, h2, h3⟩
        exact ⟨h1, by omega, by omega⟩
      · rintro ⟨h1, h2, h3⟩
        refine ⟨h1, ?_, by omega⟩
        by_cases e : i = p
        · subst e; exact absurd h1 h
        · omega
theorem pc_a : ∀ i, i < 64 → ∀ j, j < 64 → decide (pcN (64 * i + j) 12 = 1) = (tgr (64 * i + j) 0 12).isSome := by decide +kernel
theorem pc_1 {v : Nat} (h : v < 4096) : decide (pcN v 12 = 1) = (tgr v 0 12).isSome := by
  have := pc_a (v / 64) (by omega) (v % 64) (by omega)
  rw [show 64 * (v / 64) + v % 64 = v by omega] at this
  exact this
theorem all3_lt {m s : Nat} (h : s < 4096) : all3 m s < 4096 := by
  unfold all3
  split
  · exact Nat.or_lt_two_pow (n := 12) (by omega) (by omega)
  · exact h
theorem golB_s {m s : Nat} {t : Option Nat} (h : s < 4096) (ht : ∀ q, t = some q → q < 12) (e : Nat) (he : e / 8 = s) : golA m t e = match t with
    | none => decide (pcN (all3 m s) 12 = 1)
    | some q => decide (all3 m s = 2 ^ q) := by
  unfold golA tog
  rw [he]
  cases t with
  | none =>
    show _ = decide (pcN (all3 m s) 12 = 1)
    rw [pc_1 (all3_lt h)]
    cases tgr (all3 m s) 0 12 <;> rfl
  | some q =>
    show _ = decide (all3 m s = 2 ^ q)
    have hq := ht q rfl
    cases hg : tgr (all3 m s) 0 12 with
    | none =>
      symm
      apply decide_eq_false
      intro e2
      rw [(tgr_iff 12 0).mpr ⟨e2, Nat.zero_le _, by omega⟩] at hg
      cases hg
    | some p =>
      have := (tgr_iff 12 0).mp hg
      show decide (p = q) = _
      by_cases e2 : p = q
      · subst e2; rw [decide_eq_true rfl, decide_eq_true this.1]
      · rw [decide_eq_false e2]
        symm
        apply decide_eq_false
        intro e3
        rw [e3] at this
        exact e2 (pw_i this.1).symm
theorem pcN12_lt (v : Nat) : pcN v 12 ≤ 12 := pcN_le v 12
theorem c_isTog {m x : Nat} {v : Option (Option Nat)} (hm1 : 1 ≤ m) (hm : m ≤ 3) (h4 : I 29 4 = nI m) (h6 : I 29 6 = avI v) (hv : ∀ q, v = some (some q) → q < 12) (hx : x < 32768) : callD xs Ln (d + 2) 55 [.ref 29, .int (nI (x / 8))] (mkW D I L) = some (mkW D I L, some (.int (b2i (golB m v x)))) := by
  have hx8 : x / 8 < 4096 := by omega
  have hal := all3_lt (m := m) hx8
  have hpc := pcN12_lt (all3 m (x / 8))
  refine Ok.eq ?_
  refine semG (lo := [some (.ref 29), some (.int (nI (x / 8))), none]) rfl rfl (Nat.le_of_ble_eq_true rfl) rfl (show G_X6_isTogether xs Ln _ 0 [some (.ref 29), some (.int (nI (x / 8))), none] [] _ _ from ?_)
  -- behind the bits
  have R : G_X6_isTogether xs Ln (d + 1) 22 [some (.ref 29), some (.int (nI (x / 8))), some (.int (nI (all3 m (x / 8))))] [] (mkW D I L) (fun q => q = (mkW D I L, some (.int (b2i (golB m v x))))) := by
    cases v with
    | none =>
      have h6' : I 29 6 = m2 := h6
      have e1 : (m2 = m1) = False := eq_false (by decide)
      have e2 : (m2 < nI 0) = True := eq_true (by decide)
      simp (disch := first | omega | exact c1_int _ | exact c1_none | exact c1_ref _ | exact isRf_ref _ | assumption | exact okRb _ | exact okN1 | exact okN0 | exact rfl) only [N_X6_isTogether_0, N_X6_isTogether_1, N_X6_isTogether_4, N_X6_isTogether_5, N_X6_isTogether_8, N_X6_isTogether_9, N_X6_isTogether_11, N_X6_isTogether_12, N_X6_isTogether_13, N_X6_isTogether_15, N_X6_isTogether_16, N_X6_isTogether_17, N_X6_isTogether_20, N_X6_isTogether_21, N_X6_isTogether_22, N_X6_isTogether_23, N_X6_isTogether_26, N_X6_isTogether_27, N_X6_isTogether_30, N_X6_isTogether_31, N_X6_isTogether_34, N_X6_isTogether_35, N_X6_isTogether_38, N_X6_isTogether_39, N_X6_isTogether_42, N_X6_isTogether_43, N_X6_isTogether_44, N_X6_isTogether_45, N_X6_isTogether_48, N_X6_isTogether_51, N_X6_isTogether_52, N_X6_isTogether_53, N_X6_isTogether_54, N_X6_isTogether_57, N_X6_isTogether_58, N_X6_isTogether_61, N_X6_isTogether_62, N_X6_isTogether_65, N_X6_isTogether_66, if_true, if_false, ite_true, ite_false, not_false_eq_true, not_true_eq_false, isRf_ref, isRf_null, c1_int, c1_ref, c1_null, c1_none, rfv_some, rfv_none, Ok_s, tl_some, tl_none, List.nil_append, b2i_n1, b2i_n0, ↓reduceIte, nI_add, pk_mul, pk_sub, n_leT, n_leF, n_ltT, n_ltF, n_eqT, n_eqF, n_shl1, n_shl, n_shr, nI_and, nI_or, nI_xor, b2i_z, b2i_o, m1_n, n_m1, m1_lt, m1_le, n_lm1, n_em1, nI_m1, and1, and3, and7, and15, and63, and255, Bool.true_eq_false, Bool.false_eq_true, reduceCtorEq, Nat.reduceAdd, Nat.reduceMul, Nat.reduceSub, Nat.reduceDiv, Nat.reduceMod, Nat.reducePow, Nat.zero_add, Nat.one_mul, h6', e1, e2]
      rfl
    | some t =>
      have hg := golB_s (m := m) (s := x / 8) (t := t) hx8 (fun q hq => hv q (by rw [hq])) x rfl
      show G_X6_isTogether xs Ln (d + 1) 22 _ _ _ (fun q => q = (mkW D I L, some (.int (b2i (golA m t x)))))
      rw [hg]
      cases t with
      | none =>
        have h6' : I 29 6 = m1 := h6
        have em : (m1 = m1) = True := eq_true rfl
        by_cases hp : pcN (all3 m (x / 8)) 12 = 1
        · simp (disch := first | omega | exact c1_int _ | exact c1_none | exact c1_ref _ | exact isRf_ref _ | assumption | exact okRb _ | exact okN1 | exact okN0 | exact rfl) only [N_X6_isTogether_0, N_X6_isTogether_1, N_X6_isTogether_4, N_X6_isTogether_5, N_X6_isTogether_8, N_X6_isTogether_9, N_X6_isTogether_11, N_X6_isTogether_12, N_X6_isTogether_13, N_X6_isTogether_15, N_X6_isTogether_16, N_X6_isTogether_17, N_X6_isTogether_20, N_X6_isTogether_21, N_X6_isTogether_22, N_X6_isTogether_23, N_X6_isTogether_26, N_X6_isTogether_27, N_X6_isTogether_30, N_X6_isTogether_31, N_X6_isTogether_34, N_X6_isTogether_35, N_X6_isTogether_38, N_X6_isTogether_39, N_X6_isTogether_42, N_X6_isTogether_43, N_X6_isTogether_44, N_X6_isTogether_45, N_X6_isTogether_48, N_X6_isTogether_51, N_X6_isTogether_52, N_X6_isTogether_53, N_X6_isTogether_54, N_X6_isTogether_57, N_X6_isTogether_58, N_X6_isTogether_61, N_X6_isTogether_62, N_X6_isTogether_65, N_X6_isTogether_66, if_true, if_false, ite_true, ite_false, not_false_eq_true, not_true_eq_false, isRf_ref, isRf_null, c1_int, c1_ref, c1_null, c1_none, rfv_some, rfv_none, Ok_s, tl_some, tl_none, List.nil_append, b2i_n1, b2i_n0, ↓reduceIte, nI_add, pk_mul, pk_sub, n_leT, n_leF, n_ltT, n_ltF, n_eqT, n_eqF, n_shl1, n_shl, n_shr, nI_and, nI_or, nI_xor, b2i_z, b2i_o, m1_n, n_m1, m1_lt, m1_le, n_lm1, n_em1, nI_m1, and1, and3, and7, and15, and63, and255, Bool.true_eq_false, Bool.false_eq_true, reduceCtorEq, Nat.reduceAdd, Nat.reduceMul, Nat.reduceSub, Nat.reduceDiv, Nat.reduceMod, Nat.reducePow, Nat.zero_add, Nat.one_mul, h6', em, c_bc, bc_n hal, hp, decide_true]
        · simp (disch := first | omega | exact c1_int _ | exact c1_none | exact c1_ref _ | exact isRf_ref _ | assumption | exact okRb _ | exact okN1 | exact okN0 | exact rfl) only [N_X6_isTogether_0, N_X6_isTogether_1, N_X6_isTogether_4, N_X6_isTogether_5, N_X6_isTogether_8, N_X6_isTogether_9, N_X6_isTogether_11, N_X6_isTogether_12, N_X6_isTogether_13, N_X6_isTogether_15, N_X6_isTogether_16, N_X6_isTogether_17, N_X6_isTogether_20, N_X6_isTogether_21, N_X6_isTogether_22, N_X6_isTogether_23, N_X6_isTogether_26, N_X6_isTogether_27, N_X6_isTogether_30, N_X6_isTogether_31, N_X6_isTogether_34, N_X6_isTogether_35, N_X6_isTogether_38, N_X6_isTogether_39, N_X6_isTogether_42, N_X6_isTogether_43, N_X6_isTogether_44, N_X6_isTogether_45, N_X6_isTogether_48, N_X6_isTogether_51, N_X6_isTogether_52, N_X6_isTogether_53, N_X6_isTogether_54, N_X6_isTogether_57, N_X6_isTogether_58, N_X6_isTogether_61, N_X6_isTogether_62, N_X6_isTogether_65, N_X6_isTogether_66, if_true, if_false, ite_true, ite_false, not_false_eq_true, not_true_eq_false, isRf_ref, isRf_null, c1_int, c1_ref, c1_null, c1_none, rfv_some, rfv_none, Ok_s, tl_some, tl_none, List.nil_append, b2i_n1, b2i_n0, ↓reduceIte, nI_add, pk_mul, pk_sub, n_leT, n_leF, n_ltT, n_ltF, n_eqT, n_eqF, n_shl1, n_shl, n_shr, nI_and, nI_or, nI_xor, b2i_z, b2i_o, m1_n, n_m1, m1_lt, m1_le, n_lm1, n_em1, nI_m1, and1, and3, and7, and15, and63, and255, Bool.true_eq_false, Bool.false_eq_true, reduceCtorEq, Nat.reduceAdd, Nat.reduceMul, Nat.reduceSub, Nat.reduceDiv, Nat.reduceMod, Nat.reducePow, Nat.zero_add, Nat.one_mul, h6', em, c_bc, bc_n hal, hp, decide_false]
      | some q =>
        have hq := hv q rfl
        have h6' : I 29 6 = nI q := h6
        have hpq : 2 ^ q < 2147483648 := by
          have : 2 ^ q < 2 ^ 31 := Nat.pow_lt_pow_right (by decide) (by omega)
          simpa using this
        by_cases hp : all3 m (x / 8) = 2 ^ q
        · simp (disch := first | omega | exact c1_int _ | exact c1_none | exact c1_ref _ | exact isRf_ref _ | assumption | exact okRb _ | exact okN1 | exact okN0 | exact rfl) only [N_X6_isTogether_0, N_X6_isTogether_1, N_X6_isTogether_4, N_X6_isTogether_5, N_X6_isTogether_8, N_X6_isTogether_9, N_X6_isTogether_11, N_X6_isTogether_12, N_X6_isTogether_13, N_X6_isTogether_15, N_X6_isTogether_16, N_X6_isTogether_17, N_X6_isTogether_20, N_X6_isTogether_21, N_X6_isTogether_22, N_X6_isTogether_23, N_X6_isTogether_26, N_X6_isTogether_27, N_X6_isTogether_30, N_X6_isTogether_31, N_X6_isTogether_34, N_X6_isTogether_35, N_X6_isTogether_38, N_X6_isTogether_39, N_X6_isTogether_42, N_X6_isTogether_43, N_X6_isTogether_44, N_X6_isTogether_45, N_X6_isTogether_48, N_X6_isTogether_51, N_X6_isTogether_52, N_X6_isTogether_53, N_X6_isTogether_54, N_X6_isTogether_57, N_X6_isTogether_58, N_X6_isTogether_61, N_X6_isTogether_62, N_X6_isTogether_65, N_X6_isTogether_66, if_true, if_false, ite_true, ite_false, not_false_eq_true, not_true_eq_false, isRf_ref, isRf_null, c1_int, c1_ref, c1_null, c1_none, rfv_some, rfv_none, Ok_s, tl_some, tl_none, List.nil_append, b2i_n1, b2i_n0, ↓reduceIte, nI_add, pk_mul, pk_sub, n_leT, n_leF, n_ltT, n_ltF, n_eqT, n_eqF, n_shl1, n_shl, n_shr, nI_and, nI_or, nI_xor, b2i_z, b2i_o, m1_n, n_m1, m1_lt, m1_le, n_lm1, n_em1, nI_m1, and1, and3, and7, and15, and63, and255, Bool.true_eq_false, Bool.false_eq_true, reduceCtorEq, Nat.reduceAdd, Nat.reduceMul, Nat.reduceSub, Nat.reduceDiv, Nat.reduceMod, Nat.reducePow, Nat.zero_add, Nat.one_mul, h6', hp, decide_true]
        · simp (disch := first | omega | exact c1_int _ | exact c1_none | exact c1_ref _ | exact isRf_ref _ | assumption | exact okRb _ | exact okN1 | exact okN0 | exact rfl) only [N_X6_isTogether_0, N_X6_isTogether_1, N_X6_isTogether_4, N_X6_isTogether_5, N_X6_isTogether_8, N_X6_isTogether_9, N_X6_isTogether_11, N_X6_isTogether_12, N_X6_isTogether_13, N_X6_isTogether_15, N_X6_isTogether_16, N_X6_isTogether_17, N_X6_isTogether_20, N_X6_isTogether_21, N_X6_isTogether_22, N_X6_isTogether_23, N_X6_isTogether_26, N_X6_isTogether_27, N_X6_isTogether_30, N_X6_isTogether_31, N_X6_isTogether_34, N_X6_isTogether_35, N_X6_isTogether_38, N_X6_isTogether_39, N_X6_isTogether_42, N_X6_isTogether_43, N_X6_isTogether_44, N_X6_isTogether_45, N_X6_isTogether_48, N_X6_isTogether_51, N_X6_isTogether_52, N_X6_isTogether_53, N_X6_isTogether_54, N_X6_isTogether_57, N_X6_isTogether_58, N_X6_isTogether_61, N_X6_isTogether_62, N_X6_isTogether_65, N_X6_isTogether_66, if_true, if_false, ite_true, ite_false, not_false_eq_true, not_true_eq_false, isRf_ref, isRf_null, c1_int, c1_ref, c1_null, c1_none, rfv_some, rfv_none, Ok_s, tl_some, tl_none, List.nil_append, b2i_n1, b2i_n0, ↓reduceIte, nI_add, pk_mul, pk_sub, n_leT, n_leF, n_ltT, n_ltF, n_eqT, n_eqF, n_shl1, n_shl, n_shr, nI_and, nI_or, nI_xor, b2i_z, b2i_o, m1_n, n_m1, m1_lt, m1_le, n_lm1, n_em1, nI_m1, and1, and3, and7, and15, and63, and255, Bool.true_eq_false, Bool.false_eq_true, reduceCtorEq, Nat.reduceAdd, Nat.reduceMul, Nat.reduceSub, Nat.reduceDiv, Nat.reduceMod, Nat.reducePow, Nat.zero_add, Nat.one_mul, h6', hp, decide_false]
  by_cases hm3 : m = 3
  · have ea : all3 m (x / 8) = x / 8 % 64 ||| x / 8 / 64 := by unfold all3; rw [if_pos hm3]
    rw [ea] at R
    subst hm3
    simp (disch := first | omega | exact c1_int _ | exact c1_none | exact c1_ref _ | exact isRf_ref _ | assumption | exact okRb _ | exact okN1 | exact okN0 | exact rfl) only [N_X6_isTogether_0, N_X6_isTogether_1, N_X6_isTogether_4, N_X6_isTogether_5, N_X6_isTogether_8, N_X6_isTogether_9, N_X6_isTogether_11, N_X6_isTogether_12, N_X6_isTogether_13, N_X6_isTogether_15, N_X6_isTogether_16, N_X6_isTogether_17, N_X6_isTogether_20, N_X6_isTogether_21, N_X6_isTogether_23, N_X6_isTogether_26, N_X6_isTogether_27, N_X6_isTogether_30, N_X6_isTogether_31, N_X6_isTogether_34, N_X6_isTogether_35, N_X6_isTogether_38, N_X6_isTogether_39, N_X6_isTogether_42, N_X6_isTogether_43, N_X6_isTogether_44, N_X6_isTogether_45, N_X6_isTogether_48, N_X6_isTogether_51, N_X6_isTogether_52, N_X6_isTogether_53, N_X6_isTogether_54, N_X6_isTogether_57, N_X6_isTogether_58, N_X6_isTogether_61, N_X6_isTogether_62, N_X6_isTogether_65, N_X6_isTogether_66, if_true, if_false, ite_true, ite_false, not_false_eq_true, not_true_eq_false, isRf_ref, isRf_null, c1_int, c1_ref, c1_null, c1_none, rfv_some, rfv_none, Ok_s, tl_some, tl_none, List.nil_append, b2i_n1, b2i_n0, ↓reduceIte, nI_add, pk_mul, pk_sub, n_leT, n_leF, n_ltT, n_ltF, n_eqT, n_eqF, n_shl1, n_shl, n_shr, nI_and, nI_or, nI_xor, b2i_z, b2i_o, m1_n, n_m1, m1_lt, m1_le, n_lm1, n_em1, nI_m1, and1, and3, and7, and15, and63, and255, Bool.true_eq_false, Bool.false_eq_true, reduceCtorEq, Nat.reduceAdd, Nat.reduceMul, Nat.reduceSub, Nat.reduceDiv, Nat.reduceMod, Nat.reducePow, Nat.zero_add, Nat.one_mul, h4]
    exact R
  · have ea : all3 m (x / 8) = x / 8 := by unfold all3; rw [if_neg hm3]
    rw [ea] at R
    simp (disch := first | omega | exact c1_int _ | exact c1_none | exact c1_ref _ | exact isRf_ref _ | assumption | exact okRb _ | exact okN1 | exact okN0 | exact rfl) only [N_X6_isTogether_0, N_X6_isTogether_1, N_X6_isTogether_4, N_X6_isTogether_5, N_X6_isTogether_8, N_X6_isTogether_9, N_X6_isTogether_11, N_X6_isTogether_12, N_X6_isTogether_13, N_X6_isTogether_15, N_X6_isTogether_16, N_X6_isTogether_17, N_X6_isTogether_20, N_X6_isTogether_21, N_X6_isTogether_23, N_X6_isTogether_26, N_X6_isTogether_27, N_X6_isTogether_30, N_X6_isTogether_31, N_X6_isTogether_34, N_X6_isTogether_35, N_X6_isTogether_38, N_X6_isTogether_39, N_X6_isTogether_42, N_X6_isTogether_43, N_X6_isTogether_44, N_X6_isTogether_45, N_X6_isTogether_48, N_X6_isTogether_51, N_X6_isTogether_52, N_X6_isTogether_53, N_X6_isTogether_54, N_X6_isTogether_57, N_X6_isTogether_58, N_X6_isTogether_61, N_X6_isTogether_62, N_X6_isTogether_65, N_X6_isTogether_66, if_true, if_false, ite_true, ite_false, not_false_eq_true, not_true_eq_false, isRf_ref, isRf_null, c1_int, c1_ref, c1_null, c1_none, rfv_some, rfv_none, Ok_s, tl_some, tl_none, List.nil_append, b2i_n1, b2i_n0, ↓reduceIte, nI_add, pk_mul, pk_sub, n_leT, n_leF, n_ltT, n_ltF, n_eqT, n_eqF, n_shl1, n_shl, n_shr, nI_and, nI_or, nI_xor, b2i_z, b2i_o, m1_n, n_m1, m1_lt, m1_le, n_lm1, n_em1, nI_m1, and1, and3, and7, and15, and63, and255, Bool.true_eq_false, Bool.false_eq_true, reduceCtorEq, Nat.reduceAdd, Nat.reduceMul, Nat.reduceSub, Nat.reduceDiv, Nat.reduceMod, Nat.reducePow, Nat.zero_add, Nat.one_mul, h4]
    exact R
theorem n_min {x y : Nat} (hx : x ≤ 1000000000) (hy : y ≤ 1000000000) : (if nI (x + y) < nI 1000000000 then nI (x + y) else nI 1000000000) = nI (addS x y) := by
  unfold addS
  by_cases h : x + y < 1000000000
  · rw [if_pos (by rw [n_lt (by omega) (by omega)]; exact h), if_neg (by omega)]
  · rw [if_neg (by rw [n_lt (by omega) (by omega)]; exact h)]
    by_cases e : 1000000000 < x + y
    · rw [if_pos e]
    · rw [if_neg e, show x + y = 1000000000 by omega]
/-- the rows of the goals from f to k -/
def wyC (s : Bs) (G : Nat → Bool) (f : Nat) : Nat → Nat
  | 0 => 0
  | k + 1 => if f ≤ k ∧ G (bQ s k) = true then addS (wyC s G f k) (bM s (bQ s k)) else wyC s G f k
theorem wyC_le (s : Bs) (G : Nat → Bool) (f : Nat) : ∀ k, wyC s G f k ≤ 1000000000
  | 0 => by show 0 ≤ _; omega
  | k + 1 => by
    unfold wyC
    split
    · exact addS_le _ _
    · exact wyC_le s G f k
theorem wyC_0 (s : Bs) (G : Nat → Bool) (f : Nat) : ∀ k, k ≤ f → wyC s G f k = 0
  | 0, _ => rfl
  | k + 1, h => by
    unfold wyC
    rw [if_neg (by omega)]
    exact wyC_0 s G f k (by omega)
theorem c_gather {m f : Nat} {v : Option (Option Nat)} {s : Bs} (hD : DA D ow ky ln) (hS : SS I ky ln s) (hm1 : 1 ≤ m) (hm : m ≤ 3) (h4 : I 29 4 = nI m) (h6 : I 29 6 = avI v) (hv : ∀ q, v = some (some q) → q < 12) (h3 : I 29 3 = m1) (h1 : I 29 1 = nI 0) (hf : f ≤ bN s) (hV : ∀ i, i < bN s → bQ s i < 32768) (hM : ∀ t, bM s t ≤ 1000000000) : Ok (callD xs Ln (d + 3) 54 [.ref 29, .int (nI f), .int (nI (bN s))] (mkW D I L)) (fun q => ∃ I', q = (mkW D I' L, none) ∧ (∀ k, k ≠ 29 → I' k = I k) ∧ (∀ j, j ≠ 1 → j ≠ 3 → I' 29 j = I 29 j) ∧ I' 29 3 = nO (lst (fun i => decide (f ≤ i) && golB m v (bQ s i)) (bN s)) ∧ I' 29 1 = nI (wyC s (golB m v) f (bN s))) := by
  obtain ⟨p2, q2, o2, y2, -, -, b2⟩ := hD 2 (by omega) (by omega)
  obtain ⟨p4, q4, o4, y4, -, -, b4⟩ := hD 4 (by omega) (by omega)
  have p2' : pF D 29 11 = some (ky 2) := p2
  have p4' : pF D 29 13 = some (ky 4) := p4
  have hN : bN s ≤ 262144 := by have := hS.2.1; omega
  obtain ⟨c1', c2, c3, c4, c5, c6, c7, c8⟩ := hS
  have d2 := hD.st (i := 2) (by omega) (ndy_lo (show 29 < 30 by omega))
  have d4 := hD.st (i := 4) (by omega) (ndy_lo (show 29 < 30 by omega))
  refine semG (lo := [some (.ref 29), some (.int (nI f)), some (.int (nI (bN s))), none]) rfl rfl (Nat.le_of_ble_eq_true rfl) rfl (show G_X6_gather xs Ln _ 0 [some (.ref 29), some (.int (nI f)), some (.int (nI (bN s))), none] [] _ _ from ?_)
  simp (disch := first | omega | exact c1_int _ | exact c1_none | exact c1_ref _ | exact isRf_ref _ | assumption | exact okRb _ | exact okN1 | exact okN0 | exact rfl) only [N_X6_gather_0, N_X6_gather_1, N_X6_gather_3, N_X6_gather_4, N_X6_gather_7, N_X6_gather_8, N_X6_gather_9, N_X6_gather_12, N_X6_gather_13, N_X6_gather_14, N_X6_gather_16, N_X6_gather_17, N_X6_gather_20, N_X6_gather_23, N_X6_gather_24, N_X6_gather_27, N_X6_gather_28, N_X6_gather_31, N_X6_gather_32, N_X6_gather_33, N_X6_gather_36, N_X6_gather_37, N_X6_gather_39, N_X6_gather_40, N_X6_gather_43, N_X6_gather_44, N_X6_gather_47, N_X6_gather_48, N_X6_gather_49, N_X6_gather_50, N_X6_gather_53, N_X6_gather_56, N_X6_gather_59, N_X6_gather_62, if_true, if_false, ite_true, ite_false, not_false_eq_true, not_true_eq_false, isRf_ref, isRf_null, c1_int, c1_ref, c1_null, c1_none, rfv_some, rfv_none, Ok_s, tl_some, tl_none, List.nil_append, b2i_n1, b2i_n0, ↓reduceIte, nI_add, pk_mul, pk_sub, n_leT, n_leF, n_ltT, n_ltF, n_eqT, n_eqF, n_shl1, n_shl, n_shr, nI_and, nI_or, nI_xor, b2i_z, b2i_o, m1_n, n_m1, m1_lt, m1_le, n_lm1, n_em1, nI_m1, and1, and3, and7, and15, and63, and255, Bool.true_eq_false, Bool.false_eq_true, reduceCtorEq, Nat.reduceAdd, Nat.reduceMul, Nat.reduceSub, Nat.reduceDiv, Nat.reduceMod, Nat.reducePow, Nat.zero_add, Nat.one_mul]
  refine Lp (n := bN s) (σ := Nat → Nat → Int32) (E := fun i J => f ≤ i → G_X6_gather xs Ln (d + 2) 2 [some (.ref 29), some (.int (nI f)), some (.int (nI (bN s))), some (.int (nI i))] [] (mkW D J L) _) (Inv := fun i J => (∀ k, k ≠ 29 → J k = I k) ∧ (∀ j, j ≠ 1 → j ≠ 3 → J 29 j = I 29 j) ∧ J 29 3 = nO (lst (fun i => decide (f ≤ i) && golB m v (bQ s i)) i) ∧ J 29 1 = nI (wyC s (golB m v) f i)) ?_ ?_ f I hf ⟨fun _ _ => rfl, fun _ _ _ => rfl, ?_, ?_⟩ (Nat.le_refl _)
  · rintro J ⟨j1, j2, j3, j4⟩ _
    rw [N_X6_gather_2]
    simp (disch := first | omega | exact c1_int _ | exact c1_none | exact c1_ref _ | exact isRf_ref _ | assumption | exact okRb _ | exact okN1 | exact okN0 | exact rfl) only [N_X6_gather_0, N_X6_gather_1, N_X6_gather_3, N_X6_gather_4, N_X6_gather_7, N_X6_gather_8, N_X6_gather_9, N_X6_gather_12, N_X6_gather_13, N_X6_gather_14, N_X6_gather_16, N_X6_gather_17, N_X6_gather_20, N_X6_gather_23, N_X6_gather_24, N_X6_gather_27, N_X6_gather_28, N_X6_gather_31, N_X6_gather_32, N_X6_gather_33, N_X6_gather_36, N_X6_gather_37, N_X6_gather_39, N_X6_gather_40, N_X6_gather_43, N_X6_gather_44, N_X6_gather_47, N_X6_gather_48, N_X6_gather_49, N_X6_gather_50, N_X6_gather_53, N_X6_gather_56, N_X6_gather_59, N_X6_gather_62, if_true, if_false, ite_true, ite_false, not_false_eq_true, not_true_eq_false, isRf_ref, isRf_null, c1_int, c1_ref, c1_null, c1_none, rfv_some, rfv_none, Ok_s, tl_some, tl_none, List.nil_append, b2i_n1, b2i_n0, ↓reduceIte, nI_add, pk_mul, pk_sub, n_leT, n_leF, n_ltT, n_ltF, n_eqT, n_eqF, n_shl1, n_shl, n_shr, nI_and, nI_or, nI_xor, b2i_z, b2i_o, m1_n, n_m1, m1_lt, m1_le, n_lm1, n_em1, nI_m1, and1, and3, and7, and15, and63, and255, Bool.true_eq_false, Bool.false_eq_true, reduceCtorEq, Nat.reduceAdd, Nat.reduceMul, Nat.reduceSub, Nat.reduceDiv, Nat.reduceMod, Nat.reducePow, Nat.zero_add, Nat.one_mul]
    exact ⟨_, rfl, j1, j2, j3, j4⟩
  · rintro i J hi ⟨j1, j2, j3, j4⟩ ih hfi
    obtain ⟨g1, g2, g3, -⟩ := c7 i hi
    have g1' : J (ky 2) i = nI (bQ s i) := by rw [j1 _ d2.symm]; exact g1
    have g3' : J (ky 4) i = nI (bM s (bQ s i)) := by rw [j1 _ d4.symm]; exact g3
    have hq := hV i hi
    have ht := c_isTog (xs := xs) (Ln := Ln) (d := d) (D := D) (I := J) (L := L) (x := bQ s i) hm1 hm (by rw [j2 4 (by decide) (by decide)]; exact h4) (by rw [j2 6 (by decide) (by decide)]; exact h6) hv hq
    have hle := wyC_le s (golB m v) f i
    have hMi := hM (bQ s i)
    have hmin := n_min hle hMi
    have hls : lst (fun i => decide (f ≤ i) && golB m v (bQ s i)) (i + 1) = (match lst (fun i => decide (f ≤ i) && golB m v (bQ s i)) i with
      | some j => some j
      | none => if (decide (f ≤ i) && golB m v (bQ s i)) = true then some i else none) := rfl
    rw [N_X6_gather_2]
    cases hg : golB m v (bQ s i)
    · rw [hg] at ht
      simp (disch := first | omega | exact c1_int _ | exact c1_none | exact c1_ref _ | exact isRf_ref _ | assumption | exact okRb _ | exact okN1 | exact okN0 | exact rfl) only [N_X6_gather_0, N_X6_gather_1, N_X6_gather_3, N_X6_gather_4, N_X6_gather_7, N_X6_gather_8, N_X6_gather_9, N_X6_gather_12, N_X6_gather_13, N_X6_gather_14, N_X6_gather_16, N_X6_gather_17, N_X6_gather_20, N_X6_gather_23, N_X6_gather_24, N_X6_gather_27, N_X6_gather_28, N_X6_gather_31, N_X6_gather_32, N_X6_gather_33, N_X6_gather_36, N_X6_gather_37, N_X6_gather_39, N_X6_gather_40, N_X6_gather_43, N_X6_gather_44, N_X6_gather_47, N_X6_gather_48, N_X6_gather_49, N_X6_gather_50, N_X6_gather_53, N_X6_gather_56, N_X6_gather_59, N_X6_gather_62, if_true, if_false, ite_true, ite_false, not_false_eq_true, not_true_eq_false, isRf_ref, isRf_null, c1_int, c1_ref, c1_null, c1_none, rfv_some, rfv_none, Ok_s, tl_some, tl_none, List.nil_append, b2i_n1, b2i_n0, ↓reduceIte, nI_add, pk_mul, pk_sub, n_leT, n_leF, n_ltT, n_ltF, n_eqT, n_eqF, n_shl1, n_shl, n_shr, nI_and, nI_or, nI_xor, b2i_z, b2i_o, m1_n, n_m1, m1_lt, m1_le, n_lm1, n_em1, nI_m1, and1, and3, and7, and15, and63, and255, Bool.true_eq_false, Bool.false_eq_true, reduceCtorEq, Nat.reduceAdd, Nat.reduceMul, Nat.reduceSub, Nat.reduceDiv, Nat.reduceMod, Nat.reducePow, Nat.zero_add, Nat.one_mul, p2', g1', ht]
      refine ih J ⟨j1, j2, ?_, ?_⟩ (by omega)
      · rw [hls, hg, Bool.and_false, j3]
        cases lst (fun i => decide (f ≤ i) && golB m v (bQ s i)) i <;> rfl
      · rw [j4]
        show _ = nI (if f ≤ i ∧ golB m v (bQ s i) = true then _ else _)
        rw [if_neg (by rw [hg]; simp)]
    · rw [hg] at ht
      have hwy : wyC s (golB m v) f (i + 1) = addS (wyC s (golB m v) f i) (bM s (bQ s i)) := by
        show (if f ≤ i ∧ golB m v (bQ s i) = true then _ else _) = _
        rw [if_pos ⟨hfi, hg⟩]
      cases hl : lst (fun i => decide (f ≤ i) && golB m v (bQ s i)) i with
      | none =>
        rw [hl] at j3
        have j3' : J 29 3 = m1 := j3
        have em : (m1 = m1) = True := eq_true rfl
        simp (disch := first | omega | exact c1_int _ | exact c1_none | exact c1_ref _ | exact isRf_ref _ | assumption | exact okRb _ | exact okN1 | exact okN0 | exact rfl) only [N_X6_gather_0, N_X6_gather_1, N_X6_gather_3, N_X6_gather_4, N_X6_gather_7, N_X6_gather_8, N_X6_gather_9, N_X6_gather_12, N_X6_gather_13, N_X6_gather_14, N_X6_gather_16, N_X6_gather_17, N_X6_gather_20, N_X6_gather_23, N_X6_gather_24, N_X6_gather_27, N_X6_gather_28, N_X6_gather_31, N_X6_gather_32, N_X6_gather_33, N_X6_gather_36, N_X6_gather_37, N_X6_gather_39, N_X6_gather_40, N_X6_gather_43, N_X6_gather_44, N_X6_gather_47, N_X6_gather_48, N_X6_gather_49, N_X6_gather_50, N_X6_gather_53, N_X6_gather_56, N_X6_gather_59, N_X6_gather_62, if_true, if_false, ite_true, ite_false, not_false_eq_true, not_true_eq_false, isRf_ref, isRf_null, c1_int, c1_ref, c1_null, c1_none, rfv_some, rfv_none, Ok_s, tl_some, tl_none, List.nil_append, b2i_n1, b2i_n0, ↓reduceIte, nI_add, pk_mul, pk_sub, n_leT, n_leF, n_ltT, n_ltF, n_eqT, n_eqF, n_shl1, n_shl, n_shr, nI_and, nI_or, nI_xor, b2i_z, b2i_o, m1_n, n_m1, m1_lt, m1_le, n_lm1, n_em1, nI_m1, and1, and3, and7, and15, and63, and255, Bool.true_eq_false, Bool.false_eq_true, reduceCtorEq, Nat.reduceAdd, Nat.reduceMul, Nat.reduceSub, Nat.reduceDiv, Nat.reduceMod, Nat.reducePow, Nat.zero_add, Nat.one_mul, p2', p4', g1', ht, j3', em, j4, up2_j _ _ _ (show (1 : Nat) ≠ 3 by decide), up2_k _ _ _ _ d4.symm, g3', hmin]
        refine ih _ ⟨fun k hk => ?_, fun j k1 k3 => ?_, ?_, ?_⟩ (by omega)
        · rw [up2_ro _ _ _ hk, up2_ro _ _ _ hk]; exact j1 k hk
        · rw [up2_j _ _ _ k1, up2_j _ _ _ k3]; exact j2 j k1 k3
        · rw [up2_j _ _ _ (by decide), up2_s, hls, hl, hg, decide_eq_true hfi]
          rfl
        · rw [up2_s, hwy]
      | some j =>
        rw [hl] at j3
        have hjl := (lst_s _ _ _).mp hl
        have j3' : J 29 3 = nI j := j3
        simp (disch := first | omega | exact c1_int _ | exact c1_none | exact c1_ref _ | exact isRf_ref _ | assumption | exact okRb _ | exact okN1 | exact okN0 | exact rfl) only [N_X6_gather_0, N_X6_gather_1, N_X6_gather_3, N_X6_gather_4, N_X6_gather_7, N_X6_gather_8, N_X6_gather_9, N_X6_gather_12, N_X6_gather_13, N_X6_gather_14, N_X6_gather_16, N_X6_gather_17, N_X6_gather_20, N_X6_gather_23, N_X6_gather_24, N_X6_gather_27, N_X6_gather_28, N_X6_gather_31, N_X6_gather_32, N_X6_gather_33, N_X6_gather_36, N_X6_gather_37, N_X6_gather_39, N_X6_gather_40, N_X6_gather_43, N_X6_gather_44, N_X6_gather_47, N_X6_gather_48, N_X6_gather_49, N_X6_gather_50, N_X6_gather_53, N_X6_gather_56, N_X6_gather_59, N_X6_gather_62, if_true, if_false, ite_true, ite_false, not_false_eq_true, not_true_eq_false, isRf_ref, isRf_null, c1_int, c1_ref, c1_null, c1_none, rfv_some, rfv_none, Ok_s, tl_some, tl_none, List.nil_append, b2i_n1, b2i_n0, ↓reduceIte, nI_add, pk_mul, pk_sub, n_leT, n_leF, n_ltT, n_ltF, n_eqT, n_eqF, n_shl1, n_shl, n_shr, nI_and, nI_or, nI_xor, b2i_z, b2i_o, m1_n, n_m1, m1_lt, m1_le, n_lm1, n_em1, nI_m1, and1, and3, and7, and15, and63, and255, Bool.true_eq_false, Bool.false_eq_true, reduceCtorEq, Nat.reduceAdd, Nat.reduceMul, Nat.reduceSub, Nat.reduceDiv, Nat.reduceMod, Nat.reducePow, Nat.zero_add, Nat.one_mul, p2', p4', g1', ht, j3', j4, g3', hmin]
        refine ih _ ⟨fun k hk => ?_, fun j k1 k3 => ?_, ?_, ?_⟩ (by omega)
        · rw [up2_ro _ _ _ hk]; exact j1 k hk
        · rw [up2_j _ _ _ k1]; exact j2 j k1 k3
        · rw [up2_j _ _ _ (by decide), hls, hl, j3']
          rfl
        · rw [up2_s, hwy]
  · rw [(lst_n _ _).mpr (fun i hi => by rw [decide_eq_false (by omega), Bool.false_and])]
    exact h3
  · rw [wyC_0 s _ f f (Nat.le_refl _)]
    exact h1
end Pb2
