section Pc6
variable {xs : Nat → Int32} {Ln d : Nat} {D D' D'' : Dyn} {I I' I'' : Nat → Nat → Int32} {L : Nat → Nat → Int64} {w : Om} {Q : Res → Prop} {ow ow' ow'' ky ky' ky'' ln ln' ln'' a : Nat → Nat} {o be sr : Nat}
/-- the level of a stand -/
noncomputable def glv (beh : Nat → Nat → Option Nat) (sg : Nat → Nat) (k x : Nat) : Option Nat := lst (fun N => gW beh sg k N x) bnd
/-- behind a word all is within b words -/
def okw (beh : Nat → Nat → Option Nat) (sg : Nat → Nat) (k b x w : Nat) : Bool := match beh x w with
  | none => false
  | some y => allN (fun c => decide (pcN (y / 8 &&& sg c) 12 = 0) || gW beh sg k b (prS sg y c)) k
noncomputable def fwd (beh : Nat → Nat → Option Nat) (sg : Nat → Nat) (k x : Nat) : Option Nat := match glv beh sg k x with
  | none => none
  | some 0 => none
  | some (b + 1) => lst (okw beh sg k b x) 8
theorem glv_1 {beh : Nat → Nat → Option Nat} {sg : Nat → Nat} {k x : Nat} (h : pcN (x / 8) 12 = 1) : glv beh sg k x = some 0 := by
  unfold glv
  refine (lst_s _ _ _).mpr ⟨by rw [bnd_e]; omega, decide_eq_true h, fun j hj => absurd hj (Nat.not_lt_zero j)⟩
section LFS
variable {beh : Nat → Nat → Option Nat} {sg : Nat → Nat} {k n : Nat} {q lev : Nat → Nat} {VV : Nat → Prop}
theorem LF.g (h : LF beh sg k I ky ln o be VV n q lev) {p : Nat} (hp : p < n) : (lev p = 0 → glv beh sg k (q p) = none) ∧ (lev p ≠ 0 → glv beh sg k (q p) = some (lev p)) ∧ lev p ≤ 32768 := by
  obtain ⟨h1, h2, h3, h4, h5, h6⟩ := h
  obtain ⟨g1, g2⟩ := h6 p hp
  refine ⟨fun h0 => (lst_n _ _).mpr (fun i _ => g1 h0 i), fun h0 => ?_, ?_⟩
  · obtain ⟨k1, k2, k3⟩ := g2 h0
    refine (lst_s _ _ _).mpr ⟨by rw [bnd_e]; omega, k1, fun j hj => ?_⟩
    cases hg : gW beh sg k j (q p) with
    | false => rfl
    | true =>
      have := gW_le hg (show j ≤ lev p - 1 by omega)
      rw [k2] at this
      cases this
  · by_cases h0 : lev p = 0
    · omega
    · have := (g2 h0).2.2; omega
/-- a stand whose level is known -/
def kwn (n : Nat) (q : Nat → Nat) (x : Nat) : Prop := pcN (x / 8) 12 = 1 ∨ ∃ p, p < n ∧ q p = x
theorem c_levelOf {s e : Nat} (hL : LvO o be sr) (hD : DA D ow ky ln) (hF : LF beh sg k I ky ln o be VV n q lev) (hs : s < 4096) (he : e < 8) (hk : kwn n q (8 * s + e)) : callD xs Ln (d + 2) 27 [.ref o, .int (nI s), .int (nI e)] (mkW D I L) = some (mkW D I L, some (.int (nO (glv beh sg k (8 * s + e))))) := by
  obtain ⟨f1, f2, f3, hO, hsr, f6, f7, f8, f9, f10, f11, f12, f13, f14⟩ := hL.f
  have hpc := pcN12_lt s
  have h8 : (8 * s + e) / 8 = s := by omega
  have p2' : pF D o 11 = some (ky (be + 2)) := by have h := (hD (be + 2) (by omega) (by omega)).1; have := f1 2 (by omega); rw [this.1, this.2.1] at h; exact h
  have q2 := (hD (be + 2) (by omega) (by omega)).2.1
  have b2 := (hD (be + 2) (by omega) (by omega)).2.2.2.2.2.2
  have hln2 : ln (be + 2) = ln (be + 1) := hF.1.2.2.1
  have hnl : n ≤ ln (be + 1) := hF.1.2.1
  refine Ok.eq ?_
  refine semG (lo := [some (.ref o), some (.int (nI s)), some (.int (nI e)), none]) rfl rfl (Nat.le_of_ble_eq_true rfl) rfl (show G_X3_levelOf xs Ln _ 0 [some (.ref o), some (.int (nI s)), some (.int (nI e)), none] [] _ _ from ?_)
  by_cases h1 : pcN s 12 = 1
  · rw [glv_1 (by rw [h8]; exact h1)]
    simp (disch := first | omega | exact c1_int _ | exact c1_none | exact c1_ref _ | exact isRf_ref _ | assumption | exact hO _ _ _ | exact ob23 _ _ _ | exact hsr _ | exact isRf_null | exact okRb _ | exact okN1 | exact okN0 | exact rfl) only [N_X3_levelOf_0, N_X3_levelOf_1, N_X3_levelOf_4, N_X3_levelOf_5, N_X3_levelOf_8, N_X3_levelOf_9, N_X3_levelOf_10, N_X3_levelOf_11, N_X3_levelOf_12, N_X3_levelOf_14, N_X3_levelOf_15, N_X3_levelOf_16, N_X3_levelOf_17, N_X3_levelOf_20, N_X3_levelOf_21, N_X3_levelOf_22, N_X3_levelOf_23, N_X3_levelOf_26, N_X3_levelOf_27, N_X3_levelOf_30, N_X3_levelOf_31, N_X3_levelOf_32, N_X3_levelOf_35, N_X3_levelOf_36, N_X3_levelOf_39, N_X3_levelOf_40, N_X3_levelOf_43, N_X3_levelOf_44, N_X3_levelOf_45, if_true, if_false, ite_true, ite_false, not_false_eq_true, not_true_eq_false, isRf_ref, isRf_null, c1_int, c1_ref, c1_null, c1_none, rfv_some, rfv_none, Ok_s, tl_some, tl_none, List.nil_append, b2i_n1, b2i_n0, ↓reduceIte, nI_add, pk_mul, pk_sub, n_leT, n_leF, n_ltT, n_ltF, n_eqT, n_eqF, n_shl1, n_shl, n_shr, nI_and, nI_or, nI_xor, b2i_z, b2i_o, m1_n, n_m1, m1_lt, m1_le, n_lm1, n_em1, nI_m1, and1, and3, and7, and15, and63, and255, Bool.true_eq_false, Bool.false_eq_true, reduceCtorEq, Nat.reduceAdd, Nat.reduceMul, Nat.reduceSub, Nat.reduceDiv, Nat.reduceMod, Nat.reducePow, Nat.zero_add, Nat.one_mul, c_bc, bc_n hs, h1]
    rfl
  · rcases hk with hk | ⟨p, hp, hq⟩
    · rw [h8] at hk; exact absurd hk h1
    · obtain ⟨g1, g2, g3⟩ := hF.g hp
      have hlp := hF.2.1 p hp
      have hst : s * 8 + e = 8 * s + e := by omega
      have hsp : spo (bsq n q) (8 * s + e) = p + 1 := by rw [← hq]; exact spo_i (s := bsq n q) hp hF.2.2.1.1
      have ek : nI (p + 1) - nI 1 = nI p := by rw [pk_sub (by have := hF.2.2.2.2.1; omega), Nat.add_sub_cancel]
      have hpos := c_posOf (xs := xs) (Ln := Ln) (d := d) (L := L) hL hD hF.1 (show 8 * s + e < 1000000 by omega)
      rw [hsp, ek] at hpos
      rw [hq] at g1 g2
      have hpn := hF.2.2.2.2.1
      by_cases h0 : lev p = 0
      · rw [g1 h0]
        rw [h0] at hlp
        simp (disch := first | omega | exact c1_int _ | exact c1_none | exact c1_ref _ | exact isRf_ref _ | assumption | exact hO _ _ _ | exact ob23 _ _ _ | exact hsr _ | exact isRf_null | exact okRb _ | exact okN1 | exact okN0 | exact rfl) only [N_X3_levelOf_0, N_X3_levelOf_1, N_X3_levelOf_4, N_X3_levelOf_5, N_X3_levelOf_8, N_X3_levelOf_9, N_X3_levelOf_10, N_X3_levelOf_11, N_X3_levelOf_12, N_X3_levelOf_14, N_X3_levelOf_15, N_X3_levelOf_16, N_X3_levelOf_17, N_X3_levelOf_20, N_X3_levelOf_21, N_X3_levelOf_22, N_X3_levelOf_23, N_X3_levelOf_26, N_X3_levelOf_27, N_X3_levelOf_30, N_X3_levelOf_31, N_X3_levelOf_32, N_X3_levelOf_35, N_X3_levelOf_36, N_X3_levelOf_39, N_X3_levelOf_40, N_X3_levelOf_43, N_X3_levelOf_44, N_X3_levelOf_45, if_true, if_false, ite_true, ite_false, not_false_eq_true, not_true_eq_false, isRf_ref, isRf_null, c1_int, c1_ref, c1_null, c1_none, rfv_some, rfv_none, Ok_s, tl_some, tl_none, List.nil_append, b2i_n1, b2i_n0, ↓reduceIte, nI_add, pk_mul, pk_sub, n_leT, n_leF, n_ltT, n_ltF, n_eqT, n_eqF, n_shl1, n_shl, n_shr, nI_and, nI_or, nI_xor, b2i_z, b2i_o, m1_n, n_m1, m1_lt, m1_le, n_lm1, n_em1, nI_m1, and1, and3, and7, and15, and63, and255, Bool.true_eq_false, Bool.false_eq_true, reduceCtorEq, Nat.reduceAdd, Nat.reduceMul, Nat.reduceSub, Nat.reduceDiv, Nat.reduceMod, Nat.reducePow, Nat.zero_add, Nat.one_mul, c_bc, bc_n hs, hst, hpos, p2', hlp]
        rfl
      · rw [g2 h0]
        simp (disch := first | omega | exact c1_int _ | exact c1_none | exact c1_ref _ | exact isRf_ref _ | assumption | exact hO _ _ _ | exact ob23 _ _ _ | exact hsr _ | exact isRf_null | exact okRb _ | exact okN1 | exact okN0 | exact rfl) only [N_X3_levelOf_0, N_X3_levelOf_1, N_X3_levelOf_4, N_X3_levelOf_5, N_X3_levelOf_8, N_X3_levelOf_9, N_X3_levelOf_10, N_X3_levelOf_11, N_X3_levelOf_12, N_X3_levelOf_14, N_X3_levelOf_15, N_X3_levelOf_16, N_X3_levelOf_17, N_X3_levelOf_20, N_X3_levelOf_21, N_X3_levelOf_22, N_X3_levelOf_23, N_X3_levelOf_26, N_X3_levelOf_27, N_X3_levelOf_30, N_X3_levelOf_31, N_X3_levelOf_32, N_X3_levelOf_35, N_X3_levelOf_36, N_X3_levelOf_39, N_X3_levelOf_40, N_X3_levelOf_43, N_X3_levelOf_44, N_X3_levelOf_45, if_true, if_false, ite_true, ite_false, not_false_eq_true, not_true_eq_false, isRf_ref, isRf_null, c1_int, c1_ref, c1_null, c1_none, rfv_some, rfv_none, Ok_s, tl_some, tl_none, List.nil_append, b2i_n1, b2i_n0, ↓reduceIte, nI_add, pk_mul, pk_sub, n_leT, n_leF, n_ltT, n_ltF, n_eqT, n_eqF, n_shl1, n_shl, n_shr, nI_and, nI_or, nI_xor, b2i_z, b2i_o, m1_n, n_m1, m1_lt, m1_le, n_lm1, n_em1, nI_m1, and1, and3, and7, and15, and63, and255, Bool.true_eq_false, Bool.false_eq_true, reduceCtorEq, Nat.reduceAdd, Nat.reduceMul, Nat.reduceSub, Nat.reduceDiv, Nat.reduceMod, Nat.reducePow, Nat.zero_add, Nat.one_mul, c_bc, bc_n hs, hst, hpos, p2', hlp]
        rfl
theorem pc0_a : ∀ i, i < 64 → ∀ j, j < 64 → decide (pcN (64 * i + j) 12 = 0) = decide (64 * i + j = 0) := by decide +kernel
theorem pc_0 {v : Nat} (h : v < 4096) : (pcN v 12 = 0) = (v = 0) := by
  have := pc0_a (v / 64) (by omega) (v % 64) (by omega)
  rw [show 64 * (v / 64) + v % 64 = v by omega] at this
  simpa using this
theorem glv_b {x b : Nat} (h : glv beh sg k x = some b) : b ≤ 32768 ∧ gW beh sg k b x = true ∧ ∀ j, j < b → gW beh sg k j x = false := by
  have := (lst_s _ _ _).mp h
  rw [bnd_e] at this
  exact ⟨by omega, this.2⟩
/-- within N words or not, by the level -/
theorem glv_w {x N : Nat} (hN : N ≤ 32768) : gW beh sg k N x = (match glv beh sg k x with
    | none => false
    | some b => decide (b ≤ N)) := by
  cases hg : glv beh sg k x with
  | none => exact (lst_n _ _).mp hg N (by rw [bnd_e]; omega)
  | some b =>
    obtain ⟨h1, h2, h3⟩ := glv_b hg
    show _ = decide (b ≤ N)
    by_cases h : b ≤ N
    · rw [decide_eq_true h]; exact gW_le h2 h
    · rw [decide_eq_false h]; exact h3 N (by omega)
theorem c_within {y N : Nat} (hL : LvO o be sr) (hD : DA D ow ky ln) (hF : LF beh sg k I ky ln o be VV n q lev) (hS : SgR I o sr k sg) (hy : y < 32768) (hN : N ≤ 32768) (hk : ∀ c, c < k → pcN (y / 8 &&& sg c) 12 = 0 ∨ kwn n q (prS sg y c)) : callD xs Ln (d + 3) 29 [.ref o, .int (nI y), .int (nI N)] (mkW D I L) = some (mkW D I L, some (.int (b2i (allN (fun c => decide (pcN (y / 8 &&& sg c) 12 = 0) || gW beh sg k N (prS sg y c)) k)))) := by
  obtain ⟨f1, f2, f3, hO, hsr, f6, f7, f8, f9, f10, f11, f12, f13, f14⟩ := hL.f
  have hk4 := hS.2.1
  have e4 := hS.1
  refine Ok.eq ?_
  refine semG (lo := [some (.ref o), some (.int (nI y)), some (.int (nI N)), none, none, none]) rfl rfl (Nat.le_of_ble_eq_true rfl) rfl (show G_X3_isWithin xs Ln _ 0 [some (.ref o), some (.int (nI y)), some (.int (nI N)), none, none, none] [] _ _ from ?_)
  simp (disch := first | omega | exact c1_int _ | exact c1_none | exact c1_ref _ | exact isRf_ref _ | assumption | exact hO _ _ _ | exact ob23 _ _ _ | exact hsr _ | exact isRf_null | exact okRb _ | exact okN1 | exact okN0 | exact rfl) only [N_X3_isWithin_0, N_X3_isWithin_1, N_X3_isWithin_3, N_X3_isWithin_4, N_X3_isWithin_7, N_X3_isWithin_10, N_X3_isWithin_11, N_X3_isWithin_13, N_X3_isWithin_14, N_X3_isWithin_15, N_X3_isWithin_18, N_X3_isWithin_19, N_X3_isWithin_20, N_X3_isWithin_21, N_X3_isWithin_23, N_X3_isWithin_25, N_X3_isWithin_28, N_X3_isWithin_29, N_X3_isWithin_32, N_X3_isWithin_33, N_X3_isWithin_35, N_X3_isWithin_36, N_X3_isWithin_38, N_X3_isWithin_39, N_X3_isWithin_42, N_X3_isWithin_44, N_X3_isWithin_46, N_X3_isWithin_47, N_X3_isWithin_50, N_X3_isWithin_52, N_X3_isWithin_53, N_X3_isWithin_56, N_X3_isWithin_57, N_X3_isWithin_58, N_X3_isWithin_61, N_X3_isWithin_64, N_X3_isWithin_65, if_true, if_false, ite_true, ite_false, not_false_eq_true, not_true_eq_false, isRf_ref, isRf_null, c1_int, c1_ref, c1_null, c1_none, rfv_some, rfv_none, Ok_s, tl_some, tl_none, List.nil_append, b2i_n1, b2i_n0, ↓reduceIte, nI_add, pk_mul, pk_sub, n_leT, n_leF, n_ltT, n_ltF, n_eqT, n_eqF, n_shl1, n_shl, n_shr, nI_and, nI_or, nI_xor, b2i_z, b2i_o, m1_n, n_m1, m1_lt, m1_le, n_lm1, n_em1, nI_m1, and1, and3, and7, and15, and63, and255, Bool.true_eq_false, Bool.false_eq_true, reduceCtorEq, Nat.reduceAdd, Nat.reduceMul, Nat.reduceSub, Nat.reduceDiv, Nat.reduceMod, Nat.reducePow, Nat.zero_add, Nat.one_mul]
  refine Lp (n := k) (σ := Unit) (E := fun c _ => ∀ u4 u5, G_X3_isWithin xs Ln (d + 2) 2 [some (.ref o), some (.int (nI y)), some (.int (nI N)), some (.int (nI c)), u4, u5] [] (mkW D I L) _) (Inv := fun c _ => ∀ c', c' < c → (decide (pcN (y / 8 &&& sg c') 12 = 0) || gW beh sg k N (prS sg y c')) = true) ?_ ?_ 0 () (by omega) (fun c' h => by omega) none none
  · rintro _ hall u4 u5
    rw [N_X3_isWithin_2]
    simp (disch := first | omega | exact c1_int _ | exact c1_none | exact c1_ref _ | exact isRf_ref _ | assumption | exact hO _ _ _ | exact ob23 _ _ _ | exact hsr _ | exact isRf_null | exact okRb _ | exact okN1 | exact okN0 | exact rfl) only [N_X3_isWithin_0, N_X3_isWithin_1, N_X3_isWithin_3, N_X3_isWithin_4, N_X3_isWithin_7, N_X3_isWithin_10, N_X3_isWithin_11, N_X3_isWithin_13, N_X3_isWithin_14, N_X3_isWithin_15, N_X3_isWithin_18, N_X3_isWithin_19, N_X3_isWithin_20, N_X3_isWithin_21, N_X3_isWithin_23, N_X3_isWithin_25, N_X3_isWithin_28, N_X3_isWithin_29, N_X3_isWithin_32, N_X3_isWithin_33, N_X3_isWithin_35, N_X3_isWithin_36, N_X3_isWithin_38, N_X3_isWithin_39, N_X3_isWithin_42, N_X3_isWithin_44, N_X3_isWithin_46, N_X3_isWithin_47, N_X3_isWithin_50, N_X3_isWithin_52, N_X3_isWithin_53, N_X3_isWithin_56, N_X3_isWithin_57, N_X3_isWithin_58, N_X3_isWithin_61, N_X3_isWithin_64, N_X3_isWithin_65, if_true, if_false, ite_true, ite_false, not_false_eq_true, not_true_eq_false, isRf_ref, isRf_null, c1_int, c1_ref, c1_null, c1_none, rfv_some, rfv_none, Ok_s, tl_some, tl_none, List.nil_append, b2i_n1, b2i_n0, ↓reduceIte, nI_add, pk_mul, pk_sub, n_leT, n_leF, n_ltT, n_ltF, n_eqT, n_eqF, n_shl1, n_shl, n_shr, nI_and, nI_or, nI_xor, b2i_z, b2i_o, m1_n, n_m1, m1_lt, m1_le, n_lm1, n_em1, nI_m1, and1, and3, and7, and15, and63, and255, Bool.true_eq_false, Bool.false_eq_true, reduceCtorEq, Nat.reduceAdd, Nat.reduceMul, Nat.reduceSub, Nat.reduceDiv, Nat.reduceMod, Nat.reducePow, Nat.zero_add, Nat.one_mul, e4]
    rw [(allN_iff _ _).mpr hall]
    rfl
  · rintro c _ hc hall ih u4 u5
    obtain ⟨s1, s2⟩ := hS.2.2 c hc
    have hand : y / 8 &&& sg c < 4096 := Nat.lt_of_le_of_lt Nat.and_le_right s2
    have hp0 := pc_0 hand
    have nx : ∀ u4 u5, (decide (pcN (y / 8 &&& sg c) 12 = 0) || gW beh sg k N (prS sg y c)) = true → _ := fun u4 u5 hh => ih () (fun c' hc' => by
      by_cases ec : c' = c
      · subst ec; exact hh
      · exact hall c' (by omega)) u4 u5
    have bad : (decide (pcN (y / 8 &&& sg c) 12 = 0) || gW beh sg k N (prS sg y c)) = false → allN (fun c => decide (pcN (y / 8 &&& sg c) 12 = 0) || gW beh sg k N (prS sg y c)) k = false := by
      intro hb
      rw [← Bool.not_eq_true, allN_iff]
      intro h
      have := h c hc
      rw [hb] at this
      cases this
    rw [N_X3_isWithin_2]
    by_cases hz : y / 8 &&& sg c = 0
    · simp (disch := first | omega | exact c1_int _ | exact c1_none | exact c1_ref _ | exact isRf_ref _ | assumption | exact hO _ _ _ | exact ob23 _ _ _ | exact hsr _ | exact isRf_null | exact okRb _ | exact okN1 | exact okN0 | exact rfl) only [N_X3_isWithin_0, N_X3_isWithin_1, N_X3_isWithin_3, N_X3_isWithin_4, N_X3_isWithin_7, N_X3_isWithin_10, N_X3_isWithin_11, N_X3_isWithin_13, N_X3_isWithin_14, N_X3_isWithin_15, N_X3_isWithin_18, N_X3_isWithin_19, N_X3_isWithin_20, N_X3_isWithin_21, N_X3_isWithin_23, N_X3_isWithin_25, N_X3_isWithin_28, N_X3_isWithin_29, N_X3_isWithin_32, N_X3_isWithin_33, N_X3_isWithin_35, N_X3_isWithin_36, N_X3_isWithin_38, N_X3_isWithin_39, N_X3_isWithin_42, N_X3_isWithin_44, N_X3_isWithin_46, N_X3_isWithin_47, N_X3_isWithin_50, N_X3_isWithin_52, N_X3_isWithin_53, N_X3_isWithin_56, N_X3_isWithin_57, N_X3_isWithin_58, N_X3_isWithin_61, N_X3_isWithin_64, N_X3_isWithin_65, if_true, if_false, ite_true, ite_false, not_false_eq_true, not_true_eq_false, isRf_ref, isRf_null, c1_int, c1_ref, c1_null, c1_none, rfv_some, rfv_none, Ok_s, tl_some, tl_none, List.nil_append, b2i_n1, b2i_n0, ↓reduceIte, nI_add, pk_mul, pk_sub, n_leT, n_leF, n_ltT, n_ltF, n_eqT, n_eqF, n_shl1, n_shl, n_shr, nI_and, nI_or, nI_xor, b2i_z, b2i_o, m1_n, n_m1, m1_lt, m1_le, n_lm1, n_em1, nI_m1, and1, and3, and7, and15, and63, and255, Bool.true_eq_false, Bool.false_eq_true, reduceCtorEq, Nat.reduceAdd, Nat.reduceMul, Nat.reduceSub, Nat.reduceDiv, Nat.reduceMod, Nat.reducePow, Nat.zero_add, Nat.one_mul, e4, f3, s1, hz]
      exact nx _ _ (by rw [decide_eq_true (by rw [hp0]; exact hz), Bool.true_or])
    · have hnz : pcN (y / 8 &&& sg c) 12 ≠ 0 := by rw [Ne, hp0]; exact hz
      have hkn := (hk c hc).resolve_left hnz
      have hl := c_levelOf (xs := xs) (Ln := Ln) (d := d) (L := L) hL hD hF hand (show y % 8 < 8 by omega) hkn
      have hprS : prS sg y c = 8 * (y / 8 &&& sg c) + y % 8 := rfl
      have hgw := glv_w (beh := beh) (sg := sg) (k := k) (x := prS sg y c) hN
      rw [hprS] at hgw
      have hd0 : decide (pcN (y / 8 &&& sg c) 12 = 0) = false := decide_eq_false hnz
      cases hg : glv beh sg k (8 * (y / 8 &&& sg c) + y % 8) with
      | none =>
        rw [hg] at hl hgw
        have hgw' : gW beh sg k N (8 * (y / 8 &&& sg c) + y % 8) = false := hgw
        have em : (m1 = m1) = True := eq_true rfl
        simp (disch := first | omega | exact c1_int _ | exact c1_none | exact c1_ref _ | exact isRf_ref _ | assumption | exact hO _ _ _ | exact ob23 _ _ _ | exact hsr _ | exact isRf_null | exact okRb _ | exact okN1 | exact okN0 | exact rfl) only [N_X3_isWithin_0, N_X3_isWithin_1, N_X3_isWithin_3, N_X3_isWithin_4, N_X3_isWithin_7, N_X3_isWithin_10, N_X3_isWithin_11, N_X3_isWithin_13, N_X3_isWithin_14, N_X3_isWithin_15, N_X3_isWithin_18, N_X3_isWithin_19, N_X3_isWithin_20, N_X3_isWithin_21, N_X3_isWithin_23, N_X3_isWithin_25, N_X3_isWithin_28, N_X3_isWithin_29, N_X3_isWithin_32, N_X3_isWithin_33, N_X3_isWithin_35, N_X3_isWithin_36, N_X3_isWithin_38, N_X3_isWithin_39, N_X3_isWithin_42, N_X3_isWithin_44, N_X3_isWithin_46, N_X3_isWithin_47, N_X3_isWithin_50, N_X3_isWithin_52, N_X3_isWithin_53, N_X3_isWithin_56, N_X3_isWithin_57, N_X3_isWithin_58, N_X3_isWithin_61, N_X3_isWithin_64, N_X3_isWithin_65, if_true, if_false, ite_true, ite_false, not_false_eq_true, not_true_eq_false, isRf_ref, isRf_null, c1_int, c1_ref, c1_null, c1_none, rfv_some, rfv_none, Ok_s, tl_some, tl_none, List.nil_append, b2i_n1, b2i_n0, ↓reduceIte, nI_add, pk_mul, pk_sub, n_leT, n_leF, n_ltT, n_ltF, n_eqT, n_eqF, n_shl1, n_shl, n_shr, nI_and, nI_or, nI_xor, b2i_z, b2i_o, m1_n, n_m1, m1_lt, m1_le, n_lm1, n_em1, nI_m1, and1, and3, and7, and15, and63, and255, Bool.true_eq_false, Bool.false_eq_true, reduceCtorEq, Nat.reduceAdd, Nat.reduceMul, Nat.reduceSub, Nat.reduceDiv, Nat.reduceMod, Nat.reducePow, Nat.zero_add, Nat.one_mul, e4, f3, s1, hl, nO_n, em]
        rw [bad (by rw [hd0, hprS, hgw']; rfl)]
        rfl
      | some b =>
        have hb := (glv_b hg).1
        rw [hg] at hl hgw
        have hgw' : gW beh sg k N (8 * (y / 8 &&& sg c) + y % 8) = decide (b ≤ N) := hgw
        by_cases hbN : b ≤ N
        · simp (disch := first | omega | exact c1_int _ | exact c1_none | exact c1_ref _ | exact isRf_ref _ | assumption | exact hO _ _ _ | exact ob23 _ _ _ | exact hsr _ | exact isRf_null | exact okRb _ | exact okN1 | exact okN0 | exact rfl) only [N_X3_isWithin_0, N_X3_isWithin_1, N_X3_isWithin_3, N_X3_isWithin_4, N_X3_isWithin_7, N_X3_isWithin_10, N_X3_isWithin_11, N_X3_isWithin_13, N_X3_isWithin_14, N_X3_isWithin_15, N_X3_isWithin_18, N_X3_isWithin_19, N_X3_isWithin_20, N_X3_isWithin_21, N_X3_isWithin_23, N_X3_isWithin_25, N_X3_isWithin_28, N_X3_isWithin_29, N_X3_isWithin_32, N_X3_isWithin_33, N_X3_isWithin_35, N_X3_isWithin_36, N_X3_isWithin_38, N_X3_isWithin_39, N_X3_isWithin_42, N_X3_isWithin_44, N_X3_isWithin_46, N_X3_isWithin_47, N_X3_isWithin_50, N_X3_isWithin_52, N_X3_isWithin_53, N_X3_isWithin_56, N_X3_isWithin_57, N_X3_isWithin_58, N_X3_isWithin_61, N_X3_isWithin_64, N_X3_isWithin_65, if_true, if_false, ite_true, ite_false, not_false_eq_true, not_true_eq_false, isRf_ref, isRf_null, c1_int, c1_ref, c1_null, c1_none, rfv_some, rfv_none, Ok_s, tl_some, tl_none, List.nil_append, b2i_n1, b2i_n0, ↓reduceIte, nI_add, pk_mul, pk_sub, n_leT, n_leF, n_ltT, n_ltF, n_eqT, n_eqF, n_shl1, n_shl, n_shr, nI_and, nI_or, nI_xor, b2i_z, b2i_o, m1_n, n_m1, m1_lt, m1_le, n_lm1, n_em1, nI_m1, and1, and3, and7, and15, and63, and255, Bool.true_eq_false, Bool.false_eq_true, reduceCtorEq, Nat.reduceAdd, Nat.reduceMul, Nat.reduceSub, Nat.reduceDiv, Nat.reduceMod, Nat.reducePow, Nat.zero_add, Nat.one_mul, e4, f3, s1, hl, nO_s]
          exact nx _ _ (by rw [hprS, hgw', decide_eq_true hbN, Bool.or_true])
        · simp (disch := first | omega | exact c1_int _ | exact c1_none | exact c1_ref _ | exact isRf_ref _ | assumption | exact hO _ _ _ | exact ob23 _ _ _ | exact hsr _ | exact isRf_null | exact okRb _ | exact okN1 | exact okN0 | exact rfl) only [N_X3_isWithin_0, N_X3_isWithin_1, N_X3_isWithin_3, N_X3_isWithin_4, N_X3_isWithin_7, N_X3_isWithin_10, N_X3_isWithin_11, N_X3_isWithin_13, N_X3_isWithin_14, N_X3_isWithin_15, N_X3_isWithin_18, N_X3_isWithin_19, N_X3_isWithin_20, N_X3_isWithin_21, N_X3_isWithin_23, N_X3_isWithin_25, N_X3_isWithin_28, N_X3_isWithin_29, N_X3_isWithin_32, N_X3_isWithin_33, N_X3_isWithin_35, N_X3_isWithin_36, N_X3_isWithin_38, N_X3_isWithin_39, N_X3_isWithin_42, N_X3_isWithin_44, N_X3_isWithin_46, N_X3_isWithin_47, N_X3_isWithin_50, N_X3_isWithin_52, N_X3_isWithin_53, N_X3_isWithin_56, N_X3_isWithin_57, N_X3_isWithin_58, N_X3_isWithin_61, N_X3_isWithin_64, N_X3_isWithin_65, if_true, if_false, ite_true, ite_false, not_false_eq_true, not_true_eq_false, isRf_ref, isRf_null, c1_int, c1_ref, c1_null, c1_none, rfv_some, rfv_none, Ok_s, tl_some, tl_none, List.nil_append, b2i_n1, b2i_n0, ↓reduceIte, nI_add, pk_mul, pk_sub, n_leT, n_leF, n_ltT, n_ltF, n_eqT, n_eqF, n_shl1, n_shl, n_shr, nI_and, nI_or, nI_xor, b2i_z, b2i_o, m1_n, n_m1, m1_lt, m1_le, n_lm1, n_em1, nI_m1, and1, and3, and7, and15, and63, and255, Bool.true_eq_false, Bool.false_eq_true, reduceCtorEq, Nat.reduceAdd, Nat.reduceMul, Nat.reduceSub, Nat.reduceDiv, Nat.reduceMod, Nat.reducePow, Nat.zero_add, Nat.one_mul, e4, f3, s1, hl, nO_s]
          rw [bad (by rw [hd0, hprS, hgw', decide_eq_false hbN]; rfl)]
          rfl
end LFS
theorem c_firstW {m s e k n : Nat} {sg q lev : Nat → Nat} {VV : Nat → Prop} (hL : LvO o be sr) (hD : DA D ow ky ln) (hF : LF (behA a m) sg k I ky ln o be VV n q lev) (hS : SgR I o sr k sg) (hM : MM ow D I a) (hm1 : 1 ≤ m) (hm : m ≤ 3) (h0 : I o 0 = nI m) (hs : s < 4096) (he : e < 8) (hk : kwn n q (8 * s + e)) (hv : vSt a m (8 * s + e)) (hR : Rdy I a m e) : callD xs Ln (d + 4) 28 [.ref o, .int (nI s), .int (nI e)] (mkW D I L) = some (mkW D I L, some (.int (nO (fwd (behA a m) sg k (8 * s + e))))) := by
  have hA := hM.2.1
  obtain ⟨f1, f2, f3, hO, hsr, f6, f7, f8, f9, f10, f11, f12, f13, f14⟩ := hL.f
  have hl := c_levelOf (xs := xs) (Ln := Ln) (d := d + 1) (L := L) hL hD hF hs he hk
  have hst : s * 8 + e = 8 * s + e := by omega
  have h8 : (8 * s + e) / 8 = s := by omega
  have hm8 : (8 * s + e) % 8 = e := by omega
  refine Ok.eq ?_
  refine semG (lo := [some (.ref o), some (.int (nI s)), some (.int (nI e)), none, none, none]) rfl rfl (Nat.le_of_ble_eq_true rfl) rfl (show G_X3_firstWord xs Ln _ 0 [some (.ref o), some (.int (nI s)), some (.int (nI e)), none, none, none] [] _ _ from ?_)
  unfold fwd
  simp (disch := first | omega | exact c1_int _ | exact c1_none | exact c1_ref _ | exact isRf_ref _ | assumption | exact hO _ _ _ | exact ob23 _ _ _ | exact hsr _ | exact isRf_null | exact okRb _ | exact okN1 | exact okN0 | exact rfl) only [N_X3_firstWord_0, N_X3_firstWord_1, N_X3_firstWord_2, N_X3_firstWord_3, N_X3_firstWord_6, N_X3_firstWord_7, N_X3_firstWord_8, N_X3_firstWord_12, N_X3_firstWord_14, N_X3_firstWord_17, N_X3_firstWord_18, N_X3_firstWord_21, N_X3_firstWord_22, N_X3_firstWord_25, N_X3_firstWord_26, N_X3_firstWord_29, N_X3_firstWord_30, N_X3_firstWord_32, N_X3_firstWord_33, N_X3_firstWord_34, N_X3_firstWord_35, N_X3_firstWord_37, N_X3_firstWord_40, N_X3_firstWord_42, N_X3_firstWord_44, N_X3_firstWord_45, N_X3_firstWord_48, N_X3_firstWord_49, N_X3_firstWord_51, N_X3_firstWord_52, N_X3_firstWord_53, N_X3_firstWord_54, N_X3_firstWord_57, N_X3_firstWord_60, N_X3_firstWord_62, N_X3_firstWord_63, N_X3_firstWord_66, N_X3_firstWord_69, N_X3_firstWord_70, if_true, if_false, ite_true, ite_false, not_false_eq_true, not_true_eq_false, isRf_ref, isRf_null, c1_int, c1_ref, c1_null, c1_none, rfv_some, rfv_none, Ok_s, tl_some, tl_none, List.nil_append, b2i_n1, b2i_n0, ↓reduceIte, nI_add, pk_mul, pk_sub, n_leT, n_leF, n_ltT, n_ltF, n_eqT, n_eqF, n_shl1, n_shl, n_shr, nI_and, nI_or, nI_xor, b2i_z, b2i_o, m1_n, n_m1, m1_lt, m1_le, n_lm1, n_em1, nI_m1, and1, and3, and7, and15, and63, and255, Bool.true_eq_false, Bool.false_eq_true, reduceCtorEq, Nat.reduceAdd, Nat.reduceMul, Nat.reduceSub, Nat.reduceDiv, Nat.reduceMod, Nat.reducePow, Nat.zero_add, Nat.one_mul, hl]
  cases hg : glv (behA a m) sg k (8 * s + e) with
  | none =>
    rw [N_X3_firstWord_10]
    have em : (m1 ≤ nI 0) = True := eq_true (by decide)
    simp (disch := first | omega | exact c1_int _ | exact c1_none | exact c1_ref _ | exact isRf_ref _ | assumption | exact hO _ _ _ | exact ob23 _ _ _ | exact hsr _ | exact isRf_null | exact okRb _ | exact okN1 | exact okN0 | exact rfl) only [N_X3_firstWord_0, N_X3_firstWord_1, N_X3_firstWord_2, N_X3_firstWord_3, N_X3_firstWord_6, N_X3_firstWord_7, N_X3_firstWord_8, N_X3_firstWord_12, N_X3_firstWord_14, N_X3_firstWord_17, N_X3_firstWord_18, N_X3_firstWord_21, N_X3_firstWord_22, N_X3_firstWord_25, N_X3_firstWord_26, N_X3_firstWord_29, N_X3_firstWord_30, N_X3_firstWord_32, N_X3_firstWord_33, N_X3_firstWord_34, N_X3_firstWord_35, N_X3_firstWord_37, N_X3_firstWord_40, N_X3_firstWord_42, N_X3_firstWord_44, N_X3_firstWord_45, N_X3_firstWord_48, N_X3_firstWord_49, N_X3_firstWord_51, N_X3_firstWord_52, N_X3_firstWord_53, N_X3_firstWord_54, N_X3_firstWord_57, N_X3_firstWord_60, N_X3_firstWord_62, N_X3_firstWord_63, N_X3_firstWord_66, N_X3_firstWord_69, N_X3_firstWord_70, if_true, if_false, ite_true, ite_false, not_false_eq_true, not_true_eq_false, isRf_ref, isRf_null, c1_int, c1_ref, c1_null, c1_none, rfv_some, rfv_none, Ok_s, tl_some, tl_none, List.nil_append, b2i_n1, b2i_n0, ↓reduceIte, nI_add, pk_mul, pk_sub, n_leT, n_leF, n_ltT, n_ltF, n_eqT, n_eqF, n_shl1, n_shl, n_shr, nI_and, nI_or, nI_xor, b2i_z, b2i_o, m1_n, n_m1, m1_lt, m1_le, n_lm1, n_em1, nI_m1, and1, and3, and7, and15, and63, and255, Bool.true_eq_false, Bool.false_eq_true, reduceCtorEq, Nat.reduceAdd, Nat.reduceMul, Nat.reduceSub, Nat.reduceDiv, Nat.reduceMod, Nat.reducePow, Nat.zero_add, Nat.one_mul, nO_n, em]
  | some b =>
    have hb := (glv_b hg).1
    cases b with
    | zero =>
      rw [N_X3_firstWord_10]
      simp (disch := first | omega | exact c1_int _ | exact c1_none | exact c1_ref _ | exact isRf_ref _ | assumption | exact hO _ _ _ | exact ob23 _ _ _ | exact hsr _ | exact isRf_null | exact okRb _ | exact okN1 | exact okN0 | exact rfl) only [N_X3_firstWord_0, N_X3_firstWord_1, N_X3_firstWord_2, N_X3_firstWord_3, N_X3_firstWord_6, N_X3_firstWord_7, N_X3_firstWord_8, N_X3_firstWord_12, N_X3_firstWord_14, N_X3_firstWord_17, N_X3_firstWord_18, N_X3_firstWord_21, N_X3_firstWord_22, N_X3_firstWord_25, N_X3_firstWord_26, N_X3_firstWord_29, N_X3_firstWord_30, N_X3_firstWord_32, N_X3_firstWord_33, N_X3_firstWord_34, N_X3_firstWord_35, N_X3_firstWord_37, N_X3_firstWord_40, N_X3_firstWord_42, N_X3_firstWord_44, N_X3_firstWord_45, N_X3_firstWord_48, N_X3_firstWord_49, N_X3_firstWord_51, N_X3_firstWord_52, N_X3_firstWord_53, N_X3_firstWord_54, N_X3_firstWord_57, N_X3_firstWord_60, N_X3_firstWord_62, N_X3_firstWord_63, N_X3_firstWord_66, N_X3_firstWord_69, N_X3_firstWord_70, if_true, if_false, ite_true, ite_false, not_false_eq_true, not_true_eq_false, isRf_ref, isRf_null, c1_int, c1_ref, c1_null, c1_none, rfv_some, rfv_none, Ok_s, tl_some, tl_none, List.nil_append, b2i_n1, b2i_n0, ↓reduceIte, nI_add, pk_mul, pk_sub, n_leT, n_leF, n_ltT, n_ltF, n_eqT, n_eqF, n_shl1, n_shl, n_shr, nI_and, nI_or, nI_xor, b2i_z, b2i_o, m1_n, n_m1, m1_lt, m1_le, n_lm1, n_em1, nI_m1, and1, and3, and7, and15, and63, and255, Bool.true_eq_false, Bool.false_eq_true, reduceCtorEq, Nat.reduceAdd, Nat.reduceMul, Nat.reduceSub, Nat.reduceDiv, Nat.reduceMod, Nat.reducePow, Nat.zero_add, Nat.one_mul, nO_s]
      rfl
    | succ b =>
      rw [nO_s]
      have hk2 : pcN s 12 ≠ 1 := by
        intro h1
        rw [glv_1 (by rw [h8]; exact h1)] at hg
        cases hg
      obtain ⟨p, hp, hq⟩ : ∃ p, p < n ∧ q p = 8 * s + e := by
        rcases hk with h | h
        · rw [h8] at h; exact absurd h hk2
        · exact h
      refine Lp (n := 8) (σ := Unit) (E := fun i _ => ∀ u5, G_X3_firstWord xs Ln (d + 3) 10 [some (.ref o), some (.int (nI s)), some (.int (nI e)), some (.int (nI (b + 1))), some (.int (nI i)), u5] [] (mkW D I L) _) (Inv := fun i _ => ∀ j, j < i → okw (behA a m) sg k b (8 * s + e) j = false) ?_ ?_ 0 () (by omega) (fun j hj => by omega) none
      · rintro _ hall u5
        rw [N_X3_firstWord_10]
        simp (disch := first | omega | exact c1_int _ | exact c1_none | exact c1_ref _ | exact isRf_ref _ | assumption | exact hO _ _ _ | exact ob23 _ _ _ | exact hsr _ | exact isRf_null | exact okRb _ | exact okN1 | exact okN0 | exact rfl) only [N_X3_firstWord_0, N_X3_firstWord_1, N_X3_firstWord_2, N_X3_firstWord_3, N_X3_firstWord_6, N_X3_firstWord_7, N_X3_firstWord_8, N_X3_firstWord_12, N_X3_firstWord_14, N_X3_firstWord_17, N_X3_firstWord_18, N_X3_firstWord_21, N_X3_firstWord_22, N_X3_firstWord_25, N_X3_firstWord_26, N_X3_firstWord_29, N_X3_firstWord_30, N_X3_firstWord_32, N_X3_firstWord_33, N_X3_firstWord_34, N_X3_firstWord_35, N_X3_firstWord_37, N_X3_firstWord_40, N_X3_firstWord_42, N_X3_firstWord_44, N_X3_firstWord_45, N_X3_firstWord_48, N_X3_firstWord_49, N_X3_firstWord_51, N_X3_firstWord_52, N_X3_firstWord_53, N_X3_firstWord_54, N_X3_firstWord_57, N_X3_firstWord_60, N_X3_firstWord_62, N_X3_firstWord_63, N_X3_firstWord_66, N_X3_firstWord_69, N_X3_firstWord_70, if_true, if_false, ite_true, ite_false, not_false_eq_true, not_true_eq_false, isRf_ref, isRf_null, c1_int, c1_ref, c1_null, c1_none, rfv_some, rfv_none, Ok_s, tl_some, tl_none, List.nil_append, b2i_n1, b2i_n0, ↓reduceIte, nI_add, pk_mul, pk_sub, n_leT, n_leF, n_ltT, n_ltF, n_eqT, n_eqF, n_shl1, n_shl, n_shr, nI_and, nI_or, nI_xor, b2i_z, b2i_o, m1_n, n_m1, m1_lt, m1_le, n_lm1, n_em1, nI_m1, and1, and3, and7, and15, and63, and255, Bool.true_eq_false, Bool.false_eq_true, reduceCtorEq, Nat.reduceAdd, Nat.reduceMul, Nat.reduceSub, Nat.reduceDiv, Nat.reduceMod, Nat.reducePow, Nat.zero_add, Nat.one_mul]
        show _ = (mkW D I L, some (Value.int (nO (lst (okw (behA a m) sg k b (8 * s + e)) 8))))
        rw [(lst_n _ _).mpr hall]
        rfl
      · rintro i _ hi hall ih u5
        have hsb := c_standR (xs := xs) (Ln := Ln) (d := d + 1) (D := D) (I := I) (L := L) (m := m) (st := 8 * s + e) (wd := i) hM.1 hA hm1 hm hv hi (by rw [hm8]; exact hR)
        rw [N_X3_firstWord_10]
        cases hbh : behA a m (8 * s + e) i with
        | none =>
          rw [hbh] at hsb
          have em : (m1 = m1) = True := eq_true rfl
          simp (disch := first | omega | exact c1_int _ | exact c1_none | exact c1_ref _ | exact isRf_ref _ | assumption | exact hO _ _ _ | exact ob23 _ _ _ | exact hsr _ | exact isRf_null | exact okRb _ | exact okN1 | exact okN0 | exact rfl) only [N_X3_firstWord_0, N_X3_firstWord_1, N_X3_firstWord_2, N_X3_firstWord_3, N_X3_firstWord_6, N_X3_firstWord_7, N_X3_firstWord_8, N_X3_firstWord_12, N_X3_firstWord_14, N_X3_firstWord_17, N_X3_firstWord_18, N_X3_firstWord_21, N_X3_firstWord_22, N_X3_firstWord_25, N_X3_firstWord_26, N_X3_firstWord_29, N_X3_firstWord_30, N_X3_firstWord_32, N_X3_firstWord_33, N_X3_firstWord_34, N_X3_firstWord_35, N_X3_firstWord_37, N_X3_firstWord_40, N_X3_firstWord_42, N_X3_firstWord_44, N_X3_firstWord_45, N_X3_firstWord_48, N_X3_firstWord_49, N_X3_firstWord_51, N_X3_firstWord_52, N_X3_firstWord_53, N_X3_firstWord_54, N_X3_firstWord_57, N_X3_firstWord_60, N_X3_firstWord_62, N_X3_firstWord_63, N_X3_firstWord_66, N_X3_firstWord_69, N_X3_firstWord_70, if_true, if_false, ite_true, ite_false, not_false_eq_true, not_true_eq_false, isRf_ref, isRf_null, c1_int, c1_ref, c1_null, c1_none, rfv_some, rfv_none, Ok_s, tl_some, tl_none, List.nil_append, b2i_n1, b2i_n0, ↓reduceIte, nI_add, pk_mul, pk_sub, n_leT, n_leF, n_ltT, n_ltF, n_eqT, n_eqF, n_shl1, n_shl, n_shr, nI_and, nI_or, nI_xor, b2i_z, b2i_o, m1_n, n_m1, m1_lt, m1_le, n_lm1, n_em1, nI_m1, and1, and3, and7, and15, and63, and255, Bool.true_eq_false, Bool.false_eq_true, reduceCtorEq, Nat.reduceAdd, Nat.reduceMul, Nat.reduceSub, Nat.reduceDiv, Nat.reduceMod, Nat.reducePow, Nat.zero_add, Nat.one_mul, f2, h0, hst, hsb, nO_n, em]
          refine ih () (fun j hj => ?_) _
          by_cases ej : j = i
          · subst ej; unfold okw; rw [hbh]
          · exact hall j (by omega)
        | some y =>
          rw [hbh] at hsb
          have hy := (beh_v hA hm1 hm hv hbh).1.1
          have hw := c_within (xs := xs) (Ln := Ln) (d := d) (L := L) (y := y) (N := b) hL hD hF hS hy (by omega) (fun c hc => by
            by_cases h2 : 2 ≤ pcN (y / 8 &&& sg c) 12
            · obtain ⟨r, r1, r2⟩ := hF.2.2.2.1 p hp i y hi (by rw [hq]; exact hbh) c hc h2
              exact Or.inr (Or.inr ⟨r, r1, r2⟩)
            · by_cases h3 : pcN (y / 8 &&& sg c) 12 = 0
              · exact Or.inl h3
              · refine Or.inr (Or.inl ?_)
                rw [prS8]
                omega)
          have hok : okw (behA a m) sg k b (8 * s + e) i = allN (fun c => decide (pcN (y / 8 &&& sg c) 12 = 0) || gW (behA a m) sg k b (prS sg y c)) k := by unfold okw; rw [hbh]
          rw [← hok] at hw
          cases hb2 : okw (behA a m) sg k b (8 * s + e) i
          · rw [hb2] at hw
            simp (disch := first | omega | exact c1_int _ | exact c1_none | exact c1_ref _ | exact isRf_ref _ | assumption | exact hO _ _ _ | exact ob23 _ _ _ | exact hsr _ | exact isRf_null | exact okRb _ | exact okN1 | exact okN0 | exact rfl) only [N_X3_firstWord_0, N_X3_firstWord_1, N_X3_firstWord_2, N_X3_firstWord_3, N_X3_firstWord_6, N_X3_firstWord_7, N_X3_firstWord_8, N_X3_firstWord_12, N_X3_firstWord_14, N_X3_firstWord_17, N_X3_firstWord_18, N_X3_firstWord_21, N_X3_firstWord_22, N_X3_firstWord_25, N_X3_firstWord_26, N_X3_firstWord_29, N_X3_firstWord_30, N_X3_firstWord_32, N_X3_firstWord_33, N_X3_firstWord_34, N_X3_firstWord_35, N_X3_firstWord_37, N_X3_firstWord_40, N_X3_firstWord_42, N_X3_firstWord_44, N_X3_firstWord_45, N_X3_firstWord_48, N_X3_firstWord_49, N_X3_firstWord_51, N_X3_firstWord_52, N_X3_firstWord_53, N_X3_firstWord_54, N_X3_firstWord_57, N_X3_firstWord_60, N_X3_firstWord_62, N_X3_firstWord_63, N_X3_firstWord_66, N_X3_firstWord_69, N_X3_firstWord_70, if_true, if_false, ite_true, ite_false, not_false_eq_true, not_true_eq_false, isRf_ref, isRf_null, c1_int, c1_ref, c1_null, c1_none, rfv_some, rfv_none, Ok_s, tl_some, tl_none, List.nil_append, b2i_n1, b2i_n0, ↓reduceIte, nI_add, pk_mul, pk_sub, n_leT, n_leF, n_ltT, n_ltF, n_eqT, n_eqF, n_shl1, n_shl, n_shr, nI_and, nI_or, nI_xor, b2i_z, b2i_o, m1_n, n_m1, m1_lt, m1_le, n_lm1, n_em1, nI_m1, and1, and3, and7, and15, and63, and255, Bool.true_eq_false, Bool.false_eq_true, reduceCtorEq, Nat.reduceAdd, Nat.reduceMul, Nat.reduceSub, Nat.reduceDiv, Nat.reduceMod, Nat.reducePow, Nat.zero_add, Nat.one_mul, f2, h0, hst, hsb, nO_s, Nat.add_sub_cancel, hw]
            refine ih () (fun j hj => ?_) _
            by_cases ej : j = i
            · subst ej; exact hb2
            · exact hall j (by omega)
          · rw [hb2] at hw
            simp (disch := first | omega | exact c1_int _ | exact c1_none | exact c1_ref _ | exact isRf_ref _ | assumption | exact hO _ _ _ | exact ob23 _ _ _ | exact hsr _ | exact isRf_null | exact okRb _ | exact okN1 | exact okN0 | exact rfl) only [N_X3_firstWord_0, N_X3_firstWord_1, N_X3_firstWord_2, N_X3_firstWord_3, N_X3_firstWord_6, N_X3_firstWord_7, N_X3_firstWord_8, N_X3_firstWord_12, N_X3_firstWord_14, N_X3_firstWord_17, N_X3_firstWord_18, N_X3_firstWord_21, N_X3_firstWord_22, N_X3_firstWord_25, N_X3_firstWord_26, N_X3_firstWord_29, N_X3_firstWord_30, N_X3_firstWord_32, N_X3_firstWord_33, N_X3_firstWord_34, N_X3_firstWord_35, N_X3_firstWord_37, N_X3_firstWord_40, N_X3_firstWord_42, N_X3_firstWord_44, N_X3_firstWord_45, N_X3_firstWord_48, N_X3_firstWord_49, N_X3_firstWord_51, N_X3_firstWord_52, N_X3_firstWord_53, N_X3_firstWord_54, N_X3_firstWord_57, N_X3_firstWord_60, N_X3_firstWord_62, N_X3_firstWord_63, N_X3_firstWord_66, N_X3_firstWord_69, N_X3_firstWord_70, if_true, if_false, ite_true, ite_false, not_false_eq_true, not_true_eq_false, isRf_ref, isRf_null, c1_int, c1_ref, c1_null, c1_none, rfv_some, rfv_none, Ok_s, tl_some, tl_none, List.nil_append, b2i_n1, b2i_n0, ↓reduceIte, nI_add, pk_mul, pk_sub, n_leT, n_leF, n_ltT, n_ltF, n_eqT, n_eqF, n_shl1, n_shl, n_shr, nI_and, nI_or, nI_xor, b2i_z, b2i_o, m1_n, n_m1, m1_lt, m1_le, n_lm1, n_em1, nI_m1, and1, and3, and7, and15, and63, and255, Bool.true_eq_false, Bool.false_eq_true, reduceCtorEq, Nat.reduceAdd, Nat.reduceMul, Nat.reduceSub, Nat.reduceDiv, Nat.reduceMod, Nat.reducePow, Nat.zero_add, Nat.one_mul, f2, h0, hst, hsb, nO_s, Nat.add_sub_cancel, hw]
            show _ = (mkW D I L, some (Value.int (nO (lst (okw (behA a m) sg k b (8 * s + e)) 8))))
            rw [(lst_s _ _ i).mpr ⟨hi, hb2, hall⟩]
            rfl
end Pc6
