section Pe3
variable {xs : Nat → Int32} {Ln d : Nat} {D D' D'' : Dyn} {I I' I'' : Nat → Nat → Int32} {L : Nat → Nat → Int64} {w : Om} {Q : Res → Prop} {ow ow' ow'' ky ky' ky'' ln ln' ln'' a a' : Nat → Nat} {o be sr : Nat} {A : As} {nn : Nat}
theorem prN_lt2 {k e x y b : Nat} (hA : AW a) (hk : k < 2) (hx : x < a 4320) (hy : y < a 4320) (he : e < 8) (h : prN a k e x y = some b) : b < 32768 := by
  obtain ⟨t1, t2, t3⟩ := two_v (m := k + 1) (S := fun _ => true) hA (by omega) (by omega) hx hy he rfl
  have hI := fun e' => bSt_I (wo := none) hA (show 1 ≤ k + 1 by omega) (show k + 1 ≤ 3 by omega) t1.1 e'
  have hd := dG_g0 (beh := behW a (k + 1) none) (V := vSt a (k + 1)) (st := 8 * (2 ^ x ||| 2 ^ y) + e) hI (G := golA (k + 1) none)
  have h' : dG (behW a (k + 1) none) (golA (k + 1) none) (8 * (2 ^ x ||| 2 ^ y) + e) = some b := h
  rw [hd] at h'
  cases hg : g0 (behW a (k + 1) none) (golA (k + 1) none) (8 * (2 ^ x ||| 2 ^ y) + e) with
  | none => rw [hg] at h'; cases h'
  | some g =>
    rw [hg] at h'
    have hb : Fi (bZ (behW a (k + 1) none) (8 * (2 ^ x ||| 2 ^ y) + e)) g = b := Option.some.inj h'
    have hgl := ((lst_s _ _ _).mp hg).1
    have hZ := bZ_I hI
    have := (hZ.2.2.1 g hgl).2
    have := bI_n hZ
    omega
/-- all pairs of a set were looked at, with its doors -/
def PE (n : Nat) (q : Nat → Nat) (st : Nat) : Prop := ∀ x y, x < y → (st / 8).testBit x = true → (st / 8).testBit y = true → ∃ p, p < n ∧ q p = 8 * (2 ^ x ||| 2 ^ y) + st % 8
/-- levels hold at all doors -/
theorem c_lvAt {m e0 n s e : Nat} {sg q lev : Nat → Nat} {S : Nat → Bool} (hD : DA D ow ky ln) (hV : PrV I ky ln a m e0 sg S n q lev) (hs : s < 4096) (he : e < 8) (hk : kwn n q (8 * s + e)) : callD xs Ln (d + 2) 27 [.ref 34, .int (nI s), .int (nI e)] (mkW D I L) = some (mkW D I L, some (.int (nO (glv (behA a m) sg 1 (8 * s + e))))) := c_levelOf (Or.inl ⟨rfl, rfl, rfl⟩) hD hV.1.2.2.2.2.2.2.2 hs he hk
theorem bit_two {s x y : Nat} (hx : s.testBit x = true) (hy : s.testBit y = true) : s &&& (2 ^ x ||| 2 ^ y) = 2 ^ x ||| 2 ^ y := by
  apply Nat.eq_of_testBit_eq
  intro i
  rw [Nat.testBit_and, Nat.testBit_or, Nat.testBit_two_pow, Nat.testBit_two_pow]
  by_cases e1 : x = i
  · subst e1; rw [hx]; simp
  · by_cases e2 : y = i
    · subst e2; rw [hy]; simp
    · simp [e1, e2]
theorem bit_two2 {s x y : Nat} (h : s &&& (2 ^ x ||| 2 ^ y) = 2 ^ x ||| 2 ^ y) : s.testBit x = true ∧ s.testBit y = true := by
  have h1 := congrArg (fun z => Nat.testBit z x) h
  have h2 := congrArg (fun z => Nat.testBit z y) h
  simp only [Nat.testBit_and, Nat.testBit_or, Nat.testBit_two_pow, decide_true, Bool.true_or, Bool.or_true, Bool.and_true] at h1 h2
  exact ⟨h1, h2⟩
def twO (o : Option (Nat × Nat × Nat)) : Option Nat := o.map (fun q => 2 ^ q.1 ||| 2 ^ q.2.1)
def lsO (o : Option (Nat × Nat × Nat)) : Nat := match o with
  | none => 32768
  | some q => q.2.2
theorem sp1_n {g : Nat → Nat → Option Nat} {s x y : Nat} {ob : Option (Nat × Nat × Nat)} (hin : s.testBit x = true ∧ s.testBit y = true) (hp : g x y = none) : sp1 g s x y ob = ob := by unfold sp1; rw [if_pos hin, hp]
theorem sp1_v {g : Nat → Nat → Option Nat} {s x y v : Nat} {ob : Option (Nat × Nat × Nat)} (hin : s.testBit x = true ∧ s.testBit y = true) (hp : g x y = some v) (hv : v < 32768) : sp1 g s x y ob = if v < lsO ob then some (x, y, v) else ob := by
  unfold sp1
  rw [if_pos hin, hp]
  cases ob with
  | none => show _ = if v < 32768 then _ else _; rw [if_pos hv]
  | some q => rfl
theorem c_soonest {k e0 n st : Nat} {sg q lev : Nat → Nat} {S : Nat → Bool} (hC : CIx ow ky ln D I A nn) (hV : PrV I ky ln (sa A) (k + 1) e0 sg S n q lev) (hk : k < 2) (hvs : vSt (sa A) (k + 1) st) (hPE : PE n q st) : callD xs Ln (d + 3) 152 [.ref 0, .int (nI st)] (mkW D I L) = some (mkW D I L, some (.int (nO (twO (soonA (sa A) k st))))) := by
  have hM := hC.2.2.2.1
  have hA := hM.2.1
  have hP := hA.1
  have g0 : I 1 0 = nI (sa A 4320) := hM.1.m.1
  have hst := hvs.1
  have he : st % 8 < 8 := by omega
  have hs12 : st / 8 < 2 ^ sa A 4320 := by
    have := hvs.2
    unfold okS at this
    rw [if_neg (by omega)] at this
    exact of_decide_eq_true this
  refine Ok.eq ?_
  refine semG (lo := [some (.ref 0), some (.int (nI st)), none, none, none, none, none, none, none]) rfl rfl (Nat.le_of_ble_eq_true rfl) rfl (show G_X10_soonestPair xs Ln _ 0 [some (.ref 0), some (.int (nI st)), none, none, none, none, none, none, none] [] _ _ from ?_)
  simp (disch := first | omega | exact c1_int _ | exact c1_none | exact c1_ref _ | exact isRf_ref _ | assumption | exact okRb _ | exact okN1 | exact okN0 | exact rfl) only [N_X10_soonestPair_0, N_X10_soonestPair_1, N_X10_soonestPair_3, N_X10_soonestPair_4, N_X10_soonestPair_5, N_X10_soonestPair_6, N_X10_soonestPair_7, N_X10_soonestPair_10, N_X10_soonestPair_12, N_X10_soonestPair_13, N_X10_soonestPair_17, N_X10_soonestPair_18, N_X10_soonestPair_21, N_X10_soonestPair_24, N_X10_soonestPair_27, N_X10_soonestPair_29, N_X10_soonestPair_30, N_X10_soonestPair_31, N_X10_soonestPair_35, N_X10_soonestPair_36, N_X10_soonestPair_39, N_X10_soonestPair_42, N_X10_soonestPair_45, N_X10_soonestPair_46, N_X10_soonestPair_48, N_X10_soonestPair_49, N_X10_soonestPair_50, N_X10_soonestPair_52, N_X10_soonestPair_53, N_X10_soonestPair_54, N_X10_soonestPair_56, N_X10_soonestPair_57, N_X10_soonestPair_59, N_X10_soonestPair_60, N_X10_soonestPair_62, N_X10_soonestPair_65, N_X10_soonestPair_66, N_X10_soonestPair_69, N_X10_soonestPair_71, N_X10_soonestPair_72, N_X10_soonestPair_74, N_X10_soonestPair_75, N_X10_soonestPair_78, N_X10_soonestPair_81, N_X10_soonestPair_82, N_X10_soonestPair_84, N_X10_soonestPair_86, N_X10_soonestPair_87, N_X10_soonestPair_90, N_X10_soonestPair_92, N_X10_soonestPair_94, N_X10_soonestPair_97, N_X10_soonestPair_99, N_X10_soonestPair_101, N_X10_soonestPair_103, N_X10_soonestPair_104, N_X10_soonestPair_107, N_X10_soonestPair_110, N_X10_soonestPair_113, N_X10_soonestPair_116, N_X10_soonestPair_117, if_true, if_false, ite_true, ite_false, not_false_eq_true, not_true_eq_false, isRf_ref, isRf_null, c1_int, c1_ref, c1_null, c1_none, rfv_some, rfv_none, Ok_s, tl_some, tl_none, List.nil_append, b2i_n1, b2i_n0, ↓reduceIte, nI_add, pk_mul, pk_sub, n_leT, n_leF, n_ltT, n_ltF, n_eqT, n_eqF, n_shl1, n_shl, n_shr, nI_and, nI_or, nI_xor, b2i_z, b2i_o, m1_n, n_m1, m1_lt, m1_le, n_lm1, n_em1, nI_m1, and1, and3, and7, and15, and63, and255, Bool.true_eq_false, Bool.false_eq_true, reduceCtorEq, Nat.reduceAdd, Nat.reduceMul, Nat.reduceSub, Nat.reduceDiv, Nat.reduceMod, Nat.reducePow, Nat.zero_add, Nat.one_mul]
  have okB : ∀ ob : Option (Nat × Nat × Nat), okP (prN (sa A) k (st % 8)) (st / 8) (sa A 4320) ob → lsO ob ≤ 32768 ∧ ∀ z, twO ob = some z → z < 4096 := by
    intro ob hob
    cases ob with
    | none => exact ⟨by show 32768 ≤ 32768; omega, fun z hz => by cases hz⟩
    | some v =>
      obtain ⟨x, y, l⟩ := v
      obtain ⟨q1, q2, q3, q4, q5⟩ := hob x y l rfl
      have hl := prN_lt2 hA hk (show x < sa A 4320 by omega) q2 he q5
      obtain ⟨t1, t2, t3⟩ := two_v (m := k + 1) (S := fun _ => true) hA (by omega) (by omega) (show x < sa A 4320 by omega) q2 he rfl
      exact ⟨by show l ≤ 32768; omega, fun z hz => by cases hz; exact t2⟩
  unfold soonA
  refine Lp (n := sa A 4320) (σ := Option (Nat × Nat × Nat)) (E := fun x ob => ∀ u6 u7 u8, G_X10_soonestPair xs Ln (d + 2) 15 [some (.ref 0), some (.int (nI st)), some (.int (nI (st / 8))), some (.int (nO (twO ob))), some (.int (nI (lsO ob))), some (.int (nI x)), u6, u7, u8] [] (mkW D I L) _) (Inv := fun x ob => okP (prN (sa A) k (st % 8)) (st / 8) (sa A 4320) ob ∧ spX (prN (sa A) k (st % 8)) (st / 8) (sa A 4320) (sa A 4320) none = spX (prN (sa A) k (st % 8)) (st / 8) (sa A 4320) (sa A 4320 - x) ob) ?_ ?_ 0 none (by omega) ⟨(fun x y v e => by cases e), rfl⟩ none none none
  · rintro ob ⟨j1, j2⟩ u6 u7 u8
    rw [N_X10_soonestPair_15]
    simp (disch := first | omega | exact c1_int _ | exact c1_none | exact c1_ref _ | exact isRf_ref _ | assumption | exact okRb _ | exact okN1 | exact okN0 | exact rfl) only [N_X10_soonestPair_0, N_X10_soonestPair_1, N_X10_soonestPair_3, N_X10_soonestPair_4, N_X10_soonestPair_5, N_X10_soonestPair_6, N_X10_soonestPair_7, N_X10_soonestPair_10, N_X10_soonestPair_12, N_X10_soonestPair_13, N_X10_soonestPair_17, N_X10_soonestPair_18, N_X10_soonestPair_21, N_X10_soonestPair_24, N_X10_soonestPair_27, N_X10_soonestPair_29, N_X10_soonestPair_30, N_X10_soonestPair_31, N_X10_soonestPair_35, N_X10_soonestPair_36, N_X10_soonestPair_39, N_X10_soonestPair_42, N_X10_soonestPair_45, N_X10_soonestPair_46, N_X10_soonestPair_48, N_X10_soonestPair_49, N_X10_soonestPair_50, N_X10_soonestPair_52, N_X10_soonestPair_53, N_X10_soonestPair_54, N_X10_soonestPair_56, N_X10_soonestPair_57, N_X10_soonestPair_59, N_X10_soonestPair_60, N_X10_soonestPair_62, N_X10_soonestPair_65, N_X10_soonestPair_66, N_X10_soonestPair_69, N_X10_soonestPair_71, N_X10_soonestPair_72, N_X10_soonestPair_74, N_X10_soonestPair_75, N_X10_soonestPair_78, N_X10_soonestPair_81, N_X10_soonestPair_82, N_X10_soonestPair_84, N_X10_soonestPair_86, N_X10_soonestPair_87, N_X10_soonestPair_90, N_X10_soonestPair_92, N_X10_soonestPair_94, N_X10_soonestPair_97, N_X10_soonestPair_99, N_X10_soonestPair_101, N_X10_soonestPair_103, N_X10_soonestPair_104, N_X10_soonestPair_107, N_X10_soonestPair_110, N_X10_soonestPair_113, N_X10_soonestPair_116, N_X10_soonestPair_117, if_true, if_false, ite_true, ite_false, not_false_eq_true, not_true_eq_false, isRf_ref, isRf_null, c1_int, c1_ref, c1_null, c1_none, rfv_some, rfv_none, Ok_s, tl_some, tl_none, List.nil_append, b2i_n1, b2i_n0, ↓reduceIte, nI_add, pk_mul, pk_sub, n_leT, n_leF, n_ltT, n_ltF, n_eqT, n_eqF, n_shl1, n_shl, n_shr, nI_and, nI_or, nI_xor, b2i_z, b2i_o, m1_n, n_m1, m1_lt, m1_le, n_lm1, n_em1, nI_m1, and1, and3, and7, and15, and63, and255, Bool.true_eq_false, Bool.false_eq_true, reduceCtorEq, Nat.reduceAdd, Nat.reduceMul, Nat.reduceSub, Nat.reduceDiv, Nat.reduceMod, Nat.reducePow, Nat.zero_add, Nat.one_mul, g0]
    rw [j2, Nat.sub_self]
    rfl
  · rintro x ob hx ⟨j1, j2⟩ ih u6 u7 u8
    rw [N_X10_soonestPair_15]
    simp (disch := first | omega | exact c1_int _ | exact c1_none | exact c1_ref _ | exact isRf_ref _ | assumption | exact okRb _ | exact okN1 | exact okN0 | exact rfl) only [N_X10_soonestPair_0, N_X10_soonestPair_1, N_X10_soonestPair_3, N_X10_soonestPair_4, N_X10_soonestPair_5, N_X10_soonestPair_6, N_X10_soonestPair_7, N_X10_soonestPair_10, N_X10_soonestPair_12, N_X10_soonestPair_13, N_X10_soonestPair_17, N_X10_soonestPair_18, N_X10_soonestPair_21, N_X10_soonestPair_24, N_X10_soonestPair_27, N_X10_soonestPair_29, N_X10_soonestPair_30, N_X10_soonestPair_31, N_X10_soonestPair_35, N_X10_soonestPair_36, N_X10_soonestPair_39, N_X10_soonestPair_42, N_X10_soonestPair_45, N_X10_soonestPair_46, N_X10_soonestPair_48, N_X10_soonestPair_49, N_X10_soonestPair_50, N_X10_soonestPair_52, N_X10_soonestPair_53, N_X10_soonestPair_54, N_X10_soonestPair_56, N_X10_soonestPair_57, N_X10_soonestPair_59, N_X10_soonestPair_60, N_X10_soonestPair_62, N_X10_soonestPair_65, N_X10_soonestPair_66, N_X10_soonestPair_69, N_X10_soonestPair_71, N_X10_soonestPair_72, N_X10_soonestPair_74, N_X10_soonestPair_75, N_X10_soonestPair_78, N_X10_soonestPair_81, N_X10_soonestPair_82, N_X10_soonestPair_84, N_X10_soonestPair_86, N_X10_soonestPair_87, N_X10_soonestPair_90, N_X10_soonestPair_92, N_X10_soonestPair_94, N_X10_soonestPair_97, N_X10_soonestPair_99, N_X10_soonestPair_101, N_X10_soonestPair_103, N_X10_soonestPair_104, N_X10_soonestPair_107, N_X10_soonestPair_110, N_X10_soonestPair_113, N_X10_soonestPair_116, N_X10_soonestPair_117, if_true, if_false, ite_true, ite_false, not_false_eq_true, not_true_eq_false, isRf_ref, isRf_null, c1_int, c1_ref, c1_null, c1_none, rfv_some, rfv_none, Ok_s, tl_some, tl_none, List.nil_append, b2i_n1, b2i_n0, ↓reduceIte, nI_add, pk_mul, pk_sub, n_leT, n_leF, n_ltT, n_ltF, n_eqT, n_eqF, n_shl1, n_shl, n_shr, nI_and, nI_or, nI_xor, b2i_z, b2i_o, m1_n, n_m1, m1_lt, m1_le, n_lm1, n_em1, nI_m1, and1, and3, and7, and15, and63, and255, Bool.true_eq_false, Bool.false_eq_true, reduceCtorEq, Nat.reduceAdd, Nat.reduceMul, Nat.reduceSub, Nat.reduceDiv, Nat.reduceMod, Nat.reducePow, Nat.zero_add, Nat.one_mul, g0]
    have hs : spX (prN (sa A) k (st % 8)) (st / 8) (sa A 4320) (sa A 4320 - x) ob = spX (prN (sa A) k (st % 8)) (st / 8) (sa A 4320) (sa A 4320 - (x + 1)) (spY (prN (sa A) k (st % 8)) (st / 8) x (sa A 4320) (sa A 4320 - (x + 1)) ob) := by
      rw [show sa A 4320 - x = (sa A 4320 - (x + 1)) + 1 by omega]
      show spX _ _ _ (sa A 4320 - (x + 1)) (spY _ _ (sa A 4320 - ((sa A 4320 - (x + 1)) + 1)) _ (sa A 4320 - (sa A 4320 - ((sa A 4320 - (x + 1)) + 1) + 1)) ob) = _
      rw [show sa A 4320 - ((sa A 4320 - (x + 1)) + 1) = x by omega]
    rw [hs] at j2
    refine Lp (n := sa A 4320) (σ := Option (Nat × Nat × Nat)) (E := fun y ob => ∀ u7 u8, x < y → G_X10_soonestPair xs Ln (d + 2) 33 [some (.ref 0), some (.int (nI st)), some (.int (nI (st / 8))), some (.int (nO (twO ob))), some (.int (nI (lsO ob))), some (.int (nI x)), some (.int (nI y)), u7, u8] [] (mkW D I L) _) (Inv := fun y ob => okP (prN (sa A) k (st % 8)) (st / 8) (sa A 4320) ob ∧ spX (prN (sa A) k (st % 8)) (st / 8) (sa A 4320) (sa A 4320) none = spX (prN (sa A) k (st % 8)) (st / 8) (sa A 4320) (sa A 4320 - (x + 1)) (spY (prN (sa A) k (st % 8)) (st / 8) x (sa A 4320) (sa A 4320 - y) ob)) ?_ ?_ (x + 1) ob (by omega) ⟨j1, j2⟩ u7 u8 (by omega)
    · rintro ob ⟨q1, q2⟩ u7 u8 _
      rw [N_X10_soonestPair_33]
      simp (disch := first | omega | exact c1_int _ | exact c1_none | exact c1_ref _ | exact isRf_ref _ | assumption | exact okRb _ | exact okN1 | exact okN0 | exact rfl) only [N_X10_soonestPair_0, N_X10_soonestPair_1, N_X10_soonestPair_3, N_X10_soonestPair_4, N_X10_soonestPair_5, N_X10_soonestPair_6, N_X10_soonestPair_7, N_X10_soonestPair_10, N_X10_soonestPair_12, N_X10_soonestPair_13, N_X10_soonestPair_17, N_X10_soonestPair_18, N_X10_soonestPair_21, N_X10_soonestPair_24, N_X10_soonestPair_27, N_X10_soonestPair_29, N_X10_soonestPair_30, N_X10_soonestPair_31, N_X10_soonestPair_35, N_X10_soonestPair_36, N_X10_soonestPair_39, N_X10_soonestPair_42, N_X10_soonestPair_45, N_X10_soonestPair_46, N_X10_soonestPair_48, N_X10_soonestPair_49, N_X10_soonestPair_50, N_X10_soonestPair_52, N_X10_soonestPair_53, N_X10_soonestPair_54, N_X10_soonestPair_56, N_X10_soonestPair_57, N_X10_soonestPair_59, N_X10_soonestPair_60, N_X10_soonestPair_62, N_X10_soonestPair_65, N_X10_soonestPair_66, N_X10_soonestPair_69, N_X10_soonestPair_71, N_X10_soonestPair_72, N_X10_soonestPair_74, N_X10_soonestPair_75, N_X10_soonestPair_78, N_X10_soonestPair_81, N_X10_soonestPair_82, N_X10_soonestPair_84, N_X10_soonestPair_86, N_X10_soonestPair_87, N_X10_soonestPair_90, N_X10_soonestPair_92, N_X10_soonestPair_94, N_X10_soonestPair_97, N_X10_soonestPair_99, N_X10_soonestPair_101, N_X10_soonestPair_103, N_X10_soonestPair_104, N_X10_soonestPair_107, N_X10_soonestPair_110, N_X10_soonestPair_113, N_X10_soonestPair_116, N_X10_soonestPair_117, if_true, if_false, ite_true, ite_false, not_false_eq_true, not_true_eq_false, isRf_ref, isRf_null, c1_int, c1_ref, c1_null, c1_none, rfv_some, rfv_none, Ok_s, tl_some, tl_none, List.nil_append, b2i_n1, b2i_n0, ↓reduceIte, nI_add, pk_mul, pk_sub, n_leT, n_leF, n_ltT, n_ltF, n_eqT, n_eqF, n_shl1, n_shl, n_shr, nI_and, nI_or, nI_xor, b2i_z, b2i_o, m1_n, n_m1, m1_lt, m1_le, n_lm1, n_em1, nI_m1, and1, and3, and7, and15, and63, and255, Bool.true_eq_false, Bool.false_eq_true, reduceCtorEq, Nat.reduceAdd, Nat.reduceMul, Nat.reduceSub, Nat.reduceDiv, Nat.reduceMod, Nat.reducePow, Nat.zero_add, Nat.one_mul, g0]
      refine ih ob ⟨q1, ?_⟩ _ _ _
      rw [q2, Nat.sub_self]
      rfl
    · rintro y ob hy ⟨q1, q2⟩ ih2 u7 u8 hxy
      obtain ⟨o1, o2⟩ := okB ob q1
      have hys : spY (prN (sa A) k (st % 8)) (st / 8) x (sa A 4320) (sa A 4320 - y) ob = spY (prN (sa A) k (st % 8)) (st / 8) x (sa A 4320) (sa A 4320 - (y + 1)) (sp1 (prN (sa A) k (st % 8)) (st / 8) x y ob) := by
        rw [show sa A 4320 - y = (sa A 4320 - (y + 1)) + 1 by omega]
        show spY _ _ _ _ (sa A 4320 - (y + 1)) (sp1 _ _ _ (sa A 4320 - ((sa A 4320 - (y + 1)) + 1)) ob) = _
        rw [show sa A 4320 - ((sa A 4320 - (y + 1)) + 1) = y by omega]
      rw [hys] at q2
      have hnx := ih2 (sp1 (prN (sa A) k (st % 8)) (st / 8) x y ob) ⟨sp1_ok q1 hxy hy, q2⟩
      obtain ⟨t1, t2, t3⟩ := two_v (m := k + 1) (S := fun _ => true) hA (by omega) (by omega) hx hy he rfl
      have e8 : (8 * (2 ^ x ||| 2 ^ y) + st % 8) / 8 = 2 ^ x ||| 2 ^ y := by omega
      have hgl : glv (behA (sa A) (k + 1)) sg 1 (8 * (2 ^ x ||| 2 ^ y) + st % 8) = prN (sa A) k (st % 8) x y := by
        rw [glv_few hA (by omega) (by omega) hV.2.1 t1.1 (by rw [e8]; exact t3)]
        rfl
      have em : (m1 = m1) = True := eq_true rfl
      rw [N_X10_soonestPair_33]
      by_cases hin : (st / 8).testBit x = true ∧ (st / 8).testBit y = true
      · have hand := bit_two hin.1 hin.2
        have hlv := c_lvAt (xs := xs) (Ln := Ln) (d := d) (L := L) hC.2.1 hV t2 he (Or.inr (hPE x y hxy hin.1 hin.2))
        rw [hgl] at hlv
        cases hp : prN (sa A) k (st % 8) x y with
        | none =>
          rw [hp] at hlv
          rw [sp1_n hin hp] at hnx
          simp (disch := first | omega | exact c1_int _ | exact c1_none | exact c1_ref _ | exact isRf_ref _ | assumption | exact okRb _ | exact okN1 | exact okN0 | exact rfl) only [N_X10_soonestPair_0, N_X10_soonestPair_1, N_X10_soonestPair_3, N_X10_soonestPair_4, N_X10_soonestPair_5, N_X10_soonestPair_6, N_X10_soonestPair_7, N_X10_soonestPair_10, N_X10_soonestPair_12, N_X10_soonestPair_13, N_X10_soonestPair_17, N_X10_soonestPair_18, N_X10_soonestPair_21, N_X10_soonestPair_24, N_X10_soonestPair_27, N_X10_soonestPair_29, N_X10_soonestPair_30, N_X10_soonestPair_31, N_X10_soonestPair_35, N_X10_soonestPair_36, N_X10_soonestPair_39, N_X10_soonestPair_42, N_X10_soonestPair_45, N_X10_soonestPair_46, N_X10_soonestPair_48, N_X10_soonestPair_49, N_X10_soonestPair_50, N_X10_soonestPair_52, N_X10_soonestPair_53, N_X10_soonestPair_54, N_X10_soonestPair_56, N_X10_soonestPair_57, N_X10_soonestPair_59, N_X10_soonestPair_60, N_X10_soonestPair_62, N_X10_soonestPair_65, N_X10_soonestPair_66, N_X10_soonestPair_69, N_X10_soonestPair_71, N_X10_soonestPair_72, N_X10_soonestPair_74, N_X10_soonestPair_75, N_X10_soonestPair_78, N_X10_soonestPair_81, N_X10_soonestPair_82, N_X10_soonestPair_84, N_X10_soonestPair_86, N_X10_soonestPair_87, N_X10_soonestPair_90, N_X10_soonestPair_92, N_X10_soonestPair_94, N_X10_soonestPair_97, N_X10_soonestPair_99, N_X10_soonestPair_101, N_X10_soonestPair_103, N_X10_soonestPair_104, N_X10_soonestPair_107, N_X10_soonestPair_110, N_X10_soonestPair_113, N_X10_soonestPair_116, N_X10_soonestPair_117, if_true, if_false, ite_true, ite_false, not_false_eq_true, not_true_eq_false, isRf_ref, isRf_null, c1_int, c1_ref, c1_null, c1_none, rfv_some, rfv_none, Ok_s, tl_some, tl_none, List.nil_append, b2i_n1, b2i_n0, ↓reduceIte, nI_add, pk_mul, pk_sub, n_leT, n_leF, n_ltT, n_ltF, n_eqT, n_eqF, n_shl1, n_shl, n_shr, nI_and, nI_or, nI_xor, b2i_z, b2i_o, m1_n, n_m1, m1_lt, m1_le, n_lm1, n_em1, nI_m1, and1, and3, and7, and15, and63, and255, Bool.true_eq_false, Bool.false_eq_true, reduceCtorEq, Nat.reduceAdd, Nat.reduceMul, Nat.reduceSub, Nat.reduceDiv, Nat.reduceMod, Nat.reducePow, Nat.zero_add, Nat.one_mul, g0, hand, hlv, nO_n, em]
          exact hnx _ _ (by omega)
        | some v =>
          have hv := prN_lt2 hA hk hx hy he hp
          rw [hp] at hlv
          rw [sp1_v hin hp hv] at hnx
          by_cases hlt : v < lsO ob
          · rw [if_pos hlt] at hnx
            simp (disch := first | omega | exact c1_int _ | exact c1_none | exact c1_ref _ | exact isRf_ref _ | assumption | exact okRb _ | exact okN1 | exact okN0 | exact rfl) only [N_X10_soonestPair_0, N_X10_soonestPair_1, N_X10_soonestPair_3, N_X10_soonestPair_4, N_X10_soonestPair_5, N_X10_soonestPair_6, N_X10_soonestPair_7, N_X10_soonestPair_10, N_X10_soonestPair_12, N_X10_soonestPair_13, N_X10_soonestPair_17, N_X10_soonestPair_18, N_X10_soonestPair_21, N_X10_soonestPair_24, N_X10_soonestPair_27, N_X10_soonestPair_29, N_X10_soonestPair_30, N_X10_soonestPair_31, N_X10_soonestPair_35, N_X10_soonestPair_36, N_X10_soonestPair_39, N_X10_soonestPair_42, N_X10_soonestPair_45, N_X10_soonestPair_46, N_X10_soonestPair_48, N_X10_soonestPair_49, N_X10_soonestPair_50, N_X10_soonestPair_52, N_X10_soonestPair_53, N_X10_soonestPair_54, N_X10_soonestPair_56, N_X10_soonestPair_57, N_X10_soonestPair_59, N_X10_soonestPair_60, N_X10_soonestPair_62, N_X10_soonestPair_65, N_X10_soonestPair_66, N_X10_soonestPair_69, N_X10_soonestPair_71, N_X10_soonestPair_72, N_X10_soonestPair_74, N_X10_soonestPair_75, N_X10_soonestPair_78, N_X10_soonestPair_81, N_X10_soonestPair_82, N_X10_soonestPair_84, N_X10_soonestPair_86, N_X10_soonestPair_87, N_X10_soonestPair_90, N_X10_soonestPair_92, N_X10_soonestPair_94, N_X10_soonestPair_97, N_X10_soonestPair_99, N_X10_soonestPair_101, N_X10_soonestPair_103, N_X10_soonestPair_104, N_X10_soonestPair_107, N_X10_soonestPair_110, N_X10_soonestPair_113, N_X10_soonestPair_116, N_X10_soonestPair_117, if_true, if_false, ite_true, ite_false, not_false_eq_true, not_true_eq_false, isRf_ref, isRf_null, c1_int, c1_ref, c1_null, c1_none, rfv_some, rfv_none, Ok_s, tl_some, tl_none, List.nil_append, b2i_n1, b2i_n0, ↓reduceIte, nI_add, pk_mul, pk_sub, n_leT, n_leF, n_ltT, n_ltF, n_eqT, n_eqF, n_shl1, n_shl, n_shr, nI_and, nI_or, nI_xor, b2i_z, b2i_o, m1_n, n_m1, m1_lt, m1_le, n_lm1, n_em1, nI_m1, and1, and3, and7, and15, and63, and255, Bool.true_eq_false, Bool.false_eq_true, reduceCtorEq, Nat.reduceAdd, Nat.reduceMul, Nat.reduceSub, Nat.reduceDiv, Nat.reduceMod, Nat.reducePow, Nat.zero_add, Nat.one_mul, g0, hand, hlv, nO_s]
            exact hnx _ _ (by omega)
          · rw [if_neg hlt] at hnx
            simp (disch := first | omega | exact c1_int _ | exact c1_none | exact c1_ref _ | exact isRf_ref _ | assumption | exact okRb _ | exact okN1 | exact okN0 | exact rfl) only [N_X10_soonestPair_0, N_X10_soonestPair_1, N_X10_soonestPair_3, N_X10_soonestPair_4, N_X10_soonestPair_5, N_X10_soonestPair_6, N_X10_soonestPair_7, N_X10_soonestPair_10, N_X10_soonestPair_12, N_X10_soonestPair_13, N_X10_soonestPair_17, N_X10_soonestPair_18, N_X10_soonestPair_21, N_X10_soonestPair_24, N_X10_soonestPair_27, N_X10_soonestPair_29, N_X10_soonestPair_30, N_X10_soonestPair_31, N_X10_soonestPair_35, N_X10_soonestPair_36, N_X10_soonestPair_39, N_X10_soonestPair_42, N_X10_soonestPair_45, N_X10_soonestPair_46, N_X10_soonestPair_48, N_X10_soonestPair_49, N_X10_soonestPair_50, N_X10_soonestPair_52, N_X10_soonestPair_53, N_X10_soonestPair_54, N_X10_soonestPair_56, N_X10_soonestPair_57, N_X10_soonestPair_59, N_X10_soonestPair_60, N_X10_soonestPair_62, N_X10_soonestPair_65, N_X10_soonestPair_66, N_X10_soonestPair_69, N_X10_soonestPair_71, N_X10_soonestPair_72, N_X10_soonestPair_74, N_X10_soonestPair_75, N_X10_soonestPair_78, N_X10_soonestPair_81, N_X10_soonestPair_82, N_X10_soonestPair_84, N_X10_soonestPair_86, N_X10_soonestPair_87, N_X10_soonestPair_90, N_X10_soonestPair_92, N_X10_soonestPair_94, N_X10_soonestPair_97, N_X10_soonestPair_99, N_X10_soonestPair_101, N_X10_soonestPair_103, N_X10_soonestPair_104, N_X10_soonestPair_107, N_X10_soonestPair_110, N_X10_soonestPair_113, N_X10_soonestPair_116, N_X10_soonestPair_117, if_true, if_false, ite_true, ite_false, not_false_eq_true, not_true_eq_false, isRf_ref, isRf_null, c1_int, c1_ref, c1_null, c1_none, rfv_some, rfv_none, Ok_s, tl_some, tl_none, List.nil_append, b2i_n1, b2i_n0, ↓reduceIte, nI_add, pk_mul, pk_sub, n_leT, n_leF, n_ltT, n_ltF, n_eqT, n_eqF, n_shl1, n_shl, n_shr, nI_and, nI_or, nI_xor, b2i_z, b2i_o, m1_n, n_m1, m1_lt, m1_le, n_lm1, n_em1, nI_m1, and1, and3, and7, and15, and63, and255, Bool.true_eq_false, Bool.false_eq_true, reduceCtorEq, Nat.reduceAdd, Nat.reduceMul, Nat.reduceSub, Nat.reduceDiv, Nat.reduceMod, Nat.reducePow, Nat.zero_add, Nat.one_mul, g0, hand, hlv, nO_s]
            exact hnx _ _ (by omega)
      · have hand : st / 8 &&& (2 ^ x ||| 2 ^ y) ≠ 2 ^ x ||| 2 ^ y := fun h => hin (bit_two2 h)
        have hal : st / 8 &&& (2 ^ x ||| 2 ^ y) < 2147483648 := Nat.lt_of_le_of_lt Nat.and_le_left (by omega)
        have hsp : sp1 (prN (sa A) k (st % 8)) (st / 8) x y ob = ob := by unfold sp1; rw [if_neg hin]
        rw [hsp] at hnx
        simp (disch := first | omega | exact c1_int _ | exact c1_none | exact c1_ref _ | exact isRf_ref _ | assumption | exact okRb _ | exact okN1 | exact okN0 | exact rfl) only [N_X10_soonestPair_0, N_X10_soonestPair_1, N_X10_soonestPair_3, N_X10_soonestPair_4, N_X10_soonestPair_5, N_X10_soonestPair_6, N_X10_soonestPair_7, N_X10_soonestPair_10, N_X10_soonestPair_12, N_X10_soonestPair_13, N_X10_soonestPair_17, N_X10_soonestPair_18, N_X10_soonestPair_21, N_X10_soonestPair_24, N_X10_soonestPair_27, N_X10_soonestPair_29, N_X10_soonestPair_30, N_X10_soonestPair_31, N_X10_soonestPair_35, N_X10_soonestPair_36, N_X10_soonestPair_39, N_X10_soonestPair_42, N_X10_soonestPair_45, N_X10_soonestPair_46, N_X10_soonestPair_48, N_X10_soonestPair_49, N_X10_soonestPair_50, N_X10_soonestPair_52, N_X10_soonestPair_53, N_X10_soonestPair_54, N_X10_soonestPair_56, N_X10_soonestPair_57, N_X10_soonestPair_59, N_X10_soonestPair_60, N_X10_soonestPair_62, N_X10_soonestPair_65, N_X10_soonestPair_66, N_X10_soonestPair_69, N_X10_soonestPair_71, N_X10_soonestPair_72, N_X10_soonestPair_74, N_X10_soonestPair_75, N_X10_soonestPair_78, N_X10_soonestPair_81, N_X10_soonestPair_82, N_X10_soonestPair_84, N_X10_soonestPair_86, N_X10_soonestPair_87, N_X10_soonestPair_90, N_X10_soonestPair_92, N_X10_soonestPair_94, N_X10_soonestPair_97, N_X10_soonestPair_99, N_X10_soonestPair_101, N_X10_soonestPair_103, N_X10_soonestPair_104, N_X10_soonestPair_107, N_X10_soonestPair_110, N_X10_soonestPair_113, N_X10_soonestPair_116, N_X10_soonestPair_117, if_true, if_false, ite_true, ite_false, not_false_eq_true, not_true_eq_false, isRf_ref, isRf_null, c1_int, c1_ref, c1_null, c1_none, rfv_some, rfv_none, Ok_s, tl_some, tl_none, List.nil_append, b2i_n1, b2i_n0, ↓reduceIte, nI_add, pk_mul, pk_sub, n_leT, n_leF, n_ltT, n_ltF, n_eqT, n_eqF, n_shl1, n_shl, n_shr, nI_and, nI_or, nI_xor, b2i_z, b2i_o, m1_n, n_m1, m1_lt, m1_le, n_lm1, n_em1, nI_m1, and1, and3, and7, and15, and63, and255, Bool.true_eq_false, Bool.false_eq_true, reduceCtorEq, Nat.reduceAdd, Nat.reduceMul, Nat.reduceSub, Nat.reduceDiv, Nat.reduceMod, Nat.reducePow, Nat.zero_add, Nat.one_mul, g0, em]
        exact hnx _ _ (by omega)
end Pe3
