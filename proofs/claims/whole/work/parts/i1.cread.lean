section Pi1
variable {xs : Nat → Int32} {Ln d : Nat} {D D' D'' : Dyn} {I I' I'' J : Nat → Nat → Int32} {L : Nat → Nat → Int64} {w : Om} {Q : Res → Prop} {ow ow' ow'' ky ky' ky'' ln ln' ln'' a a' : Nat → Nat} {o be sr : Nat} {A A' : As} {nn : Nat}
section TKC
variable {tk vl ps : Nat → Nat} {m f : Nat}
def PQ (D : Dyn) (I : Nat → Nat → Int32) (L : Nat → Nat → Int64) (m : Nat) (res : Nat ⊕ (List Nat × List Cl)) (q : Res) : Prop := match res with
  | .inl p => p ≤ m ∧ ∃ J, q = (mkW D J L, some .null) ∧ (∀ k, (k < 16 ∨ 22 < k ∨ (18 ≤ k ∧ k ≤ 20)) → J k = I k) ∧ J 17 1 = nI p
  | .inr y => ∃ D' J L', q = (mkW D' J L', some (.ref (103 + D.1))) ∧ (∀ k, (k < 16 ∨ 22 < k) → k < 103 + D.1 → J k = I k) ∧ LwG D D' y.1.length y.2.length ∧ cod (J (103 + D.1 + 1)) 0 y.1 ∧ clR (J (103 + D.1 + 2)) y.2
theorem PQ_l {r : Nat → Int32} {p l s : Nat} (hp : p ≤ m) (hK : KR22 I I') : PQ D I L m (.inl p) (mkW D (cst I' r p l s) L, some .null) := by
  show p ≤ m ∧ ∃ J, ((mkW D (cst I' r p l s) L, some .null) : Res) = (mkW D J L, some .null) ∧ (∀ k, (k < 16 ∨ 22 < k ∨ (18 ≤ k ∧ k ≤ 20)) → J k = I k) ∧ J 17 1 = nI p
  exact ⟨hp, _, rfl, fun k hk => by rw [cst_k (by omega) (by omega) (by omega)]; exact hK k (by omega), cst_17⟩
/-- the law that has been read is made -/
theorem c_mkLaw {r : Nat → Int32} {p l s k d' : Nat} {c : List Nat} {cls : List Cl} {u1 u2 : Option Value} (hK : KR22 I I') (hs : s = c.length) (h4 : s ≤ 400) (hc : cod r 0 c) (hk : k < 12) (hcl : cls.length = k + 1) (hr : clR (I' 22) cls) (hQ : ∀ q, PQ D I L m (.inr (c, cls)) q → Q q) : G_X2_read xs Ln (d' + 1) 56 [some (.ref 16), u1, u2, some (.int (nI (4 * k)))] [] (mkW D (cst I' r p l s) L) Q := by
  have e21 : shF (dNew D (.inr 1) (nF 1)) 21 = .inl (.int, 800) := by rw [dn_sh, if_neg (by omega)]; rfl
  have e22 : shF (dNew (dNew D (.inr 1) (nF 1)) (.inl (.int, s)) s) 22 = .inl (.int, 48) := by rw [dn_sh, if_neg (by omega), dn_sh, if_neg (by omega)]; rfl
  have d1' : (dNew D (.inr 1) (nF 1)).1 = D.1 + 1 := rfl
  have d2' : (dNew (dNew D (.inr 1) (nF 1)) (.inl (.int, s)) s).1 = D.1 + 2 := rfl
  have d3' : (dNew (dNew (dNew D (.inr 1) (nF 1)) (.inl (.int, s)) s) (.inl (.int, 4 * k + 4)) (4 * k + 4)).1 = D.1 + 3 := rfl
  rw [N_X2_read_56]
  simp (disch := first | omega | exact c1_int _ | exact c1_none | exact c1_ref _ | exact isRf_ref _ | assumption | exact okRb _ | exact okN1 | exact okN0 | exact rfl) only [N_X2_read_0, N_X2_read_1, N_X2_read_4, N_X2_read_5, N_X2_read_6, N_X2_read_7, N_X2_read_8, N_X2_read_11, N_X2_read_14, N_X2_read_15, N_X2_read_16, N_X2_read_19, N_X2_read_20, N_X2_read_21, N_X2_read_24, N_X2_read_25, N_X2_read_27, N_X2_read_28, N_X2_read_31, N_X2_read_32, N_X2_read_35, N_X2_read_36, N_X2_read_37, N_X2_read_40, N_X2_read_43, N_X2_read_44_z, N_X2_read_44_r, N_X2_read_45, N_X2_read_46, N_X2_read_49, N_X2_read_52, N_X2_read_53, N_X2_read_59, N_X2_read_60, N_X2_read_61, N_X2_read_64, N_X2_read_65, N_X2_read_68, N_X2_read_71, N_X2_read_72, N_X2_read_75, N_X2_read_76, N_X2_read_77, N_X2_read_78, N_X2_read_81, N_X2_read_84_z, N_X2_read_84_r, N_X2_read_85, N_X2_read_86, N_X2_read_89, N_X2_read_92, N_X2_read_94, N_X2_read_97, N_X2_read_98_z, N_X2_read_98_r, N_X2_read_99, N_X2_read_100, N_X2_read_103, N_X2_read_106, N_X2_read_109, N_X2_read_112, N_X2_read_113_z, N_X2_read_113_r, if_true, if_false, ite_true, ite_false, not_false_eq_true, not_true_eq_false, isRf_ref, isRf_null, c1_int, c1_ref, c1_null, c1_none, rfv_some, rfv_none, Ok_s, tl_some, tl_none, List.nil_append, b2i_n1, b2i_n0, ↓reduceIte, nI_add, pk_mul, pk_sub, n_leT, n_leF, n_ltT, n_ltF, n_eqT, n_eqF, n_shl1, n_shl, n_shr, nI_and, nI_or, nI_xor, b2i_z, b2i_o, m1_n, n_m1, m1_lt, m1_le, n_lm1, n_em1, nI_m1, and1, and3, and7, and15, and63, and255, Bool.true_eq_false, Bool.false_eq_true, reduceCtorEq, Nat.reduceAdd, Nat.reduceMul, Nat.reduceSub, Nat.reduceDiv, Nat.reduceMod, Nat.reducePow, Nat.zero_add, Nat.one_mul, upr_o, cst_162]
  refine Ok.mono (c_copyOf (d := d') (k := 21) (n := 800) (m := s) e21 (by omega) (by omega) (by omega)) ?_
  rintro _ ⟨I3, L3, rfl, a1, a2, a3⟩
  simp (disch := first | omega | exact c1_int _ | exact c1_none | exact c1_ref _ | exact isRf_ref _ | assumption | exact okRb _ | exact okN1 | exact okN0 | exact rfl) only [N_X2_read_0, N_X2_read_1, N_X2_read_4, N_X2_read_5, N_X2_read_6, N_X2_read_7, N_X2_read_8, N_X2_read_11, N_X2_read_14, N_X2_read_15, N_X2_read_16, N_X2_read_19, N_X2_read_20, N_X2_read_21, N_X2_read_24, N_X2_read_25, N_X2_read_27, N_X2_read_28, N_X2_read_31, N_X2_read_32, N_X2_read_35, N_X2_read_36, N_X2_read_37, N_X2_read_40, N_X2_read_43, N_X2_read_44_z, N_X2_read_44_r, N_X2_read_45, N_X2_read_46, N_X2_read_49, N_X2_read_52, N_X2_read_53, N_X2_read_59, N_X2_read_60, N_X2_read_61, N_X2_read_64, N_X2_read_65, N_X2_read_68, N_X2_read_71, N_X2_read_72, N_X2_read_75, N_X2_read_76, N_X2_read_77, N_X2_read_78, N_X2_read_81, N_X2_read_84_z, N_X2_read_84_r, N_X2_read_85, N_X2_read_86, N_X2_read_89, N_X2_read_92, N_X2_read_94, N_X2_read_97, N_X2_read_98_z, N_X2_read_98_r, N_X2_read_99, N_X2_read_100, N_X2_read_103, N_X2_read_106, N_X2_read_109, N_X2_read_112, N_X2_read_113_z, N_X2_read_113_r, if_true, if_false, ite_true, ite_false, not_false_eq_true, not_true_eq_false, isRf_ref, isRf_null, c1_int, c1_ref, c1_null, c1_none, rfv_some, rfv_none, Ok_s, tl_some, tl_none, List.nil_append, b2i_n1, b2i_n0, ↓reduceIte, nI_add, pk_mul, pk_sub, n_leT, n_leF, n_ltT, n_ltF, n_eqT, n_eqF, n_shl1, n_shl, n_shr, nI_and, nI_or, nI_xor, b2i_z, b2i_o, m1_n, n_m1, m1_lt, m1_le, n_lm1, n_em1, nI_m1, and1, and3, and7, and15, and63, and255, Bool.true_eq_false, Bool.false_eq_true, reduceCtorEq, Nat.reduceAdd, Nat.reduceMul, Nat.reduceSub, Nat.reduceDiv, Nat.reduceMod, Nat.reducePow, Nat.zero_add, Nat.one_mul]
  refine Ok.mono (c_copyOf (d := d') (k := 22) (n := 48) (m := 4 * k + 4) e22 (by omega) (by omega) (by omega)) ?_
  rintro _ ⟨I4, L4, rfl, b1, b2, b3⟩
  have e5 : shF (dNew (dNew (dNew D (.inr 1) (nF 1)) (.inl (.int, s)) s) (.inl (.int, 4 * k + 4)) (4 * k + 4)) (103 + D.1) = .inr 1 := by rw [dn_sh, if_neg (by omega), dn_sh, if_neg (by omega), dn_sh, if_pos rfl]
  have hob : isObj (mkW (dNew (dNew (dNew D (.inr 1) (nF 1)) (.inl (.int, s)) s) (.inl (.int, 4 * k + 4)) (4 * k + 4)) I4 L4) (103 + D.1) 1 = true := ob_sh e5 (by decide)
  simp (disch := first | omega | exact c1_int _ | exact c1_none | exact c1_ref _ | exact isRf_ref _ | assumption | exact okRb _ | exact okN1 | exact okN0 | exact rfl) only [N_X2_read_0, N_X2_read_1, N_X2_read_4, N_X2_read_5, N_X2_read_6, N_X2_read_7, N_X2_read_8, N_X2_read_11, N_X2_read_14, N_X2_read_15, N_X2_read_16, N_X2_read_19, N_X2_read_20, N_X2_read_21, N_X2_read_24, N_X2_read_25, N_X2_read_27, N_X2_read_28, N_X2_read_31, N_X2_read_32, N_X2_read_35, N_X2_read_36, N_X2_read_37, N_X2_read_40, N_X2_read_43, N_X2_read_44_z, N_X2_read_44_r, N_X2_read_45, N_X2_read_46, N_X2_read_49, N_X2_read_52, N_X2_read_53, N_X2_read_59, N_X2_read_60, N_X2_read_61, N_X2_read_64, N_X2_read_65, N_X2_read_68, N_X2_read_71, N_X2_read_72, N_X2_read_75, N_X2_read_76, N_X2_read_77, N_X2_read_78, N_X2_read_81, N_X2_read_84_z, N_X2_read_84_r, N_X2_read_85, N_X2_read_86, N_X2_read_89, N_X2_read_92, N_X2_read_94, N_X2_read_97, N_X2_read_98_z, N_X2_read_98_r, N_X2_read_99, N_X2_read_100, N_X2_read_103, N_X2_read_106, N_X2_read_109, N_X2_read_112, N_X2_read_113_z, N_X2_read_113_r, if_true, if_false, ite_true, ite_false, not_false_eq_true, not_true_eq_false, isRf_ref, isRf_null, c1_int, c1_ref, c1_null, c1_none, rfv_some, rfv_none, Ok_s, tl_some, tl_none, List.nil_append, b2i_n1, b2i_n0, ↓reduceIte, nI_add, pk_mul, pk_sub, n_leT, n_leF, n_ltT, n_ltF, n_eqT, n_eqF, n_shl1, n_shl, n_shr, nI_and, nI_or, nI_xor, b2i_z, b2i_o, m1_n, n_m1, m1_lt, m1_le, n_lm1, n_em1, nI_m1, and1, and3, and7, and15, and63, and255, Bool.true_eq_false, Bool.false_eq_true, reduceCtorEq, Nat.reduceAdd, Nat.reduceMul, Nat.reduceSub, Nat.reduceDiv, Nat.reduceMod, Nat.reducePow, Nat.zero_add, Nat.one_mul]
  refine Ok.of (c_lwInit (d := d') e5 (by omega) (by omega)) ?_
  simp (disch := first | omega | exact c1_int _ | exact c1_none | exact c1_ref _ | exact isRf_ref _ | assumption | exact okRb _ | exact okN1 | exact okN0 | exact rfl) only [N_X2_read_0, N_X2_read_1, N_X2_read_4, N_X2_read_5, N_X2_read_6, N_X2_read_7, N_X2_read_8, N_X2_read_11, N_X2_read_14, N_X2_read_15, N_X2_read_16, N_X2_read_19, N_X2_read_20, N_X2_read_21, N_X2_read_24, N_X2_read_25, N_X2_read_27, N_X2_read_28, N_X2_read_31, N_X2_read_32, N_X2_read_35, N_X2_read_36, N_X2_read_37, N_X2_read_40, N_X2_read_43, N_X2_read_44_z, N_X2_read_44_r, N_X2_read_45, N_X2_read_46, N_X2_read_49, N_X2_read_52, N_X2_read_53, N_X2_read_59, N_X2_read_60, N_X2_read_61, N_X2_read_64, N_X2_read_65, N_X2_read_68, N_X2_read_71, N_X2_read_72, N_X2_read_75, N_X2_read_76, N_X2_read_77, N_X2_read_78, N_X2_read_81, N_X2_read_84_z, N_X2_read_84_r, N_X2_read_85, N_X2_read_86, N_X2_read_89, N_X2_read_92, N_X2_read_94, N_X2_read_97, N_X2_read_98_z, N_X2_read_98_r, N_X2_read_99, N_X2_read_100, N_X2_read_103, N_X2_read_106, N_X2_read_109, N_X2_read_112, N_X2_read_113_z, N_X2_read_113_r, if_true, if_false, ite_true, ite_false, not_false_eq_true, not_true_eq_false, isRf_ref, isRf_null, c1_int, c1_ref, c1_null, c1_none, rfv_some, rfv_none, Ok_s, tl_some, tl_none, List.nil_append, b2i_n1, b2i_n0, ↓reduceIte, nI_add, pk_mul, pk_sub, n_leT, n_leF, n_ltT, n_ltF, n_eqT, n_eqF, n_shl1, n_shl, n_shr, nI_and, nI_or, nI_xor, b2i_z, b2i_o, m1_n, n_m1, m1_lt, m1_le, n_lm1, n_em1, nI_m1, and1, and3, and7, and15, and63, and255, Bool.true_eq_false, Bool.false_eq_true, reduceCtorEq, Nat.reduceAdd, Nat.reduceMul, Nat.reduceSub, Nat.reduceDiv, Nat.reduceMod, Nat.reducePow, Nat.zero_add, Nat.one_mul]
  refine hQ _ ?_
  have hG := lwG_of (D := D) (n := s) (m := k + 1) h4 (by omega)
  rw [d1'] at a1 a2 a3
  rw [d2'] at b1 b2 b3
  show ∃ D' J L', _ = ((mkW D' J L', some (.ref (103 + D.1))) : Res) ∧ (∀ k, (k < 16 ∨ 22 < k) → k < 103 + D.1 → J k = I k) ∧ LwG D D' c.length cls.length ∧ cod (J (103 + D.1 + 1)) 0 c ∧ clR (J (103 + D.1 + 2)) cls
  refine ⟨_, _, _, rfl, fun i hi hlt => ?_, by rw [← hs, hcl]; exact hG, fun j hj => ?_, fun j cl hj => ?_⟩
  · rw [upr_o _ _ (by omega), b1 i (by omega), a1 i (by omega), upr_o _ _ (by omega), cst_k (by omega) (by omega) (by omega)]
    exact hK i (by omega)
  · rw [upr_o _ _ (by omega), b1 _ (by omega), show 103 + D.1 + 1 = 103 + (D.1 + 1) by omega, a2 _ (by omega) (by omega), upr_o _ _ (by omega), cst_21]
    exact hc j hj
  · have hj2 : j < k + 1 := by
      have := (List.getElem?_eq_some_iff.mp hj).1
      omega
    have row : ∀ i, i < 4 * k + 4 → upr I4 (103 + (dNew (dNew (dNew D (.inr 1) (nF 1)) (.inl (.int, s)) s) (.inl (.int, 4 * k + 4)) (4 * k + 4)).1) (fun _ => 0) (103 + D.1 + 2) i = I' 22 i := fun i hi => by
      rw [upr_o _ _ (by omega), show 103 + D.1 + 2 = 103 + (D.1 + 2) by omega, b2 i (by omega) hi, a1 22 (by omega), upr_o _ _ (by omega), cst_k (by decide) (by decide) (by decide)]
    have := hr j cl hj
    rw [row (4 * j) (by omega), row (4 * j + 1) (by omega), row (4 * j + 2) (by omega), row (4 * j + 3) (by omega)]
    exact this
theorem rdL_s (k pos lv sz : Nat) : rdL tk vl m (k + 1) pos lv sz = match rdC tk vl pos lv sz with
    | .inl q => .inl q
    | .inr (p, l, c, cl) => if tk p = 159 then
        (match rdL tk vl m k (p + 1) l (sz + c.length) with
        | .inl q => .inl q
        | .inr (c2, cs) => .inr (c ++ c2, cl :: cs))
      else if p = m then .inr (c, [cl]) else .inl p := id rfl
def rdX (cd : List Nat) (cls : List Cl) (res : Nat ⊕ (List Nat × List Cl)) : Nat ⊕ (List Nat × List Cl) := match res with
  | .inl p => .inl p
  | .inr y => .inr (cd ++ y.1, cls ++ y.2)
theorem c_rdL (hT : TkC I tk vl ps m) {u1 : Option Value} {v2 : Int32} : ∀ j k (I' : Nat → Nat → Int32) (r : Nat → Int32) (pos lv sz : Nat) (cd : List Nat) (cls : List Cl), j + k = 12 → KR22 I I' → pos ≤ m → lv ≤ 50 → sz ≤ pos → sz = cd.length → cod r 0 cd → cls.length = k → clR (I' 22) cls → (∀ q, PQ D I L m (rdX cd cls (rdL tk vl m j pos lv sz)) q → Q q) → G_X2_read xs Ln (d + 111) 26 [some (.ref 16), u1, some (.int v2), some (.int (nI (4 * k)))] [] (mkW D (cst I' r pos lv sz) L) Q
  | 0, k, I', r, pos, lv, sz, cd, cls, hjk, hK, hp, hl, hsz, hcd, hc, hk, hr, hQ => by
    have hk12 : k = 12 := by omega
    rw [N_X2_read_26, hk12]
    simp (disch := first | omega | exact c1_int _ | exact c1_none | exact c1_ref _ | exact isRf_ref _ | assumption | exact okRb _ | exact okN1 | exact okN0 | exact rfl) only [N_X2_read_0, N_X2_read_1, N_X2_read_4, N_X2_read_5, N_X2_read_6, N_X2_read_7, N_X2_read_8, N_X2_read_11, N_X2_read_14, N_X2_read_15, N_X2_read_16, N_X2_read_19, N_X2_read_20, N_X2_read_21, N_X2_read_24, N_X2_read_25, N_X2_read_27, N_X2_read_28, N_X2_read_31, N_X2_read_32, N_X2_read_35, N_X2_read_36, N_X2_read_37, N_X2_read_40, N_X2_read_43, N_X2_read_44_z, N_X2_read_44_r, N_X2_read_45, N_X2_read_46, N_X2_read_49, N_X2_read_52, N_X2_read_53, N_X2_read_56, N_X2_read_59, N_X2_read_60, N_X2_read_61, N_X2_read_64, N_X2_read_65, N_X2_read_68, N_X2_read_71, N_X2_read_72, N_X2_read_75, N_X2_read_76, N_X2_read_77, N_X2_read_78, N_X2_read_81, N_X2_read_84_z, N_X2_read_84_r, N_X2_read_85, N_X2_read_86, N_X2_read_89, N_X2_read_92, N_X2_read_94, N_X2_read_97, N_X2_read_98_z, N_X2_read_98_r, N_X2_read_99, N_X2_read_100, N_X2_read_103, N_X2_read_106, N_X2_read_109, N_X2_read_112, N_X2_read_113_z, N_X2_read_113_r, if_true, if_false, ite_true, ite_false, not_false_eq_true, not_true_eq_false, isRf_ref, isRf_null, c1_int, c1_ref, c1_null, c1_none, rfv_some, rfv_none, Ok_s, tl_some, tl_none, List.nil_append, b2i_n1, b2i_n0, ↓reduceIte, nI_add, pk_mul, pk_sub, n_leT, n_leF, n_ltT, n_ltF, n_eqT, n_eqF, n_shl1, n_shl, n_shr, nI_and, nI_or, nI_xor, b2i_z, b2i_o, m1_n, n_m1, m1_lt, m1_le, n_lm1, n_em1, nI_m1, and1, and3, and7, and15, and63, and255, Bool.true_eq_false, Bool.false_eq_true, reduceCtorEq, Nat.reduceAdd, Nat.reduceMul, Nat.reduceSub, Nat.reduceDiv, Nat.reduceMod, Nat.reducePow, Nat.zero_add, Nat.one_mul]
    exact hQ _ (PQ_l hp hK)
  | j + 1, k, I', r, pos, lv, sz, cd, cls, hjk, hK, hp, hl, hsz, hcd, hc, hk, hr, hQ => by
    have h4 := hT.1
    have hz := hT.2.2.2.2.2.2.1
    have hT' := hK.tkc hT
    rw [rdL_s] at hQ
    rw [N_X2_read_26]
    simp (disch := first | omega | exact c1_int _ | exact c1_none | exact c1_ref _ | exact isRf_ref _ | assumption | exact okRb _ | exact okN1 | exact okN0 | exact rfl) only [N_X2_read_0, N_X2_read_1, N_X2_read_4, N_X2_read_5, N_X2_read_6, N_X2_read_7, N_X2_read_8, N_X2_read_11, N_X2_read_14, N_X2_read_15, N_X2_read_16, N_X2_read_19, N_X2_read_20, N_X2_read_21, N_X2_read_24, N_X2_read_25, N_X2_read_27, N_X2_read_28, N_X2_read_31, N_X2_read_32, N_X2_read_35, N_X2_read_36, N_X2_read_37, N_X2_read_40, N_X2_read_43, N_X2_read_44_z, N_X2_read_44_r, N_X2_read_45, N_X2_read_46, N_X2_read_49, N_X2_read_52, N_X2_read_53, N_X2_read_56, N_X2_read_59, N_X2_read_60, N_X2_read_61, N_X2_read_64, N_X2_read_65, N_X2_read_68, N_X2_read_71, N_X2_read_72, N_X2_read_75, N_X2_read_76, N_X2_read_77, N_X2_read_78, N_X2_read_81, N_X2_read_84_z, N_X2_read_84_r, N_X2_read_85, N_X2_read_86, N_X2_read_89, N_X2_read_92, N_X2_read_94, N_X2_read_97, N_X2_read_98_z, N_X2_read_98_r, N_X2_read_99, N_X2_read_100, N_X2_read_103, N_X2_read_106, N_X2_read_109, N_X2_read_112, N_X2_read_113_z, N_X2_read_113_r, if_true, if_false, ite_true, ite_false, not_false_eq_true, not_true_eq_false, isRf_ref, isRf_null, c1_int, c1_ref, c1_null, c1_none, rfv_some, rfv_none, Ok_s, tl_some, tl_none, List.nil_append, b2i_n1, b2i_n0, ↓reduceIte, nI_add, pk_mul, pk_sub, n_leT, n_leF, n_ltT, n_ltF, n_eqT, n_eqF, n_shl1, n_shl, n_shr, nI_and, nI_or, nI_xor, b2i_z, b2i_o, m1_n, n_m1, m1_lt, m1_le, n_lm1, n_em1, nI_m1, and1, and3, and7, and15, and63, and255, Bool.true_eq_false, Bool.false_eq_true, reduceCtorEq, Nat.reduceAdd, Nat.reduceMul, Nat.reduceSub, Nat.reduceDiv, Nat.reduceMod, Nat.reducePow, Nat.zero_add, Nat.one_mul]
    refine Ok.mono (c_clause (d := d + 1) (k := k) (r := r) hT' (by omega) hp hl hsz) ?_
    rintro _ ⟨J, ok, rfl, hP⟩
    cases hrc : rdC tk vl pos lv sz with
    | inl q =>
      rw [hrc] at hP hQ
      obtain ⟨rfl, hq, I2, r2, l2, s2, hs2, hK2, rfl⟩ := hP
      simp (disch := first | omega | exact c1_int _ | exact c1_none | exact c1_ref _ | exact isRf_ref _ | assumption | exact okRb _ | exact okN1 | exact okN0 | exact rfl) only [N_X2_read_0, N_X2_read_1, N_X2_read_4, N_X2_read_5, N_X2_read_6, N_X2_read_7, N_X2_read_8, N_X2_read_11, N_X2_read_14, N_X2_read_15, N_X2_read_16, N_X2_read_19, N_X2_read_20, N_X2_read_21, N_X2_read_24, N_X2_read_25, N_X2_read_27, N_X2_read_28, N_X2_read_31, N_X2_read_32, N_X2_read_35, N_X2_read_36, N_X2_read_37, N_X2_read_40, N_X2_read_43, N_X2_read_44_z, N_X2_read_44_r, N_X2_read_45, N_X2_read_46, N_X2_read_49, N_X2_read_52, N_X2_read_53, N_X2_read_56, N_X2_read_59, N_X2_read_60, N_X2_read_61, N_X2_read_64, N_X2_read_65, N_X2_read_68, N_X2_read_71, N_X2_read_72, N_X2_read_75, N_X2_read_76, N_X2_read_77, N_X2_read_78, N_X2_read_81, N_X2_read_84_z, N_X2_read_84_r, N_X2_read_85, N_X2_read_86, N_X2_read_89, N_X2_read_92, N_X2_read_94, N_X2_read_97, N_X2_read_98_z, N_X2_read_98_r, N_X2_read_99, N_X2_read_100, N_X2_read_103, N_X2_read_106, N_X2_read_109, N_X2_read_112, N_X2_read_113_z, N_X2_read_113_r, if_true, if_false, ite_true, ite_false, not_false_eq_true, not_true_eq_false, isRf_ref, isRf_null, c1_int, c1_ref, c1_null, c1_none, rfv_some, rfv_none, Ok_s, tl_some, tl_none, List.nil_append, b2i_n1, b2i_n0, ↓reduceIte, nI_add, pk_mul, pk_sub, n_leT, n_leF, n_ltT, n_ltF, n_eqT, n_eqF, n_shl1, n_shl, n_shr, nI_and, nI_or, nI_xor, b2i_z, b2i_o, m1_n, n_m1, m1_lt, m1_le, n_lm1, n_em1, nI_m1, and1, and3, and7, and15, and63, and255, Bool.true_eq_false, Bool.false_eq_true, reduceCtorEq, Nat.reduceAdd, Nat.reduceMul, Nat.reduceSub, Nat.reduceDiv, Nat.reduceMod, Nat.reducePow, Nat.zero_add, Nat.one_mul]
      exact hQ _ (PQ_l hq (fun i hi => by rw [hK2 i hi]; exact hK i hi))
    | inr y =>
      obtain ⟨p, l, c, cl⟩ := y
      rw [hrc] at hP hQ
      obtain ⟨rfl, I2, r2, hK2, rfl, hc2, hlo2, g0, g1, g2, g3, g4⟩ := hP
      dsimp only at hc2 hlo2 g1 g2 g3 g4 hQ
      have hKK : KR22 I I2 := fun i hi => by rw [hK2 i hi]; exact hK i hi
      have hT2 := hKK.tkc hT
      obtain ⟨i1, i2, i3, i4, i5⟩ := rdC_p hz hp hrc
      have hcc : cod r2 0 (cd ++ c) := cod_ai (fun i hi => by rw [hlo2 _ (by omega)]; exact hc i hi) (by rw [Nat.zero_add, ← hcd]; exact hc2)
      have hcr : clR (I2 22) (cls ++ [cl]) := by
        intro i cl' hi
        by_cases e : i < k
        · rw [List.getElem?_append_left (by omega)] at hi
          rw [g0 _ (by omega), g0 _ (by omega), g0 _ (by omega), g0 _ (by omega)]
          exact hr i cl' hi
        · rw [List.getElem?_append_right (by omega), hk] at hi
          have hi0 : i - k = 0 := by
            by_cases c0 : i - k = 0
            · exact c0
            · rw [List.getElem?_eq_none (by show 1 ≤ i - k; omega)] at hi
              cases hi
          have hik : i = k := by omega
          rw [hi0] at hi
          have hcl' : cl = cl' := by
            have : some cl = some cl' := hi
            cases this
            rfl
          rw [hik, ← hcl']
          exact ⟨g1, g2, g3, g4⟩
      have hlen : (cls ++ [cl]).length = k + 1 := by rw [List.length_append, hk]; rfl
      have hsl : sz + c.length = (cd ++ c).length := by rw [List.length_append, hcd]
      by_cases hpm : p = m
      · have e18 : I2 18 p = m1 := by rw [hpm]; exact hT2.2.2.2.1
        have h159 : ¬ tk p = 159 := by rw [hpm, hz m (Nat.le_refl _)]; decide
        rw [if_neg h159, if_pos hpm] at hQ
        simp (disch := first | omega | exact c1_int _ | exact c1_none | exact c1_ref _ | exact isRf_ref _ | assumption | exact okRb _ | exact okN1 | exact okN0 | exact rfl) only [N_X2_read_0, N_X2_read_1, N_X2_read_4, N_X2_read_5, N_X2_read_6, N_X2_read_7, N_X2_read_8, N_X2_read_11, N_X2_read_14, N_X2_read_15, N_X2_read_16, N_X2_read_19, N_X2_read_20, N_X2_read_21, N_X2_read_24, N_X2_read_25, N_X2_read_27, N_X2_read_28, N_X2_read_31, N_X2_read_32, N_X2_read_35, N_X2_read_36, N_X2_read_37, N_X2_read_40, N_X2_read_43, N_X2_read_44_z, N_X2_read_44_r, N_X2_read_45, N_X2_read_46, N_X2_read_49, N_X2_read_52, N_X2_read_53, N_X2_read_59, N_X2_read_60, N_X2_read_61, N_X2_read_64, N_X2_read_65, N_X2_read_68, N_X2_read_71, N_X2_read_72, N_X2_read_75, N_X2_read_76, N_X2_read_77, N_X2_read_78, N_X2_read_81, N_X2_read_84_z, N_X2_read_84_r, N_X2_read_85, N_X2_read_86, N_X2_read_89, N_X2_read_92, N_X2_read_94, N_X2_read_97, N_X2_read_98_z, N_X2_read_98_r, N_X2_read_99, N_X2_read_100, N_X2_read_103, N_X2_read_106, N_X2_read_109, N_X2_read_112, N_X2_read_113_z, N_X2_read_113_r, if_true, if_false, ite_true, ite_false, not_false_eq_true, not_true_eq_false, isRf_ref, isRf_null, c1_int, c1_ref, c1_null, c1_none, rfv_some, rfv_none, Ok_s, tl_some, tl_none, List.nil_append, b2i_n1, b2i_n0, ↓reduceIte, nI_add, pk_mul, pk_sub, n_leT, n_leF, n_ltT, n_ltF, n_eqT, n_eqF, n_shl1, n_shl, n_shr, nI_and, nI_or, nI_xor, b2i_z, b2i_o, m1_n, n_m1, m1_lt, m1_le, n_lm1, n_em1, nI_m1, and1, and3, and7, and15, and63, and255, Bool.true_eq_false, Bool.false_eq_true, reduceCtorEq, Nat.reduceAdd, Nat.reduceMul, Nat.reduceSub, Nat.reduceDiv, Nat.reduceMod, Nat.reducePow, Nat.zero_add, Nat.one_mul, c_kind, e18]
        exact c_mkLaw (d' := d + 110) hKK hsl (by omega) hcc (by omega) hlen hcr hQ
      · have e18 : (I2 18 p = m1) = False := by
          rw [hT2.2.2.1 p (by omega)]
          exact n_m1 (by have := kdN_lt (hT.2.2.2.2.2.2.2.1 p); omega)
        have k59 := hT2.ke i2 kx_59 (by decide) (by decide)
        by_cases h159 : tk p = 159
        · rw [if_pos h159] at hQ
          have hplt : p < m := by omega
          simp (disch := first | omega | exact c1_int _ | exact c1_none | exact c1_ref _ | exact isRf_ref _ | assumption | exact okRb _ | exact okN1 | exact okN0 | exact rfl) only [N_X2_read_0, N_X2_read_1, N_X2_read_4, N_X2_read_5, N_X2_read_6, N_X2_read_7, N_X2_read_8, N_X2_read_11, N_X2_read_14, N_X2_read_15, N_X2_read_16, N_X2_read_19, N_X2_read_20, N_X2_read_21, N_X2_read_24, N_X2_read_25, N_X2_read_27, N_X2_read_28, N_X2_read_31, N_X2_read_32, N_X2_read_35, N_X2_read_36, N_X2_read_37, N_X2_read_40, N_X2_read_43, N_X2_read_44_z, N_X2_read_44_r, N_X2_read_45, N_X2_read_46, N_X2_read_49, N_X2_read_52, N_X2_read_53, N_X2_read_59, N_X2_read_60, N_X2_read_61, N_X2_read_64, N_X2_read_65, N_X2_read_68, N_X2_read_71, N_X2_read_72, N_X2_read_75, N_X2_read_76, N_X2_read_77, N_X2_read_78, N_X2_read_81, N_X2_read_84_z, N_X2_read_84_r, N_X2_read_85, N_X2_read_86, N_X2_read_89, N_X2_read_92, N_X2_read_94, N_X2_read_97, N_X2_read_98_z, N_X2_read_98_r, N_X2_read_99, N_X2_read_100, N_X2_read_103, N_X2_read_106, N_X2_read_109, N_X2_read_112, N_X2_read_113_z, N_X2_read_113_r, if_true, if_false, ite_true, ite_false, not_false_eq_true, not_true_eq_false, isRf_ref, isRf_null, c1_int, c1_ref, c1_null, c1_none, rfv_some, rfv_none, Ok_s, tl_some, tl_none, List.nil_append, b2i_n1, b2i_n0, ↓reduceIte, nI_add, pk_mul, pk_sub, n_leT, n_leF, n_ltT, n_ltF, n_eqT, n_eqF, n_shl1, n_shl, n_shr, nI_and, nI_or, nI_xor, b2i_z, b2i_o, m1_n, n_m1, m1_lt, m1_le, n_lm1, n_em1, nI_m1, and1, and3, and7, and15, and63, and255, Bool.true_eq_false, Bool.false_eq_true, reduceCtorEq, Nat.reduceAdd, Nat.reduceMul, Nat.reduceSub, Nat.reduceDiv, Nat.reduceMod, Nat.reducePow, Nat.zero_add, Nat.one_mul, c_kind, e18, k59, h159, c_adv hT2 hplt]
          rw [show 4 * k + 4 = 4 * (k + 1) by omega]
          refine c_rdL hT j (k + 1) I2 r2 (p + 1) l (sz + c.length) (cd ++ c) (cls ++ [cl]) (by omega) hKK (by omega) (i4 hl) (by omega) hsl hcc hlen hcr (fun q hq => hQ q ?_)
          cases hrr : rdL tk vl m j (p + 1) l (sz + c.length) with
          | inl q' => rw [hrr] at hq; exact hq
          | inr y =>
            rw [hrr] at hq
            have e1 : rdX (cd ++ c) (cls ++ [cl]) (.inr y) = rdX cd cls (.inr (c ++ y.1, cl :: y.2)) := by
              show Sum.inr (cd ++ c ++ y.1, cls ++ [cl] ++ y.2) = Sum.inr (cd ++ (c ++ y.1), cls ++ (cl :: y.2))
              rw [List.append_assoc, List.append_assoc]
              rfl
            rw [e1] at hq
            exact hq
        · rw [if_neg h159, if_neg hpm] at hQ
          simp (disch := first | omega | exact c1_int _ | exact c1_none | exact c1_ref _ | exact isRf_ref _ | assumption | exact okRb _ | exact okN1 | exact okN0 | exact rfl) only [N_X2_read_0, N_X2_read_1, N_X2_read_4, N_X2_read_5, N_X2_read_6, N_X2_read_7, N_X2_read_8, N_X2_read_11, N_X2_read_14, N_X2_read_15, N_X2_read_16, N_X2_read_19, N_X2_read_20, N_X2_read_21, N_X2_read_24, N_X2_read_25, N_X2_read_27, N_X2_read_28, N_X2_read_31, N_X2_read_32, N_X2_read_35, N_X2_read_36, N_X2_read_37, N_X2_read_40, N_X2_read_43, N_X2_read_44_z, N_X2_read_44_r, N_X2_read_45, N_X2_read_46, N_X2_read_49, N_X2_read_52, N_X2_read_53, N_X2_read_59, N_X2_read_60, N_X2_read_61, N_X2_read_64, N_X2_read_65, N_X2_read_68, N_X2_read_71, N_X2_read_72, N_X2_read_75, N_X2_read_76, N_X2_read_77, N_X2_read_78, N_X2_read_81, N_X2_read_84_z, N_X2_read_84_r, N_X2_read_85, N_X2_read_86, N_X2_read_89, N_X2_read_92, N_X2_read_94, N_X2_read_97, N_X2_read_98_z, N_X2_read_98_r, N_X2_read_99, N_X2_read_100, N_X2_read_103, N_X2_read_106, N_X2_read_109, N_X2_read_112, N_X2_read_113_z, N_X2_read_113_r, if_true, if_false, ite_true, ite_false, not_false_eq_true, not_true_eq_false, isRf_ref, isRf_null, c1_int, c1_ref, c1_null, c1_none, rfv_some, rfv_none, Ok_s, tl_some, tl_none, List.nil_append, b2i_n1, b2i_n0, ↓reduceIte, nI_add, pk_mul, pk_sub, n_leT, n_leF, n_ltT, n_ltF, n_eqT, n_eqF, n_shl1, n_shl, n_shr, nI_and, nI_or, nI_xor, b2i_z, b2i_o, m1_n, n_m1, m1_lt, m1_le, n_lm1, n_em1, nI_m1, and1, and3, and7, and15, and63, and255, Bool.true_eq_false, Bool.false_eq_true, reduceCtorEq, Nat.reduceAdd, Nat.reduceMul, Nat.reduceSub, Nat.reduceDiv, Nat.reduceMod, Nat.reducePow, Nat.zero_add, Nat.one_mul, c_kind, e18, k59, h159]
          exact hQ _ (PQ_l i2 hKK)
theorem c_read {b : Nat → Nat} {n : Nat} (hn : n ≤ 400) (hB : ∀ j, j < 400 → I 15 j = nI (b j) ∧ b j < 256) (hm : m = (tokF b n).2.1) (htk : tk = (tokF b n).2.2.1) (hvl : vl = (tokF b n).2.2.2.1) (hps : ps = up1 (tokF b n).2.2.2.2 m n) : Ok (callD xs Ln (d + 112) 8 [.ref 16, .ref 15, .int (nI n)] (mkW D I L)) (fun q => ∃ J, TkC J tk vl ps m ∧ (∀ k, (k < 16 ∨ 21 < k) → J k = I k) ∧ PQ D J L m (rdL tk vl m 12 0 0 0) q) := by
  refine semG (lo := [some (.ref 16), some (.ref 15), some (.int (nI n)), none]) rfl rfl (Nat.le_of_ble_eq_true rfl) rfl (show G_X2_read xs Ln _ 0 [some (.ref 16), some (.ref 15), some (.int (nI n)), none] [] _ _ from ?_)
  have hmin : (if nI 400 < nI n then nI 400 else nI n) = nI n := by rw [if_neg (by rw [n_lt (by decide) (by omega)]; omega)]
  simp (disch := first | omega | exact c1_int _ | exact c1_none | exact c1_ref _ | exact isRf_ref _ | assumption | exact okRb _ | exact okN1 | exact okN0 | exact rfl) only [N_X2_read_0, N_X2_read_1, N_X2_read_4, N_X2_read_5, N_X2_read_6, N_X2_read_7, N_X2_read_8, N_X2_read_11, N_X2_read_14, N_X2_read_15, N_X2_read_16, N_X2_read_19, N_X2_read_20, N_X2_read_21, N_X2_read_24, N_X2_read_25, N_X2_read_27, N_X2_read_28, N_X2_read_31, N_X2_read_32, N_X2_read_35, N_X2_read_36, N_X2_read_37, N_X2_read_40, N_X2_read_43, N_X2_read_44_z, N_X2_read_44_r, N_X2_read_45, N_X2_read_46, N_X2_read_49, N_X2_read_52, N_X2_read_53, N_X2_read_56, N_X2_read_59, N_X2_read_60, N_X2_read_61, N_X2_read_64, N_X2_read_65, N_X2_read_68, N_X2_read_71, N_X2_read_72, N_X2_read_75, N_X2_read_76, N_X2_read_77, N_X2_read_78, N_X2_read_81, N_X2_read_84_z, N_X2_read_84_r, N_X2_read_85, N_X2_read_86, N_X2_read_89, N_X2_read_92, N_X2_read_94, N_X2_read_97, N_X2_read_98_z, N_X2_read_98_r, N_X2_read_99, N_X2_read_100, N_X2_read_103, N_X2_read_106, N_X2_read_109, N_X2_read_112, N_X2_read_113_z, N_X2_read_113_r, if_true, if_false, ite_true, ite_false, not_false_eq_true, not_true_eq_false, isRf_ref, isRf_null, c1_int, c1_ref, c1_null, c1_none, rfv_some, rfv_none, Ok_s, tl_some, tl_none, List.nil_append, b2i_n1, b2i_n0, ↓reduceIte, nI_add, pk_mul, pk_sub, n_leT, n_leF, n_ltT, n_ltF, n_eqT, n_eqF, n_shl1, n_shl, n_shr, nI_and, nI_or, nI_xor, b2i_z, b2i_o, m1_n, n_m1, m1_lt, m1_le, n_lm1, n_em1, nI_m1, and1, and3, and7, and15, and63, and255, Bool.true_eq_false, Bool.false_eq_true, reduceCtorEq, Nat.reduceAdd, Nat.reduceMul, Nat.reduceSub, Nat.reduceDiv, Nat.reduceMod, Nat.reducePow, Nat.zero_add, Nat.one_mul]
  refine Ok.mono (c_scan (d := d + 104) hn hB) ?_
  rintro _ ⟨J, rfl, j1, j2, hT⟩
  rw [← hm, ← htk, ← hvl, ← hps] at hT
  simp (disch := first | omega | exact c1_int _ | exact c1_none | exact c1_ref _ | exact isRf_ref _ | assumption | exact okRb _ | exact okN1 | exact okN0 | exact rfl) only [N_X2_read_0, N_X2_read_1, N_X2_read_4, N_X2_read_5, N_X2_read_6, N_X2_read_7, N_X2_read_8, N_X2_read_11, N_X2_read_14, N_X2_read_15, N_X2_read_16, N_X2_read_19, N_X2_read_20, N_X2_read_21, N_X2_read_24, N_X2_read_25, N_X2_read_27, N_X2_read_28, N_X2_read_31, N_X2_read_32, N_X2_read_35, N_X2_read_36, N_X2_read_37, N_X2_read_40, N_X2_read_43, N_X2_read_44_z, N_X2_read_44_r, N_X2_read_45, N_X2_read_46, N_X2_read_49, N_X2_read_52, N_X2_read_53, N_X2_read_56, N_X2_read_59, N_X2_read_60, N_X2_read_61, N_X2_read_64, N_X2_read_65, N_X2_read_68, N_X2_read_71, N_X2_read_72, N_X2_read_75, N_X2_read_76, N_X2_read_77, N_X2_read_78, N_X2_read_81, N_X2_read_84_z, N_X2_read_84_r, N_X2_read_85, N_X2_read_86, N_X2_read_89, N_X2_read_92, N_X2_read_94, N_X2_read_97, N_X2_read_98_z, N_X2_read_98_r, N_X2_read_99, N_X2_read_100, N_X2_read_103, N_X2_read_106, N_X2_read_109, N_X2_read_112, N_X2_read_113_z, N_X2_read_113_r, if_true, if_false, ite_true, ite_false, not_false_eq_true, not_true_eq_false, isRf_ref, isRf_null, c1_int, c1_ref, c1_null, c1_none, rfv_some, rfv_none, Ok_s, tl_some, tl_none, List.nil_append, b2i_n1, b2i_n0, ↓reduceIte, nI_add, pk_mul, pk_sub, n_leT, n_leF, n_ltT, n_ltF, n_eqT, n_eqF, n_shl1, n_shl, n_shr, nI_and, nI_or, nI_xor, b2i_z, b2i_o, m1_n, n_m1, m1_lt, m1_le, n_lm1, n_em1, nI_m1, and1, and3, and7, and15, and63, and255, Bool.true_eq_false, Bool.false_eq_true, reduceCtorEq, Nat.reduceAdd, Nat.reduceMul, Nat.reduceSub, Nat.reduceDiv, Nat.reduceMod, Nat.reducePow, Nat.zero_add, Nat.one_mul]
  have ec : up2 (up2 J 16 1 (nI 0)) 16 2 (nI 0) = cst J (J 21) 0 0 0 := by
    unfold cst
    have e1 : upr J 21 (J 21) = J := by
      funext a
      unfold upr
      by_cases h : a = 21
      · rw [if_pos h, h]
      · rw [if_neg h]
    have e2 : up2 J 17 1 (nI 0) = J := by
      funext a c
      by_cases h : a = 17
      · rw [h]
        by_cases h2 : c = 1
        · rw [h2, up2_s, j2]
        · rw [up2_j _ _ _ h2]
      · rw [up2_ro _ _ _ h]
    rw [e1, e2]
  rw [ec]
  have e0 : nI 0 = nI (4 * 0) := rfl
  refine c_rdL hT 12 0 J (J 21) 0 0 0 [] [] rfl (fun _ _ => rfl) (Nat.zero_le _) (by omega) (Nat.le_refl _) rfl (cod_nil _ _) rfl (fun j cl hj => by cases hj) (fun q hq => ⟨J, hT, fun k hk => j1 k (by omega), ?_⟩)
  cases hrr : rdL tk vl m 12 0 0 0 with
  | inl p => rw [hrr] at hq; exact hq
  | inr y => rw [hrr] at hq; exact hq
end TKC
end Pi1
