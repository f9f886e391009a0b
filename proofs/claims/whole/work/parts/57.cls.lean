section P57
variable {xs : Nat → Int32} {Ln d : Nat} {D : Dyn} {I : Nat → Nat → Int32} {L : Nat → Nat → Int64} {w : Om}
/-! Clauses: head, where its sum, its test begin and end in the code, what it tells, its test. -/
abbrev Cl : Type := Nat × Nat × Nat × Nat × Dn × Dn
abbrev Cr : Type := Nat ⊕ (Nat × Nat × List Nat × Cl)
def rdT (tk vl : Nat → Nat) (h p l sz : Nat) (c : List Nat) (ds : Dn) : Cr := if tk p = 3 then
    (match rd tk vl 4000 0 0 (p + 1) l (sz + c.length) d1 with
    | .inl q => .inl q
    | .inr (p2, l2, c2, e2) => .inr (p2, l2, c ++ c2, (h, sz, sz + c.length, sz + c.length + c2.length, ds, e2)))
  else .inr (p, l, c, (h, sz, sz + c.length, sz + c.length, ds, d1))
def rdC (tk vl : Nat → Nat) (pos lv sz : Nat) : Cr := if tk pos = 1 then
    (match rd tk vl 4000 3 0 (pos + 1) lv sz d1 with
    | .inl q => .inl q
    | .inr (p, l, c, e) => rdT tk vl 1 p l sz c e)
  else if tk pos = 2 then rdT tk vl 2 (pos + 1) lv sz [] d1 else .inl pos
def rdL (tk vl : Nat → Nat) (n : Nat) : Nat → Nat → Nat → Nat → Nat ⊕ (List Nat × List Cl)
  | 0, pos, _, _ => .inl pos
  | k + 1, pos, lv, sz => match rdC tk vl pos lv sz with
    | .inl q => .inl q
    | .inr (p, l, c, cl) => if tk p = 159 then
        (match rdL tk vl n k (p + 1) l (sz + c.length) with
        | .inl q => .inl q
        | .inr (c2, cs) => .inr (c ++ c2, cl :: cs))
      else if p = n then .inr (c, [cl]) else .inl p
/-- what a clause adds -/
def askS (hd : Nat) (F : Fc) (cl : Cl) (o : Option Int) : Option Int := if cl.1 = hd ∧ cl.2.2.2.2.2 F = some 1 ∧ (cl.2.2.2.2.1 F).isSome = true then cl.2.2.2.2.1 F else o
def askF (hd : Nat) (F : Fc) : List Cl → Option Int → Option Int
  | [], o => o
  | cl :: cs, o => askF hd F cs (askS hd F cl o)
theorem rdT_i {tk vl : Nat → Nat} {h p l sz p2 l2 : Nat} {c c2 : List Nat} {ds : Dn} {cl : Cl} (hr : rdT tk vl h p l sz c ds = .inr (p2, l2, c2, cl)) : (tk p = 3 ∧ ∃ c3 e3, rd tk vl 4000 0 0 (p + 1) l (sz + c.length) d1 = .inr (p2, l2, c3, e3) ∧ c2 = c ++ c3 ∧ cl = (h, sz, sz + c.length, sz + c.length + c3.length, ds, e3)) ∨ (tk p ≠ 3 ∧ p2 = p ∧ l2 = l ∧ c2 = c ∧ cl = (h, sz, sz + c.length, sz + c.length, ds, d1)) := by
  unfold rdT at hr
  split at hr
  · rename_i h3
    split at hr
    · cases hr
    · rename_i p3 l3 c3 e3 h4
      cases hr
      exact Or.inl ⟨h3, c3, e3, h4, rfl, rfl⟩
  · rename_i h3
    cases hr
    exact Or.inr ⟨h3, rfl, rfl, rfl, rfl⟩
theorem rdC_i {tk vl : Nat → Nat} {pos lv sz p2 l2 : Nat} {c2 : List Nat} {cl : Cl} (hr : rdC tk vl pos lv sz = .inr (p2, l2, c2, cl)) : (tk pos = 1 ∧ ∃ p l c e, rd tk vl 4000 3 0 (pos + 1) lv sz d1 = .inr (p, l, c, e) ∧ rdT tk vl 1 p l sz c e = .inr (p2, l2, c2, cl)) ∨ (tk pos = 2 ∧ rdT tk vl 2 (pos + 1) lv sz [] d1 = .inr (p2, l2, c2, cl)) := by
  unfold rdC at hr
  split at hr
  · rename_i h1
    split at hr
    · cases hr
    · rename_i p l c e h4
      exact Or.inl ⟨h1, p, l, c, e, h4, hr⟩
  · split at hr
    · rename_i h2
      exact Or.inr ⟨h2, hr⟩
    · cases hr
/-- the reference's reader, a clause -/
def PC (ps : Nat → Nat) (I : Nat → Nat → Int32) (r : Cr) (I' : Nat → Nat → Int32) : Prop := match r with
  | .inl p => ∃ p' l', I' = pst I p' l' (some (ps p))
  | .inr y => I' = pst I y.1 y.2.1 none
section TK
variable {tk vl ps : Nat → Nat} {n : Nat}
theorem rdT_p {h p l sz p2 l2 : Nat} {c c2 : List Nat} {ds : Dn} {cl : Cl} (hz : ∀ j, n ≤ j → tk j = 0) (hp : p ≤ n) (hr : rdT tk vl h p l sz c ds = .inr (p2, l2, c2, cl)) : p ≤ p2 ∧ p2 ≤ n ∧ (l ≤ 50 → l2 ≤ 50) ∧ c2.length + p ≤ p2 + c.length := by
  rcases rdT_i hr with ⟨h3, c3, e3, h4, rfl, rfl⟩ | ⟨h3, rfl, rfl, rfl, rfl⟩
  · have hlt := tk_p hz h3 (by decide)
    have i1 := rd_ok hz 4000 _ _ _ _ _ _ p2 _ _ e3 (by omega) (by omega) h4
    rw [List.length_append]
    exact ⟨by omega, by omega, by omega, by omega⟩
  · exact ⟨by omega, by omega, fun h => h, by omega⟩
theorem rdC_p {pos lv sz p2 l2 : Nat} {c2 : List Nat} {cl : Cl} (hz : ∀ j, n ≤ j → tk j = 0) (hp : pos ≤ n) (hr : rdC tk vl pos lv sz = .inr (p2, l2, c2, cl)) : pos < p2 ∧ p2 ≤ n ∧ pos < n ∧ (lv ≤ 50 → l2 ≤ 50) ∧ c2.length + pos ≤ p2 := by
  rcases rdC_i hr with ⟨h1, p, l, c, e, h4, h5⟩ | ⟨h2, h5⟩
  · have hlt := tk_p hz h1 (by decide)
    have i1 := rd_ok hz 4000 _ _ _ _ _ _ p l c e (by omega) (by omega) h4
    have i2 := rdT_p hz (by omega) h5
    exact ⟨by omega, by omega, by omega, by omega, by omega⟩
  · have hlt := tk_p hz h2 (by decide)
    have i2 := rdT_p hz (by omega) h5
    simp only [List.length_nil] at i2
    exact ⟨by omega, by omega, by omega, by omega, by omega⟩
theorem r_clauseT {pos lv sz h d' : Nat} {c : List Nat} {ds : Dn} (hT : TkR I tk vl ps n) (hp : pos ≤ n) (hl : lv ≤ 50) (hd : 80 ≤ d') : G_X11_readClause xs Ln (d') 21 [some (.ref 82)] [] (mkW D (pst I pos lv none) L) (fun q => ∃ I', q = (mkW D I' L, none) ∧ PC ps I (rdT tk vl h pos lv sz c ds) I') := by
  obtain ⟨d0, rfl⟩ : ∃ d0, d' = d0 + 5 := ⟨d' - 5, by omega⟩
  have hz := hT.2.2.2.2.1
  have hn := hT.1
  unfold rdT
  by_cases h3 : tk pos = 3
  · have hlt := tk_p hz h3 (by decide)
    rw [if_pos h3]
    simp (disch := first | omega | exact c1_int _ | exact c1_none | exact c1_ref _ | exact isRf_ref _ | assumption | exact okRb _ | exact okN1 | exact okN0 | exact rfl) only [N_X11_readClause_0, N_X11_readClause_1, N_X11_readClause_2, N_X11_readClause_5, N_X11_readClause_8, N_X11_readClause_9, N_X11_readClause_10, N_X11_readClause_13, N_X11_readClause_16, N_X11_readClause_17, N_X11_readClause_18, N_X11_readClause_21, N_X11_readClause_22, N_X11_readClause_23, N_X11_readClause_26, N_X11_readClause_29, N_X11_readClause_30, N_X11_readClause_31, N_X11_readClause_34, if_true, if_false, ite_true, ite_false, not_false_eq_true, not_true_eq_false, isRf_ref, isRf_null, c1_int, c1_ref, c1_null, c1_none, rfv_some, rfv_none, Ok_s, tl_some, tl_none, List.nil_append, b2i_n1, b2i_n0, ↓reduceIte, nI_add, pk_mul, pk_sub, n_leT, n_leF, n_ltT, n_ltF, n_eqT, n_eqF, n_shl1, n_shl, n_shr, nI_and, nI_or, nI_xor, b2i_z, b2i_o, m1_n, n_m1, m1_lt, m1_le, n_lm1, n_em1, nI_m1, and1, and3, and7, and15, and63, and255, Bool.true_eq_false, Bool.false_eq_true, reduceCtorEq, Nat.reduceAdd, Nat.reduceMul, Nat.reduceSub, Nat.reduceDiv, Nat.reduceMod, Nat.reducePow, Nat.zero_add, Nat.one_mul, r_takesY hT hp h3]
    refine Ok.mono ((rAll hT 4000).1 0 0 (pos + 1) lv (sz + c.length) d1 (d0 + 5) (by decide) (by decide) (by omega) hl (by unfold need; rw [if_pos (by decide)]; omega) (by unfold dep; omega)) ?_
    rintro q ⟨I', rfl, hP⟩
    simp (disch := first | omega | exact c1_int _ | exact c1_none | exact c1_ref _ | exact isRf_ref _ | assumption | exact okRb _ | exact okN1 | exact okN0 | exact rfl) only [N_X11_readClause_0, N_X11_readClause_1, N_X11_readClause_2, N_X11_readClause_5, N_X11_readClause_8, N_X11_readClause_9, N_X11_readClause_10, N_X11_readClause_13, N_X11_readClause_16, N_X11_readClause_17, N_X11_readClause_18, N_X11_readClause_21, N_X11_readClause_22, N_X11_readClause_23, N_X11_readClause_26, N_X11_readClause_29, N_X11_readClause_30, N_X11_readClause_31, N_X11_readClause_34, if_true, if_false, ite_true, ite_false, not_false_eq_true, not_true_eq_false, isRf_ref, isRf_null, c1_int, c1_ref, c1_null, c1_none, rfv_some, rfv_none, Ok_s, tl_some, tl_none, List.nil_append, b2i_n1, b2i_n0, ↓reduceIte, nI_add, pk_mul, pk_sub, n_leT, n_leF, n_ltT, n_ltF, n_eqT, n_eqF, n_shl1, n_shl, n_shr, nI_and, nI_or, nI_xor, b2i_z, b2i_o, m1_n, n_m1, m1_lt, m1_le, n_lm1, n_em1, nI_m1, and1, and3, and7, and15, and63, and255, Bool.true_eq_false, Bool.false_eq_true, reduceCtorEq, Nat.reduceAdd, Nat.reduceMul, Nat.reduceSub, Nat.reduceDiv, Nat.reduceMod, Nat.reducePow, Nat.zero_add, Nat.one_mul]
    refine ⟨I', rfl, ?_⟩
    cases hr : rd tk vl 4000 0 0 (pos + 1) lv (sz + c.length) d1 with
    | inl p =>
      rw [hr] at hP
      exact hP
    | inr y =>
      rw [hr] at hP
      exact hP
  · rw [if_neg h3]
    simp (disch := first | omega | exact c1_int _ | exact c1_none | exact c1_ref _ | exact isRf_ref _ | assumption | exact okRb _ | exact okN1 | exact okN0 | exact rfl) only [N_X11_readClause_0, N_X11_readClause_1, N_X11_readClause_2, N_X11_readClause_5, N_X11_readClause_8, N_X11_readClause_9, N_X11_readClause_10, N_X11_readClause_13, N_X11_readClause_16, N_X11_readClause_17, N_X11_readClause_18, N_X11_readClause_21, N_X11_readClause_22, N_X11_readClause_23, N_X11_readClause_26, N_X11_readClause_29, N_X11_readClause_30, N_X11_readClause_31, N_X11_readClause_34, if_true, if_false, ite_true, ite_false, not_false_eq_true, not_true_eq_false, isRf_ref, isRf_null, c1_int, c1_ref, c1_null, c1_none, rfv_some, rfv_none, Ok_s, tl_some, tl_none, List.nil_append, b2i_n1, b2i_n0, ↓reduceIte, nI_add, pk_mul, pk_sub, n_leT, n_leF, n_ltT, n_ltF, n_eqT, n_eqF, n_shl1, n_shl, n_shr, nI_and, nI_or, nI_xor, b2i_z, b2i_o, m1_n, n_m1, m1_lt, m1_le, n_lm1, n_em1, nI_m1, and1, and3, and7, and15, and63, and255, Bool.true_eq_false, Bool.false_eq_true, reduceCtorEq, Nat.reduceAdd, Nat.reduceMul, Nat.reduceSub, Nat.reduceDiv, Nat.reduceMod, Nat.reducePow, Nat.zero_add, Nat.one_mul, r_takesN hT hp h3 (by decide)]
    exact ⟨_, rfl, rfl⟩
theorem r_clause {pos lv sz : Nat} (hT : TkR I tk vl ps n) (hp : pos ≤ n) (hl : lv ≤ 50) : Ok (callD xs Ln (d + 81) 188 [.ref 82] (mkW D (pst I pos lv none) L)) (fun q => ∃ I', q = (mkW D I' L, none) ∧ PC ps I (rdC tk vl pos lv sz) I') := by
  have hz := hT.2.2.2.2.1
  have hn := hT.1
  have hps := hT.2.2.2.2.2.2.2
  refine semG (lo := [some (.ref 82)]) rfl rfl (Nat.le_of_ble_eq_true rfl) rfl (show G_X11_readClause xs Ln _ 0 [some (.ref 82)] [] _ _ from ?_)
  unfold rdC
  by_cases h1 : tk pos = 1
  · have hlt := tk_p hz h1 (by decide)
    rw [if_pos h1]
    simp (disch := first | omega | exact c1_int _ | exact c1_none | exact c1_ref _ | exact isRf_ref _ | assumption | exact okRb _ | exact okN1 | exact okN0 | exact rfl) only [N_X11_readClause_0, N_X11_readClause_1, N_X11_readClause_2, N_X11_readClause_5, N_X11_readClause_8, N_X11_readClause_9, N_X11_readClause_10, N_X11_readClause_13, N_X11_readClause_16, N_X11_readClause_17, N_X11_readClause_18, N_X11_readClause_21, N_X11_readClause_22, N_X11_readClause_23, N_X11_readClause_26, N_X11_readClause_29, N_X11_readClause_30, N_X11_readClause_31, N_X11_readClause_34, if_true, if_false, ite_true, ite_false, not_false_eq_true, not_true_eq_false, isRf_ref, isRf_null, c1_int, c1_ref, c1_null, c1_none, rfv_some, rfv_none, Ok_s, tl_some, tl_none, List.nil_append, b2i_n1, b2i_n0, ↓reduceIte, nI_add, pk_mul, pk_sub, n_leT, n_leF, n_ltT, n_ltF, n_eqT, n_eqF, n_shl1, n_shl, n_shr, nI_and, nI_or, nI_xor, b2i_z, b2i_o, m1_n, n_m1, m1_lt, m1_le, n_lm1, n_em1, nI_m1, and1, and3, and7, and15, and63, and255, Bool.true_eq_false, Bool.false_eq_true, reduceCtorEq, Nat.reduceAdd, Nat.reduceMul, Nat.reduceSub, Nat.reduceDiv, Nat.reduceMod, Nat.reducePow, Nat.zero_add, Nat.one_mul, r_takesY hT hp h1]
    refine Ok.mono ((rAll hT 4000).1 3 0 (pos + 1) lv sz d1 (d + 80) (by decide) (by decide) (by omega) hl (by unfold need; rw [if_pos (by decide)]; omega) (by unfold dep; omega)) ?_
    rintro q ⟨I', rfl, hP⟩
    cases hr : rd tk vl 4000 3 0 (pos + 1) lv sz d1 with
    | inl p =>
      rw [hr] at hP
      obtain ⟨p', l', rfl⟩ := hP
      have := hps p
      simp (disch := first | omega | exact c1_int _ | exact c1_none | exact c1_ref _ | exact isRf_ref _ | assumption | exact okRb _ | exact okN1 | exact okN0 | exact rfl) only [N_X11_readClause_0, N_X11_readClause_1, N_X11_readClause_2, N_X11_readClause_5, N_X11_readClause_8, N_X11_readClause_9, N_X11_readClause_10, N_X11_readClause_13, N_X11_readClause_16, N_X11_readClause_17, N_X11_readClause_18, N_X11_readClause_21, N_X11_readClause_22, N_X11_readClause_23, N_X11_readClause_26, N_X11_readClause_29, N_X11_readClause_30, N_X11_readClause_31, N_X11_readClause_34, if_true, if_false, ite_true, ite_false, not_false_eq_true, not_true_eq_false, isRf_ref, isRf_null, c1_int, c1_ref, c1_null, c1_none, rfv_some, rfv_none, Ok_s, tl_some, tl_none, List.nil_append, b2i_n1, b2i_n0, ↓reduceIte, nI_add, pk_mul, pk_sub, n_leT, n_leF, n_ltT, n_ltF, n_eqT, n_eqF, n_shl1, n_shl, n_shr, nI_and, nI_or, nI_xor, b2i_z, b2i_o, m1_n, n_m1, m1_lt, m1_le, n_lm1, n_em1, nI_m1, and1, and3, and7, and15, and63, and255, Bool.true_eq_false, Bool.false_eq_true, reduceCtorEq, Nat.reduceAdd, Nat.reduceMul, Nat.reduceSub, Nat.reduceDiv, Nat.reduceMod, Nat.reducePow, Nat.zero_add, Nat.one_mul, r_takes1]
      exact ⟨_, rfl, p', l', rfl⟩
    | inr y =>
      obtain ⟨p, l, c, e⟩ := y
      rw [hr] at hP
      have hI : I' = pst I p l none := hP
      subst hI
      have i1 := rd_ok hz 4000 _ _ _ _ _ _ p l c e (by omega) (by omega) hr
      simp (disch := first | omega | exact c1_int _ | exact c1_none | exact c1_ref _ | exact isRf_ref _ | assumption | exact okRb _ | exact okN1 | exact okN0 | exact rfl) only [N_X11_readClause_0, N_X11_readClause_1, N_X11_readClause_2, N_X11_readClause_5, N_X11_readClause_8, N_X11_readClause_9, N_X11_readClause_10, N_X11_readClause_13, N_X11_readClause_16, N_X11_readClause_17, N_X11_readClause_18, N_X11_readClause_22, N_X11_readClause_23, N_X11_readClause_26, N_X11_readClause_29, N_X11_readClause_30, N_X11_readClause_31, N_X11_readClause_34, if_true, if_false, ite_true, ite_false, not_false_eq_true, not_true_eq_false, isRf_ref, isRf_null, c1_int, c1_ref, c1_null, c1_none, rfv_some, rfv_none, Ok_s, tl_some, tl_none, List.nil_append, b2i_n1, b2i_n0, ↓reduceIte, nI_add, pk_mul, pk_sub, n_leT, n_leF, n_ltT, n_ltF, n_eqT, n_eqF, n_shl1, n_shl, n_shr, nI_and, nI_or, nI_xor, b2i_z, b2i_o, m1_n, n_m1, m1_lt, m1_le, n_lm1, n_em1, nI_m1, and1, and3, and7, and15, and63, and255, Bool.true_eq_false, Bool.false_eq_true, reduceCtorEq, Nat.reduceAdd, Nat.reduceMul, Nat.reduceSub, Nat.reduceDiv, Nat.reduceMod, Nat.reducePow, Nat.zero_add, Nat.one_mul]
      exact r_clauseT hT (by omega) (by omega) (by omega)
  · rw [if_neg h1]
    by_cases h2 : tk pos = 2
    · have hlt := tk_p hz h2 (by decide)
      rw [if_pos h2]
      simp (disch := first | omega | exact c1_int _ | exact c1_none | exact c1_ref _ | exact isRf_ref _ | assumption | exact okRb _ | exact okN1 | exact okN0 | exact rfl) only [N_X11_readClause_0, N_X11_readClause_1, N_X11_readClause_2, N_X11_readClause_5, N_X11_readClause_8, N_X11_readClause_9, N_X11_readClause_10, N_X11_readClause_13, N_X11_readClause_16, N_X11_readClause_17, N_X11_readClause_18, N_X11_readClause_22, N_X11_readClause_23, N_X11_readClause_26, N_X11_readClause_29, N_X11_readClause_30, N_X11_readClause_31, N_X11_readClause_34, if_true, if_false, ite_true, ite_false, not_false_eq_true, not_true_eq_false, isRf_ref, isRf_null, c1_int, c1_ref, c1_null, c1_none, rfv_some, rfv_none, Ok_s, tl_some, tl_none, List.nil_append, b2i_n1, b2i_n0, ↓reduceIte, nI_add, pk_mul, pk_sub, n_leT, n_leF, n_ltT, n_ltF, n_eqT, n_eqF, n_shl1, n_shl, n_shr, nI_and, nI_or, nI_xor, b2i_z, b2i_o, m1_n, n_m1, m1_lt, m1_le, n_lm1, n_em1, nI_m1, and1, and3, and7, and15, and63, and255, Bool.true_eq_false, Bool.false_eq_true, reduceCtorEq, Nat.reduceAdd, Nat.reduceMul, Nat.reduceSub, Nat.reduceDiv, Nat.reduceMod, Nat.reducePow, Nat.zero_add, Nat.one_mul, r_takesN hT hp h1 (by decide), r_mustY hT hp h2]
      exact r_clauseT hT (by omega) (by omega) (by omega)
    · rw [if_neg h2]
      have := hps pos
      simp (disch := first | omega | exact c1_int _ | exact c1_none | exact c1_ref _ | exact isRf_ref _ | assumption | exact okRb _ | exact okN1 | exact okN0 | exact rfl) only [N_X11_readClause_0, N_X11_readClause_1, N_X11_readClause_2, N_X11_readClause_5, N_X11_readClause_8, N_X11_readClause_9, N_X11_readClause_10, N_X11_readClause_13, N_X11_readClause_16, N_X11_readClause_17, N_X11_readClause_18, N_X11_readClause_21, N_X11_readClause_22, N_X11_readClause_23, N_X11_readClause_26, N_X11_readClause_29, N_X11_readClause_30, N_X11_readClause_31, N_X11_readClause_34, if_true, if_false, ite_true, ite_false, not_false_eq_true, not_true_eq_false, isRf_ref, isRf_null, c1_int, c1_ref, c1_null, c1_none, rfv_some, rfv_none, Ok_s, tl_some, tl_none, List.nil_append, b2i_n1, b2i_n0, ↓reduceIte, nI_add, pk_mul, pk_sub, n_leT, n_leF, n_ltT, n_ltF, n_eqT, n_eqF, n_shl1, n_shl, n_shr, nI_and, nI_or, nI_xor, b2i_z, b2i_o, m1_n, n_m1, m1_lt, m1_le, n_lm1, n_em1, nI_m1, and1, and3, and7, and15, and63, and255, Bool.true_eq_false, Bool.false_eq_true, reduceCtorEq, Nat.reduceAdd, Nat.reduceMul, Nat.reduceSub, Nat.reduceDiv, Nat.reduceMod, Nat.reducePow, Nat.zero_add, Nat.one_mul, r_takesN hT hp h1 (by decide), r_mustN hT hp h2 (by decide), r_takes1]
      exact ⟨_, rfl, pos, lv, rfl⟩
/-- reads() behind its first clause -/
def PL (ps : Nat → Nat) (I : Nat → Nat → Int32) (ok : Bool) (fl : Option Nat) (I' : Nat → Nat → Int32) : Prop := ∃ p' l', I' = up2 (pst I p' l' fl) 82 11 (nO fl)
theorem r_readsL (hT : TkR I tk vl ps n) (h15 : I 82 15 = nI n) : ∀ k cnt p l sz, k + cnt = 12 → 1 ≤ cnt → p ≤ n → l ≤ 50 → G_X11_reads xs Ln (d + 82) 34 [some (.ref 82), some (.int (nI cnt))] [] (mkW D (pst I p l none) L) (fun q => ∃ I' ok fl, q = (mkW D I' L, some (.int (b2i ok))) ∧ PL ps I ok fl I' ∧ (match (if tk p = 159 then rdL tk vl n k (p + 1) l sz else if p = n then .inr ([], []) else .inl p) with
    | .inl q => ok = false ∧ fl = some (ps q)
    | .inr _ => ok = true ∧ fl = none)) := by
  have hz := hT.2.2.2.2.1
  have hn := hT.1
  have hps := hT.2.2.2.2.2.2.2
  have bad : ∀ p' l' q cnt : Nat, G_X11_reads xs Ln (d + 82) 34 [some (.ref 82), some (.int (nI cnt))] [] (mkW D (pst I p' l' (some (ps q))) L) (fun r => ∃ I' ok fl, r = (mkW D I' L, some (.int (b2i ok))) ∧ PL ps I ok fl I' ∧ ok = false ∧ fl = some (ps q)) := by
    intro p' l' q cnt
    have := hps q
    have e1 : ∀ x, up2 (pst I p' l' (some (ps q))) 82 11 x = pst (up2 I 82 11 x) p' l' (some (ps q)) := by
      intro x
      funext k j
      by_cases hk : k = 82
      · subst hk
        by_cases h1 : j = 16 <;> by_cases h2 : j = 17 <;> by_cases h3 : j = 18 <;> by_cases h4 : j = 11 <;> simp [pst, up2, h1, h2, h3, h4] <;> omega
      · simp [pst, up2, hk]
    simp (disch := first | omega | exact c1_int _ | exact c1_none | exact c1_ref _ | exact isRf_ref _ | assumption | exact okRb _ | exact okN1 | exact okN0 | exact rfl) only [N_X11_reads_0, N_X11_reads_1, N_X11_reads_2, N_X11_reads_5, N_X11_reads_8, N_X11_reads_9, N_X11_reads_10, N_X11_reads_13, N_X11_reads_14, N_X11_reads_15, N_X11_reads_18, N_X11_reads_19, N_X11_reads_20, N_X11_reads_23, N_X11_reads_24, N_X11_reads_25, N_X11_reads_28, N_X11_reads_29, N_X11_reads_32, N_X11_reads_33, N_X11_reads_34, N_X11_reads_35, N_X11_reads_37, N_X11_reads_40, N_X11_reads_43, N_X11_reads_46, N_X11_reads_47, N_X11_reads_49, N_X11_reads_52, N_X11_reads_53, N_X11_reads_56, N_X11_reads_57, N_X11_reads_60, N_X11_reads_63, N_X11_reads_64, N_X11_reads_67, N_X11_reads_70, N_X11_reads_73, N_X11_reads_74, N_X11_reads_77, N_X11_reads_80, N_X11_reads_81, N_X11_reads_84, N_X11_reads_85, N_X11_reads_88, N_X11_reads_91, N_X11_reads_92, N_X11_reads_95, N_X11_reads_96, N_X11_reads_97, N_X11_reads_100, N_X11_reads_103, N_X11_reads_104, N_X11_reads_107, if_true, if_false, ite_true, ite_false, not_false_eq_true, not_true_eq_false, isRf_ref, isRf_null, c1_int, c1_ref, c1_null, c1_none, rfv_some, rfv_none, Ok_s, tl_some, tl_none, List.nil_append, b2i_n1, b2i_n0, ↓reduceIte, nI_add, pk_mul, pk_sub, n_leT, n_leF, n_ltT, n_ltF, n_eqT, n_eqF, n_shl1, n_shl, n_shr, nI_and, nI_or, nI_xor, b2i_z, b2i_o, m1_n, n_m1, m1_lt, m1_le, n_lm1, n_em1, nI_m1, and1, and3, and7, and15, and63, and255, Bool.true_eq_false, Bool.false_eq_true, reduceCtorEq, Nat.reduceAdd, Nat.reduceMul, Nat.reduceSub, Nat.reduceDiv, Nat.reduceMod, Nat.reducePow, Nat.zero_add, Nat.one_mul, r_sign, r_takes1, r_fine1, pst18, nO_s, e1]
    exact ⟨_, false, some (ps q), rfl, ⟨p', l', by rw [e1]; rfl⟩, rfl, rfl⟩
  have stop : ∀ cnt p l, p ≤ n → tk p ≠ 159 → G_X11_reads xs Ln (d + 82) 34 [some (.ref 82), some (.int (nI cnt))] [] (mkW D (pst I p l none) L) (fun r => ∃ I' ok fl, r = (mkW D I' L, some (.int (b2i ok))) ∧ PL ps I ok fl I' ∧ (if p = n then ok = true ∧ fl = none else ok = false ∧ fl = some (ps p))) := by
    intro cnt p l hp h159
    have e2 : ∀ fl x, up2 (pst I p l fl) 82 11 x = pst (up2 I 82 11 x) p l fl := by
      intro fl x
      funext k j
      by_cases hk : k = 82
      · subst hk
        by_cases h1 : j = 16 <;> by_cases h2 : j = 17 <;> by_cases h3 : j = 18 <;> by_cases h4 : j = 11 <;> simp [pst, up2, h1, h2, h3, h4] <;> omega
      · simp [pst, up2, hk]
    by_cases hpn : p = n
    · simp only [if_pos hpn]
      simp (disch := first | omega | exact c1_int _ | exact c1_none | exact c1_ref _ | exact isRf_ref _ | assumption | exact okRb _ | exact okN1 | exact okN0 | exact rfl) only [N_X11_reads_0, N_X11_reads_1, N_X11_reads_2, N_X11_reads_5, N_X11_reads_8, N_X11_reads_9, N_X11_reads_10, N_X11_reads_13, N_X11_reads_14, N_X11_reads_15, N_X11_reads_18, N_X11_reads_19, N_X11_reads_20, N_X11_reads_23, N_X11_reads_24, N_X11_reads_25, N_X11_reads_28, N_X11_reads_29, N_X11_reads_32, N_X11_reads_33, N_X11_reads_34, N_X11_reads_35, N_X11_reads_37, N_X11_reads_40, N_X11_reads_43, N_X11_reads_46, N_X11_reads_47, N_X11_reads_49, N_X11_reads_52, N_X11_reads_53, N_X11_reads_56, N_X11_reads_57, N_X11_reads_60, N_X11_reads_63, N_X11_reads_64, N_X11_reads_67, N_X11_reads_70, N_X11_reads_73, N_X11_reads_74, N_X11_reads_77, N_X11_reads_80, N_X11_reads_81, N_X11_reads_84, N_X11_reads_85, N_X11_reads_88, N_X11_reads_91, N_X11_reads_92, N_X11_reads_95, N_X11_reads_96, N_X11_reads_97, N_X11_reads_100, N_X11_reads_103, N_X11_reads_104, N_X11_reads_107, if_true, if_false, ite_true, ite_false, not_false_eq_true, not_true_eq_false, isRf_ref, isRf_null, c1_int, c1_ref, c1_null, c1_none, rfv_some, rfv_none, Ok_s, tl_some, tl_none, List.nil_append, b2i_n1, b2i_n0, ↓reduceIte, nI_add, pk_mul, pk_sub, n_leT, n_leF, n_ltT, n_ltF, n_eqT, n_eqF, n_shl1, n_shl, n_shr, nI_and, nI_or, nI_xor, b2i_z, b2i_o, m1_n, n_m1, m1_lt, m1_le, n_lm1, n_em1, nI_m1, and1, and3, and7, and15, and63, and255, Bool.true_eq_false, Bool.false_eq_true, reduceCtorEq, Nat.reduceAdd, Nat.reduceMul, Nat.reduceSub, Nat.reduceDiv, Nat.reduceMod, Nat.reducePow, Nat.zero_add, Nat.one_mul, r_sign, r_takesN hT hp h159 (by decide), r_fine0, pst16, pstj, h15, pst18, nO_n, e2]
      exact ⟨_, true, none, rfl, ⟨p, l, by rw [e2]; rfl⟩, rfl, rfl⟩
    · simp only [if_neg hpn]
      have := hps p
      simp (disch := first | omega | exact c1_int _ | exact c1_none | exact c1_ref _ | exact isRf_ref _ | assumption | exact okRb _ | exact okN1 | exact okN0 | exact rfl) only [N_X11_reads_0, N_X11_reads_1, N_X11_reads_2, N_X11_reads_5, N_X11_reads_8, N_X11_reads_9, N_X11_reads_10, N_X11_reads_13, N_X11_reads_14, N_X11_reads_15, N_X11_reads_18, N_X11_reads_19, N_X11_reads_20, N_X11_reads_23, N_X11_reads_24, N_X11_reads_25, N_X11_reads_28, N_X11_reads_29, N_X11_reads_32, N_X11_reads_33, N_X11_reads_34, N_X11_reads_35, N_X11_reads_37, N_X11_reads_40, N_X11_reads_43, N_X11_reads_46, N_X11_reads_47, N_X11_reads_49, N_X11_reads_52, N_X11_reads_53, N_X11_reads_56, N_X11_reads_57, N_X11_reads_60, N_X11_reads_63, N_X11_reads_64, N_X11_reads_67, N_X11_reads_70, N_X11_reads_73, N_X11_reads_74, N_X11_reads_77, N_X11_reads_80, N_X11_reads_81, N_X11_reads_84, N_X11_reads_85, N_X11_reads_88, N_X11_reads_91, N_X11_reads_92, N_X11_reads_95, N_X11_reads_96, N_X11_reads_97, N_X11_reads_100, N_X11_reads_103, N_X11_reads_104, N_X11_reads_107, if_true, if_false, ite_true, ite_false, not_false_eq_true, not_true_eq_false, isRf_ref, isRf_null, c1_int, c1_ref, c1_null, c1_none, rfv_some, rfv_none, Ok_s, tl_some, tl_none, List.nil_append, b2i_n1, b2i_n0, ↓reduceIte, nI_add, pk_mul, pk_sub, n_leT, n_leF, n_ltT, n_ltF, n_eqT, n_eqF, n_shl1, n_shl, n_shr, nI_and, nI_or, nI_xor, b2i_z, b2i_o, m1_n, n_m1, m1_lt, m1_le, n_lm1, n_em1, nI_m1, and1, and3, and7, and15, and63, and255, Bool.true_eq_false, Bool.false_eq_true, reduceCtorEq, Nat.reduceAdd, Nat.reduceMul, Nat.reduceSub, Nat.reduceDiv, Nat.reduceMod, Nat.reducePow, Nat.zero_add, Nat.one_mul, r_sign, r_takesN hT hp h159 (by decide), r_fine0, pst16, pstj, h15, r_faults0 hT hp, r_fine1, pst18, nO_s, e2]
      exact ⟨_, false, some (ps p), rfl, ⟨p, l, by rw [e2]; rfl⟩, rfl, rfl⟩
  intro k
  induction k with
  | zero =>
    intro cnt p l sz hk hc hp hl
    have hcnt : cnt = 12 := by omega
    subst hcnt
    by_cases h159 : tk p = 159
    · have hlt := tk_p hz h159 (by decide)
      rw [if_pos h159]
      rw [N_X11_reads_34]
      have := hps (p + 1)
      simp (disch := first | omega | exact c1_int _ | exact c1_none | exact c1_ref _ | exact isRf_ref _ | assumption | exact okRb _ | exact okN1 | exact okN0 | exact rfl) only [N_X11_reads_0, N_X11_reads_1, N_X11_reads_2, N_X11_reads_5, N_X11_reads_8, N_X11_reads_9, N_X11_reads_10, N_X11_reads_13, N_X11_reads_14, N_X11_reads_15, N_X11_reads_18, N_X11_reads_19, N_X11_reads_20, N_X11_reads_23, N_X11_reads_24, N_X11_reads_25, N_X11_reads_28, N_X11_reads_29, N_X11_reads_32, N_X11_reads_33, N_X11_reads_35, N_X11_reads_37, N_X11_reads_40, N_X11_reads_43, N_X11_reads_46, N_X11_reads_47, N_X11_reads_49, N_X11_reads_52, N_X11_reads_53, N_X11_reads_56, N_X11_reads_57, N_X11_reads_60, N_X11_reads_63, N_X11_reads_64, N_X11_reads_67, N_X11_reads_70, N_X11_reads_73, N_X11_reads_74, N_X11_reads_77, N_X11_reads_80, N_X11_reads_81, N_X11_reads_84, N_X11_reads_85, N_X11_reads_88, N_X11_reads_91, N_X11_reads_92, N_X11_reads_95, N_X11_reads_96, N_X11_reads_97, N_X11_reads_100, N_X11_reads_103, N_X11_reads_104, N_X11_reads_107, if_true, if_false, ite_true, ite_false, not_false_eq_true, not_true_eq_false, isRf_ref, isRf_null, c1_int, c1_ref, c1_null, c1_none, rfv_some, rfv_none, Ok_s, tl_some, tl_none, List.nil_append, b2i_n1, b2i_n0, ↓reduceIte, nI_add, pk_mul, pk_sub, n_leT, n_leF, n_ltT, n_ltF, n_eqT, n_eqF, n_shl1, n_shl, n_shr, nI_and, nI_or, nI_xor, b2i_z, b2i_o, m1_n, n_m1, m1_lt, m1_le, n_lm1, n_em1, nI_m1, and1, and3, and7, and15, and63, and255, Bool.true_eq_false, Bool.false_eq_true, reduceCtorEq, Nat.reduceAdd, Nat.reduceMul, Nat.reduceSub, Nat.reduceDiv, Nat.reduceMod, Nat.reducePow, Nat.zero_add, Nat.one_mul, r_sign, r_takesY hT hp h159, r_faults0 hT (show p + 1 ≤ n by omega), r_fine1]
      exact bad (p + 1) l (p + 1) 13
    · rw [if_neg h159]
      have := stop 12 p l hp h159
      by_cases hpn : p = n
      · simp only [if_pos hpn] at this ⊢
        exact this
      · simp only [if_neg hpn] at this ⊢
        exact this
  | succ k ih =>
    intro cnt p l sz hk hc hp hl
    by_cases h159 : tk p = 159
    · have hlt := tk_p hz h159 (by decide)
      rw [if_pos h159]
      rw [N_X11_reads_34]
      simp (disch := first | omega | exact c1_int _ | exact c1_none | exact c1_ref _ | exact isRf_ref _ | assumption | exact okRb _ | exact okN1 | exact okN0 | exact rfl) only [N_X11_reads_0, N_X11_reads_1, N_X11_reads_2, N_X11_reads_5, N_X11_reads_8, N_X11_reads_9, N_X11_reads_10, N_X11_reads_13, N_X11_reads_14, N_X11_reads_15, N_X11_reads_18, N_X11_reads_19, N_X11_reads_20, N_X11_reads_23, N_X11_reads_24, N_X11_reads_25, N_X11_reads_28, N_X11_reads_29, N_X11_reads_32, N_X11_reads_33, N_X11_reads_35, N_X11_reads_37, N_X11_reads_40, N_X11_reads_43, N_X11_reads_46, N_X11_reads_47, N_X11_reads_49, N_X11_reads_52, N_X11_reads_53, N_X11_reads_56, N_X11_reads_57, N_X11_reads_60, N_X11_reads_63, N_X11_reads_64, N_X11_reads_67, N_X11_reads_70, N_X11_reads_73, N_X11_reads_74, N_X11_reads_77, N_X11_reads_80, N_X11_reads_81, N_X11_reads_84, N_X11_reads_85, N_X11_reads_88, N_X11_reads_91, N_X11_reads_92, N_X11_reads_95, N_X11_reads_96, N_X11_reads_97, N_X11_reads_100, N_X11_reads_103, N_X11_reads_104, N_X11_reads_107, if_true, if_false, ite_true, ite_false, not_false_eq_true, not_true_eq_false, isRf_ref, isRf_null, c1_int, c1_ref, c1_null, c1_none, rfv_some, rfv_none, Ok_s, tl_some, tl_none, List.nil_append, b2i_n1, b2i_n0, ↓reduceIte, nI_add, pk_mul, pk_sub, n_leT, n_leF, n_ltT, n_ltF, n_eqT, n_eqF, n_shl1, n_shl, n_shr, nI_and, nI_or, nI_xor, b2i_z, b2i_o, m1_n, n_m1, m1_lt, m1_le, n_lm1, n_em1, nI_m1, and1, and3, and7, and15, and63, and255, Bool.true_eq_false, Bool.false_eq_true, reduceCtorEq, Nat.reduceAdd, Nat.reduceMul, Nat.reduceSub, Nat.reduceDiv, Nat.reduceMod, Nat.reducePow, Nat.zero_add, Nat.one_mul, r_sign, r_takesY hT hp h159, r_fine0]
      refine Ok.mono (r_clause (sz := sz) hT (show p + 1 ≤ n by omega) hl) ?_
      rintro q ⟨I', rfl, hP⟩
      cases hr : rdC tk vl (p + 1) l sz with
      | inl q =>
        rw [hr] at hP
        obtain ⟨p', l', rfl⟩ := hP
        have hrl : rdL tk vl n (k + 1) (p + 1) l sz = .inl q := by unfold rdL; rw [hr]
        simp (disch := first | omega | exact c1_int _ | exact c1_none | exact c1_ref _ | exact isRf_ref _ | assumption | exact okRb _ | exact okN1 | exact okN0 | exact rfl) only [N_X11_reads_0, N_X11_reads_1, N_X11_reads_2, N_X11_reads_5, N_X11_reads_8, N_X11_reads_9, N_X11_reads_10, N_X11_reads_13, N_X11_reads_14, N_X11_reads_15, N_X11_reads_18, N_X11_reads_19, N_X11_reads_20, N_X11_reads_23, N_X11_reads_24, N_X11_reads_25, N_X11_reads_28, N_X11_reads_29, N_X11_reads_32, N_X11_reads_33, N_X11_reads_35, N_X11_reads_37, N_X11_reads_40, N_X11_reads_43, N_X11_reads_46, N_X11_reads_47, N_X11_reads_49, N_X11_reads_52, N_X11_reads_53, N_X11_reads_56, N_X11_reads_57, N_X11_reads_60, N_X11_reads_63, N_X11_reads_64, N_X11_reads_67, N_X11_reads_70, N_X11_reads_73, N_X11_reads_74, N_X11_reads_77, N_X11_reads_80, N_X11_reads_81, N_X11_reads_84, N_X11_reads_85, N_X11_reads_88, N_X11_reads_91, N_X11_reads_92, N_X11_reads_95, N_X11_reads_96, N_X11_reads_97, N_X11_reads_100, N_X11_reads_103, N_X11_reads_104, N_X11_reads_107, if_true, if_false, ite_true, ite_false, not_false_eq_true, not_true_eq_false, isRf_ref, isRf_null, c1_int, c1_ref, c1_null, c1_none, rfv_some, rfv_none, Ok_s, tl_some, tl_none, List.nil_append, b2i_n1, b2i_n0, ↓reduceIte, nI_add, pk_mul, pk_sub, n_leT, n_leF, n_ltT, n_ltF, n_eqT, n_eqF, n_shl1, n_shl, n_shr, nI_and, nI_or, nI_xor, b2i_z, b2i_o, m1_n, n_m1, m1_lt, m1_le, n_lm1, n_em1, nI_m1, and1, and3, and7, and15, and63, and255, Bool.true_eq_false, Bool.false_eq_true, reduceCtorEq, Nat.reduceAdd, Nat.reduceMul, Nat.reduceSub, Nat.reduceDiv, Nat.reduceMod, Nat.reducePow, Nat.zero_add, Nat.one_mul]
        rw [hrl]
        exact bad p' l' q (cnt + 1)
      | inr y =>
        obtain ⟨p2, l2, c2, cl⟩ := y
        rw [hr] at hP
        have hI : I' = pst I p2 l2 none := hP
        subst hI
        have i1 := rdC_p hz (by omega) hr
        have hrl : rdL tk vl n (k + 1) (p + 1) l sz = if tk p2 = 159 then
            (match rdL tk vl n k (p2 + 1) l2 (sz + c2.length) with
            | .inl q => .inl q
            | .inr (c3, cs) => .inr (c2 ++ c3, cl :: cs))
          else if p2 = n then .inr (c2, [cl]) else .inl p2 := by
          rw [show rdL tk vl n (k + 1) (p + 1) l sz = (match rdC tk vl (p + 1) l sz with
    | .inl q => .inl q
    | .inr (p, l, c, cl) => if tk p = 159 then
        (match rdL tk vl n k (p + 1) l (sz + c.length) with
        | .inl q => .inl q
        | .inr (c2, cs) => .inr (c ++ c2, cl :: cs))
      else if p = n then .inr (c, [cl]) else .inl p) from rfl, hr]
        have := ih (cnt + 1) p2 l2 (sz + c2.length) (by omega) (by omega) (by omega) (by omega)
        simp (disch := first | omega | exact c1_int _ | exact c1_none | exact c1_ref _ | exact isRf_ref _ | assumption | exact okRb _ | exact okN1 | exact okN0 | exact rfl) only [N_X11_reads_0, N_X11_reads_1, N_X11_reads_2, N_X11_reads_5, N_X11_reads_8, N_X11_reads_9, N_X11_reads_10, N_X11_reads_13, N_X11_reads_14, N_X11_reads_15, N_X11_reads_18, N_X11_reads_19, N_X11_reads_20, N_X11_reads_23, N_X11_reads_24, N_X11_reads_25, N_X11_reads_28, N_X11_reads_29, N_X11_reads_32, N_X11_reads_33, N_X11_reads_35, N_X11_reads_37, N_X11_reads_40, N_X11_reads_43, N_X11_reads_46, N_X11_reads_47, N_X11_reads_49, N_X11_reads_52, N_X11_reads_53, N_X11_reads_56, N_X11_reads_57, N_X11_reads_60, N_X11_reads_63, N_X11_reads_64, N_X11_reads_67, N_X11_reads_70, N_X11_reads_73, N_X11_reads_74, N_X11_reads_77, N_X11_reads_80, N_X11_reads_81, N_X11_reads_84, N_X11_reads_85, N_X11_reads_88, N_X11_reads_91, N_X11_reads_92, N_X11_reads_95, N_X11_reads_96, N_X11_reads_97, N_X11_reads_100, N_X11_reads_103, N_X11_reads_104, N_X11_reads_107, if_true, if_false, ite_true, ite_false, not_false_eq_true, not_true_eq_false, isRf_ref, isRf_null, c1_int, c1_ref, c1_null, c1_none, rfv_some, rfv_none, Ok_s, tl_some, tl_none, List.nil_append, b2i_n1, b2i_n0, ↓reduceIte, nI_add, pk_mul, pk_sub, n_leT, n_leF, n_ltT, n_ltF, n_eqT, n_eqF, n_shl1, n_shl, n_shr, nI_and, nI_or, nI_xor, b2i_z, b2i_o, m1_n, n_m1, m1_lt, m1_le, n_lm1, n_em1, nI_m1, and1, and3, and7, and15, and63, and255, Bool.true_eq_false, Bool.false_eq_true, reduceCtorEq, Nat.reduceAdd, Nat.reduceMul, Nat.reduceSub, Nat.reduceDiv, Nat.reduceMod, Nat.reducePow, Nat.zero_add, Nat.one_mul]
        rw [hrl]
        by_cases g1 : tk p2 = 159
        · rw [if_pos g1] at this ⊢
          cases hq : rdL tk vl n k (p2 + 1) l2 (sz + c2.length) with
          | inl q =>
            rw [hq] at this
            exact this
          | inr y =>
            rw [hq] at this
            exact this
        · rw [if_neg g1] at this ⊢
          by_cases g2 : p2 = n
          · rw [if_pos g2] at this ⊢
            exact this
          · rw [if_neg g2] at this ⊢
            exact this
    · rw [if_neg h159]
      have := stop cnt p l hp h159
      by_cases hpn : p = n
      · simp only [if_pos hpn] at this ⊢
        exact this
      · simp only [if_neg hpn] at this ⊢
        exact this
end TK
end P57
