section Ph3
variable {xs : Nat → Int32} {Ln d : Nat} {D D' D'' : Dyn} {I I' I'' J : Nat → Nat → Int32} {L : Nat → Nat → Int64} {w : Om} {Q : Res → Prop} {ow ow' ow'' ky ky' ky'' ln ln' ln'' a a' : Nat → Nat} {o be sr : Nat} {A A' : As} {nn : Nat}
/-! the reference: law -/
theorem pst_11 {p' l' : Nat} {fl : Option Nat} (x : Int32) : up2 (pst I p' l' fl) 82 11 x = pst (up2 I 82 11 x) p' l' fl := by
  funext k j
  by_cases hk : k = 82
  · subst hk
    by_cases h1 : j = 16 <;> by_cases h2 : j = 17 <;> by_cases h3 : j = 18 <;> by_cases h4 : j = 11 <;> simp [pst, up2, h1, h2, h3, h4] <;> omega
  · simp [pst, up2, hk]
theorem r_rdBad {ps : Nat → Nat} {p' l' q cnt : Nat} (hps : ps q ≤ 400) : G_X11_reads xs Ln (d + 82) 34 [some (.ref 82), some (.int (nI cnt))] [] (mkW D (pst I p' l' (some (ps q))) L) (fun r => ∃ I' ok fl, r = (mkW D I' L, some (.int (b2i ok))) ∧ PL ps I ok fl I' ∧ ok = false ∧ fl = some (ps q)) := by
  simp (disch := first | omega | exact c1_int _ | exact c1_none | exact c1_ref _ | exact isRf_ref _ | assumption | exact okRb _ | exact okN1 | exact okN0 | exact rfl) only [N_X11_reads_0, N_X11_reads_1, N_X11_reads_2, N_X11_reads_5, N_X11_reads_8, N_X11_reads_9, N_X11_reads_10, N_X11_reads_13, N_X11_reads_14, N_X11_reads_15, N_X11_reads_18, N_X11_reads_19, N_X11_reads_20, N_X11_reads_23, N_X11_reads_24, N_X11_reads_25, N_X11_reads_28, N_X11_reads_29, N_X11_reads_32, N_X11_reads_33, N_X11_reads_34, N_X11_reads_35, N_X11_reads_37, N_X11_reads_40, N_X11_reads_43, N_X11_reads_46, N_X11_reads_47, N_X11_reads_49, N_X11_reads_52, N_X11_reads_53, N_X11_reads_56, N_X11_reads_57, N_X11_reads_60, N_X11_reads_63, N_X11_reads_64, N_X11_reads_67, N_X11_reads_70, N_X11_reads_73, N_X11_reads_74, N_X11_reads_77, N_X11_reads_80, N_X11_reads_81, N_X11_reads_84, N_X11_reads_85, N_X11_reads_88, N_X11_reads_91, N_X11_reads_92, N_X11_reads_95, N_X11_reads_96, N_X11_reads_97, N_X11_reads_100, N_X11_reads_103, N_X11_reads_104, N_X11_reads_107, if_true, if_false, ite_true, ite_false, not_false_eq_true, not_true_eq_false, isRf_ref, isRf_null, c1_int, c1_ref, c1_null, c1_none, rfv_some, rfv_none, Ok_s, tl_some, tl_none, List.nil_append, b2i_n1, b2i_n0, ↓reduceIte, nI_add, pk_mul, pk_sub, n_leT, n_leF, n_ltT, n_ltF, n_eqT, n_eqF, n_shl1, n_shl, n_shr, nI_and, nI_or, nI_xor, b2i_z, b2i_o, m1_n, n_m1, m1_lt, m1_le, n_lm1, n_em1, nI_m1, and1, and3, and7, and15, and63, and255, Bool.true_eq_false, Bool.false_eq_true, reduceCtorEq, Nat.reduceAdd, Nat.reduceMul, Nat.reduceSub, Nat.reduceDiv, Nat.reduceMod, Nat.reducePow, Nat.zero_add, Nat.one_mul, r_sign, r_takes1, r_fine1, pst18, nO_s, pst_11]
  exact ⟨_, false, some (ps q), rfl, ⟨p', l', by rw [pst_11]; rfl⟩, rfl, rfl⟩
theorem TkR.k {tk vl ps : Nat → Nat} {n : Nat} (h : TkR I tk vl ps n) (h0 : J 90 = I 90) (h1 : J 91 = I 91) (h2 : J 92 = I 92) : TkR J tk vl ps n := by
  unfold TkR
  rw [h0, h1, h2]
  exact h
def rdR (tk vl ps : Nat → Nat) (n : Nat) (ok : Bool) (fl : Option Nat) : Prop := match rdL tk vl n 12 0 0 0 with
  | .inl q => ok = false ∧ fl = some (ps q)
  | .inr _ => ok = true ∧ fl = none
theorem r_reads {b : Nat → Nat} {n m : Nat} {tk vl ps : Nat → Nat} (hm : m = (tokF b n).2.1) (htk : tk = (tokF b n).2.2.1) (hvl : vl = (tokF b n).2.2.2.1) (hps : ps = up1 (tokF b n).2.2.2.2 m n) (hn : n ≤ 400) (h10 : I 82 10 = nI n) (hB : ∀ j, j < 400 → I 88 j = tb (b j) ∧ b j < 256) (hW : ∀ j, j < 66 → I 87 j = nmB j) : Ok (callD xs Ln (d + 83) 195 [.ref 82] (mkW D I L)) (fun r => ∃ J ok fl, r = (mkW D J L, some (.int (b2i ok))) ∧ (∀ k, k ≠ 82 → k ≠ 90 → k ≠ 91 → k ≠ 92 → J k = I k) ∧ (∀ j, j < 10 ∨ (11 < j ∧ j < 15) ∨ 18 < j → J 82 j = I 82 j) ∧ J 82 10 = nI 0 ∧ J 82 11 = nO fl ∧ J 82 15 = nI m ∧ (∀ j, j < m → J 90 j = nI (tk j) ∧ J 91 j = nI (vl j)) ∧ rdR tk vl ps m ok fl) := by
  refine semG (lo := [some (.ref 82), none]) rfl rfl (Nat.le_of_ble_eq_true rfl) rfl (show G_X11_reads xs Ln _ 0 [some (.ref 82), none] [] _ _ from ?_)
  simp (disch := first | omega | exact c1_int _ | exact c1_none | exact c1_ref _ | exact isRf_ref _ | assumption | exact okRb _ | exact okN1 | exact okN0 | exact rfl) only [N_X11_reads_0, N_X11_reads_1, N_X11_reads_2, N_X11_reads_5, N_X11_reads_8, N_X11_reads_9, N_X11_reads_10, N_X11_reads_13, N_X11_reads_14, N_X11_reads_15, N_X11_reads_18, N_X11_reads_19, N_X11_reads_20, N_X11_reads_23, N_X11_reads_24, N_X11_reads_25, N_X11_reads_28, N_X11_reads_29, N_X11_reads_32, N_X11_reads_33, N_X11_reads_35, N_X11_reads_37, N_X11_reads_40, N_X11_reads_43, N_X11_reads_46, N_X11_reads_47, N_X11_reads_49, N_X11_reads_52, N_X11_reads_53, N_X11_reads_56, N_X11_reads_57, N_X11_reads_60, N_X11_reads_63, N_X11_reads_64, N_X11_reads_67, N_X11_reads_70, N_X11_reads_73, N_X11_reads_74, N_X11_reads_77, N_X11_reads_80, N_X11_reads_81, N_X11_reads_84, N_X11_reads_85, N_X11_reads_88, N_X11_reads_91, N_X11_reads_92, N_X11_reads_95, N_X11_reads_96, N_X11_reads_97, N_X11_reads_100, N_X11_reads_103, N_X11_reads_104, N_X11_reads_107, if_true, if_false, ite_true, ite_false, not_false_eq_true, not_true_eq_false, isRf_ref, isRf_null, c1_int, c1_ref, c1_null, c1_none, rfv_some, rfv_none, Ok_s, tl_some, tl_none, List.nil_append, b2i_n1, b2i_n0, ↓reduceIte, nI_add, pk_mul, pk_sub, n_leT, n_leF, n_ltT, n_ltF, n_eqT, n_eqF, n_shl1, n_shl, n_shr, nI_and, nI_or, nI_xor, b2i_z, b2i_o, m1_n, n_m1, m1_lt, m1_le, n_lm1, n_em1, nI_m1, and1, and3, and7, and15, and63, and255, Bool.true_eq_false, Bool.false_eq_true, reduceCtorEq, Nat.reduceAdd, Nat.reduceMul, Nat.reduceSub, Nat.reduceDiv, Nat.reduceMod, Nat.reducePow, Nat.zero_add, Nat.one_mul, h10]
  refine Ok.mono (r_splits (d := d + 80) hn hB hW) ?_
  rintro _ ⟨J, rfl, j1, j2, j3, hT⟩
  rw [← hm, ← htk, ← hvl, ← hps] at hT
  rw [← hm] at j3
  have hT' : TkR (up2 J 82 10 (nI 0)) tk vl ps m := hT.k (up2_ro _ _ _ (by decide)) (up2_ro _ _ _ (by decide)) (up2_ro _ _ _ (by decide))
  have hz := hT.2.2.2.2.1
  have h400 := hT.1
  have hp4 := hT.2.2.2.2.2.2.2
  have h15 : up2 J 82 10 (nI 0) 82 15 = nI m := by rw [up2_j _ _ _ (by decide)]; exact j3
  have fin : ∀ I' ok fl, PL ps (up2 J 82 10 (nI 0)) ok fl I' → (∀ k, k ≠ 82 → k ≠ 90 → k ≠ 91 → k ≠ 92 → I' k = I k) ∧ (∀ j, j < 10 ∨ (11 < j ∧ j < 15) ∨ 18 < j → I' 82 j = I 82 j) ∧ I' 82 10 = nI 0 ∧ I' 82 11 = nO fl ∧ I' 82 15 = nI m ∧ (∀ j, j < m → I' 90 j = nI (tk j) ∧ I' 91 j = nI (vl j)) := by
    rintro I' ok fl ⟨p', l', rfl⟩
    have o : ∀ k, k ≠ 82 → up2 (pst (up2 J 82 10 (nI 0)) p' l' fl) 82 11 (nO fl) k = J k := fun k hk => by rw [up2_ro _ _ _ hk, pstk _ _ _ _ hk, up2_ro _ _ _ hk]
    have oj : ∀ j, j ≠ 10 → j ≠ 11 → j ≠ 16 → j ≠ 17 → j ≠ 18 → up2 (pst (up2 J 82 10 (nI 0)) p' l' fl) 82 11 (nO fl) 82 j = J 82 j := fun j q1 q2 q3 q4 q5 => by
      unfold pst
      rw [up2_j _ _ _ q2, up2_j _ _ _ q5, up2_j _ _ _ q4, up2_j _ _ _ q3, up2_j _ _ _ q1]
    refine ⟨fun k q1 q2 q3 q4 => by rw [o k q1]; exact j1 k q1 q2 q3 q4, fun j hj => by rw [oj j (by omega) (by omega) (by omega) (by omega) (by omega)]; exact j2 j (by omega), ?_, up2_s _ _ _ _, by rw [oj 15 (by decide) (by decide) (by decide) (by decide) (by decide)]; exact j3, fun j hj => by rw [o 90 (by decide), o 91 (by decide)]; exact ⟨hT.2.1 j (by omega), hT.2.2.1 j (by omega)⟩⟩
    unfold pst
    rw [up2_j _ _ _ (by decide), up2_j _ _ _ (by decide), up2_j _ _ _ (by decide), up2_j _ _ _ (by decide), up2_s]
  simp (disch := first | omega | exact c1_int _ | exact c1_none | exact c1_ref _ | exact isRf_ref _ | assumption | exact okRb _ | exact okN1 | exact okN0 | exact rfl) only [N_X11_reads_0, N_X11_reads_1, N_X11_reads_2, N_X11_reads_5, N_X11_reads_8, N_X11_reads_9, N_X11_reads_10, N_X11_reads_13, N_X11_reads_14, N_X11_reads_15, N_X11_reads_18, N_X11_reads_19, N_X11_reads_20, N_X11_reads_23, N_X11_reads_24, N_X11_reads_25, N_X11_reads_28, N_X11_reads_29, N_X11_reads_32, N_X11_reads_33, N_X11_reads_35, N_X11_reads_37, N_X11_reads_40, N_X11_reads_43, N_X11_reads_46, N_X11_reads_47, N_X11_reads_49, N_X11_reads_52, N_X11_reads_53, N_X11_reads_56, N_X11_reads_57, N_X11_reads_60, N_X11_reads_63, N_X11_reads_64, N_X11_reads_67, N_X11_reads_70, N_X11_reads_73, N_X11_reads_74, N_X11_reads_77, N_X11_reads_80, N_X11_reads_81, N_X11_reads_84, N_X11_reads_85, N_X11_reads_88, N_X11_reads_91, N_X11_reads_92, N_X11_reads_95, N_X11_reads_96, N_X11_reads_97, N_X11_reads_100, N_X11_reads_103, N_X11_reads_104, N_X11_reads_107, if_true, if_false, ite_true, ite_false, not_false_eq_true, not_true_eq_false, isRf_ref, isRf_null, c1_int, c1_ref, c1_null, c1_none, rfv_some, rfv_none, Ok_s, tl_some, tl_none, List.nil_append, b2i_n1, b2i_n0, ↓reduceIte, nI_add, pk_mul, pk_sub, n_leT, n_leF, n_ltT, n_ltF, n_eqT, n_eqF, n_shl1, n_shl, n_shr, nI_and, nI_or, nI_xor, b2i_z, b2i_o, m1_n, n_m1, m1_lt, m1_le, n_lm1, n_em1, nI_m1, and1, and3, and7, and15, and63, and255, Bool.true_eq_false, Bool.false_eq_true, reduceCtorEq, Nat.reduceAdd, Nat.reduceMul, Nat.reduceSub, Nat.reduceDiv, Nat.reduceMod, Nat.reducePow, Nat.zero_add, Nat.one_mul]
  refine Ok.mono (r_clause (xs := xs) (Ln := Ln) (d := d + 1) (D := D) (L := L) (sz := 0) (pos := 0) (lv := 0) hT' (Nat.zero_le _) (by omega)) ?_
  rintro _ ⟨I', rfl, hP⟩
  simp (disch := first | omega | exact c1_int _ | exact c1_none | exact c1_ref _ | exact isRf_ref _ | assumption | exact okRb _ | exact okN1 | exact okN0 | exact rfl) only [N_X11_reads_0, N_X11_reads_1, N_X11_reads_2, N_X11_reads_5, N_X11_reads_8, N_X11_reads_9, N_X11_reads_10, N_X11_reads_13, N_X11_reads_14, N_X11_reads_15, N_X11_reads_18, N_X11_reads_19, N_X11_reads_20, N_X11_reads_23, N_X11_reads_24, N_X11_reads_25, N_X11_reads_28, N_X11_reads_29, N_X11_reads_32, N_X11_reads_33, N_X11_reads_35, N_X11_reads_37, N_X11_reads_40, N_X11_reads_43, N_X11_reads_46, N_X11_reads_47, N_X11_reads_49, N_X11_reads_52, N_X11_reads_53, N_X11_reads_56, N_X11_reads_57, N_X11_reads_60, N_X11_reads_63, N_X11_reads_64, N_X11_reads_67, N_X11_reads_70, N_X11_reads_73, N_X11_reads_74, N_X11_reads_77, N_X11_reads_80, N_X11_reads_81, N_X11_reads_84, N_X11_reads_85, N_X11_reads_88, N_X11_reads_91, N_X11_reads_92, N_X11_reads_95, N_X11_reads_96, N_X11_reads_97, N_X11_reads_100, N_X11_reads_103, N_X11_reads_104, N_X11_reads_107, if_true, if_false, ite_true, ite_false, not_false_eq_true, not_true_eq_false, isRf_ref, isRf_null, c1_int, c1_ref, c1_null, c1_none, rfv_some, rfv_none, Ok_s, tl_some, tl_none, List.nil_append, b2i_n1, b2i_n0, ↓reduceIte, nI_add, pk_mul, pk_sub, n_leT, n_leF, n_ltT, n_ltF, n_eqT, n_eqF, n_shl1, n_shl, n_shr, nI_and, nI_or, nI_xor, b2i_z, b2i_o, m1_n, n_m1, m1_lt, m1_le, n_lm1, n_em1, nI_m1, and1, and3, and7, and15, and63, and255, Bool.true_eq_false, Bool.false_eq_true, reduceCtorEq, Nat.reduceAdd, Nat.reduceMul, Nat.reduceSub, Nat.reduceDiv, Nat.reduceMod, Nat.reducePow, Nat.zero_add, Nat.one_mul]
  unfold rdR
  cases hr : rdC tk vl 0 0 0 with
  | inl q =>
    rw [hr] at hP
    obtain ⟨p', l', rfl⟩ := hP
    have hrl : rdL tk vl m 12 0 0 0 = .inl q := by unfold rdL; rw [hr]
    rw [hrl]
    have hbad := r_rdBad (xs := xs) (Ln := Ln) (d := d) (D := D) (I := up2 J 82 10 (nI 0)) (L := L) (ps := ps) (p' := p') (l' := l') (q := q) (cnt := 1) (hp4 q)
    obtain ⟨r, hr1, I2, ok, fl, hr2, hr3, hr4⟩ := hbad
    obtain ⟨g1, g2, g3, g4, g5, g6⟩ := fin I2 ok fl hr3
    exact ⟨r, hr1, I2, ok, fl, hr2, g1, g2, g3, g4, g5, g6, hr4⟩
  | inr y =>
    obtain ⟨p, l, c, cl⟩ := y
    rw [hr] at hP
    have hI : I' = pst (up2 J 82 10 (nI 0)) p l none := hP
    subst hI
    have i1 := rdC_p hz (Nat.zero_le _) hr
    have hL := r_readsL (xs := xs) (Ln := Ln) (d := d) (D := D) (L := L) hT' h15 11 1 p l c.length (by omega) (by omega) i1.2.1 (i1.2.2.2.1 (by omega))
    obtain ⟨r, hr1, I2, ok, fl, hr2, hr3, hr4⟩ := hL
    obtain ⟨g1, g2, g3, g4, g5, g6⟩ := fin I2 ok fl hr3
    refine ⟨r, hr1, I2, ok, fl, hr2, g1, g2, g3, g4, g5, g6, ?_⟩
    have hrl : rdL tk vl m 12 0 0 0 = if tk p = 159 then
        (match rdL tk vl m 11 (p + 1) l (0 + c.length) with
        | .inl q => .inl q
        | .inr (c3, cs) => .inr (c ++ c3, cl :: cs))
      else if p = m then .inr (c, [cl]) else .inl p := by
      rw [show rdL tk vl m 12 0 0 0 = (match rdC tk vl 0 0 0 with
        | .inl q => .inl q
        | .inr (p, l, c, cl) => if tk p = 159 then
            (match rdL tk vl m 11 (p + 1) l (0 + c.length) with
            | .inl q => .inl q
            | .inr (c2, cs) => .inr (c ++ c2, cl :: cs))
          else if p = m then .inr (c, [cl]) else .inl p) from id rfl, hr]
    rw [Nat.zero_add] at hrl
    rw [hrl]
    by_cases h159 : tk p = 159
    · rw [if_pos h159] at hr4 ⊢
      cases hrr : rdL tk vl m 11 (p + 1) l c.length with
      | inl q => rw [hrr] at hr4; exact hr4
      | inr y => rw [hrr] at hr4; exact hr4
    · rw [if_neg h159] at hr4 ⊢
      by_cases hpm : p = m
      · rw [if_pos hpm] at hr4 ⊢; exact hr4
      · rw [if_neg hpm] at hr4 ⊢; exact hr4
end Ph3
