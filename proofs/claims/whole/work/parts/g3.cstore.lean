section Pg3
variable {xs : Nat → Int32} {Ln d : Nat} {D D' D'' : Dyn} {I I' I'' J : Nat → Nat → Int32} {L : Nat → Nat → Int64} {w : Om} {Q : Res → Prop} {ow ow' ow'' ky ky' ky'' ln ln' ln'' a a' : Nat → Nat} {o be sr : Nat} {A A' : As} {nn : Nat}
/-! the store: sets in their order -/
def SO (n : Nat) (s f : Nat → Nat) : Prop := n ≤ 200 ∧ (∀ i, i < n → s i < 4096 ∧ 0 < f (s i)) ∧ (∀ i j, i < j → j < n → s i < s j) ∧ (∀ x, x < 4096 → 0 < f x → ∃ i, i < n ∧ s i = x)
def LO (n : Nat) (s : Nat → Nat) (v t : Nat) : Prop := t ≤ n ∧ (∀ i, i < t → s i < v) ∧ (∀ i, t ≤ i → i < n → v ≤ s i)
theorem lo_cnt {n : Nat} {s f : Nat → Nat} (h : SO n s f) (p : Nat → Bool) : ∀ v, v ≤ 4096 → ∀ t, LO n s v t → cntB (fun x => p x && decide (0 < f x)) v = cntB (fun i => p (s i)) t
  | 0, _, t, ho => by
    have : t = 0 := by
      by_cases e : t = 0
      · exact e
      · have := ho.2.1 0 (by omega)
        omega
    rw [this]
    rfl
  | v + 1, hv, t, ho => by
    obtain ⟨h1, h2, h3, h4⟩ := h
    show cntB _ v + (if (p v && decide (0 < f v)) = true then 1 else 0) = _
    have ho1 := ho.1
    by_cases hf : 0 < f v
    · obtain ⟨i, hi, e⟩ := h4 v (by omega) hf
      have ht : t = i + 1 := by
        have a1 : i < t := by
          by_cases c : i < t
          · exact c
          · have := ho.2.2 i (by omega) hi
            omega
        by_cases c : t = i + 1
        · exact c
        · have b1 := ho.2.1 (i + 1) (by omega)
          have b2 := h3 i (i + 1) (by omega) (by omega)
          omega
      have ih := lo_cnt ⟨h1, h2, h3, h4⟩ p v (by omega) i ⟨by omega, fun j hj => by have := h3 j i hj hi; omega, fun j hj hjn => by
        by_cases c : j = i
        · rw [c]; omega
        · have := h3 i j (by omega) hjn
          omega⟩
      rw [ih, ht, decide_eq_true hf, Bool.and_true, ← e]
      rfl
    · have ih := lo_cnt ⟨h1, h2, h3, h4⟩ p v (by omega) t ⟨ho1, fun j hj => by
        have q1 := ho.2.1 j hj
        have q2 := (h2 j (by omega)).2
        have q3 : s j ≠ v := fun c => hf (by rw [← c]; exact q2)
        omega, fun j hj hjn => by have := ho.2.2 j hj hjn; omega⟩
      rw [ih, decide_eq_false hf, Bool.and_false]
      exact Nat.add_zero _
theorem blw_cnt (f : Nat → Nat) : ∀ n, blw f n = cntB (fun x => (fun _ => true) x && decide (0 < f x)) n
  | 0 => rfl
  | n + 1 => by
    rw [blw_s, cntB_s, blw_cnt f n]
    by_cases h : 0 < f n
    · rw [if_pos h, if_pos (by rw [decide_eq_true h]; rfl)]
    · rw [if_neg h, if_neg (by rw [decide_eq_false h]; exact Bool.noConfusion)]
theorem cntB_1 : ∀ n, cntB (fun _ => true) n = n
  | 0 => rfl
  | n + 1 => by rw [cntB_s, cntB_1 n, if_pos rfl]
theorem lo_blw {n v t : Nat} {s f : Nat → Nat} (h : SO n s f) (hv : v ≤ 4096) (ho : LO n s v t) : blw f v = t := by
  rw [blw_cnt, lo_cnt h (fun _ => true) v hv t ho]
  exact cntB_1 t
theorem lo_top {n : Nat} {s f : Nat → Nat} (h : SO n s f) : LO n s 4096 n := ⟨Nat.le_refl _, fun i hi => (h.2.1 i hi).1, fun i h1 h2 => by omega⟩
theorem lo_n {n : Nat} {s f : Nat → Nat} (h : SO n s f) : blw f 4096 = n := lo_blw h (Nat.le_refl _) (lo_top h)
theorem blw_sm (f : Nat → Nat) : ∀ n, blw f n ≤ smN f n
  | 0 => Nat.le_refl _
  | n + 1 => by
    have := blw_sm f n
    rw [blw_s]
    show _ ≤ smN f n + f n
    split <;> omega
theorem lo_tm {n v t : Nat} {s f : Nat → Nat} (h : SO n s f) (hv : v < 4096) (ho : LO n s v t) : (t < n ∧ s t = v ∧ 0 < f v) ∨ ((t < n → s t ≠ v) ∧ f v = 0) := by
  obtain ⟨h1, h2, h3, h4⟩ := h
  by_cases hf : 0 < f v
  · left
    obtain ⟨i, hi, e⟩ := h4 v hv hf
    have a1 : t ≤ i := by
      by_cases c : t ≤ i
      · exact c
      · have := ho.2.1 i (by omega)
        omega
    by_cases c : t = i
    · rw [c]
      exact ⟨hi, e, hf⟩
    · have b1 := h3 t i (by omega) hi
      have b2 := ho.2.2 t (Nat.le_refl _) (by omega)
      omega
  · right
    refine ⟨fun ht he => hf ?_, by omega⟩
    have := (h2 t ht).2
    rw [he] at this
    exact this
def StW (I : Nat → Nat → Int32) (n : Nat) (s f : Nat → Nat) : Prop := I 11 0 = nI n ∧ (∀ i, i < n → I 12 i = nI (s i) ∧ I 13 i = nI (f (s i))) ∧ SO n s f
theorem StI.wo (h : StI I 1 a) : I 11 1 = nI (a 4324) ∧ ∃ n s, StW I n s (fun x => a (224 + x)) := by
  obtain ⟨n, s, s1, s2, s3, s4, s5, s6⟩ := h
  exact ⟨s3, n, s, s2, fun i hi => ⟨(s4 i hi).1, (s4 i hi).2.1⟩, s1, fun i hi => (s4 i hi).2.2, s5, s6⟩
theorem StI.of {n : Nat} {s : Nat → Nat} (h1 : I 11 1 = nI (a 4324)) (h : StW I n s (fun x => a (224 + x))) : StI I 1 a := by
  obtain ⟨s2, s3, s1, s4, s5, s6⟩ := h
  exact ⟨n, s, s1, s2, h1, fun i hi => ⟨(s3 i hi).1, (s3 i hi).2, s4 i hi⟩, s5, s6⟩
theorem c_lowerThan {n v : Nat} {s f : Nat → Nat} (hw : StW I n s f) (hv : v ≤ 4096) : ∃ t, LO n s v t ∧ callD xs Ln (d + 1) 62 [.ref 11, .int (nI v)] (mkW D I L) = some (mkW D I L, some (.int (nI t))) := by
  obtain ⟨hn, hs, h⟩ := hw
  have h200 := h.1
  have key : Ok (callD xs Ln (d + 1) 62 [.ref 11, .int (nI v)] (mkW D I L)) (fun r => ∃ t, LO n s v t ∧ r = (mkW D I L, some (.int (nI t)))) := by
    refine semG (lo := [some (.ref 11), some (.int (nI v)), none, none, none, none]) rfl rfl (Nat.le_of_ble_eq_true rfl) rfl (show G_X7_lowerThan xs Ln _ 0 [some (.ref 11), some (.int (nI v)), none, none, none, none] [] _ _ from ?_)
    simp (disch := first | omega | exact c1_int _ | exact c1_none | exact c1_ref _ | exact isRf_ref _ | assumption | exact okRb _ | exact okN1 | exact okN0 | exact rfl) only [N_X7_lowerThan_0, N_X7_lowerThan_1, N_X7_lowerThan_2, N_X7_lowerThan_3, N_X7_lowerThan_6, N_X7_lowerThan_7, N_X7_lowerThan_8, N_X7_lowerThan_12, N_X7_lowerThan_15, N_X7_lowerThan_18, N_X7_lowerThan_19, N_X7_lowerThan_20, N_X7_lowerThan_23, N_X7_lowerThan_24, N_X7_lowerThan_25, N_X7_lowerThan_26, N_X7_lowerThan_27, N_X7_lowerThan_28, N_X7_lowerThan_30, N_X7_lowerThan_31, N_X7_lowerThan_34, N_X7_lowerThan_36, N_X7_lowerThan_37, N_X7_lowerThan_38, N_X7_lowerThan_41, N_X7_lowerThan_43, N_X7_lowerThan_44, N_X7_lowerThan_45, N_X7_lowerThan_46, N_X7_lowerThan_49, N_X7_lowerThan_51, N_X7_lowerThan_52, N_X7_lowerThan_55, N_X7_lowerThan_58, N_X7_lowerThan_59, if_true, if_false, ite_true, ite_false, not_false_eq_true, not_true_eq_false, isRf_ref, isRf_null, c1_int, c1_ref, c1_null, c1_none, rfv_some, rfv_none, Ok_s, tl_some, tl_none, List.nil_append, b2i_n1, b2i_n0, ↓reduceIte, nI_add, pk_mul, pk_sub, n_leT, n_leF, n_ltT, n_ltF, n_eqT, n_eqF, n_shl1, n_shl, n_shr, nI_and, nI_or, nI_xor, b2i_z, b2i_o, m1_n, n_m1, m1_lt, m1_le, n_lm1, n_em1, nI_m1, and1, and3, and7, and15, and63, and255, Bool.true_eq_false, Bool.false_eq_true, reduceCtorEq, Nat.reduceAdd, Nat.reduceMul, Nat.reduceSub, Nat.reduceDiv, Nat.reduceMod, Nat.reducePow, Nat.zero_add, Nat.one_mul, hn]
    refine Lp (n := 200) (σ := Nat × Nat) (E := fun i X => ∀ u5, G_X7_lowerThan xs Ln (d) 10 [some (.ref 11), some (.int (nI v)), some (.int (nI X.1)), some (.int (nI X.2)), some (.int (nI i)), u5] [] (mkW D I L) _) (Inv := fun i X => X.1 ≤ X.2 ∧ X.2 ≤ n ∧ X.2 - X.1 ≤ 200 - i ∧ (∀ j, j < X.1 → s j < v) ∧ (∀ j, X.2 ≤ j → j < n → v ≤ s j)) ?_ ?_ 0 (0, n) (by omega) ⟨Nat.zero_le _, Nat.le_refl _, by omega, fun j hj => absurd hj (by omega), fun j h1 h2 => by omega⟩ none
    · rintro ⟨lo, hi⟩ ⟨i1, i2, i3, i4, i5⟩ u5
      dsimp only at i1 i2 i3 i4 i5 ⊢
      rw [N_X7_lowerThan_10]
      simp (disch := first | omega | exact c1_int _ | exact c1_none | exact c1_ref _ | exact isRf_ref _ | assumption | exact okRb _ | exact okN1 | exact okN0 | exact rfl) only [N_X7_lowerThan_0, N_X7_lowerThan_1, N_X7_lowerThan_2, N_X7_lowerThan_3, N_X7_lowerThan_6, N_X7_lowerThan_7, N_X7_lowerThan_8, N_X7_lowerThan_12, N_X7_lowerThan_15, N_X7_lowerThan_18, N_X7_lowerThan_19, N_X7_lowerThan_20, N_X7_lowerThan_23, N_X7_lowerThan_24, N_X7_lowerThan_25, N_X7_lowerThan_26, N_X7_lowerThan_27, N_X7_lowerThan_28, N_X7_lowerThan_30, N_X7_lowerThan_31, N_X7_lowerThan_34, N_X7_lowerThan_36, N_X7_lowerThan_37, N_X7_lowerThan_38, N_X7_lowerThan_41, N_X7_lowerThan_43, N_X7_lowerThan_44, N_X7_lowerThan_45, N_X7_lowerThan_46, N_X7_lowerThan_49, N_X7_lowerThan_51, N_X7_lowerThan_52, N_X7_lowerThan_55, N_X7_lowerThan_58, N_X7_lowerThan_59, if_true, if_false, ite_true, ite_false, not_false_eq_true, not_true_eq_false, isRf_ref, isRf_null, c1_int, c1_ref, c1_null, c1_none, rfv_some, rfv_none, Ok_s, tl_some, tl_none, List.nil_append, b2i_n1, b2i_n0, ↓reduceIte, nI_add, pk_mul, pk_sub, n_leT, n_leF, n_ltT, n_ltF, n_eqT, n_eqF, n_shl1, n_shl, n_shr, nI_and, nI_or, nI_xor, b2i_z, b2i_o, m1_n, n_m1, m1_lt, m1_le, n_lm1, n_em1, nI_m1, and1, and3, and7, and15, and63, and255, Bool.true_eq_false, Bool.false_eq_true, reduceCtorEq, Nat.reduceAdd, Nat.reduceMul, Nat.reduceSub, Nat.reduceDiv, Nat.reduceMod, Nat.reducePow, Nat.zero_add, Nat.one_mul]
      exact ⟨lo, ⟨by omega, i4, fun j hj hjn => i5 j (by omega) hjn⟩, rfl⟩
    · rintro i ⟨lo, hi⟩ hi2 ⟨i1, i2, i3, i4, i5⟩ ih u5
      dsimp only at i1 i2 i3 i4 i5 ih ⊢
      rw [N_X7_lowerThan_10]
      by_cases hlt : lo < hi
      · obtain ⟨m, hm⟩ : ∃ m, m = (lo + hi) / 2 := ⟨_, rfl⟩
        have e12 : I 12 m = nI (s m) := (hs m (by omega)).1
        have hsl := (h.2.1 m (by omega)).1
        by_cases hc : s m < v
        · simp (disch := first | omega | exact c1_int _ | exact c1_none | exact c1_ref _ | exact isRf_ref _ | assumption | exact okRb _ | exact okN1 | exact okN0 | exact rfl) only [N_X7_lowerThan_0, N_X7_lowerThan_1, N_X7_lowerThan_2, N_X7_lowerThan_3, N_X7_lowerThan_6, N_X7_lowerThan_7, N_X7_lowerThan_8, N_X7_lowerThan_12, N_X7_lowerThan_15, N_X7_lowerThan_18, N_X7_lowerThan_19, N_X7_lowerThan_20, N_X7_lowerThan_23, N_X7_lowerThan_24, N_X7_lowerThan_25, N_X7_lowerThan_26, N_X7_lowerThan_27, N_X7_lowerThan_28, N_X7_lowerThan_30, N_X7_lowerThan_31, N_X7_lowerThan_34, N_X7_lowerThan_36, N_X7_lowerThan_37, N_X7_lowerThan_38, N_X7_lowerThan_41, N_X7_lowerThan_43, N_X7_lowerThan_44, N_X7_lowerThan_45, N_X7_lowerThan_46, N_X7_lowerThan_49, N_X7_lowerThan_51, N_X7_lowerThan_52, N_X7_lowerThan_55, N_X7_lowerThan_58, N_X7_lowerThan_59, if_true, if_false, ite_true, ite_false, not_false_eq_true, not_true_eq_false, isRf_ref, isRf_null, c1_int, c1_ref, c1_null, c1_none, rfv_some, rfv_none, Ok_s, tl_some, tl_none, List.nil_append, b2i_n1, b2i_n0, ↓reduceIte, nI_add, pk_mul, pk_sub, n_leT, n_leF, n_ltT, n_ltF, n_eqT, n_eqF, n_shl1, n_shl, n_shr, nI_and, nI_or, nI_xor, b2i_z, b2i_o, m1_n, n_m1, m1_lt, m1_le, n_lm1, n_em1, nI_m1, and1, and3, and7, and15, and63, and255, Bool.true_eq_false, Bool.false_eq_true, reduceCtorEq, Nat.reduceAdd, Nat.reduceMul, Nat.reduceSub, Nat.reduceDiv, Nat.reduceMod, Nat.reducePow, Nat.zero_add, Nat.one_mul, ← hm, e12]
          refine ih (m + 1, hi) ⟨by dsimp only; omega, i2, by dsimp only; omega, fun j hj => ?_, i5⟩ _
          dsimp only at hj
          by_cases e : j = m
          · rw [e]; exact hc
          · have := h.2.2.1 j m (by omega) (by omega)
            omega
        · simp (disch := first | omega | exact c1_int _ | exact c1_none | exact c1_ref _ | exact isRf_ref _ | assumption | exact okRb _ | exact okN1 | exact okN0 | exact rfl) only [N_X7_lowerThan_0, N_X7_lowerThan_1, N_X7_lowerThan_2, N_X7_lowerThan_3, N_X7_lowerThan_6, N_X7_lowerThan_7, N_X7_lowerThan_8, N_X7_lowerThan_12, N_X7_lowerThan_15, N_X7_lowerThan_18, N_X7_lowerThan_19, N_X7_lowerThan_20, N_X7_lowerThan_23, N_X7_lowerThan_24, N_X7_lowerThan_25, N_X7_lowerThan_26, N_X7_lowerThan_27, N_X7_lowerThan_28, N_X7_lowerThan_30, N_X7_lowerThan_31, N_X7_lowerThan_34, N_X7_lowerThan_36, N_X7_lowerThan_37, N_X7_lowerThan_38, N_X7_lowerThan_41, N_X7_lowerThan_43, N_X7_lowerThan_44, N_X7_lowerThan_45, N_X7_lowerThan_46, N_X7_lowerThan_49, N_X7_lowerThan_51, N_X7_lowerThan_52, N_X7_lowerThan_55, N_X7_lowerThan_58, N_X7_lowerThan_59, if_true, if_false, ite_true, ite_false, not_false_eq_true, not_true_eq_false, isRf_ref, isRf_null, c1_int, c1_ref, c1_null, c1_none, rfv_some, rfv_none, Ok_s, tl_some, tl_none, List.nil_append, b2i_n1, b2i_n0, ↓reduceIte, nI_add, pk_mul, pk_sub, n_leT, n_leF, n_ltT, n_ltF, n_eqT, n_eqF, n_shl1, n_shl, n_shr, nI_and, nI_or, nI_xor, b2i_z, b2i_o, m1_n, n_m1, m1_lt, m1_le, n_lm1, n_em1, nI_m1, and1, and3, and7, and15, and63, and255, Bool.true_eq_false, Bool.false_eq_true, reduceCtorEq, Nat.reduceAdd, Nat.reduceMul, Nat.reduceSub, Nat.reduceDiv, Nat.reduceMod, Nat.reducePow, Nat.zero_add, Nat.one_mul, ← hm, e12]
          refine ih (lo, m) ⟨by dsimp only; omega, by dsimp only; omega, by dsimp only; omega, i4, fun j hj hjn => ?_⟩ _
          dsimp only at hj
          by_cases e : j = m
          · rw [e]; omega
          · have := h.2.2.1 m j (by omega) hjn
            omega
      · simp (disch := first | omega | exact c1_int _ | exact c1_none | exact c1_ref _ | exact isRf_ref _ | assumption | exact okRb _ | exact okN1 | exact okN0 | exact rfl) only [N_X7_lowerThan_0, N_X7_lowerThan_1, N_X7_lowerThan_2, N_X7_lowerThan_3, N_X7_lowerThan_6, N_X7_lowerThan_7, N_X7_lowerThan_8, N_X7_lowerThan_12, N_X7_lowerThan_15, N_X7_lowerThan_18, N_X7_lowerThan_19, N_X7_lowerThan_20, N_X7_lowerThan_23, N_X7_lowerThan_24, N_X7_lowerThan_25, N_X7_lowerThan_26, N_X7_lowerThan_27, N_X7_lowerThan_28, N_X7_lowerThan_30, N_X7_lowerThan_31, N_X7_lowerThan_34, N_X7_lowerThan_36, N_X7_lowerThan_37, N_X7_lowerThan_38, N_X7_lowerThan_41, N_X7_lowerThan_43, N_X7_lowerThan_44, N_X7_lowerThan_45, N_X7_lowerThan_46, N_X7_lowerThan_49, N_X7_lowerThan_51, N_X7_lowerThan_52, N_X7_lowerThan_55, N_X7_lowerThan_58, N_X7_lowerThan_59, if_true, if_false, ite_true, ite_false, not_false_eq_true, not_true_eq_false, isRf_ref, isRf_null, c1_int, c1_ref, c1_null, c1_none, rfv_some, rfv_none, Ok_s, tl_some, tl_none, List.nil_append, b2i_n1, b2i_n0, ↓reduceIte, nI_add, pk_mul, pk_sub, n_leT, n_leF, n_ltT, n_ltF, n_eqT, n_eqF, n_shl1, n_shl, n_shr, nI_and, nI_or, nI_xor, b2i_z, b2i_o, m1_n, n_m1, m1_lt, m1_le, n_lm1, n_em1, nI_m1, and1, and3, and7, and15, and63, and255, Bool.true_eq_false, Bool.false_eq_true, reduceCtorEq, Nat.reduceAdd, Nat.reduceMul, Nat.reduceSub, Nat.reduceDiv, Nat.reduceMod, Nat.reducePow, Nat.zero_add, Nat.one_mul]
        exact ⟨lo, ⟨by omega, i4, fun j hj hjn => i5 j (by omega) hjn⟩, rfl⟩
  obtain ⟨_, hc, t, ho, rfl⟩ := key
  exact ⟨t, ho, hc⟩
theorem c_timesOf {n v : Nat} {s f : Nat → Nat} (hw : StW I n s f) (hv : v < 4096) : callD xs Ln (d + 2) 63 [.ref 11, .int (nI v)] (mkW D I L) = some (mkW D I L, some (.int (nI (f v)))) := by
  obtain ⟨t, ho, hc⟩ := c_lowerThan (xs := xs) (Ln := Ln) (d := d) (D := D) (L := L) hw (Nat.le_of_lt hv)
  obtain ⟨hn, hs, h⟩ := hw
  have h200 := h.1
  have ht := ho.1
  refine Ok.eq ?_
  refine semG (lo := [some (.ref 11), some (.int (nI v)), none]) rfl rfl (Nat.le_of_ble_eq_true rfl) rfl (show G_X7_timesOf xs Ln _ 0 [some (.ref 11), some (.int (nI v)), none] [] _ _ from ?_)
  rcases lo_tm h hv ho with ⟨h1, h2, h3⟩ | ⟨h1, h2⟩
  · have e1 := (hs t h1).1
    have e2 := (hs t h1).2
    rw [h2] at e1 e2
    simp (disch := first | omega | exact c1_int _ | exact c1_none | exact c1_ref _ | exact isRf_ref _ | assumption | exact okRb _ | exact okN1 | exact okN0 | exact rfl) only [N_X7_timesOf_0, N_X7_timesOf_1, N_X7_timesOf_2, N_X7_timesOf_5, N_X7_timesOf_6, N_X7_timesOf_7, N_X7_timesOf_8, N_X7_timesOf_11, N_X7_timesOf_14, N_X7_timesOf_15, N_X7_timesOf_18, N_X7_timesOf_19, N_X7_timesOf_20, N_X7_timesOf_21, N_X7_timesOf_24, N_X7_timesOf_25, N_X7_timesOf_28, N_X7_timesOf_29, N_X7_timesOf_30, N_X7_timesOf_33, N_X7_timesOf_34, if_true, if_false, ite_true, ite_false, not_false_eq_true, not_true_eq_false, isRf_ref, isRf_null, c1_int, c1_ref, c1_null, c1_none, rfv_some, rfv_none, Ok_s, tl_some, tl_none, List.nil_append, b2i_n1, b2i_n0, ↓reduceIte, nI_add, pk_mul, pk_sub, n_leT, n_leF, n_ltT, n_ltF, n_eqT, n_eqF, n_shl1, n_shl, n_shr, nI_and, nI_or, nI_xor, b2i_z, b2i_o, m1_n, n_m1, m1_lt, m1_le, n_lm1, n_em1, nI_m1, and1, and3, and7, and15, and63, and255, Bool.true_eq_false, Bool.false_eq_true, reduceCtorEq, Nat.reduceAdd, Nat.reduceMul, Nat.reduceSub, Nat.reduceDiv, Nat.reduceMod, Nat.reducePow, Nat.zero_add, Nat.one_mul, hc, hn, e1, e2]
  · rw [h2]
    by_cases h3 : t < n
    · have e1 := (hs t h3).1
      have e3 := h1 h3
      have e4 := (h.2.1 t h3).1
      simp (disch := first | omega | exact c1_int _ | exact c1_none | exact c1_ref _ | exact isRf_ref _ | assumption | exact okRb _ | exact okN1 | exact okN0 | exact rfl) only [N_X7_timesOf_0, N_X7_timesOf_1, N_X7_timesOf_2, N_X7_timesOf_5, N_X7_timesOf_6, N_X7_timesOf_7, N_X7_timesOf_8, N_X7_timesOf_11, N_X7_timesOf_14, N_X7_timesOf_15, N_X7_timesOf_18, N_X7_timesOf_19, N_X7_timesOf_20, N_X7_timesOf_21, N_X7_timesOf_24, N_X7_timesOf_25, N_X7_timesOf_28, N_X7_timesOf_29, N_X7_timesOf_30, N_X7_timesOf_33, N_X7_timesOf_34, if_true, if_false, ite_true, ite_false, not_false_eq_true, not_true_eq_false, isRf_ref, isRf_null, c1_int, c1_ref, c1_null, c1_none, rfv_some, rfv_none, Ok_s, tl_some, tl_none, List.nil_append, b2i_n1, b2i_n0, ↓reduceIte, nI_add, pk_mul, pk_sub, n_leT, n_leF, n_ltT, n_ltF, n_eqT, n_eqF, n_shl1, n_shl, n_shr, nI_and, nI_or, nI_xor, b2i_z, b2i_o, m1_n, n_m1, m1_lt, m1_le, n_lm1, n_em1, nI_m1, and1, and3, and7, and15, and63, and255, Bool.true_eq_false, Bool.false_eq_true, reduceCtorEq, Nat.reduceAdd, Nat.reduceMul, Nat.reduceSub, Nat.reduceDiv, Nat.reduceMod, Nat.reducePow, Nat.zero_add, Nat.one_mul, hc, hn, e1]
    · simp (disch := first | omega | exact c1_int _ | exact c1_none | exact c1_ref _ | exact isRf_ref _ | assumption | exact okRb _ | exact okN1 | exact okN0 | exact rfl) only [N_X7_timesOf_0, N_X7_timesOf_1, N_X7_timesOf_2, N_X7_timesOf_5, N_X7_timesOf_6, N_X7_timesOf_7, N_X7_timesOf_8, N_X7_timesOf_11, N_X7_timesOf_14, N_X7_timesOf_15, N_X7_timesOf_18, N_X7_timesOf_19, N_X7_timesOf_20, N_X7_timesOf_21, N_X7_timesOf_24, N_X7_timesOf_25, N_X7_timesOf_28, N_X7_timesOf_29, N_X7_timesOf_30, N_X7_timesOf_33, N_X7_timesOf_34, if_true, if_false, ite_true, ite_false, not_false_eq_true, not_true_eq_false, isRf_ref, isRf_null, c1_int, c1_ref, c1_null, c1_none, rfv_some, rfv_none, Ok_s, tl_some, tl_none, List.nil_append, b2i_n1, b2i_n0, ↓reduceIte, nI_add, pk_mul, pk_sub, n_leT, n_leF, n_ltT, n_ltF, n_eqT, n_eqF, n_shl1, n_shl, n_shr, nI_and, nI_or, nI_xor, b2i_z, b2i_o, m1_n, n_m1, m1_lt, m1_le, n_lm1, n_em1, nI_m1, and1, and3, and7, and15, and63, and255, Bool.true_eq_false, Bool.false_eq_true, reduceCtorEq, Nat.reduceAdd, Nat.reduceMul, Nat.reduceSub, Nat.reduceDiv, Nat.reduceMod, Nat.reducePow, Nat.zero_add, Nat.one_mul, hc, hn]
theorem C_held {v x : Int32} (hx : x = qHeld A v) (h : CI D I A nn) : CCall xs Ln (d + 8) 122 [.ref 0, .int v] D I L A nn x := by
  subst hx
  have hst : StI I 1 (sa A) := by obtain ⟨ow, ky, ln, h⟩ := h; exact h.2.2.2.2.1
  obtain ⟨_, n, s, hw⟩ := hst.wo
  unfold qHeld
  refine CC_id h (Ok.eq ?_)
  refine semG (lo := [some (.ref 0), some (.int v)]) rfl rfl (Nat.le_of_ble_eq_true rfl) rfl (show G_X10_held xs Ln _ 0 [some (.ref 0), some (.int v)] [] _ _ from ?_)
  cases h0 : inN v (nI 4096)
  · simp (disch := first | omega | exact c1_int _ | exact c1_none | exact c1_ref _ | exact isRf_ref _ | assumption | exact okRb _ | exact okN1 | exact okN0 | exact rfl) only [N_X10_held_0, N_X10_held_1, N_X10_held_4, N_X10_held_7, N_X10_held_8, N_X10_held_11, N_X10_held_14, N_X10_held_15, N_X10_held_18, N_X10_held_21, N_X10_held_22, if_true, if_false, ite_true, ite_false, not_false_eq_true, not_true_eq_false, isRf_ref, isRf_null, c1_int, c1_ref, c1_null, c1_none, rfv_some, rfv_none, Ok_s, tl_some, tl_none, List.nil_append, b2i_n1, b2i_n0, ↓reduceIte, nI_add, pk_mul, pk_sub, n_leT, n_leF, n_ltT, n_ltF, n_eqT, n_eqF, n_shl1, n_shl, n_shr, nI_and, nI_or, nI_xor, b2i_z, b2i_o, m1_n, n_m1, m1_lt, m1_le, n_lm1, n_em1, nI_m1, and1, and3, and7, and15, and63, and255, Bool.true_eq_false, Bool.false_eq_true, reduceCtorEq, Nat.reduceAdd, Nat.reduceMul, Nat.reduceSub, Nat.reduceDiv, Nat.reduceMod, Nat.reducePow, Nat.zero_add, Nat.one_mul, c_isStoreSet, show inN v 4096 = false from h0]
    rfl
  · obtain ⟨v, hv, rfl⟩ := inN_t (by decide) h0
    simp (disch := first | omega | exact c1_int _ | exact c1_none | exact c1_ref _ | exact isRf_ref _ | assumption | exact okRb _ | exact okN1 | exact okN0 | exact rfl) only [N_X10_held_0, N_X10_held_1, N_X10_held_4, N_X10_held_7, N_X10_held_8, N_X10_held_11, N_X10_held_14, N_X10_held_15, N_X10_held_18, N_X10_held_21, N_X10_held_22, if_true, if_false, ite_true, ite_false, not_false_eq_true, not_true_eq_false, isRf_ref, isRf_null, c1_int, c1_ref, c1_null, c1_none, rfv_some, rfv_none, Ok_s, tl_some, tl_none, List.nil_append, b2i_n1, b2i_n0, ↓reduceIte, nI_add, pk_mul, pk_sub, n_leT, n_leF, n_ltT, n_ltF, n_eqT, n_eqF, n_shl1, n_shl, n_shr, nI_and, nI_or, nI_xor, b2i_z, b2i_o, m1_n, n_m1, m1_lt, m1_le, n_lm1, n_em1, nI_m1, and1, and3, and7, and15, and63, and255, Bool.true_eq_false, Bool.false_eq_true, reduceCtorEq, Nat.reduceAdd, Nat.reduceMul, Nat.reduceSub, Nat.reduceDiv, Nat.reduceMod, Nat.reducePow, Nat.zero_add, Nat.one_mul, c_isStoreSet, show inN (nI v) 4096 = true from h0, c_timesOf hw hv, n_cl]
    rfl
theorem C_rank {v x : Int32} (hx : x = qRank A v) (h : CI D I A nn) : CCall xs Ln (d + 8) 124 [.ref 0, .int v] D I L A nn x := by
  subst hx
  have hst : StI I 1 (sa A) := by obtain ⟨ow, ky, ln, h⟩ := h; exact h.2.2.2.2.1
  obtain ⟨_, n, s, hw⟩ := hst.wo
  unfold qRank
  refine CC_id h (Ok.eq ?_)
  refine semG (lo := [some (.ref 0), some (.int v)]) rfl rfl (Nat.le_of_ble_eq_true rfl) rfl (show G_X10_rank xs Ln _ 0 [some (.ref 0), some (.int v)] [] _ _ from ?_)
  cases h0 : inN v (nI 4096)
  · simp (disch := first | omega | exact c1_int _ | exact c1_none | exact c1_ref _ | exact isRf_ref _ | assumption | exact okRb _ | exact okN1 | exact okN0 | exact rfl) only [N_X10_rank_0, N_X10_rank_1, N_X10_rank_4, N_X10_rank_7, N_X10_rank_8, N_X10_rank_11, N_X10_rank_14, N_X10_rank_15, N_X10_rank_18, N_X10_rank_21, N_X10_rank_22, if_true, if_false, ite_true, ite_false, not_false_eq_true, not_true_eq_false, isRf_ref, isRf_null, c1_int, c1_ref, c1_null, c1_none, rfv_some, rfv_none, Ok_s, tl_some, tl_none, List.nil_append, b2i_n1, b2i_n0, ↓reduceIte, nI_add, pk_mul, pk_sub, n_leT, n_leF, n_ltT, n_ltF, n_eqT, n_eqF, n_shl1, n_shl, n_shr, nI_and, nI_or, nI_xor, b2i_z, b2i_o, m1_n, n_m1, m1_lt, m1_le, n_lm1, n_em1, nI_m1, and1, and3, and7, and15, and63, and255, Bool.true_eq_false, Bool.false_eq_true, reduceCtorEq, Nat.reduceAdd, Nat.reduceMul, Nat.reduceSub, Nat.reduceDiv, Nat.reduceMod, Nat.reducePow, Nat.zero_add, Nat.one_mul, c_isStoreSet, show inN v 4096 = false from h0]
    rfl
  · obtain ⟨v, hv, rfl⟩ := inN_t (by decide) h0
    obtain ⟨t, ho, hc⟩ := c_lowerThan (xs := xs) (Ln := Ln) (d := d + 6) (D := D) (L := L) hw (Nat.le_of_lt hv)
    have e := lo_blw hw.2.2 (Nat.le_of_lt hv) ho
    simp (disch := first | omega | exact c1_int _ | exact c1_none | exact c1_ref _ | exact isRf_ref _ | assumption | exact okRb _ | exact okN1 | exact okN0 | exact rfl) only [N_X10_rank_0, N_X10_rank_1, N_X10_rank_4, N_X10_rank_7, N_X10_rank_8, N_X10_rank_11, N_X10_rank_14, N_X10_rank_15, N_X10_rank_18, N_X10_rank_21, N_X10_rank_22, if_true, if_false, ite_true, ite_false, not_false_eq_true, not_true_eq_false, isRf_ref, isRf_null, c1_int, c1_ref, c1_null, c1_none, rfv_some, rfv_none, Ok_s, tl_some, tl_none, List.nil_append, b2i_n1, b2i_n0, ↓reduceIte, nI_add, pk_mul, pk_sub, n_leT, n_leF, n_ltT, n_ltF, n_eqT, n_eqF, n_shl1, n_shl, n_shr, nI_and, nI_or, nI_xor, b2i_z, b2i_o, m1_n, n_m1, m1_lt, m1_le, n_lm1, n_em1, nI_m1, and1, and3, and7, and15, and63, and255, Bool.true_eq_false, Bool.false_eq_true, reduceCtorEq, Nat.reduceAdd, Nat.reduceMul, Nat.reduceSub, Nat.reduceDiv, Nat.reduceMod, Nat.reducePow, Nat.zero_add, Nat.one_mul, c_isStoreSet, show inN (nI v) 4096 = true from h0, hc, n_cl]
    rw [← e]
    rfl
theorem C_betw {u v x : Int32} (hx : x = qBetw A u v) (h : CI D I A nn) : CCall xs Ln (d + 8) 127 [.ref 0, .int u, .int v] D I L A nn x := by
  subst hx
  have hst : StI I 1 (sa A) := by obtain ⟨ow, ky, ln, h⟩ := h; exact h.2.2.2.2.1
  obtain ⟨_, n, s, hw⟩ := hst.wo
  unfold qBetw
  refine CC_id h (Ok.eq ?_)
  refine semG (lo := [some (.ref 0), some (.int u), some (.int v)]) rfl rfl (Nat.le_of_ble_eq_true rfl) rfl (show G_X10_between xs Ln _ 0 [some (.ref 0), some (.int u), some (.int v)] [] _ _ from ?_)
  cases h0 : inN u (nI 4096)
  · simp (disch := first | omega | exact c1_int _ | exact c1_none | exact c1_ref _ | exact isRf_ref _ | assumption | exact okRb _ | exact okN1 | exact okN0 | exact rfl) only [N_X10_between_0, N_X10_between_1, N_X10_between_4, N_X10_between_7, N_X10_between_8, N_X10_between_11, N_X10_between_14, N_X10_between_15, N_X10_between_16, N_X10_between_19, N_X10_between_20, N_X10_between_21, N_X10_between_22, N_X10_between_25, N_X10_between_28, N_X10_between_29, N_X10_between_30, N_X10_between_31, N_X10_between_34, N_X10_between_35, N_X10_between_38, N_X10_between_41, N_X10_between_42, N_X10_between_45, N_X10_between_46, if_true, if_false, ite_true, ite_false, not_false_eq_true, not_true_eq_false, isRf_ref, isRf_null, c1_int, c1_ref, c1_null, c1_none, rfv_some, rfv_none, Ok_s, tl_some, tl_none, List.nil_append, b2i_n1, b2i_n0, ↓reduceIte, nI_add, pk_mul, pk_sub, n_leT, n_leF, n_ltT, n_ltF, n_eqT, n_eqF, n_shl1, n_shl, n_shr, nI_and, nI_or, nI_xor, b2i_z, b2i_o, m1_n, n_m1, m1_lt, m1_le, n_lm1, n_em1, nI_m1, and1, and3, and7, and15, and63, and255, Bool.true_eq_false, Bool.false_eq_true, reduceCtorEq, Nat.reduceAdd, Nat.reduceMul, Nat.reduceSub, Nat.reduceDiv, Nat.reduceMod, Nat.reducePow, Nat.zero_add, Nat.one_mul, c_isStoreSet, show inN u 4096 = false from h0]
    rfl
  · cases h1 : inN v (nI 4096)
    · simp (disch := first | omega | exact c1_int _ | exact c1_none | exact c1_ref _ | exact isRf_ref _ | assumption | exact okRb _ | exact okN1 | exact okN0 | exact rfl) only [N_X10_between_0, N_X10_between_1, N_X10_between_4, N_X10_between_7, N_X10_between_8, N_X10_between_11, N_X10_between_14, N_X10_between_15, N_X10_between_16, N_X10_between_19, N_X10_between_20, N_X10_between_21, N_X10_between_22, N_X10_between_25, N_X10_between_28, N_X10_between_29, N_X10_between_30, N_X10_between_31, N_X10_between_34, N_X10_between_35, N_X10_between_38, N_X10_between_41, N_X10_between_42, N_X10_between_45, N_X10_between_46, if_true, if_false, ite_true, ite_false, not_false_eq_true, not_true_eq_false, isRf_ref, isRf_null, c1_int, c1_ref, c1_null, c1_none, rfv_some, rfv_none, Ok_s, tl_some, tl_none, List.nil_append, b2i_n1, b2i_n0, ↓reduceIte, nI_add, pk_mul, pk_sub, n_leT, n_leF, n_ltT, n_ltF, n_eqT, n_eqF, n_shl1, n_shl, n_shr, nI_and, nI_or, nI_xor, b2i_z, b2i_o, m1_n, n_m1, m1_lt, m1_le, n_lm1, n_em1, nI_m1, and1, and3, and7, and15, and63, and255, Bool.true_eq_false, Bool.false_eq_true, reduceCtorEq, Nat.reduceAdd, Nat.reduceMul, Nat.reduceSub, Nat.reduceDiv, Nat.reduceMod, Nat.reducePow, Nat.zero_add, Nat.one_mul, c_isStoreSet, show inN u 4096 = true from h0, show inN v 4096 = false from h1]
      rfl
    · obtain ⟨u, hu, rfl⟩ := inN_t (by decide) h0
      obtain ⟨v, hv, rfl⟩ := inN_t (by decide) h1
      rw [n_cl (by omega), n_cl (by omega)]
      by_cases hl : u ≤ v
      · obtain ⟨t, ho, hc⟩ := c_lowerThan (xs := xs) (Ln := Ln) (d := d + 6) (D := D) (L := L) hw (Nat.le_of_lt hu)
        obtain ⟨t', ho', hc'⟩ := c_lowerThan (xs := xs) (Ln := Ln) (d := d + 6) (D := D) (L := L) hw (show v + 1 ≤ 4096 by omega)
        have e := lo_blw hw.2.2 (Nat.le_of_lt hu) ho
        have e' := lo_blw hw.2.2 (show v + 1 ≤ 4096 by omega) ho'
        have hm := blw_mono (fun x => sa A (224 + x)) (show u ≤ v + 1 by omega)
        rw [e, e'] at hm
        rw [decide_eq_true hl, if_pos (by rfl)]
        simp (disch := first | omega | exact c1_int _ | exact c1_none | exact c1_ref _ | exact isRf_ref _ | assumption | exact okRb _ | exact okN1 | exact okN0 | exact rfl) only [N_X10_between_0, N_X10_between_1, N_X10_between_4, N_X10_between_7, N_X10_between_8, N_X10_between_11, N_X10_between_14, N_X10_between_15, N_X10_between_16, N_X10_between_19, N_X10_between_20, N_X10_between_21, N_X10_between_22, N_X10_between_25, N_X10_between_28, N_X10_between_29, N_X10_between_30, N_X10_between_31, N_X10_between_34, N_X10_between_35, N_X10_between_38, N_X10_between_41, N_X10_between_42, N_X10_between_45, N_X10_between_46, if_true, if_false, ite_true, ite_false, not_false_eq_true, not_true_eq_false, isRf_ref, isRf_null, c1_int, c1_ref, c1_null, c1_none, rfv_some, rfv_none, Ok_s, tl_some, tl_none, List.nil_append, b2i_n1, b2i_n0, ↓reduceIte, nI_add, pk_mul, pk_sub, n_leT, n_leF, n_ltT, n_ltF, n_eqT, n_eqF, n_shl1, n_shl, n_shr, nI_and, nI_or, nI_xor, b2i_z, b2i_o, m1_n, n_m1, m1_lt, m1_le, n_lm1, n_em1, nI_m1, and1, and3, and7, and15, and63, and255, Bool.true_eq_false, Bool.false_eq_true, reduceCtorEq, Nat.reduceAdd, Nat.reduceMul, Nat.reduceSub, Nat.reduceDiv, Nat.reduceMod, Nat.reducePow, Nat.zero_add, Nat.one_mul, c_isStoreSet, show inN (nI u) 4096 = true from h0, show inN (nI v) 4096 = true from h1, hc, hc']
        rw [← e, ← e']
        rfl
      · rw [decide_eq_false hl, if_neg (by decide)]
        simp (disch := first | omega | exact c1_int _ | exact c1_none | exact c1_ref _ | exact isRf_ref _ | assumption | exact okRb _ | exact okN1 | exact okN0 | exact rfl) only [N_X10_between_0, N_X10_between_1, N_X10_between_4, N_X10_between_7, N_X10_between_8, N_X10_between_11, N_X10_between_14, N_X10_between_15, N_X10_between_16, N_X10_between_19, N_X10_between_20, N_X10_between_21, N_X10_between_22, N_X10_between_25, N_X10_between_28, N_X10_between_29, N_X10_between_30, N_X10_between_31, N_X10_between_34, N_X10_between_35, N_X10_between_38, N_X10_between_41, N_X10_between_42, N_X10_between_45, N_X10_between_46, if_true, if_false, ite_true, ite_false, not_false_eq_true, not_true_eq_false, isRf_ref, isRf_null, c1_int, c1_ref, c1_null, c1_none, rfv_some, rfv_none, Ok_s, tl_some, tl_none, List.nil_append, b2i_n1, b2i_n0, ↓reduceIte, nI_add, pk_mul, pk_sub, n_leT, n_leF, n_ltT, n_ltF, n_eqT, n_eqF, n_shl1, n_shl, n_shr, nI_and, nI_or, nI_xor, b2i_z, b2i_o, m1_n, n_m1, m1_lt, m1_le, n_lm1, n_em1, nI_m1, and1, and3, and7, and15, and63, and255, Bool.true_eq_false, Bool.false_eq_true, reduceCtorEq, Nat.reduceAdd, Nat.reduceMul, Nat.reduceSub, Nat.reduceDiv, Nat.reduceMod, Nat.reducePow, Nat.zero_add, Nat.one_mul, c_isStoreSet, show inN (nI u) 4096 = true from h0, show inN (nI v) 4096 = true from h1]
        rfl
theorem C_kth {v x : Int32} (hx : x = qKth A v) (h : CI D I A nn) : CCall xs Ln (d + 8) 123 [.ref 0, .int v] D I L A nn x := by
  subst hx
  have hst : StI I 1 (sa A) := by obtain ⟨ow, ky, ln, h⟩ := h; exact h.2.2.2.2.1
  obtain ⟨_, n, s, hw⟩ := hst.wo
  have en : blw (hdF A) 4096 = n := lo_n hw.2.2
  have h200 := hw.2.2.1
  unfold qKth
  refine CC_id h (Ok.eq ?_)
  refine semG (lo := [some (.ref 0), some (.int v)]) rfl rfl (Nat.le_of_ble_eq_true rfl) rfl (show G_X10_kth xs Ln _ 0 [some (.ref 0), some (.int v)] [] _ _ from ?_)
  by_cases h1 : v = m1
  · rw [if_pos h1, en]
    simp (disch := first | omega | exact c1_int _ | exact c1_none | exact c1_ref _ | exact isRf_ref _ | assumption | exact okRb _ | exact okN1 | exact okN0 | exact rfl) only [N_X10_kth_0, N_X10_kth_1, N_X10_kth_2, N_X10_kth_5, N_X10_kth_6, N_X10_kth_9, N_X10_kth_12, N_X10_kth_15, N_X10_kth_16, N_X10_kth_17, N_X10_kth_20, N_X10_kth_21, N_X10_kth_22, N_X10_kth_25, N_X10_kth_28, N_X10_kth_31, N_X10_kth_34, N_X10_kth_35, N_X10_kth_38, N_X10_kth_39, N_X10_kth_42, N_X10_kth_45, N_X10_kth_48, N_X10_kth_49, N_X10_kth_50, if_true, if_false, ite_true, ite_false, not_false_eq_true, not_true_eq_false, isRf_ref, isRf_null, c1_int, c1_ref, c1_null, c1_none, rfv_some, rfv_none, Ok_s, tl_some, tl_none, List.nil_append, b2i_n1, b2i_n0, ↓reduceIte, nI_add, pk_mul, pk_sub, n_leT, n_leF, n_ltT, n_ltF, n_eqT, n_eqF, n_shl1, n_shl, n_shr, nI_and, nI_or, nI_xor, b2i_z, b2i_o, m1_n, n_m1, m1_lt, m1_le, n_lm1, n_em1, nI_m1, and1, and3, and7, and15, and63, and255, Bool.true_eq_false, Bool.false_eq_true, reduceCtorEq, Nat.reduceAdd, Nat.reduceMul, Nat.reduceSub, Nat.reduceDiv, Nat.reduceMod, Nat.reducePow, Nat.zero_add, Nat.one_mul, h1, hw.1]
  · rw [if_neg h1]
    by_cases h2 : v < 0
    · rw [if_pos h2]
      have h2' : v < nI 0 := h2
      simp (disch := first | omega | exact c1_int _ | exact c1_none | exact c1_ref _ | exact isRf_ref _ | assumption | exact okRb _ | exact okN1 | exact okN0 | exact rfl) only [N_X10_kth_0, N_X10_kth_1, N_X10_kth_2, N_X10_kth_5, N_X10_kth_6, N_X10_kth_9, N_X10_kth_12, N_X10_kth_15, N_X10_kth_16, N_X10_kth_17, N_X10_kth_20, N_X10_kth_21, N_X10_kth_22, N_X10_kth_25, N_X10_kth_28, N_X10_kth_31, N_X10_kth_34, N_X10_kth_35, N_X10_kth_38, N_X10_kth_39, N_X10_kth_42, N_X10_kth_45, N_X10_kth_48, N_X10_kth_49, N_X10_kth_50, if_true, if_false, ite_true, ite_false, not_false_eq_true, not_true_eq_false, isRf_ref, isRf_null, c1_int, c1_ref, c1_null, c1_none, rfv_some, rfv_none, Ok_s, tl_some, tl_none, List.nil_append, b2i_n1, b2i_n0, ↓reduceIte, nI_add, pk_mul, pk_sub, n_leT, n_leF, n_ltT, n_ltF, n_eqT, n_eqF, n_shl1, n_shl, n_shr, nI_and, nI_or, nI_xor, b2i_z, b2i_o, m1_n, n_m1, m1_lt, m1_le, n_lm1, n_em1, nI_m1, and1, and3, and7, and15, and63, and255, Bool.true_eq_false, Bool.false_eq_true, reduceCtorEq, Nat.reduceAdd, Nat.reduceMul, Nat.reduceSub, Nat.reduceDiv, Nat.reduceMod, Nat.reducePow, Nat.zero_add, Nat.one_mul, h1, h2']
      rfl
    · rw [if_neg h2]
      obtain ⟨k, hlt, hv⟩ := nI_of h2
      subst hv
      rw [n_cl hlt]
      by_cases hk : k < n
      · have hsk := hw.2.2.2.1 k hk
        have hb : blw (hdF A) (s k) = k := lo_blw hw.2.2 (by omega) ⟨Nat.le_of_lt hk, fun i hi => hw.2.2.2.2.1 i k hi hk, fun i h1 h2 => by
          by_cases e : i = k
          · rw [e]; exact Nat.le_refl _
          · have := hw.2.2.2.2.1 k i (by omega) h2
            omega⟩
        have hl : lst (fun i => decide (0 < hdF A i) && decide (blw (hdF A) i = k)) 4096 = some (s k) := by
          refine (lst_s _ _ _).mpr ⟨hsk.1, ?_, fun j hj => ?_⟩
          · rw [decide_eq_true (show 0 < hdF A (s k) from hsk.2), decide_eq_true hb]; rfl
          · by_cases hf : 0 < hdF A j
            · have q1 := blw_mono (hdF A) (show j + 1 ≤ s k by omega)
              rw [blw_s, if_pos hf, hb] at q1
              rw [decide_eq_false (show ¬ blw (hdF A) j = k by omega), Bool.and_false]
            · rw [decide_eq_false hf, Bool.false_and]
        have e1 := (hw.2.1 k hk).1
        rw [hl]
        simp (disch := first | omega | exact c1_int _ | exact c1_none | exact c1_ref _ | exact isRf_ref _ | assumption | exact okRb _ | exact okN1 | exact okN0 | exact rfl) only [N_X10_kth_0, N_X10_kth_1, N_X10_kth_2, N_X10_kth_5, N_X10_kth_6, N_X10_kth_9, N_X10_kth_12, N_X10_kth_15, N_X10_kth_16, N_X10_kth_17, N_X10_kth_20, N_X10_kth_21, N_X10_kth_22, N_X10_kth_25, N_X10_kth_28, N_X10_kth_31, N_X10_kth_34, N_X10_kth_35, N_X10_kth_38, N_X10_kth_39, N_X10_kth_42, N_X10_kth_45, N_X10_kth_48, N_X10_kth_49, N_X10_kth_50, if_true, if_false, ite_true, ite_false, not_false_eq_true, not_true_eq_false, isRf_ref, isRf_null, c1_int, c1_ref, c1_null, c1_none, rfv_some, rfv_none, Ok_s, tl_some, tl_none, List.nil_append, b2i_n1, b2i_n0, ↓reduceIte, nI_add, pk_mul, pk_sub, n_leT, n_leF, n_ltT, n_ltF, n_eqT, n_eqF, n_shl1, n_shl, n_shr, nI_and, nI_or, nI_xor, b2i_z, b2i_o, m1_n, n_m1, m1_lt, m1_le, n_lm1, n_em1, nI_m1, and1, and3, and7, and15, and63, and255, Bool.true_eq_false, Bool.false_eq_true, reduceCtorEq, Nat.reduceAdd, Nat.reduceMul, Nat.reduceSub, Nat.reduceDiv, Nat.reduceMod, Nat.reducePow, Nat.zero_add, Nat.one_mul, hw.1, e1]
      · have hl : lst (fun i => decide (0 < hdF A i) && decide (blw (hdF A) i = k)) 4096 = none := by
          refine (lst_n _ _).mpr (fun j hj => ?_)
          by_cases hf : 0 < hdF A j
          · have q1 := blw_mono (hdF A) (show j + 1 ≤ 4096 by omega)
            rw [blw_s, if_pos hf, en] at q1
            rw [decide_eq_false (show ¬ blw (hdF A) j = k by omega), Bool.and_false]
          · rw [decide_eq_false hf, Bool.false_and]
        rw [hl]
        simp (disch := first | omega | exact c1_int _ | exact c1_none | exact c1_ref _ | exact isRf_ref _ | assumption | exact okRb _ | exact okN1 | exact okN0 | exact rfl) only [N_X10_kth_0, N_X10_kth_1, N_X10_kth_2, N_X10_kth_5, N_X10_kth_6, N_X10_kth_9, N_X10_kth_12, N_X10_kth_15, N_X10_kth_16, N_X10_kth_17, N_X10_kth_20, N_X10_kth_21, N_X10_kth_22, N_X10_kth_25, N_X10_kth_28, N_X10_kth_31, N_X10_kth_34, N_X10_kth_35, N_X10_kth_38, N_X10_kth_39, N_X10_kth_42, N_X10_kth_45, N_X10_kth_48, N_X10_kth_49, N_X10_kth_50, if_true, if_false, ite_true, ite_false, not_false_eq_true, not_true_eq_false, isRf_ref, isRf_null, c1_int, c1_ref, c1_null, c1_none, rfv_some, rfv_none, Ok_s, tl_some, tl_none, List.nil_append, b2i_n1, b2i_n0, ↓reduceIte, nI_add, pk_mul, pk_sub, n_leT, n_leF, n_ltT, n_ltF, n_eqT, n_eqF, n_shl1, n_shl, n_shr, nI_and, nI_or, nI_xor, b2i_z, b2i_o, m1_n, n_m1, m1_lt, m1_le, n_lm1, n_em1, nI_m1, and1, and3, and7, and15, and63, and255, Bool.true_eq_false, Bool.false_eq_true, reduceCtorEq, Nat.reduceAdd, Nat.reduceMul, Nat.reduceSub, Nat.reduceDiv, Nat.reduceMod, Nat.reducePow, Nat.zero_add, Nat.one_mul, hw.1]
        rfl
end Pg3
