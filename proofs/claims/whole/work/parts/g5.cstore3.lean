section Pg5
variable {xs : Nat → Int32} {Ln d : Nat} {D D' D'' : Dyn} {I I' I'' J : Nat → Nat → Int32} {L : Nat → Nat → Int64} {w : Om} {Q : Res → Prop} {ow ow' ow'' ky ky' ky'' ln ln' ln'' a a' : Nat → Nat} {o be sr : Nat} {A A' : As} {nn : Nat}
/-! the store: hold, drop -/
theorem c_isFull {T : Nat} (hT : I 11 1 = nI T) (h : T ≤ 200) : callD xs Ln (d + 1) 61 [.ref 11] (mkW D I L) = some (mkW D I L, some (.int (b2i (decide (200 ≤ T))))) := by
  refine Ok.eq ?_
  refine semG (lo := [some (.ref 11)]) rfl rfl (Nat.le_of_ble_eq_true rfl) rfl (show G_X7_isFull xs Ln _ 0 [some (.ref 11)] [] _ _ from ?_)
  by_cases h2 : 200 ≤ T
  · rw [decide_eq_true h2]
    simp (disch := first | omega | exact c1_int _ | exact c1_none | exact c1_ref _ | exact isRf_ref _ | assumption | exact okRb _ | exact okN1 | exact okN0 | exact rfl) only [N_X7_isFull_0, N_X7_isFull_1, N_X7_isFull_4, N_X7_isFull_7, N_X7_isFull_10, N_X7_isFull_11, N_X7_isFull_14, N_X7_isFull_15, if_true, if_false, ite_true, ite_false, not_false_eq_true, not_true_eq_false, isRf_ref, isRf_null, c1_int, c1_ref, c1_null, c1_none, rfv_some, rfv_none, Ok_s, tl_some, tl_none, List.nil_append, b2i_n1, b2i_n0, ↓reduceIte, nI_add, pk_mul, pk_sub, n_leT, n_leF, n_ltT, n_ltF, n_eqT, n_eqF, n_shl1, n_shl, n_shr, nI_and, nI_or, nI_xor, b2i_z, b2i_o, m1_n, n_m1, m1_lt, m1_le, n_lm1, n_em1, nI_m1, and1, and3, and7, and15, and63, and255, Bool.true_eq_false, Bool.false_eq_true, reduceCtorEq, Nat.reduceAdd, Nat.reduceMul, Nat.reduceSub, Nat.reduceDiv, Nat.reduceMod, Nat.reducePow, Nat.zero_add, Nat.one_mul, hT]
  · rw [decide_eq_false h2]
    simp (disch := first | omega | exact c1_int _ | exact c1_none | exact c1_ref _ | exact isRf_ref _ | assumption | exact okRb _ | exact okN1 | exact okN0 | exact rfl) only [N_X7_isFull_0, N_X7_isFull_1, N_X7_isFull_4, N_X7_isFull_7, N_X7_isFull_10, N_X7_isFull_11, N_X7_isFull_14, N_X7_isFull_15, if_true, if_false, ite_true, ite_false, not_false_eq_true, not_true_eq_false, isRf_ref, isRf_null, c1_int, c1_ref, c1_null, c1_none, rfv_some, rfv_none, Ok_s, tl_some, tl_none, List.nil_append, b2i_n1, b2i_n0, ↓reduceIte, nI_add, pk_mul, pk_sub, n_leT, n_leF, n_ltT, n_ltF, n_eqT, n_eqF, n_shl1, n_shl, n_shr, nI_and, nI_or, nI_xor, b2i_z, b2i_o, m1_n, n_m1, m1_lt, m1_le, n_lm1, n_em1, nI_m1, and1, and3, and7, and15, and63, and255, Bool.true_eq_false, Bool.false_eq_true, reduceCtorEq, Nat.reduceAdd, Nat.reduceMul, Nat.reduceSub, Nat.reduceDiv, Nat.reduceMod, Nat.reducePow, Nat.zero_add, Nat.one_mul, hT]
theorem MzI.e {b : Nat} (hM : MzI I b a) (hA : AW a) (he : ∀ j, (j < 224 ∨ 4320 ≤ j) → j ≠ 4324 → a' j = a j) : MzI I b a' := by
  have hP := hA.1
  have hW := hA.2.1
  have hw12 := hA.2.2.1
  have hc60 := hA.2.2.2.1
  obtain ⟨m0, m1', m2', m3', m4, m5, m6, m7, m8, m9, m10, m11, m12⟩ := hM
  unfold MzI
  rw [he 4320 (by omega) (by decide), he 4321 (by omega) (by decide), he 4322 (by omega) (by decide), he 4323 (by omega) (by decide), he 4325 (by omega) (by decide), he 4326 (by omega) (by decide), he 4327 (by omega) (by decide)]
  refine ⟨m0, m1', m2', m3', m4, m5, m6, fun p hp => ?_, fun w hw => ?_, fun w p hw hp => ?_, fun k w hk hw => ?_, fun i hi => ?_, fun i hi => ?_⟩
  · rw [he p (by omega) (by omega)]; exact m7 p hp
  · rw [he (12 + 2 * w) (by omega) (by omega), he (12 + 2 * w + 1) (by omega) (by omega)]; exact m8 w hw
  · rw [he (28 + 12 * w + p) (by omega) (by omega)]; exact m9 w p hw hp
  · rw [he (124 + (8 * k + w)) (by omega) (by omega)]; exact m10 k w hk hw
  · rw [he (164 + i) (by omega) (by omega)]; exact m11 i hi
  · rw [he (140 + 2 * i) (by omega) (by omega), he (140 + 2 * i + 1) (by omega) (by omega)]; exact m12 i hi
theorem StW.in {n v t m : Nat} {s f : Nat → Nat} (hw : StW I n s f) (ht : t < n) (hst : s t = v) (hm : 0 < m) (j11 : J 11 0 = I 11 0) (j12 : J 12 = I 12) (j13 : ∀ i, J 13 i = if i = t then nI m else I 13 i) : StW J n s (up1 f v m) := by
  obtain ⟨hn, hs, h1, h2, h3, h4⟩ := hw
  have inj : ∀ i, i < n → s i = v → i = t := fun i hi e => by
    by_cases c : i = t
    · exact c
    · by_cases c2 : i < t
      · have := h3 i t c2 ht; omega
      · have := h3 t i (by omega) hi; omega
  refine ⟨by rw [j11]; exact hn, fun i hi => ⟨by rw [j12]; exact (hs i hi).1, ?_⟩, h1, fun i hi => ⟨(h2 i hi).1, ?_⟩, h3, fun x hx hf => ?_⟩
  · rw [j13]
    by_cases e : i = t
    · rw [if_pos e, e, hst, up1_s]
    · rw [if_neg e, up1_n _ _ (fun c => e (inj i hi c))]
      exact (hs i hi).2
  · by_cases e : s i = v
    · rw [e, up1_s]; exact hm
    · rw [up1_n _ _ e]; exact (h2 i hi).2
  · by_cases e : x = v
    · exact ⟨t, ht, by rw [hst, e]⟩
    · rw [up1_n _ _ e] at hf
      exact h4 x hx hf
/-- put in at t -/
def insS (s : Nat → Nat) (t v i : Nat) : Nat := if i < t then s i else if i = t then v else s (i - 1)
theorem StW.ins {n v t : Nat} {s f : Nat → Nat} (hw : StW I n s f) (hn2 : n < 200) (hv : v < 4096) (ho : LO n s v t) (hno : t < n → s t ≠ v) (hf0 : f v = 0) (j11 : J 11 0 = nI (n + 1)) (j12 : ∀ i, J 12 i = if i = t then nI v else if t < i ∧ i < n + 1 then I 12 (i - 1) else I 12 i) (j13 : ∀ i, J 13 i = if i = t then nI 1 else if t < i ∧ i < n + 1 then I 13 (i - 1) else I 13 i) : StW J (n + 1) (insS s t v) (up1 f v 1) := by
  obtain ⟨hn, hs, h1, h2, h3, h4⟩ := hw
  obtain ⟨o1, o2, o3⟩ := ho
  have nv : ∀ i, i < n → s i ≠ v := fun i hi e => by
    have := (h2 i hi).2
    rw [e] at this
    omega
  have o3' : ∀ i, t ≤ i → i < n → v < s i := fun i q1 q2 => by
    have := o3 i q1 q2
    have := nv i q2
    omega
  refine ⟨j11, fun i hi => ?_, by omega, fun i hi => ?_, fun i j hij hj => ?_, fun x hx hf => ?_⟩
  · by_cases e : i = t
    · have q1 : J 12 i = nI v := by rw [j12, if_pos e]
      have q2 : J 13 i = nI 1 := by rw [j13, if_pos e]
      have q3 : insS s t v i = v := by unfold insS; rw [if_neg (by omega), if_pos e]
      rw [q1, q2, q3, up1_s]
      exact ⟨rfl, rfl⟩
    · by_cases e2 : i < t
      · have q1 : J 12 i = I 12 i := by rw [j12, if_neg e, if_neg (by omega)]
        have q2 : J 13 i = I 13 i := by rw [j13, if_neg e, if_neg (by omega)]
        have q3 : insS s t v i = s i := by unfold insS; rw [if_pos e2]
        rw [q1, q2, q3, up1_n _ _ (nv i (by omega))]
        exact hs i (by omega)
      · have q1 : J 12 i = I 12 (i - 1) := by rw [j12, if_neg e, if_pos (by omega)]
        have q2 : J 13 i = I 13 (i - 1) := by rw [j13, if_neg e, if_pos (by omega)]
        have q3 : insS s t v i = s (i - 1) := by unfold insS; rw [if_neg e2, if_neg e]
        rw [q1, q2, q3, up1_n _ _ (nv (i - 1) (by omega))]
        exact hs (i - 1) (by omega)
  · unfold insS
    by_cases e2 : i < t
    · rw [if_pos e2, up1_n _ _ (nv i (by omega))]
      exact h2 i (by omega)
    · rw [if_neg e2]
      by_cases e : i = t
      · rw [if_pos e, up1_s]
        exact ⟨hv, by omega⟩
      · rw [if_neg e, up1_n _ _ (nv (i - 1) (by omega))]
        exact h2 (i - 1) (by omega)
  · unfold insS
    by_cases e2 : j < t
    · rw [if_pos (show i < t by omega), if_pos e2]
      exact h3 i j hij (by omega)
    · rw [if_neg e2]
      by_cases e : j = t
      · rw [if_pos e, if_pos (show i < t by omega)]
        exact o2 i (by omega)
      · rw [if_neg e]
        by_cases e3 : i < t
        · rw [if_pos e3]
          have := o2 i e3
          have := o3' (j - 1) (by omega) (by omega)
          omega
        · rw [if_neg e3]
          by_cases e4 : i = t
          · rw [if_pos e4]
            exact o3' (j - 1) (by omega) (by omega)
          · rw [if_neg e4]
            exact h3 (i - 1) (j - 1) (by omega) (by omega)
  · by_cases e : x = v
    · exact ⟨t, by omega, by unfold insS; rw [if_neg (by omega), if_pos rfl, e]⟩
    · rw [up1_n _ _ e] at hf
      obtain ⟨i, hi, ei⟩ := h4 x hx hf
      by_cases e2 : i < t
      · exact ⟨i, by omega, by unfold insS; rw [if_pos e2, ei]⟩
      · exact ⟨i + 1, by omega, by unfold insS; rw [if_neg (by omega), if_neg (by omega), Nat.add_sub_cancel, ei]⟩
/-- taken out at t -/
def delS (s : Nat → Nat) (t i : Nat) : Nat := if i < t then s i else s (i + 1)
theorem StW.del {n v t : Nat} {s f : Nat → Nat} (hw : StW I n s f) (ht : t < n) (hst : s t = v) (j11 : J 11 0 = nI (n - 1)) (j12 : ∀ i, J 12 i = if t ≤ i ∧ i < n - 1 then I 12 (i + 1) else I 12 i) (j13 : ∀ i, i < n - 1 → J 13 i = if t ≤ i then I 13 (i + 1) else I 13 i) : StW J (n - 1) (delS s t) (up1 f v 0) := by
  obtain ⟨hn, hs, h1, h2, h3, h4⟩ := hw
  have inj : ∀ i, i < n → s i = v → i = t := fun i hi e => by
    by_cases c : i = t
    · exact c
    · by_cases c2 : i < t
      · have := h3 i t c2 ht; omega
      · have := h3 t i (by omega) hi; omega
  have nv : ∀ i, i < n → i ≠ t → s i ≠ v := fun i hi hne e => hne (inj i hi e)
  refine ⟨j11, fun i hi => ?_, by omega, fun i hi => ?_, fun i j hij hj => ?_, fun x hx hf => ?_⟩
  · by_cases e : i < t
    · have q1 : J 12 i = I 12 i := by rw [j12, if_neg (by omega)]
      have q2 : J 13 i = I 13 i := by rw [j13 i hi, if_neg (by omega)]
      have q3 : delS s t i = s i := by unfold delS; rw [if_pos e]
      rw [q1, q2, q3, up1_n _ _ (nv i (by omega) (by omega))]
      exact hs i (by omega)
    · have q1 : J 12 i = I 12 (i + 1) := by rw [j12, if_pos (by omega)]
      have q2 : J 13 i = I 13 (i + 1) := by rw [j13 i hi, if_pos (by omega)]
      have q3 : delS s t i = s (i + 1) := by unfold delS; rw [if_neg e]
      rw [q1, q2, q3, up1_n _ _ (nv (i + 1) (by omega) (by omega))]
      exact hs (i + 1) (by omega)
  · unfold delS
    by_cases e : i < t
    · rw [if_pos e, up1_n _ _ (nv i (by omega) (by omega))]
      exact h2 i (by omega)
    · rw [if_neg e, up1_n _ _ (nv (i + 1) (by omega) (by omega))]
      exact h2 (i + 1) (by omega)
  · unfold delS
    by_cases e : j < t
    · rw [if_pos (show i < t by omega), if_pos e]
      exact h3 i j hij (by omega)
    · rw [if_neg e]
      by_cases e3 : i < t
      · rw [if_pos e3]
        exact h3 i (j + 1) (by omega) (by omega)
      · rw [if_neg e3]
        exact h3 (i + 1) (j + 1) (by omega) (by omega)
  · by_cases e : x = v
    · rw [e, up1_s] at hf
      omega
    · rw [up1_n _ _ e] at hf
      obtain ⟨i, hi, ei⟩ := h4 x hx hf
      have hne : i ≠ t := fun c => e (by rw [← ei, c, hst])
      by_cases e2 : i < t
      · exact ⟨i, by omega, by unfold delS; rw [if_pos e2, ei]⟩
      · exact ⟨i - 1, by omega, by unfold delS; rw [if_neg (by omega), show i - 1 + 1 = i by omega, ei]⟩
theorem c_put {n v T : Nat} {s f : Nat → Nat} (hw : StW I n s f) (hv : v < 4096) (hT : I 11 1 = nI T) (hT2 : T < 200) (hnT : n ≤ T) (hfT : f v ≤ T) : ∃ J, callD xs Ln (d + 2) 64 [.ref 11, .int (nI v)] (mkW D I L) = some (mkW D J L, some (.int (nI (f v + 1)))) ∧ (∀ k, k < 11 ∨ 13 < k → J k = I k) ∧ J 11 1 = nI (T + 1) ∧ ∃ n' s', StW J n' s' (up1 f v (f v + 1)) := by
  obtain ⟨t, ho, hc⟩ := c_lowerThan (xs := xs) (Ln := Ln) (d := d) (D := D) (L := L) hw (Nat.le_of_lt hv)
  have hn := hw.1
  have hs := hw.2.1
  have h := hw.2.2
  have h200 := h.1
  have ht := ho.1
  have key : Ok (callD xs Ln (d + 2) 64 [.ref 11, .int (nI v)] (mkW D I L)) (fun r => ∃ J, r = (mkW D J L, some (.int (nI (f v + 1)))) ∧ (∀ k, k < 11 ∨ 13 < k → J k = I k) ∧ J 11 1 = nI (T + 1) ∧ ∃ n' s', StW J n' s' (up1 f v (f v + 1))) := by
    refine semG (lo := [some (.ref 11), some (.int (nI v)), none]) rfl rfl (Nat.le_of_ble_eq_true rfl) rfl (show G_X7_put xs Ln _ 0 [some (.ref 11), some (.int (nI v)), none] [] _ _ from ?_)
    rcases lo_tm h hv ho with ⟨h1, h2, h3⟩ | ⟨h1, h2⟩
    · have e1 := (hs t h1).1
      have e2 := (hs t h1).2
      rw [h2] at e1 e2
      simp (disch := first | omega | exact c1_int _ | exact c1_none | exact c1_ref _ | exact isRf_ref _ | assumption | exact okRb _ | exact okN1 | exact okN0 | exact rfl) only [N_X7_put_0, N_X7_put_1, N_X7_put_2, N_X7_put_5, N_X7_put_6, N_X7_put_7, N_X7_put_10, N_X7_put_13, N_X7_put_16, N_X7_put_17, N_X7_put_18, N_X7_put_19, N_X7_put_20, N_X7_put_23, N_X7_put_26, N_X7_put_27, N_X7_put_30, N_X7_put_31, N_X7_put_32, N_X7_put_33, N_X7_put_36, N_X7_put_37, N_X7_put_40, N_X7_put_41, N_X7_put_42, N_X7_put_45, N_X7_put_46, N_X7_put_47, N_X7_put_48, N_X7_put_49, N_X7_put_52, N_X7_put_53, N_X7_put_54, N_X7_put_57, N_X7_put_58, N_X7_put_61, N_X7_put_62, N_X7_put_63, N_X7_put_66, N_X7_put_67, N_X7_put_68, N_X7_put_69, N_X7_put_70, N_X7_put_73, N_X7_put_74, N_X7_put_75, N_X7_put_78, N_X7_put_79, N_X7_put_82, N_X7_put_83, N_X7_put_84, N_X7_put_85, N_X7_put_86, N_X7_put_89, N_X7_put_90, N_X7_put_91, N_X7_put_92, N_X7_put_93, N_X7_put_94, N_X7_put_97, N_X7_put_98, N_X7_put_99, N_X7_put_102, N_X7_put_103, N_X7_put_106, N_X7_put_107, N_X7_put_108, N_X7_put_109, N_X7_put_110, N_X7_put_111, N_X7_put_112, N_X7_put_113, N_X7_put_114, N_X7_put_117, N_X7_put_118, N_X7_put_119, N_X7_put_122, N_X7_put_123, N_X7_put_126, N_X7_put_127, N_X7_put_128, if_true, if_false, ite_true, ite_false, not_false_eq_true, not_true_eq_false, isRf_ref, isRf_null, c1_int, c1_ref, c1_null, c1_none, rfv_some, rfv_none, Ok_s, tl_some, tl_none, List.nil_append, b2i_n1, b2i_n0, ↓reduceIte, nI_add, pk_mul, pk_sub, n_leT, n_leF, n_ltT, n_ltF, n_eqT, n_eqF, n_shl1, n_shl, n_shr, nI_and, nI_or, nI_xor, b2i_z, b2i_o, m1_n, n_m1, m1_lt, m1_le, n_lm1, n_em1, nI_m1, and1, and3, and7, and15, and63, and255, Bool.true_eq_false, Bool.false_eq_true, reduceCtorEq, Nat.reduceAdd, Nat.reduceMul, Nat.reduceSub, Nat.reduceDiv, Nat.reduceMod, Nat.reducePow, Nat.zero_add, Nat.one_mul, hc, hn, hT, e1, e2, up2_s, up2_k _ _ _ _ (show (11 : Nat) ≠ 13 by decide), up2_k _ _ _ _ (show (13 : Nat) ≠ 11 by decide)]
      refine ⟨_, rfl, fun k hk => by rw [up2_ro _ _ _ (by omega), up2_ro _ _ _ (by omega)], up2_s _ _ _ _, n, s, hw.in h1 h2 (by omega) ?_ ?_ (fun i => ?_)⟩
      · rw [up2_j _ _ _ (by decide), up2_k _ _ _ _ (by decide)]
      · rw [up2_ro _ _ _ (by decide), up2_ro _ _ _ (by decide)]
      · rw [up2_k _ _ _ _ (by decide)]
        by_cases e : i = t
        · rw [if_pos e, e, up2_s]
        · rw [if_neg e, up2_j _ _ _ e]
    · have fin : ∀ J : Nat → Nat → Int32, J = up2 (up2 (up2 (up2 (up2 (upr (upr I 12 (cpy (I 12) (I 12) t (t + 1) (n - t))) 13 (cpy (I 13) (I 13) t (t + 1) (n - t))) 12 t (nI v)) 13 t (nI 0)) 11 0 (nI (n + 1))) 13 t (nI 1)) 11 1 (nI (T + 1)) → (∀ k, k < 11 ∨ 13 < k → J k = I k) ∧ J 11 1 = nI (T + 1) ∧ ∃ n' s', StW J n' s' (up1 f v (f v + 1)) := by
        intro J hJ
        refine ⟨fun k hk => ?_, ?_, n + 1, insS s t v, ?_⟩
        · rw [hJ, up2_ro _ _ _ (by omega), up2_ro _ _ _ (by omega), up2_ro _ _ _ (by omega), up2_ro _ _ _ (by omega), up2_ro _ _ _ (by omega), upr_o _ _ (by omega), upr_o _ _ (by omega)]
        · rw [hJ, up2_s]
        · rw [h2]
          refine hw.ins (by omega) hv ho h1 h2 ?_ (fun i => ?_) (fun i => ?_)
          · rw [hJ, up2_j _ _ _ (by decide), up2_k _ _ _ _ (by decide), up2_s]
          · rw [hJ, up2_k _ _ _ _ (by decide), up2_k _ _ _ _ (by decide), up2_k _ _ _ _ (by decide), up2_k _ _ _ _ (by decide)]
            by_cases e : i = t
            · rw [if_pos e, e, up2_s]
            · rw [if_neg e, up2_j _ _ _ e, upr_o _ _ (by decide), upr_s]
              unfold cpy
              by_cases e2 : t < i ∧ i < n + 1
              · rw [if_pos e2, if_pos (by omega), show t + (i - (t + 1)) = i - 1 by omega]
              · rw [if_neg e2, if_neg (by omega)]
          · rw [hJ, up2_k _ _ _ _ (by decide)]
            by_cases e : i = t
            · rw [if_pos e, e, up2_s]
            · rw [if_neg e, up2_j _ _ _ e, up2_k _ _ _ _ (by decide), up2_j _ _ _ e, up2_k _ _ _ _ (by decide), upr_s]
              unfold cpy
              by_cases e2 : t < i ∧ i < n + 1
              · rw [if_pos e2, if_pos (by omega), show t + (i - (t + 1)) = i - 1 by omega]
              · rw [if_neg e2, if_neg (by omega)]
      have fx : nI (f v + 1) = nI 1 := by rw [h2]
      by_cases h3 : t < n
      · have e1 := (hs t h3).1
        have e3 := h1 h3
        have e4 := (h.2.1 t h3).1
        simp (disch := first | omega | exact c1_int _ | exact c1_none | exact c1_ref _ | exact isRf_ref _ | assumption | exact okRb _ | exact okN1 | exact okN0 | exact rfl) only [N_X7_put_0, N_X7_put_1, N_X7_put_2, N_X7_put_5, N_X7_put_6, N_X7_put_7, N_X7_put_10, N_X7_put_13, N_X7_put_16, N_X7_put_17, N_X7_put_18, N_X7_put_19, N_X7_put_20, N_X7_put_23, N_X7_put_26, N_X7_put_27, N_X7_put_30, N_X7_put_31, N_X7_put_32, N_X7_put_33, N_X7_put_36, N_X7_put_37, N_X7_put_40, N_X7_put_41, N_X7_put_42, N_X7_put_45, N_X7_put_46, N_X7_put_47, N_X7_put_48, N_X7_put_49, N_X7_put_52, N_X7_put_53, N_X7_put_54, N_X7_put_57, N_X7_put_58, N_X7_put_61, N_X7_put_62, N_X7_put_63, N_X7_put_66, N_X7_put_67, N_X7_put_68, N_X7_put_69, N_X7_put_70, N_X7_put_73, N_X7_put_74, N_X7_put_75, N_X7_put_78, N_X7_put_79, N_X7_put_82, N_X7_put_83, N_X7_put_84, N_X7_put_85, N_X7_put_86, N_X7_put_89, N_X7_put_90, N_X7_put_91, N_X7_put_92, N_X7_put_93, N_X7_put_94, N_X7_put_97, N_X7_put_98, N_X7_put_99, N_X7_put_102, N_X7_put_103, N_X7_put_106, N_X7_put_107, N_X7_put_108, N_X7_put_109, N_X7_put_110, N_X7_put_111, N_X7_put_112, N_X7_put_113, N_X7_put_114, N_X7_put_117, N_X7_put_118, N_X7_put_119, N_X7_put_122, N_X7_put_123, N_X7_put_126, N_X7_put_127, N_X7_put_128, if_true, if_false, ite_true, ite_false, not_false_eq_true, not_true_eq_false, isRf_ref, isRf_null, c1_int, c1_ref, c1_null, c1_none, rfv_some, rfv_none, Ok_s, tl_some, tl_none, List.nil_append, b2i_n1, b2i_n0, ↓reduceIte, nI_add, pk_mul, pk_sub, n_leT, n_leF, n_ltT, n_ltF, n_eqT, n_eqF, n_shl1, n_shl, n_shr, nI_and, nI_or, nI_xor, b2i_z, b2i_o, m1_n, n_m1, m1_lt, m1_le, n_lm1, n_em1, nI_m1, and1, and3, and7, and15, and63, and255, Bool.true_eq_false, Bool.false_eq_true, reduceCtorEq, Nat.reduceAdd, Nat.reduceMul, Nat.reduceSub, Nat.reduceDiv, Nat.reduceMod, Nat.reducePow, Nat.zero_add, Nat.one_mul, hc, hn, hT, e1, up2_s, up2_k _ _ _ _ (show (11 : Nat) ≠ 13 by decide), up2_k _ _ _ _ (show (11 : Nat) ≠ 12 by decide), up2_k _ _ _ _ (show (13 : Nat) ≠ 11 by decide), upr_o _ _ (show (11 : Nat) ≠ 12 by decide), upr_o _ _ (show (11 : Nat) ≠ 13 by decide), upr_o _ _ (show (13 : Nat) ≠ 12 by decide), up2_j _ _ _ (show (1 : Nat) ≠ 0 by decide)]
        exact ⟨_, by rw [fx], fin _ rfl⟩
      · simp (disch := first | omega | exact c1_int _ | exact c1_none | exact c1_ref _ | exact isRf_ref _ | assumption | exact okRb _ | exact okN1 | exact okN0 | exact rfl) only [N_X7_put_0, N_X7_put_1, N_X7_put_2, N_X7_put_5, N_X7_put_6, N_X7_put_7, N_X7_put_10, N_X7_put_13, N_X7_put_16, N_X7_put_17, N_X7_put_18, N_X7_put_19, N_X7_put_20, N_X7_put_23, N_X7_put_26, N_X7_put_27, N_X7_put_30, N_X7_put_31, N_X7_put_32, N_X7_put_33, N_X7_put_36, N_X7_put_37, N_X7_put_40, N_X7_put_41, N_X7_put_42, N_X7_put_45, N_X7_put_46, N_X7_put_47, N_X7_put_48, N_X7_put_49, N_X7_put_52, N_X7_put_53, N_X7_put_54, N_X7_put_57, N_X7_put_58, N_X7_put_61, N_X7_put_62, N_X7_put_63, N_X7_put_66, N_X7_put_67, N_X7_put_68, N_X7_put_69, N_X7_put_70, N_X7_put_73, N_X7_put_74, N_X7_put_75, N_X7_put_78, N_X7_put_79, N_X7_put_82, N_X7_put_83, N_X7_put_84, N_X7_put_85, N_X7_put_86, N_X7_put_89, N_X7_put_90, N_X7_put_91, N_X7_put_92, N_X7_put_93, N_X7_put_94, N_X7_put_97, N_X7_put_98, N_X7_put_99, N_X7_put_102, N_X7_put_103, N_X7_put_106, N_X7_put_107, N_X7_put_108, N_X7_put_109, N_X7_put_110, N_X7_put_111, N_X7_put_112, N_X7_put_113, N_X7_put_114, N_X7_put_117, N_X7_put_118, N_X7_put_119, N_X7_put_122, N_X7_put_123, N_X7_put_126, N_X7_put_127, N_X7_put_128, if_true, if_false, ite_true, ite_false, not_false_eq_true, not_true_eq_false, isRf_ref, isRf_null, c1_int, c1_ref, c1_null, c1_none, rfv_some, rfv_none, Ok_s, tl_some, tl_none, List.nil_append, b2i_n1, b2i_n0, ↓reduceIte, nI_add, pk_mul, pk_sub, n_leT, n_leF, n_ltT, n_ltF, n_eqT, n_eqF, n_shl1, n_shl, n_shr, nI_and, nI_or, nI_xor, b2i_z, b2i_o, m1_n, n_m1, m1_lt, m1_le, n_lm1, n_em1, nI_m1, and1, and3, and7, and15, and63, and255, Bool.true_eq_false, Bool.false_eq_true, reduceCtorEq, Nat.reduceAdd, Nat.reduceMul, Nat.reduceSub, Nat.reduceDiv, Nat.reduceMod, Nat.reducePow, Nat.zero_add, Nat.one_mul, hc, hn, hT, up2_s, up2_k _ _ _ _ (show (11 : Nat) ≠ 13 by decide), up2_k _ _ _ _ (show (11 : Nat) ≠ 12 by decide), up2_k _ _ _ _ (show (13 : Nat) ≠ 11 by decide), upr_o _ _ (show (11 : Nat) ≠ 12 by decide), upr_o _ _ (show (11 : Nat) ≠ 13 by decide), upr_o _ _ (show (13 : Nat) ≠ 12 by decide), up2_j _ _ _ (show (1 : Nat) ≠ 0 by decide)]
        exact ⟨_, by rw [fx], fin _ rfl⟩
  obtain ⟨_, hcc, J, rfl, hJ⟩ := key
  exact ⟨J, hcc, hJ⟩
theorem c_take {n v T : Nat} {s f : Nat → Nat} (hw : StW I n s f) (hv : v < 4096) (hT : I 11 1 = nI T) (hT2 : T ≤ 200) (hfT : f v ≤ T) (hf0 : 0 < f v) : ∃ J, callD xs Ln (d + 2) 65 [.ref 11, .int (nI v)] (mkW D I L) = some (mkW D J L, some (.int (nI (f v - 1)))) ∧ (∀ k, k < 11 ∨ 13 < k → J k = I k) ∧ J 11 1 = nI (T - 1) ∧ ∃ n' s', StW J n' s' (up1 f v (f v - 1)) := by
  obtain ⟨t, ho, hc⟩ := c_lowerThan (xs := xs) (Ln := Ln) (d := d) (D := D) (L := L) hw (Nat.le_of_lt hv)
  have hn := hw.1
  have hs := hw.2.1
  have h := hw.2.2
  have h200 := h.1
  have ht := ho.1
  have key : Ok (callD xs Ln (d + 2) 65 [.ref 11, .int (nI v)] (mkW D I L)) (fun r => ∃ J, r = (mkW D J L, some (.int (nI (f v - 1)))) ∧ (∀ k, k < 11 ∨ 13 < k → J k = I k) ∧ J 11 1 = nI (T - 1) ∧ ∃ n' s', StW J n' s' (up1 f v (f v - 1))) := by
    refine semG (lo := [some (.ref 11), some (.int (nI v)), none, none]) rfl rfl (Nat.le_of_ble_eq_true rfl) rfl (show G_X7_take xs Ln _ 0 [some (.ref 11), some (.int (nI v)), none, none] [] _ _ from ?_)
    rcases lo_tm h hv ho with ⟨h1, h2, h3⟩ | ⟨h1, h2⟩
    · have e1 := (hs t h1).1
      have e2 := (hs t h1).2
      rw [h2] at e1 e2
      by_cases hz : f v = 1
      · have e2' : I 13 t = nI 1 := by rw [e2, hz]
        simp (disch := first | omega | exact c1_int _ | exact c1_none | exact c1_ref _ | exact isRf_ref _ | assumption | exact okRb _ | exact okN1 | exact okN0 | exact rfl) only [N_X7_take_0, N_X7_take_1, N_X7_take_2, N_X7_take_5, N_X7_take_6, N_X7_take_7, N_X7_take_8, N_X7_take_11, N_X7_take_14, N_X7_take_15, N_X7_take_18, N_X7_take_19, N_X7_take_20, N_X7_take_21, N_X7_take_24, N_X7_take_25, N_X7_take_26, N_X7_take_27, N_X7_take_28, N_X7_take_31, N_X7_take_32, N_X7_take_33, N_X7_take_36, N_X7_take_37, N_X7_take_40, N_X7_take_41, N_X7_take_42, N_X7_take_43, N_X7_take_44, N_X7_take_45, N_X7_take_46, N_X7_take_47, N_X7_take_50, N_X7_take_51, N_X7_take_52, N_X7_take_53, N_X7_take_54, N_X7_take_57, N_X7_take_58, N_X7_take_59, N_X7_take_62, N_X7_take_63, N_X7_take_64, N_X7_take_67, N_X7_take_68, N_X7_take_71, N_X7_take_72, N_X7_take_73, N_X7_take_74, N_X7_take_75, N_X7_take_78, N_X7_take_79, N_X7_take_80, N_X7_take_83, N_X7_take_84, N_X7_take_85, N_X7_take_88, N_X7_take_89, N_X7_take_92, N_X7_take_93, N_X7_take_94, N_X7_take_95, N_X7_take_96, N_X7_take_99, N_X7_take_100, N_X7_take_101, N_X7_take_104, N_X7_take_105, N_X7_take_106, N_X7_take_109, N_X7_take_110, if_true, if_false, ite_true, ite_false, not_false_eq_true, not_true_eq_false, isRf_ref, isRf_null, c1_int, c1_ref, c1_null, c1_none, rfv_some, rfv_none, Ok_s, tl_some, tl_none, List.nil_append, b2i_n1, b2i_n0, ↓reduceIte, nI_add, pk_mul, pk_sub, n_leT, n_leF, n_ltT, n_ltF, n_eqT, n_eqF, n_shl1, n_shl, n_shr, nI_and, nI_or, nI_xor, b2i_z, b2i_o, m1_n, n_m1, m1_lt, m1_le, n_lm1, n_em1, nI_m1, and1, and3, and7, and15, and63, and255, Bool.true_eq_false, Bool.false_eq_true, reduceCtorEq, Nat.reduceAdd, Nat.reduceMul, Nat.reduceSub, Nat.reduceDiv, Nat.reduceMod, Nat.reducePow, Nat.zero_add, Nat.one_mul, hc, hn, hT, e1, e2', up2_s, up2_k _ _ _ _ (show (11 : Nat) ≠ 13 by decide), up2_k _ _ _ _ (show (11 : Nat) ≠ 12 by decide), up2_k _ _ _ _ (show (12 : Nat) ≠ 11 by decide), up2_k _ _ _ _ (show (13 : Nat) ≠ 11 by decide), upr_o _ _ (show (11 : Nat) ≠ 12 by decide), upr_o _ _ (show (11 : Nat) ≠ 13 by decide), upr_o _ _ (show (13 : Nat) ≠ 12 by decide), up2_j _ _ _ (show (0 : Nat) ≠ 1 by decide)]
        refine ⟨_, by rw [hz], fun k hk => ?_, ?_, n - 1, delS s t, ?_⟩
        · rw [upr_o _ _ (by omega), upr_o _ _ (by omega), up2_ro _ _ _ (by omega), up2_ro _ _ _ (by omega), up2_ro _ _ _ (by omega)]
        · rw [upr_o _ _ (by decide), upr_o _ _ (by decide), up2_j _ _ _ (by decide), up2_k _ _ _ _ (by decide), up2_s]
        · rw [show f v - 1 = 0 by omega]
          refine hw.del h1 h2 ?_ (fun i => ?_) (fun i hi => ?_)
          · rw [upr_o _ _ (by decide), upr_o _ _ (by decide), up2_s]
          · rw [upr_o _ _ (by decide), upr_s]
            unfold cpy
            by_cases e : t ≤ i ∧ i < n - 1
            · rw [if_pos e, if_pos (by omega), up2_k _ _ _ _ (by decide), up2_k _ _ _ _ (by decide), up2_k _ _ _ _ (by decide), show t + 1 + (i - t) = i + 1 by omega]
            · rw [if_neg e, if_neg (by omega), up2_k _ _ _ _ (by decide), up2_k _ _ _ _ (by decide), up2_k _ _ _ _ (by decide)]
          · rw [upr_s]
            unfold cpy
            by_cases e : t ≤ i
            · rw [if_pos e, if_pos (by omega), show t + 1 + (i - t) = i + 1 by omega]
              simp [up2, upr]
              intro c
              omega
            · rw [if_neg e, if_neg (by omega)]
              simp [up2, upr]
              intro c
              omega
      · simp (disch := first | omega | exact c1_int _ | exact c1_none | exact c1_ref _ | exact isRf_ref _ | assumption | exact okRb _ | exact okN1 | exact okN0 | exact rfl) only [N_X7_take_0, N_X7_take_1, N_X7_take_2, N_X7_take_5, N_X7_take_6, N_X7_take_7, N_X7_take_8, N_X7_take_11, N_X7_take_14, N_X7_take_15, N_X7_take_18, N_X7_take_19, N_X7_take_20, N_X7_take_21, N_X7_take_24, N_X7_take_25, N_X7_take_26, N_X7_take_27, N_X7_take_28, N_X7_take_31, N_X7_take_32, N_X7_take_33, N_X7_take_36, N_X7_take_37, N_X7_take_40, N_X7_take_41, N_X7_take_42, N_X7_take_43, N_X7_take_44, N_X7_take_45, N_X7_take_46, N_X7_take_47, N_X7_take_50, N_X7_take_51, N_X7_take_52, N_X7_take_53, N_X7_take_54, N_X7_take_57, N_X7_take_58, N_X7_take_59, N_X7_take_62, N_X7_take_63, N_X7_take_64, N_X7_take_67, N_X7_take_68, N_X7_take_71, N_X7_take_72, N_X7_take_73, N_X7_take_74, N_X7_take_75, N_X7_take_78, N_X7_take_79, N_X7_take_80, N_X7_take_83, N_X7_take_84, N_X7_take_85, N_X7_take_88, N_X7_take_89, N_X7_take_92, N_X7_take_93, N_X7_take_94, N_X7_take_95, N_X7_take_96, N_X7_take_99, N_X7_take_100, N_X7_take_101, N_X7_take_104, N_X7_take_105, N_X7_take_106, N_X7_take_109, N_X7_take_110, if_true, if_false, ite_true, ite_false, not_false_eq_true, not_true_eq_false, isRf_ref, isRf_null, c1_int, c1_ref, c1_null, c1_none, rfv_some, rfv_none, Ok_s, tl_some, tl_none, List.nil_append, b2i_n1, b2i_n0, ↓reduceIte, nI_add, pk_mul, pk_sub, n_leT, n_leF, n_ltT, n_ltF, n_eqT, n_eqF, n_shl1, n_shl, n_shr, nI_and, nI_or, nI_xor, b2i_z, b2i_o, m1_n, n_m1, m1_lt, m1_le, n_lm1, n_em1, nI_m1, and1, and3, and7, and15, and63, and255, Bool.true_eq_false, Bool.false_eq_true, reduceCtorEq, Nat.reduceAdd, Nat.reduceMul, Nat.reduceSub, Nat.reduceDiv, Nat.reduceMod, Nat.reducePow, Nat.zero_add, Nat.one_mul, hc, hn, hT, e1, e2, up2_s, up2_k _ _ _ _ (show (11 : Nat) ≠ 13 by decide), up2_k _ _ _ _ (show (13 : Nat) ≠ 11 by decide)]
        refine ⟨_, rfl, fun k hk => by rw [up2_ro _ _ _ (by omega), up2_ro _ _ _ (by omega)], by rw [up2_k _ _ _ _ (by decide), up2_s], n, s, hw.in h1 h2 (by omega) ?_ ?_ (fun i => ?_)⟩
        · rw [up2_k _ _ _ _ (by decide), up2_j _ _ _ (by decide)]
        · rw [up2_ro _ _ _ (by decide), up2_ro _ _ _ (by decide)]
        · by_cases e : i = t
          · rw [if_pos e, e, up2_s]
          · rw [if_neg e, up2_j _ _ _ e, up2_k _ _ _ _ (by decide)]
    · omega
  obtain ⟨_, hcc, J, rfl, hJ⟩ := key
  exact ⟨J, hcc, hJ⟩
/-- the store at another number of a set -/
theorem StI.up {n v m T : Nat} {s : Nat → Nat} (hv : v < 4096) (h1 : J 11 1 = nI T) (h : StW J n s (up1 (fun x => a (224 + x)) v m)) : StI J 1 (up1 (up1 a 4324 T) (224 + v) m) := by
  refine StI.of (n := n) (s := s) (by rw [up1_n _ _ (by omega), up1_s]; exact h1) ?_
  have e : ∀ x, x < 4096 → (fun x => up1 (up1 a 4324 T) (224 + v) m (224 + x)) x = up1 (fun x => a (224 + x)) v m x := fun x hx => by
    dsimp only
    by_cases c : x = v
    · rw [c, up1_s, up1_s]
    · rw [up1_n _ _ c, up1_n _ _ (by omega), up1_n _ _ (by omega)]
  obtain ⟨s2, s3, s1, s4, s5, s6⟩ := h
  refine ⟨s2, fun i hi => ?_, s1, fun i hi => ?_, s5, fun x hx hf => ?_⟩
  · rw [e _ (s4 i hi).1]
    exact s3 i hi
  · rw [e _ (s4 i hi).1]
    exact s4 i hi
  · rw [e x hx] at hf
    exact s6 x hx hf
theorem CIx.stg {v m T : Nat} (h : CIx ow ky ln D I A nn) (hv : v < 4096) (hT : T ≤ 200) (hm : T + sa A (224 + v) = sa A 4324 + m) (hk : ∀ k, k < 11 ∨ 13 < k → J k = I k) (hs : StI J 1 (up1 (up1 (sa A) 4324 T) (224 + v) m)) : CIx ow ky ln D (up2 J 0 12 0) (aGr A (up1 (up1 (sa A) 4324 T) (224 + v) m)) nn ∧ CFr I (up2 J 0 12 0) := by
  have hM := h.2.2.2.1
  have hA := hM.2.1
  have he : ∀ j, (j < 224 ∨ 4320 ≤ j) → j ≠ 4324 → up1 (up1 (sa A) 4324 T) (224 + v) m j = sa A j := fun j q1 q2 => by rw [up1_n _ _ (by omega), up1_n _ _ q2]
  exact h.gr (I' := J) (a' := up1 (up1 (sa A) 4324 T) (224 + v) m) (fun k h1 h2 => hk k (by omega)) (fun j => by rw [hk 0 (by omega)]) (fun j hj => by unfold mvI at hj; exact he j (by omega) (by omega)) (he _ (by omega) (by decide)) (AW_store hA hv hT hm) ((hM.1.k (fun k k1 k2 => hk k (by omega))).e hA he) hs
theorem AW.sm (hA : AW a) {v : Nat} (hv : v < 4096) : a (224 + v) ≤ a 4324 := by
  have := smN_ge (f := fun s => a (224 + s)) 4096 hv
  rw [hA.2.2.2.2.2.2.2.2.2.2.2.2.2.2.2] at this
  exact this
theorem C_hold {v : Int32} (h : CI D I A nn) : CCall xs Ln (d + 8) 120 [.ref 0, .int v] D I L (nHold A v).1 nn (nHold A v).2 := by
  obtain ⟨hMz, hA, _⟩ := h.mz
  have h200 := hA.2.2.2.2.1
  have hst : StI I 1 (sa A) := by obtain ⟨ow, ky, ln, h⟩ := h; exact h.2.2.2.2.1
  obtain ⟨hT, n, s, hw⟩ := hst.wo
  unfold nHold
  cases h0 : inN v (nI 4096)
  · rw [if_pos rfl]
    refine CC_rf rc1 h (Ok.eq ?_)
    refine semG (lo := [some (.ref 0), some (.int v)]) rfl rfl (Nat.le_of_ble_eq_true rfl) rfl (show G_X10_hold xs Ln _ 0 [some (.ref 0), some (.int v)] [] _ _ from ?_)
    simp (disch := first | omega | exact c1_int _ | exact c1_none | exact c1_ref _ | exact isRf_ref _ | assumption | exact okRb _ | exact okN1 | exact okN0 | exact rfl) only [N_X10_hold_0, N_X10_hold_1, N_X10_hold_4, N_X10_hold_7, N_X10_hold_8, N_X10_hold_9, N_X10_hold_12, N_X10_hold_13, N_X10_hold_14, N_X10_hold_17, N_X10_hold_20, N_X10_hold_23, N_X10_hold_26, N_X10_hold_27, N_X10_hold_29, N_X10_hold_32, N_X10_hold_33, N_X10_hold_34, N_X10_hold_35, N_X10_hold_38, N_X10_hold_41, N_X10_hold_42, N_X10_hold_45, N_X10_hold_48, if_true, if_false, ite_true, ite_false, not_false_eq_true, not_true_eq_false, isRf_ref, isRf_null, c1_int, c1_ref, c1_null, c1_none, rfv_some, rfv_none, Ok_s, tl_some, tl_none, List.nil_append, b2i_n1, b2i_n0, ↓reduceIte, nI_add, pk_mul, pk_sub, n_leT, n_leF, n_ltT, n_ltF, n_eqT, n_eqF, n_shl1, n_shl, n_shr, nI_and, nI_or, nI_xor, b2i_z, b2i_o, m1_n, n_m1, m1_lt, m1_le, n_lm1, n_em1, nI_m1, and1, and3, and7, and15, and63, and255, Bool.true_eq_false, Bool.false_eq_true, reduceCtorEq, Nat.reduceAdd, Nat.reduceMul, Nat.reduceSub, Nat.reduceDiv, Nat.reduceMod, Nat.reducePow, Nat.zero_add, Nat.one_mul, c_isStoreSet, show inN v 4096 = false from h0]
    rw [c_refuse (y := m1) rc1]
    simp (disch := first | omega | exact c1_int _ | exact c1_none | exact c1_ref _ | exact isRf_ref _ | assumption | exact okRb _ | exact okN1 | exact okN0 | exact rfl) only [N_X10_hold_0, N_X10_hold_1, N_X10_hold_4, N_X10_hold_7, N_X10_hold_8, N_X10_hold_9, N_X10_hold_12, N_X10_hold_13, N_X10_hold_14, N_X10_hold_17, N_X10_hold_20, N_X10_hold_23, N_X10_hold_26, N_X10_hold_27, N_X10_hold_29, N_X10_hold_32, N_X10_hold_33, N_X10_hold_34, N_X10_hold_35, N_X10_hold_38, N_X10_hold_41, N_X10_hold_42, N_X10_hold_45, N_X10_hold_48, if_true, if_false, ite_true, ite_false, not_false_eq_true, not_true_eq_false, isRf_ref, isRf_null, c1_int, c1_ref, c1_null, c1_none, rfv_some, rfv_none, Ok_s, tl_some, tl_none, List.nil_append, b2i_n1, b2i_n0, ↓reduceIte, nI_add, pk_mul, pk_sub, n_leT, n_leF, n_ltT, n_ltF, n_eqT, n_eqF, n_shl1, n_shl, n_shr, nI_and, nI_or, nI_xor, b2i_z, b2i_o, m1_n, n_m1, m1_lt, m1_le, n_lm1, n_em1, nI_m1, and1, and3, and7, and15, and63, and255, Bool.true_eq_false, Bool.false_eq_true, reduceCtorEq, Nat.reduceAdd, Nat.reduceMul, Nat.reduceSub, Nat.reduceDiv, Nat.reduceMod, Nat.reducePow, Nat.zero_add, Nat.one_mul]
    rfl
  · rw [if_neg (by decide)]
    by_cases h5 : 200 ≤ sa A 4324
    · rw [if_pos h5]
      refine CC_rf rc5 h (Ok.eq ?_)
      refine semG (lo := [some (.ref 0), some (.int v)]) rfl rfl (Nat.le_of_ble_eq_true rfl) rfl (show G_X10_hold xs Ln _ 0 [some (.ref 0), some (.int v)] [] _ _ from ?_)
      simp (disch := first | omega | exact c1_int _ | exact c1_none | exact c1_ref _ | exact isRf_ref _ | assumption | exact okRb _ | exact okN1 | exact okN0 | exact rfl) only [N_X10_hold_0, N_X10_hold_1, N_X10_hold_4, N_X10_hold_7, N_X10_hold_8, N_X10_hold_9, N_X10_hold_12, N_X10_hold_13, N_X10_hold_14, N_X10_hold_17, N_X10_hold_20, N_X10_hold_23, N_X10_hold_26, N_X10_hold_27, N_X10_hold_29, N_X10_hold_32, N_X10_hold_33, N_X10_hold_34, N_X10_hold_35, N_X10_hold_38, N_X10_hold_41, N_X10_hold_42, N_X10_hold_45, N_X10_hold_48, if_true, if_false, ite_true, ite_false, not_false_eq_true, not_true_eq_false, isRf_ref, isRf_null, c1_int, c1_ref, c1_null, c1_none, rfv_some, rfv_none, Ok_s, tl_some, tl_none, List.nil_append, b2i_n1, b2i_n0, ↓reduceIte, nI_add, pk_mul, pk_sub, n_leT, n_leF, n_ltT, n_ltF, n_eqT, n_eqF, n_shl1, n_shl, n_shr, nI_and, nI_or, nI_xor, b2i_z, b2i_o, m1_n, n_m1, m1_lt, m1_le, n_lm1, n_em1, nI_m1, and1, and3, and7, and15, and63, and255, Bool.true_eq_false, Bool.false_eq_true, reduceCtorEq, Nat.reduceAdd, Nat.reduceMul, Nat.reduceSub, Nat.reduceDiv, Nat.reduceMod, Nat.reducePow, Nat.zero_add, Nat.one_mul, c_isStoreSet, show inN v 4096 = true from h0, c_isFull hT h200, decide_eq_true h5]
      rw [c_refuse (y := m5) rc5]
      simp (disch := first | omega | exact c1_int _ | exact c1_none | exact c1_ref _ | exact isRf_ref _ | assumption | exact okRb _ | exact okN1 | exact okN0 | exact rfl) only [N_X10_hold_0, N_X10_hold_1, N_X10_hold_4, N_X10_hold_7, N_X10_hold_8, N_X10_hold_9, N_X10_hold_12, N_X10_hold_13, N_X10_hold_14, N_X10_hold_17, N_X10_hold_20, N_X10_hold_23, N_X10_hold_26, N_X10_hold_27, N_X10_hold_29, N_X10_hold_32, N_X10_hold_33, N_X10_hold_34, N_X10_hold_35, N_X10_hold_38, N_X10_hold_41, N_X10_hold_42, N_X10_hold_45, N_X10_hold_48, if_true, if_false, ite_true, ite_false, not_false_eq_true, not_true_eq_false, isRf_ref, isRf_null, c1_int, c1_ref, c1_null, c1_none, rfv_some, rfv_none, Ok_s, tl_some, tl_none, List.nil_append, b2i_n1, b2i_n0, ↓reduceIte, nI_add, pk_mul, pk_sub, n_leT, n_leF, n_ltT, n_ltF, n_eqT, n_eqF, n_shl1, n_shl, n_shr, nI_and, nI_or, nI_xor, b2i_z, b2i_o, m1_n, n_m1, m1_lt, m1_le, n_lm1, n_em1, nI_m1, and1, and3, and7, and15, and63, and255, Bool.true_eq_false, Bool.false_eq_true, reduceCtorEq, Nat.reduceAdd, Nat.reduceMul, Nat.reduceSub, Nat.reduceDiv, Nat.reduceMod, Nat.reducePow, Nat.zero_add, Nat.one_mul]
      rfl
    · rw [if_neg h5]
      obtain ⟨v, hv, rfl⟩ := inN_t (by decide) h0
      rw [n_cl (by omega)]
      have hsm := hA.sm hv
      have hnT : n ≤ sa A 4324 := by
        have q1 := lo_n hw.2.2
        have q2 := blw_sm (fun x => sa A (224 + x)) 4096
        rw [q1, hA.2.2.2.2.2.2.2.2.2.2.2.2.2.2.2] at q2
        exact q2
      obtain ⟨J, hc, hk, hJ1, n', s', hJw⟩ := c_put (xs := xs) (Ln := Ln) (d := d + 5) (D := D) (L := L) hw hv hT (by omega) hnT hsm
      obtain ⟨ow, ky, ln, h⟩ := h
      have hg := h.stg (v := v) (T := sa A 4324 + 1) (m := sa A (224 + v) + 1) (J := J) hv (by omega) (by omega) hk (StI.up hv hJ1 hJw)
      refine semG (lo := [some (.ref 0), some (.int (nI v))]) rfl rfl (Nat.le_of_ble_eq_true rfl) rfl (show G_X10_hold xs Ln _ 0 [some (.ref 0), some (.int (nI v))] [] _ _ from ?_)
      simp (disch := first | omega | exact c1_int _ | exact c1_none | exact c1_ref _ | exact isRf_ref _ | assumption | exact okRb _ | exact okN1 | exact okN0 | exact rfl) only [N_X10_hold_0, N_X10_hold_1, N_X10_hold_4, N_X10_hold_7, N_X10_hold_8, N_X10_hold_9, N_X10_hold_12, N_X10_hold_13, N_X10_hold_14, N_X10_hold_17, N_X10_hold_20, N_X10_hold_23, N_X10_hold_26, N_X10_hold_27, N_X10_hold_29, N_X10_hold_32, N_X10_hold_33, N_X10_hold_34, N_X10_hold_35, N_X10_hold_38, N_X10_hold_41, N_X10_hold_42, N_X10_hold_45, N_X10_hold_48, if_true, if_false, ite_true, ite_false, not_false_eq_true, not_true_eq_false, isRf_ref, isRf_null, c1_int, c1_ref, c1_null, c1_none, rfv_some, rfv_none, Ok_s, tl_some, tl_none, List.nil_append, b2i_n1, b2i_n0, ↓reduceIte, nI_add, pk_mul, pk_sub, n_leT, n_leF, n_ltT, n_ltF, n_eqT, n_eqF, n_shl1, n_shl, n_shr, nI_and, nI_or, nI_xor, b2i_z, b2i_o, m1_n, n_m1, m1_lt, m1_le, n_lm1, n_em1, nI_m1, and1, and3, and7, and15, and63, and255, Bool.true_eq_false, Bool.false_eq_true, reduceCtorEq, Nat.reduceAdd, Nat.reduceMul, Nat.reduceSub, Nat.reduceDiv, Nat.reduceMod, Nat.reducePow, Nat.zero_add, Nat.one_mul, c_isStoreSet, show inN (nI v) 4096 = true from h0, c_isFull hT h200, decide_eq_false h5, hc, c_grant]
      exact ⟨_, _, _, rfl, ⟨ow, ky, ln, hg.1.up⟩, hg.2⟩
theorem C_drop {v : Int32} (h : CI D I A nn) : CCall xs Ln (d + 8) 121 [.ref 0, .int v] D I L (nDrop A v).1 nn (nDrop A v).2 := by
  obtain ⟨hMz, hA, _⟩ := h.mz
  have h200 := hA.2.2.2.2.1
  have hst : StI I 1 (sa A) := by obtain ⟨ow, ky, ln, h⟩ := h; exact h.2.2.2.2.1
  obtain ⟨hT, n, s, hw⟩ := hst.wo
  unfold nDrop
  cases h0 : inN v (nI 4096)
  · rw [if_pos rfl]
    refine CC_rf rc1 h (Ok.eq ?_)
    refine semG (lo := [some (.ref 0), some (.int v)]) rfl rfl (Nat.le_of_ble_eq_true rfl) rfl (show G_X10_drop xs Ln _ 0 [some (.ref 0), some (.int v)] [] _ _ from ?_)
    simp (disch := first | omega | exact c1_int _ | exact c1_none | exact c1_ref _ | exact isRf_ref _ | assumption | exact okRb _ | exact okN1 | exact okN0 | exact rfl) only [N_X10_drop_0, N_X10_drop_1, N_X10_drop_4, N_X10_drop_7, N_X10_drop_8, N_X10_drop_9, N_X10_drop_12, N_X10_drop_13, N_X10_drop_14, N_X10_drop_17, N_X10_drop_20, N_X10_drop_21, N_X10_drop_24, N_X10_drop_27, N_X10_drop_28, N_X10_drop_30, N_X10_drop_33, N_X10_drop_34, N_X10_drop_35, N_X10_drop_36, N_X10_drop_39, N_X10_drop_42, N_X10_drop_43, N_X10_drop_46, N_X10_drop_49, if_true, if_false, ite_true, ite_false, not_false_eq_true, not_true_eq_false, isRf_ref, isRf_null, c1_int, c1_ref, c1_null, c1_none, rfv_some, rfv_none, Ok_s, tl_some, tl_none, List.nil_append, b2i_n1, b2i_n0, ↓reduceIte, nI_add, pk_mul, pk_sub, n_leT, n_leF, n_ltT, n_ltF, n_eqT, n_eqF, n_shl1, n_shl, n_shr, nI_and, nI_or, nI_xor, b2i_z, b2i_o, m1_n, n_m1, m1_lt, m1_le, n_lm1, n_em1, nI_m1, and1, and3, and7, and15, and63, and255, Bool.true_eq_false, Bool.false_eq_true, reduceCtorEq, Nat.reduceAdd, Nat.reduceMul, Nat.reduceSub, Nat.reduceDiv, Nat.reduceMod, Nat.reducePow, Nat.zero_add, Nat.one_mul, c_isStoreSet, show inN v 4096 = false from h0]
    rw [c_refuse (y := m1) rc1]
    simp (disch := first | omega | exact c1_int _ | exact c1_none | exact c1_ref _ | exact isRf_ref _ | assumption | exact okRb _ | exact okN1 | exact okN0 | exact rfl) only [N_X10_drop_0, N_X10_drop_1, N_X10_drop_4, N_X10_drop_7, N_X10_drop_8, N_X10_drop_9, N_X10_drop_12, N_X10_drop_13, N_X10_drop_14, N_X10_drop_17, N_X10_drop_20, N_X10_drop_21, N_X10_drop_24, N_X10_drop_27, N_X10_drop_28, N_X10_drop_30, N_X10_drop_33, N_X10_drop_34, N_X10_drop_35, N_X10_drop_36, N_X10_drop_39, N_X10_drop_42, N_X10_drop_43, N_X10_drop_46, N_X10_drop_49, if_true, if_false, ite_true, ite_false, not_false_eq_true, not_true_eq_false, isRf_ref, isRf_null, c1_int, c1_ref, c1_null, c1_none, rfv_some, rfv_none, Ok_s, tl_some, tl_none, List.nil_append, b2i_n1, b2i_n0, ↓reduceIte, nI_add, pk_mul, pk_sub, n_leT, n_leF, n_ltT, n_ltF, n_eqT, n_eqF, n_shl1, n_shl, n_shr, nI_and, nI_or, nI_xor, b2i_z, b2i_o, m1_n, n_m1, m1_lt, m1_le, n_lm1, n_em1, nI_m1, and1, and3, and7, and15, and63, and255, Bool.true_eq_false, Bool.false_eq_true, reduceCtorEq, Nat.reduceAdd, Nat.reduceMul, Nat.reduceSub, Nat.reduceDiv, Nat.reduceMod, Nat.reducePow, Nat.zero_add, Nat.one_mul]
    rfl
  · rw [if_neg (by decide)]
    obtain ⟨v, hv, rfl⟩ := inN_t (by decide) h0
    rw [n_cl (by omega)]
    have hsm := hA.sm hv
    have hto := c_timesOf (xs := xs) (Ln := Ln) (d := d + 5) (D := D) (L := L) hw hv
    by_cases h5 : sa A (224 + v) = 0
    · rw [if_pos h5]
      refine CC_rf rc3 h (Ok.eq ?_)
      refine semG (lo := [some (.ref 0), some (.int (nI v))]) rfl rfl (Nat.le_of_ble_eq_true rfl) rfl (show G_X10_drop xs Ln _ 0 [some (.ref 0), some (.int (nI v))] [] _ _ from ?_)
      simp (disch := first | omega | exact c1_int _ | exact c1_none | exact c1_ref _ | exact isRf_ref _ | assumption | exact okRb _ | exact okN1 | exact okN0 | exact rfl) only [N_X10_drop_0, N_X10_drop_1, N_X10_drop_4, N_X10_drop_7, N_X10_drop_8, N_X10_drop_9, N_X10_drop_12, N_X10_drop_13, N_X10_drop_14, N_X10_drop_17, N_X10_drop_20, N_X10_drop_21, N_X10_drop_24, N_X10_drop_27, N_X10_drop_28, N_X10_drop_30, N_X10_drop_33, N_X10_drop_34, N_X10_drop_35, N_X10_drop_36, N_X10_drop_39, N_X10_drop_42, N_X10_drop_43, N_X10_drop_46, N_X10_drop_49, if_true, if_false, ite_true, ite_false, not_false_eq_true, not_true_eq_false, isRf_ref, isRf_null, c1_int, c1_ref, c1_null, c1_none, rfv_some, rfv_none, Ok_s, tl_some, tl_none, List.nil_append, b2i_n1, b2i_n0, ↓reduceIte, nI_add, pk_mul, pk_sub, n_leT, n_leF, n_ltT, n_ltF, n_eqT, n_eqF, n_shl1, n_shl, n_shr, nI_and, nI_or, nI_xor, b2i_z, b2i_o, m1_n, n_m1, m1_lt, m1_le, n_lm1, n_em1, nI_m1, and1, and3, and7, and15, and63, and255, Bool.true_eq_false, Bool.false_eq_true, reduceCtorEq, Nat.reduceAdd, Nat.reduceMul, Nat.reduceSub, Nat.reduceDiv, Nat.reduceMod, Nat.reducePow, Nat.zero_add, Nat.one_mul, c_isStoreSet, show inN (nI v) 4096 = true from h0, hto, h5]
      rw [c_refuse (y := m3) rc3]
      simp (disch := first | omega | exact c1_int _ | exact c1_none | exact c1_ref _ | exact isRf_ref _ | assumption | exact okRb _ | exact okN1 | exact okN0 | exact rfl) only [N_X10_drop_0, N_X10_drop_1, N_X10_drop_4, N_X10_drop_7, N_X10_drop_8, N_X10_drop_9, N_X10_drop_12, N_X10_drop_13, N_X10_drop_14, N_X10_drop_17, N_X10_drop_20, N_X10_drop_21, N_X10_drop_24, N_X10_drop_27, N_X10_drop_28, N_X10_drop_30, N_X10_drop_33, N_X10_drop_34, N_X10_drop_35, N_X10_drop_36, N_X10_drop_39, N_X10_drop_42, N_X10_drop_43, N_X10_drop_46, N_X10_drop_49, if_true, if_false, ite_true, ite_false, not_false_eq_true, not_true_eq_false, isRf_ref, isRf_null, c1_int, c1_ref, c1_null, c1_none, rfv_some, rfv_none, Ok_s, tl_some, tl_none, List.nil_append, b2i_n1, b2i_n0, ↓reduceIte, nI_add, pk_mul, pk_sub, n_leT, n_leF, n_ltT, n_ltF, n_eqT, n_eqF, n_shl1, n_shl, n_shr, nI_and, nI_or, nI_xor, b2i_z, b2i_o, m1_n, n_m1, m1_lt, m1_le, n_lm1, n_em1, nI_m1, and1, and3, and7, and15, and63, and255, Bool.true_eq_false, Bool.false_eq_true, reduceCtorEq, Nat.reduceAdd, Nat.reduceMul, Nat.reduceSub, Nat.reduceDiv, Nat.reduceMod, Nat.reducePow, Nat.zero_add, Nat.one_mul]
      rfl
    · rw [if_neg h5]
      obtain ⟨J, hc, hk, hJ1, n', s', hJw⟩ := c_take (xs := xs) (Ln := Ln) (d := d + 5) (D := D) (L := L) hw hv hT h200 hsm (by omega)
      obtain ⟨ow, ky, ln, h⟩ := h
      have hg := h.stg (v := v) (T := sa A 4324 - 1) (m := sa A (224 + v) - 1) (J := J) hv (by omega) (by omega) hk (StI.up hv hJ1 hJw)
      refine semG (lo := [some (.ref 0), some (.int (nI v))]) rfl rfl (Nat.le_of_ble_eq_true rfl) rfl (show G_X10_drop xs Ln _ 0 [some (.ref 0), some (.int (nI v))] [] _ _ from ?_)
      simp (disch := first | omega | exact c1_int _ | exact c1_none | exact c1_ref _ | exact isRf_ref _ | assumption | exact okRb _ | exact okN1 | exact okN0 | exact rfl) only [N_X10_drop_0, N_X10_drop_1, N_X10_drop_4, N_X10_drop_7, N_X10_drop_8, N_X10_drop_9, N_X10_drop_12, N_X10_drop_13, N_X10_drop_14, N_X10_drop_17, N_X10_drop_20, N_X10_drop_21, N_X10_drop_24, N_X10_drop_27, N_X10_drop_28, N_X10_drop_30, N_X10_drop_33, N_X10_drop_34, N_X10_drop_35, N_X10_drop_36, N_X10_drop_39, N_X10_drop_42, N_X10_drop_43, N_X10_drop_46, N_X10_drop_49, if_true, if_false, ite_true, ite_false, not_false_eq_true, not_true_eq_false, isRf_ref, isRf_null, c1_int, c1_ref, c1_null, c1_none, rfv_some, rfv_none, Ok_s, tl_some, tl_none, List.nil_append, b2i_n1, b2i_n0, ↓reduceIte, nI_add, pk_mul, pk_sub, n_leT, n_leF, n_ltT, n_ltF, n_eqT, n_eqF, n_shl1, n_shl, n_shr, nI_and, nI_or, nI_xor, b2i_z, b2i_o, m1_n, n_m1, m1_lt, m1_le, n_lm1, n_em1, nI_m1, and1, and3, and7, and15, and63, and255, Bool.true_eq_false, Bool.false_eq_true, reduceCtorEq, Nat.reduceAdd, Nat.reduceMul, Nat.reduceSub, Nat.reduceDiv, Nat.reduceMod, Nat.reducePow, Nat.zero_add, Nat.one_mul, c_isStoreSet, show inN (nI v) 4096 = true from h0, hto, hc, c_grant]
      exact ⟨_, _, _, rfl, ⟨ow, ky, ln, hg.1.up⟩, hg.2⟩
end Pg5
