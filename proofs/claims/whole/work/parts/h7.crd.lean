section Ph7
variable {xs : Nat → Int32} {Ln d : Nat} {D D' D'' : Dyn} {I I' I'' J : Nat → Nat → Int32} {L : Nat → Nat → Int64} {w : Om} {Q : Res → Prop} {ow ow' ow'' ky ky' ky'' ln ln' ln'' a a' : Nat → Nat} {o be sr : Nat} {A A' : As} {nn : Nat}
/-! the class: the reader's state -/
def cst (I : Nat → Nat → Int32) (r : Nat → Int32) (pos lv sz : Nat) : Nat → Nat → Int32 := up2 (up2 (up2 (upr I 21 r) 17 1 (nI pos)) 16 1 (nI lv)) 16 2 (nI sz)
theorem up2_cj {α : Type} (f : Nat → Nat → α) {k j j' : Nat} (v v' : α) (h : j ≠ j') : up2 (up2 f k j v) k j' v' = up2 (up2 f k j' v') k j v := by
  funext a b
  unfold up2
  by_cases h1 : a = k
  · by_cases h2 : b = j
    · have : ¬ b = j' := by omega
      simp [h1, h2, this, h]
    · simp [h1, h2]
  · simp [h1]
section CST
variable {r : Nat → Int32} {p l s : Nat}
theorem cst_17 : cst I r p l s 17 1 = nI p := by
  unfold cst
  rw [up2_ro _ _ _ (by decide), up2_ro _ _ _ (by decide), up2_s]
theorem cst_170 : cst I r p l s 17 0 = I 17 0 := by
  unfold cst
  rw [up2_ro _ _ _ (by decide), up2_ro _ _ _ (by decide), up2_j _ _ _ (by decide), upr_o _ _ (by decide)]
theorem cst_161 : cst I r p l s 16 1 = nI l := by
  unfold cst
  rw [up2_j _ _ _ (by decide), up2_s]
theorem cst_162 : cst I r p l s 16 2 = nI s := by
  unfold cst
  rw [up2_s]
theorem cst_21 : cst I r p l s 21 = r := by
  unfold cst
  rw [up2_ro _ _ _ (by decide), up2_ro _ _ _ (by decide), up2_ro _ _ _ (by decide), upr_s]
theorem cst_k {k : Nat} (h1 : k ≠ 16) (h2 : k ≠ 17) (h3 : k ≠ 21) : cst I r p l s k = I k := by
  unfold cst
  rw [up2_ro _ _ _ h1, up2_ro _ _ _ h1, up2_ro _ _ _ h2, upr_o _ _ h3]
theorem cst_w17 (p' : Nat) : up2 (cst I r p l s) 17 1 (nI p') = cst I r p' l s := by
  unfold cst
  rw [up2_cm (k := 16) (k' := 17) _ _ _ _ _ (by decide), up2_cm (k := 16) (k' := 17) _ _ _ _ _ (by decide), up2_2]
theorem cst_w1 (l' : Nat) : up2 (cst I r p l s) 16 1 (nI l') = cst I r p l' s := by
  unfold cst
  rw [up2_cj _ _ _ (show (2 : Nat) ≠ 1 by decide), up2_2]
theorem cst_w2 (s' : Nat) : up2 (cst I r p l s) 16 2 (nI s') = cst I r p l s' := by
  unfold cst
  rw [up2_2]
theorem cst_w21 (j : Nat) (v : Int32) : up2 (cst I r p l s) 21 j v = cst I (up1 r j v) p l s := by
  unfold cst
  rw [up2_cm (k := 16) (k' := 21) _ _ _ _ _ (by decide), up2_cm (k := 16) (k' := 21) _ _ _ _ _ (by decide), up2_cm (k := 17) (k' := 21) _ _ _ _ _ (by decide)]
  have : up2 (upr I 21 r) 21 j v = upr I 21 (up1 r j v) := by
    funext a b
    unfold up2 upr up1
    by_cases h1 : a = 21
    · by_cases h2 : b = j <;> simp [h1, h2]
    · simp [h1]
  rw [this]
variable {tk vl ps : Nat → Nat} {m : Nat}
theorem TkC.kind (hT : TkC I tk vl ps m) (hp : p ≤ m) : (p < m ∧ I 18 p = nI (kdN (tk p))) ∨ (p = m ∧ I 18 p = m1 ∧ tk p = 0) := by
  by_cases c : p < m
  · exact Or.inl ⟨c, hT.2.2.1 p c⟩
  · have e : p = m := by omega
    rw [e]
    exact Or.inr ⟨rfl, hT.2.2.2.1, hT.2.2.2.2.2.2.1 m (Nat.le_refl _)⟩
theorem kdN_lt {c : Nat} (h : c < 356) : kdN c < 400 := by
  unfold kdN
  split
  · omega
  · split
    · omega
    · split <;> omega
theorem TkC.ke (hT : TkC I tk vl ps m) (hp : p ≤ m) {x c : Nat} (hx : ∀ a, a < 356 → (kdN a = x ↔ a = c)) (hc : c ≠ 0) (hx4 : x < 1000) : (I 18 p = nI x) = (tk p = c) := by
  have h356 := hT.2.2.2.2.2.2.2.1 p
  rcases hT.kind hp with ⟨_, e⟩ | ⟨_, e, ez⟩
  · have := kdN_lt h356
    rw [e, n_eq (by omega) (by omega)]
    exact propext (hx _ h356)
  · rw [e, ez, m1_n (by omega)]
    exact (eq_false (fun q => hc q.symm)).symm
theorem kx_40 : ∀ a, a < 356 → (kdN a = 40 ↔ a = 140) := by decide +kernel
theorem kx_41 : ∀ a, a < 356 → (kdN a = 41 ↔ a = 141) := by decide +kernel
theorem kx_91 : ∀ a, a < 356 → (kdN a = 91 ↔ a = 191) := by decide +kernel
theorem kx_93 : ∀ a, a < 356 → (kdN a = 93 ↔ a = 193) := by decide +kernel
theorem kx_59 : ∀ a, a < 356 → (kdN a = 59 ↔ a = 159) := by decide +kernel
theorem kx_60 : ∀ a, a < 356 → (kdN a = 60 ↔ a = 160) := by decide +kernel
theorem kx_62 : ∀ a, a < 356 → (kdN a = 62 ↔ a = 162) := by decide +kernel
theorem kx_61 : ∀ a, a < 356 → (kdN a = 61 ↔ a = 161) := by decide +kernel
theorem kx_43 : ∀ a, a < 356 → (kdN a = 43 ↔ a = 143) := by decide +kernel
theorem kx_45 : ∀ a, a < 356 → (kdN a = 45 ↔ a = 145) := by decide +kernel
theorem kx_42 : ∀ a, a < 356 → (kdN a = 42 ↔ a = 142) := by decide +kernel
theorem kx_47 : ∀ a, a < 356 → (kdN a = 47 ↔ a = 147) := by decide +kernel
theorem kx_257 : ∀ a, a < 356 → (kdN a = 257 ↔ a = 50) := by decide +kernel
theorem kx_258 : ∀ a, a < 356 → (kdN a = 258 ↔ a = 1) := by decide +kernel
theorem kx_259 : ∀ a, a < 356 → (kdN a = 259 ↔ a = 2) := by decide +kernel
theorem kx_260 : ∀ a, a < 356 → (kdN a = 260 ↔ a = 3) := by decide +kernel
theorem kx_261 : ∀ a, a < 356 → (kdN a = 261 ↔ a = 4) := by decide +kernel
theorem kx_262 : ∀ a, a < 356 → (kdN a = 262 ↔ a = 5) := by decide +kernel
theorem kx_263 : ∀ a, a < 356 → (kdN a = 263 ↔ a = 6) := by decide +kernel
theorem c_kind (hp : p ≤ 400) : callD xs Ln (d + 1) 76 [.ref 17] (mkW D (cst I r p l s) L) = some (mkW D (cst I r p l s) L, some (.int (I 18 p))) := by
  refine Ok.eq ?_
  refine semG (lo := [some (.ref 17)]) rfl rfl (Nat.le_of_ble_eq_true rfl) rfl (show G_X9_kind xs Ln _ 0 [some (.ref 17)] [] _ _ from ?_)
  simp (disch := first | omega | exact c1_int _ | exact c1_none | exact c1_ref _ | exact isRf_ref _ | assumption | exact okRb _ | exact okN1 | exact okN0 | exact rfl) only [N_X9_kind_0, N_X9_kind_1, N_X9_kind_4, N_X9_kind_5, N_X9_kind_8, N_X9_kind_9, if_true, if_false, ite_true, ite_false, not_false_eq_true, not_true_eq_false, isRf_ref, isRf_null, c1_int, c1_ref, c1_null, c1_none, rfv_some, rfv_none, Ok_s, tl_some, tl_none, List.nil_append, b2i_n1, b2i_n0, ↓reduceIte, nI_add, pk_mul, pk_sub, n_leT, n_leF, n_ltT, n_ltF, n_eqT, n_eqF, n_shl1, n_shl, n_shr, nI_and, nI_or, nI_xor, b2i_z, b2i_o, m1_n, n_m1, m1_lt, m1_le, n_lm1, n_em1, nI_m1, and1, and3, and7, and15, and63, and255, Bool.true_eq_false, Bool.false_eq_true, reduceCtorEq, Nat.reduceAdd, Nat.reduceMul, Nat.reduceSub, Nat.reduceDiv, Nat.reduceMod, Nat.reducePow, Nat.zero_add, Nat.one_mul, cst_17, cst_k]
theorem c_value (hp : p ≤ 400) : callD xs Ln (d + 1) 77 [.ref 17] (mkW D (cst I r p l s) L) = some (mkW D (cst I r p l s) L, some (.int (I 20 p))) := by
  refine Ok.eq ?_
  refine semG (lo := [some (.ref 17)]) rfl rfl (Nat.le_of_ble_eq_true rfl) rfl (show G_X9_value xs Ln _ 0 [some (.ref 17)] [] _ _ from ?_)
  simp (disch := first | omega | exact c1_int _ | exact c1_none | exact c1_ref _ | exact isRf_ref _ | assumption | exact okRb _ | exact okN1 | exact okN0 | exact rfl) only [N_X9_value_0, N_X9_value_1, N_X9_value_4, N_X9_value_5, N_X9_value_8, N_X9_value_9, if_true, if_false, ite_true, ite_false, not_false_eq_true, not_true_eq_false, isRf_ref, isRf_null, c1_int, c1_ref, c1_null, c1_none, rfv_some, rfv_none, Ok_s, tl_some, tl_none, List.nil_append, b2i_n1, b2i_n0, ↓reduceIte, nI_add, pk_mul, pk_sub, n_leT, n_leF, n_ltT, n_ltF, n_eqT, n_eqF, n_shl1, n_shl, n_shr, nI_and, nI_or, nI_xor, b2i_z, b2i_o, m1_n, n_m1, m1_lt, m1_le, n_lm1, n_em1, nI_m1, and1, and3, and7, and15, and63, and255, Bool.true_eq_false, Bool.false_eq_true, reduceCtorEq, Nat.reduceAdd, Nat.reduceMul, Nat.reduceSub, Nat.reduceDiv, Nat.reduceMod, Nat.reducePow, Nat.zero_add, Nat.one_mul, cst_17, cst_k]
theorem c_adv (hT : TkC I tk vl ps m) (hp : p < m) : callD xs Ln (d + 1) 79 [.ref 17] (mkW D (cst I r p l s) L) = some (mkW D (cst I r (p + 1) l s) L, none) := by
  have h4 := hT.1
  have h0 := hT.2.1
  refine Ok.eq ?_
  refine semG (lo := [some (.ref 17)]) rfl rfl (Nat.le_of_ble_eq_true rfl) rfl (show G_X9_advance xs Ln _ 0 [some (.ref 17)] [] _ _ from ?_)
  simp (disch := first | omega | exact c1_int _ | exact c1_none | exact c1_ref _ | exact isRf_ref _ | assumption | exact okRb _ | exact okN1 | exact okN0 | exact rfl) only [N_X9_advance_0, N_X9_advance_1, N_X9_advance_4, N_X9_advance_5, N_X9_advance_6, N_X9_advance_7, N_X9_advance_10, N_X9_advance_13, N_X9_advance_14, N_X9_advance_15, N_X9_advance_18, N_X9_advance_19, N_X9_advance_20, N_X9_advance_23, if_true, if_false, ite_true, ite_false, not_false_eq_true, not_true_eq_false, isRf_ref, isRf_null, c1_int, c1_ref, c1_null, c1_none, rfv_some, rfv_none, Ok_s, tl_some, tl_none, List.nil_append, b2i_n1, b2i_n0, ↓reduceIte, nI_add, pk_mul, pk_sub, n_leT, n_leF, n_ltT, n_ltF, n_eqT, n_eqF, n_shl1, n_shl, n_shr, nI_and, nI_or, nI_xor, b2i_z, b2i_o, m1_n, n_m1, m1_lt, m1_le, n_lm1, n_em1, nI_m1, and1, and3, and7, and15, and63, and255, Bool.true_eq_false, Bool.false_eq_true, reduceCtorEq, Nat.reduceAdd, Nat.reduceMul, Nat.reduceSub, Nat.reduceDiv, Nat.reduceMod, Nat.reducePow, Nat.zero_add, Nat.one_mul, cst_17, cst_170, h0, cst_w17]
theorem or16 {o t : Nat} (h : o < 16) : o ||| t * 16 = o + 16 * t := by
  have := Nat.two_pow_add_eq_or_of_lt (i := 4) h t
  rw [show t * 16 = 2 ^ 4 * t by omega, Nat.or_comm, ← this]
  omega
theorem c_emit {o t : Nat} (hs : s < 800) (ho : o < 16) (ht : t < 100000) : callD xs Ln (d + 1) 16 [.ref 16, .int (nI o), .int (nI t)] (mkW D (cst I r p l s) L) = some (mkW D (cst I (up1 r s (nI (o + 16 * t))) p l (s + 1)) L, none) := by
  refine Ok.eq ?_
  refine semG (lo := [some (.ref 16), some (.int (nI o)), some (.int (nI t))]) rfl rfl (Nat.le_of_ble_eq_true rfl) rfl (show G_X2_emit xs Ln _ 0 [some (.ref 16), some (.int (nI o)), some (.int (nI t))] [] _ _ from ?_)
  simp (disch := first | omega | exact c1_int _ | exact c1_none | exact c1_ref _ | exact isRf_ref _ | assumption | exact okRb _ | exact okN1 | exact okN0 | exact rfl) only [N_X2_emit_0, N_X2_emit_1, N_X2_emit_4, N_X2_emit_5, N_X2_emit_8, N_X2_emit_9, N_X2_emit_12, N_X2_emit_13, N_X2_emit_16, N_X2_emit_17, N_X2_emit_20, N_X2_emit_21, N_X2_emit_22, N_X2_emit_23, N_X2_emit_24, N_X2_emit_25, N_X2_emit_26, N_X2_emit_27, N_X2_emit_28, N_X2_emit_31, N_X2_emit_32, N_X2_emit_33, N_X2_emit_36, if_true, if_false, ite_true, ite_false, not_false_eq_true, not_true_eq_false, isRf_ref, isRf_null, c1_int, c1_ref, c1_null, c1_none, rfv_some, rfv_none, Ok_s, tl_some, tl_none, List.nil_append, b2i_n1, b2i_n0, ↓reduceIte, nI_add, pk_mul, pk_sub, n_leT, n_leF, n_ltT, n_ltF, n_eqT, n_eqF, n_shl1, n_shl, n_shr, nI_and, nI_or, nI_xor, b2i_z, b2i_o, m1_n, n_m1, m1_lt, m1_le, n_lm1, n_em1, nI_m1, and1, and3, and7, and15, and63, and255, Bool.true_eq_false, Bool.false_eq_true, reduceCtorEq, Nat.reduceAdd, Nat.reduceMul, Nat.reduceSub, Nat.reduceDiv, Nat.reduceMod, Nat.reducePow, Nat.zero_add, Nat.one_mul, cst_162, cst_w21, cst_w2, or16]
theorem c_emitA {o t : Int32} (hs : s ≤ 800) : ∃ r' s', callD xs Ln (d + 1) 16 [.ref 16, .int o, .int t] (mkW D (cst I r p l s) L) = some (mkW D (cst I r' p l s') L, none) ∧ s' ≤ 800 := by
  by_cases h8 : s = 800
  · refine ⟨r, s, Ok.eq ?_, hs⟩
    refine semG (lo := [some (.ref 16), some (.int o), some (.int t)]) rfl rfl (Nat.le_of_ble_eq_true rfl) rfl (show G_X2_emit xs Ln _ 0 [some (.ref 16), some (.int o), some (.int t)] [] _ _ from ?_)
    simp (disch := first | omega | exact c1_int _ | exact c1_none | exact c1_ref _ | exact isRf_ref _ | assumption | exact okRb _ | exact okN1 | exact okN0 | exact rfl) only [N_X2_emit_0, N_X2_emit_1, N_X2_emit_4, N_X2_emit_5, N_X2_emit_8, N_X2_emit_9, N_X2_emit_12, N_X2_emit_13, N_X2_emit_16, N_X2_emit_17, N_X2_emit_20, N_X2_emit_21, N_X2_emit_22, N_X2_emit_23, N_X2_emit_24, N_X2_emit_25, N_X2_emit_26, N_X2_emit_27, N_X2_emit_28, N_X2_emit_31, N_X2_emit_32, N_X2_emit_33, N_X2_emit_36, if_true, if_false, ite_true, ite_false, not_false_eq_true, not_true_eq_false, isRf_ref, isRf_null, c1_int, c1_ref, c1_null, c1_none, rfv_some, rfv_none, Ok_s, tl_some, tl_none, List.nil_append, b2i_n1, b2i_n0, ↓reduceIte, nI_add, pk_mul, pk_sub, n_leT, n_leF, n_ltT, n_ltF, n_eqT, n_eqF, n_shl1, n_shl, n_shr, nI_and, nI_or, nI_xor, b2i_z, b2i_o, m1_n, n_m1, m1_lt, m1_le, n_lm1, n_em1, nI_m1, and1, and3, and7, and15, and63, and255, Bool.true_eq_false, Bool.false_eq_true, reduceCtorEq, Nat.reduceAdd, Nat.reduceMul, Nat.reduceSub, Nat.reduceDiv, Nat.reduceMod, Nat.reducePow, Nat.zero_add, Nat.one_mul, cst_162]
  · refine ⟨up1 r s (o ||| shlI t (nI 4)), s + 1, Ok.eq ?_, by omega⟩
    refine semG (lo := [some (.ref 16), some (.int o), some (.int t)]) rfl rfl (Nat.le_of_ble_eq_true rfl) rfl (show G_X2_emit xs Ln _ 0 [some (.ref 16), some (.int o), some (.int t)] [] _ _ from ?_)
    simp (disch := first | omega | exact c1_int _ | exact c1_none | exact c1_ref _ | exact isRf_ref _ | assumption | exact okRb _ | exact okN1 | exact okN0 | exact rfl) only [N_X2_emit_0, N_X2_emit_1, N_X2_emit_4, N_X2_emit_5, N_X2_emit_8, N_X2_emit_9, N_X2_emit_12, N_X2_emit_13, N_X2_emit_16, N_X2_emit_17, N_X2_emit_20, N_X2_emit_21, N_X2_emit_22, N_X2_emit_23, N_X2_emit_24, N_X2_emit_25, N_X2_emit_26, N_X2_emit_27, N_X2_emit_28, N_X2_emit_31, N_X2_emit_32, N_X2_emit_33, N_X2_emit_36, if_true, if_false, ite_true, ite_false, not_false_eq_true, not_true_eq_false, isRf_ref, isRf_null, c1_int, c1_ref, c1_null, c1_none, rfv_some, rfv_none, Ok_s, tl_some, tl_none, List.nil_append, b2i_n1, b2i_n0, ↓reduceIte, nI_add, pk_mul, pk_sub, n_leT, n_leF, n_ltT, n_ltF, n_eqT, n_eqF, n_shl1, n_shl, n_shr, nI_and, nI_or, nI_xor, b2i_z, b2i_o, m1_n, n_m1, m1_lt, m1_le, n_lm1, n_em1, nI_m1, and1, and3, and7, and15, and63, and255, Bool.true_eq_false, Bool.false_eq_true, reduceCtorEq, Nat.reduceAdd, Nat.reduceMul, Nat.reduceSub, Nat.reduceDiv, Nat.reduceMod, Nat.reducePow, Nat.zero_add, Nat.one_mul, cst_162, cst_w21, cst_w2]
def nJ (x : Nat) : Int32 := if x = 0 then m1 else nI x
theorem nJ_0 : nJ 0 = m1 := id rfl
theorem nJ_n {x : Nat} (h : ¬ x = 0) : nJ x = nI x := by unfold nJ; rw [if_neg h]
theorem jo_lt {r c : Nat} : jo r c < 16 := by
  unfold jo
  split
  · split <;> omega
  · split
    · split <;> omega
    · split
      · split
        · omega
        · split <;> omega
      · split
        · split
          · omega
          · split <;> omega
        · omega
theorem cmp_lt {c : Nat} : cmpO c < 16 := by
  unfold cmpO
  split
  · omega
  · split
    · omega
    · split <;> omega
theorem c_joiner (hT : TkC I tk vl ps m) (hp : p ≤ m) {rk : Nat} (hr : rk = 0 ∨ rk = 1 ∨ rk = 3 ∨ rk = 4) : callD xs Ln (d + 2) 11 [.ref 16, .int (nI rk)] (mkW D (cst I r p l s) L) = some (mkW D (cst I r p l s) L, some (.int (nJ (jo rk (tk p))))) := by
  have h4 := hT.1
  have k4 := hT.ke hp kx_261 (by decide) (by decide)
  have k5 := hT.ke hp kx_262 (by decide) (by decide)
  have k43 := hT.ke hp kx_43 (by decide) (by decide)
  have k45 := hT.ke hp kx_45 (by decide) (by decide)
  have k42 := hT.ke hp kx_42 (by decide) (by decide)
  have k47 := hT.ke hp kx_47 (by decide) (by decide)
  refine Ok.eq ?_
  refine semG (lo := [some (.ref 16), some (.int (nI rk)), none]) rfl rfl (Nat.le_of_ble_eq_true rfl) rfl (show G_X2_joinerOf xs Ln _ 0 [some (.ref 16), some (.int (nI rk)), none] [] _ _ from ?_)
  unfold jo
  rcases hr with rfl | rfl | rfl | rfl
  · by_cases c : tk p = 4
    · simp (disch := first | omega | exact c1_int _ | exact c1_none | exact c1_ref _ | exact isRf_ref _ | assumption | exact okRb _ | exact okN1 | exact okN0 | exact rfl) only [N_X2_joinerOf_0, N_X2_joinerOf_1, N_X2_joinerOf_4, N_X2_joinerOf_7, N_X2_joinerOf_8, N_X2_joinerOf_9_0, N_X2_joinerOf_9_1, N_X2_joinerOf_9_2, N_X2_joinerOf_9_3, N_X2_joinerOf_9_4, N_X2_joinerOf_9, N_X2_joinerOf_44, N_X2_joinerOf_45, N_X2_joinerOf_48, N_X2_joinerOf_51, N_X2_joinerOf_53, N_X2_joinerOf_56, N_X2_joinerOf_57, N_X2_joinerOf_58, N_X2_joinerOf_59, N_X2_joinerOf_62, N_X2_joinerOf_65, N_X2_joinerOf_67, N_X2_joinerOf_70, N_X2_joinerOf_71, N_X2_joinerOf_72, N_X2_joinerOf_73, N_X2_joinerOf_75, N_X2_joinerOf_78, N_X2_joinerOf_79, N_X2_joinerOf_82, N_X2_joinerOf_83, N_X2_joinerOf_85, N_X2_joinerOf_88, N_X2_joinerOf_89, N_X2_joinerOf_92, N_X2_joinerOf_93, N_X2_joinerOf_94, N_X2_joinerOf_95, N_X2_joinerOf_97, N_X2_joinerOf_100, N_X2_joinerOf_101, N_X2_joinerOf_104, N_X2_joinerOf_105, N_X2_joinerOf_107, N_X2_joinerOf_110, N_X2_joinerOf_111, N_X2_joinerOf_114, N_X2_joinerOf_115, N_X2_joinerOf_116, N_X2_joinerOf_117, if_true, if_false, ite_true, ite_false, not_false_eq_true, not_true_eq_false, isRf_ref, isRf_null, c1_int, c1_ref, c1_null, c1_none, rfv_some, rfv_none, Ok_s, tl_some, tl_none, List.nil_append, b2i_n1, b2i_n0, ↓reduceIte, nI_add, pk_mul, pk_sub, n_leT, n_leF, n_ltT, n_ltF, n_eqT, n_eqF, n_shl1, n_shl, n_shr, nI_and, nI_or, nI_xor, b2i_z, b2i_o, m1_n, n_m1, m1_lt, m1_le, n_lm1, n_em1, nI_m1, and1, and3, and7, and15, and63, and255, Bool.true_eq_false, Bool.false_eq_true, reduceCtorEq, Nat.reduceAdd, Nat.reduceMul, Nat.reduceSub, Nat.reduceDiv, Nat.reduceMod, Nat.reducePow, Nat.zero_add, Nat.one_mul, Nat.reduceEqDiff, c_kind, k4, c, nJ_n]
    · simp (disch := first | omega | exact c1_int _ | exact c1_none | exact c1_ref _ | exact isRf_ref _ | assumption | exact okRb _ | exact okN1 | exact okN0 | exact rfl) only [N_X2_joinerOf_0, N_X2_joinerOf_1, N_X2_joinerOf_4, N_X2_joinerOf_7, N_X2_joinerOf_8, N_X2_joinerOf_9_0, N_X2_joinerOf_9_1, N_X2_joinerOf_9_2, N_X2_joinerOf_9_3, N_X2_joinerOf_9_4, N_X2_joinerOf_9, N_X2_joinerOf_44, N_X2_joinerOf_45, N_X2_joinerOf_48, N_X2_joinerOf_51, N_X2_joinerOf_53, N_X2_joinerOf_56, N_X2_joinerOf_57, N_X2_joinerOf_58, N_X2_joinerOf_59, N_X2_joinerOf_62, N_X2_joinerOf_65, N_X2_joinerOf_67, N_X2_joinerOf_70, N_X2_joinerOf_71, N_X2_joinerOf_72, N_X2_joinerOf_73, N_X2_joinerOf_75, N_X2_joinerOf_78, N_X2_joinerOf_79, N_X2_joinerOf_82, N_X2_joinerOf_83, N_X2_joinerOf_85, N_X2_joinerOf_88, N_X2_joinerOf_89, N_X2_joinerOf_92, N_X2_joinerOf_93, N_X2_joinerOf_94, N_X2_joinerOf_95, N_X2_joinerOf_97, N_X2_joinerOf_100, N_X2_joinerOf_101, N_X2_joinerOf_104, N_X2_joinerOf_105, N_X2_joinerOf_107, N_X2_joinerOf_110, N_X2_joinerOf_111, N_X2_joinerOf_114, N_X2_joinerOf_115, N_X2_joinerOf_116, N_X2_joinerOf_117, if_true, if_false, ite_true, ite_false, not_false_eq_true, not_true_eq_false, isRf_ref, isRf_null, c1_int, c1_ref, c1_null, c1_none, rfv_some, rfv_none, Ok_s, tl_some, tl_none, List.nil_append, b2i_n1, b2i_n0, ↓reduceIte, nI_add, pk_mul, pk_sub, n_leT, n_leF, n_ltT, n_ltF, n_eqT, n_eqF, n_shl1, n_shl, n_shr, nI_and, nI_or, nI_xor, b2i_z, b2i_o, m1_n, n_m1, m1_lt, m1_le, n_lm1, n_em1, nI_m1, and1, and3, and7, and15, and63, and255, Bool.true_eq_false, Bool.false_eq_true, reduceCtorEq, Nat.reduceAdd, Nat.reduceMul, Nat.reduceSub, Nat.reduceDiv, Nat.reduceMod, Nat.reducePow, Nat.zero_add, Nat.one_mul, Nat.reduceEqDiff, c_kind, k4, c, nJ_0]
  · by_cases c : tk p = 5
    · simp (disch := first | omega | exact c1_int _ | exact c1_none | exact c1_ref _ | exact isRf_ref _ | assumption | exact okRb _ | exact okN1 | exact okN0 | exact rfl) only [N_X2_joinerOf_0, N_X2_joinerOf_1, N_X2_joinerOf_4, N_X2_joinerOf_7, N_X2_joinerOf_8, N_X2_joinerOf_9_0, N_X2_joinerOf_9_1, N_X2_joinerOf_9_2, N_X2_joinerOf_9_3, N_X2_joinerOf_9_4, N_X2_joinerOf_9, N_X2_joinerOf_44, N_X2_joinerOf_45, N_X2_joinerOf_48, N_X2_joinerOf_51, N_X2_joinerOf_53, N_X2_joinerOf_56, N_X2_joinerOf_57, N_X2_joinerOf_58, N_X2_joinerOf_59, N_X2_joinerOf_62, N_X2_joinerOf_65, N_X2_joinerOf_67, N_X2_joinerOf_70, N_X2_joinerOf_71, N_X2_joinerOf_72, N_X2_joinerOf_73, N_X2_joinerOf_75, N_X2_joinerOf_78, N_X2_joinerOf_79, N_X2_joinerOf_82, N_X2_joinerOf_83, N_X2_joinerOf_85, N_X2_joinerOf_88, N_X2_joinerOf_89, N_X2_joinerOf_92, N_X2_joinerOf_93, N_X2_joinerOf_94, N_X2_joinerOf_95, N_X2_joinerOf_97, N_X2_joinerOf_100, N_X2_joinerOf_101, N_X2_joinerOf_104, N_X2_joinerOf_105, N_X2_joinerOf_107, N_X2_joinerOf_110, N_X2_joinerOf_111, N_X2_joinerOf_114, N_X2_joinerOf_115, N_X2_joinerOf_116, N_X2_joinerOf_117, if_true, if_false, ite_true, ite_false, not_false_eq_true, not_true_eq_false, isRf_ref, isRf_null, c1_int, c1_ref, c1_null, c1_none, rfv_some, rfv_none, Ok_s, tl_some, tl_none, List.nil_append, b2i_n1, b2i_n0, ↓reduceIte, nI_add, pk_mul, pk_sub, n_leT, n_leF, n_ltT, n_ltF, n_eqT, n_eqF, n_shl1, n_shl, n_shr, nI_and, nI_or, nI_xor, b2i_z, b2i_o, m1_n, n_m1, m1_lt, m1_le, n_lm1, n_em1, nI_m1, and1, and3, and7, and15, and63, and255, Bool.true_eq_false, Bool.false_eq_true, reduceCtorEq, Nat.reduceAdd, Nat.reduceMul, Nat.reduceSub, Nat.reduceDiv, Nat.reduceMod, Nat.reducePow, Nat.zero_add, Nat.one_mul, Nat.reduceEqDiff, c_kind, k5, c, nJ_n]
    · simp (disch := first | omega | exact c1_int _ | exact c1_none | exact c1_ref _ | exact isRf_ref _ | assumption | exact okRb _ | exact okN1 | exact okN0 | exact rfl) only [N_X2_joinerOf_0, N_X2_joinerOf_1, N_X2_joinerOf_4, N_X2_joinerOf_7, N_X2_joinerOf_8, N_X2_joinerOf_9_0, N_X2_joinerOf_9_1, N_X2_joinerOf_9_2, N_X2_joinerOf_9_3, N_X2_joinerOf_9_4, N_X2_joinerOf_9, N_X2_joinerOf_44, N_X2_joinerOf_45, N_X2_joinerOf_48, N_X2_joinerOf_51, N_X2_joinerOf_53, N_X2_joinerOf_56, N_X2_joinerOf_57, N_X2_joinerOf_58, N_X2_joinerOf_59, N_X2_joinerOf_62, N_X2_joinerOf_65, N_X2_joinerOf_67, N_X2_joinerOf_70, N_X2_joinerOf_71, N_X2_joinerOf_72, N_X2_joinerOf_73, N_X2_joinerOf_75, N_X2_joinerOf_78, N_X2_joinerOf_79, N_X2_joinerOf_82, N_X2_joinerOf_83, N_X2_joinerOf_85, N_X2_joinerOf_88, N_X2_joinerOf_89, N_X2_joinerOf_92, N_X2_joinerOf_93, N_X2_joinerOf_94, N_X2_joinerOf_95, N_X2_joinerOf_97, N_X2_joinerOf_100, N_X2_joinerOf_101, N_X2_joinerOf_104, N_X2_joinerOf_105, N_X2_joinerOf_107, N_X2_joinerOf_110, N_X2_joinerOf_111, N_X2_joinerOf_114, N_X2_joinerOf_115, N_X2_joinerOf_116, N_X2_joinerOf_117, if_true, if_false, ite_true, ite_false, not_false_eq_true, not_true_eq_false, isRf_ref, isRf_null, c1_int, c1_ref, c1_null, c1_none, rfv_some, rfv_none, Ok_s, tl_some, tl_none, List.nil_append, b2i_n1, b2i_n0, ↓reduceIte, nI_add, pk_mul, pk_sub, n_leT, n_leF, n_ltT, n_ltF, n_eqT, n_eqF, n_shl1, n_shl, n_shr, nI_and, nI_or, nI_xor, b2i_z, b2i_o, m1_n, n_m1, m1_lt, m1_le, n_lm1, n_em1, nI_m1, and1, and3, and7, and15, and63, and255, Bool.true_eq_false, Bool.false_eq_true, reduceCtorEq, Nat.reduceAdd, Nat.reduceMul, Nat.reduceSub, Nat.reduceDiv, Nat.reduceMod, Nat.reducePow, Nat.zero_add, Nat.one_mul, Nat.reduceEqDiff, c_kind, k5, c, nJ_0]
  · by_cases c : tk p = 143
    · simp (disch := first | omega | exact c1_int _ | exact c1_none | exact c1_ref _ | exact isRf_ref _ | assumption | exact okRb _ | exact okN1 | exact okN0 | exact rfl) only [N_X2_joinerOf_0, N_X2_joinerOf_1, N_X2_joinerOf_4, N_X2_joinerOf_7, N_X2_joinerOf_8, N_X2_joinerOf_9_0, N_X2_joinerOf_9_1, N_X2_joinerOf_9_2, N_X2_joinerOf_9_3, N_X2_joinerOf_9_4, N_X2_joinerOf_9, N_X2_joinerOf_44, N_X2_joinerOf_45, N_X2_joinerOf_48, N_X2_joinerOf_51, N_X2_joinerOf_53, N_X2_joinerOf_56, N_X2_joinerOf_57, N_X2_joinerOf_58, N_X2_joinerOf_59, N_X2_joinerOf_62, N_X2_joinerOf_65, N_X2_joinerOf_67, N_X2_joinerOf_70, N_X2_joinerOf_71, N_X2_joinerOf_72, N_X2_joinerOf_73, N_X2_joinerOf_75, N_X2_joinerOf_78, N_X2_joinerOf_79, N_X2_joinerOf_82, N_X2_joinerOf_83, N_X2_joinerOf_85, N_X2_joinerOf_88, N_X2_joinerOf_89, N_X2_joinerOf_92, N_X2_joinerOf_93, N_X2_joinerOf_94, N_X2_joinerOf_95, N_X2_joinerOf_97, N_X2_joinerOf_100, N_X2_joinerOf_101, N_X2_joinerOf_104, N_X2_joinerOf_105, N_X2_joinerOf_107, N_X2_joinerOf_110, N_X2_joinerOf_111, N_X2_joinerOf_114, N_X2_joinerOf_115, N_X2_joinerOf_116, N_X2_joinerOf_117, if_true, if_false, ite_true, ite_false, not_false_eq_true, not_true_eq_false, isRf_ref, isRf_null, c1_int, c1_ref, c1_null, c1_none, rfv_some, rfv_none, Ok_s, tl_some, tl_none, List.nil_append, b2i_n1, b2i_n0, ↓reduceIte, nI_add, pk_mul, pk_sub, n_leT, n_leF, n_ltT, n_ltF, n_eqT, n_eqF, n_shl1, n_shl, n_shr, nI_and, nI_or, nI_xor, b2i_z, b2i_o, m1_n, n_m1, m1_lt, m1_le, n_lm1, n_em1, nI_m1, and1, and3, and7, and15, and63, and255, Bool.true_eq_false, Bool.false_eq_true, reduceCtorEq, Nat.reduceAdd, Nat.reduceMul, Nat.reduceSub, Nat.reduceDiv, Nat.reduceMod, Nat.reducePow, Nat.zero_add, Nat.one_mul, Nat.reduceEqDiff, c_kind, k43, c, nJ_n]
    · by_cases c2 : tk p = 145
      · simp (disch := first | omega | exact c1_int _ | exact c1_none | exact c1_ref _ | exact isRf_ref _ | assumption | exact okRb _ | exact okN1 | exact okN0 | exact rfl) only [N_X2_joinerOf_0, N_X2_joinerOf_1, N_X2_joinerOf_4, N_X2_joinerOf_7, N_X2_joinerOf_8, N_X2_joinerOf_9_0, N_X2_joinerOf_9_1, N_X2_joinerOf_9_2, N_X2_joinerOf_9_3, N_X2_joinerOf_9_4, N_X2_joinerOf_9, N_X2_joinerOf_44, N_X2_joinerOf_45, N_X2_joinerOf_48, N_X2_joinerOf_51, N_X2_joinerOf_53, N_X2_joinerOf_56, N_X2_joinerOf_57, N_X2_joinerOf_58, N_X2_joinerOf_59, N_X2_joinerOf_62, N_X2_joinerOf_65, N_X2_joinerOf_67, N_X2_joinerOf_70, N_X2_joinerOf_71, N_X2_joinerOf_72, N_X2_joinerOf_73, N_X2_joinerOf_75, N_X2_joinerOf_78, N_X2_joinerOf_79, N_X2_joinerOf_82, N_X2_joinerOf_83, N_X2_joinerOf_85, N_X2_joinerOf_88, N_X2_joinerOf_89, N_X2_joinerOf_92, N_X2_joinerOf_93, N_X2_joinerOf_94, N_X2_joinerOf_95, N_X2_joinerOf_97, N_X2_joinerOf_100, N_X2_joinerOf_101, N_X2_joinerOf_104, N_X2_joinerOf_105, N_X2_joinerOf_107, N_X2_joinerOf_110, N_X2_joinerOf_111, N_X2_joinerOf_114, N_X2_joinerOf_115, N_X2_joinerOf_116, N_X2_joinerOf_117, if_true, if_false, ite_true, ite_false, not_false_eq_true, not_true_eq_false, isRf_ref, isRf_null, c1_int, c1_ref, c1_null, c1_none, rfv_some, rfv_none, Ok_s, tl_some, tl_none, List.nil_append, b2i_n1, b2i_n0, ↓reduceIte, nI_add, pk_mul, pk_sub, n_leT, n_leF, n_ltT, n_ltF, n_eqT, n_eqF, n_shl1, n_shl, n_shr, nI_and, nI_or, nI_xor, b2i_z, b2i_o, m1_n, n_m1, m1_lt, m1_le, n_lm1, n_em1, nI_m1, and1, and3, and7, and15, and63, and255, Bool.true_eq_false, Bool.false_eq_true, reduceCtorEq, Nat.reduceAdd, Nat.reduceMul, Nat.reduceSub, Nat.reduceDiv, Nat.reduceMod, Nat.reducePow, Nat.zero_add, Nat.one_mul, Nat.reduceEqDiff, c_kind, k43, k45, c2, nJ_n]
      · simp (disch := first | omega | exact c1_int _ | exact c1_none | exact c1_ref _ | exact isRf_ref _ | assumption | exact okRb _ | exact okN1 | exact okN0 | exact rfl) only [N_X2_joinerOf_0, N_X2_joinerOf_1, N_X2_joinerOf_4, N_X2_joinerOf_7, N_X2_joinerOf_8, N_X2_joinerOf_9_0, N_X2_joinerOf_9_1, N_X2_joinerOf_9_2, N_X2_joinerOf_9_3, N_X2_joinerOf_9_4, N_X2_joinerOf_9, N_X2_joinerOf_44, N_X2_joinerOf_45, N_X2_joinerOf_48, N_X2_joinerOf_51, N_X2_joinerOf_53, N_X2_joinerOf_56, N_X2_joinerOf_57, N_X2_joinerOf_58, N_X2_joinerOf_59, N_X2_joinerOf_62, N_X2_joinerOf_65, N_X2_joinerOf_67, N_X2_joinerOf_70, N_X2_joinerOf_71, N_X2_joinerOf_72, N_X2_joinerOf_73, N_X2_joinerOf_75, N_X2_joinerOf_78, N_X2_joinerOf_79, N_X2_joinerOf_82, N_X2_joinerOf_83, N_X2_joinerOf_85, N_X2_joinerOf_88, N_X2_joinerOf_89, N_X2_joinerOf_92, N_X2_joinerOf_93, N_X2_joinerOf_94, N_X2_joinerOf_95, N_X2_joinerOf_97, N_X2_joinerOf_100, N_X2_joinerOf_101, N_X2_joinerOf_104, N_X2_joinerOf_105, N_X2_joinerOf_107, N_X2_joinerOf_110, N_X2_joinerOf_111, N_X2_joinerOf_114, N_X2_joinerOf_115, N_X2_joinerOf_116, N_X2_joinerOf_117, if_true, if_false, ite_true, ite_false, not_false_eq_true, not_true_eq_false, isRf_ref, isRf_null, c1_int, c1_ref, c1_null, c1_none, rfv_some, rfv_none, Ok_s, tl_some, tl_none, List.nil_append, b2i_n1, b2i_n0, ↓reduceIte, nI_add, pk_mul, pk_sub, n_leT, n_leF, n_ltT, n_ltF, n_eqT, n_eqF, n_shl1, n_shl, n_shr, nI_and, nI_or, nI_xor, b2i_z, b2i_o, m1_n, n_m1, m1_lt, m1_le, n_lm1, n_em1, nI_m1, and1, and3, and7, and15, and63, and255, Bool.true_eq_false, Bool.false_eq_true, reduceCtorEq, Nat.reduceAdd, Nat.reduceMul, Nat.reduceSub, Nat.reduceDiv, Nat.reduceMod, Nat.reducePow, Nat.zero_add, Nat.one_mul, Nat.reduceEqDiff, c_kind, k43, k45, c, c2, nJ_0]
  · by_cases c : tk p = 142
    · simp (disch := first | omega | exact c1_int _ | exact c1_none | exact c1_ref _ | exact isRf_ref _ | assumption | exact okRb _ | exact okN1 | exact okN0 | exact rfl) only [N_X2_joinerOf_0, N_X2_joinerOf_1, N_X2_joinerOf_4, N_X2_joinerOf_7, N_X2_joinerOf_8, N_X2_joinerOf_9_0, N_X2_joinerOf_9_1, N_X2_joinerOf_9_2, N_X2_joinerOf_9_3, N_X2_joinerOf_9_4, N_X2_joinerOf_9, N_X2_joinerOf_44, N_X2_joinerOf_45, N_X2_joinerOf_48, N_X2_joinerOf_51, N_X2_joinerOf_53, N_X2_joinerOf_56, N_X2_joinerOf_57, N_X2_joinerOf_58, N_X2_joinerOf_59, N_X2_joinerOf_62, N_X2_joinerOf_65, N_X2_joinerOf_67, N_X2_joinerOf_70, N_X2_joinerOf_71, N_X2_joinerOf_72, N_X2_joinerOf_73, N_X2_joinerOf_75, N_X2_joinerOf_78, N_X2_joinerOf_79, N_X2_joinerOf_82, N_X2_joinerOf_83, N_X2_joinerOf_85, N_X2_joinerOf_88, N_X2_joinerOf_89, N_X2_joinerOf_92, N_X2_joinerOf_93, N_X2_joinerOf_94, N_X2_joinerOf_95, N_X2_joinerOf_97, N_X2_joinerOf_100, N_X2_joinerOf_101, N_X2_joinerOf_104, N_X2_joinerOf_105, N_X2_joinerOf_107, N_X2_joinerOf_110, N_X2_joinerOf_111, N_X2_joinerOf_114, N_X2_joinerOf_115, N_X2_joinerOf_116, N_X2_joinerOf_117, if_true, if_false, ite_true, ite_false, not_false_eq_true, not_true_eq_false, isRf_ref, isRf_null, c1_int, c1_ref, c1_null, c1_none, rfv_some, rfv_none, Ok_s, tl_some, tl_none, List.nil_append, b2i_n1, b2i_n0, ↓reduceIte, nI_add, pk_mul, pk_sub, n_leT, n_leF, n_ltT, n_ltF, n_eqT, n_eqF, n_shl1, n_shl, n_shr, nI_and, nI_or, nI_xor, b2i_z, b2i_o, m1_n, n_m1, m1_lt, m1_le, n_lm1, n_em1, nI_m1, and1, and3, and7, and15, and63, and255, Bool.true_eq_false, Bool.false_eq_true, reduceCtorEq, Nat.reduceAdd, Nat.reduceMul, Nat.reduceSub, Nat.reduceDiv, Nat.reduceMod, Nat.reducePow, Nat.zero_add, Nat.one_mul, Nat.reduceEqDiff, c_kind, k42, c, nJ_n]
    · by_cases c2 : tk p = 147
      · simp (disch := first | omega | exact c1_int _ | exact c1_none | exact c1_ref _ | exact isRf_ref _ | assumption | exact okRb _ | exact okN1 | exact okN0 | exact rfl) only [N_X2_joinerOf_0, N_X2_joinerOf_1, N_X2_joinerOf_4, N_X2_joinerOf_7, N_X2_joinerOf_8, N_X2_joinerOf_9_0, N_X2_joinerOf_9_1, N_X2_joinerOf_9_2, N_X2_joinerOf_9_3, N_X2_joinerOf_9_4, N_X2_joinerOf_9, N_X2_joinerOf_44, N_X2_joinerOf_45, N_X2_joinerOf_48, N_X2_joinerOf_51, N_X2_joinerOf_53, N_X2_joinerOf_56, N_X2_joinerOf_57, N_X2_joinerOf_58, N_X2_joinerOf_59, N_X2_joinerOf_62, N_X2_joinerOf_65, N_X2_joinerOf_67, N_X2_joinerOf_70, N_X2_joinerOf_71, N_X2_joinerOf_72, N_X2_joinerOf_73, N_X2_joinerOf_75, N_X2_joinerOf_78, N_X2_joinerOf_79, N_X2_joinerOf_82, N_X2_joinerOf_83, N_X2_joinerOf_85, N_X2_joinerOf_88, N_X2_joinerOf_89, N_X2_joinerOf_92, N_X2_joinerOf_93, N_X2_joinerOf_94, N_X2_joinerOf_95, N_X2_joinerOf_97, N_X2_joinerOf_100, N_X2_joinerOf_101, N_X2_joinerOf_104, N_X2_joinerOf_105, N_X2_joinerOf_107, N_X2_joinerOf_110, N_X2_joinerOf_111, N_X2_joinerOf_114, N_X2_joinerOf_115, N_X2_joinerOf_116, N_X2_joinerOf_117, if_true, if_false, ite_true, ite_false, not_false_eq_true, not_true_eq_false, isRf_ref, isRf_null, c1_int, c1_ref, c1_null, c1_none, rfv_some, rfv_none, Ok_s, tl_some, tl_none, List.nil_append, b2i_n1, b2i_n0, ↓reduceIte, nI_add, pk_mul, pk_sub, n_leT, n_leF, n_ltT, n_ltF, n_eqT, n_eqF, n_shl1, n_shl, n_shr, nI_and, nI_or, nI_xor, b2i_z, b2i_o, m1_n, n_m1, m1_lt, m1_le, n_lm1, n_em1, nI_m1, and1, and3, and7, and15, and63, and255, Bool.true_eq_false, Bool.false_eq_true, reduceCtorEq, Nat.reduceAdd, Nat.reduceMul, Nat.reduceSub, Nat.reduceDiv, Nat.reduceMod, Nat.reducePow, Nat.zero_add, Nat.one_mul, Nat.reduceEqDiff, c_kind, k42, k47, c2, nJ_n]
      · simp (disch := first | omega | exact c1_int _ | exact c1_none | exact c1_ref _ | exact isRf_ref _ | assumption | exact okRb _ | exact okN1 | exact okN0 | exact rfl) only [N_X2_joinerOf_0, N_X2_joinerOf_1, N_X2_joinerOf_4, N_X2_joinerOf_7, N_X2_joinerOf_8, N_X2_joinerOf_9_0, N_X2_joinerOf_9_1, N_X2_joinerOf_9_2, N_X2_joinerOf_9_3, N_X2_joinerOf_9_4, N_X2_joinerOf_9, N_X2_joinerOf_44, N_X2_joinerOf_45, N_X2_joinerOf_48, N_X2_joinerOf_51, N_X2_joinerOf_53, N_X2_joinerOf_56, N_X2_joinerOf_57, N_X2_joinerOf_58, N_X2_joinerOf_59, N_X2_joinerOf_62, N_X2_joinerOf_65, N_X2_joinerOf_67, N_X2_joinerOf_70, N_X2_joinerOf_71, N_X2_joinerOf_72, N_X2_joinerOf_73, N_X2_joinerOf_75, N_X2_joinerOf_78, N_X2_joinerOf_79, N_X2_joinerOf_82, N_X2_joinerOf_83, N_X2_joinerOf_85, N_X2_joinerOf_88, N_X2_joinerOf_89, N_X2_joinerOf_92, N_X2_joinerOf_93, N_X2_joinerOf_94, N_X2_joinerOf_95, N_X2_joinerOf_97, N_X2_joinerOf_100, N_X2_joinerOf_101, N_X2_joinerOf_104, N_X2_joinerOf_105, N_X2_joinerOf_107, N_X2_joinerOf_110, N_X2_joinerOf_111, N_X2_joinerOf_114, N_X2_joinerOf_115, N_X2_joinerOf_116, N_X2_joinerOf_117, if_true, if_false, ite_true, ite_false, not_false_eq_true, not_true_eq_false, isRf_ref, isRf_null, c1_int, c1_ref, c1_null, c1_none, rfv_some, rfv_none, Ok_s, tl_some, tl_none, List.nil_append, b2i_n1, b2i_n0, ↓reduceIte, nI_add, pk_mul, pk_sub, n_leT, n_leF, n_ltT, n_ltF, n_eqT, n_eqF, n_shl1, n_shl, n_shr, nI_and, nI_or, nI_xor, b2i_z, b2i_o, m1_n, n_m1, m1_lt, m1_le, n_lm1, n_em1, nI_m1, and1, and3, and7, and15, and63, and255, Bool.true_eq_false, Bool.false_eq_true, reduceCtorEq, Nat.reduceAdd, Nat.reduceMul, Nat.reduceSub, Nat.reduceDiv, Nat.reduceMod, Nat.reducePow, Nat.zero_add, Nat.one_mul, Nat.reduceEqDiff, c_kind, k42, k47, c, c2, nJ_0]
theorem c_compar (hT : TkC I tk vl ps m) (hp : p ≤ m) : callD xs Ln (d + 1) 13 [.int (I 18 p)] (mkW D J L) = some (mkW D J L, some (.int (nJ (cmpO (tk p))))) := by
  have k60 := hT.ke hp kx_60 (by decide) (by decide)
  have k62 := hT.ke hp kx_62 (by decide) (by decide)
  have k61 := hT.ke hp kx_61 (by decide) (by decide)
  refine Ok.eq ?_
  refine semG (lo := [some (.int (I 18 p))]) rfl rfl (Nat.le_of_ble_eq_true rfl) rfl (show G_X2_comparerOf xs Ln _ 0 [some (.int (I 18 p))] [] _ _ from ?_)
  unfold cmpO
  by_cases c : tk p = 160
  · simp (disch := first | omega | exact c1_int _ | exact c1_none | exact c1_ref _ | exact isRf_ref _ | assumption | exact okRb _ | exact okN1 | exact okN0 | exact rfl) only [N_X2_comparerOf_0, N_X2_comparerOf_1, N_X2_comparerOf_3, N_X2_comparerOf_6, N_X2_comparerOf_8, N_X2_comparerOf_11, N_X2_comparerOf_12, N_X2_comparerOf_14, N_X2_comparerOf_17, N_X2_comparerOf_19, N_X2_comparerOf_22, N_X2_comparerOf_23, N_X2_comparerOf_25, N_X2_comparerOf_28, N_X2_comparerOf_30, N_X2_comparerOf_33, N_X2_comparerOf_34, if_true, if_false, ite_true, ite_false, not_false_eq_true, not_true_eq_false, isRf_ref, isRf_null, c1_int, c1_ref, c1_null, c1_none, rfv_some, rfv_none, Ok_s, tl_some, tl_none, List.nil_append, b2i_n1, b2i_n0, ↓reduceIte, nI_add, pk_mul, pk_sub, n_leT, n_leF, n_ltT, n_ltF, n_eqT, n_eqF, n_shl1, n_shl, n_shr, nI_and, nI_or, nI_xor, b2i_z, b2i_o, m1_n, n_m1, m1_lt, m1_le, n_lm1, n_em1, nI_m1, and1, and3, and7, and15, and63, and255, Bool.true_eq_false, Bool.false_eq_true, reduceCtorEq, Nat.reduceAdd, Nat.reduceMul, Nat.reduceSub, Nat.reduceDiv, Nat.reduceMod, Nat.reducePow, Nat.zero_add, Nat.one_mul, Nat.reduceEqDiff, k60, c, nJ_n]
  · by_cases c2 : tk p = 162
    · simp (disch := first | omega | exact c1_int _ | exact c1_none | exact c1_ref _ | exact isRf_ref _ | assumption | exact okRb _ | exact okN1 | exact okN0 | exact rfl) only [N_X2_comparerOf_0, N_X2_comparerOf_1, N_X2_comparerOf_3, N_X2_comparerOf_6, N_X2_comparerOf_8, N_X2_comparerOf_11, N_X2_comparerOf_12, N_X2_comparerOf_14, N_X2_comparerOf_17, N_X2_comparerOf_19, N_X2_comparerOf_22, N_X2_comparerOf_23, N_X2_comparerOf_25, N_X2_comparerOf_28, N_X2_comparerOf_30, N_X2_comparerOf_33, N_X2_comparerOf_34, if_true, if_false, ite_true, ite_false, not_false_eq_true, not_true_eq_false, isRf_ref, isRf_null, c1_int, c1_ref, c1_null, c1_none, rfv_some, rfv_none, Ok_s, tl_some, tl_none, List.nil_append, b2i_n1, b2i_n0, ↓reduceIte, nI_add, pk_mul, pk_sub, n_leT, n_leF, n_ltT, n_ltF, n_eqT, n_eqF, n_shl1, n_shl, n_shr, nI_and, nI_or, nI_xor, b2i_z, b2i_o, m1_n, n_m1, m1_lt, m1_le, n_lm1, n_em1, nI_m1, and1, and3, and7, and15, and63, and255, Bool.true_eq_false, Bool.false_eq_true, reduceCtorEq, Nat.reduceAdd, Nat.reduceMul, Nat.reduceSub, Nat.reduceDiv, Nat.reduceMod, Nat.reducePow, Nat.zero_add, Nat.one_mul, Nat.reduceEqDiff, k60, k62, c2, nJ_n]
    · by_cases c3 : tk p = 161
      · simp (disch := first | omega | exact c1_int _ | exact c1_none | exact c1_ref _ | exact isRf_ref _ | assumption | exact okRb _ | exact okN1 | exact okN0 | exact rfl) only [N_X2_comparerOf_0, N_X2_comparerOf_1, N_X2_comparerOf_3, N_X2_comparerOf_6, N_X2_comparerOf_8, N_X2_comparerOf_11, N_X2_comparerOf_12, N_X2_comparerOf_14, N_X2_comparerOf_17, N_X2_comparerOf_19, N_X2_comparerOf_22, N_X2_comparerOf_23, N_X2_comparerOf_25, N_X2_comparerOf_28, N_X2_comparerOf_30, N_X2_comparerOf_33, N_X2_comparerOf_34, if_true, if_false, ite_true, ite_false, not_false_eq_true, not_true_eq_false, isRf_ref, isRf_null, c1_int, c1_ref, c1_null, c1_none, rfv_some, rfv_none, Ok_s, tl_some, tl_none, List.nil_append, b2i_n1, b2i_n0, ↓reduceIte, nI_add, pk_mul, pk_sub, n_leT, n_leF, n_ltT, n_ltF, n_eqT, n_eqF, n_shl1, n_shl, n_shr, nI_and, nI_or, nI_xor, b2i_z, b2i_o, m1_n, n_m1, m1_lt, m1_le, n_lm1, n_em1, nI_m1, and1, and3, and7, and15, and63, and255, Bool.true_eq_false, Bool.false_eq_true, reduceCtorEq, Nat.reduceAdd, Nat.reduceMul, Nat.reduceSub, Nat.reduceDiv, Nat.reduceMod, Nat.reducePow, Nat.zero_add, Nat.one_mul, Nat.reduceEqDiff, k60, k62, k61, c3, nJ_n]
      · simp (disch := first | omega | exact c1_int _ | exact c1_none | exact c1_ref _ | exact isRf_ref _ | assumption | exact okRb _ | exact okN1 | exact okN0 | exact rfl) only [N_X2_comparerOf_0, N_X2_comparerOf_1, N_X2_comparerOf_3, N_X2_comparerOf_6, N_X2_comparerOf_8, N_X2_comparerOf_11, N_X2_comparerOf_12, N_X2_comparerOf_14, N_X2_comparerOf_17, N_X2_comparerOf_19, N_X2_comparerOf_22, N_X2_comparerOf_23, N_X2_comparerOf_25, N_X2_comparerOf_28, N_X2_comparerOf_30, N_X2_comparerOf_33, N_X2_comparerOf_34, if_true, if_false, ite_true, ite_false, not_false_eq_true, not_true_eq_false, isRf_ref, isRf_null, c1_int, c1_ref, c1_null, c1_none, rfv_some, rfv_none, Ok_s, tl_some, tl_none, List.nil_append, b2i_n1, b2i_n0, ↓reduceIte, nI_add, pk_mul, pk_sub, n_leT, n_leF, n_ltT, n_ltF, n_eqT, n_eqF, n_shl1, n_shl, n_shr, nI_and, nI_or, nI_xor, b2i_z, b2i_o, m1_n, n_m1, m1_lt, m1_le, n_lm1, n_em1, nI_m1, and1, and3, and7, and15, and63, and255, Bool.true_eq_false, Bool.false_eq_true, reduceCtorEq, Nat.reduceAdd, Nat.reduceMul, Nat.reduceSub, Nat.reduceDiv, Nat.reduceMod, Nat.reducePow, Nat.zero_add, Nat.one_mul, Nat.reduceEqDiff, k60, k62, k61, c, c2, c3, nJ_0]
end CST
end Ph7
