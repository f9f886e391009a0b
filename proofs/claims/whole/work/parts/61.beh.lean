section P61
variable {xs : Nat → Int32} {Ln d : Nat} {D : Dyn} {I : Nat → Nat → Int32} {L : Nat → Nat → Int64} {w : Om}
/-! Stands: a set times 8 and the doors. -/
def dbA (a : Nat → Nat) (w e : Nat) : Nat := adn (e ||| a (12 + 2 * w)) (a (12 + 2 * w + 1))
def behA (a : Nat → Nat) (m st w : Nat) : Option Nat := if w < a 4321 ∧ brA a w (st % 8) = false then some (8 * sbN (goA a) m (st / 8) w (st % 8) + dbA a w (st % 8)) else none
def vSt (a : Nat → Nat) (m st : Nat) : Prop := st < 32768 ∧ okS (a 4320) m (st / 8) = true
def golA (m : Nat) (t : Option Nat) (st : Nat) : Bool := match tog m (st / 8) with
  | none => false
  | some p => match t with
    | none => true
    | some q => decide (p = q)
theorem adn_lt {a b n : Nat} (h : a < 2 ^ n) : adn a b < 2 ^ n := Nat.lt_of_le_of_lt Nat.and_le_left h
theorem dbA_lt {a : Nat → Nat} (hA : AW a) {w e : Nat} (hw : w < a 4321) (he : e < 8) : dbA a w e < 8 := by
  have h10 := (hA.2.2.2.2.2.2.2.2.2.1 w hw).1
  exact adn_lt (n := 3) (Nat.or_lt_two_pow (n := 3) he h10)
theorem im_tb (f : Nat → Nat) (s j : Nat) : ∀ n, (im f s n).testBit j = true → ∃ i, i < n ∧ s.testBit i = true ∧ f i = j
  | 0, h => by
    unfold im at h
    simp at h
  | n + 1, h => by
    rw [im_s, Nat.testBit_or] at h
    by_cases h1 : (im f s n).testBit j = true
    · obtain ⟨i, q1, q2, q3⟩ := im_tb f s j n h1
      exact ⟨i, by omega, q2, q3⟩
    · have h1' : (im f s n).testBit j = false := by simpa using h1
      rw [h1', Bool.false_or] at h
      by_cases hb : s.testBit n = true
      · rw [if_pos hb, Nat.testBit_two_pow] at h
        exact ⟨n, by omega, hb, by simpa using h⟩
      · rw [if_neg hb] at h
        simp at h
theorem lt_tb {s N : Nat} (h : ∀ j, s.testBit j = true → j < N) : s < 2 ^ N := by
  apply Nat.lt_pow_two_of_testBit
  intro i hi
  cases hb : s.testBit i
  · rfl
  · have := h i hb
    omega
theorem sb_ok {g : Nat → Nat → Nat → Nat → Nat} {W P m s w e : Nat} (hP : P ≤ 12) (hg : ∀ k w e p, k < 2 → w < W → e < 8 → p < P → g k w e p < P) (hm : 1 ≤ m) (hm3 : m ≤ 3) (hs : s < 4096) (hS : okS P m s = true) (hw : w < W) (he : e < 8) : sbN g m s w e < 4096 ∧ okS P m (sbN g m s w e) = true := by
  by_cases h3 : m = 3
  · subst h3
    have key : ∀ j, (sbN g 3 s w e).testBit j = true → P ≤ 6 ∧ ((j < P) ∨ (6 ≤ j ∧ j < 6 + P)) := by
      intro j hj
      obtain ⟨b, hb, hbt, hj2⟩ := im_tb _ _ _ _ hj
      have h1 := okS_bit hS hs hbt
      rw [if_pos rfl] at h1
      have hgl := hg (b / 6) w e (b % 6) (by omega) hw he h1.2.1
      unfold tgt at hj2
      rw [if_pos rfl] at hj2
      refine ⟨h1.1, ?_⟩
      generalize g (b / 6) w e (b % 6) = y at hgl hj2
      omega
    constructor
    · refine lt_tb (N := 12) (fun j hj => ?_)
      have := key j hj
      omega
    · have hP6 : P ≤ 6 := by
        unfold okS at hS
        simp at hS
        exact hS.1.1
      unfold okS
      simp only [if_true, Bool.and_eq_true, decide_eq_true_eq]
      refine ⟨⟨hP6, ?_⟩, ?_⟩
      · refine lt_tb (fun j hj => ?_)
        rw [show (64 : Nat) = 2 ^ 6 from rfl, Nat.testBit_mod_two_pow] at hj
        simp only [Bool.and_eq_true, decide_eq_true_eq] at hj
        have := key j hj.2
        omega
      · refine lt_tb (fun j hj => ?_)
        rw [show (64 : Nat) = 2 ^ 6 from rfl, Nat.testBit_div_two_pow] at hj
        have := key _ hj
        omega
  · have hlt : sbN g m s w e < 2 ^ P := by
      refine im_lt 12 (fun i hi hb => ?_)
      have h1 := okS_bit hS hs hb
      rw [if_neg h3] at h1
      unfold tgt
      rw [if_neg h3]
      exact hg (m - 1) w e i (by omega) hw he h1
    refine ⟨Nat.lt_of_lt_of_le hlt (pw_lt hP), ?_⟩
    unfold okS
    rw [if_neg h3]
    exact decide_eq_true hlt
theorem beh_v {a : Nat → Nat} (hA : AW a) {m st w st' : Nat} (hm : 1 ≤ m) (hm3 : m ≤ 3) (hv : vSt a m st) (h : behA a m st w = some st') : vSt a m st' ∧ w < a 4321 := by
  unfold behA at h
  split at h
  · rename_i hw
    cases h
    have h1 := sb_ok (g := goA a) (W := a 4321) (w := w) (e := st % 8) hA.1 (fun k w e p hk hw he hp => goA_lt hA hk hw hp) hm hm3 (show st / 8 < 4096 by have := hv.1; omega) hv.2 hw.1 (by omega)
    have h2 := dbA_lt hA hw.1 (show st % 8 < 8 by omega)
    refine ⟨⟨by omega, ?_⟩, hw.1⟩
    rw [show (8 * sbN (goA a) m (st / 8) w (st % 8) + dbA a w (st % 8)) / 8 = sbN (goA a) m (st / 8) w (st % 8) by omega]
    exact h1.2
  · cases h
theorem r_doorsB {a : Nat → Nat} {w e : Nat} (hK : RK I a) (hA : AW a) (hw : w < a 4321) (he : e < 8) : callD xs Ln (d + 1) 214 [.ref 82, .int (nI w), .int (nI e)] (mkW D I L) = some (mkW D I L, some (.int (nI (dbA a w e)))) := by
  have hw8 := hA.2.1
  have h10 := hA.2.2.2.2.2.2.2.2.2.1 w hw
  have e1 : (12 : Int32) + 2 * nI w = nI (12 + 2 * w) := by
    show nI 12 + nI 2 * nI w = _
    rw [pk_mul, nI_add]
  have b1 := n_bd (show 12 + 2 * w < 9134 by omega) (by decide)
  have b2 := n_bd (show 12 + 2 * w + 1 < 9134 by omega) (by decide)
  have hb1 : ¬ ((12 + 2 * nI w) < 0 ∨ 9134 ≤ (12 + 2 * nI w).toNatClampNeg) := by rw [e1]; exact b1
  have hb2 : ¬ ((12 + 2 * nI w + 1) < 0 ∨ 9134 ≤ (12 + 2 * nI w + 1).toNatClampNeg) := by rw [e1, nI_1]; exact b2
  rw [c_doorsBehindR hb1 hb2, e1, nI_1, n_cl (by omega), n_cl (by omega), hK.1 _ (by omega), hK.1 _ (by omega), nI_or]
  have h1 : e ||| a (12 + 2 * w) < 2 ^ 3 := Nat.or_lt_two_pow (n := 3) he h10.1
  have := n_adn (a := e ||| a (12 + 2 * w)) (b := a (12 + 2 * w + 1)) (by omega) (by omega)
  show some (mkW D I L, some (Value.int (nI (e ||| a (12 + 2 * w)) &&& (nI (a (12 + 2 * w + 1)) ^^^ m1)))) = _
  rw [this]
  rfl
theorem r_together {m s : Nat} (hm : m ≤ 3) (hs : s < 4096) : callD xs Ln (d + 1) 219 [.int (nI m), .int (nI s)] (mkW D I L) = some (mkW D I L, some (.int (nO (tog m s)))) := by
  refine Ok.eq ?_
  refine semG (lo := [some (.int (nI m)), some (.int (nI s)), none, none]) rfl rfl (Nat.le_of_ble_eq_true rfl) rfl (show G_X11_together xs Ln _ 0 [some (.int (nI m)), some (.int (nI s)), none, none] [] _ _ from ?_)
  have hal : all3 m s < 4096 := by
    unfold all3
    split
    · exact Nat.or_lt_two_pow (n := 12) (by omega) (by omega)
    · exact hs
  have loop : ∀ u : Nat, u = all3 m s → G_X11_together xs Ln (d) 21 [some (.int (nI m)), some (.int (nI s)), some (.int (nI u)), some (.int (nI 0))] [] (mkW D I L) (fun q => q = (mkW D I L, some (.int (nO (tog m s))))) := by
    intro u hu
    refine Lp (n := 12) (σ := Unit) (E := fun i _ => G_X11_together xs Ln (d) 21 [some (.int (nI m)), some (.int (nI s)), some (.int (nI u)), some (.int (nI i))] [] (mkW D I L) _) (Inv := fun i _ => tog m s = tgr u i (12 - i)) ?_ ?_ 0 () (by omega) (by rw [hu]; rfl)
    · intro _ h
      have h' : tog m s = none := h
      simp (disch := first | omega | exact c1_int _ | exact c1_none | exact c1_ref _ | exact isRf_ref _ | assumption | exact okRb _ | exact okN1 | exact okN0 | exact rfl) only [N_X11_together_0, N_X11_together_1, N_X11_together_2, N_X11_together_5, N_X11_together_6, N_X11_together_8, N_X11_together_9, N_X11_together_10, N_X11_together_12, N_X11_together_13, N_X11_together_14, N_X11_together_17, N_X11_together_18, N_X11_together_19, N_X11_together_20, N_X11_together_21, N_X11_together_22, N_X11_together_24, N_X11_together_27, N_X11_together_28, N_X11_together_29, N_X11_together_30, N_X11_together_31, N_X11_together_34, N_X11_together_35, N_X11_together_36, N_X11_together_39, N_X11_together_42, N_X11_together_43, if_true, if_false, ite_true, ite_false, not_false_eq_true, not_true_eq_false, isRf_ref, isRf_null, c1_int, c1_ref, c1_null, c1_none, rfv_some, rfv_none, Ok_s, tl_some, tl_none, List.nil_append, b2i_n1, b2i_n0, ↓reduceIte, nI_add, pk_mul, pk_sub, n_leT, n_leF, n_ltT, n_ltF, n_eqT, n_eqF, n_shl1, n_shl, n_shr, nI_and, nI_or, nI_xor, b2i_z, b2i_o, m1_n, n_m1, m1_lt, m1_le, n_lm1, n_em1, nI_m1, and1, and3, and7, and15, and63, and255, Bool.true_eq_false, Bool.false_eq_true, reduceCtorEq, Nat.reduceAdd, Nat.reduceMul, Nat.reduceSub, Nat.reduceDiv, Nat.reduceMod, Nat.reducePow, Nat.zero_add, Nat.one_mul]
      rw [h']
      rfl
    · intro i _ hi h ih
      have e1 : 12 - i = 12 - (i + 1) + 1 := by omega
      have hlt : 2 ^ i < 2 ^ 12 := Nat.pow_lt_pow_right (by decide) hi
      rw [e1] at h
      unfold tgr at h
      rw [N_X11_together_21]
      by_cases hu2 : u = 2 ^ i
      · rw [if_pos hu2] at h
        simp (disch := first | omega | exact c1_int _ | exact c1_none | exact c1_ref _ | exact isRf_ref _ | assumption | exact okRb _ | exact okN1 | exact okN0 | exact rfl) only [N_X11_together_0, N_X11_together_1, N_X11_together_2, N_X11_together_5, N_X11_together_6, N_X11_together_8, N_X11_together_9, N_X11_together_10, N_X11_together_12, N_X11_together_13, N_X11_together_14, N_X11_together_17, N_X11_together_18, N_X11_together_19, N_X11_together_20, N_X11_together_22, N_X11_together_24, N_X11_together_27, N_X11_together_28, N_X11_together_29, N_X11_together_30, N_X11_together_31, N_X11_together_34, N_X11_together_35, N_X11_together_36, N_X11_together_39, N_X11_together_42, N_X11_together_43, if_true, if_false, ite_true, ite_false, not_false_eq_true, not_true_eq_false, isRf_ref, isRf_null, c1_int, c1_ref, c1_null, c1_none, rfv_some, rfv_none, Ok_s, tl_some, tl_none, List.nil_append, b2i_n1, b2i_n0, ↓reduceIte, nI_add, pk_mul, pk_sub, n_leT, n_leF, n_ltT, n_ltF, n_eqT, n_eqF, n_shl1, n_shl, n_shr, nI_and, nI_or, nI_xor, b2i_z, b2i_o, m1_n, n_m1, m1_lt, m1_le, n_lm1, n_em1, nI_m1, and1, and3, and7, and15, and63, and255, Bool.true_eq_false, Bool.false_eq_true, reduceCtorEq, Nat.reduceAdd, Nat.reduceMul, Nat.reduceSub, Nat.reduceDiv, Nat.reduceMod, Nat.reducePow, Nat.zero_add, Nat.one_mul]
        rw [h]
        rfl
      · rw [if_neg hu2] at h
        simp (disch := first | omega | exact c1_int _ | exact c1_none | exact c1_ref _ | exact isRf_ref _ | assumption | exact okRb _ | exact okN1 | exact okN0 | exact rfl) only [N_X11_together_0, N_X11_together_1, N_X11_together_2, N_X11_together_5, N_X11_together_6, N_X11_together_8, N_X11_together_9, N_X11_together_10, N_X11_together_12, N_X11_together_13, N_X11_together_14, N_X11_together_17, N_X11_together_18, N_X11_together_19, N_X11_together_20, N_X11_together_22, N_X11_together_24, N_X11_together_27, N_X11_together_28, N_X11_together_29, N_X11_together_30, N_X11_together_31, N_X11_together_34, N_X11_together_35, N_X11_together_36, N_X11_together_39, N_X11_together_42, N_X11_together_43, if_true, if_false, ite_true, ite_false, not_false_eq_true, not_true_eq_false, isRf_ref, isRf_null, c1_int, c1_ref, c1_null, c1_none, rfv_some, rfv_none, Ok_s, tl_some, tl_none, List.nil_append, b2i_n1, b2i_n0, ↓reduceIte, nI_add, pk_mul, pk_sub, n_leT, n_leF, n_ltT, n_ltF, n_eqT, n_eqF, n_shl1, n_shl, n_shr, nI_and, nI_or, nI_xor, b2i_z, b2i_o, m1_n, n_m1, m1_lt, m1_le, n_lm1, n_em1, nI_m1, and1, and3, and7, and15, and63, and255, Bool.true_eq_false, Bool.false_eq_true, reduceCtorEq, Nat.reduceAdd, Nat.reduceMul, Nat.reduceSub, Nat.reduceDiv, Nat.reduceMod, Nat.reducePow, Nat.zero_add, Nat.one_mul]
        exact ih () h
  by_cases h3 : m = 3
  · subst h3
    simp (disch := first | omega | exact c1_int _ | exact c1_none | exact c1_ref _ | exact isRf_ref _ | assumption | exact okRb _ | exact okN1 | exact okN0 | exact rfl) only [N_X11_together_0, N_X11_together_1, N_X11_together_2, N_X11_together_5, N_X11_together_6, N_X11_together_8, N_X11_together_9, N_X11_together_10, N_X11_together_12, N_X11_together_13, N_X11_together_14, N_X11_together_17, N_X11_together_18, N_X11_together_19, N_X11_together_20, N_X11_together_22, N_X11_together_24, N_X11_together_27, N_X11_together_28, N_X11_together_29, N_X11_together_30, N_X11_together_31, N_X11_together_34, N_X11_together_35, N_X11_together_36, N_X11_together_39, N_X11_together_42, N_X11_together_43, if_true, if_false, ite_true, ite_false, not_false_eq_true, not_true_eq_false, isRf_ref, isRf_null, c1_int, c1_ref, c1_null, c1_none, rfv_some, rfv_none, Ok_s, tl_some, tl_none, List.nil_append, b2i_n1, b2i_n0, ↓reduceIte, nI_add, pk_mul, pk_sub, n_leT, n_leF, n_ltT, n_ltF, n_eqT, n_eqF, n_shl1, n_shl, n_shr, nI_and, nI_or, nI_xor, b2i_z, b2i_o, m1_n, n_m1, m1_lt, m1_le, n_lm1, n_em1, nI_m1, and1, and3, and7, and15, and63, and255, Bool.true_eq_false, Bool.false_eq_true, reduceCtorEq, Nat.reduceAdd, Nat.reduceMul, Nat.reduceSub, Nat.reduceDiv, Nat.reduceMod, Nat.reducePow, Nat.zero_add, Nat.one_mul]
    exact loop _ (by unfold all3; rw [if_pos rfl])
  · simp (disch := first | omega | exact c1_int _ | exact c1_none | exact c1_ref _ | exact isRf_ref _ | assumption | exact okRb _ | exact okN1 | exact okN0 | exact rfl) only [N_X11_together_0, N_X11_together_1, N_X11_together_2, N_X11_together_5, N_X11_together_6, N_X11_together_8, N_X11_together_9, N_X11_together_10, N_X11_together_12, N_X11_together_13, N_X11_together_14, N_X11_together_17, N_X11_together_18, N_X11_together_19, N_X11_together_20, N_X11_together_22, N_X11_together_24, N_X11_together_27, N_X11_together_28, N_X11_together_29, N_X11_together_30, N_X11_together_31, N_X11_together_34, N_X11_together_35, N_X11_together_36, N_X11_together_39, N_X11_together_42, N_X11_together_43, if_true, if_false, ite_true, ite_false, not_false_eq_true, not_true_eq_false, isRf_ref, isRf_null, c1_int, c1_ref, c1_null, c1_none, rfv_some, rfv_none, Ok_s, tl_some, tl_none, List.nil_append, b2i_n1, b2i_n0, ↓reduceIte, nI_add, pk_mul, pk_sub, n_leT, n_leF, n_ltT, n_ltF, n_eqT, n_eqF, n_shl1, n_shl, n_shr, nI_and, nI_or, nI_xor, b2i_z, b2i_o, m1_n, n_m1, m1_lt, m1_le, n_lm1, n_em1, nI_m1, and1, and3, and7, and15, and63, and255, Bool.true_eq_false, Bool.false_eq_true, reduceCtorEq, Nat.reduceAdd, Nat.reduceMul, Nat.reduceSub, Nat.reduceDiv, Nat.reduceMod, Nat.reducePow, Nat.zero_add, Nat.one_mul]
    exact loop _ (by unfold all3; rw [if_neg h3])
theorem tog_lt {m s p : Nat} (h : tog m s = some p) : p < 12 := by
  have : ∀ n i u, tgr u i n = some p → p < i + n := by
    intro n
    induction n with
    | zero => intro i u h; cases h
    | succ n ih =>
      intro i u h
      unfold tgr at h
      split at h
      · cases h
        omega
      · have := ih _ _ h
        omega
  have := this 12 0 _ h
  omega
theorem r_isGoal {m st : Nat} {t : Option Nat} (hm : m ≤ 3) (hs : st < 32768) (ht : ∀ q, t = some q → q < 12) : callD xs Ln (d + 2) 226 [.int (nI m), .int (nI st), .int (nO t)] (mkW D I L) = some (mkW D I L, some (.int (b2i (golA m t st)))) := by
  refine Ok.eq ?_
  refine semG (lo := [some (.int (nI m)), some (.int (nI st)), some (.int (nO t)), none]) rfl rfl (Nat.le_of_ble_eq_true rfl) rfl (show G_X11_isGoal xs Ln _ 0 [some (.int (nI m)), some (.int (nI st)), some (.int (nO t)), none] [] _ _ from ?_)
  simp (disch := first | omega | exact c1_int _ | exact c1_none | exact c1_ref _ | exact isRf_ref _ | assumption | exact okRb _ | exact okN1 | exact okN0 | exact rfl) only [N_X11_isGoal_0, N_X11_isGoal_1, N_X11_isGoal_2, N_X11_isGoal_4, N_X11_isGoal_5, N_X11_isGoal_8, N_X11_isGoal_9, N_X11_isGoal_10, N_X11_isGoal_11, N_X11_isGoal_14, N_X11_isGoal_15, N_X11_isGoal_16, N_X11_isGoal_19, N_X11_isGoal_20, N_X11_isGoal_21, N_X11_isGoal_24, N_X11_isGoal_25, N_X11_isGoal_28, N_X11_isGoal_29, if_true, if_false, ite_true, ite_false, not_false_eq_true, not_true_eq_false, isRf_ref, isRf_null, c1_int, c1_ref, c1_null, c1_none, rfv_some, rfv_none, Ok_s, tl_some, tl_none, List.nil_append, b2i_n1, b2i_n0, ↓reduceIte, nI_add, pk_mul, pk_sub, n_leT, n_leF, n_ltT, n_ltF, n_eqT, n_eqF, n_shl1, n_shl, n_shr, nI_and, nI_or, nI_xor, b2i_z, b2i_o, m1_n, n_m1, m1_lt, m1_le, n_lm1, n_em1, nI_m1, and1, and3, and7, and15, and63, and255, Bool.true_eq_false, Bool.false_eq_true, reduceCtorEq, Nat.reduceAdd, Nat.reduceMul, Nat.reduceSub, Nat.reduceDiv, Nat.reduceMod, Nat.reducePow, Nat.zero_add, Nat.one_mul, r_together]
  unfold golA
  cases htg : tog m (st / 8) with
  | none =>
    simp (disch := first | omega | exact c1_int _ | exact c1_none | exact c1_ref _ | exact isRf_ref _ | assumption | exact okRb _ | exact okN1 | exact okN0 | exact rfl) only [N_X11_isGoal_0, N_X11_isGoal_1, N_X11_isGoal_2, N_X11_isGoal_4, N_X11_isGoal_5, N_X11_isGoal_8, N_X11_isGoal_9, N_X11_isGoal_10, N_X11_isGoal_11, N_X11_isGoal_14, N_X11_isGoal_15, N_X11_isGoal_16, N_X11_isGoal_19, N_X11_isGoal_20, N_X11_isGoal_21, N_X11_isGoal_24, N_X11_isGoal_25, N_X11_isGoal_28, N_X11_isGoal_29, if_true, if_false, ite_true, ite_false, not_false_eq_true, not_true_eq_false, isRf_ref, isRf_null, c1_int, c1_ref, c1_null, c1_none, rfv_some, rfv_none, Ok_s, tl_some, tl_none, List.nil_append, b2i_n1, b2i_n0, ↓reduceIte, nI_add, pk_mul, pk_sub, n_leT, n_leF, n_ltT, n_ltF, n_eqT, n_eqF, n_shl1, n_shl, n_shr, nI_and, nI_or, nI_xor, b2i_z, b2i_o, m1_n, n_m1, m1_lt, m1_le, n_lm1, n_em1, nI_m1, and1, and3, and7, and15, and63, and255, Bool.true_eq_false, Bool.false_eq_true, reduceCtorEq, Nat.reduceAdd, Nat.reduceMul, Nat.reduceSub, Nat.reduceDiv, Nat.reduceMod, Nat.reducePow, Nat.zero_add, Nat.one_mul, nO_n]
  | some p =>
    have hp := tog_lt htg
    cases t with
    | none => simp (disch := first | omega | exact c1_int _ | exact c1_none | exact c1_ref _ | exact isRf_ref _ | assumption | exact okRb _ | exact okN1 | exact okN0 | exact rfl) only [N_X11_isGoal_0, N_X11_isGoal_1, N_X11_isGoal_2, N_X11_isGoal_4, N_X11_isGoal_5, N_X11_isGoal_8, N_X11_isGoal_9, N_X11_isGoal_10, N_X11_isGoal_11, N_X11_isGoal_14, N_X11_isGoal_15, N_X11_isGoal_16, N_X11_isGoal_19, N_X11_isGoal_20, N_X11_isGoal_21, N_X11_isGoal_24, N_X11_isGoal_25, N_X11_isGoal_28, N_X11_isGoal_29, if_true, if_false, ite_true, ite_false, not_false_eq_true, not_true_eq_false, isRf_ref, isRf_null, c1_int, c1_ref, c1_null, c1_none, rfv_some, rfv_none, Ok_s, tl_some, tl_none, List.nil_append, b2i_n1, b2i_n0, ↓reduceIte, nI_add, pk_mul, pk_sub, n_leT, n_leF, n_ltT, n_ltF, n_eqT, n_eqF, n_shl1, n_shl, n_shr, nI_and, nI_or, nI_xor, b2i_z, b2i_o, m1_n, n_m1, m1_lt, m1_le, n_lm1, n_em1, nI_m1, and1, and3, and7, and15, and63, and255, Bool.true_eq_false, Bool.false_eq_true, reduceCtorEq, Nat.reduceAdd, Nat.reduceMul, Nat.reduceSub, Nat.reduceDiv, Nat.reduceMod, Nat.reducePow, Nat.zero_add, Nat.one_mul, nO_n, nO_s]
    | some q =>
      have hq := ht q rfl
      by_cases hpq : p = q
      · subst hpq
        simp (disch := first | omega | exact c1_int _ | exact c1_none | exact c1_ref _ | exact isRf_ref _ | assumption | exact okRb _ | exact okN1 | exact okN0 | exact rfl) only [N_X11_isGoal_0, N_X11_isGoal_1, N_X11_isGoal_2, N_X11_isGoal_4, N_X11_isGoal_5, N_X11_isGoal_8, N_X11_isGoal_9, N_X11_isGoal_10, N_X11_isGoal_11, N_X11_isGoal_14, N_X11_isGoal_15, N_X11_isGoal_16, N_X11_isGoal_19, N_X11_isGoal_20, N_X11_isGoal_21, N_X11_isGoal_24, N_X11_isGoal_25, N_X11_isGoal_28, N_X11_isGoal_29, if_true, if_false, ite_true, ite_false, not_false_eq_true, not_true_eq_false, isRf_ref, isRf_null, c1_int, c1_ref, c1_null, c1_none, rfv_some, rfv_none, Ok_s, tl_some, tl_none, List.nil_append, b2i_n1, b2i_n0, ↓reduceIte, nI_add, pk_mul, pk_sub, n_leT, n_leF, n_ltT, n_ltF, n_eqT, n_eqF, n_shl1, n_shl, n_shr, nI_and, nI_or, nI_xor, b2i_z, b2i_o, m1_n, n_m1, m1_lt, m1_le, n_lm1, n_em1, nI_m1, and1, and3, and7, and15, and63, and255, Bool.true_eq_false, Bool.false_eq_true, reduceCtorEq, Nat.reduceAdd, Nat.reduceMul, Nat.reduceSub, Nat.reduceDiv, Nat.reduceMod, Nat.reducePow, Nat.zero_add, Nat.one_mul, nO_s, decide_true]
      · simp (disch := first | omega | exact c1_int _ | exact c1_none | exact c1_ref _ | exact isRf_ref _ | assumption | exact okRb _ | exact okN1 | exact okN0 | exact rfl) only [N_X11_isGoal_0, N_X11_isGoal_1, N_X11_isGoal_2, N_X11_isGoal_4, N_X11_isGoal_5, N_X11_isGoal_8, N_X11_isGoal_9, N_X11_isGoal_10, N_X11_isGoal_11, N_X11_isGoal_14, N_X11_isGoal_15, N_X11_isGoal_16, N_X11_isGoal_19, N_X11_isGoal_20, N_X11_isGoal_21, N_X11_isGoal_24, N_X11_isGoal_25, N_X11_isGoal_28, N_X11_isGoal_29, if_true, if_false, ite_true, ite_false, not_false_eq_true, not_true_eq_false, isRf_ref, isRf_null, c1_int, c1_ref, c1_null, c1_none, rfv_some, rfv_none, Ok_s, tl_some, tl_none, List.nil_append, b2i_n1, b2i_n0, ↓reduceIte, nI_add, pk_mul, pk_sub, n_leT, n_leF, n_ltT, n_ltF, n_eqT, n_eqF, n_shl1, n_shl, n_shr, nI_and, nI_or, nI_xor, b2i_z, b2i_o, m1_n, n_m1, m1_lt, m1_le, n_lm1, n_em1, nI_m1, and1, and3, and7, and15, and63, and255, Bool.true_eq_false, Bool.false_eq_true, reduceCtorEq, Nat.reduceAdd, Nat.reduceMul, Nat.reduceSub, Nat.reduceDiv, Nat.reduceMod, Nat.reducePow, Nat.zero_add, Nat.one_mul, nO_s, hpq, decide_false]
theorem r_behind {a : Nat → Nat} {m st w : Nat} (hK : RK I a) (hA : AW a) (hL : RLk I a) (hm : 1 ≤ m) (hm3 : m ≤ 3) (hv : vSt a m st) (hw : w < a 4321) : callD xs Ln (d + 3) 225 [.ref 82, .int (nI m), .int (nI st), .int (nI w)] (mkW D I L) = some (mkW D I L, some (.int (nO (behA a m st w)))) := by
  have hw8 := hA.2.1
  have hst := hv.1
  have hb := hL.b hw hw8 (show st % 8 < 8 by omega)
  refine Ok.eq ?_
  refine semG (lo := [some (.ref 82), some (.int (nI m)), some (.int (nI st)), some (.int (nI w)), none, none]) rfl rfl (Nat.le_of_ble_eq_true rfl) rfl (show G_X11_behind xs Ln _ 0 [some (.ref 82), some (.int (nI m)), some (.int (nI st)), some (.int (nI w)), none, none] [] _ _ from ?_)
  have hsb := r_setBehind (xs := xs) (Ln := Ln) (d := d) (D := D) (L := L) (hL.g hw8 hA.1) hw8 hA.1 (fun k w e p hk hw he hp => goA_lt hA hk hw hp) hm hm3 (show st / 8 < 4096 by omega) hv.2 hw (show st % 8 < 8 by omega)
  have hdb := r_doorsB (xs := xs) (Ln := Ln) (d := d + 1) (D := D) (L := L) hK hA hw (show st % 8 < 8 by omega)
  unfold behA
  cases hbr : brA a w (st % 8) with
  | true =>
    rw [hbr] at hb
    simp (disch := first | omega | exact c1_int _ | exact c1_none | exact c1_ref _ | exact isRf_ref _ | assumption | exact okRb _ | exact okN1 | exact okN0 | exact rfl) only [N_X11_behind_0, N_X11_behind_1, N_X11_behind_3, N_X11_behind_4, N_X11_behind_6, N_X11_behind_7, N_X11_behind_9, N_X11_behind_10, N_X11_behind_12, N_X11_behind_13, N_X11_behind_16, N_X11_behind_18, N_X11_behind_19, N_X11_behind_20, N_X11_behind_22, N_X11_behind_23, N_X11_behind_24, N_X11_behind_27, N_X11_behind_28, N_X11_behind_31, N_X11_behind_33, N_X11_behind_34, N_X11_behind_35, N_X11_behind_37, N_X11_behind_38, N_X11_behind_40, N_X11_behind_43, N_X11_behind_44, N_X11_behind_45, N_X11_behind_46, N_X11_behind_48, N_X11_behind_51, N_X11_behind_52, if_true, if_false, ite_true, ite_false, not_false_eq_true, not_true_eq_false, isRf_ref, isRf_null, c1_int, c1_ref, c1_null, c1_none, rfv_some, rfv_none, Ok_s, tl_some, tl_none, List.nil_append, b2i_n1, b2i_n0, ↓reduceIte, nI_add, pk_mul, pk_sub, n_leT, n_leF, n_ltT, n_ltF, n_eqT, n_eqF, n_shl1, n_shl, n_shr, nI_and, nI_or, nI_xor, b2i_z, b2i_o, m1_n, n_m1, m1_lt, m1_le, n_lm1, n_em1, nI_m1, and1, and3, and7, and15, and63, and255, Bool.true_eq_false, Bool.false_eq_true, reduceCtorEq, Nat.reduceAdd, Nat.reduceMul, Nat.reduceSub, Nat.reduceDiv, Nat.reduceMod, Nat.reducePow, Nat.zero_add, Nat.one_mul, hb]
    rw [if_neg (by simp)]
    rfl
  | false =>
    rw [hbr] at hb
    simp (disch := first | omega | exact c1_int _ | exact c1_none | exact c1_ref _ | exact isRf_ref _ | assumption | exact okRb _ | exact okN1 | exact okN0 | exact rfl) only [N_X11_behind_0, N_X11_behind_1, N_X11_behind_3, N_X11_behind_4, N_X11_behind_6, N_X11_behind_7, N_X11_behind_9, N_X11_behind_10, N_X11_behind_12, N_X11_behind_13, N_X11_behind_16, N_X11_behind_18, N_X11_behind_19, N_X11_behind_20, N_X11_behind_22, N_X11_behind_23, N_X11_behind_24, N_X11_behind_27, N_X11_behind_28, N_X11_behind_31, N_X11_behind_33, N_X11_behind_34, N_X11_behind_35, N_X11_behind_37, N_X11_behind_38, N_X11_behind_40, N_X11_behind_43, N_X11_behind_44, N_X11_behind_45, N_X11_behind_46, N_X11_behind_48, N_X11_behind_51, N_X11_behind_52, if_true, if_false, ite_true, ite_false, not_false_eq_true, not_true_eq_false, isRf_ref, isRf_null, c1_int, c1_ref, c1_null, c1_none, rfv_some, rfv_none, Ok_s, tl_some, tl_none, List.nil_append, b2i_n1, b2i_n0, ↓reduceIte, nI_add, pk_mul, pk_sub, n_leT, n_leF, n_ltT, n_ltF, n_eqT, n_eqF, n_shl1, n_shl, n_shr, nI_and, nI_or, nI_xor, b2i_z, b2i_o, m1_n, n_m1, m1_lt, m1_le, n_lm1, n_em1, nI_m1, and1, and3, and7, and15, and63, and255, Bool.true_eq_false, Bool.false_eq_true, reduceCtorEq, Nat.reduceAdd, Nat.reduceMul, Nat.reduceSub, Nat.reduceDiv, Nat.reduceMod, Nat.reducePow, Nat.zero_add, Nat.one_mul, hb, hsb, hdb]
    rw [if_pos ⟨hw, trivial⟩]
    rfl
theorem r_isTo {a : Nat → Nat} {v : Int32} (hK : RK I a) (hA : AW a) : callD xs Ln (d + 3) 229 [.ref 82, .int v] (mkW D I L) = some (mkW D I L, some (.int (b2i (decide (v = m1) || inN v (nI (a 4320)))))) := by
  have h1 := hA.1
  have hP := hK.2.2.1 4320 (by decide) (by decide) (by decide)
  refine Ok.eq ?_
  refine semG (lo := [some (.ref 82), some (.int v)]) rfl rfl (Nat.le_of_ble_eq_true rfl) rfl (show G_X11_isTo xs Ln _ 0 [some (.ref 82), some (.int v)] [] _ _ from ?_)
  by_cases hv : v = m1
  · subst hv
    simp (disch := first | omega | exact c1_int _ | exact c1_none | exact c1_ref _ | exact isRf_ref _ | assumption | exact okRb _ | exact okN1 | exact okN0 | exact rfl) only [N_X11_isTo_0, N_X11_isTo_1, N_X11_isTo_2, N_X11_isTo_5, N_X11_isTo_6, N_X11_isTo_7, N_X11_isTo_10, N_X11_isTo_13, N_X11_isTo_14, N_X11_isTo_17, N_X11_isTo_18, if_true, if_false, ite_true, ite_false, not_false_eq_true, not_true_eq_false, isRf_ref, isRf_null, c1_int, c1_ref, c1_null, c1_none, rfv_some, rfv_none, Ok_s, tl_some, tl_none, List.nil_append, b2i_n1, b2i_n0, ↓reduceIte, nI_add, pk_mul, pk_sub, n_leT, n_leF, n_ltT, n_ltF, n_eqT, n_eqF, n_shl1, n_shl, n_shr, nI_and, nI_or, nI_xor, b2i_z, b2i_o, m1_n, n_m1, m1_lt, m1_le, n_lm1, n_em1, nI_m1, and1, and3, and7, and15, and63, and255, Bool.true_eq_false, Bool.false_eq_true, reduceCtorEq, Nat.reduceAdd, Nat.reduceMul, Nat.reduceSub, Nat.reduceDiv, Nat.reduceMod, Nat.reducePow, Nat.zero_add, Nat.one_mul, decide_true, Bool.true_or]
  · have e1 : inR v 0 (nI (a 4320) - 1) = inN v (nI (a 4320)) := inR_inN (by omega)
    cases hin : inN v (nI (a 4320)) <;> simp (disch := first | omega | exact c1_int _ | exact c1_none | exact c1_ref _ | exact isRf_ref _ | assumption | exact okRb _ | exact okN1 | exact okN0 | exact rfl) only [N_X11_isTo_0, N_X11_isTo_1, N_X11_isTo_2, N_X11_isTo_5, N_X11_isTo_6, N_X11_isTo_7, N_X11_isTo_10, N_X11_isTo_13, N_X11_isTo_14, N_X11_isTo_17, N_X11_isTo_18, if_true, if_false, ite_true, ite_false, not_false_eq_true, not_true_eq_false, isRf_ref, isRf_null, c1_int, c1_ref, c1_null, c1_none, rfv_some, rfv_none, Ok_s, tl_some, tl_none, List.nil_append, b2i_n1, b2i_n0, ↓reduceIte, nI_add, pk_mul, pk_sub, n_leT, n_leF, n_ltT, n_ltF, n_eqT, n_eqF, n_shl1, n_shl, n_shr, nI_and, nI_or, nI_xor, b2i_z, b2i_o, m1_n, n_m1, m1_lt, m1_le, n_lm1, n_em1, nI_m1, and1, and3, and7, and15, and63, and255, Bool.true_eq_false, Bool.false_eq_true, reduceCtorEq, Nat.reduceAdd, Nat.reduceMul, Nat.reduceSub, Nat.reduceDiv, Nat.reduceMod, Nat.reducePow, Nat.zero_add, Nat.one_mul, c_isPlace, hP, e1, hin, hv, decide_false, Bool.false_or]
end P61
