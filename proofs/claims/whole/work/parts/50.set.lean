section P50
variable {xs : Nat → Int32} {Ln d : Nat} {D : Dyn} {I : Nat → Nat → Int32} {L : Nat → Nat → Int64} {w : Om}
theorem tb_dm (s k : Nat) : s.testBit k = decide (s / 2 ^ k % 2 = 1) := Nat.testBit_eq_decide_div_mod_eq
theorem r_isIn {s k : Nat} (hs : s < 2147483648) (hk : k < 32) : callD xs Ln (d + 1) 158 [.int (nI s), .int (nI k)] w = some (w, some (.int (b2i (s.testBit k)))) := by
  rw [c_isIn]
  have h1 : nI s >>> (nI k &&& 31) = nI (s / 2 ^ k) := nI_shr hs hk
  have h2 : s / 2 ^ k < 2147483648 := Nat.lt_of_le_of_lt (Nat.div_le_self _ _) hs
  have h3 : (nI (s / 2 ^ k) &&& 1 = 1) = (s / 2 ^ k % 2 = 1) := by
    show (nI (s / 2 ^ k) &&& nI 1 = nI 1) = _
    rw [nI_and, and1, n_eq (by omega) (by decide)]
  rw [h1, tb_dm]
  simp only [h3]
/-- the image of a set -/
def im (f : Nat → Nat) (s : Nat) : Nat → Nat
  | 0 => 0
  | n + 1 => im f s n ||| (if s.testBit n = true then 2 ^ f n else 0)
theorem im_s (f : Nat → Nat) (s n : Nat) : im f s (n + 1) = im f s n ||| (if s.testBit n = true then 2 ^ f n else 0) := id rfl
theorem im_lt {f : Nat → Nat} {s N : Nat} : ∀ n, (∀ i, i < n → s.testBit i = true → f i < N) → im f s n < 2 ^ N
  | 0, _ => Nat.two_pow_pos N
  | n + 1, h => by
    rw [im_s]
    apply Nat.or_lt_two_pow (im_lt n (fun i hi => h i (by omega)))
    split
    · rename_i hb
      exact Nat.pow_lt_pow_right (by decide) (h n (by omega) hb)
    · exact Nat.two_pow_pos N
def tgt (g : Nat → Nat → Nat → Nat → Nat) (m w e b : Nat) : Nat := if m = 3 then g (b / 6) w e (b % 6) + 6 * (b / 6) else g (m - 1) w e b
def sbN (g : Nat → Nat → Nat → Nat → Nat) (m s w e : Nat) : Nat := im (tgt g m w e) s 12
theorem tb_lt {s k N : Nat} (h : s < 2 ^ N) (hb : s.testBit k = true) : k < N := by
  by_cases hk : k < N
  · exact hk
  · have := Nat.testBit_lt_two_pow (x := s) (i := k) (Nat.lt_of_lt_of_le h (pw_lt (by omega)))
    rw [this] at hb
    cases hb
theorem okS_bit {P m s b : Nat} (h : okS P m s = true) (hs : s < 4096) (hb : s.testBit b = true) : if m = 3 then P ≤ 6 ∧ b % 6 < P ∧ b < 12 else b < P := by
  have h12 : b < 12 := tb_lt (N := 12) hs hb
  unfold okS at h
  split at h
  · rename_i e
    rw [if_pos e]
    simp only [Bool.and_eq_true, decide_eq_true_eq] at h
    refine ⟨h.1.1, ?_, h12⟩
    by_cases h6 : b < 6
    · rw [Nat.mod_eq_of_lt h6]
      refine tb_lt h.1.2 ?_
      rw [show (64 : Nat) = 2 ^ 6 from rfl, Nat.testBit_mod_two_pow, hb]
      simp [h6]
    · have e2 : b % 6 = b - 6 := by omega
      rw [e2]
      refine tb_lt h.2 ?_
      rw [show (64 : Nat) = 2 ^ 6 from rfl, Nat.testBit_div_two_pow]
      rw [show b - 6 + 6 = b by omega]
      exact hb
  · rename_i e
    rw [if_neg e]
    simp only [decide_eq_true_eq] at h
    exact tb_lt h hb
/-- the rows of the reference's look -/
def RG (I : Nat → Nat → Int32) (g : Nat → Nat → Nat → Nat → Nat) (W P : Nat) : Prop := ∀ k w e p, k < 2 → w < W → e < 8 → p < P → I 94 (((8 * k + w) * 8 + e) * 12 + p) = nI (g k w e p)
theorem r_atN {a b c e : Nat} : callD xs Ln (d + 1) 212 [.ref 82, .int (nI a), .int (nI b), .int (nI c), .int (nI e)] w = some (w, some (.int (nI (((8 * a + b) * 8 + c) * 12 + e)))) := by
  rw [c_at]
  show some (w, some (Value.int (((nI 8 * nI a + nI b) * nI 8 + nI c) * nI 12 + nI e))) = _
  rw [pk_mul, nI_add, pk_mul, nI_add, pk_mul, nI_add]
theorem r_setBehind {g : Nat → Nat → Nat → Nat → Nat} {W P m s w e : Nat} (hG : RG I g W P) (hW : W ≤ 8) (hP : P ≤ 12) (hg : ∀ k w e p, k < 2 → w < W → e < 8 → p < P → g k w e p < P) (hm : 1 ≤ m) (hm3 : m ≤ 3) (hs : s < 4096) (hS : okS P m s = true) (hw : w < W) (he : e < 8) : callD xs Ln (d + 2) 218 [.ref 82, .int (nI m), .int (nI s), .int (nI w), .int (nI e)] (mkW D I L) = some (mkW D I L, some (.int (nI (sbN g m s w e)))) := by
  refine Ok.eq ?_
  refine semG (lo := [some (.ref 82), some (.int (nI m)), some (.int (nI s)), some (.int (nI w)), some (.int (nI e)), none, none, none, none]) rfl rfl (Nat.le_of_ble_eq_true rfl) rfl (show G_X11_setBehind xs Ln _ 0 [some (.ref 82), some (.int (nI m)), some (.int (nI s)), some (.int (nI w)), some (.int (nI e)), none, none, none, none] [] _ _ from ?_)
  simp (disch := first | omega | exact c1_int _ | exact c1_none | exact c1_ref _ | exact isRf_ref _ | assumption | exact okRb _ | exact okN1 | exact okN0 | exact rfl) only [N_X11_setBehind_0, N_X11_setBehind_1, N_X11_setBehind_3, N_X11_setBehind_4, N_X11_setBehind_8, N_X11_setBehind_10, N_X11_setBehind_13, N_X11_setBehind_14, N_X11_setBehind_16, N_X11_setBehind_19, N_X11_setBehind_22, N_X11_setBehind_25, N_X11_setBehind_26, N_X11_setBehind_27, N_X11_setBehind_30, N_X11_setBehind_32, N_X11_setBehind_34, N_X11_setBehind_35, N_X11_setBehind_38, N_X11_setBehind_39, N_X11_setBehind_40, N_X11_setBehind_41, N_X11_setBehind_43, N_X11_setBehind_44, N_X11_setBehind_45, N_X11_setBehind_48, N_X11_setBehind_50, N_X11_setBehind_52, N_X11_setBehind_53, N_X11_setBehind_56, N_X11_setBehind_58, N_X11_setBehind_60, N_X11_setBehind_62, N_X11_setBehind_63, N_X11_setBehind_64, N_X11_setBehind_67, N_X11_setBehind_68, N_X11_setBehind_70, N_X11_setBehind_71, N_X11_setBehind_73, N_X11_setBehind_75, N_X11_setBehind_78, N_X11_setBehind_79, N_X11_setBehind_80, N_X11_setBehind_81, N_X11_setBehind_84, N_X11_setBehind_86, N_X11_setBehind_88, N_X11_setBehind_89, N_X11_setBehind_92, N_X11_setBehind_93, N_X11_setBehind_94, N_X11_setBehind_95, N_X11_setBehind_96, N_X11_setBehind_98, N_X11_setBehind_101, N_X11_setBehind_104, N_X11_setBehind_106, if_true, if_false, ite_true, ite_false, not_false_eq_true, not_true_eq_false, isRf_ref, isRf_null, c1_int, c1_ref, c1_null, c1_none, rfv_some, rfv_none, Ok_s, tl_some, tl_none, List.nil_append, b2i_n1, b2i_n0]
  refine Lp (n := 12) (σ := Option Value × Option Value) (E := fun i u => G_X11_setBehind xs Ln (d + 1) 6 [some (.ref 82), some (.int (nI m)), some (.int (nI s)), some (.int (nI w)), some (.int (nI e)), some (.int (nI (im (tgt g m w e) s i))), some (.int (nI i)), u.1, u.2] [] (mkW D I L) _) (Inv := fun i u => c1 u.1 = true ∧ c1 u.2 = true) ?_ ?_ 0 (none, none) (by omega) ⟨rfl, rfl⟩
  · rintro ⟨u, u'⟩ ⟨hu, hu'⟩
    simp (disch := first | omega | exact c1_int _ | exact c1_none | exact c1_ref _ | exact isRf_ref _ | assumption | exact okRb _ | exact okN1 | exact okN0 | exact rfl) only [N_X11_setBehind_0, N_X11_setBehind_1, N_X11_setBehind_3, N_X11_setBehind_4, N_X11_setBehind_6, N_X11_setBehind_8, N_X11_setBehind_10, N_X11_setBehind_13, N_X11_setBehind_14, N_X11_setBehind_16, N_X11_setBehind_19, N_X11_setBehind_22, N_X11_setBehind_25, N_X11_setBehind_26, N_X11_setBehind_27, N_X11_setBehind_30, N_X11_setBehind_32, N_X11_setBehind_34, N_X11_setBehind_35, N_X11_setBehind_38, N_X11_setBehind_39, N_X11_setBehind_40, N_X11_setBehind_41, N_X11_setBehind_43, N_X11_setBehind_44, N_X11_setBehind_45, N_X11_setBehind_48, N_X11_setBehind_50, N_X11_setBehind_52, N_X11_setBehind_53, N_X11_setBehind_56, N_X11_setBehind_58, N_X11_setBehind_60, N_X11_setBehind_62, N_X11_setBehind_63, N_X11_setBehind_64, N_X11_setBehind_67, N_X11_setBehind_68, N_X11_setBehind_70, N_X11_setBehind_71, N_X11_setBehind_73, N_X11_setBehind_75, N_X11_setBehind_78, N_X11_setBehind_79, N_X11_setBehind_80, N_X11_setBehind_81, N_X11_setBehind_84, N_X11_setBehind_86, N_X11_setBehind_88, N_X11_setBehind_89, N_X11_setBehind_92, N_X11_setBehind_93, N_X11_setBehind_94, N_X11_setBehind_95, N_X11_setBehind_96, N_X11_setBehind_98, N_X11_setBehind_101, N_X11_setBehind_104, N_X11_setBehind_106, if_true, if_false, ite_true, ite_false, not_false_eq_true, not_true_eq_false, isRf_ref, isRf_null, c1_int, c1_ref, c1_null, c1_none, rfv_some, rfv_none, Ok_s, tl_some, tl_none, List.nil_append, b2i_n1, b2i_n0, ↓reduceIte, nI_add, pk_mul, pk_sub, n_leT, n_leF, n_ltT, n_ltF, n_eqT, n_eqF, n_shl1, n_shl, n_shr, nI_and, nI_or, nI_xor, b2i_z, b2i_o, m1_n, n_m1, m1_lt, m1_le, n_lm1, n_em1, nI_m1, and1, and3, and7, and15, and63, and255, Bool.true_eq_false, Bool.false_eq_true, reduceCtorEq, Nat.reduceAdd, Nat.reduceMul, Nat.reduceSub, Nat.reduceDiv, Nat.reduceMod, Nat.reducePow, Nat.zero_add, Nat.one_mul]
    rfl
  · rintro i ⟨u, u'⟩ hi ⟨hu, hu'⟩ ih
    rw [N_X11_setBehind_6]
    by_cases hb : s.testBit i = true
    · have h1 := okS_bit hS hs hb
      by_cases h3 : m = 3
      · subst h3
        rw [if_pos rfl] at h1
        have q := hG (i / 6) w e (i % 6) (by omega) hw he h1.2.1
        have q2 := hg (i / 6) w e (i % 6) (by omega) hw he h1.2.1
        simp (disch := first | omega | exact c1_int _ | exact c1_none | exact c1_ref _ | exact isRf_ref _ | assumption | exact okRb _ | exact okN1 | exact okN0 | exact rfl) only [N_X11_setBehind_0, N_X11_setBehind_1, N_X11_setBehind_3, N_X11_setBehind_4, N_X11_setBehind_8, N_X11_setBehind_10, N_X11_setBehind_13, N_X11_setBehind_14, N_X11_setBehind_16, N_X11_setBehind_19, N_X11_setBehind_22, N_X11_setBehind_25, N_X11_setBehind_26, N_X11_setBehind_27, N_X11_setBehind_30, N_X11_setBehind_32, N_X11_setBehind_34, N_X11_setBehind_35, N_X11_setBehind_38, N_X11_setBehind_39, N_X11_setBehind_40, N_X11_setBehind_41, N_X11_setBehind_43, N_X11_setBehind_44, N_X11_setBehind_45, N_X11_setBehind_48, N_X11_setBehind_50, N_X11_setBehind_52, N_X11_setBehind_53, N_X11_setBehind_56, N_X11_setBehind_58, N_X11_setBehind_60, N_X11_setBehind_62, N_X11_setBehind_63, N_X11_setBehind_64, N_X11_setBehind_67, N_X11_setBehind_68, N_X11_setBehind_70, N_X11_setBehind_71, N_X11_setBehind_73, N_X11_setBehind_75, N_X11_setBehind_78, N_X11_setBehind_79, N_X11_setBehind_80, N_X11_setBehind_81, N_X11_setBehind_84, N_X11_setBehind_86, N_X11_setBehind_88, N_X11_setBehind_89, N_X11_setBehind_92, N_X11_setBehind_93, N_X11_setBehind_94, N_X11_setBehind_95, N_X11_setBehind_96, N_X11_setBehind_98, N_X11_setBehind_101, N_X11_setBehind_104, N_X11_setBehind_106, if_true, if_false, ite_true, ite_false, not_false_eq_true, not_true_eq_false, isRf_ref, isRf_null, c1_int, c1_ref, c1_null, c1_none, rfv_some, rfv_none, Ok_s, tl_some, tl_none, List.nil_append, b2i_n1, b2i_n0, ↓reduceIte, nI_add, pk_mul, pk_sub, n_leT, n_leF, n_ltT, n_ltF, n_eqT, n_eqF, n_shl1, n_shl, n_shr, nI_and, nI_or, nI_xor, b2i_z, b2i_o, m1_n, n_m1, m1_lt, m1_le, n_lm1, n_em1, nI_m1, and1, and3, and7, and15, and63, and255, Bool.true_eq_false, Bool.false_eq_true, reduceCtorEq, Nat.reduceAdd, Nat.reduceMul, Nat.reduceSub, Nat.reduceDiv, Nat.reduceMod, Nat.reducePow, Nat.zero_add, Nat.one_mul, r_isIn, hb, r_atN, q]
        have := ih (some (.int (nI (i / 6))), some (.int (nI (i % 6)))) ⟨rfl, rfl⟩
        rw [im_s, if_pos hb] at this
        simp only [tgt, if_pos] at this ⊢
        exact this
      · rw [if_neg h3] at h1
        have q := hG (m - 1) w e i (by omega) hw he h1
        have q2 := hg (m - 1) w e i (by omega) hw he h1
        simp (disch := first | omega | exact c1_int _ | exact c1_none | exact c1_ref _ | exact isRf_ref _ | assumption | exact okRb _ | exact okN1 | exact okN0 | exact rfl) only [N_X11_setBehind_0, N_X11_setBehind_1, N_X11_setBehind_3, N_X11_setBehind_4, N_X11_setBehind_8, N_X11_setBehind_10, N_X11_setBehind_13, N_X11_setBehind_14, N_X11_setBehind_16, N_X11_setBehind_19, N_X11_setBehind_22, N_X11_setBehind_25, N_X11_setBehind_26, N_X11_setBehind_27, N_X11_setBehind_30, N_X11_setBehind_32, N_X11_setBehind_34, N_X11_setBehind_35, N_X11_setBehind_38, N_X11_setBehind_39, N_X11_setBehind_40, N_X11_setBehind_41, N_X11_setBehind_43, N_X11_setBehind_44, N_X11_setBehind_45, N_X11_setBehind_48, N_X11_setBehind_50, N_X11_setBehind_52, N_X11_setBehind_53, N_X11_setBehind_56, N_X11_setBehind_58, N_X11_setBehind_60, N_X11_setBehind_62, N_X11_setBehind_63, N_X11_setBehind_64, N_X11_setBehind_67, N_X11_setBehind_68, N_X11_setBehind_70, N_X11_setBehind_71, N_X11_setBehind_73, N_X11_setBehind_75, N_X11_setBehind_78, N_X11_setBehind_79, N_X11_setBehind_80, N_X11_setBehind_81, N_X11_setBehind_84, N_X11_setBehind_86, N_X11_setBehind_88, N_X11_setBehind_89, N_X11_setBehind_92, N_X11_setBehind_93, N_X11_setBehind_94, N_X11_setBehind_95, N_X11_setBehind_96, N_X11_setBehind_98, N_X11_setBehind_101, N_X11_setBehind_104, N_X11_setBehind_106, if_true, if_false, ite_true, ite_false, not_false_eq_true, not_true_eq_false, isRf_ref, isRf_null, c1_int, c1_ref, c1_null, c1_none, rfv_some, rfv_none, Ok_s, tl_some, tl_none, List.nil_append, b2i_n1, b2i_n0, ↓reduceIte, nI_add, pk_mul, pk_sub, n_leT, n_leF, n_ltT, n_ltF, n_eqT, n_eqF, n_shl1, n_shl, n_shr, nI_and, nI_or, nI_xor, b2i_z, b2i_o, m1_n, n_m1, m1_lt, m1_le, n_lm1, n_em1, nI_m1, and1, and3, and7, and15, and63, and255, Bool.true_eq_false, Bool.false_eq_true, reduceCtorEq, Nat.reduceAdd, Nat.reduceMul, Nat.reduceSub, Nat.reduceDiv, Nat.reduceMod, Nat.reducePow, Nat.zero_add, Nat.one_mul, r_isIn, hb, r_atN, q]
        have := ih (some (.int (nI (m - 1))), some (.int (nI i))) ⟨rfl, rfl⟩
        rw [im_s, if_pos hb] at this
        simp only [tgt, if_neg h3] at this ⊢
        exact this
    · have hb' : s.testBit i = false := by simpa using hb
      simp (disch := first | omega | exact c1_int _ | exact c1_none | exact c1_ref _ | exact isRf_ref _ | assumption | exact okRb _ | exact okN1 | exact okN0 | exact rfl) only [N_X11_setBehind_0, N_X11_setBehind_1, N_X11_setBehind_3, N_X11_setBehind_4, N_X11_setBehind_8, N_X11_setBehind_10, N_X11_setBehind_13, N_X11_setBehind_14, N_X11_setBehind_16, N_X11_setBehind_19, N_X11_setBehind_22, N_X11_setBehind_25, N_X11_setBehind_26, N_X11_setBehind_27, N_X11_setBehind_30, N_X11_setBehind_32, N_X11_setBehind_34, N_X11_setBehind_35, N_X11_setBehind_38, N_X11_setBehind_39, N_X11_setBehind_40, N_X11_setBehind_41, N_X11_setBehind_43, N_X11_setBehind_44, N_X11_setBehind_45, N_X11_setBehind_48, N_X11_setBehind_50, N_X11_setBehind_52, N_X11_setBehind_53, N_X11_setBehind_56, N_X11_setBehind_58, N_X11_setBehind_60, N_X11_setBehind_62, N_X11_setBehind_63, N_X11_setBehind_64, N_X11_setBehind_67, N_X11_setBehind_68, N_X11_setBehind_70, N_X11_setBehind_71, N_X11_setBehind_73, N_X11_setBehind_75, N_X11_setBehind_78, N_X11_setBehind_79, N_X11_setBehind_80, N_X11_setBehind_81, N_X11_setBehind_84, N_X11_setBehind_86, N_X11_setBehind_88, N_X11_setBehind_89, N_X11_setBehind_92, N_X11_setBehind_93, N_X11_setBehind_94, N_X11_setBehind_95, N_X11_setBehind_96, N_X11_setBehind_98, N_X11_setBehind_101, N_X11_setBehind_104, N_X11_setBehind_106, if_true, if_false, ite_true, ite_false, not_false_eq_true, not_true_eq_false, isRf_ref, isRf_null, c1_int, c1_ref, c1_null, c1_none, rfv_some, rfv_none, Ok_s, tl_some, tl_none, List.nil_append, b2i_n1, b2i_n0, ↓reduceIte, nI_add, pk_mul, pk_sub, n_leT, n_leF, n_ltT, n_ltF, n_eqT, n_eqF, n_shl1, n_shl, n_shr, nI_and, nI_or, nI_xor, b2i_z, b2i_o, m1_n, n_m1, m1_lt, m1_le, n_lm1, n_em1, nI_m1, and1, and3, and7, and15, and63, and255, Bool.true_eq_false, Bool.false_eq_true, reduceCtorEq, Nat.reduceAdd, Nat.reduceMul, Nat.reduceSub, Nat.reduceDiv, Nat.reduceMod, Nat.reducePow, Nat.zero_add, Nat.one_mul, r_isIn, hb']
      have := ih (u, u') ⟨hu, hu'⟩
      rw [im_s, if_neg hb, Nat.or_zero] at this
      exact this
/-- the place where all of a set are -/
def all3 (m s : Nat) : Nat := if m = 3 then (s % 64) ||| (s / 64) else s
def tgr (s : Nat) : Nat → Nat → Option Nat
  | _, 0 => none
  | i, n + 1 => if s = 2 ^ i then some i else tgr s (i + 1) n
def tog (m s : Nat) : Option Nat := tgr (all3 m s) 0 12
end P50
