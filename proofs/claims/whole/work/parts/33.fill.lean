section P33
variable {xs : Nat → Int32} {Ln d : Nat} {D : Dyn} {I : Nat → Nat → Int32} {L : Nat → Nat → Int64} {w : Om}
theorem n_le {a b : Nat} (ha : a < 2147483648) (hb : b < 2147483648) : (nI a ≤ nI b) = (a ≤ b) := propext (nI_leI ha hb)
theorem n_lt {a b : Nat} (ha : a < 2147483648) (hb : b < 2147483648) : (nI a < nI b) = (a < b) := propext (nI_ltI ha hb)
theorem n_eq {a b : Nat} (ha : a < 2147483648) (hb : b < 2147483648) : (nI a = nI b) = (a = b) := propext (nI_eq ha hb)
theorem n_cl {a : Nat} (ha : a < 2147483648) : (nI a).toNatClampNeg = a := nI_clamp ha
theorem n_bd {i n : Nat} (h : i < n) (hn : n < 2147483648) : ¬ (nI i < 0 ∨ n ≤ (nI i).toNatClampNeg) := nI_in h hn
theorem n_lit (n : Nat) : (OfNat.ofNat n : Int32) = nI n := rfl
/-- the first i cells of row k filled with v -/
def filR (I : Nat → Nat → Int32) (k i : Nat) (v : Int32) : Nat → Nat → Int32 := upr I k (fun j => if j < i then v else I k j)
theorem filR_0 (I : Nat → Nat → Int32) (k : Nat) (v : Int32) : filR I k 0 v = I := by
  funext k' j
  unfold filR upr
  by_cases h : k' = k
  · subst h; simp
  · simp [h]
theorem filR_s (I : Nat → Nat → Int32) (k i : Nat) (v : Int32) : up2 (filR I k i v) k i v = filR I k (i + 1) v := by
  funext k' j
  unfold filR upr up2
  by_cases h : k' = k
  · subst h
    by_cases h2 : j = i
    · subst h2; simp
    · by_cases h3 : j < i
      · simp [h2, h3, Nat.lt_succ_of_lt h3]
      · have h4 : ¬ j < i + 1 := by omega
        simp [h2, h3, h4]
  · simp [h]
theorem fill_loop {k n : Nat} {v : Int32} (hk : shF D k = .inl (.int, n)) (hn : n < 2147483648) : ∀ (m i : Nat), i + m = n → Ev T_J7_fill_53178 none xs Ln (callD xs Ln d) 5 [some (.ref k), some (.int v), some (.int (nI i)), some (.int (nI n))] [] (mkW D (filR I k i v) L) (mkW D (filR I k n v) L, none) := by
  have hk' : ∀ I' : Nat → Nat → Int32, oH (mkW D I' L) k = .inl (.int, n) := fun _ => hk
  intro m
  induction m with
  | zero =>
    intro i h
    have e : i = n := by omega
    subst e
    simp [S_J7_fill_53178_0, S_J7_fill_53178_1, S_J7_fill_53178_2, S_J7_fill_53178_3, S_J7_fill_53178_4, S_J7_fill_53178_5, S_J7_fill_53178_6, S_J7_fill_53178_7, S_J7_fill_53178_10, S_J7_fill_53178_11, S_J7_fill_53178_12, S_J7_fill_53178_13, S_J7_fill_53178_14, S_J7_fill_53178_17, S_J7_fill_53178_20, if_true, if_false, ite_true, ite_false, not_false_eq_true, not_true_eq_false, isRf_ref, isRf_null, c1_int, c1_ref, c1_null, c1_none, rfv_some, rfv_none, aft_s, tl_some, tl_none, w_I, w_L, w_f, List.nil_append, okRb0, okRb1, okRb, Sum.inl.injEq, Prod.mk.injEq, i10, b2i_t, b2i_f, true_and, and_true, or_true, true_or]
  | succ m ih =>
    intro i h
    have h1 : ¬ nI n ≤ nI i := by rw [n_le hn (by omega)]; omega
    have h2 := n_bd (show i < n by omega) hn
    rw [S_J7_fill_53178_5]
    simp only [S_J7_fill_53178_0, S_J7_fill_53178_1, S_J7_fill_53178_2, S_J7_fill_53178_3, S_J7_fill_53178_4, S_J7_fill_53178_6, S_J7_fill_53178_7, S_J7_fill_53178_10, S_J7_fill_53178_11, S_J7_fill_53178_12, S_J7_fill_53178_14, S_J7_fill_53178_17, S_J7_fill_53178_20, S_J7_fill_53178_13 (hk' _) h2, if_true, if_false, ite_true, ite_false, not_false_eq_true, not_true_eq_false, isRf_ref, isRf_null, c1_int, c1_ref, c1_null, c1_none, rfv_some, rfv_none, aft_s, tl_some, tl_none, w_I, w_L, w_f, List.nil_append, okRb0, okRb1, okRb, Sum.inl.injEq, Prod.mk.injEq, i10, b2i_t, b2i_f, true_and, and_true, or_true, true_or, h1, n_cl (show i < 2147483648 by omega), filR_s, nI_1]
    exact ih (i + 1) (by omega)
theorem c_fill {k n : Nat} {v : Int32} (hk : shF D k = .inl (.int, n)) (hn : n < 2147483648) : callD xs Ln (d + 1) 271 [.ref k, .int v] (mkW D I L) = some (mkW D (filR I k n v) L, none) := by
  refine semI (lo := [some (.ref k), some (.int v), none, none]) rfl rfl (Nat.le_of_ble_eq_true rfl) rfl ?_
  have hk' : oH (mkW D I L) k = .inl (.int, n) := hk
  simp only [S_J7_fill_53178_0, S_J7_fill_53178_1, S_J7_fill_53178_2, S_J7_fill_53178_3, S_J7_fill_53178_4, S_J7_fill_53178_6, S_J7_fill_53178_7, S_J7_fill_53178_10, S_J7_fill_53178_11, S_J7_fill_53178_12, S_J7_fill_53178_13, S_J7_fill_53178_14, S_J7_fill_53178_17, S_J7_fill_53178_20, if_true, if_false, ite_true, ite_false, not_false_eq_true, not_true_eq_false, isRf_ref, isRf_null, c1_int, c1_ref, c1_null, c1_none, rfv_some, rfv_none, aft_s, tl_some, tl_none, w_I, w_L, w_f, List.nil_append, okRb0, okRb1, okRb, Sum.inl.injEq, Prod.mk.injEq, i10, b2i_t, b2i_f, true_and, and_true, or_true, true_or, hk']
  have := fill_loop (xs := xs) (Ln := Ln) (d := d) (D := D) (I := I) (L := L) (v := v) hk hn n 0 (by omega)
  rw [filR_0] at this
  exact this
/-- forget(): the version, the three rows -/
def fgC (I : Nat → Nat → Int32) : Nat → Nat → Int32 := filR (filR (filR (up2 I 23 0 (I 23 0 + 1)) 26 16 0) 27 8 0) 28 8 0
theorem c_forget : callD xs Ln (d + 2) 40 [.ref 23] (mkW D I L) = some (mkW D (fgC I) L, none) := by
  refine semI (lo := [some (.ref 23)]) rfl rfl (Nat.le_of_ble_eq_true rfl) rfl ?_
  have h26 : shF D 26 = .inl (.int, 16) := rfl
  have h27 : shF D 27 = .inl (.int, 8) := rfl
  have h28 : shF D 28 = .inl (.int, 8) := rfl
  simp only [S_X5_forget_0, S_X5_forget_1, S_X5_forget_2, S_X5_forget_5, S_X5_forget_6, S_X5_forget_7, S_X5_forget_10, S_X5_forget_11, S_X5_forget_14, S_X5_forget_15, S_X5_forget_18, S_X5_forget_19, S_X5_forget_22, S_X5_forget_23, S_X5_forget_26, S_X5_forget_27, S_X5_forget_30, S_X5_forget_31, S_X5_forget_34, if_true, if_false, ite_true, ite_false, not_false_eq_true, not_true_eq_false, isRf_ref, isRf_null, c1_int, c1_ref, c1_null, c1_none, rfv_some, rfv_none, aft_s, tl_some, tl_none, w_I, w_L, w_f, List.nil_append, okRb0, okRb1, okRb, Sum.inl.injEq, Prod.mk.injEq, i10, b2i_t, b2i_f, true_and, and_true, or_true, true_or, w_o23, w_p23_1, w_p23_2, w_p23_3, w_p23_4, w_p23_5, w_p23_6, c_fill h26 (by decide), c_fill h27 (by decide), c_fill h28 (by decide), fgC]
end P33
