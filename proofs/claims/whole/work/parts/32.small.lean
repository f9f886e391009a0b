section P32
variable {xs : Nat → Int32} {Ln d : Nat} {D : Dyn} {I : Nat → Nat → Int32} {L : Nat → Nat → Int64} {w : Om}
theorem up2_s {α : Type} (f : Nat → Nat → α) (k j : Nat) (v : α) : up2 f k j v k j = v := by simp [up2]
theorem up2_k {α : Type} (f : Nat → Nat → α) {k k' : Nat} (j j' : Nat) (v : α) (h : k' ≠ k) : up2 f k j v k' j' = f k' j' := by simp [up2, h]
theorem up2_j {α : Type} (f : Nat → Nat → α) (k : Nat) {j j' : Nat} (v : α) (h : j' ≠ j) : up2 f k j v k j' = f k j' := by simp [up2, h]
/-- what a refusal leaves: class -/
def rfC (I : Nat → Nat → Int32) (y : Int32) : Nat → Nat → Int32 := up2 (up2 I 0 12 y) 80 (-y).toNatClampNeg (I 80 (-y).toNatClampNeg + 1)
/-- what a refusal leaves: reference -/
def rfR (I : Nat → Nat → Int32) (y : Int32) : Nat → Nat → Int32 := up2 (up2 I 82 0 y) 83 (-y).toNatClampNeg (I 83 (-y).toNatClampNeg + 1)
/-- one of the answers of a refused call -/
def isRc (y : Int32) : Prop := y = -1 ∨ y = -2 ∨ y = -3 ∨ y = -5 ∨ y = -6
theorem c_refuse {y : Int32} (hy : isRc y) : callD xs Ln (d + 1) 137 [.ref 0, .int y] (mkW D I L) = some (mkW D (rfC I y) L, some (.int y)) := by
  refine semI (lo := [some (.ref 0), some (.int y), none]) rfl rfl (Nat.le_of_ble_eq_true rfl) rfl ?_
  rcases hy with rfl | rfl | rfl | rfl | rfl <;> simp [S_X10_refuse_0, S_X10_refuse_1, S_X10_refuse_2, S_X10_refuse_5, S_X10_refuse_6, S_X10_refuse_7, S_X10_refuse_8, S_X10_refuse_9, S_X10_refuse_12, S_X10_refuse_13, S_X10_refuse_14, S_X10_refuse_17, S_X10_refuse_18, S_X10_refuse_21, S_X10_refuse_22, S_X10_refuse_25, S_X10_refuse_26, S_X10_refuse_27, S_X10_refuse_28, S_X10_refuse_29, S_X10_refuse_30, S_X10_refuse_31, S_X10_refuse_32, if_true, if_false, ite_true, ite_false, not_false_eq_true, not_true_eq_false, isRf_ref, isRf_null, c1_int, c1_ref, c1_null, c1_none, rfv_some, rfv_none, aft_s, tl_some, tl_none, w_I, w_L, w_f, List.nil_append, okRb0, okRb1, okRb, Sum.inl.injEq, Prod.mk.injEq, i10, b2i_t, b2i_f, true_and, and_true, or_true, true_or, w_o0, w_p0_0, w_p0_1, w_p0_2, w_p0_3, w_p0_4, w_p0_5, w_p0_6, w_p0_7, w_p0_8, w_p0_9, w_p0_10, w_p0_11, w_h80, rfC, up2]
theorem r_refuses {y : Int32} (hy : isRc y) : callD xs Ln (d + 1) 156 [.ref 82, .int y] (mkW D I L) = some (mkW D (rfR I y) L, some (.int y)) := by
  refine semI (lo := [some (.ref 82), some (.int y)]) rfl rfl (Nat.le_of_ble_eq_true rfl) rfl ?_
  rcases hy with rfl | rfl | rfl | rfl | rfl <;> simp [S_X11_refuses_0, S_X11_refuses_1, S_X11_refuses_2, S_X11_refuses_5, S_X11_refuses_6, S_X11_refuses_9, S_X11_refuses_10, S_X11_refuses_11, S_X11_refuses_12, S_X11_refuses_13, S_X11_refuses_14, S_X11_refuses_15, S_X11_refuses_16, S_X11_refuses_17, if_true, if_false, ite_true, ite_false, not_false_eq_true, not_true_eq_false, isRf_ref, isRf_null, c1_int, c1_ref, c1_null, c1_none, rfv_some, rfv_none, aft_s, tl_some, tl_none, w_I, w_L, w_f, List.nil_append, okRb0, okRb1, okRb, Sum.inl.injEq, Prod.mk.injEq, i10, b2i_t, b2i_f, true_and, and_true, or_true, true_or, w_o82, w_p82_2, w_p82_3, w_p82_4, w_p82_5, w_p82_7, w_p82_8, w_p82_9, w_p82_12, w_p82_13, w_p82_14, w_p82_22, w_p82_25, w_p82_26, w_p82_30, w_p82_31, w_p82_32, w_p82_33, w_p82_37, w_p82_38, w_p82_40, w_h83, rfR, up2]
theorem b2i_ne (b : Bool) : ¬ b2i b = 0 ↔ b = true := by cases b <;> decide
theorem b2i_eq0 (b : Bool) : (b2i b = 0) = (b = false) := by cases b <;> decide
theorem rc1 : isRc (-1) := Or.inl rfl
theorem rc2 : isRc (-2) := Or.inr (Or.inl rfl)
theorem rc3 : isRc (-3) := Or.inr (Or.inr (Or.inl rfl))
theorem rc5 : isRc (-5) := Or.inr (Or.inr (Or.inr (Or.inl rfl)))
theorem rc6 : isRc (-6) := Or.inr (Or.inr (Or.inr (Or.inr rfl)))
/-- granted: class, reference -/
def grC (I : Nat → Nat → Int32) : Nat → Nat → Int32 := up2 I 0 12 0
def grR (I : Nat → Nat → Int32) : Nat → Nat → Int32 := up2 (up2 I 82 0 0) 82 1 (I 82 1 + 1)
theorem c_doors {v : Int32} : callD xs Ln (d + 2) 91 [.ref 0, .int v] (mkW D I L) = if inN v 8 = true then some (mkW D (grC (up2 I 1 2 v)) L, some (.int (I 1 2))) else some (mkW D (rfC I (-1)) L, some (.int (-1))) := by
  cases h : inN v 8
  · refine semI (lo := [some (.ref 0), some (.int v), none]) rfl rfl (Nat.le_of_ble_eq_true rfl) rfl ?_
    simp [S_X10_doors_0, S_X10_doors_1, S_X10_doors_4, S_X10_doors_7, S_X10_doors_8, S_X10_doors_9, S_X10_doors_12, S_X10_doors_13, S_X10_doors_14, S_X10_doors_17, S_X10_doors_20, S_X10_doors_21, S_X10_doors_22, S_X10_doors_25, S_X10_doors_26, S_X10_doors_29, S_X10_doors_30, S_X10_doors_31, S_X10_doors_34, if_true, if_false, ite_true, ite_false, not_false_eq_true, not_true_eq_false, isRf_ref, isRf_null, c1_int, c1_ref, c1_null, c1_none, rfv_some, rfv_none, aft_s, tl_some, tl_none, w_I, w_L, w_f, List.nil_append, okRb0, okRb1, okRb, Sum.inl.injEq, Prod.mk.injEq, i10, b2i_t, b2i_f, true_and, and_true, or_true, true_or, w_o0, w_p0_0, w_p0_1, w_p0_2, w_p0_3, w_p0_4, w_p0_5, w_p0_6, w_p0_7, w_p0_8, w_p0_9, w_p0_10, w_p0_11, w_o1, w_p1_7, w_p1_8, w_p1_9, w_p1_10, w_p1_11, w_p1_12, w_p1_13, w_p1_14, w_p1_15, w_p1_16, c_isDoors, c_refuse rc1, h, b2i]
  · refine semI (lo := [some (.ref 0), some (.int v), none]) rfl rfl (Nat.le_of_ble_eq_true rfl) rfl ?_
    simp [S_X10_doors_0, S_X10_doors_1, S_X10_doors_4, S_X10_doors_7, S_X10_doors_8, S_X10_doors_9, S_X10_doors_12, S_X10_doors_13, S_X10_doors_14, S_X10_doors_17, S_X10_doors_20, S_X10_doors_21, S_X10_doors_22, S_X10_doors_25, S_X10_doors_26, S_X10_doors_29, S_X10_doors_30, S_X10_doors_31, S_X10_doors_34, if_true, if_false, ite_true, ite_false, not_false_eq_true, not_true_eq_false, isRf_ref, isRf_null, c1_int, c1_ref, c1_null, c1_none, rfv_some, rfv_none, aft_s, tl_some, tl_none, w_I, w_L, w_f, List.nil_append, okRb0, okRb1, okRb, Sum.inl.injEq, Prod.mk.injEq, i10, b2i_t, b2i_f, true_and, and_true, or_true, true_or, w_o0, w_p0_0, w_p0_1, w_p0_2, w_p0_3, w_p0_4, w_p0_5, w_p0_6, w_p0_7, w_p0_8, w_p0_9, w_p0_10, w_p0_11, w_o1, w_p1_7, w_p1_8, w_p1_9, w_p1_10, w_p1_11, w_p1_12, w_p1_13, w_p1_14, w_p1_15, w_p1_16, c_isDoors, c_grant, h, b2i, grC]
theorem r_doors {v : Int32} : callD xs Ln (d + 3) 173 [.ref 82, .int v] (mkW D I L) = if inR v 0 7 = true then some (mkW D (grR (up2 I 84 4327 v)) L, some (.int (I 84 4327))) else some (mkW D (rfR I (-1)) L, some (.int (-1))) := by
  have hb : ¬ ((4327 : Int32) < 0 ∨ 9134 ≤ (4327 : Int32).toNatClampNeg) := by decide
  cases h : inR v 0 7
  · refine semI (lo := [some (.ref 82), some (.int v)]) rfl rfl (Nat.le_of_ble_eq_true rfl) rfl ?_
    simp [S_X11_doors_0, S_X11_doors_1, S_X11_doors_2, S_X11_doors_4, S_X11_doors_7, S_X11_doors_10, S_X11_doors_11, S_X11_doors_14, S_X11_doors_15, S_X11_doors_18, S_X11_doors_21, S_X11_doors_22, S_X11_doors_23, S_X11_doors_26, if_true, if_false, ite_true, ite_false, not_false_eq_true, not_true_eq_false, isRf_ref, isRf_null, c1_int, c1_ref, c1_null, c1_none, rfv_some, rfv_none, aft_s, tl_some, tl_none, w_I, w_L, w_f, List.nil_append, okRb0, okRb1, okRb, Sum.inl.injEq, Prod.mk.injEq, i10, b2i_t, b2i_f, true_and, and_true, or_true, true_or, w_o82, w_p82_2, w_p82_3, w_p82_4, w_p82_5, w_p82_7, w_p82_8, w_p82_9, w_p82_12, w_p82_13, w_p82_14, w_p82_22, w_p82_25, w_p82_26, w_p82_30, w_p82_31, w_p82_32, w_p82_33, w_p82_37, w_p82_38, w_p82_40, c_lies, r_refuses rc1, h, b2i]
  · refine semI (lo := [some (.ref 82), some (.int v)]) rfl rfl (Nat.le_of_ble_eq_true rfl) rfl ?_
    simp [S_X11_doors_0, S_X11_doors_1, S_X11_doors_2, S_X11_doors_4, S_X11_doors_7, S_X11_doors_10, S_X11_doors_11, S_X11_doors_14, S_X11_doors_15, S_X11_doors_18, S_X11_doors_21, S_X11_doors_22, S_X11_doors_23, S_X11_doors_26, if_true, if_false, ite_true, ite_false, not_false_eq_true, not_true_eq_false, isRf_ref, isRf_null, c1_int, c1_ref, c1_null, c1_none, rfv_some, rfv_none, aft_s, tl_some, tl_none, w_I, w_L, w_f, List.nil_append, okRb0, okRb1, okRb, Sum.inl.injEq, Prod.mk.injEq, i10, b2i_t, b2i_f, true_and, and_true, or_true, true_or, w_o82, w_p82_2, w_p82_3, w_p82_4, w_p82_5, w_p82_7, w_p82_8, w_p82_9, w_p82_12, w_p82_13, w_p82_14, w_p82_22, w_p82_25, w_p82_26, w_p82_30, w_p82_31, w_p82_32, w_p82_33, w_p82_37, w_p82_38, w_p82_40, c_lies, c_replaces hb, h, b2i, grR, up2]
end P32
