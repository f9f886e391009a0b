section Pj3
variable {xs : Nat → Int32} {Ln d : Nat} {D D' D'' : Dyn} {I I' I'' J : Nat → Nat → Int32} {L : Nat → Nat → Int64} {w : Om} {Q : Res → Prop} {ow ow' ow'' ky ky' ky'' ln ln' ln'' a a' : Nat → Nat} {o be sr : Nat} {A A' : As} {nn : Nat}
theorem ir0 : isRf (.retAddr 0) = true := id rfl
def LQ (r : Res) : Prop := ∃ w', r = (w', some (.int 1)) ∧ oN w' ≤ 600000 ∧ oS w' ≤ 7302250
def LG (xs : Nat → Int32) (Ln pc t : Nat) (st : List Value) (w : Om) : Prop := ∃ r, Ev T_L_law (some .boolean) xs Ln (callD xs Ln 1000) pc [some (.retAddr 0), some (.ref 0), some (.ref 82), some (.int (nI (6 * t)))] st w r ∧ LQ r
theorem lc_0 {t : Nat} (hC : CI D I A t) (hR : RI I A t) (ht : 6 * t + 6 ≤ Ln) (hL : Ln ≤ 384) (K : ∀ D' I' L' A', CI D' I' A' (t + 1) → RI I' A' (t + 1) → LG xs Ln 18 (t + 1) [] (mkW D' I' L')) : LG xs Ln 33 t [.int 0] (mkW D I L) := by
  obtain ⟨D', I1, L1, I2, L2, hc, hr, hCI, hRI⟩ := both (d1 := 8) (d2 := 2) (n1 := 86) (n2 := 168) (as1 := [.ref 0, .int (xs (6 * t + 1))]) (as2 := [.ref 82, .int (xs (6 * t + 1))]) (A' := (nPlace A (xs (6 * t + 1))).1) (x := (nPlace A (xs (6 * t + 1))).2) hR (C_place (xs := xs) (Ln := Ln) (d := 0) (L := L) hC (by omega)) (fun D I L h => R_place (d := 0) h (by omega)) (by decide) (by decide)
  have hK := K D' I2 L2 _ hCI hRI
  unfold LG at hK ⊢
  have e6 : nI (6 * t) + 6 = nI (6 * (t + 1)) := nI_add (6 * t) 6
  have e1a : nI (6 * t) + 1 = nI (6 * t + 1) := nI_add (6 * t) 1
  have e1b : ¬ (nI (6 * t + 1) < 0 ∨ Ln ≤ 6 * t + 1) := by have := n_bd (i := 6 * t + 1) (n := Ln) (by omega) (by omega); rw [n_cl (by omega)] at this; exact this
  have e1c : (nI (6 * t + 1)).toNatClampNeg = 6 * t + 1 := n_cl (by omega)
  simp only [S_L_law_33_0, S_L_law_252, S_L_law_253, S_L_law_254, S_L_law_255, S_L_law_256, S_L_law_257, S_L_law_258, S_L_law_261, S_L_law_262, S_L_law_263, S_L_law_264, S_L_law_265, S_L_law_266, S_L_law_267, S_L_law_270, S_L_law_273, S_L_law_274, S_L_law_1785, S_L_law_1788, if_true, if_false, ite_true, ite_false, not_false_eq_true, not_true_eq_false, isRf_ref, isRf_null, c1_int, c1_ref, c1_null, c1_none, rfv_some, rfv_none, aft_s, tl_some, tl_none, w_I, w_L, w_f, List.nil_append, okRb0, okRb1, okRb, Sum.inl.injEq, Prod.mk.injEq, i10, b2i_t, b2i_f, true_and, and_true, or_true, true_or, o10, o11, ir0, hc, hr, e6, e1a, e1b, e1c]
  exact hK
theorem lc_1 {t : Nat} (hC : CI D I A t) (hR : RI I A t) (ht : 6 * t + 6 ≤ Ln) (hL : Ln ≤ 384) (K : ∀ D' I' L' A', CI D' I' A' (t + 1) → RI I' A' (t + 1) → LG xs Ln 18 (t + 1) [] (mkW D' I' L')) : LG xs Ln 33 t [.int 1] (mkW D I L) := by
  obtain ⟨D', I1, L1, I2, L2, hc, hr, hCI, hRI⟩ := both (d1 := 8) (d2 := 3) (n1 := 87) (n2 := 169) (as1 := [.ref 0, .int (xs (6 * t + 1)), .int (xs (6 * t + 2))]) (as2 := [.ref 82, .int (xs (6 * t + 1)), .int (xs (6 * t + 2))]) (A' := (nPaint A (xs (6 * t + 1)) (xs (6 * t + 2))).1) (x := (nPaint A (xs (6 * t + 1)) (xs (6 * t + 2))).2) hR (C_paint (xs := xs) (Ln := Ln) (d := 0) (L := L) hC (by omega)) (fun D I L h => R_paint (d := 0) h (by omega)) (by decide) (by decide)
  have hK := K D' I2 L2 _ hCI hRI
  unfold LG at hK ⊢
  have e6 : nI (6 * t) + 6 = nI (6 * (t + 1)) := nI_add (6 * t) 6
  have e1a : nI (6 * t) + 1 = nI (6 * t + 1) := nI_add (6 * t) 1
  have e1b : ¬ (nI (6 * t + 1) < 0 ∨ Ln ≤ 6 * t + 1) := by have := n_bd (i := 6 * t + 1) (n := Ln) (by omega) (by omega); rw [n_cl (by omega)] at this; exact this
  have e1c : (nI (6 * t + 1)).toNatClampNeg = 6 * t + 1 := n_cl (by omega)
  have e2a : nI (6 * t) + 2 = nI (6 * t + 2) := nI_add (6 * t) 2
  have e2b : ¬ (nI (6 * t + 2) < 0 ∨ Ln ≤ 6 * t + 2) := by have := n_bd (i := 6 * t + 2) (n := Ln) (by omega) (by omega); rw [n_cl (by omega)] at this; exact this
  have e2c : (nI (6 * t + 2)).toNatClampNeg = 6 * t + 2 := n_cl (by omega)
  simp only [S_L_law_33_1, S_L_law_275, S_L_law_276, S_L_law_277, S_L_law_278, S_L_law_279, S_L_law_280, S_L_law_281, S_L_law_282, S_L_law_283, S_L_law_284, S_L_law_285, S_L_law_286, S_L_law_289, S_L_law_290, S_L_law_291, S_L_law_292, S_L_law_293, S_L_law_294, S_L_law_295, S_L_law_296, S_L_law_297, S_L_law_298, S_L_law_299, S_L_law_300, S_L_law_303, S_L_law_306, S_L_law_307, S_L_law_1785, S_L_law_1788, if_true, if_false, ite_true, ite_false, not_false_eq_true, not_true_eq_false, isRf_ref, isRf_null, c1_int, c1_ref, c1_null, c1_none, rfv_some, rfv_none, aft_s, tl_some, tl_none, w_I, w_L, w_f, List.nil_append, okRb0, okRb1, okRb, Sum.inl.injEq, Prod.mk.injEq, i10, b2i_t, b2i_f, true_and, and_true, or_true, true_or, o10, o11, ir0, hc, hr, e6, e1a, e1b, e1c, e2a, e2b, e2c]
  exact hK
theorem lc_2 {t : Nat} (hC : CI D I A t) (hR : RI I A t) (ht : 6 * t + 6 ≤ Ln) (hL : Ln ≤ 384) (K : ∀ D' I' L' A', CI D' I' A' (t + 1) → RI I' A' (t + 1) → LG xs Ln 18 (t + 1) [] (mkW D' I' L')) : LG xs Ln 33 t [.int 2] (mkW D I L) := by
  obtain ⟨D', I1, L1, I2, L2, hc, hr, hCI, hRI⟩ := both (d1 := 8) (d2 := 2) (n1 := 88) (n2 := 170) (as1 := [.ref 0, .int (xs (6 * t + 1)), .int (xs (6 * t + 2))]) (as2 := [.ref 82, .int (xs (6 * t + 1)), .int (xs (6 * t + 2))]) (A' := (nWord A (xs (6 * t + 1)) (xs (6 * t + 2))).1) (x := (nWord A (xs (6 * t + 1)) (xs (6 * t + 2))).2) hR (C_word (xs := xs) (Ln := Ln) (d := 0) (L := L) hC (by omega)) (fun D I L h => R_word (d := 0) h (by omega)) (by decide) (by decide)
  have hK := K D' I2 L2 _ hCI hRI
  unfold LG at hK ⊢
  have e6 : nI (6 * t) + 6 = nI (6 * (t + 1)) := nI_add (6 * t) 6
  have e1a : nI (6 * t) + 1 = nI (6 * t + 1) := nI_add (6 * t) 1
  have e1b : ¬ (nI (6 * t + 1) < 0 ∨ Ln ≤ 6 * t + 1) := by have := n_bd (i := 6 * t + 1) (n := Ln) (by omega) (by omega); rw [n_cl (by omega)] at this; exact this
  have e1c : (nI (6 * t + 1)).toNatClampNeg = 6 * t + 1 := n_cl (by omega)
  have e2a : nI (6 * t) + 2 = nI (6 * t + 2) := nI_add (6 * t) 2
  have e2b : ¬ (nI (6 * t + 2) < 0 ∨ Ln ≤ 6 * t + 2) := by have := n_bd (i := 6 * t + 2) (n := Ln) (by omega) (by omega); rw [n_cl (by omega)] at this; exact this
  have e2c : (nI (6 * t + 2)).toNatClampNeg = 6 * t + 2 := n_cl (by omega)
  simp only [S_L_law_33_2, S_L_law_308, S_L_law_309, S_L_law_310, S_L_law_311, S_L_law_312, S_L_law_313, S_L_law_314, S_L_law_315, S_L_law_316, S_L_law_317, S_L_law_318, S_L_law_319, S_L_law_322, S_L_law_323, S_L_law_324, S_L_law_325, S_L_law_326, S_L_law_327, S_L_law_328, S_L_law_329, S_L_law_330, S_L_law_331, S_L_law_332, S_L_law_333, S_L_law_336, S_L_law_339, S_L_law_340, S_L_law_1785, S_L_law_1788, if_true, if_false, ite_true, ite_false, not_false_eq_true, not_true_eq_false, isRf_ref, isRf_null, c1_int, c1_ref, c1_null, c1_none, rfv_some, rfv_none, aft_s, tl_some, tl_none, w_I, w_L, w_f, List.nil_append, okRb0, okRb1, okRb, Sum.inl.injEq, Prod.mk.injEq, i10, b2i_t, b2i_f, true_and, and_true, or_true, true_or, o10, o11, ir0, hc, hr, e6, e1a, e1b, e1c, e2a, e2b, e2c]
  exact hK
theorem lc_3 {t : Nat} (hC : CI D I A t) (hR : RI I A t) (ht : 6 * t + 6 ≤ Ln) (hL : Ln ≤ 384) (K : ∀ D' I' L' A', CI D' I' A' (t + 1) → RI I' A' (t + 1) → LG xs Ln 18 (t + 1) [] (mkW D' I' L')) : LG xs Ln 33 t [.int 3] (mkW D I L) := by
  obtain ⟨D', I1, L1, I2, L2, hc, hr, hCI, hRI⟩ := both (d1 := 8) (d2 := 3) (n1 := 89) (n2 := 171) (as1 := [.ref 0, .int (xs (6 * t + 1)), .int (xs (6 * t + 2)), .int (xs (6 * t + 3))]) (as2 := [.ref 82, .int (xs (6 * t + 1)), .int (xs (6 * t + 2)), .int (xs (6 * t + 3))]) (A' := (nLead A (xs (6 * t + 1)) (xs (6 * t + 2)) (xs (6 * t + 3))).1) (x := (nLead A (xs (6 * t + 1)) (xs (6 * t + 2)) (xs (6 * t + 3))).2) hR (C_lead (xs := xs) (Ln := Ln) (d := 0) (L := L) hC (by omega)) (fun D I L h => R_lead (d := 0) h (by omega)) (by decide) (by decide)
  have hK := K D' I2 L2 _ hCI hRI
  unfold LG at hK ⊢
  have e6 : nI (6 * t) + 6 = nI (6 * (t + 1)) := nI_add (6 * t) 6
  have e1a : nI (6 * t) + 1 = nI (6 * t + 1) := nI_add (6 * t) 1
  have e1b : ¬ (nI (6 * t + 1) < 0 ∨ Ln ≤ 6 * t + 1) := by have := n_bd (i := 6 * t + 1) (n := Ln) (by omega) (by omega); rw [n_cl (by omega)] at this; exact this
  have e1c : (nI (6 * t + 1)).toNatClampNeg = 6 * t + 1 := n_cl (by omega)
  have e2a : nI (6 * t) + 2 = nI (6 * t + 2) := nI_add (6 * t) 2
  have e2b : ¬ (nI (6 * t + 2) < 0 ∨ Ln ≤ 6 * t + 2) := by have := n_bd (i := 6 * t + 2) (n := Ln) (by omega) (by omega); rw [n_cl (by omega)] at this; exact this
  have e2c : (nI (6 * t + 2)).toNatClampNeg = 6 * t + 2 := n_cl (by omega)
  have e3a : nI (6 * t) + 3 = nI (6 * t + 3) := nI_add (6 * t) 3
  have e3b : ¬ (nI (6 * t + 3) < 0 ∨ Ln ≤ 6 * t + 3) := by have := n_bd (i := 6 * t + 3) (n := Ln) (by omega) (by omega); rw [n_cl (by omega)] at this; exact this
  have e3c : (nI (6 * t + 3)).toNatClampNeg = 6 * t + 3 := n_cl (by omega)
  simp only [S_L_law_33_3, S_L_law_341, S_L_law_342, S_L_law_343, S_L_law_344, S_L_law_345, S_L_law_346, S_L_law_347, S_L_law_348, S_L_law_349, S_L_law_350, S_L_law_351, S_L_law_352, S_L_law_353, S_L_law_354, S_L_law_355, S_L_law_356, S_L_law_357, S_L_law_360, S_L_law_361, S_L_law_362, S_L_law_363, S_L_law_364, S_L_law_365, S_L_law_366, S_L_law_367, S_L_law_368, S_L_law_369, S_L_law_370, S_L_law_371, S_L_law_372, S_L_law_373, S_L_law_374, S_L_law_375, S_L_law_376, S_L_law_379, S_L_law_382, S_L_law_383, S_L_law_1785, S_L_law_1788, if_true, if_false, ite_true, ite_false, not_false_eq_true, not_true_eq_false, isRf_ref, isRf_null, c1_int, c1_ref, c1_null, c1_none, rfv_some, rfv_none, aft_s, tl_some, tl_none, w_I, w_L, w_f, List.nil_append, okRb0, okRb1, okRb, Sum.inl.injEq, Prod.mk.injEq, i10, b2i_t, b2i_f, true_and, and_true, or_true, true_or, o10, o11, ir0, hc, hr, e6, e1a, e1b, e1c, e2a, e2b, e2c, e3a, e3b, e3c]
  exact hK
theorem lc_4 {t : Nat} (hC : CI D I A t) (hR : RI I A t) (ht : 6 * t + 6 ≤ Ln) (hL : Ln ≤ 384) (K : ∀ D' I' L' A', CI D' I' A' (t + 1) → RI I' A' (t + 1) → LG xs Ln 18 (t + 1) [] (mkW D' I' L')) : LG xs Ln 33 t [.int 4] (mkW D I L) := by
  obtain ⟨D', I1, L1, I2, L2, hc, hr, hCI, hRI⟩ := both (d1 := 8) (d2 := 3) (n1 := 90) (n2 := 172) (as1 := [.ref 0, .int (xs (6 * t + 1)), .int (xs (6 * t + 2)), .int (xs (6 * t + 3))]) (as2 := [.ref 82, .int (xs (6 * t + 1)), .int (xs (6 * t + 2)), .int (xs (6 * t + 3))]) (A' := (nHear A (xs (6 * t + 1)) (xs (6 * t + 2)) (xs (6 * t + 3))).1) (x := (nHear A (xs (6 * t + 1)) (xs (6 * t + 2)) (xs (6 * t + 3))).2) hR (C_hear (xs := xs) (Ln := Ln) (d := 0) (L := L) hC (by omega)) (fun D I L h => R_hear (d := 0) h (by omega)) (by decide) (by decide)
  have hK := K D' I2 L2 _ hCI hRI
  unfold LG at hK ⊢
  have e6 : nI (6 * t) + 6 = nI (6 * (t + 1)) := nI_add (6 * t) 6
  have e1a : nI (6 * t) + 1 = nI (6 * t + 1) := nI_add (6 * t) 1
  have e1b : ¬ (nI (6 * t + 1) < 0 ∨ Ln ≤ 6 * t + 1) := by have := n_bd (i := 6 * t + 1) (n := Ln) (by omega) (by omega); rw [n_cl (by omega)] at this; exact this
  have e1c : (nI (6 * t + 1)).toNatClampNeg = 6 * t + 1 := n_cl (by omega)
  have e2a : nI (6 * t) + 2 = nI (6 * t + 2) := nI_add (6 * t) 2
  have e2b : ¬ (nI (6 * t + 2) < 0 ∨ Ln ≤ 6 * t + 2) := by have := n_bd (i := 6 * t + 2) (n := Ln) (by omega) (by omega); rw [n_cl (by omega)] at this; exact this
  have e2c : (nI (6 * t + 2)).toNatClampNeg = 6 * t + 2 := n_cl (by omega)
  have e3a : nI (6 * t) + 3 = nI (6 * t + 3) := nI_add (6 * t) 3
  have e3b : ¬ (nI (6 * t + 3) < 0 ∨ Ln ≤ 6 * t + 3) := by have := n_bd (i := 6 * t + 3) (n := Ln) (by omega) (by omega); rw [n_cl (by omega)] at this; exact this
  have e3c : (nI (6 * t + 3)).toNatClampNeg = 6 * t + 3 := n_cl (by omega)
  simp only [S_L_law_33_4, S_L_law_384, S_L_law_385, S_L_law_386, S_L_law_387, S_L_law_388, S_L_law_389, S_L_law_390, S_L_law_391, S_L_law_392, S_L_law_393, S_L_law_394, S_L_law_395, S_L_law_396, S_L_law_397, S_L_law_398, S_L_law_399, S_L_law_400, S_L_law_403, S_L_law_404, S_L_law_405, S_L_law_406, S_L_law_407, S_L_law_408, S_L_law_409, S_L_law_410, S_L_law_411, S_L_law_412, S_L_law_413, S_L_law_414, S_L_law_415, S_L_law_416, S_L_law_417, S_L_law_418, S_L_law_419, S_L_law_422, S_L_law_425, S_L_law_426, S_L_law_1785, S_L_law_1788, if_true, if_false, ite_true, ite_false, not_false_eq_true, not_true_eq_false, isRf_ref, isRf_null, c1_int, c1_ref, c1_null, c1_none, rfv_some, rfv_none, aft_s, tl_some, tl_none, w_I, w_L, w_f, List.nil_append, okRb0, okRb1, okRb, Sum.inl.injEq, Prod.mk.injEq, i10, b2i_t, b2i_f, true_and, and_true, or_true, true_or, o10, o11, ir0, hc, hr, e6, e1a, e1b, e1c, e2a, e2b, e2c, e3a, e3b, e3c]
  exact hK
theorem lc_5 {t : Nat} (hC : CI D I A t) (hR : RI I A t) (ht : 6 * t + 6 ≤ Ln) (hL : Ln ≤ 384) (K : ∀ D' I' L' A', CI D' I' A' (t + 1) → RI I' A' (t + 1) → LG xs Ln 18 (t + 1) [] (mkW D' I' L')) : LG xs Ln 33 t [.int 5] (mkW D I L) := by
  obtain ⟨D', I1, L1, I2, L2, hc, hr, hCI, hRI⟩ := both (d1 := 8) (d2 := 3) (n1 := 91) (n2 := 173) (as1 := [.ref 0, .int (xs (6 * t + 1))]) (as2 := [.ref 82, .int (xs (6 * t + 1))]) (A' := (nDoors A (xs (6 * t + 1))).1) (x := (nDoors A (xs (6 * t + 1))).2) hR (C_doors (xs := xs) (Ln := Ln) (d := 0) (L := L) hC) (fun D I L h => R_doors (d := 0) h (by omega)) (by decide) (by decide)
  have hK := K D' I2 L2 _ hCI hRI
  unfold LG at hK ⊢
  have e6 : nI (6 * t) + 6 = nI (6 * (t + 1)) := nI_add (6 * t) 6
  have e1a : nI (6 * t) + 1 = nI (6 * t + 1) := nI_add (6 * t) 1
  have e1b : ¬ (nI (6 * t + 1) < 0 ∨ Ln ≤ 6 * t + 1) := by have := n_bd (i := 6 * t + 1) (n := Ln) (by omega) (by omega); rw [n_cl (by omega)] at this; exact this
  have e1c : (nI (6 * t + 1)).toNatClampNeg = 6 * t + 1 := n_cl (by omega)
  simp only [S_L_law_33_5, S_L_law_427, S_L_law_428, S_L_law_429, S_L_law_430, S_L_law_431, S_L_law_432, S_L_law_433, S_L_law_436, S_L_law_437, S_L_law_438, S_L_law_439, S_L_law_440, S_L_law_441, S_L_law_442, S_L_law_445, S_L_law_448, S_L_law_449, S_L_law_1785, S_L_law_1788, if_true, if_false, ite_true, ite_false, not_false_eq_true, not_true_eq_false, isRf_ref, isRf_null, c1_int, c1_ref, c1_null, c1_none, rfv_some, rfv_none, aft_s, tl_some, tl_none, w_I, w_L, w_f, List.nil_append, okRb0, okRb1, okRb, Sum.inl.injEq, Prod.mk.injEq, i10, b2i_t, b2i_f, true_and, and_true, or_true, true_or, o10, o11, ir0, hc, hr, e6, e1a, e1b, e1c]
  exact hK
theorem lc_6 {t : Nat} (hC : CI D I A t) (hR : RI I A t) (ht : 6 * t + 6 ≤ Ln) (hL : Ln ≤ 384) (K : ∀ D' I' L' A', CI D' I' A' (t + 1) → RI I' A' (t + 1) → LG xs Ln 18 (t + 1) [] (mkW D' I' L')) : LG xs Ln 33 t [.int 6] (mkW D I L) := by
  obtain ⟨D', I1, L1, I2, L2, hc, hr, hCI, hRI⟩ := both (d1 := 8) (d2 := 1) (n1 := 92) (n2 := 176) (as1 := [.ref 0, .int (xs (6 * t + 1)), .int (xs (6 * t + 2)), .int (xs (6 * t + 3)), .int (xs (6 * t + 4)), .int (xs (6 * t + 5))]) (as2 := [.ref 82, .int (xs (6 * t + 1)), .int (xs (6 * t + 2)), .int (xs (6 * t + 3)), .int (xs (6 * t + 4)), .int (xs (6 * t + 5))]) (A' := (nFeed A (xs (6 * t + 1)) (xs (6 * t + 2)) (xs (6 * t + 3)) (xs (6 * t + 4)) (xs (6 * t + 5))).1) (x := (nFeed A (xs (6 * t + 1)) (xs (6 * t + 2)) (xs (6 * t + 3)) (xs (6 * t + 4)) (xs (6 * t + 5))).2) hR (C_feed (xs := xs) (Ln := Ln) (d := 0) (L := L) hC) (fun D I L h => R_feed (d := 0) h) (by decide) (by decide)
  have hK := K D' I2 L2 _ hCI hRI
  unfold LG at hK ⊢
  have e6 : nI (6 * t) + 6 = nI (6 * (t + 1)) := nI_add (6 * t) 6
  have e1a : nI (6 * t) + 1 = nI (6 * t + 1) := nI_add (6 * t) 1
  have e1b : ¬ (nI (6 * t + 1) < 0 ∨ Ln ≤ 6 * t + 1) := by have := n_bd (i := 6 * t + 1) (n := Ln) (by omega) (by omega); rw [n_cl (by omega)] at this; exact this
  have e1c : (nI (6 * t + 1)).toNatClampNeg = 6 * t + 1 := n_cl (by omega)
  have e2a : nI (6 * t) + 2 = nI (6 * t + 2) := nI_add (6 * t) 2
  have e2b : ¬ (nI (6 * t + 2) < 0 ∨ Ln ≤ 6 * t + 2) := by have := n_bd (i := 6 * t + 2) (n := Ln) (by omega) (by omega); rw [n_cl (by omega)] at this; exact this
  have e2c : (nI (6 * t + 2)).toNatClampNeg = 6 * t + 2 := n_cl (by omega)
  have e3a : nI (6 * t) + 3 = nI (6 * t + 3) := nI_add (6 * t) 3
  have e3b : ¬ (nI (6 * t + 3) < 0 ∨ Ln ≤ 6 * t + 3) := by have := n_bd (i := 6 * t + 3) (n := Ln) (by omega) (by omega); rw [n_cl (by omega)] at this; exact this
  have e3c : (nI (6 * t + 3)).toNatClampNeg = 6 * t + 3 := n_cl (by omega)
  have e4a : nI (6 * t) + 4 = nI (6 * t + 4) := nI_add (6 * t) 4
  have e4b : ¬ (nI (6 * t + 4) < 0 ∨ Ln ≤ 6 * t + 4) := by have := n_bd (i := 6 * t + 4) (n := Ln) (by omega) (by omega); rw [n_cl (by omega)] at this; exact this
  have e4c : (nI (6 * t + 4)).toNatClampNeg = 6 * t + 4 := n_cl (by omega)
  have e5a : nI (6 * t) + 5 = nI (6 * t + 5) := nI_add (6 * t) 5
  have e5b : ¬ (nI (6 * t + 5) < 0 ∨ Ln ≤ 6 * t + 5) := by have := n_bd (i := 6 * t + 5) (n := Ln) (by omega) (by omega); rw [n_cl (by omega)] at this; exact this
  have e5c : (nI (6 * t + 5)).toNatClampNeg = 6 * t + 5 := n_cl (by omega)
  simp only [S_L_law_33_6, S_L_law_450, S_L_law_451, S_L_law_452, S_L_law_453, S_L_law_454, S_L_law_455, S_L_law_456, S_L_law_457, S_L_law_458, S_L_law_459, S_L_law_460, S_L_law_461, S_L_law_462, S_L_law_463, S_L_law_464, S_L_law_465, S_L_law_466, S_L_law_467, S_L_law_468, S_L_law_469, S_L_law_470, S_L_law_471, S_L_law_472, S_L_law_473, S_L_law_474, S_L_law_475, S_L_law_476, S_L_law_479, S_L_law_480, S_L_law_481, S_L_law_482, S_L_law_483, S_L_law_484, S_L_law_485, S_L_law_486, S_L_law_487, S_L_law_488, S_L_law_489, S_L_law_490, S_L_law_491, S_L_law_492, S_L_law_493, S_L_law_494, S_L_law_495, S_L_law_496, S_L_law_497, S_L_law_498, S_L_law_499, S_L_law_500, S_L_law_501, S_L_law_502, S_L_law_503, S_L_law_504, S_L_law_505, S_L_law_508, S_L_law_511, S_L_law_512, S_L_law_1785, S_L_law_1788, if_true, if_false, ite_true, ite_false, not_false_eq_true, not_true_eq_false, isRf_ref, isRf_null, c1_int, c1_ref, c1_null, c1_none, rfv_some, rfv_none, aft_s, tl_some, tl_none, w_I, w_L, w_f, List.nil_append, okRb0, okRb1, okRb, Sum.inl.injEq, Prod.mk.injEq, i10, b2i_t, b2i_f, true_and, and_true, or_true, true_or, o10, o11, ir0, hc, hr, e6, e1a, e1b, e1c, e2a, e2b, e2c, e3a, e3b, e3c, e4a, e4b, e4c, e5a, e5b, e5c]
  exact hK
theorem lc_7 {t : Nat} (hC : CI D I A t) (hR : RI I A t) (ht : 6 * t + 6 ≤ Ln) (hL : Ln ≤ 384) (K : ∀ D' I' L' A', CI D' I' A' (t + 1) → RI I' A' (t + 1) → LG xs Ln 18 (t + 1) [] (mkW D' I' L')) : LG xs Ln 33 t [.int 7] (mkW D I L) := by
  obtain ⟨D', I1, L1, I2, L2, hc, hr, hCI, hRI⟩ := both (d1 := 8) (d2 := 3) (n1 := 93) (n2 := 177) (as1 := [.ref 0, .int (xs (6 * t + 1))]) (as2 := [.ref 82, .int (xs (6 * t + 1))]) (A' := (nEnd A (xs (6 * t + 1))).1) (x := (nEnd A (xs (6 * t + 1))).2) hR (C_end (xs := xs) (Ln := Ln) (d := 0) (L := L) hC) (fun D I L h => R_end (d := 0) h) (by decide) (by decide)
  have hK := K D' I2 L2 _ hCI hRI
  unfold LG at hK ⊢
  have e6 : nI (6 * t) + 6 = nI (6 * (t + 1)) := nI_add (6 * t) 6
  have e1a : nI (6 * t) + 1 = nI (6 * t + 1) := nI_add (6 * t) 1
  have e1b : ¬ (nI (6 * t + 1) < 0 ∨ Ln ≤ 6 * t + 1) := by have := n_bd (i := 6 * t + 1) (n := Ln) (by omega) (by omega); rw [n_cl (by omega)] at this; exact this
  have e1c : (nI (6 * t + 1)).toNatClampNeg = 6 * t + 1 := n_cl (by omega)
  simp only [S_L_law_33_7, S_L_law_513, S_L_law_514, S_L_law_515, S_L_law_516, S_L_law_517, S_L_law_518, S_L_law_519, S_L_law_522, S_L_law_523, S_L_law_524, S_L_law_525, S_L_law_526, S_L_law_527, S_L_law_528, S_L_law_531, S_L_law_534, S_L_law_535, S_L_law_1785, S_L_law_1788, if_true, if_false, ite_true, ite_false, not_false_eq_true, not_true_eq_false, isRf_ref, isRf_null, c1_int, c1_ref, c1_null, c1_none, rfv_some, rfv_none, aft_s, tl_some, tl_none, w_I, w_L, w_f, List.nil_append, okRb0, okRb1, okRb, Sum.inl.injEq, Prod.mk.injEq, i10, b2i_t, b2i_f, true_and, and_true, or_true, true_or, o10, o11, ir0, hc, hr, e6, e1a, e1b, e1c]
  exact hK
theorem lc_8 {t : Nat} (hC : CI D I A t) (hR : RI I A t) (ht : 6 * t + 6 ≤ Ln) (hL : Ln ≤ 384) (K : ∀ D' I' L' A', CI D' I' A' (t + 1) → RI I' A' (t + 1) → LG xs Ln 18 (t + 1) [] (mkW D' I' L')) : LG xs Ln 33 t [.int 8] (mkW D I L) := by
  obtain ⟨D', I1, L1, I2, L2, hc, hr, hCI, hRI⟩ := both (d1 := 8) (d2 := 3) (n1 := 94) (n2 := 174) (as1 := [.ref 0, .int (xs (6 * t + 1))]) (as2 := [.ref 82, .int (xs (6 * t + 1))]) (A' := (nRow A (xs (6 * t + 1))).1) (x := (nRow A (xs (6 * t + 1))).2) hR (C_row (xs := xs) (Ln := Ln) (d := 0) (L := L) hC (by omega)) (fun D I L h => R_row (d := 0) h (by omega)) (by decide) (by decide)
  have hK := K D' I2 L2 _ hCI hRI
  unfold LG at hK ⊢
  have e6 : nI (6 * t) + 6 = nI (6 * (t + 1)) := nI_add (6 * t) 6
  have e1a : nI (6 * t) + 1 = nI (6 * t + 1) := nI_add (6 * t) 1
  have e1b : ¬ (nI (6 * t + 1) < 0 ∨ Ln ≤ 6 * t + 1) := by have := n_bd (i := 6 * t + 1) (n := Ln) (by omega) (by omega); rw [n_cl (by omega)] at this; exact this
  have e1c : (nI (6 * t + 1)).toNatClampNeg = 6 * t + 1 := n_cl (by omega)
  simp only [S_L_law_33_8, S_L_law_536, S_L_law_537, S_L_law_538, S_L_law_539, S_L_law_540, S_L_law_541, S_L_law_542, S_L_law_545, S_L_law_546, S_L_law_547, S_L_law_548, S_L_law_549, S_L_law_550, S_L_law_551, S_L_law_554, S_L_law_557, S_L_law_558, S_L_law_1785, S_L_law_1788, if_true, if_false, ite_true, ite_false, not_false_eq_true, not_true_eq_false, isRf_ref, isRf_null, c1_int, c1_ref, c1_null, c1_none, rfv_some, rfv_none, aft_s, tl_some, tl_none, w_I, w_L, w_f, List.nil_append, okRb0, okRb1, okRb, Sum.inl.injEq, Prod.mk.injEq, i10, b2i_t, b2i_f, true_and, and_true, or_true, true_or, o10, o11, ir0, hc, hr, e6, e1a, e1b, e1c]
  exact hK
theorem lc_9 {t : Nat} (hC : CI D I A t) (hR : RI I A t) (ht : 6 * t + 6 ≤ Ln) (hL : Ln ≤ 384) (K : ∀ D' I' L' A', CI D' I' A' (t + 1) → RI I' A' (t + 1) → LG xs Ln 18 (t + 1) [] (mkW D' I' L')) : LG xs Ln 33 t [.int 9] (mkW D I L) := by
  obtain ⟨D', I1, L1, I2, L2, hc, hr, hCI, hRI⟩ := both (d1 := 8) (d2 := 1) (n1 := 95) (n2 := 175) (as1 := [.ref 0]) (as2 := [.ref 82]) (A' := A) (x := nI (ssy A)) hR (C_stray (xs := xs) (Ln := Ln) (d := 0) (L := L) hC) (fun D I L h => R_stray (d := 0) h) (by decide) (by decide)
  have hK := K D' I2 L2 _ hCI hRI
  unfold LG at hK ⊢
  have e6 : nI (6 * t) + 6 = nI (6 * (t + 1)) := nI_add (6 * t) 6
  simp only [S_L_law_33_9, S_L_law_559, S_L_law_560, S_L_law_563, S_L_law_564, S_L_law_567, S_L_law_570, S_L_law_571, S_L_law_1785, S_L_law_1788, if_true, if_false, ite_true, ite_false, not_false_eq_true, not_true_eq_false, isRf_ref, isRf_null, c1_int, c1_ref, c1_null, c1_none, rfv_some, rfv_none, aft_s, tl_some, tl_none, w_I, w_L, w_f, List.nil_append, okRb0, okRb1, okRb, Sum.inl.injEq, Prod.mk.injEq, i10, b2i_t, b2i_f, true_and, and_true, or_true, true_or, o10, o11, ir0, hc, hr, e6]
  exact hK
theorem lc_10 {t : Nat} (hC : CI D I A t) (hR : RI I A t) (ht : 6 * t + 6 ≤ Ln) (hL : Ln ≤ 384) (K : ∀ D' I' L' A', CI D' I' A' (t + 1) → RI I' A' (t + 1) → LG xs Ln 18 (t + 1) [] (mkW D' I' L')) : LG xs Ln 33 t [.int 10] (mkW D I L) := by
  obtain ⟨D', I1, L1, I2, L2, hc, hr, hCI, hRI⟩ := both (d1 := 113) (d2 := 84) (n1 := 96) (n2 := 196) (as1 := [.ref 0]) (as2 := [.ref 82]) (A' := (nLaw A).1) (x := (nLaw A).2) hR (C_law (xs := xs) (Ln := Ln) (d := 0) (L := L) hC) (fun D I L h => R_law (d := 0) h (by omega)) (by decide) (by decide)
  have hK := K D' I2 L2 _ hCI hRI
  unfold LG at hK ⊢
  have e6 : nI (6 * t) + 6 = nI (6 * (t + 1)) := nI_add (6 * t) 6
  simp only [S_L_law_33_10, S_L_law_572, S_L_law_573, S_L_law_576, S_L_law_577, S_L_law_580, S_L_law_583, S_L_law_584, S_L_law_1785, S_L_law_1788, if_true, if_false, ite_true, ite_false, not_false_eq_true, not_true_eq_false, isRf_ref, isRf_null, c1_int, c1_ref, c1_null, c1_none, rfv_some, rfv_none, aft_s, tl_some, tl_none, w_I, w_L, w_f, List.nil_append, okRb0, okRb1, okRb, Sum.inl.injEq, Prod.mk.injEq, i10, b2i_t, b2i_f, true_and, and_true, or_true, true_or, o10, o11, ir0, hc, hr, e6]
  exact hK
theorem lc_11 {t : Nat} (hC : CI D I A t) (hR : RI I A t) (ht : 6 * t + 6 ≤ Ln) (hL : Ln ≤ 384) (K : ∀ D' I' L' A', CI D' I' A' (t + 1) → RI I' A' (t + 1) → LG xs Ln 18 (t + 1) [] (mkW D' I' L')) : LG xs Ln 33 t [.int 11] (mkW D I L) := by
  obtain ⟨D', I1, L1, I2, L2, hc, hr, hCI, hRI⟩ := both (d1 := 8) (d2 := 1) (n1 := 97) (n2 := 197) (as1 := [.ref 0]) (as2 := [.ref 82]) (A' := A) (x := nO (sfl A)) hR (C_fault (xs := xs) (Ln := Ln) (d := 0) (L := L) hC) (fun D I L h => R_fault (d := 0) h) (by decide) (by decide)
  have hK := K D' I2 L2 _ hCI hRI
  unfold LG at hK ⊢
  have e6 : nI (6 * t) + 6 = nI (6 * (t + 1)) := nI_add (6 * t) 6
  simp only [S_L_law_33_11, S_L_law_585, S_L_law_586, S_L_law_589, S_L_law_590, S_L_law_593, S_L_law_596, S_L_law_597, S_L_law_1785, S_L_law_1788, if_true, if_false, ite_true, ite_false, not_false_eq_true, not_true_eq_false, isRf_ref, isRf_null, c1_int, c1_ref, c1_null, c1_none, rfv_some, rfv_none, aft_s, tl_some, tl_none, w_I, w_L, w_f, List.nil_append, okRb0, okRb1, okRb, Sum.inl.injEq, Prod.mk.injEq, i10, b2i_t, b2i_f, true_and, and_true, or_true, true_or, o10, o11, ir0, hc, hr, e6]
  exact hK
theorem lc_12 {t : Nat} (hC : CI D I A t) (hR : RI I A t) (ht : 6 * t + 6 ≤ Ln) (hL : Ln ≤ 384) (K : ∀ D' I' L' A', CI D' I' A' (t + 1) → RI I' A' (t + 1) → LG xs Ln 18 (t + 1) [] (mkW D' I' L')) : LG xs Ln 33 t [.int 12] (mkW D I L) := by
  obtain ⟨D', I1, L1, I2, L2, hc, hr, hCI, hRI⟩ := both (d1 := 8) (d2 := 3) (n1 := 98) (n2 := 198) (as1 := [.ref 0, .int (xs (6 * t + 1))]) (as2 := [.ref 82, .int (xs (6 * t + 1))]) (A' := (nForce A (xs (6 * t + 1))).1) (x := (nForce A (xs (6 * t + 1))).2) hR (C_force (xs := xs) (Ln := Ln) (d := 0) (L := L) hC (by omega)) (fun D I L h => R_force (d := 0) h (by omega)) (by decide) (by decide)
  have hK := K D' I2 L2 _ hCI hRI
  unfold LG at hK ⊢
  have e6 : nI (6 * t) + 6 = nI (6 * (t + 1)) := nI_add (6 * t) 6
  have e1a : nI (6 * t) + 1 = nI (6 * t + 1) := nI_add (6 * t) 1
  have e1b : ¬ (nI (6 * t + 1) < 0 ∨ Ln ≤ 6 * t + 1) := by have := n_bd (i := 6 * t + 1) (n := Ln) (by omega) (by omega); rw [n_cl (by omega)] at this; exact this
  have e1c : (nI (6 * t + 1)).toNatClampNeg = 6 * t + 1 := n_cl (by omega)
  simp only [S_L_law_33_12, S_L_law_598, S_L_law_599, S_L_law_600, S_L_law_601, S_L_law_602, S_L_law_603, S_L_law_604, S_L_law_607, S_L_law_608, S_L_law_609, S_L_law_610, S_L_law_611, S_L_law_612, S_L_law_613, S_L_law_616, S_L_law_619, S_L_law_620, S_L_law_1785, S_L_law_1788, if_true, if_false, ite_true, ite_false, not_false_eq_true, not_true_eq_false, isRf_ref, isRf_null, c1_int, c1_ref, c1_null, c1_none, rfv_some, rfv_none, aft_s, tl_some, tl_none, w_I, w_L, w_f, List.nil_append, okRb0, okRb1, okRb, Sum.inl.injEq, Prod.mk.injEq, i10, b2i_t, b2i_f, true_and, and_true, or_true, true_or, o10, o11, ir0, hc, hr, e6, e1a, e1b, e1c]
  exact hK
theorem lc_13 {t : Nat} (hC : CI D I A t) (hR : RI I A t) (ht : 6 * t + 6 ≤ Ln) (hL : Ln ≤ 384) (K : ∀ D' I' L' A', CI D' I' A' (t + 1) → RI I' A' (t + 1) → LG xs Ln 18 (t + 1) [] (mkW D' I' L')) : LG xs Ln 33 t [.int 13] (mkW D I L) := by
  obtain ⟨D', I1, L1, I2, L2, hc, hr, hCI, hRI⟩ := both (d1 := 8) (d2 := 104) (n1 := 99) (n2 := 215) (as1 := [.ref 0, .int (xs (6 * t + 1)), .int (xs (6 * t + 2)), .int (xs (6 * t + 3)), .int (xs (6 * t + 4))]) (as2 := [.ref 82, .int (xs (6 * t + 1)), .int (xs (6 * t + 2)), .int (xs (6 * t + 3)), .int (xs (6 * t + 4))]) (A' := A) (x := aGoes (sa A) (xs (6 * t + 1)) (xs (6 * t + 2)) (xs (6 * t + 3)) (xs (6 * t + 4))) hR (C_goes (xs := xs) (Ln := Ln) (d := 0) (L := L) rfl hC) (qa (fun D I L v hK hA hc => r_goes (d := 0) hK hA hc)) (by decide) (by decide)
  have hK := K D' I2 L2 _ hCI hRI
  unfold LG at hK ⊢
  have e6 : nI (6 * t) + 6 = nI (6 * (t + 1)) := nI_add (6 * t) 6
  have e1a : nI (6 * t) + 1 = nI (6 * t + 1) := nI_add (6 * t) 1
  have e1b : ¬ (nI (6 * t + 1) < 0 ∨ Ln ≤ 6 * t + 1) := by have := n_bd (i := 6 * t + 1) (n := Ln) (by omega) (by omega); rw [n_cl (by omega)] at this; exact this
  have e1c : (nI (6 * t + 1)).toNatClampNeg = 6 * t + 1 := n_cl (by omega)
  have e2a : nI (6 * t) + 2 = nI (6 * t + 2) := nI_add (6 * t) 2
  have e2b : ¬ (nI (6 * t + 2) < 0 ∨ Ln ≤ 6 * t + 2) := by have := n_bd (i := 6 * t + 2) (n := Ln) (by omega) (by omega); rw [n_cl (by omega)] at this; exact this
  have e2c : (nI (6 * t + 2)).toNatClampNeg = 6 * t + 2 := n_cl (by omega)
  have e3a : nI (6 * t) + 3 = nI (6 * t + 3) := nI_add (6 * t) 3
  have e3b : ¬ (nI (6 * t + 3) < 0 ∨ Ln ≤ 6 * t + 3) := by have := n_bd (i := 6 * t + 3) (n := Ln) (by omega) (by omega); rw [n_cl (by omega)] at this; exact this
  have e3c : (nI (6 * t + 3)).toNatClampNeg = 6 * t + 3 := n_cl (by omega)
  have e4a : nI (6 * t) + 4 = nI (6 * t + 4) := nI_add (6 * t) 4
  have e4b : ¬ (nI (6 * t + 4) < 0 ∨ Ln ≤ 6 * t + 4) := by have := n_bd (i := 6 * t + 4) (n := Ln) (by omega) (by omega); rw [n_cl (by omega)] at this; exact this
  have e4c : (nI (6 * t + 4)).toNatClampNeg = 6 * t + 4 := n_cl (by omega)
  simp only [S_L_law_33_13, S_L_law_621, S_L_law_622, S_L_law_623, S_L_law_624, S_L_law_625, S_L_law_626, S_L_law_627, S_L_law_628, S_L_law_629, S_L_law_630, S_L_law_631, S_L_law_632, S_L_law_633, S_L_law_634, S_L_law_635, S_L_law_636, S_L_law_637, S_L_law_638, S_L_law_639, S_L_law_640, S_L_law_641, S_L_law_642, S_L_law_645, S_L_law_646, S_L_law_647, S_L_law_648, S_L_law_649, S_L_law_650, S_L_law_651, S_L_law_652, S_L_law_653, S_L_law_654, S_L_law_655, S_L_law_656, S_L_law_657, S_L_law_658, S_L_law_659, S_L_law_660, S_L_law_661, S_L_law_662, S_L_law_663, S_L_law_664, S_L_law_665, S_L_law_666, S_L_law_669, S_L_law_672, S_L_law_673, S_L_law_1785, S_L_law_1788, if_true, if_false, ite_true, ite_false, not_false_eq_true, not_true_eq_false, isRf_ref, isRf_null, c1_int, c1_ref, c1_null, c1_none, rfv_some, rfv_none, aft_s, tl_some, tl_none, w_I, w_L, w_f, List.nil_append, okRb0, okRb1, okRb, Sum.inl.injEq, Prod.mk.injEq, i10, b2i_t, b2i_f, true_and, and_true, or_true, true_or, o10, o11, ir0, hc, hr, e6, e1a, e1b, e1c, e2a, e2b, e2c, e3a, e3b, e3c, e4a, e4b, e4c]
  exact hK
theorem lc_14 {t : Nat} (hC : CI D I A t) (hR : RI I A t) (ht : 6 * t + 6 ≤ Ln) (hL : Ln ≤ 384) (K : ∀ D' I' L' A', CI D' I' A' (t + 1) → RI I' A' (t + 1) → LG xs Ln 18 (t + 1) [] (mkW D' I' L')) : LG xs Ln 33 t [.int 14] (mkW D I L) := by
  obtain ⟨D', I1, L1, I2, L2, hc, hr, hCI, hRI⟩ := both (d1 := 8) (d2 := 104) (n1 := 100) (n2 := 216) (as1 := [.ref 0, .int (xs (6 * t + 1)), .int (xs (6 * t + 2))]) (as2 := [.ref 82, .int (xs (6 * t + 1)), .int (xs (6 * t + 2))]) (A' := A) (x := aBarred (sa A) (xs (6 * t + 1)) (xs (6 * t + 2))) hR (C_barred (xs := xs) (Ln := Ln) (d := 0) (L := L) rfl hC) (qa (fun D I L v hK hA hc => r_barred (d := 0) hK hA hc)) (by decide) (by decide)
  have hK := K D' I2 L2 _ hCI hRI
  unfold LG at hK ⊢
  have e6 : nI (6 * t) + 6 = nI (6 * (t + 1)) := nI_add (6 * t) 6
  have e1a : nI (6 * t) + 1 = nI (6 * t + 1) := nI_add (6 * t) 1
  have e1b : ¬ (nI (6 * t + 1) < 0 ∨ Ln ≤ 6 * t + 1) := by have := n_bd (i := 6 * t + 1) (n := Ln) (by omega) (by omega); rw [n_cl (by omega)] at this; exact this
  have e1c : (nI (6 * t + 1)).toNatClampNeg = 6 * t + 1 := n_cl (by omega)
  have e2a : nI (6 * t) + 2 = nI (6 * t + 2) := nI_add (6 * t) 2
  have e2b : ¬ (nI (6 * t + 2) < 0 ∨ Ln ≤ 6 * t + 2) := by have := n_bd (i := 6 * t + 2) (n := Ln) (by omega) (by omega); rw [n_cl (by omega)] at this; exact this
  have e2c : (nI (6 * t + 2)).toNatClampNeg = 6 * t + 2 := n_cl (by omega)
  simp only [S_L_law_33_14, S_L_law_674, S_L_law_675, S_L_law_676, S_L_law_677, S_L_law_678, S_L_law_679, S_L_law_680, S_L_law_681, S_L_law_682, S_L_law_683, S_L_law_684, S_L_law_685, S_L_law_688, S_L_law_689, S_L_law_690, S_L_law_691, S_L_law_692, S_L_law_693, S_L_law_694, S_L_law_695, S_L_law_696, S_L_law_697, S_L_law_698, S_L_law_699, S_L_law_702, S_L_law_705, S_L_law_706, S_L_law_1785, S_L_law_1788, if_true, if_false, ite_true, ite_false, not_false_eq_true, not_true_eq_false, isRf_ref, isRf_null, c1_int, c1_ref, c1_null, c1_none, rfv_some, rfv_none, aft_s, tl_some, tl_none, w_I, w_L, w_f, List.nil_append, okRb0, okRb1, okRb, Sum.inl.injEq, Prod.mk.injEq, i10, b2i_t, b2i_f, true_and, and_true, or_true, true_or, o10, o11, ir0, hc, hr, e6, e1a, e1b, e1c, e2a, e2b, e2c]
  exact hK
theorem lc_15 {t : Nat} (hC : CI D I A t) (hR : RI I A t) (ht : 6 * t + 6 ≤ Ln) (hL : Ln ≤ 384) (K : ∀ D' I' L' A', CI D' I' A' (t + 1) → RI I' A' (t + 1) → LG xs Ln 18 (t + 1) [] (mkW D' I' L')) : LG xs Ln 33 t [.int 15] (mkW D I L) := by
  obtain ⟨D', I1, L1, I2, L2, hc, hr, hCI, hRI⟩ := both (d1 := 8) (d2 := 3) (n1 := 101) (n2 := 220) (as1 := [.ref 0, .int (xs (6 * t + 1))]) (as2 := [.ref 82, .int (xs (6 * t + 1))]) (A' := (nCall A (xs (6 * t + 1))).1) (x := (nCall A (xs (6 * t + 1))).2) hR (C_call (xs := xs) (Ln := Ln) (d := 0) (L := L) hC) (fun D I L h => R_call (d := 0) h (by omega)) (by decide) (by decide)
  have hK := K D' I2 L2 _ hCI hRI
  unfold LG at hK ⊢
  have e6 : nI (6 * t) + 6 = nI (6 * (t + 1)) := nI_add (6 * t) 6
  have e1a : nI (6 * t) + 1 = nI (6 * t + 1) := nI_add (6 * t) 1
  have e1b : ¬ (nI (6 * t + 1) < 0 ∨ Ln ≤ 6 * t + 1) := by have := n_bd (i := 6 * t + 1) (n := Ln) (by omega) (by omega); rw [n_cl (by omega)] at this; exact this
  have e1c : (nI (6 * t + 1)).toNatClampNeg = 6 * t + 1 := n_cl (by omega)
  simp only [S_L_law_33_15, S_L_law_707, S_L_law_708, S_L_law_709, S_L_law_710, S_L_law_711, S_L_law_712, S_L_law_713, S_L_law_716, S_L_law_717, S_L_law_718, S_L_law_719, S_L_law_720, S_L_law_721, S_L_law_722, S_L_law_725, S_L_law_728, S_L_law_729, S_L_law_1785, S_L_law_1788, if_true, if_false, ite_true, ite_false, not_false_eq_true, not_true_eq_false, isRf_ref, isRf_null, c1_int, c1_ref, c1_null, c1_none, rfv_some, rfv_none, aft_s, tl_some, tl_none, w_I, w_L, w_f, List.nil_append, okRb0, okRb1, okRb, Sum.inl.injEq, Prod.mk.injEq, i10, b2i_t, b2i_f, true_and, and_true, or_true, true_or, o10, o11, ir0, hc, hr, e6, e1a, e1b, e1c]
  exact hK
theorem lc_16 {t : Nat} (hC : CI D I A t) (hR : RI I A t) (ht : 6 * t + 6 ≤ Ln) (hL : Ln ≤ 384) (K : ∀ D' I' L' A', CI D' I' A' (t + 1) → RI I' A' (t + 1) → LG xs Ln 18 (t + 1) [] (mkW D' I' L')) : LG xs Ln 33 t [.int 16] (mkW D I L) := by
  obtain ⟨D', I1, L1, I2, L2, hc, hr, hCI, hRI⟩ := both (d1 := 8) (d2 := 1) (n1 := 102) (n2 := 221) (as1 := [.ref 0]) (as2 := [.ref 82]) (A' := (nTear A).1) (x := (nTear A).2) hR (C_tear (xs := xs) (Ln := Ln) (d := 0) (L := L) hC) (fun D I L h => R_tear (d := 0) h (by omega)) (by decide) (by decide)
  have hK := K D' I2 L2 _ hCI hRI
  unfold LG at hK ⊢
  have e6 : nI (6 * t) + 6 = nI (6 * (t + 1)) := nI_add (6 * t) 6
  simp only [S_L_law_33_16, S_L_law_730, S_L_law_731, S_L_law_734, S_L_law_735, S_L_law_738, S_L_law_741, S_L_law_742, S_L_law_1785, S_L_law_1788, if_true, if_false, ite_true, ite_false, not_false_eq_true, not_true_eq_false, isRf_ref, isRf_null, c1_int, c1_ref, c1_null, c1_none, rfv_some, rfv_none, aft_s, tl_some, tl_none, w_I, w_L, w_f, List.nil_append, okRb0, okRb1, okRb, Sum.inl.injEq, Prod.mk.injEq, i10, b2i_t, b2i_f, true_and, and_true, or_true, true_or, o10, o11, ir0, hc, hr, e6]
  exact hK
theorem lc_17 {t : Nat} (hC : CI D I A t) (hR : RI I A t) (ht : 6 * t + 6 ≤ Ln) (hL : Ln ≤ 384) (K : ∀ D' I' L' A', CI D' I' A' (t + 1) → RI I' A' (t + 1) → LG xs Ln 18 (t + 1) [] (mkW D' I' L')) : LG xs Ln 33 t [.int 17] (mkW D I L) := by
  obtain ⟨D', I1, L1, I2, L2, hc, hr, hCI, hRI⟩ := both (d1 := 8) (d2 := 105) (n1 := 103) (n2 := 223) (as1 := [.ref 0, .int (xs (6 * t + 1)), .int (xs (6 * t + 2)), .int (xs (6 * t + 3))]) (as2 := [.ref 82, .int (xs (6 * t + 1)), .int (xs (6 * t + 2)), .int (xs (6 * t + 3))]) (A' := A) (x := aAfter (sa A) (xs (6 * t + 1)) (xs (6 * t + 2)) (xs (6 * t + 3))) hR (C_after (xs := xs) (Ln := Ln) (d := 0) (L := L) rfl hC) (qa (fun D I L v hK hA hc => r_after (d := 0) hK hA hc)) (by decide) (by decide)
  have hK := K D' I2 L2 _ hCI hRI
  unfold LG at hK ⊢
  have e6 : nI (6 * t) + 6 = nI (6 * (t + 1)) := nI_add (6 * t) 6
  have e1a : nI (6 * t) + 1 = nI (6 * t + 1) := nI_add (6 * t) 1
  have e1b : ¬ (nI (6 * t + 1) < 0 ∨ Ln ≤ 6 * t + 1) := by have := n_bd (i := 6 * t + 1) (n := Ln) (by omega) (by omega); rw [n_cl (by omega)] at this; exact this
  have e1c : (nI (6 * t + 1)).toNatClampNeg = 6 * t + 1 := n_cl (by omega)
  have e2a : nI (6 * t) + 2 = nI (6 * t + 2) := nI_add (6 * t) 2
  have e2b : ¬ (nI (6 * t + 2) < 0 ∨ Ln ≤ 6 * t + 2) := by have := n_bd (i := 6 * t + 2) (n := Ln) (by omega) (by omega); rw [n_cl (by omega)] at this; exact this
  have e2c : (nI (6 * t + 2)).toNatClampNeg = 6 * t + 2 := n_cl (by omega)
  have e3a : nI (6 * t) + 3 = nI (6 * t + 3) := nI_add (6 * t) 3
  have e3b : ¬ (nI (6 * t + 3) < 0 ∨ Ln ≤ 6 * t + 3) := by have := n_bd (i := 6 * t + 3) (n := Ln) (by omega) (by omega); rw [n_cl (by omega)] at this; exact this
  have e3c : (nI (6 * t + 3)).toNatClampNeg = 6 * t + 3 := n_cl (by omega)
  simp only [S_L_law_33_17, S_L_law_743, S_L_law_744, S_L_law_745, S_L_law_746, S_L_law_747, S_L_law_748, S_L_law_749, S_L_law_750, S_L_law_751, S_L_law_752, S_L_law_753, S_L_law_754, S_L_law_755, S_L_law_756, S_L_law_757, S_L_law_758, S_L_law_759, S_L_law_762, S_L_law_763, S_L_law_764, S_L_law_765, S_L_law_766, S_L_law_767, S_L_law_768, S_L_law_769, S_L_law_770, S_L_law_771, S_L_law_772, S_L_law_773, S_L_law_774, S_L_law_775, S_L_law_776, S_L_law_777, S_L_law_778, S_L_law_781, S_L_law_784, S_L_law_785, S_L_law_1785, S_L_law_1788, if_true, if_false, ite_true, ite_false, not_false_eq_true, not_true_eq_false, isRf_ref, isRf_null, c1_int, c1_ref, c1_null, c1_none, rfv_some, rfv_none, aft_s, tl_some, tl_none, w_I, w_L, w_f, List.nil_append, okRb0, okRb1, okRb, Sum.inl.injEq, Prod.mk.injEq, i10, b2i_t, b2i_f, true_and, and_true, or_true, true_or, o10, o11, ir0, hc, hr, e6, e1a, e1b, e1c, e2a, e2b, e2c, e3a, e3b, e3c]
  exact hK
theorem lc_18 {t : Nat} (hC : CI D I A t) (hR : RI I A t) (ht : 6 * t + 6 ≤ Ln) (hL : Ln ≤ 384) (K : ∀ D' I' L' A', CI D' I' A' (t + 1) → RI I' A' (t + 1) → LG xs Ln 18 (t + 1) [] (mkW D' I' L')) : LG xs Ln 33 t [.int 18] (mkW D I L) := by
  obtain ⟨D', I1, L1, I2, L2, hc, hr, hCI, hRI⟩ := both (d1 := 8) (d2 := 105) (n1 := 104) (n2 := 224) (as1 := [.ref 0, .int (xs (6 * t + 1))]) (as2 := [.ref 82, .int (xs (6 * t + 1))]) (A' := A) (x := aOpen (sa A) (xs (6 * t + 1))) hR (C_open (xs := xs) (Ln := Ln) (d := 0) (L := L) rfl hC) (qa (fun D I L v hK hA hc => r_open (d := 0) hK hA hc)) (by decide) (by decide)
  have hK := K D' I2 L2 _ hCI hRI
  unfold LG at hK ⊢
  have e6 : nI (6 * t) + 6 = nI (6 * (t + 1)) := nI_add (6 * t) 6
  have e1a : nI (6 * t) + 1 = nI (6 * t + 1) := nI_add (6 * t) 1
  have e1b : ¬ (nI (6 * t + 1) < 0 ∨ Ln ≤ 6 * t + 1) := by have := n_bd (i := 6 * t + 1) (n := Ln) (by omega) (by omega); rw [n_cl (by omega)] at this; exact this
  have e1c : (nI (6 * t + 1)).toNatClampNeg = 6 * t + 1 := n_cl (by omega)
  simp only [S_L_law_33_18, S_L_law_786, S_L_law_787, S_L_law_788, S_L_law_789, S_L_law_790, S_L_law_791, S_L_law_792, S_L_law_795, S_L_law_796, S_L_law_797, S_L_law_798, S_L_law_799, S_L_law_800, S_L_law_801, S_L_law_804, S_L_law_807, S_L_law_808, S_L_law_1785, S_L_law_1788, if_true, if_false, ite_true, ite_false, not_false_eq_true, not_true_eq_false, isRf_ref, isRf_null, c1_int, c1_ref, c1_null, c1_none, rfv_some, rfv_none, aft_s, tl_some, tl_none, w_I, w_L, w_f, List.nil_append, okRb0, okRb1, okRb, Sum.inl.injEq, Prod.mk.injEq, i10, b2i_t, b2i_f, true_and, and_true, or_true, true_or, o10, o11, ir0, hc, hr, e6, e1a, e1b, e1c]
  exact hK
theorem lc_19 {t : Nat} (hC : CI D I A t) (hR : RI I A t) (ht : 6 * t + 6 ≤ Ln) (hL : Ln ≤ 384) (K : ∀ D' I' L' A', CI D' I' A' (t + 1) → RI I' A' (t + 1) → LG xs Ln 18 (t + 1) [] (mkW D' I' L')) : LG xs Ln 33 t [.int 19] (mkW D I L) := by
  obtain ⟨D', I1, L1, I2, L2, hc, hr, hCI, hRI⟩ := both (d1 := 8) (d2 := 105) (n1 := 107) (n2 := 230) (as1 := [.ref 0, .int (xs (6 * t + 1)), .int (xs (6 * t + 2)), .int (xs (6 * t + 3))]) (as2 := [.ref 82, .int (xs (6 * t + 1)), .int (xs (6 * t + 2)), .int (xs (6 * t + 3))]) (A' := A) (x := aFewest (sa A) (xs (6 * t + 1)) (xs (6 * t + 2)) (xs (6 * t + 3))) hR (C_fewest (xs := xs) (Ln := Ln) (d := 0) (L := L) rfl hC) (qa (fun D I L v hK hA hc => r_fewest (d := 0) hK hA hc)) (by decide) (by decide)
  have hK := K D' I2 L2 _ hCI hRI
  unfold LG at hK ⊢
  have e6 : nI (6 * t) + 6 = nI (6 * (t + 1)) := nI_add (6 * t) 6
  have e1a : nI (6 * t) + 1 = nI (6 * t + 1) := nI_add (6 * t) 1
  have e1b : ¬ (nI (6 * t + 1) < 0 ∨ Ln ≤ 6 * t + 1) := by have := n_bd (i := 6 * t + 1) (n := Ln) (by omega) (by omega); rw [n_cl (by omega)] at this; exact this
  have e1c : (nI (6 * t + 1)).toNatClampNeg = 6 * t + 1 := n_cl (by omega)
  have e2a : nI (6 * t) + 2 = nI (6 * t + 2) := nI_add (6 * t) 2
  have e2b : ¬ (nI (6 * t + 2) < 0 ∨ Ln ≤ 6 * t + 2) := by have := n_bd (i := 6 * t + 2) (n := Ln) (by omega) (by omega); rw [n_cl (by omega)] at this; exact this
  have e2c : (nI (6 * t + 2)).toNatClampNeg = 6 * t + 2 := n_cl (by omega)
  have e3a : nI (6 * t) + 3 = nI (6 * t + 3) := nI_add (6 * t) 3
  have e3b : ¬ (nI (6 * t + 3) < 0 ∨ Ln ≤ 6 * t + 3) := by have := n_bd (i := 6 * t + 3) (n := Ln) (by omega) (by omega); rw [n_cl (by omega)] at this; exact this
  have e3c : (nI (6 * t + 3)).toNatClampNeg = 6 * t + 3 := n_cl (by omega)
  simp only [S_L_law_33_19, S_L_law_809, S_L_law_810, S_L_law_811, S_L_law_812, S_L_law_813, S_L_law_814, S_L_law_815, S_L_law_816, S_L_law_817, S_L_law_818, S_L_law_819, S_L_law_820, S_L_law_821, S_L_law_822, S_L_law_823, S_L_law_824, S_L_law_825, S_L_law_828, S_L_law_829, S_L_law_830, S_L_law_831, S_L_law_832, S_L_law_833, S_L_law_834, S_L_law_835, S_L_law_836, S_L_law_837, S_L_law_838, S_L_law_839, S_L_law_840, S_L_law_841, S_L_law_842, S_L_law_843, S_L_law_844, S_L_law_847, S_L_law_850, S_L_law_851, S_L_law_1785, S_L_law_1788, if_true, if_false, ite_true, ite_false, not_false_eq_true, not_true_eq_false, isRf_ref, isRf_null, c1_int, c1_ref, c1_null, c1_none, rfv_some, rfv_none, aft_s, tl_some, tl_none, w_I, w_L, w_f, List.nil_append, okRb0, okRb1, okRb, Sum.inl.injEq, Prod.mk.injEq, i10, b2i_t, b2i_f, true_and, and_true, or_true, true_or, o10, o11, ir0, hc, hr, e6, e1a, e1b, e1c, e2a, e2b, e2c, e3a, e3b, e3c]
  exact hK
theorem lc_20 {t : Nat} (hC : CI D I A t) (hR : RI I A t) (ht : 6 * t + 6 ≤ Ln) (hL : Ln ≤ 384) (K : ∀ D' I' L' A', CI D' I' A' (t + 1) → RI I' A' (t + 1) → LG xs Ln 18 (t + 1) [] (mkW D' I' L')) : LG xs Ln 33 t [.int 20] (mkW D I L) := by
  obtain ⟨D', I1, L1, I2, L2, hc, hr, hCI, hRI⟩ := both (d1 := 8) (d2 := 105) (n1 := 108) (n2 := 231) (as1 := [.ref 0, .int (xs (6 * t + 1)), .int (xs (6 * t + 2)), .int (xs (6 * t + 3))]) (as2 := [.ref 82, .int (xs (6 * t + 1)), .int (xs (6 * t + 2)), .int (xs (6 * t + 3))]) (A' := A) (x := aWays (sa A) (xs (6 * t + 1)) (xs (6 * t + 2)) (xs (6 * t + 3))) hR (C_ways (xs := xs) (Ln := Ln) (d := 0) (L := L) rfl hC) (qa (fun D I L v hK hA hc => r_ways (d := 0) hK hA hc)) (by decide) (by decide)
  have hK := K D' I2 L2 _ hCI hRI
  unfold LG at hK ⊢
  have e6 : nI (6 * t) + 6 = nI (6 * (t + 1)) := nI_add (6 * t) 6
  have e1a : nI (6 * t) + 1 = nI (6 * t + 1) := nI_add (6 * t) 1
  have e1b : ¬ (nI (6 * t + 1) < 0 ∨ Ln ≤ 6 * t + 1) := by have := n_bd (i := 6 * t + 1) (n := Ln) (by omega) (by omega); rw [n_cl (by omega)] at this; exact this
  have e1c : (nI (6 * t + 1)).toNatClampNeg = 6 * t + 1 := n_cl (by omega)
  have e2a : nI (6 * t) + 2 = nI (6 * t + 2) := nI_add (6 * t) 2
  have e2b : ¬ (nI (6 * t + 2) < 0 ∨ Ln ≤ 6 * t + 2) := by have := n_bd (i := 6 * t + 2) (n := Ln) (by omega) (by omega); rw [n_cl (by omega)] at this; exact this
  have e2c : (nI (6 * t + 2)).toNatClampNeg = 6 * t + 2 := n_cl (by omega)
  have e3a : nI (6 * t) + 3 = nI (6 * t + 3) := nI_add (6 * t) 3
  have e3b : ¬ (nI (6 * t + 3) < 0 ∨ Ln ≤ 6 * t + 3) := by have := n_bd (i := 6 * t + 3) (n := Ln) (by omega) (by omega); rw [n_cl (by omega)] at this; exact this
  have e3c : (nI (6 * t + 3)).toNatClampNeg = 6 * t + 3 := n_cl (by omega)
  simp only [S_L_law_33_20, S_L_law_852, S_L_law_853, S_L_law_854, S_L_law_855, S_L_law_856, S_L_law_857, S_L_law_858, S_L_law_859, S_L_law_860, S_L_law_861, S_L_law_862, S_L_law_863, S_L_law_864, S_L_law_865, S_L_law_866, S_L_law_867, S_L_law_868, S_L_law_871, S_L_law_872, S_L_law_873, S_L_law_874, S_L_law_875, S_L_law_876, S_L_law_877, S_L_law_878, S_L_law_879, S_L_law_880, S_L_law_881, S_L_law_882, S_L_law_883, S_L_law_884, S_L_law_885, S_L_law_886, S_L_law_887, S_L_law_890, S_L_law_893, S_L_law_894, S_L_law_1785, S_L_law_1788, if_true, if_false, ite_true, ite_false, not_false_eq_true, not_true_eq_false, isRf_ref, isRf_null, c1_int, c1_ref, c1_null, c1_none, rfv_some, rfv_none, aft_s, tl_some, tl_none, w_I, w_L, w_f, List.nil_append, okRb0, okRb1, okRb, Sum.inl.injEq, Prod.mk.injEq, i10, b2i_t, b2i_f, true_and, and_true, or_true, true_or, o10, o11, ir0, hc, hr, e6, e1a, e1b, e1c, e2a, e2b, e2c, e3a, e3b, e3c]
  exact hK
theorem lc_21 {t : Nat} (hC : CI D I A t) (hR : RI I A t) (ht : 6 * t + 6 ≤ Ln) (hL : Ln ≤ 384) (K : ∀ D' I' L' A', CI D' I' A' (t + 1) → RI I' A' (t + 1) → LG xs Ln 18 (t + 1) [] (mkW D' I' L')) : LG xs Ln 33 t [.int 21] (mkW D I L) := by
  obtain ⟨D', I1, L1, I2, L2, hc, hr, hCI, hRI⟩ := both (d1 := 8) (d2 := 105) (n1 := 109) (n2 := 232) (as1 := [.ref 0, .int (xs (6 * t + 1)), .int (xs (6 * t + 2)), .int (xs (6 * t + 3)), .int (xs (6 * t + 4))]) (as2 := [.ref 82, .int (xs (6 * t + 1)), .int (xs (6 * t + 2)), .int (xs (6 * t + 3)), .int (xs (6 * t + 4))]) (A' := A) (x := aSpell (sa A) (xs (6 * t + 1)) (xs (6 * t + 2)) (xs (6 * t + 3)) (xs (6 * t + 4))) hR (C_spell (xs := xs) (Ln := Ln) (d := 0) (L := L) rfl hC) (qa (fun D I L v hK hA hc => r_spell (d := 0) hK hA hc)) (by decide) (by decide)
  have hK := K D' I2 L2 _ hCI hRI
  unfold LG at hK ⊢
  have e6 : nI (6 * t) + 6 = nI (6 * (t + 1)) := nI_add (6 * t) 6
  have e1a : nI (6 * t) + 1 = nI (6 * t + 1) := nI_add (6 * t) 1
  have e1b : ¬ (nI (6 * t + 1) < 0 ∨ Ln ≤ 6 * t + 1) := by have := n_bd (i := 6 * t + 1) (n := Ln) (by omega) (by omega); rw [n_cl (by omega)] at this; exact this
  have e1c : (nI (6 * t + 1)).toNatClampNeg = 6 * t + 1 := n_cl (by omega)
  have e2a : nI (6 * t) + 2 = nI (6 * t + 2) := nI_add (6 * t) 2
  have e2b : ¬ (nI (6 * t + 2) < 0 ∨ Ln ≤ 6 * t + 2) := by have := n_bd (i := 6 * t + 2) (n := Ln) (by omega) (by omega); rw [n_cl (by omega)] at this; exact this
  have e2c : (nI (6 * t + 2)).toNatClampNeg = 6 * t + 2 := n_cl (by omega)
  have e3a : nI (6 * t) + 3 = nI (6 * t + 3) := nI_add (6 * t) 3
  have e3b : ¬ (nI (6 * t + 3) < 0 ∨ Ln ≤ 6 * t + 3) := by have := n_bd (i := 6 * t + 3) (n := Ln) (by omega) (by omega); rw [n_cl (by omega)] at this; exact this
  have e3c : (nI (6 * t + 3)).toNatClampNeg = 6 * t + 3 := n_cl (by omega)
  have e4a : nI (6 * t) + 4 = nI (6 * t + 4) := nI_add (6 * t) 4
  have e4b : ¬ (nI (6 * t + 4) < 0 ∨ Ln ≤ 6 * t + 4) := by have := n_bd (i := 6 * t + 4) (n := Ln) (by omega) (by omega); rw [n_cl (by omega)] at this; exact this
  have e4c : (nI (6 * t + 4)).toNatClampNeg = 6 * t + 4 := n_cl (by omega)
  simp only [S_L_law_33_21, S_L_law_895, S_L_law_896, S_L_law_897, S_L_law_898, S_L_law_899, S_L_law_900, S_L_law_901, S_L_law_902, S_L_law_903, S_L_law_904, S_L_law_905, S_L_law_906, S_L_law_907, S_L_law_908, S_L_law_909, S_L_law_910, S_L_law_911, S_L_law_912, S_L_law_913, S_L_law_914, S_L_law_915, S_L_law_916, S_L_law_919, S_L_law_920, S_L_law_921, S_L_law_922, S_L_law_923, S_L_law_924, S_L_law_925, S_L_law_926, S_L_law_927, S_L_law_928, S_L_law_929, S_L_law_930, S_L_law_931, S_L_law_932, S_L_law_933, S_L_law_934, S_L_law_935, S_L_law_936, S_L_law_937, S_L_law_938, S_L_law_939, S_L_law_940, S_L_law_943, S_L_law_946, S_L_law_947, S_L_law_1785, S_L_law_1788, if_true, if_false, ite_true, ite_false, not_false_eq_true, not_true_eq_false, isRf_ref, isRf_null, c1_int, c1_ref, c1_null, c1_none, rfv_some, rfv_none, aft_s, tl_some, tl_none, w_I, w_L, w_f, List.nil_append, okRb0, okRb1, okRb, Sum.inl.injEq, Prod.mk.injEq, i10, b2i_t, b2i_f, true_and, and_true, or_true, true_or, o10, o11, ir0, hc, hr, e6, e1a, e1b, e1c, e2a, e2b, e2c, e3a, e3b, e3c, e4a, e4b, e4c]
  exact hK
theorem lc_22 {t : Nat} (hC : CI D I A t) (hR : RI I A t) (ht : 6 * t + 6 ≤ Ln) (hL : Ln ≤ 384) (K : ∀ D' I' L' A', CI D' I' A' (t + 1) → RI I' A' (t + 1) → LG xs Ln 18 (t + 1) [] (mkW D' I' L')) : LG xs Ln 33 t [.int 22] (mkW D I L) := by
  obtain ⟨D', I1, L1, I2, L2, hc, hr, hCI, hRI⟩ := both (d1 := 8) (d2 := 105) (n1 := 110) (n2 := 235) (as1 := [.ref 0, .int (xs (6 * t + 1)), .int (xs (6 * t + 2)), .int (xs (6 * t + 3))]) (as2 := [.ref 82, .int (xs (6 * t + 1)), .int (xs (6 * t + 2)), .int (xs (6 * t + 3))]) (A' := A) (x := aWithout (sa A) (xs (6 * t + 1)) (xs (6 * t + 2)) (xs (6 * t + 3))) hR (C_without (xs := xs) (Ln := Ln) (d := 0) (L := L) rfl hC) (qa (fun D I L v hK hA hc => r_without (d := 0) hK hA hc)) (by decide) (by decide)
  have hK := K D' I2 L2 _ hCI hRI
  unfold LG at hK ⊢
  have e6 : nI (6 * t) + 6 = nI (6 * (t + 1)) := nI_add (6 * t) 6
  have e1a : nI (6 * t) + 1 = nI (6 * t + 1) := nI_add (6 * t) 1
  have e1b : ¬ (nI (6 * t + 1) < 0 ∨ Ln ≤ 6 * t + 1) := by have := n_bd (i := 6 * t + 1) (n := Ln) (by omega) (by omega); rw [n_cl (by omega)] at this; exact this
  have e1c : (nI (6 * t + 1)).toNatClampNeg = 6 * t + 1 := n_cl (by omega)
  have e2a : nI (6 * t) + 2 = nI (6 * t + 2) := nI_add (6 * t) 2
  have e2b : ¬ (nI (6 * t + 2) < 0 ∨ Ln ≤ 6 * t + 2) := by have := n_bd (i := 6 * t + 2) (n := Ln) (by omega) (by omega); rw [n_cl (by omega)] at this; exact this
  have e2c : (nI (6 * t + 2)).toNatClampNeg = 6 * t + 2 := n_cl (by omega)
  have e3a : nI (6 * t) + 3 = nI (6 * t + 3) := nI_add (6 * t) 3
  have e3b : ¬ (nI (6 * t + 3) < 0 ∨ Ln ≤ 6 * t + 3) := by have := n_bd (i := 6 * t + 3) (n := Ln) (by omega) (by omega); rw [n_cl (by omega)] at this; exact this
  have e3c : (nI (6 * t + 3)).toNatClampNeg = 6 * t + 3 := n_cl (by omega)
  simp only [S_L_law_33_22, S_L_law_948, S_L_law_949, S_L_law_950, S_L_law_951, S_L_law_952, S_L_law_953, S_L_law_954, S_L_law_955, S_L_law_956, S_L_law_957, S_L_law_958, S_L_law_959, S_L_law_960, S_L_law_961, S_L_law_962, S_L_law_963, S_L_law_964, S_L_law_967, S_L_law_968, S_L_law_969, S_L_law_970, S_L_law_971, S_L_law_972, S_L_law_973, S_L_law_974, S_L_law_975, S_L_law_976, S_L_law_977, S_L_law_978, S_L_law_979, S_L_law_980, S_L_law_981, S_L_law_982, S_L_law_983, S_L_law_986, S_L_law_989, S_L_law_990, S_L_law_1785, S_L_law_1788, if_true, if_false, ite_true, ite_false, not_false_eq_true, not_true_eq_false, isRf_ref, isRf_null, c1_int, c1_ref, c1_null, c1_none, rfv_some, rfv_none, aft_s, tl_some, tl_none, w_I, w_L, w_f, List.nil_append, okRb0, okRb1, okRb, Sum.inl.injEq, Prod.mk.injEq, i10, b2i_t, b2i_f, true_and, and_true, or_true, true_or, o10, o11, ir0, hc, hr, e6, e1a, e1b, e1c, e2a, e2b, e2c, e3a, e3b, e3c]
  exact hK
theorem lc_23 {t : Nat} (hC : CI D I A t) (hR : RI I A t) (ht : 6 * t + 6 ≤ Ln) (hL : Ln ≤ 384) (K : ∀ D' I' L' A', CI D' I' A' (t + 1) → RI I' A' (t + 1) → LG xs Ln 18 (t + 1) [] (mkW D' I' L')) : LG xs Ln 33 t [.int 23] (mkW D I L) := by
  obtain ⟨D', I1, L1, I2, L2, hc, hr, hCI, hRI⟩ := both (d1 := 8) (d2 := 106) (n1 := 111) (n2 := 236) (as1 := [.ref 0, .int (xs (6 * t + 1)), .int (xs (6 * t + 2))]) (as2 := [.ref 82, .int (xs (6 * t + 1)), .int (xs (6 * t + 2))]) (A' := A) (x := aSpare (sa A) (xs (6 * t + 1)) (xs (6 * t + 2))) hR (C_spare (xs := xs) (Ln := Ln) (d := 0) (L := L) rfl hC) (qa (fun D I L v hK hA hc => r_spare (d := 0) hK hA hc)) (by decide) (by decide)
  have hK := K D' I2 L2 _ hCI hRI
  unfold LG at hK ⊢
  have e6 : nI (6 * t) + 6 = nI (6 * (t + 1)) := nI_add (6 * t) 6
  have e1a : nI (6 * t) + 1 = nI (6 * t + 1) := nI_add (6 * t) 1
  have e1b : ¬ (nI (6 * t + 1) < 0 ∨ Ln ≤ 6 * t + 1) := by have := n_bd (i := 6 * t + 1) (n := Ln) (by omega) (by omega); rw [n_cl (by omega)] at this; exact this
  have e1c : (nI (6 * t + 1)).toNatClampNeg = 6 * t + 1 := n_cl (by omega)
  have e2a : nI (6 * t) + 2 = nI (6 * t + 2) := nI_add (6 * t) 2
  have e2b : ¬ (nI (6 * t + 2) < 0 ∨ Ln ≤ 6 * t + 2) := by have := n_bd (i := 6 * t + 2) (n := Ln) (by omega) (by omega); rw [n_cl (by omega)] at this; exact this
  have e2c : (nI (6 * t + 2)).toNatClampNeg = 6 * t + 2 := n_cl (by omega)
  simp only [S_L_law_33_23, S_L_law_991, S_L_law_992, S_L_law_993, S_L_law_994, S_L_law_995, S_L_law_996, S_L_law_997, S_L_law_998, S_L_law_999, S_L_law_1000, S_L_law_1001, S_L_law_1002, S_L_law_1005, S_L_law_1006, S_L_law_1007, S_L_law_1008, S_L_law_1009, S_L_law_1010, S_L_law_1011, S_L_law_1012, S_L_law_1013, S_L_law_1014, S_L_law_1015, S_L_law_1016, S_L_law_1019, S_L_law_1022, S_L_law_1023, S_L_law_1785, S_L_law_1788, if_true, if_false, ite_true, ite_false, not_false_eq_true, not_true_eq_false, isRf_ref, isRf_null, c1_int, c1_ref, c1_null, c1_none, rfv_some, rfv_none, aft_s, tl_some, tl_none, w_I, w_L, w_f, List.nil_append, okRb0, okRb1, okRb, Sum.inl.injEq, Prod.mk.injEq, i10, b2i_t, b2i_f, true_and, and_true, or_true, true_or, o10, o11, ir0, hc, hr, e6, e1a, e1b, e1c, e2a, e2b, e2c]
  exact hK
theorem lc_24 {t : Nat} (hC : CI D I A t) (hR : RI I A t) (ht : 6 * t + 6 ≤ Ln) (hL : Ln ≤ 384) (K : ∀ D' I' L' A', CI D' I' A' (t + 1) → RI I' A' (t + 1) → LG xs Ln 18 (t + 1) [] (mkW D' I' L')) : LG xs Ln 33 t [.int 24] (mkW D I L) := by
  obtain ⟨D', I1, L1, I2, L2, hc, hr, hCI, hRI⟩ := both (d1 := 8) (d2 := 105) (n1 := 105) (n2 := 237) (as1 := [.ref 0, .int (xs (6 * t + 1)), .int (xs (6 * t + 2)), .int (xs (6 * t + 3))]) (as2 := [.ref 82, .int (xs (6 * t + 1)), .int (xs (6 * t + 2)), .int (xs (6 * t + 3))]) (A' := A) (x := aCycle (sa A) (xs (6 * t + 1)) (xs (6 * t + 2)) (xs (6 * t + 3))) hR (C_cycle (xs := xs) (Ln := Ln) (d := 0) (L := L) rfl hC) (qa (fun D I L v hK hA hc => r_cycle (d := 0) hK hA hc)) (by decide) (by decide)
  have hK := K D' I2 L2 _ hCI hRI
  unfold LG at hK ⊢
  have e6 : nI (6 * t) + 6 = nI (6 * (t + 1)) := nI_add (6 * t) 6
  have e1a : nI (6 * t) + 1 = nI (6 * t + 1) := nI_add (6 * t) 1
  have e1b : ¬ (nI (6 * t + 1) < 0 ∨ Ln ≤ 6 * t + 1) := by have := n_bd (i := 6 * t + 1) (n := Ln) (by omega) (by omega); rw [n_cl (by omega)] at this; exact this
  have e1c : (nI (6 * t + 1)).toNatClampNeg = 6 * t + 1 := n_cl (by omega)
  have e2a : nI (6 * t) + 2 = nI (6 * t + 2) := nI_add (6 * t) 2
  have e2b : ¬ (nI (6 * t + 2) < 0 ∨ Ln ≤ 6 * t + 2) := by have := n_bd (i := 6 * t + 2) (n := Ln) (by omega) (by omega); rw [n_cl (by omega)] at this; exact this
  have e2c : (nI (6 * t + 2)).toNatClampNeg = 6 * t + 2 := n_cl (by omega)
  have e3a : nI (6 * t) + 3 = nI (6 * t + 3) := nI_add (6 * t) 3
  have e3b : ¬ (nI (6 * t + 3) < 0 ∨ Ln ≤ 6 * t + 3) := by have := n_bd (i := 6 * t + 3) (n := Ln) (by omega) (by omega); rw [n_cl (by omega)] at this; exact this
  have e3c : (nI (6 * t + 3)).toNatClampNeg = 6 * t + 3 := n_cl (by omega)
  simp only [S_L_law_33_24, S_L_law_1024, S_L_law_1025, S_L_law_1026, S_L_law_1027, S_L_law_1028, S_L_law_1029, S_L_law_1030, S_L_law_1031, S_L_law_1032, S_L_law_1033, S_L_law_1034, S_L_law_1035, S_L_law_1036, S_L_law_1037, S_L_law_1038, S_L_law_1039, S_L_law_1040, S_L_law_1043, S_L_law_1044, S_L_law_1045, S_L_law_1046, S_L_law_1047, S_L_law_1048, S_L_law_1049, S_L_law_1050, S_L_law_1051, S_L_law_1052, S_L_law_1053, S_L_law_1054, S_L_law_1055, S_L_law_1056, S_L_law_1057, S_L_law_1058, S_L_law_1059, S_L_law_1062, S_L_law_1065, S_L_law_1066, S_L_law_1785, S_L_law_1788, if_true, if_false, ite_true, ite_false, not_false_eq_true, not_true_eq_false, isRf_ref, isRf_null, c1_int, c1_ref, c1_null, c1_none, rfv_some, rfv_none, aft_s, tl_some, tl_none, w_I, w_L, w_f, List.nil_append, okRb0, okRb1, okRb, Sum.inl.injEq, Prod.mk.injEq, i10, b2i_t, b2i_f, true_and, and_true, or_true, true_or, o10, o11, ir0, hc, hr, e6, e1a, e1b, e1c, e2a, e2b, e2c, e3a, e3b, e3c]
  exact hK
theorem lc_25 {t : Nat} (hC : CI D I A t) (hR : RI I A t) (ht : 6 * t + 6 ≤ Ln) (hL : Ln ≤ 384) (K : ∀ D' I' L' A', CI D' I' A' (t + 1) → RI I' A' (t + 1) → LG xs Ln 18 (t + 1) [] (mkW D' I' L')) : LG xs Ln 33 t [.int 25] (mkW D I L) := by
  obtain ⟨D', I1, L1, I2, L2, hc, hr, hCI, hRI⟩ := both (d1 := 8) (d2 := 105) (n1 := 106) (n2 := 238) (as1 := [.ref 0, .int (xs (6 * t + 1)), .int (xs (6 * t + 2)), .int (xs (6 * t + 3))]) (as2 := [.ref 82, .int (xs (6 * t + 1)), .int (xs (6 * t + 2)), .int (xs (6 * t + 3))]) (A' := A) (x := aTrace (sa A) (xs (6 * t + 1)) (xs (6 * t + 2)) (xs (6 * t + 3))) hR (C_trace (xs := xs) (Ln := Ln) (d := 0) (L := L) rfl hC) (qa (fun D I L v hK hA hc => r_trace (d := 0) hK hA hc)) (by decide) (by decide)
  have hK := K D' I2 L2 _ hCI hRI
  unfold LG at hK ⊢
  have e6 : nI (6 * t) + 6 = nI (6 * (t + 1)) := nI_add (6 * t) 6
  have e1a : nI (6 * t) + 1 = nI (6 * t + 1) := nI_add (6 * t) 1
  have e1b : ¬ (nI (6 * t + 1) < 0 ∨ Ln ≤ 6 * t + 1) := by have := n_bd (i := 6 * t + 1) (n := Ln) (by omega) (by omega); rw [n_cl (by omega)] at this; exact this
  have e1c : (nI (6 * t + 1)).toNatClampNeg = 6 * t + 1 := n_cl (by omega)
  have e2a : nI (6 * t) + 2 = nI (6 * t + 2) := nI_add (6 * t) 2
  have e2b : ¬ (nI (6 * t + 2) < 0 ∨ Ln ≤ 6 * t + 2) := by have := n_bd (i := 6 * t + 2) (n := Ln) (by omega) (by omega); rw [n_cl (by omega)] at this; exact this
  have e2c : (nI (6 * t + 2)).toNatClampNeg = 6 * t + 2 := n_cl (by omega)
  have e3a : nI (6 * t) + 3 = nI (6 * t + 3) := nI_add (6 * t) 3
  have e3b : ¬ (nI (6 * t + 3) < 0 ∨ Ln ≤ 6 * t + 3) := by have := n_bd (i := 6 * t + 3) (n := Ln) (by omega) (by omega); rw [n_cl (by omega)] at this; exact this
  have e3c : (nI (6 * t + 3)).toNatClampNeg = 6 * t + 3 := n_cl (by omega)
  simp only [S_L_law_33_25, S_L_law_1067, S_L_law_1068, S_L_law_1069, S_L_law_1070, S_L_law_1071, S_L_law_1072, S_L_law_1073, S_L_law_1074, S_L_law_1075, S_L_law_1076, S_L_law_1077, S_L_law_1078, S_L_law_1079, S_L_law_1080, S_L_law_1081, S_L_law_1082, S_L_law_1083, S_L_law_1086, S_L_law_1087, S_L_law_1088, S_L_law_1089, S_L_law_1090, S_L_law_1091, S_L_law_1092, S_L_law_1093, S_L_law_1094, S_L_law_1095, S_L_law_1096, S_L_law_1097, S_L_law_1098, S_L_law_1099, S_L_law_1100, S_L_law_1101, S_L_law_1102, S_L_law_1105, S_L_law_1108, S_L_law_1109, S_L_law_1785, S_L_law_1788, if_true, if_false, ite_true, ite_false, not_false_eq_true, not_true_eq_false, isRf_ref, isRf_null, c1_int, c1_ref, c1_null, c1_none, rfv_some, rfv_none, aft_s, tl_some, tl_none, w_I, w_L, w_f, List.nil_append, okRb0, okRb1, okRb, Sum.inl.injEq, Prod.mk.injEq, i10, b2i_t, b2i_f, true_and, and_true, or_true, true_or, o10, o11, ir0, hc, hr, e6, e1a, e1b, e1c, e2a, e2b, e2c, e3a, e3b, e3c]
  exact hK
theorem lc_26 {t : Nat} (hC : CI D I A t) (hR : RI I A t) (ht : 6 * t + 6 ≤ Ln) (hL : Ln ≤ 384) (K : ∀ D' I' L' A', CI D' I' A' (t + 1) → RI I' A' (t + 1) → LG xs Ln 18 (t + 1) [] (mkW D' I' L')) : LG xs Ln 33 t [.int 26] (mkW D I L) := by
  obtain ⟨D', I1, L1, I2, L2, hc, hr, hCI, hRI⟩ := both (d1 := 8) (d2 := 105) (n1 := 112) (n2 := 239) (as1 := [.ref 0, .int (xs (6 * t + 1)), .int (xs (6 * t + 2))]) (as2 := [.ref 82, .int (xs (6 * t + 1)), .int (xs (6 * t + 2))]) (A' := A) (x := aStands (sa A) (xs (6 * t + 1)) (xs (6 * t + 2))) hR (C_stands (xs := xs) (Ln := Ln) (d := 0) (L := L) rfl hC) (qa (fun D I L v hK hA hc => r_stands (d := 0) hK hA hc)) (by decide) (by decide)
  have hK := K D' I2 L2 _ hCI hRI
  unfold LG at hK ⊢
  have e6 : nI (6 * t) + 6 = nI (6 * (t + 1)) := nI_add (6 * t) 6
  have e1a : nI (6 * t) + 1 = nI (6 * t + 1) := nI_add (6 * t) 1
  have e1b : ¬ (nI (6 * t + 1) < 0 ∨ Ln ≤ 6 * t + 1) := by have := n_bd (i := 6 * t + 1) (n := Ln) (by omega) (by omega); rw [n_cl (by omega)] at this; exact this
  have e1c : (nI (6 * t + 1)).toNatClampNeg = 6 * t + 1 := n_cl (by omega)
  have e2a : nI (6 * t) + 2 = nI (6 * t + 2) := nI_add (6 * t) 2
  have e2b : ¬ (nI (6 * t + 2) < 0 ∨ Ln ≤ 6 * t + 2) := by have := n_bd (i := 6 * t + 2) (n := Ln) (by omega) (by omega); rw [n_cl (by omega)] at this; exact this
  have e2c : (nI (6 * t + 2)).toNatClampNeg = 6 * t + 2 := n_cl (by omega)
  simp only [S_L_law_33_26, S_L_law_1110, S_L_law_1111, S_L_law_1112, S_L_law_1113, S_L_law_1114, S_L_law_1115, S_L_law_1116, S_L_law_1117, S_L_law_1118, S_L_law_1119, S_L_law_1120, S_L_law_1121, S_L_law_1124, S_L_law_1125, S_L_law_1126, S_L_law_1127, S_L_law_1128, S_L_law_1129, S_L_law_1130, S_L_law_1131, S_L_law_1132, S_L_law_1133, S_L_law_1134, S_L_law_1135, S_L_law_1138, S_L_law_1141, S_L_law_1142, S_L_law_1785, S_L_law_1788, if_true, if_false, ite_true, ite_false, not_false_eq_true, not_true_eq_false, isRf_ref, isRf_null, c1_int, c1_ref, c1_null, c1_none, rfv_some, rfv_none, aft_s, tl_some, tl_none, w_I, w_L, w_f, List.nil_append, okRb0, okRb1, okRb, Sum.inl.injEq, Prod.mk.injEq, i10, b2i_t, b2i_f, true_and, and_true, or_true, true_or, o10, o11, ir0, hc, hr, e6, e1a, e1b, e1c, e2a, e2b, e2c]
  exact hK
theorem lc_27 {t : Nat} (hC : CI D I A t) (hR : RI I A t) (ht : 6 * t + 6 ≤ Ln) (hL : Ln ≤ 384) (K : ∀ D' I' L' A', CI D' I' A' (t + 1) → RI I' A' (t + 1) → LG xs Ln 18 (t + 1) [] (mkW D' I' L')) : LG xs Ln 33 t [.int 27] (mkW D I L) := by
  obtain ⟨D', I1, L1, I2, L2, hc, hr, hCI, hRI⟩ := both (d1 := 8) (d2 := 106) (n1 := 113) (n2 := 241) (as1 := [.ref 0, .int (xs (6 * t + 1)), .int (xs (6 * t + 2)), .int (xs (6 * t + 3))]) (as2 := [.ref 82, .int (xs (6 * t + 1)), .int (xs (6 * t + 2)), .int (xs (6 * t + 3))]) (A' := A) (x := aPair (sa A) (xs (6 * t + 1)) (xs (6 * t + 2)) (xs (6 * t + 3))) hR (C_pair (xs := xs) (Ln := Ln) (d := 0) (L := L) rfl hC) (qa (fun D I L v hK hA hc => r_pair (d := 0) hK hA hc)) (by decide) (by decide)
  have hK := K D' I2 L2 _ hCI hRI
  unfold LG at hK ⊢
  have e6 : nI (6 * t) + 6 = nI (6 * (t + 1)) := nI_add (6 * t) 6
  have e1a : nI (6 * t) + 1 = nI (6 * t + 1) := nI_add (6 * t) 1
  have e1b : ¬ (nI (6 * t + 1) < 0 ∨ Ln ≤ 6 * t + 1) := by have := n_bd (i := 6 * t + 1) (n := Ln) (by omega) (by omega); rw [n_cl (by omega)] at this; exact this
  have e1c : (nI (6 * t + 1)).toNatClampNeg = 6 * t + 1 := n_cl (by omega)
  have e2a : nI (6 * t) + 2 = nI (6 * t + 2) := nI_add (6 * t) 2
  have e2b : ¬ (nI (6 * t + 2) < 0 ∨ Ln ≤ 6 * t + 2) := by have := n_bd (i := 6 * t + 2) (n := Ln) (by omega) (by omega); rw [n_cl (by omega)] at this; exact this
  have e2c : (nI (6 * t + 2)).toNatClampNeg = 6 * t + 2 := n_cl (by omega)
  have e3a : nI (6 * t) + 3 = nI (6 * t + 3) := nI_add (6 * t) 3
  have e3b : ¬ (nI (6 * t + 3) < 0 ∨ Ln ≤ 6 * t + 3) := by have := n_bd (i := 6 * t + 3) (n := Ln) (by omega) (by omega); rw [n_cl (by omega)] at this; exact this
  have e3c : (nI (6 * t + 3)).toNatClampNeg = 6 * t + 3 := n_cl (by omega)
  simp only [S_L_law_33_27, S_L_law_1143, S_L_law_1144, S_L_law_1145, S_L_law_1146, S_L_law_1147, S_L_law_1148, S_L_law_1149, S_L_law_1150, S_L_law_1151, S_L_law_1152, S_L_law_1153, S_L_law_1154, S_L_law_1155, S_L_law_1156, S_L_law_1157, S_L_law_1158, S_L_law_1159, S_L_law_1162, S_L_law_1163, S_L_law_1164, S_L_law_1165, S_L_law_1166, S_L_law_1167, S_L_law_1168, S_L_law_1169, S_L_law_1170, S_L_law_1171, S_L_law_1172, S_L_law_1173, S_L_law_1174, S_L_law_1175, S_L_law_1176, S_L_law_1177, S_L_law_1178, S_L_law_1181, S_L_law_1184, S_L_law_1185, S_L_law_1785, S_L_law_1788, if_true, if_false, ite_true, ite_false, not_false_eq_true, not_true_eq_false, isRf_ref, isRf_null, c1_int, c1_ref, c1_null, c1_none, rfv_some, rfv_none, aft_s, tl_some, tl_none, w_I, w_L, w_f, List.nil_append, okRb0, okRb1, okRb, Sum.inl.injEq, Prod.mk.injEq, i10, b2i_t, b2i_f, true_and, and_true, or_true, true_or, o10, o11, ir0, hc, hr, e6, e1a, e1b, e1c, e2a, e2b, e2c, e3a, e3b, e3c]
  exact hK
theorem lc_28 {t : Nat} (hC : CI D I A t) (hR : RI I A t) (ht : 6 * t + 6 ≤ Ln) (hL : Ln ≤ 384) (K : ∀ D' I' L' A', CI D' I' A' (t + 1) → RI I' A' (t + 1) → LG xs Ln 18 (t + 1) [] (mkW D' I' L')) : LG xs Ln 33 t [.int 28] (mkW D I L) := by
  obtain ⟨D', I1, L1, I2, L2, hc, hr, hCI, hRI⟩ := both (d1 := 8) (d2 := 107) (n1 := 114) (n2 := 242) (as1 := [.ref 0, .int (xs (6 * t + 1)), .int (xs (6 * t + 2)), .int (xs (6 * t + 3))]) (as2 := [.ref 82, .int (xs (6 * t + 1)), .int (xs (6 * t + 2)), .int (xs (6 * t + 3))]) (A' := A) (x := aWhich (sa A) (xs (6 * t + 1)) (xs (6 * t + 2)) (xs (6 * t + 3))) hR (C_which (xs := xs) (Ln := Ln) (d := 0) (L := L) rfl hC) (qa (fun D I L v hK hA hc => r_which (d := 0) hK hA hc)) (by decide) (by decide)
  have hK := K D' I2 L2 _ hCI hRI
  unfold LG at hK ⊢
  have e6 : nI (6 * t) + 6 = nI (6 * (t + 1)) := nI_add (6 * t) 6
  have e1a : nI (6 * t) + 1 = nI (6 * t + 1) := nI_add (6 * t) 1
  have e1b : ¬ (nI (6 * t + 1) < 0 ∨ Ln ≤ 6 * t + 1) := by have := n_bd (i := 6 * t + 1) (n := Ln) (by omega) (by omega); rw [n_cl (by omega)] at this; exact this
  have e1c : (nI (6 * t + 1)).toNatClampNeg = 6 * t + 1 := n_cl (by omega)
  have e2a : nI (6 * t) + 2 = nI (6 * t + 2) := nI_add (6 * t) 2
  have e2b : ¬ (nI (6 * t + 2) < 0 ∨ Ln ≤ 6 * t + 2) := by have := n_bd (i := 6 * t + 2) (n := Ln) (by omega) (by omega); rw [n_cl (by omega)] at this; exact this
  have e2c : (nI (6 * t + 2)).toNatClampNeg = 6 * t + 2 := n_cl (by omega)
  have e3a : nI (6 * t) + 3 = nI (6 * t + 3) := nI_add (6 * t) 3
  have e3b : ¬ (nI (6 * t + 3) < 0 ∨ Ln ≤ 6 * t + 3) := by have := n_bd (i := 6 * t + 3) (n := Ln) (by omega) (by omega); rw [n_cl (by omega)] at this; exact this
  have e3c : (nI (6 * t + 3)).toNatClampNeg = 6 * t + 3 := n_cl (by omega)
  simp only [S_L_law_33_28, S_L_law_1186, S_L_law_1187, S_L_law_1188, S_L_law_1189, S_L_law_1190, S_L_law_1191, S_L_law_1192, S_L_law_1193, S_L_law_1194, S_L_law_1195, S_L_law_1196, S_L_law_1197, S_L_law_1198, S_L_law_1199, S_L_law_1200, S_L_law_1201, S_L_law_1202, S_L_law_1205, S_L_law_1206, S_L_law_1207, S_L_law_1208, S_L_law_1209, S_L_law_1210, S_L_law_1211, S_L_law_1212, S_L_law_1213, S_L_law_1214, S_L_law_1215, S_L_law_1216, S_L_law_1217, S_L_law_1218, S_L_law_1219, S_L_law_1220, S_L_law_1221, S_L_law_1224, S_L_law_1227, S_L_law_1228, S_L_law_1785, S_L_law_1788, if_true, if_false, ite_true, ite_false, not_false_eq_true, not_true_eq_false, isRf_ref, isRf_null, c1_int, c1_ref, c1_null, c1_none, rfv_some, rfv_none, aft_s, tl_some, tl_none, w_I, w_L, w_f, List.nil_append, okRb0, okRb1, okRb, Sum.inl.injEq, Prod.mk.injEq, i10, b2i_t, b2i_f, true_and, and_true, or_true, true_or, o10, o11, ir0, hc, hr, e6, e1a, e1b, e1c, e2a, e2b, e2c, e3a, e3b, e3c]
  exact hK
theorem lc_29 {t : Nat} (hC : CI D I A t) (hR : RI I A t) (ht : 6 * t + 6 ≤ Ln) (hL : Ln ≤ 384) (K : ∀ D' I' L' A', CI D' I' A' (t + 1) → RI I' A' (t + 1) → LG xs Ln 18 (t + 1) [] (mkW D' I' L')) : LG xs Ln 33 t [.int 29] (mkW D I L) := by
  obtain ⟨D', I1, L1, I2, L2, hc, hr, hCI, hRI⟩ := both (d1 := 8) (d2 := 106) (n1 := 115) (n2 := 243) (as1 := [.ref 0, .int (xs (6 * t + 1))]) (as2 := [.ref 82, .int (xs (6 * t + 1))]) (A' := A) (x := aFarthest (sa A) (xs (6 * t + 1))) hR (C_farthest (xs := xs) (Ln := Ln) (d := 0) (L := L) rfl hC) (qa (fun D I L v hK hA hc => r_farthest (d := 0) hK hA hc)) (by decide) (by decide)
  have hK := K D' I2 L2 _ hCI hRI
  unfold LG at hK ⊢
  have e6 : nI (6 * t) + 6 = nI (6 * (t + 1)) := nI_add (6 * t) 6
  have e1a : nI (6 * t) + 1 = nI (6 * t + 1) := nI_add (6 * t) 1
  have e1b : ¬ (nI (6 * t + 1) < 0 ∨ Ln ≤ 6 * t + 1) := by have := n_bd (i := 6 * t + 1) (n := Ln) (by omega) (by omega); rw [n_cl (by omega)] at this; exact this
  have e1c : (nI (6 * t + 1)).toNatClampNeg = 6 * t + 1 := n_cl (by omega)
  simp only [S_L_law_33_29, S_L_law_1229, S_L_law_1230, S_L_law_1231, S_L_law_1232, S_L_law_1233, S_L_law_1234, S_L_law_1235, S_L_law_1238, S_L_law_1239, S_L_law_1240, S_L_law_1241, S_L_law_1242, S_L_law_1243, S_L_law_1244, S_L_law_1247, S_L_law_1250, S_L_law_1251, S_L_law_1785, S_L_law_1788, if_true, if_false, ite_true, ite_false, not_false_eq_true, not_true_eq_false, isRf_ref, isRf_null, c1_int, c1_ref, c1_null, c1_none, rfv_some, rfv_none, aft_s, tl_some, tl_none, w_I, w_L, w_f, List.nil_append, okRb0, okRb1, okRb, Sum.inl.injEq, Prod.mk.injEq, i10, b2i_t, b2i_f, true_and, and_true, or_true, true_or, o10, o11, ir0, hc, hr, e6, e1a, e1b, e1c]
  exact hK
theorem lc_30 {t : Nat} (hC : CI D I A t) (hR : RI I A t) (ht : 6 * t + 6 ≤ Ln) (hL : Ln ≤ 384) (K : ∀ D' I' L' A', CI D' I' A' (t + 1) → RI I' A' (t + 1) → LG xs Ln 18 (t + 1) [] (mkW D' I' L')) : LG xs Ln 33 t [.int 30] (mkW D I L) := by
  obtain ⟨D', I1, L1, I2, L2, hc, hr, hCI, hRI⟩ := both (d1 := 8) (d2 := 106) (n1 := 116) (n2 := 244) (as1 := [.ref 0, .int (xs (6 * t + 1))]) (as2 := [.ref 82, .int (xs (6 * t + 1))]) (A' := A) (x := aBar (sa A) (xs (6 * t + 1))) hR (C_bar (xs := xs) (Ln := Ln) (d := 0) (L := L) rfl hC) (qa (fun D I L v hK hA hc => r_bar (d := 0) hK hA hc)) (by decide) (by decide)
  have hK := K D' I2 L2 _ hCI hRI
  unfold LG at hK ⊢
  have e6 : nI (6 * t) + 6 = nI (6 * (t + 1)) := nI_add (6 * t) 6
  have e1a : nI (6 * t) + 1 = nI (6 * t + 1) := nI_add (6 * t) 1
  have e1b : ¬ (nI (6 * t + 1) < 0 ∨ Ln ≤ 6 * t + 1) := by have := n_bd (i := 6 * t + 1) (n := Ln) (by omega) (by omega); rw [n_cl (by omega)] at this; exact this
  have e1c : (nI (6 * t + 1)).toNatClampNeg = 6 * t + 1 := n_cl (by omega)
  simp only [S_L_law_33_30, S_L_law_1252, S_L_law_1253, S_L_law_1254, S_L_law_1255, S_L_law_1256, S_L_law_1257, S_L_law_1258, S_L_law_1261, S_L_law_1262, S_L_law_1263, S_L_law_1264, S_L_law_1265, S_L_law_1266, S_L_law_1267, S_L_law_1270, S_L_law_1273, S_L_law_1274, S_L_law_1785, S_L_law_1788, if_true, if_false, ite_true, ite_false, not_false_eq_true, not_true_eq_false, isRf_ref, isRf_null, c1_int, c1_ref, c1_null, c1_none, rfv_some, rfv_none, aft_s, tl_some, tl_none, w_I, w_L, w_f, List.nil_append, okRb0, okRb1, okRb, Sum.inl.injEq, Prod.mk.injEq, i10, b2i_t, b2i_f, true_and, and_true, or_true, true_or, o10, o11, ir0, hc, hr, e6, e1a, e1b, e1c]
  exact hK
theorem lc_31 {t : Nat} (hC : CI D I A t) (hR : RI I A t) (ht : 6 * t + 6 ≤ Ln) (hL : Ln ≤ 384) (K : ∀ D' I' L' A', CI D' I' A' (t + 1) → RI I' A' (t + 1) → LG xs Ln 18 (t + 1) [] (mkW D' I' L')) : LG xs Ln 33 t [.int 31] (mkW D I L) := by
  obtain ⟨D', I1, L1, I2, L2, hc, hr, hCI, hRI⟩ := both (d1 := 8) (d2 := 107) (n1 := 117) (n2 := 245) (as1 := [.ref 0, .int (xs (6 * t + 1)), .int (xs (6 * t + 2))]) (as2 := [.ref 82, .int (xs (6 * t + 1)), .int (xs (6 * t + 2))]) (A' := A) (x := aPlod (sa A) (xs (6 * t + 1)) (xs (6 * t + 2))) hR (C_plod (xs := xs) (Ln := Ln) (d := 0) (L := L) rfl hC) (qa (fun D I L v hK hA hc => r_plod (d := 0) hK hA hc)) (by decide) (by decide)
  have hK := K D' I2 L2 _ hCI hRI
  unfold LG at hK ⊢
  have e6 : nI (6 * t) + 6 = nI (6 * (t + 1)) := nI_add (6 * t) 6
  have e1a : nI (6 * t) + 1 = nI (6 * t + 1) := nI_add (6 * t) 1
  have e1b : ¬ (nI (6 * t + 1) < 0 ∨ Ln ≤ 6 * t + 1) := by have := n_bd (i := 6 * t + 1) (n := Ln) (by omega) (by omega); rw [n_cl (by omega)] at this; exact this
  have e1c : (nI (6 * t + 1)).toNatClampNeg = 6 * t + 1 := n_cl (by omega)
  have e2a : nI (6 * t) + 2 = nI (6 * t + 2) := nI_add (6 * t) 2
  have e2b : ¬ (nI (6 * t + 2) < 0 ∨ Ln ≤ 6 * t + 2) := by have := n_bd (i := 6 * t + 2) (n := Ln) (by omega) (by omega); rw [n_cl (by omega)] at this; exact this
  have e2c : (nI (6 * t + 2)).toNatClampNeg = 6 * t + 2 := n_cl (by omega)
  simp only [S_L_law_33_31, S_L_law_1275, S_L_law_1276, S_L_law_1277, S_L_law_1278, S_L_law_1279, S_L_law_1280, S_L_law_1281, S_L_law_1282, S_L_law_1283, S_L_law_1284, S_L_law_1285, S_L_law_1286, S_L_law_1289, S_L_law_1290, S_L_law_1291, S_L_law_1292, S_L_law_1293, S_L_law_1294, S_L_law_1295, S_L_law_1296, S_L_law_1297, S_L_law_1298, S_L_law_1299, S_L_law_1300, S_L_law_1303, S_L_law_1306, S_L_law_1307, S_L_law_1785, S_L_law_1788, if_true, if_false, ite_true, ite_false, not_false_eq_true, not_true_eq_false, isRf_ref, isRf_null, c1_int, c1_ref, c1_null, c1_none, rfv_some, rfv_none, aft_s, tl_some, tl_none, w_I, w_L, w_f, List.nil_append, okRb0, okRb1, okRb, Sum.inl.injEq, Prod.mk.injEq, i10, b2i_t, b2i_f, true_and, and_true, or_true, true_or, o10, o11, ir0, hc, hr, e6, e1a, e1b, e1c, e2a, e2b, e2c]
  exact hK
theorem lc_32 {t : Nat} (hC : CI D I A t) (hR : RI I A t) (ht : 6 * t + 6 ≤ Ln) (hL : Ln ≤ 384) (K : ∀ D' I' L' A', CI D' I' A' (t + 1) → RI I' A' (t + 1) → LG xs Ln 18 (t + 1) [] (mkW D' I' L')) : LG xs Ln 33 t [.int 32] (mkW D I L) := by
  obtain ⟨D', I1, L1, I2, L2, hc, hr, hCI, hRI⟩ := both (d1 := 8) (d2 := 105) (n1 := 118) (n2 := 248) (as1 := [.ref 0, .int (xs (6 * t + 1))]) (as2 := [.ref 82, .int (xs (6 * t + 1))]) (A' := A) (x := aSight (sa A) (xs (6 * t + 1))) hR (C_sight (xs := xs) (Ln := Ln) (d := 0) (L := L) rfl hC) (qa (fun D I L v hK hA hc => r_sight (d := 0) hK hA hc)) (by decide) (by decide)
  have hK := K D' I2 L2 _ hCI hRI
  unfold LG at hK ⊢
  have e6 : nI (6 * t) + 6 = nI (6 * (t + 1)) := nI_add (6 * t) 6
  have e1a : nI (6 * t) + 1 = nI (6 * t + 1) := nI_add (6 * t) 1
  have e1b : ¬ (nI (6 * t + 1) < 0 ∨ Ln ≤ 6 * t + 1) := by have := n_bd (i := 6 * t + 1) (n := Ln) (by omega) (by omega); rw [n_cl (by omega)] at this; exact this
  have e1c : (nI (6 * t + 1)).toNatClampNeg = 6 * t + 1 := n_cl (by omega)
  simp only [S_L_law_33_32, S_L_law_1308, S_L_law_1309, S_L_law_1310, S_L_law_1311, S_L_law_1312, S_L_law_1313, S_L_law_1314, S_L_law_1317, S_L_law_1318, S_L_law_1319, S_L_law_1320, S_L_law_1321, S_L_law_1322, S_L_law_1323, S_L_law_1326, S_L_law_1329, S_L_law_1330, S_L_law_1785, S_L_law_1788, if_true, if_false, ite_true, ite_false, not_false_eq_true, not_true_eq_false, isRf_ref, isRf_null, c1_int, c1_ref, c1_null, c1_none, rfv_some, rfv_none, aft_s, tl_some, tl_none, w_I, w_L, w_f, List.nil_append, okRb0, okRb1, okRb, Sum.inl.injEq, Prod.mk.injEq, i10, b2i_t, b2i_f, true_and, and_true, or_true, true_or, o10, o11, ir0, hc, hr, e6, e1a, e1b, e1c]
  exact hK
theorem lc_33 {t : Nat} (hC : CI D I A t) (hR : RI I A t) (ht : 6 * t + 6 ≤ Ln) (hL : Ln ≤ 384) (K : ∀ D' I' L' A', CI D' I' A' (t + 1) → RI I' A' (t + 1) → LG xs Ln 18 (t + 1) [] (mkW D' I' L')) : LG xs Ln 33 t [.int 33] (mkW D I L) := by
  obtain ⟨D', I1, L1, I2, L2, hc, hr, hCI, hRI⟩ := both (d1 := 8) (d2 := 106) (n1 := 119) (n2 := 249) (as1 := [.ref 0, .int (xs (6 * t + 1))]) (as2 := [.ref 82, .int (xs (6 * t + 1))]) (A' := A) (x := aAsk (sa A) (xs (6 * t + 1))) hR (C_ask (xs := xs) (Ln := Ln) (d := 0) (L := L) rfl hC) (qa (fun D I L v hK hA hc => r_ask (d := 0) hK hA hc)) (by decide) (by decide)
  have hK := K D' I2 L2 _ hCI hRI
  unfold LG at hK ⊢
  have e6 : nI (6 * t) + 6 = nI (6 * (t + 1)) := nI_add (6 * t) 6
  have e1a : nI (6 * t) + 1 = nI (6 * t + 1) := nI_add (6 * t) 1
  have e1b : ¬ (nI (6 * t + 1) < 0 ∨ Ln ≤ 6 * t + 1) := by have := n_bd (i := 6 * t + 1) (n := Ln) (by omega) (by omega); rw [n_cl (by omega)] at this; exact this
  have e1c : (nI (6 * t + 1)).toNatClampNeg = 6 * t + 1 := n_cl (by omega)
  simp only [S_L_law_33_33, S_L_law_1331, S_L_law_1332, S_L_law_1333, S_L_law_1334, S_L_law_1335, S_L_law_1336, S_L_law_1337, S_L_law_1340, S_L_law_1341, S_L_law_1342, S_L_law_1343, S_L_law_1344, S_L_law_1345, S_L_law_1346, S_L_law_1349, S_L_law_1352, S_L_law_1353, S_L_law_1785, S_L_law_1788, if_true, if_false, ite_true, ite_false, not_false_eq_true, not_true_eq_false, isRf_ref, isRf_null, c1_int, c1_ref, c1_null, c1_none, rfv_some, rfv_none, aft_s, tl_some, tl_none, w_I, w_L, w_f, List.nil_append, okRb0, okRb1, okRb, Sum.inl.injEq, Prod.mk.injEq, i10, b2i_t, b2i_f, true_and, and_true, or_true, true_or, o10, o11, ir0, hc, hr, e6, e1a, e1b, e1c]
  exact hK
theorem lc_34 {t : Nat} (hC : CI D I A t) (hR : RI I A t) (ht : 6 * t + 6 ≤ Ln) (hL : Ln ≤ 384) (K : ∀ D' I' L' A', CI D' I' A' (t + 1) → RI I' A' (t + 1) → LG xs Ln 18 (t + 1) [] (mkW D' I' L')) : LG xs Ln 33 t [.int 34] (mkW D I L) := by
  obtain ⟨D', I1, L1, I2, L2, hc, hr, hCI, hRI⟩ := both (d1 := 8) (d2 := 3) (n1 := 120) (n2 := 251) (as1 := [.ref 0, .int (xs (6 * t + 1))]) (as2 := [.ref 82, .int (xs (6 * t + 1))]) (A' := (nHold A (xs (6 * t + 1))).1) (x := (nHold A (xs (6 * t + 1))).2) hR (C_hold (xs := xs) (Ln := Ln) (d := 0) (L := L) hC) (fun D I L h => R_hold (d := 0) h (by omega)) (by decide) (by decide)
  have hK := K D' I2 L2 _ hCI hRI
  unfold LG at hK ⊢
  have e6 : nI (6 * t) + 6 = nI (6 * (t + 1)) := nI_add (6 * t) 6
  have e1a : nI (6 * t) + 1 = nI (6 * t + 1) := nI_add (6 * t) 1
  have e1b : ¬ (nI (6 * t + 1) < 0 ∨ Ln ≤ 6 * t + 1) := by have := n_bd (i := 6 * t + 1) (n := Ln) (by omega) (by omega); rw [n_cl (by omega)] at this; exact this
  have e1c : (nI (6 * t + 1)).toNatClampNeg = 6 * t + 1 := n_cl (by omega)
  simp only [S_L_law_33_34, S_L_law_1354, S_L_law_1355, S_L_law_1356, S_L_law_1357, S_L_law_1358, S_L_law_1359, S_L_law_1360, S_L_law_1363, S_L_law_1364, S_L_law_1365, S_L_law_1366, S_L_law_1367, S_L_law_1368, S_L_law_1369, S_L_law_1372, S_L_law_1375, S_L_law_1376, S_L_law_1785, S_L_law_1788, if_true, if_false, ite_true, ite_false, not_false_eq_true, not_true_eq_false, isRf_ref, isRf_null, c1_int, c1_ref, c1_null, c1_none, rfv_some, rfv_none, aft_s, tl_some, tl_none, w_I, w_L, w_f, List.nil_append, okRb0, okRb1, okRb, Sum.inl.injEq, Prod.mk.injEq, i10, b2i_t, b2i_f, true_and, and_true, or_true, true_or, o10, o11, ir0, hc, hr, e6, e1a, e1b, e1c]
  exact hK
theorem lc_35 {t : Nat} (hC : CI D I A t) (hR : RI I A t) (ht : 6 * t + 6 ≤ Ln) (hL : Ln ≤ 384) (K : ∀ D' I' L' A', CI D' I' A' (t + 1) → RI I' A' (t + 1) → LG xs Ln 18 (t + 1) [] (mkW D' I' L')) : LG xs Ln 33 t [.int 35] (mkW D I L) := by
  obtain ⟨D', I1, L1, I2, L2, hc, hr, hCI, hRI⟩ := both (d1 := 8) (d2 := 3) (n1 := 121) (n2 := 252) (as1 := [.ref 0, .int (xs (6 * t + 1))]) (as2 := [.ref 82, .int (xs (6 * t + 1))]) (A' := (nDrop A (xs (6 * t + 1))).1) (x := (nDrop A (xs (6 * t + 1))).2) hR (C_drop (xs := xs) (Ln := Ln) (d := 0) (L := L) hC) (fun D I L h => R_drop (d := 0) h (by omega)) (by decide) (by decide)
  have hK := K D' I2 L2 _ hCI hRI
  unfold LG at hK ⊢
  have e6 : nI (6 * t) + 6 = nI (6 * (t + 1)) := nI_add (6 * t) 6
  have e1a : nI (6 * t) + 1 = nI (6 * t + 1) := nI_add (6 * t) 1
  have e1b : ¬ (nI (6 * t + 1) < 0 ∨ Ln ≤ 6 * t + 1) := by have := n_bd (i := 6 * t + 1) (n := Ln) (by omega) (by omega); rw [n_cl (by omega)] at this; exact this
  have e1c : (nI (6 * t + 1)).toNatClampNeg = 6 * t + 1 := n_cl (by omega)
  simp only [S_L_law_33_35, S_L_law_1377, S_L_law_1378, S_L_law_1379, S_L_law_1380, S_L_law_1381, S_L_law_1382, S_L_law_1383, S_L_law_1386, S_L_law_1387, S_L_law_1388, S_L_law_1389, S_L_law_1390, S_L_law_1391, S_L_law_1392, S_L_law_1395, S_L_law_1398, S_L_law_1399, S_L_law_1785, S_L_law_1788, if_true, if_false, ite_true, ite_false, not_false_eq_true, not_true_eq_false, isRf_ref, isRf_null, c1_int, c1_ref, c1_null, c1_none, rfv_some, rfv_none, aft_s, tl_some, tl_none, w_I, w_L, w_f, List.nil_append, okRb0, okRb1, okRb, Sum.inl.injEq, Prod.mk.injEq, i10, b2i_t, b2i_f, true_and, and_true, or_true, true_or, o10, o11, ir0, hc, hr, e6, e1a, e1b, e1c]
  exact hK
theorem lc_36 {t : Nat} (hC : CI D I A t) (hR : RI I A t) (ht : 6 * t + 6 ≤ Ln) (hL : Ln ≤ 384) (K : ∀ D' I' L' A', CI D' I' A' (t + 1) → RI I' A' (t + 1) → LG xs Ln 18 (t + 1) [] (mkW D' I' L')) : LG xs Ln 33 t [.int 36] (mkW D I L) := by
  obtain ⟨D', I1, L1, I2, L2, hc, hr, hCI, hRI⟩ := both (d1 := 8) (d2 := 3) (n1 := 122) (n2 := 253) (as1 := [.ref 0, .int (xs (6 * t + 1))]) (as2 := [.ref 82, .int (xs (6 * t + 1))]) (A' := A) (x := qHeld A (xs (6 * t + 1))) hR (C_held (xs := xs) (Ln := Ln) (d := 0) (L := L) rfl hC) (fun D I L h => R_held (d := 0) h) (by decide) (by decide)
  have hK := K D' I2 L2 _ hCI hRI
  unfold LG at hK ⊢
  have e6 : nI (6 * t) + 6 = nI (6 * (t + 1)) := nI_add (6 * t) 6
  have e1a : nI (6 * t) + 1 = nI (6 * t + 1) := nI_add (6 * t) 1
  have e1b : ¬ (nI (6 * t + 1) < 0 ∨ Ln ≤ 6 * t + 1) := by have := n_bd (i := 6 * t + 1) (n := Ln) (by omega) (by omega); rw [n_cl (by omega)] at this; exact this
  have e1c : (nI (6 * t + 1)).toNatClampNeg = 6 * t + 1 := n_cl (by omega)
  simp only [S_L_law_33_36, S_L_law_1400, S_L_law_1401, S_L_law_1402, S_L_law_1403, S_L_law_1404, S_L_law_1405, S_L_law_1406, S_L_law_1409, S_L_law_1410, S_L_law_1411, S_L_law_1412, S_L_law_1413, S_L_law_1414, S_L_law_1415, S_L_law_1418, S_L_law_1421, S_L_law_1422, S_L_law_1785, S_L_law_1788, if_true, if_false, ite_true, ite_false, not_false_eq_true, not_true_eq_false, isRf_ref, isRf_null, c1_int, c1_ref, c1_null, c1_none, rfv_some, rfv_none, aft_s, tl_some, tl_none, w_I, w_L, w_f, List.nil_append, okRb0, okRb1, okRb, Sum.inl.injEq, Prod.mk.injEq, i10, b2i_t, b2i_f, true_and, and_true, or_true, true_or, o10, o11, ir0, hc, hr, e6, e1a, e1b, e1c]
  exact hK
theorem lc_37 {t : Nat} (hC : CI D I A t) (hR : RI I A t) (ht : 6 * t + 6 ≤ Ln) (hL : Ln ≤ 384) (K : ∀ D' I' L' A', CI D' I' A' (t + 1) → RI I' A' (t + 1) → LG xs Ln 18 (t + 1) [] (mkW D' I' L')) : LG xs Ln 33 t [.int 37] (mkW D I L) := by
  obtain ⟨D', I1, L1, I2, L2, hc, hr, hCI, hRI⟩ := both (d1 := 8) (d2 := 2) (n1 := 123) (n2 := 255) (as1 := [.ref 0, .int (xs (6 * t + 1))]) (as2 := [.ref 82, .int (xs (6 * t + 1))]) (A' := A) (x := qKth A (xs (6 * t + 1))) hR (C_kth (xs := xs) (Ln := Ln) (d := 0) (L := L) rfl hC) (fun D I L h => R_kth (d := 0) h) (by decide) (by decide)
  have hK := K D' I2 L2 _ hCI hRI
  unfold LG at hK ⊢
  have e6 : nI (6 * t) + 6 = nI (6 * (t + 1)) := nI_add (6 * t) 6
  have e1a : nI (6 * t) + 1 = nI (6 * t + 1) := nI_add (6 * t) 1
  have e1b : ¬ (nI (6 * t + 1) < 0 ∨ Ln ≤ 6 * t + 1) := by have := n_bd (i := 6 * t + 1) (n := Ln) (by omega) (by omega); rw [n_cl (by omega)] at this; exact this
  have e1c : (nI (6 * t + 1)).toNatClampNeg = 6 * t + 1 := n_cl (by omega)
  simp only [S_L_law_33_37, S_L_law_1423, S_L_law_1424, S_L_law_1425, S_L_law_1426, S_L_law_1427, S_L_law_1428, S_L_law_1429, S_L_law_1432, S_L_law_1433, S_L_law_1434, S_L_law_1435, S_L_law_1436, S_L_law_1437, S_L_law_1438, S_L_law_1441, S_L_law_1444, S_L_law_1445, S_L_law_1785, S_L_law_1788, if_true, if_false, ite_true, ite_false, not_false_eq_true, not_true_eq_false, isRf_ref, isRf_null, c1_int, c1_ref, c1_null, c1_none, rfv_some, rfv_none, aft_s, tl_some, tl_none, w_I, w_L, w_f, List.nil_append, okRb0, okRb1, okRb, Sum.inl.injEq, Prod.mk.injEq, i10, b2i_t, b2i_f, true_and, and_true, or_true, true_or, o10, o11, ir0, hc, hr, e6, e1a, e1b, e1c]
  exact hK
theorem lc_38 {t : Nat} (hC : CI D I A t) (hR : RI I A t) (ht : 6 * t + 6 ≤ Ln) (hL : Ln ≤ 384) (K : ∀ D' I' L' A', CI D' I' A' (t + 1) → RI I' A' (t + 1) → LG xs Ln 18 (t + 1) [] (mkW D' I' L')) : LG xs Ln 33 t [.int 38] (mkW D I L) := by
  obtain ⟨D', I1, L1, I2, L2, hc, hr, hCI, hRI⟩ := both (d1 := 8) (d2 := 3) (n1 := 124) (n2 := 256) (as1 := [.ref 0, .int (xs (6 * t + 1))]) (as2 := [.ref 82, .int (xs (6 * t + 1))]) (A' := A) (x := qRank A (xs (6 * t + 1))) hR (C_rank (xs := xs) (Ln := Ln) (d := 0) (L := L) rfl hC) (fun D I L h => R_rank (d := 0) h) (by decide) (by decide)
  have hK := K D' I2 L2 _ hCI hRI
  unfold LG at hK ⊢
  have e6 : nI (6 * t) + 6 = nI (6 * (t + 1)) := nI_add (6 * t) 6
  have e1a : nI (6 * t) + 1 = nI (6 * t + 1) := nI_add (6 * t) 1
  have e1b : ¬ (nI (6 * t + 1) < 0 ∨ Ln ≤ 6 * t + 1) := by have := n_bd (i := 6 * t + 1) (n := Ln) (by omega) (by omega); rw [n_cl (by omega)] at this; exact this
  have e1c : (nI (6 * t + 1)).toNatClampNeg = 6 * t + 1 := n_cl (by omega)
  simp only [S_L_law_33_38, S_L_law_1446, S_L_law_1447, S_L_law_1448, S_L_law_1449, S_L_law_1450, S_L_law_1451, S_L_law_1452, S_L_law_1455, S_L_law_1456, S_L_law_1457, S_L_law_1458, S_L_law_1459, S_L_law_1460, S_L_law_1461, S_L_law_1464, S_L_law_1467, S_L_law_1468, S_L_law_1785, S_L_law_1788, if_true, if_false, ite_true, ite_false, not_false_eq_true, not_true_eq_false, isRf_ref, isRf_null, c1_int, c1_ref, c1_null, c1_none, rfv_some, rfv_none, aft_s, tl_some, tl_none, w_I, w_L, w_f, List.nil_append, okRb0, okRb1, okRb, Sum.inl.injEq, Prod.mk.injEq, i10, b2i_t, b2i_f, true_and, and_true, or_true, true_or, o10, o11, ir0, hc, hr, e6, e1a, e1b, e1c]
  exact hK
theorem lc_39 {t : Nat} (hC : CI D I A t) (hR : RI I A t) (ht : 6 * t + 6 ≤ Ln) (hL : Ln ≤ 384) (K : ∀ D' I' L' A', CI D' I' A' (t + 1) → RI I' A' (t + 1) → LG xs Ln 18 (t + 1) [] (mkW D' I' L')) : LG xs Ln 33 t [.int 39] (mkW D I L) := by
  obtain ⟨D', I1, L1, I2, L2, hc, hr, hCI, hRI⟩ := both (d1 := 8) (d2 := 3) (n1 := 125) (n2 := 257) (as1 := [.ref 0, .int (xs (6 * t + 1)), .int (xs (6 * t + 2))]) (as2 := [.ref 82, .int (xs (6 * t + 1)), .int (xs (6 * t + 2))]) (A' := A) (x := qAbout A (xs (6 * t + 1)) (xs (6 * t + 2))) hR (C_about (xs := xs) (Ln := Ln) (d := 0) (L := L) rfl hC) (fun D I L h => R_about (d := 0) h) (by decide) (by decide)
  have hK := K D' I2 L2 _ hCI hRI
  unfold LG at hK ⊢
  have e6 : nI (6 * t) + 6 = nI (6 * (t + 1)) := nI_add (6 * t) 6
  have e1a : nI (6 * t) + 1 = nI (6 * t + 1) := nI_add (6 * t) 1
  have e1b : ¬ (nI (6 * t + 1) < 0 ∨ Ln ≤ 6 * t + 1) := by have := n_bd (i := 6 * t + 1) (n := Ln) (by omega) (by omega); rw [n_cl (by omega)] at this; exact this
  have e1c : (nI (6 * t + 1)).toNatClampNeg = 6 * t + 1 := n_cl (by omega)
  have e2a : nI (6 * t) + 2 = nI (6 * t + 2) := nI_add (6 * t) 2
  have e2b : ¬ (nI (6 * t + 2) < 0 ∨ Ln ≤ 6 * t + 2) := by have := n_bd (i := 6 * t + 2) (n := Ln) (by omega) (by omega); rw [n_cl (by omega)] at this; exact this
  have e2c : (nI (6 * t + 2)).toNatClampNeg = 6 * t + 2 := n_cl (by omega)
  simp only [S_L_law_33_39, S_L_law_1469, S_L_law_1470, S_L_law_1471, S_L_law_1472, S_L_law_1473, S_L_law_1474, S_L_law_1475, S_L_law_1476, S_L_law_1477, S_L_law_1478, S_L_law_1479, S_L_law_1480, S_L_law_1483, S_L_law_1484, S_L_law_1485, S_L_law_1486, S_L_law_1487, S_L_law_1488, S_L_law_1489, S_L_law_1490, S_L_law_1491, S_L_law_1492, S_L_law_1493, S_L_law_1494, S_L_law_1497, S_L_law_1500, S_L_law_1501, S_L_law_1785, S_L_law_1788, if_true, if_false, ite_true, ite_false, not_false_eq_true, not_true_eq_false, isRf_ref, isRf_null, c1_int, c1_ref, c1_null, c1_none, rfv_some, rfv_none, aft_s, tl_some, tl_none, w_I, w_L, w_f, List.nil_append, okRb0, okRb1, okRb, Sum.inl.injEq, Prod.mk.injEq, i10, b2i_t, b2i_f, true_and, and_true, or_true, true_or, o10, o11, ir0, hc, hr, e6, e1a, e1b, e1c, e2a, e2b, e2c]
  exact hK
theorem lc_40 {t : Nat} (hC : CI D I A t) (hR : RI I A t) (ht : 6 * t + 6 ≤ Ln) (hL : Ln ≤ 384) (K : ∀ D' I' L' A', CI D' I' A' (t + 1) → RI I' A' (t + 1) → LG xs Ln 18 (t + 1) [] (mkW D' I' L')) : LG xs Ln 33 t [.int 40] (mkW D I L) := by
  obtain ⟨D', I1, L1, I2, L2, hc, hr, hCI, hRI⟩ := both (d1 := 8) (d2 := 3) (n1 := 126) (n2 := 258) (as1 := [.ref 0, .int (xs (6 * t + 1)), .int (xs (6 * t + 2))]) (as2 := [.ref 82, .int (xs (6 * t + 1)), .int (xs (6 * t + 2))]) (A' := A) (x := qNear A (xs (6 * t + 1)) (xs (6 * t + 2))) hR (C_near (xs := xs) (Ln := Ln) (d := 0) (L := L) rfl hC) (fun D I L h => R_near (d := 0) h) (by decide) (by decide)
  have hK := K D' I2 L2 _ hCI hRI
  unfold LG at hK ⊢
  have e6 : nI (6 * t) + 6 = nI (6 * (t + 1)) := nI_add (6 * t) 6
  have e1a : nI (6 * t) + 1 = nI (6 * t + 1) := nI_add (6 * t) 1
  have e1b : ¬ (nI (6 * t + 1) < 0 ∨ Ln ≤ 6 * t + 1) := by have := n_bd (i := 6 * t + 1) (n := Ln) (by omega) (by omega); rw [n_cl (by omega)] at this; exact this
  have e1c : (nI (6 * t + 1)).toNatClampNeg = 6 * t + 1 := n_cl (by omega)
  have e2a : nI (6 * t) + 2 = nI (6 * t + 2) := nI_add (6 * t) 2
  have e2b : ¬ (nI (6 * t + 2) < 0 ∨ Ln ≤ 6 * t + 2) := by have := n_bd (i := 6 * t + 2) (n := Ln) (by omega) (by omega); rw [n_cl (by omega)] at this; exact this
  have e2c : (nI (6 * t + 2)).toNatClampNeg = 6 * t + 2 := n_cl (by omega)
  simp only [S_L_law_33_40, S_L_law_1502, S_L_law_1503, S_L_law_1504, S_L_law_1505, S_L_law_1506, S_L_law_1507, S_L_law_1508, S_L_law_1509, S_L_law_1510, S_L_law_1511, S_L_law_1512, S_L_law_1513, S_L_law_1516, S_L_law_1517, S_L_law_1518, S_L_law_1519, S_L_law_1520, S_L_law_1521, S_L_law_1522, S_L_law_1523, S_L_law_1524, S_L_law_1525, S_L_law_1526, S_L_law_1527, S_L_law_1530, S_L_law_1533, S_L_law_1534, S_L_law_1785, S_L_law_1788, if_true, if_false, ite_true, ite_false, not_false_eq_true, not_true_eq_false, isRf_ref, isRf_null, c1_int, c1_ref, c1_null, c1_none, rfv_some, rfv_none, aft_s, tl_some, tl_none, w_I, w_L, w_f, List.nil_append, okRb0, okRb1, okRb, Sum.inl.injEq, Prod.mk.injEq, i10, b2i_t, b2i_f, true_and, and_true, or_true, true_or, o10, o11, ir0, hc, hr, e6, e1a, e1b, e1c, e2a, e2b, e2c]
  exact hK
theorem lc_41 {t : Nat} (hC : CI D I A t) (hR : RI I A t) (ht : 6 * t + 6 ≤ Ln) (hL : Ln ≤ 384) (K : ∀ D' I' L' A', CI D' I' A' (t + 1) → RI I' A' (t + 1) → LG xs Ln 18 (t + 1) [] (mkW D' I' L')) : LG xs Ln 33 t [.int 41] (mkW D I L) := by
  obtain ⟨D', I1, L1, I2, L2, hc, hr, hCI, hRI⟩ := both (d1 := 8) (d2 := 3) (n1 := 127) (n2 := 259) (as1 := [.ref 0, .int (xs (6 * t + 1)), .int (xs (6 * t + 2))]) (as2 := [.ref 82, .int (xs (6 * t + 1)), .int (xs (6 * t + 2))]) (A' := A) (x := qBetw A (xs (6 * t + 1)) (xs (6 * t + 2))) hR (C_betw (xs := xs) (Ln := Ln) (d := 0) (L := L) rfl hC) (fun D I L h => R_betw (d := 0) h) (by decide) (by decide)
  have hK := K D' I2 L2 _ hCI hRI
  unfold LG at hK ⊢
  have e6 : nI (6 * t) + 6 = nI (6 * (t + 1)) := nI_add (6 * t) 6
  have e1a : nI (6 * t) + 1 = nI (6 * t + 1) := nI_add (6 * t) 1
  have e1b : ¬ (nI (6 * t + 1) < 0 ∨ Ln ≤ 6 * t + 1) := by have := n_bd (i := 6 * t + 1) (n := Ln) (by omega) (by omega); rw [n_cl (by omega)] at this; exact this
  have e1c : (nI (6 * t + 1)).toNatClampNeg = 6 * t + 1 := n_cl (by omega)
  have e2a : nI (6 * t) + 2 = nI (6 * t + 2) := nI_add (6 * t) 2
  have e2b : ¬ (nI (6 * t + 2) < 0 ∨ Ln ≤ 6 * t + 2) := by have := n_bd (i := 6 * t + 2) (n := Ln) (by omega) (by omega); rw [n_cl (by omega)] at this; exact this
  have e2c : (nI (6 * t + 2)).toNatClampNeg = 6 * t + 2 := n_cl (by omega)
  simp only [S_L_law_33_41, S_L_law_1535, S_L_law_1536, S_L_law_1537, S_L_law_1538, S_L_law_1539, S_L_law_1540, S_L_law_1541, S_L_law_1542, S_L_law_1543, S_L_law_1544, S_L_law_1545, S_L_law_1546, S_L_law_1549, S_L_law_1550, S_L_law_1551, S_L_law_1552, S_L_law_1553, S_L_law_1554, S_L_law_1555, S_L_law_1556, S_L_law_1557, S_L_law_1558, S_L_law_1559, S_L_law_1560, S_L_law_1563, S_L_law_1566, S_L_law_1567, S_L_law_1785, S_L_law_1788, if_true, if_false, ite_true, ite_false, not_false_eq_true, not_true_eq_false, isRf_ref, isRf_null, c1_int, c1_ref, c1_null, c1_none, rfv_some, rfv_none, aft_s, tl_some, tl_none, w_I, w_L, w_f, List.nil_append, okRb0, okRb1, okRb, Sum.inl.injEq, Prod.mk.injEq, i10, b2i_t, b2i_f, true_and, and_true, or_true, true_or, o10, o11, ir0, hc, hr, e6, e1a, e1b, e1c, e2a, e2b, e2c]
  exact hK
theorem lc_42 {t : Nat} (hC : CI D I A t) (hR : RI I A t) (ht : 6 * t + 6 ≤ Ln) (hL : Ln ≤ 384) (K : ∀ D' I' L' A', CI D' I' A' (t + 1) → RI I' A' (t + 1) → LG xs Ln 18 (t + 1) [] (mkW D' I' L')) : LG xs Ln 33 t [.int 42] (mkW D I L) := by
  obtain ⟨D', I1, L1, I2, L2, hc, hr, hCI, hRI⟩ := both (d1 := 8) (d2 := 3) (n1 := 128) (n2 := 260) (as1 := [.ref 0, .int (xs (6 * t + 1)), .int (xs (6 * t + 2))]) (as2 := [.ref 82, .int (xs (6 * t + 1)), .int (xs (6 * t + 2))]) (A' := (nWalker A (xs (6 * t + 1)) (xs (6 * t + 2))).1) (x := (nWalker A (xs (6 * t + 1)) (xs (6 * t + 2))).2) hR (C_walker (xs := xs) (Ln := Ln) (d := 0) (L := L) hC) (fun D I L h => R_walker (d := 0) h (by omega)) (by decide) (by decide)
  have hK := K D' I2 L2 _ hCI hRI
  unfold LG at hK ⊢
  have e6 : nI (6 * t) + 6 = nI (6 * (t + 1)) := nI_add (6 * t) 6
  have e1a : nI (6 * t) + 1 = nI (6 * t + 1) := nI_add (6 * t) 1
  have e1b : ¬ (nI (6 * t + 1) < 0 ∨ Ln ≤ 6 * t + 1) := by have := n_bd (i := 6 * t + 1) (n := Ln) (by omega) (by omega); rw [n_cl (by omega)] at this; exact this
  have e1c : (nI (6 * t + 1)).toNatClampNeg = 6 * t + 1 := n_cl (by omega)
  have e2a : nI (6 * t) + 2 = nI (6 * t + 2) := nI_add (6 * t) 2
  have e2b : ¬ (nI (6 * t + 2) < 0 ∨ Ln ≤ 6 * t + 2) := by have := n_bd (i := 6 * t + 2) (n := Ln) (by omega) (by omega); rw [n_cl (by omega)] at this; exact this
  have e2c : (nI (6 * t + 2)).toNatClampNeg = 6 * t + 2 := n_cl (by omega)
  simp only [S_L_law_33_42, S_L_law_1568, S_L_law_1569, S_L_law_1570, S_L_law_1571, S_L_law_1572, S_L_law_1573, S_L_law_1574, S_L_law_1575, S_L_law_1576, S_L_law_1577, S_L_law_1578, S_L_law_1579, S_L_law_1582, S_L_law_1583, S_L_law_1584, S_L_law_1585, S_L_law_1586, S_L_law_1587, S_L_law_1588, S_L_law_1589, S_L_law_1590, S_L_law_1591, S_L_law_1592, S_L_law_1593, S_L_law_1596, S_L_law_1599, S_L_law_1600, S_L_law_1785, S_L_law_1788, if_true, if_false, ite_true, ite_false, not_false_eq_true, not_true_eq_false, isRf_ref, isRf_null, c1_int, c1_ref, c1_null, c1_none, rfv_some, rfv_none, aft_s, tl_some, tl_none, w_I, w_L, w_f, List.nil_append, okRb0, okRb1, okRb, Sum.inl.injEq, Prod.mk.injEq, i10, b2i_t, b2i_f, true_and, and_true, or_true, true_or, o10, o11, ir0, hc, hr, e6, e1a, e1b, e1c, e2a, e2b, e2c]
  exact hK
theorem lc_43 {t : Nat} (hC : CI D I A t) (hR : RI I A t) (ht : 6 * t + 6 ≤ Ln) (hL : Ln ≤ 384) (K : ∀ D' I' L' A', CI D' I' A' (t + 1) → RI I' A' (t + 1) → LG xs Ln 18 (t + 1) [] (mkW D' I' L')) : LG xs Ln 33 t [.int 43] (mkW D I L) := by
  obtain ⟨D', I1, L1, I2, L2, hc, hr, hCI, hRI⟩ := both (d1 := 8) (d2 := 2) (n1 := 129) (n2 := 261) (as1 := [.ref 0, .int (xs (6 * t + 1))]) (as2 := [.ref 82, .int (xs (6 * t + 1))]) (A' := A) (x := qWhere A (xs (6 * t + 1))) hR (C_where (xs := xs) (Ln := Ln) (d := 0) (L := L) rfl hC) (fun D I L h => R_where (d := 0) h) (by decide) (by decide)
  have hK := K D' I2 L2 _ hCI hRI
  unfold LG at hK ⊢
  have e6 : nI (6 * t) + 6 = nI (6 * (t + 1)) := nI_add (6 * t) 6
  have e1a : nI (6 * t) + 1 = nI (6 * t + 1) := nI_add (6 * t) 1
  have e1b : ¬ (nI (6 * t + 1) < 0 ∨ Ln ≤ 6 * t + 1) := by have := n_bd (i := 6 * t + 1) (n := Ln) (by omega) (by omega); rw [n_cl (by omega)] at this; exact this
  have e1c : (nI (6 * t + 1)).toNatClampNeg = 6 * t + 1 := n_cl (by omega)
  simp only [S_L_law_33_43, S_L_law_1601, S_L_law_1602, S_L_law_1603, S_L_law_1604, S_L_law_1605, S_L_law_1606, S_L_law_1607, S_L_law_1610, S_L_law_1611, S_L_law_1612, S_L_law_1613, S_L_law_1614, S_L_law_1615, S_L_law_1616, S_L_law_1619, S_L_law_1622, S_L_law_1623, S_L_law_1785, S_L_law_1788, if_true, if_false, ite_true, ite_false, not_false_eq_true, not_true_eq_false, isRf_ref, isRf_null, c1_int, c1_ref, c1_null, c1_none, rfv_some, rfv_none, aft_s, tl_some, tl_none, w_I, w_L, w_f, List.nil_append, okRb0, okRb1, okRb, Sum.inl.injEq, Prod.mk.injEq, i10, b2i_t, b2i_f, true_and, and_true, or_true, true_or, o10, o11, ir0, hc, hr, e6, e1a, e1b, e1c]
  exact hK
theorem lc_44 {t : Nat} (hC : CI D I A t) (hR : RI I A t) (ht : 6 * t + 6 ≤ Ln) (hL : Ln ≤ 384) (K : ∀ D' I' L' A', CI D' I' A' (t + 1) → RI I' A' (t + 1) → LG xs Ln 18 (t + 1) [] (mkW D' I' L')) : LG xs Ln 33 t [.int 44] (mkW D I L) := by
  obtain ⟨D', I1, L1, I2, L2, hc, hr, hCI, hRI⟩ := both (d1 := 8) (d2 := 104) (n1 := 130) (n2 := 262) (as1 := [.ref 0, .int (xs (6 * t + 1))]) (as2 := [.ref 82, .int (xs (6 * t + 1))]) (A' := (nSay A (xs (6 * t + 1))).1) (x := (nSay A (xs (6 * t + 1))).2) hR (C_say (xs := xs) (Ln := Ln) (d := 0) (L := L) hC) (fun D I L h => R_say (d := 0) h (by omega)) (by decide) (by decide)
  have hK := K D' I2 L2 _ hCI hRI
  unfold LG at hK ⊢
  have e6 : nI (6 * t) + 6 = nI (6 * (t + 1)) := nI_add (6 * t) 6
  have e1a : nI (6 * t) + 1 = nI (6 * t + 1) := nI_add (6 * t) 1
  have e1b : ¬ (nI (6 * t + 1) < 0 ∨ Ln ≤ 6 * t + 1) := by have := n_bd (i := 6 * t + 1) (n := Ln) (by omega) (by omega); rw [n_cl (by omega)] at this; exact this
  have e1c : (nI (6 * t + 1)).toNatClampNeg = 6 * t + 1 := n_cl (by omega)
  simp only [S_L_law_33_44, S_L_law_1624, S_L_law_1625, S_L_law_1626, S_L_law_1627, S_L_law_1628, S_L_law_1629, S_L_law_1630, S_L_law_1633, S_L_law_1634, S_L_law_1635, S_L_law_1636, S_L_law_1637, S_L_law_1638, S_L_law_1639, S_L_law_1642, S_L_law_1645, S_L_law_1646, S_L_law_1785, S_L_law_1788, if_true, if_false, ite_true, ite_false, not_false_eq_true, not_true_eq_false, isRf_ref, isRf_null, c1_int, c1_ref, c1_null, c1_none, rfv_some, rfv_none, aft_s, tl_some, tl_none, w_I, w_L, w_f, List.nil_append, okRb0, okRb1, okRb, Sum.inl.injEq, Prod.mk.injEq, i10, b2i_t, b2i_f, true_and, and_true, or_true, true_or, o10, o11, ir0, hc, hr, e6, e1a, e1b, e1c]
  exact hK
theorem lc_45 {t : Nat} (hC : CI D I A t) (hR : RI I A t) (ht : 6 * t + 6 ≤ Ln) (hL : Ln ≤ 384) (K : ∀ D' I' L' A', CI D' I' A' (t + 1) → RI I' A' (t + 1) → LG xs Ln 18 (t + 1) [] (mkW D' I' L')) : LG xs Ln 33 t [.int 45] (mkW D I L) := by
  obtain ⟨D', I1, L1, I2, L2, hc, hr, hCI, hRI⟩ := both (d1 := 8) (d2 := 104) (n1 := 131) (n2 := 263) (as1 := [.ref 0, .int (xs (6 * t + 1)), .int (xs (6 * t + 2))]) (as2 := [.ref 82, .int (xs (6 * t + 1)), .int (xs (6 * t + 2))]) (A' := (nHorn A (xs (6 * t + 1)) (xs (6 * t + 2))).1) (x := (nHorn A (xs (6 * t + 1)) (xs (6 * t + 2))).2) hR (C_horn (xs := xs) (Ln := Ln) (d := 0) (L := L) hC) (fun D I L h => R_horn (d := 0) h (by omega)) (by decide) (by decide)
  have hK := K D' I2 L2 _ hCI hRI
  unfold LG at hK ⊢
  have e6 : nI (6 * t) + 6 = nI (6 * (t + 1)) := nI_add (6 * t) 6
  have e1a : nI (6 * t) + 1 = nI (6 * t + 1) := nI_add (6 * t) 1
  have e1b : ¬ (nI (6 * t + 1) < 0 ∨ Ln ≤ 6 * t + 1) := by have := n_bd (i := 6 * t + 1) (n := Ln) (by omega) (by omega); rw [n_cl (by omega)] at this; exact this
  have e1c : (nI (6 * t + 1)).toNatClampNeg = 6 * t + 1 := n_cl (by omega)
  have e2a : nI (6 * t) + 2 = nI (6 * t + 2) := nI_add (6 * t) 2
  have e2b : ¬ (nI (6 * t + 2) < 0 ∨ Ln ≤ 6 * t + 2) := by have := n_bd (i := 6 * t + 2) (n := Ln) (by omega) (by omega); rw [n_cl (by omega)] at this; exact this
  have e2c : (nI (6 * t + 2)).toNatClampNeg = 6 * t + 2 := n_cl (by omega)
  simp only [S_L_law_33_45, S_L_law_1647, S_L_law_1648, S_L_law_1649, S_L_law_1650, S_L_law_1651, S_L_law_1652, S_L_law_1653, S_L_law_1654, S_L_law_1655, S_L_law_1656, S_L_law_1657, S_L_law_1658, S_L_law_1661, S_L_law_1662, S_L_law_1663, S_L_law_1664, S_L_law_1665, S_L_law_1666, S_L_law_1667, S_L_law_1668, S_L_law_1669, S_L_law_1670, S_L_law_1671, S_L_law_1672, S_L_law_1675, S_L_law_1678, S_L_law_1679, S_L_law_1785, S_L_law_1788, if_true, if_false, ite_true, ite_false, not_false_eq_true, not_true_eq_false, isRf_ref, isRf_null, c1_int, c1_ref, c1_null, c1_none, rfv_some, rfv_none, aft_s, tl_some, tl_none, w_I, w_L, w_f, List.nil_append, okRb0, okRb1, okRb, Sum.inl.injEq, Prod.mk.injEq, i10, b2i_t, b2i_f, true_and, and_true, or_true, true_or, o10, o11, ir0, hc, hr, e6, e1a, e1b, e1c, e2a, e2b, e2c]
  exact hK
theorem lc_46 {t : Nat} (hC : CI D I A t) (hR : RI I A t) (ht : 6 * t + 6 ≤ Ln) (hL : Ln ≤ 384) (K : ∀ D' I' L' A', CI D' I' A' (t + 1) → RI I' A' (t + 1) → LG xs Ln 18 (t + 1) [] (mkW D' I' L')) : LG xs Ln 33 t [.int 46] (mkW D I L) := by
  obtain ⟨D', I1, L1, I2, L2, hc, hr, hCI, hRI⟩ := both (d1 := 8) (d2 := 3) (n1 := 132) (n2 := 264) (as1 := [.ref 0, .int (xs (6 * t + 1))]) (as2 := [.ref 82, .int (xs (6 * t + 1))]) (A' := A) (x := qDrawn A (xs (6 * t + 1))) hR (C_drawn (xs := xs) (Ln := Ln) (d := 0) (L := L) rfl hC) (fun D I L h => R_drawn (d := 0) h) (by decide) (by decide)
  have hK := K D' I2 L2 _ hCI hRI
  unfold LG at hK ⊢
  have e6 : nI (6 * t) + 6 = nI (6 * (t + 1)) := nI_add (6 * t) 6
  have e1a : nI (6 * t) + 1 = nI (6 * t + 1) := nI_add (6 * t) 1
  have e1b : ¬ (nI (6 * t + 1) < 0 ∨ Ln ≤ 6 * t + 1) := by have := n_bd (i := 6 * t + 1) (n := Ln) (by omega) (by omega); rw [n_cl (by omega)] at this; exact this
  have e1c : (nI (6 * t + 1)).toNatClampNeg = 6 * t + 1 := n_cl (by omega)
  simp only [S_L_law_33_46, S_L_law_1680, S_L_law_1681, S_L_law_1682, S_L_law_1683, S_L_law_1684, S_L_law_1685, S_L_law_1686, S_L_law_1689, S_L_law_1690, S_L_law_1691, S_L_law_1692, S_L_law_1693, S_L_law_1694, S_L_law_1695, S_L_law_1698, S_L_law_1701, S_L_law_1702, S_L_law_1785, S_L_law_1788, if_true, if_false, ite_true, ite_false, not_false_eq_true, not_true_eq_false, isRf_ref, isRf_null, c1_int, c1_ref, c1_null, c1_none, rfv_some, rfv_none, aft_s, tl_some, tl_none, w_I, w_L, w_f, List.nil_append, okRb0, okRb1, okRb, Sum.inl.injEq, Prod.mk.injEq, i10, b2i_t, b2i_f, true_and, and_true, or_true, true_or, o10, o11, ir0, hc, hr, e6, e1a, e1b, e1c]
  exact hK
theorem lc_47 {t : Nat} (hC : CI D I A t) (hR : RI I A t) (ht : 6 * t + 6 ≤ Ln) (hL : Ln ≤ 384) (K : ∀ D' I' L' A', CI D' I' A' (t + 1) → RI I' A' (t + 1) → LG xs Ln 18 (t + 1) [] (mkW D' I' L')) : LG xs Ln 33 t [.int 47] (mkW D I L) := by
  obtain ⟨D', I1, L1, I2, L2, hc, hr, hCI, hRI⟩ := both (d1 := 8) (d2 := 2) (n1 := 133) (n2 := 160) (as1 := [.ref 0, .int (xs (6 * t + 1))]) (as2 := [.ref 82, .int (xs (6 * t + 1))]) (A' := (nImage A (xs (6 * t + 1))).1) (x := (nImage A (xs (6 * t + 1))).2) hR (C_image (xs := xs) (Ln := Ln) (d := 0) (L := L) hC) (fun D I L h => R_image (d := 0) h (by omega)) (by decide) (by decide)
  have hK := K D' I2 L2 _ hCI hRI
  unfold LG at hK ⊢
  have e6 : nI (6 * t) + 6 = nI (6 * (t + 1)) := nI_add (6 * t) 6
  have e1a : nI (6 * t) + 1 = nI (6 * t + 1) := nI_add (6 * t) 1
  have e1b : ¬ (nI (6 * t + 1) < 0 ∨ Ln ≤ 6 * t + 1) := by have := n_bd (i := 6 * t + 1) (n := Ln) (by omega) (by omega); rw [n_cl (by omega)] at this; exact this
  have e1c : (nI (6 * t + 1)).toNatClampNeg = 6 * t + 1 := n_cl (by omega)
  simp only [S_L_law_33_47, S_L_law_1703, S_L_law_1704, S_L_law_1705, S_L_law_1706, S_L_law_1707, S_L_law_1708, S_L_law_1709, S_L_law_1712, S_L_law_1713, S_L_law_1714, S_L_law_1715, S_L_law_1716, S_L_law_1717, S_L_law_1718, S_L_law_1721, S_L_law_1724, S_L_law_1725, S_L_law_1785, S_L_law_1788, if_true, if_false, ite_true, ite_false, not_false_eq_true, not_true_eq_false, isRf_ref, isRf_null, c1_int, c1_ref, c1_null, c1_none, rfv_some, rfv_none, aft_s, tl_some, tl_none, w_I, w_L, w_f, List.nil_append, okRb0, okRb1, okRb, Sum.inl.injEq, Prod.mk.injEq, i10, b2i_t, b2i_f, true_and, and_true, or_true, true_or, o10, o11, ir0, hc, hr, e6, e1a, e1b, e1c]
  exact hK
theorem lc_48 {t : Nat} (hC : CI D I A t) (hR : RI I A t) (ht : 6 * t + 6 ≤ Ln) (hL : Ln ≤ 384) (K : ∀ D' I' L' A', CI D' I' A' (t + 1) → RI I' A' (t + 1) → LG xs Ln 18 (t + 1) [] (mkW D' I' L')) : LG xs Ln 33 t [.int 48] (mkW D I L) := by
  obtain ⟨D', I1, L1, I2, L2, hc, hr, hCI, hRI⟩ := both (d1 := 8) (d2 := 2) (n1 := 134) (n2 := 161) (as1 := [.ref 0, .int (xs (6 * t + 1))]) (as2 := [.ref 82, .int (xs (6 * t + 1))]) (A' := (nBack A (xs (6 * t + 1))).1) (x := (nBack A (xs (6 * t + 1))).2) hR (C_back (xs := xs) (Ln := Ln) (d := 0) (L := L) hC (by omega)) (fun D I L h => R_back (d := 0) h (by omega)) (by decide) (by decide)
  have hK := K D' I2 L2 _ hCI hRI
  unfold LG at hK ⊢
  have e6 : nI (6 * t) + 6 = nI (6 * (t + 1)) := nI_add (6 * t) 6
  have e1a : nI (6 * t) + 1 = nI (6 * t + 1) := nI_add (6 * t) 1
  have e1b : ¬ (nI (6 * t + 1) < 0 ∨ Ln ≤ 6 * t + 1) := by have := n_bd (i := 6 * t + 1) (n := Ln) (by omega) (by omega); rw [n_cl (by omega)] at this; exact this
  have e1c : (nI (6 * t + 1)).toNatClampNeg = 6 * t + 1 := n_cl (by omega)
  simp only [S_L_law_33_48, S_L_law_1726, S_L_law_1727, S_L_law_1728, S_L_law_1729, S_L_law_1730, S_L_law_1731, S_L_law_1732, S_L_law_1735, S_L_law_1736, S_L_law_1737, S_L_law_1738, S_L_law_1739, S_L_law_1740, S_L_law_1741, S_L_law_1744, S_L_law_1747, S_L_law_1748, S_L_law_1785, S_L_law_1788, if_true, if_false, ite_true, ite_false, not_false_eq_true, not_true_eq_false, isRf_ref, isRf_null, c1_int, c1_ref, c1_null, c1_none, rfv_some, rfv_none, aft_s, tl_some, tl_none, w_I, w_L, w_f, List.nil_append, okRb0, okRb1, okRb, Sum.inl.injEq, Prod.mk.injEq, i10, b2i_t, b2i_f, true_and, and_true, or_true, true_or, o10, o11, ir0, hc, hr, e6, e1a, e1b, e1c]
  exact hK
theorem lc_49 {t : Nat} (hC : CI D I A t) (hR : RI I A t) (ht : 6 * t + 6 ≤ Ln) (hL : Ln ≤ 384) (K : ∀ D' I' L' A', CI D' I' A' (t + 1) → RI I' A' (t + 1) → LG xs Ln 18 (t + 1) [] (mkW D' I' L')) : LG xs Ln 33 t [.int 49] (mkW D I L) := by
  obtain ⟨D', I1, L1, I2, L2, hc, hr, hCI, hRI⟩ := both (d1 := 8) (d2 := 2) (n1 := 135) (n2 := 265) (as1 := [.ref 0, .int (xs (6 * t + 1))]) (as2 := [.ref 82, .int (xs (6 * t + 1))]) (A' := A) (x := qCount A (xs (6 * t + 1))) hR (C_count (xs := xs) (Ln := Ln) (d := 0) (L := L) rfl hC) (fun D I L h => R_count (d := 0) h) (by decide) (by decide)
  have hK := K D' I2 L2 _ hCI hRI
  unfold LG at hK ⊢
  have e6 : nI (6 * t) + 6 = nI (6 * (t + 1)) := nI_add (6 * t) 6
  have e1a : nI (6 * t) + 1 = nI (6 * t + 1) := nI_add (6 * t) 1
  have e1b : ¬ (nI (6 * t + 1) < 0 ∨ Ln ≤ 6 * t + 1) := by have := n_bd (i := 6 * t + 1) (n := Ln) (by omega) (by omega); rw [n_cl (by omega)] at this; exact this
  have e1c : (nI (6 * t + 1)).toNatClampNeg = 6 * t + 1 := n_cl (by omega)
  simp only [S_L_law_33_49, S_L_law_1749, S_L_law_1750, S_L_law_1751, S_L_law_1752, S_L_law_1753, S_L_law_1754, S_L_law_1755, S_L_law_1758, S_L_law_1759, S_L_law_1760, S_L_law_1761, S_L_law_1762, S_L_law_1763, S_L_law_1764, S_L_law_1767, S_L_law_1770, S_L_law_1771, S_L_law_1785, S_L_law_1788, if_true, if_false, ite_true, ite_false, not_false_eq_true, not_true_eq_false, isRf_ref, isRf_null, c1_int, c1_ref, c1_null, c1_none, rfv_some, rfv_none, aft_s, tl_some, tl_none, w_I, w_L, w_f, List.nil_append, okRb0, okRb1, okRb, Sum.inl.injEq, Prod.mk.injEq, i10, b2i_t, b2i_f, true_and, and_true, or_true, true_or, o10, o11, ir0, hc, hr, e6, e1a, e1b, e1c]
  exact hK
theorem lc_50 {t : Nat} (hC : CI D I A t) (hR : RI I A t) (ht : 6 * t + 6 ≤ Ln) (hL : Ln ≤ 384) (K : ∀ D' I' L' A', CI D' I' A' (t + 1) → RI I' A' (t + 1) → LG xs Ln 18 (t + 1) [] (mkW D' I' L')) : LG xs Ln 33 t [.int 50] (mkW D I L) := by
  obtain ⟨D', I1, L1, I2, L2, hc, hr, hCI, hRI⟩ := both (d1 := 8) (d2 := 1) (n1 := 136) (n2 := 266) (as1 := [.ref 0]) (as2 := [.ref 82]) (A' := A) (x := sst A) hR (C_status (xs := xs) (Ln := Ln) (d := 0) (L := L) hC) (fun D I L h => R_status (d := 0) h) (by decide) (by decide)
  have hK := K D' I2 L2 _ hCI hRI
  unfold LG at hK ⊢
  have e6 : nI (6 * t) + 6 = nI (6 * (t + 1)) := nI_add (6 * t) 6
  simp only [S_L_law_33_50, S_L_law_1772, S_L_law_1773, S_L_law_1776, S_L_law_1777, S_L_law_1780, S_L_law_1783, S_L_law_1784, S_L_law_1785, S_L_law_1788, if_true, if_false, ite_true, ite_false, not_false_eq_true, not_true_eq_false, isRf_ref, isRf_null, c1_int, c1_ref, c1_null, c1_none, rfv_some, rfv_none, aft_s, tl_some, tl_none, w_I, w_L, w_f, List.nil_append, okRb0, okRb1, okRb, Sum.inl.injEq, Prod.mk.injEq, i10, b2i_t, b2i_f, true_and, and_true, or_true, true_or, o10, o11, ir0, hc, hr, e6]
  exact hK
end Pj3
