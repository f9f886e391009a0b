section P94
variable {xs : Nat → Int32} {Ln d : Nat} {D : Dyn} {I : Nat → Nat → Int32} {L : Nat → Nat → Int64} {w : Om} {Q : Res → Prop}
def lO (o : Option Int) : Int64 := match o with
  | some x => lI x
  | none => br9
/-- a clause's pieces in the code row r -/
def ClR (tk vl : Nat → Nat) (n0 N : Nat) (r : Nat → Int32) (cl : Cl) : Prop :=
  ((cl.1 = 1 ∧ ∃ pos lv p l c1, pos ≤ n0 ∧ rd tk vl 4000 3 0 pos lv cl.2.1 d1 = .inr (p, l, c1, cl.2.2.2.2.1) ∧ l ≤ 50 ∧ cod r cl.2.1 c1 ∧ cl.2.2.1 = cl.2.1 + c1.length ∧ 0 < c1.length) ∨ (cl.1 = 2 ∧ cl.2.2.2.2.1 = d1)) ∧
  ((cl.2.2.2.1 = cl.2.2.1 ∧ cl.2.2.2.2.2 = d1) ∨ ∃ pos lv p l c2, pos ≤ n0 ∧ rd tk vl 4000 0 0 pos lv cl.2.2.1 d1 = .inr (p, l, c2, cl.2.2.2.2.2) ∧ l ≤ 50 ∧ cod r cl.2.2.1 c2 ∧ cl.2.2.2.1 = cl.2.2.1 + c2.length ∧ 0 < c2.length) ∧ cl.2.1 ≤ N ∧ cl.2.2.1 ≤ N ∧ cl.2.2.2.1 ≤ N
theorem rdT_cl {tk vl : Nat → Nat} {n0 h p l sz p2 l2 : Nat} {c c2 : List Nat} {ds : Dn} {cl : Cl} {r : Nat → Int32} {N : Nat} (hz : ∀ j, n0 ≤ j → tk j = 0) (hp : p ≤ n0) (hl : l ≤ 50) (hr : rdT tk vl h p l sz c ds = .inr (p2, l2, c2, cl)) (hc : cod r sz c2) (hN : sz + c2.length ≤ N) :
    cl.1 = h ∧ cl.2.1 = sz ∧ cl.2.2.1 = sz + c.length ∧ cl.2.2.2.2.1 = ds ∧ cod r sz c ∧ ((cl.2.2.2.1 = cl.2.2.1 ∧ cl.2.2.2.2.2 = d1) ∨ ∃ pos lv p l c2, pos ≤ n0 ∧ rd tk vl 4000 0 0 pos lv cl.2.2.1 d1 = .inr (p, l, c2, cl.2.2.2.2.2) ∧ l ≤ 50 ∧ cod r cl.2.2.1 c2 ∧ cl.2.2.2.1 = cl.2.2.1 + c2.length ∧ 0 < c2.length) ∧ cl.2.1 ≤ N ∧ cl.2.2.1 ≤ N ∧ cl.2.2.2.1 ≤ N := by
  rcases rdT_i hr with ⟨h3, c3, e3, h4, rfl, rfl⟩ | ⟨h3, rfl, rfl, rfl, rfl⟩
  · have hlt := tk_p hz h3 (by decide)
    have i1 := rd_ok hz 4000 _ _ _ _ _ _ p2 l2 c3 e3 (by omega) (by omega) h4
    obtain ⟨k1, k2⟩ := cod_a hc
    rw [List.length_append] at hN
    exact ⟨rfl, rfl, rfl, rfl, k1, Or.inr ⟨p + 1, l, p2, l2, c3, by omega, h4, by omega, k2, rfl, (i1.2.1 (by omega)).2⟩, by show sz ≤ N; omega, by show sz + c.length ≤ N; omega, by show sz + c.length + c3.length ≤ N; omega⟩
  · exact ⟨rfl, rfl, rfl, rfl, hc, Or.inl ⟨rfl, rfl⟩, by show sz ≤ N; omega, hN, hN⟩
theorem rdC_cl {tk vl : Nat → Nat} {n0 pos lv sz p2 l2 : Nat} {c2 : List Nat} {cl : Cl} {r : Nat → Int32} {N : Nat} (hz : ∀ j, n0 ≤ j → tk j = 0) (hp : pos ≤ n0) (hl : lv ≤ 50) (hr : rdC tk vl pos lv sz = .inr (p2, l2, c2, cl)) (hc : cod r sz c2) (hN : sz + c2.length ≤ N) : ClR tk vl n0 N r cl := by
  rcases rdC_i hr with ⟨h1, p, l, c, e, h4, h5⟩ | ⟨h2, h5⟩
  · have hlt := tk_p hz h1 (by decide)
    have i1 := rd_ok hz 4000 _ _ _ _ _ _ p l c e (by omega) (by omega) h4
    obtain ⟨q1, q2, q3, q4, q5, q6⟩ := rdT_cl hz (by omega) (by omega) h5 hc hN
    refine ⟨Or.inl ⟨q1, pos + 1, lv, p, l, c, by omega, ?_, by omega, ?_, ?_, (i1.2.1 (by omega)).2⟩, q6⟩
    · rw [q2, q4]; exact h4
    · rw [q2]; exact q5
    · rw [q2, q3]
  · have hlt := tk_p hz h2 (by decide)
    obtain ⟨q1, q2, q3, q4, q5, q6⟩ := rdT_cl hz (by omega) hl h5 hc hN
    exact ⟨Or.inr ⟨q1, q4⟩, q6⟩
theorem rdL_cl {tk vl : Nat → Nat} {n0 : Nat} {r : Nat → Int32} {N : Nat} (hz : ∀ j, n0 ≤ j → tk j = 0) : ∀ k pos lv sz c cls, pos ≤ n0 → lv ≤ 50 → rdL tk vl n0 k pos lv sz = .inr (c, cls) → cod r sz c → sz + c.length ≤ N → ∀ cl, cl ∈ cls → ClR tk vl n0 N r cl := by
  intro k
  induction k with
  | zero => intro pos lv sz c cls _ _ h; cases h
  | succ k ih =>
    intro pos lv sz c cls hp hl h hc hN cl hcl
    unfold rdL at h
    split at h
    · cases h
    · rename_i p2 l2 c2 cl2 hC
      have i1 := rdC_p hz hp hC
      split at h
      · rename_i h159
        have hlt := tk_p hz h159 (by decide)
        split at h
        · cases h
        · rename_i c3 cs hL
          cases h
          obtain ⟨k1, k2⟩ := cod_a hc
          rw [List.length_append] at hN
          rcases List.mem_cons.mp hcl with rfl | hm
          · exact rdC_cl hz hp hl hC k1 (by omega)
          · exact ih _ _ _ _ _ (by omega) (by omega) hL k2 (by omega) cl hm
      · split at h
        · cases h
          rcases List.mem_cons.mp hcl with rfl | hm
          · exact rdC_cl hz hp hl hC hc hN
          · cases hm
        · cases h
theorem rdL_n {tk vl : Nat → Nat} {n0 : Nat} (hz : ∀ j, n0 ≤ j → tk j = 0) : ∀ k pos lv sz c cls, pos ≤ n0 → rdL tk vl n0 k pos lv sz = .inr (c, cls) → cls.length ≤ k ∧ 1 ≤ cls.length ∧ c.length + pos ≤ n0 := by
  intro k
  induction k with
  | zero => intro pos lv sz c cls _ h; cases h
  | succ k ih =>
    intro pos lv sz c cls hp h
    unfold rdL at h
    split at h
    · cases h
    · rename_i p2 l2 c2 cl2 hC
      have i1 := rdC_p hz hp hC
      split at h
      · rename_i h159
        have hlt := tk_p hz h159 (by decide)
        split at h
        · cases h
        · rename_i c3 cs hL
          cases h
          have := ih _ _ _ _ _ (by omega) hL
          rw [List.length_cons, List.length_append]
          omega
      · split at h
        · cases h
          simp only [List.length_cons, List.length_nil]
          omega
        · cases h
section LW
variable {q n m n0 : Nat} {tk vl : Nat → Nat} {F : Fc}
theorem c_val {md pos lv sz p l : Nat} {c : List Nat} {e : Dn} (S : LwS D q n m) (hz : ∀ j, n0 ≤ j → tk j = 0) (hF : ∀ j, F j ≤ 1000) (hI : ∀ j, j < 7 → I 24 j = nI (F j)) (hmd : md ≤ 5) (hp : pos ≤ n0) (hr : rd tk vl 4000 md 0 pos lv sz d1 = .inr (p, l, c, e)) (hl : l ≤ 50) (hc : cod (I (q + 1)) sz c) (h0 : 0 < c.length) (hn : sz + c.length ≤ n) : Ok (callD xs Ln (d + 1) 6 [.ref q, .int (nI sz), .int (nI (sz + c.length)), .ref 24] (mkW D I L)) (fun r => ∃ L', r = (mkW D I L', some (.long (lO (e F))))) := by
  have hn4 : n ≤ 400 := S.2.2.2.2.2.2.2.2.2.1
  refine semG (lo := [some (.ref q), some (.int (nI sz)), some (.int (nI (sz + c.length))), some (.ref 24), none, none, none, none, none, none, none, none, none, none, none]) rfl rfl (Nat.le_of_ble_eq_true rfl) rfl (show G_X1_valueOf xs Ln _ 0 [some (.ref q), some (.int (nI sz)), some (.int (nI (sz + c.length))), some (.ref 24), none, none, none, none, none, none, none, none, none, none, none] [] _ _ from ?_)
  simp (disch := first | omega | exact c1_int _ | exact c1_none | exact c1_ref _ | exact isRf_ref _ | assumption | exact hO _ _ | exact isRf_null | exact okRb _ | exact okN1 | exact okN0 | exact rfl) only [N_X1_valueOf_0, N_X1_valueOf_1, N_X1_valueOf_2, N_X1_valueOf_5, N_X1_valueOf_6, N_X1_valueOf_7, N_X1_valueOf_8, N_X1_valueOf_10, N_X1_valueOf_11, N_X1_valueOf_15, N_X1_valueOf_16, N_X1_valueOf_19, N_X1_valueOf_21, N_X1_valueOf_22, N_X1_valueOf_25, N_X1_valueOf_26, N_X1_valueOf_29, N_X1_valueOf_30, N_X1_valueOf_33, N_X1_valueOf_35, N_X1_valueOf_36, N_X1_valueOf_38, N_X1_valueOf_39, N_X1_valueOf_41, N_X1_valueOf_42, N_X1_valueOf_45, N_X1_valueOf_47, N_X1_valueOf_48, N_X1_valueOf_49, N_X1_valueOf_50, N_X1_valueOf_52, N_X1_valueOf_54, N_X1_valueOf_55, N_X1_valueOf_58, N_X1_valueOf_59, N_X1_valueOf_62, N_X1_valueOf_64, N_X1_valueOf_66, N_X1_valueOf_69, N_X1_valueOf_70, N_X1_valueOf_73, N_X1_valueOf_74, N_X1_valueOf_76, N_X1_valueOf_78, N_X1_valueOf_80, N_X1_valueOf_83, N_X1_valueOf_85, N_X1_valueOf_86, N_X1_valueOf_89, N_X1_valueOf_90, N_X1_valueOf_93, N_X1_valueOf_96, N_X1_valueOf_97, N_X1_valueOf_99, N_X1_valueOf_100, N_X1_valueOf_103, N_X1_valueOf_104, N_X1_valueOf_107, N_X1_valueOf_109, N_X1_valueOf_110, N_X1_valueOf_111, N_X1_valueOf_112, N_X1_valueOf_115, N_X1_valueOf_116, N_X1_valueOf_118, N_X1_valueOf_120, N_X1_valueOf_121, N_X1_valueOf_124, N_X1_valueOf_125, N_X1_valueOf_128, N_X1_valueOf_130, N_X1_valueOf_131, N_X1_valueOf_132, N_X1_valueOf_133, N_X1_valueOf_136, N_X1_valueOf_137, N_X1_valueOf_139, N_X1_valueOf_141_0, N_X1_valueOf_141_1, N_X1_valueOf_141_2, N_X1_valueOf_141_3, N_X1_valueOf_141_4, N_X1_valueOf_141_5, N_X1_valueOf_141_6, N_X1_valueOf_141_7, N_X1_valueOf_141_8, N_X1_valueOf_141_9, N_X1_valueOf_141, N_X1_valueOf_196, N_X1_valueOf_198, N_X1_valueOf_199, N_X1_valueOf_201, N_X1_valueOf_204, N_X1_valueOf_206, N_X1_valueOf_207, N_X1_valueOf_208, N_X1_valueOf_211, N_X1_valueOf_212, N_X1_valueOf_214, N_X1_valueOf_215, N_X1_valueOf_216, N_X1_valueOf_219, N_X1_valueOf_222, N_X1_valueOf_224, N_X1_valueOf_227, N_X1_valueOf_229, N_X1_valueOf_231, N_X1_valueOf_232, N_X1_valueOf_234, N_X1_valueOf_237, N_X1_valueOf_239, N_X1_valueOf_241, N_X1_valueOf_242, N_X1_valueOf_244, N_X1_valueOf_247, N_X1_valueOf_249, N_X1_valueOf_251, N_X1_valueOf_252, N_X1_valueOf_254, N_X1_valueOf_257, N_X1_valueOf_259, N_X1_valueOf_260, N_X1_valueOf_261, N_X1_valueOf_264, N_X1_valueOf_267, N_X1_valueOf_270, N_X1_valueOf_272, N_X1_valueOf_274, N_X1_valueOf_275, N_X1_valueOf_277, N_X1_valueOf_280, N_X1_valueOf_282, N_X1_valueOf_284, N_X1_valueOf_285, N_X1_valueOf_288, N_X1_valueOf_289, N_X1_valueOf_292, N_X1_valueOf_293, N_X1_valueOf_295, N_X1_valueOf_298, N_X1_valueOf_300, N_X1_valueOf_302, N_X1_valueOf_303, N_X1_valueOf_306, N_X1_valueOf_307, N_X1_valueOf_310, N_X1_valueOf_311, N_X1_valueOf_313, N_X1_valueOf_316, N_X1_valueOf_318, N_X1_valueOf_320, N_X1_valueOf_321, N_X1_valueOf_324, N_X1_valueOf_325, N_X1_valueOf_328, N_X1_valueOf_329, N_X1_valueOf_331, N_X1_valueOf_334, N_X1_valueOf_335, N_X1_valueOf_337, N_X1_valueOf_338, N_X1_valueOf_340, N_X1_valueOf_343, N_X1_valueOf_345, N_X1_valueOf_347, N_X1_valueOf_349, N_X1_valueOf_352, N_X1_valueOf_353, N_X1_valueOf_356, N_X1_valueOf_358, N_X1_valueOf_361, N_X1_valueOf_362, N_X1_valueOf_365, N_X1_valueOf_368, N_X1_valueOf_369, N_X1_valueOf_371, N_X1_valueOf_373, N_X1_valueOf_376, N_X1_valueOf_378, N_X1_valueOf_380, N_X1_valueOf_381, N_X1_valueOf_382, N_X1_valueOf_383, N_X1_valueOf_385, N_X1_valueOf_386, N_X1_valueOf_389, N_X1_valueOf_391, N_X1_valueOf_392, N_X1_valueOf_393, N_X1_valueOf_395, N_X1_valueOf_396, N_X1_valueOf_399, N_X1_valueOf_401, N_X1_valueOf_403, N_X1_valueOf_405, N_X1_valueOf_408, N_X1_valueOf_409, N_X1_valueOf_412, N_X1_valueOf_413, N_X1_valueOf_414, N_X1_valueOf_415, N_X1_valueOf_418, N_X1_valueOf_421, N_X1_valueOf_424, N_X1_valueOf_426, N_X1_valueOf_428, N_X1_valueOf_431, N_X1_valueOf_433, N_X1_valueOf_434, N_X1_valueOf_435, N_X1_valueOf_437, N_X1_valueOf_440, N_X1_valueOf_443, N_X1_valueOf_445, N_X1_valueOf_446, N_X1_valueOf_449, N_X1_valueOf_450, N_X1_valueOf_453, N_X1_valueOf_454, N_X1_valueOf_455, N_X1_valueOf_458, N_X1_valueOf_461, if_true, if_false, ite_true, ite_false, not_false_eq_true, not_true_eq_false, isRf_ref, isRf_null, c1_int, c1_ref, c1_null, c1_none, rfv_some, rfv_none, Ok_s, tl_some, tl_none, List.nil_append, b2i_n1, b2i_n0, ↓reduceIte, nI_add, pk_mul, pk_sub, n_leT, n_leF, n_ltT, n_ltF, n_eqT, n_eqF, n_shl1, n_shl, n_shr, nI_and, nI_or, nI_xor, b2i_z, b2i_o, m1_n, n_m1, m1_lt, m1_le, n_lm1, n_em1, nI_m1, and1, and3, and7, and15, and63, and255, Bool.true_eq_false, Bool.false_eq_true, reduceCtorEq, Nat.reduceAdd, Nat.reduceMul, Nat.reduceSub, Nat.reduceDiv, Nat.reduceMod, Nat.reducePow, Nat.zero_add, Nat.one_mul]
  refine (vAll (fr := sz) (to := sz + c.length) S (by omega) hz hF hI 4000).1 md 0 pos lv sz d1 p l c e hmd hp hr hl hc (Nat.le_refl _) 0 L _ (Nat.zero_le _) ?_ ?_ none none none none none none none none none
  · intro x hx L' hs hx2
    refine V_end S hn ?_
    rw [hx2]
    refine ⟨L', ?_⟩
    rw [hx]
    rfl
  · intro hx L'
    refine ⟨L', ?_⟩
    rw [hx]
    rfl
theorem c_val1 {x : Nat} (hx : x < 100000) : callD xs Ln (d + 1) 6 [.ref q, .int (nI x), .int (nI x), .ref 24] (mkW D I L) = some (mkW D I L, some (.long (lO (d1 F)))) := by
  refine Ok.eq ?_
  refine semG (lo := [some (.ref q), some (.int (nI x)), some (.int (nI x)), some (.ref 24), none, none, none, none, none, none, none, none, none, none, none]) rfl rfl (Nat.le_of_ble_eq_true rfl) rfl (show G_X1_valueOf xs Ln _ 0 [some (.ref q), some (.int (nI x)), some (.int (nI x)), some (.ref 24), none, none, none, none, none, none, none, none, none, none, none] [] _ _ from ?_)
  simp (disch := first | omega | exact c1_int _ | exact c1_none | exact c1_ref _ | exact isRf_ref _ | assumption | exact hO _ _ | exact isRf_null | exact okRb _ | exact okN1 | exact okN0 | exact rfl) only [N_X1_valueOf_0, N_X1_valueOf_1, N_X1_valueOf_2, N_X1_valueOf_5, N_X1_valueOf_6, N_X1_valueOf_7, N_X1_valueOf_8, N_X1_valueOf_10, N_X1_valueOf_11, N_X1_valueOf_15, N_X1_valueOf_16, N_X1_valueOf_19, N_X1_valueOf_21, N_X1_valueOf_22, N_X1_valueOf_25, N_X1_valueOf_26, N_X1_valueOf_29, N_X1_valueOf_30, N_X1_valueOf_33, N_X1_valueOf_35, N_X1_valueOf_36, N_X1_valueOf_38, N_X1_valueOf_39, N_X1_valueOf_41, N_X1_valueOf_42, N_X1_valueOf_45, N_X1_valueOf_47, N_X1_valueOf_48, N_X1_valueOf_49, N_X1_valueOf_50, N_X1_valueOf_52, N_X1_valueOf_54, N_X1_valueOf_55, N_X1_valueOf_58, N_X1_valueOf_59, N_X1_valueOf_62, N_X1_valueOf_64, N_X1_valueOf_66, N_X1_valueOf_69, N_X1_valueOf_70, N_X1_valueOf_73, N_X1_valueOf_74, N_X1_valueOf_76, N_X1_valueOf_78, N_X1_valueOf_80, N_X1_valueOf_83, N_X1_valueOf_85, N_X1_valueOf_86, N_X1_valueOf_89, N_X1_valueOf_90, N_X1_valueOf_93, N_X1_valueOf_96, N_X1_valueOf_97, N_X1_valueOf_99, N_X1_valueOf_100, N_X1_valueOf_103, N_X1_valueOf_104, N_X1_valueOf_107, N_X1_valueOf_109, N_X1_valueOf_110, N_X1_valueOf_111, N_X1_valueOf_112, N_X1_valueOf_115, N_X1_valueOf_116, N_X1_valueOf_118, N_X1_valueOf_120, N_X1_valueOf_121, N_X1_valueOf_124, N_X1_valueOf_125, N_X1_valueOf_128, N_X1_valueOf_130, N_X1_valueOf_131, N_X1_valueOf_132, N_X1_valueOf_133, N_X1_valueOf_136, N_X1_valueOf_137, N_X1_valueOf_139, N_X1_valueOf_141_0, N_X1_valueOf_141_1, N_X1_valueOf_141_2, N_X1_valueOf_141_3, N_X1_valueOf_141_4, N_X1_valueOf_141_5, N_X1_valueOf_141_6, N_X1_valueOf_141_7, N_X1_valueOf_141_8, N_X1_valueOf_141_9, N_X1_valueOf_141, N_X1_valueOf_196, N_X1_valueOf_198, N_X1_valueOf_199, N_X1_valueOf_201, N_X1_valueOf_204, N_X1_valueOf_206, N_X1_valueOf_207, N_X1_valueOf_208, N_X1_valueOf_211, N_X1_valueOf_212, N_X1_valueOf_214, N_X1_valueOf_215, N_X1_valueOf_216, N_X1_valueOf_219, N_X1_valueOf_222, N_X1_valueOf_224, N_X1_valueOf_227, N_X1_valueOf_229, N_X1_valueOf_231, N_X1_valueOf_232, N_X1_valueOf_234, N_X1_valueOf_237, N_X1_valueOf_239, N_X1_valueOf_241, N_X1_valueOf_242, N_X1_valueOf_244, N_X1_valueOf_247, N_X1_valueOf_249, N_X1_valueOf_251, N_X1_valueOf_252, N_X1_valueOf_254, N_X1_valueOf_257, N_X1_valueOf_259, N_X1_valueOf_260, N_X1_valueOf_261, N_X1_valueOf_264, N_X1_valueOf_267, N_X1_valueOf_270, N_X1_valueOf_272, N_X1_valueOf_274, N_X1_valueOf_275, N_X1_valueOf_277, N_X1_valueOf_280, N_X1_valueOf_282, N_X1_valueOf_284, N_X1_valueOf_285, N_X1_valueOf_288, N_X1_valueOf_289, N_X1_valueOf_292, N_X1_valueOf_293, N_X1_valueOf_295, N_X1_valueOf_298, N_X1_valueOf_300, N_X1_valueOf_302, N_X1_valueOf_303, N_X1_valueOf_306, N_X1_valueOf_307, N_X1_valueOf_310, N_X1_valueOf_311, N_X1_valueOf_313, N_X1_valueOf_316, N_X1_valueOf_318, N_X1_valueOf_320, N_X1_valueOf_321, N_X1_valueOf_324, N_X1_valueOf_325, N_X1_valueOf_328, N_X1_valueOf_329, N_X1_valueOf_331, N_X1_valueOf_334, N_X1_valueOf_335, N_X1_valueOf_337, N_X1_valueOf_338, N_X1_valueOf_340, N_X1_valueOf_343, N_X1_valueOf_345, N_X1_valueOf_347, N_X1_valueOf_349, N_X1_valueOf_352, N_X1_valueOf_353, N_X1_valueOf_356, N_X1_valueOf_358, N_X1_valueOf_361, N_X1_valueOf_362, N_X1_valueOf_365, N_X1_valueOf_368, N_X1_valueOf_369, N_X1_valueOf_371, N_X1_valueOf_373, N_X1_valueOf_376, N_X1_valueOf_378, N_X1_valueOf_380, N_X1_valueOf_381, N_X1_valueOf_382, N_X1_valueOf_383, N_X1_valueOf_385, N_X1_valueOf_386, N_X1_valueOf_389, N_X1_valueOf_391, N_X1_valueOf_392, N_X1_valueOf_393, N_X1_valueOf_395, N_X1_valueOf_396, N_X1_valueOf_399, N_X1_valueOf_401, N_X1_valueOf_403, N_X1_valueOf_405, N_X1_valueOf_408, N_X1_valueOf_409, N_X1_valueOf_412, N_X1_valueOf_413, N_X1_valueOf_414, N_X1_valueOf_415, N_X1_valueOf_418, N_X1_valueOf_421, N_X1_valueOf_424, N_X1_valueOf_426, N_X1_valueOf_428, N_X1_valueOf_431, N_X1_valueOf_433, N_X1_valueOf_434, N_X1_valueOf_435, N_X1_valueOf_437, N_X1_valueOf_440, N_X1_valueOf_443, N_X1_valueOf_445, N_X1_valueOf_446, N_X1_valueOf_449, N_X1_valueOf_450, N_X1_valueOf_453, N_X1_valueOf_454, N_X1_valueOf_455, N_X1_valueOf_458, N_X1_valueOf_461, if_true, if_false, ite_true, ite_false, not_false_eq_true, not_true_eq_false, isRf_ref, isRf_null, c1_int, c1_ref, c1_null, c1_none, rfv_some, rfv_none, Ok_s, tl_some, tl_none, List.nil_append, b2i_n1, b2i_n0, ↓reduceIte, nI_add, pk_mul, pk_sub, n_leT, n_leF, n_ltT, n_ltF, n_eqT, n_eqF, n_shl1, n_shl, n_shr, nI_and, nI_or, nI_xor, b2i_z, b2i_o, m1_n, n_m1, m1_lt, m1_le, n_lm1, n_em1, nI_m1, and1, and3, and7, and15, and63, and255, Bool.true_eq_false, Bool.false_eq_true, reduceCtorEq, Nat.reduceAdd, Nat.reduceMul, Nat.reduceSub, Nat.reduceDiv, Nat.reduceMod, Nat.reducePow, Nat.zero_add, Nat.one_mul]
  rfl
theorem c_test {cl : Cl} (S : LwS D q n m) (hz : ∀ j, n0 ≤ j → tk j = 0) (hF : ∀ j, F j ≤ 1000) (hI : ∀ j, j < 7 → I 24 j = nI (F j)) (hC : ClR tk vl n0 n (I (q + 1)) cl) : Ok (callD xs Ln (d + 1) 6 [.ref q, .int (nI cl.2.2.1), .int (nI cl.2.2.2.1), .ref 24] (mkW D I L)) (fun r => ∃ L', r = (mkW D I L', some (.long (lO (cl.2.2.2.2.2 F))))) ∧ (∀ x, cl.2.2.2.2.2 F = some x → x = 0 ∨ x = 1) := by
  have hn4 : n ≤ 400 := S.2.2.2.2.2.2.2.2.2.1
  obtain ⟨-, h2, h3, h4, h5⟩ := hC
  rcases h2 with ⟨e1, e2⟩ | ⟨pos, lv, p, l, c2, hp, hr, hl, hc, e, h0⟩
  · rw [e1, e2]
    refine ⟨Ok.of (c_val1 (F := F) (by omega)) ⟨_, rfl⟩, fun x hx => ?_⟩
    unfold d1 at hx
    simp only [Option.some.injEq] at hx
    omega
  · refine ⟨?_, fun x hx => (rd_dn hF 4000 _ _ _ _ _ _ _ _ _ _ (by omega) hr (fun h => by omega) x hx).2 (by unfold tst; omega)⟩
    rw [e] at h5 ⊢
    exact c_val S hz hF hI (by omega) hp hr hl hc h0 h5
theorem c_sum {cl : Cl} (S : LwS D q n m) (hz : ∀ j, n0 ≤ j → tk j = 0) (hF : ∀ j, F j ≤ 1000) (hI : ∀ j, j < 7 → I 24 j = nI (F j)) (hC : ClR tk vl n0 n (I (q + 1)) cl) (h1 : cl.1 = 1) : Ok (callD xs Ln (d + 1) 6 [.ref q, .int (nI cl.2.1), .int (nI cl.2.2.1), .ref 24] (mkW D I L)) (fun r => ∃ L', r = (mkW D I L', some (.long (lO (cl.2.2.2.2.1 F))))) ∧ (∀ x, cl.2.2.2.2.1 F = some x → sml x) := by
  obtain ⟨h2, -, h3, h4, h5⟩ := hC
  rcases h2 with ⟨-, pos, lv, p, l, c2, hp, hr, hl, hc, e, h0⟩ | ⟨e2, -⟩
  · refine ⟨?_, fun x hx => (rd_dn hF 4000 _ _ _ _ _ _ _ _ _ _ (by omega) hr (fun h => by omega) x hx).1⟩
    rw [e] at h4 ⊢
    exact c_val S hz hF hI (by omega) hp hr hl hc h0 h4
  · omega
/-- the rows of the clauses -/
def clR (r : Nat → Int32) (cls : List Cl) : Prop := ∀ j cl, cls[j]? = some cl → r (4 * j) = nI (if cl.1 = 1 then 1 else 0) ∧ r (4 * j + 1) = nI cl.2.1 ∧ r (4 * j + 2) = nI cl.2.2.1 ∧ r (4 * j + 3) = nI cl.2.2.2.1
/-- a law in the class's memory -/
def LwC (D : Dyn) (I : Nat → Nat → Int32) (q : Nat) (tk vl : Nat → Nat) (n0 : Nat) (c : List Nat) (cls : List Cl) : Prop := LwS D q c.length cls.length ∧ rdL tk vl n0 12 0 0 0 = .inr (c, cls) ∧ cod (I (q + 1)) 0 c ∧ clR (I (q + 2)) cls ∧ ∀ j, n0 ≤ j → tk j = 0
theorem LwC.c {c : List Nat} {cls : List Cl} (h : LwC D I q tk vl n0 c cls) {cl : Cl} (hm : cl ∈ cls) : ClR tk vl n0 c.length (I (q + 1)) cl := rdL_cl h.2.2.2.2 12 0 0 0 c cls (Nat.zero_le _) (by omega) h.2.1 h.2.2.1 (by omega) cl hm
def at4 (k : Nat) : Int32 := match k with
  | 0 => -4
  | k + 1 => nI (4 * k)
theorem at4_d (k : Nat) : nI (4 * k) + (-4) = at4 k := by
  cases k with
  | zero => decide
  | succ k =>
    show nI (4 * k + 4) + (-4) = nI (4 * k)
    rw [show nI (4 * k + 4) = nI (4 * k) + nI 4 from (nI_add _ _).symm, Int32.add_assoc, show nI 4 + (-4) = 0 by decide, Int32.add_zero]
/-- what told tells: the last of the first k clauses that leads and holds -/
def tldK (F : Fc) (cls : List Cl) : Nat → Option Int
  | 0 => none
  | k + 1 => match cls[k]? with
    | some cl => if cl.1 = 1 ∧ cl.2.2.2.2.2 F = some 1 ∧ (cl.2.2.2.2.1 F).isSome = true then cl.2.2.2.2.1 F else tldK F cls k
    | none => tldK F cls k
theorem askF_app (hd : Nat) (F : Fc) : ∀ (l1 l2 : List Cl) (o : Option Int), askF hd F (l1 ++ l2) o = askF hd F l2 (askF hd F l1 o)
  | [], _, _ => rfl
  | cl :: l1, l2, o => askF_app hd F l1 l2 (askS hd F cl o)
theorem tldK_ask (F : Fc) (cls : List Cl) : ∀ k, k ≤ cls.length → tldK F cls k = askF 1 F (cls.take k) none
  | 0, _ => by simp [tldK, askF]
  | k + 1, h => by
    have ih := tldK_ask F cls k (by omega)
    have hk : k < cls.length := by omega
    rw [List.take_succ_eq_append_getElem hk, askF_app, ← ih]
    show (match cls[k]? with
      | some cl => if cl.1 = 1 ∧ cl.2.2.2.2.2 F = some 1 ∧ (cl.2.2.2.2.1 F).isSome = true then cl.2.2.2.2.1 F else tldK F cls k
      | none => tldK F cls k) = askF 1 F [cls[k]] (tldK F cls k)
    rw [List.getElem?_eq_getElem hk]
    rfl
theorem l_t1 {x : Int} (h : x = 0 ∨ x = 1) : (lI x = 1) = (x = 1) := by
  rcases h with rfl | rfl <;> decide
theorem l_br {x : Int} (h : sml x) : (lI x = (-2000000000 : Int64)) = False := by
  rw [show (-2000000000 : Int64) = lI (-2000000000) by decide, l_eq h.b (by unfold bdd; omega)]
  apply eq_false
  unfold sml at h
  omega
theorem c_toldL {c : List Nat} {cls : List Cl} (h : LwC D I q tk vl n0 c cls) (hF : ∀ j, F j ≤ 1000) (hI : ∀ j, j < 7 → I 24 j = nI (F j)) : ∀ k, k ≤ cls.length → ∀ L u3 u4, G_X1_told xs Ln (d + 1) 8 [some (.ref q), some (.ref 24), some (.int (at4 k)), u3, u4] [] (mkW D I L) (fun r => ∃ L', r = (mkW D I L', some (.long (lO (tldK F cls k))))) := by
  obtain ⟨S, hrd, hcod, hcl, hz⟩ := h
  have h' : LwC D I q tk vl n0 c cls := ⟨S, hrd, hcod, hcl, hz⟩
  have S' := S
  obtain ⟨s1, s2, s3, s4, s5, s6, s7, s8, s9, s10, s11⟩ := S
  have hO : ∀ I L, isObj (mkW D I L) q 1 = true := fun I L => w_ob s3 rfl
  intro k
  induction k with
  | zero =>
    intro _ L u3 u4
    have e : (at4 0 < nI 0) ↔ True := by decide
    simp (disch := first | omega | exact c1_int _ | exact c1_none | exact c1_ref _ | exact isRf_ref _ | assumption | exact hO _ _ | exact isRf_null | exact okRb _ | exact okN1 | exact okN0 | exact rfl) only [N_X1_told_0, N_X1_told_1, N_X1_told_4, N_X1_told_5, N_X1_told_6, N_X1_told_7, N_X1_told_8, N_X1_told_9, N_X1_told_12, N_X1_told_13, N_X1_told_16, N_X1_told_17, N_X1_told_18, N_X1_told_19, N_X1_told_22, N_X1_told_23, N_X1_told_24, N_X1_told_27, N_X1_told_28, N_X1_told_29, N_X1_told_30, N_X1_told_31, N_X1_told_32, N_X1_told_35, N_X1_told_36, N_X1_told_37, N_X1_told_38, N_X1_told_39, N_X1_told_40, N_X1_told_43, N_X1_told_44, N_X1_told_45, N_X1_told_48, N_X1_told_49, N_X1_told_50, N_X1_told_53, N_X1_told_54, N_X1_told_55, N_X1_told_56, N_X1_told_57, N_X1_told_58, N_X1_told_61, N_X1_told_62, N_X1_told_63, N_X1_told_64, N_X1_told_65, N_X1_told_66, N_X1_told_69, N_X1_told_70, N_X1_told_71, N_X1_told_74, N_X1_told_75, N_X1_told_78, N_X1_told_79, N_X1_told_80, N_X1_told_83, N_X1_told_86, N_X1_told_89, if_true, if_false, ite_true, ite_false, not_false_eq_true, not_true_eq_false, isRf_ref, isRf_null, c1_int, c1_ref, c1_null, c1_none, rfv_some, rfv_none, Ok_s, tl_some, tl_none, List.nil_append, b2i_n1, b2i_n0, ↓reduceIte, nI_add, pk_mul, pk_sub, n_leT, n_leF, n_ltT, n_ltF, n_eqT, n_eqF, n_shl1, n_shl, n_shr, nI_and, nI_or, nI_xor, b2i_z, b2i_o, m1_n, n_m1, m1_lt, m1_le, n_lm1, n_em1, nI_m1, and1, and3, and7, and15, and63, and255, Bool.true_eq_false, Bool.false_eq_true, reduceCtorEq, Nat.reduceAdd, Nat.reduceMul, Nat.reduceSub, Nat.reduceDiv, Nat.reduceMod, Nat.reducePow, Nat.zero_add, Nat.one_mul, e]
    exact ⟨_, rfl⟩
  | succ k ih =>
    intro hk L u3 u4
    have hkl : k < cls.length := by omega
    have hg : cls[k]? = some cls[k] := List.getElem?_eq_getElem hkl
    have hC := h'.c (List.getElem_mem hkl)
    obtain ⟨r0, r1, r2, r3⟩ := hcl k _ hg
    obtain ⟨ct, ct2⟩ := c_test (xs := xs) (Ln := Ln) (d := d) (L := L) S' hz hF hI hC
    have e4 : at4 (k + 1) = nI (4 * k) := rfl
    have hstep : tldK F cls (k + 1) = if cls[k].1 = 1 ∧ cls[k].2.2.2.2.2 F = some 1 ∧ (cls[k].2.2.2.2.1 F).isSome = true then cls[k].2.2.2.2.1 F else tldK F cls k := by
      show (match cls[k]? with
        | some cl => _
        | none => _) = _
      rw [hg]
    rw [N_X1_told_8, e4]
    by_cases h1 : cls[k].1 = 1
    · rw [if_pos h1] at r0
      simp (disch := first | omega | exact c1_int _ | exact c1_none | exact c1_ref _ | exact isRf_ref _ | assumption | exact hO _ _ | exact isRf_null | exact okRb _ | exact okN1 | exact okN0 | exact rfl) only [N_X1_told_0, N_X1_told_1, N_X1_told_4, N_X1_told_5, N_X1_told_6, N_X1_told_7, N_X1_told_9, N_X1_told_12, N_X1_told_13, N_X1_told_16, N_X1_told_17, N_X1_told_18, N_X1_told_19, N_X1_told_22, N_X1_told_23, N_X1_told_24, N_X1_told_27, N_X1_told_28, N_X1_told_29, N_X1_told_30, N_X1_told_31, N_X1_told_32, N_X1_told_35, N_X1_told_36, N_X1_told_37, N_X1_told_38, N_X1_told_39, N_X1_told_40, N_X1_told_43, N_X1_told_44, N_X1_told_45, N_X1_told_48, N_X1_told_49, N_X1_told_50, N_X1_told_53, N_X1_told_54, N_X1_told_55, N_X1_told_56, N_X1_told_57, N_X1_told_58, N_X1_told_61, N_X1_told_62, N_X1_told_63, N_X1_told_64, N_X1_told_65, N_X1_told_66, N_X1_told_69, N_X1_told_70, N_X1_told_71, N_X1_told_74, N_X1_told_75, N_X1_told_78, N_X1_told_79, N_X1_told_80, N_X1_told_83, N_X1_told_86, N_X1_told_89, if_true, if_false, ite_true, ite_false, not_false_eq_true, not_true_eq_false, isRf_ref, isRf_null, c1_int, c1_ref, c1_null, c1_none, rfv_some, rfv_none, Ok_s, tl_some, tl_none, List.nil_append, b2i_n1, b2i_n0, ↓reduceIte, nI_add, pk_mul, pk_sub, n_leT, n_leF, n_ltT, n_ltF, n_eqT, n_eqF, n_shl1, n_shl, n_shr, nI_and, nI_or, nI_xor, b2i_z, b2i_o, m1_n, n_m1, m1_lt, m1_le, n_lm1, n_em1, nI_m1, and1, and3, and7, and15, and63, and255, Bool.true_eq_false, Bool.false_eq_true, reduceCtorEq, Nat.reduceAdd, Nat.reduceMul, Nat.reduceSub, Nat.reduceDiv, Nat.reduceMod, Nat.reducePow, Nat.zero_add, Nat.one_mul, s5, s8, r0, r2, r3, at4_d]
      refine Ok.mono ct ?_
      rintro _ ⟨L1, rfl⟩
      cases ht : cls[k].2.2.2.2.2 F with
      | none =>
        have e : ((lO none : Int64) = 1) = False := by apply eq_false; decide
        simp (disch := first | omega | exact c1_int _ | exact c1_none | exact c1_ref _ | exact isRf_ref _ | assumption | exact hO _ _ | exact isRf_null | exact okRb _ | exact okN1 | exact okN0 | exact rfl) only [N_X1_told_0, N_X1_told_1, N_X1_told_4, N_X1_told_5, N_X1_told_6, N_X1_told_7, N_X1_told_9, N_X1_told_12, N_X1_told_13, N_X1_told_16, N_X1_told_17, N_X1_told_18, N_X1_told_19, N_X1_told_22, N_X1_told_23, N_X1_told_24, N_X1_told_27, N_X1_told_28, N_X1_told_29, N_X1_told_30, N_X1_told_31, N_X1_told_32, N_X1_told_35, N_X1_told_36, N_X1_told_37, N_X1_told_38, N_X1_told_39, N_X1_told_40, N_X1_told_43, N_X1_told_44, N_X1_told_45, N_X1_told_48, N_X1_told_49, N_X1_told_50, N_X1_told_53, N_X1_told_54, N_X1_told_55, N_X1_told_56, N_X1_told_57, N_X1_told_58, N_X1_told_61, N_X1_told_62, N_X1_told_63, N_X1_told_64, N_X1_told_65, N_X1_told_66, N_X1_told_69, N_X1_told_70, N_X1_told_71, N_X1_told_74, N_X1_told_75, N_X1_told_78, N_X1_told_79, N_X1_told_80, N_X1_told_83, N_X1_told_86, N_X1_told_89, if_true, if_false, ite_true, ite_false, not_false_eq_true, not_true_eq_false, isRf_ref, isRf_null, c1_int, c1_ref, c1_null, c1_none, rfv_some, rfv_none, Ok_s, tl_some, tl_none, List.nil_append, b2i_n1, b2i_n0, ↓reduceIte, nI_add, pk_mul, pk_sub, n_leT, n_leF, n_ltT, n_ltF, n_eqT, n_eqF, n_shl1, n_shl, n_shr, nI_and, nI_or, nI_xor, b2i_z, b2i_o, m1_n, n_m1, m1_lt, m1_le, n_lm1, n_em1, nI_m1, and1, and3, and7, and15, and63, and255, Bool.true_eq_false, Bool.false_eq_true, reduceCtorEq, Nat.reduceAdd, Nat.reduceMul, Nat.reduceSub, Nat.reduceDiv, Nat.reduceMod, Nat.reducePow, Nat.zero_add, Nat.one_mul, lc_eq, e, at4_d]
        rw [hstep, if_neg (by rw [ht]; simp)]
        exact ih (by omega) _ _ _
      | some x =>
        have e : ((lO (some x) : Int64) = 1) = (x = 1) := l_t1 (ct2 x ht)
        by_cases hx : x = 1
        · obtain ⟨cs, cs2⟩ := c_sum (xs := xs) (Ln := Ln) (d := d) (L := L1) S' hz hF hI hC h1
          simp (disch := first | omega | exact c1_int _ | exact c1_none | exact c1_ref _ | exact isRf_ref _ | assumption | exact hO _ _ | exact isRf_null | exact okRb _ | exact okN1 | exact okN0 | exact rfl) only [N_X1_told_0, N_X1_told_1, N_X1_told_4, N_X1_told_5, N_X1_told_6, N_X1_told_7, N_X1_told_9, N_X1_told_12, N_X1_told_13, N_X1_told_16, N_X1_told_17, N_X1_told_18, N_X1_told_19, N_X1_told_22, N_X1_told_23, N_X1_told_24, N_X1_told_27, N_X1_told_28, N_X1_told_29, N_X1_told_30, N_X1_told_31, N_X1_told_32, N_X1_told_35, N_X1_told_36, N_X1_told_37, N_X1_told_38, N_X1_told_39, N_X1_told_40, N_X1_told_43, N_X1_told_44, N_X1_told_45, N_X1_told_48, N_X1_told_49, N_X1_told_50, N_X1_told_53, N_X1_told_54, N_X1_told_55, N_X1_told_56, N_X1_told_57, N_X1_told_58, N_X1_told_61, N_X1_told_62, N_X1_told_63, N_X1_told_64, N_X1_told_65, N_X1_told_66, N_X1_told_69, N_X1_told_70, N_X1_told_71, N_X1_told_74, N_X1_told_75, N_X1_told_78, N_X1_told_79, N_X1_told_80, N_X1_told_83, N_X1_told_86, N_X1_told_89, if_true, if_false, ite_true, ite_false, not_false_eq_true, not_true_eq_false, isRf_ref, isRf_null, c1_int, c1_ref, c1_null, c1_none, rfv_some, rfv_none, Ok_s, tl_some, tl_none, List.nil_append, b2i_n1, b2i_n0, ↓reduceIte, nI_add, pk_mul, pk_sub, n_leT, n_leF, n_ltT, n_ltF, n_eqT, n_eqF, n_shl1, n_shl, n_shr, nI_and, nI_or, nI_xor, b2i_z, b2i_o, m1_n, n_m1, m1_lt, m1_le, n_lm1, n_em1, nI_m1, and1, and3, and7, and15, and63, and255, Bool.true_eq_false, Bool.false_eq_true, reduceCtorEq, Nat.reduceAdd, Nat.reduceMul, Nat.reduceSub, Nat.reduceDiv, Nat.reduceMod, Nat.reducePow, Nat.zero_add, Nat.one_mul, s5, s8, r0, r1, r2, lc_eq, e, hx, at4_d]
          refine Ok.mono cs ?_
          rintro _ ⟨L2, rfl⟩
          cases hs : cls[k].2.2.2.2.1 F with
          | none =>
            have e : ((lO none : Int64) = -2000000000) = True := by apply eq_true; decide
            simp (disch := first | omega | exact c1_int _ | exact c1_none | exact c1_ref _ | exact isRf_ref _ | assumption | exact hO _ _ | exact isRf_null | exact okRb _ | exact okN1 | exact okN0 | exact rfl) only [N_X1_told_0, N_X1_told_1, N_X1_told_4, N_X1_told_5, N_X1_told_6, N_X1_told_7, N_X1_told_9, N_X1_told_12, N_X1_told_13, N_X1_told_16, N_X1_told_17, N_X1_told_18, N_X1_told_19, N_X1_told_22, N_X1_told_23, N_X1_told_24, N_X1_told_27, N_X1_told_28, N_X1_told_29, N_X1_told_30, N_X1_told_31, N_X1_told_32, N_X1_told_35, N_X1_told_36, N_X1_told_37, N_X1_told_38, N_X1_told_39, N_X1_told_40, N_X1_told_43, N_X1_told_44, N_X1_told_45, N_X1_told_48, N_X1_told_49, N_X1_told_50, N_X1_told_53, N_X1_told_54, N_X1_told_55, N_X1_told_56, N_X1_told_57, N_X1_told_58, N_X1_told_61, N_X1_told_62, N_X1_told_63, N_X1_told_64, N_X1_told_65, N_X1_told_66, N_X1_told_69, N_X1_told_70, N_X1_told_71, N_X1_told_74, N_X1_told_75, N_X1_told_78, N_X1_told_79, N_X1_told_80, N_X1_told_83, N_X1_told_86, N_X1_told_89, if_true, if_false, ite_true, ite_false, not_false_eq_true, not_true_eq_false, isRf_ref, isRf_null, c1_int, c1_ref, c1_null, c1_none, rfv_some, rfv_none, Ok_s, tl_some, tl_none, List.nil_append, b2i_n1, b2i_n0, ↓reduceIte, nI_add, pk_mul, pk_sub, n_leT, n_leF, n_ltT, n_ltF, n_eqT, n_eqF, n_shl1, n_shl, n_shr, nI_and, nI_or, nI_xor, b2i_z, b2i_o, m1_n, n_m1, m1_lt, m1_le, n_lm1, n_em1, nI_m1, and1, and3, and7, and15, and63, and255, Bool.true_eq_false, Bool.false_eq_true, reduceCtorEq, Nat.reduceAdd, Nat.reduceMul, Nat.reduceSub, Nat.reduceDiv, Nat.reduceMod, Nat.reducePow, Nat.zero_add, Nat.one_mul, lc_eq, e, at4_d]
            rw [hstep, if_neg (by rw [hs]; simp)]
            exact ih (by omega) _ _ _
          | some y =>
            have e : ((lO (some y) : Int64) = -2000000000) = False := l_br (cs2 y hs)
            simp (disch := first | omega | exact c1_int _ | exact c1_none | exact c1_ref _ | exact isRf_ref _ | assumption | exact hO _ _ | exact isRf_null | exact okRb _ | exact okN1 | exact okN0 | exact rfl) only [N_X1_told_0, N_X1_told_1, N_X1_told_4, N_X1_told_5, N_X1_told_6, N_X1_told_7, N_X1_told_9, N_X1_told_12, N_X1_told_13, N_X1_told_16, N_X1_told_17, N_X1_told_18, N_X1_told_19, N_X1_told_22, N_X1_told_23, N_X1_told_24, N_X1_told_27, N_X1_told_28, N_X1_told_29, N_X1_told_30, N_X1_told_31, N_X1_told_32, N_X1_told_35, N_X1_told_36, N_X1_told_37, N_X1_told_38, N_X1_told_39, N_X1_told_40, N_X1_told_43, N_X1_told_44, N_X1_told_45, N_X1_told_48, N_X1_told_49, N_X1_told_50, N_X1_told_53, N_X1_told_54, N_X1_told_55, N_X1_told_56, N_X1_told_57, N_X1_told_58, N_X1_told_61, N_X1_told_62, N_X1_told_63, N_X1_told_64, N_X1_told_65, N_X1_told_66, N_X1_told_69, N_X1_told_70, N_X1_told_71, N_X1_told_74, N_X1_told_75, N_X1_told_78, N_X1_told_79, N_X1_told_80, N_X1_told_83, N_X1_told_86, N_X1_told_89, if_true, if_false, ite_true, ite_false, not_false_eq_true, not_true_eq_false, isRf_ref, isRf_null, c1_int, c1_ref, c1_null, c1_none, rfv_some, rfv_none, Ok_s, tl_some, tl_none, List.nil_append, b2i_n1, b2i_n0, ↓reduceIte, nI_add, pk_mul, pk_sub, n_leT, n_leF, n_ltT, n_ltF, n_eqT, n_eqF, n_shl1, n_shl, n_shr, nI_and, nI_or, nI_xor, b2i_z, b2i_o, m1_n, n_m1, m1_lt, m1_le, n_lm1, n_em1, nI_m1, and1, and3, and7, and15, and63, and255, Bool.true_eq_false, Bool.false_eq_true, reduceCtorEq, Nat.reduceAdd, Nat.reduceMul, Nat.reduceSub, Nat.reduceDiv, Nat.reduceMod, Nat.reducePow, Nat.zero_add, Nat.one_mul, lc_eq, e]
            rw [hstep, if_pos ⟨h1, by rw [ht, hx], by rw [hs]; rfl⟩, hs]
            exact ⟨_, rfl⟩
        · simp (disch := first | omega | exact c1_int _ | exact c1_none | exact c1_ref _ | exact isRf_ref _ | assumption | exact hO _ _ | exact isRf_null | exact okRb _ | exact okN1 | exact okN0 | exact rfl) only [N_X1_told_0, N_X1_told_1, N_X1_told_4, N_X1_told_5, N_X1_told_6, N_X1_told_7, N_X1_told_9, N_X1_told_12, N_X1_told_13, N_X1_told_16, N_X1_told_17, N_X1_told_18, N_X1_told_19, N_X1_told_22, N_X1_told_23, N_X1_told_24, N_X1_told_27, N_X1_told_28, N_X1_told_29, N_X1_told_30, N_X1_told_31, N_X1_told_32, N_X1_told_35, N_X1_told_36, N_X1_told_37, N_X1_told_38, N_X1_told_39, N_X1_told_40, N_X1_told_43, N_X1_told_44, N_X1_told_45, N_X1_told_48, N_X1_told_49, N_X1_told_50, N_X1_told_53, N_X1_told_54, N_X1_told_55, N_X1_told_56, N_X1_told_57, N_X1_told_58, N_X1_told_61, N_X1_told_62, N_X1_told_63, N_X1_told_64, N_X1_told_65, N_X1_told_66, N_X1_told_69, N_X1_told_70, N_X1_told_71, N_X1_told_74, N_X1_told_75, N_X1_told_78, N_X1_told_79, N_X1_told_80, N_X1_told_83, N_X1_told_86, N_X1_told_89, if_true, if_false, ite_true, ite_false, not_false_eq_true, not_true_eq_false, isRf_ref, isRf_null, c1_int, c1_ref, c1_null, c1_none, rfv_some, rfv_none, Ok_s, tl_some, tl_none, List.nil_append, b2i_n1, b2i_n0, ↓reduceIte, nI_add, pk_mul, pk_sub, n_leT, n_leF, n_ltT, n_ltF, n_eqT, n_eqF, n_shl1, n_shl, n_shr, nI_and, nI_or, nI_xor, b2i_z, b2i_o, m1_n, n_m1, m1_lt, m1_le, n_lm1, n_em1, nI_m1, and1, and3, and7, and15, and63, and255, Bool.true_eq_false, Bool.false_eq_true, reduceCtorEq, Nat.reduceAdd, Nat.reduceMul, Nat.reduceSub, Nat.reduceDiv, Nat.reduceMod, Nat.reducePow, Nat.zero_add, Nat.one_mul, lc_eq, e, hx, at4_d]
          rw [hstep, if_neg (by rw [ht]; simp [hx])]
          exact ih (by omega) _ _ _
    · rw [if_neg h1] at r0
      simp (disch := first | omega | exact c1_int _ | exact c1_none | exact c1_ref _ | exact isRf_ref _ | assumption | exact hO _ _ | exact isRf_null | exact okRb _ | exact okN1 | exact okN0 | exact rfl) only [N_X1_told_0, N_X1_told_1, N_X1_told_4, N_X1_told_5, N_X1_told_6, N_X1_told_7, N_X1_told_9, N_X1_told_12, N_X1_told_13, N_X1_told_16, N_X1_told_17, N_X1_told_18, N_X1_told_19, N_X1_told_22, N_X1_told_23, N_X1_told_24, N_X1_told_27, N_X1_told_28, N_X1_told_29, N_X1_told_30, N_X1_told_31, N_X1_told_32, N_X1_told_35, N_X1_told_36, N_X1_told_37, N_X1_told_38, N_X1_told_39, N_X1_told_40, N_X1_told_43, N_X1_told_44, N_X1_told_45, N_X1_told_48, N_X1_told_49, N_X1_told_50, N_X1_told_53, N_X1_told_54, N_X1_told_55, N_X1_told_56, N_X1_told_57, N_X1_told_58, N_X1_told_61, N_X1_told_62, N_X1_told_63, N_X1_told_64, N_X1_told_65, N_X1_told_66, N_X1_told_69, N_X1_told_70, N_X1_told_71, N_X1_told_74, N_X1_told_75, N_X1_told_78, N_X1_told_79, N_X1_told_80, N_X1_told_83, N_X1_told_86, N_X1_told_89, if_true, if_false, ite_true, ite_false, not_false_eq_true, not_true_eq_false, isRf_ref, isRf_null, c1_int, c1_ref, c1_null, c1_none, rfv_some, rfv_none, Ok_s, tl_some, tl_none, List.nil_append, b2i_n1, b2i_n0, ↓reduceIte, nI_add, pk_mul, pk_sub, n_leT, n_leF, n_ltT, n_ltF, n_eqT, n_eqF, n_shl1, n_shl, n_shr, nI_and, nI_or, nI_xor, b2i_z, b2i_o, m1_n, n_m1, m1_lt, m1_le, n_lm1, n_em1, nI_m1, and1, and3, and7, and15, and63, and255, Bool.true_eq_false, Bool.false_eq_true, reduceCtorEq, Nat.reduceAdd, Nat.reduceMul, Nat.reduceSub, Nat.reduceDiv, Nat.reduceMod, Nat.reducePow, Nat.zero_add, Nat.one_mul, s5, s8, r0, at4_d]
      rw [hstep, if_neg (fun h => h1 h.1)]
      exact ih (by omega) _ _ _
theorem c_told {c : List Nat} {cls : List Cl} (h : LwC D I q tk vl n0 c cls) (hF : ∀ j, F j ≤ 1000) (hI : ∀ j, j < 7 → I 24 j = nI (F j)) : Ok (callD xs Ln (d + 2) 4 [.ref q, .ref 24] (mkW D I L)) (fun r => ∃ L', r = (mkW D I L', some (.long (lO (askF 1 F cls none))))) ∧ (∀ x, askF 1 F cls none = some x → sml x) := by
  obtain ⟨s1, s2, s3, s4, s5, s6, s7, s8, s9, s10, s11⟩ := h.1
  have hO : ∀ I L, isObj (mkW D I L) q 1 = true := fun I L => w_ob s3 rfl
  have hln := rdL_n h.2.2.2.2 12 0 0 0 c cls (Nat.zero_le _) h.2.1
  have hfin := tldK_ask F cls cls.length (Nat.le_refl _)
  rw [List.take_length] at hfin
  constructor
  · refine semG (lo := [some (.ref q), some (.ref 24), none, none, none]) rfl rfl (Nat.le_of_ble_eq_true rfl) rfl (show G_X1_told xs Ln _ 0 [some (.ref q), some (.ref 24), none, none, none] [] _ _ from ?_)
    have e4 : nI (4 * cls.length) - nI 4 = at4 cls.length := by
      obtain ⟨k, hk⟩ : ∃ k, cls.length = k + 1 := ⟨cls.length - 1, by omega⟩
      rw [hk, pk_sub (by omega), show 4 * (k + 1) - 4 = 4 * k by omega]
      rfl
    simp (disch := first | omega | exact c1_int _ | exact c1_none | exact c1_ref _ | exact isRf_ref _ | assumption | exact hO _ _ | exact isRf_null | exact okRb _ | exact okN1 | exact okN0 | exact rfl) only [N_X1_told_0, N_X1_told_1, N_X1_told_4, N_X1_told_5, N_X1_told_6, N_X1_told_7, N_X1_told_9, N_X1_told_12, N_X1_told_13, N_X1_told_16, N_X1_told_17, N_X1_told_18, N_X1_told_19, N_X1_told_22, N_X1_told_23, N_X1_told_24, N_X1_told_27, N_X1_told_28, N_X1_told_29, N_X1_told_30, N_X1_told_31, N_X1_told_32, N_X1_told_35, N_X1_told_36, N_X1_told_37, N_X1_told_38, N_X1_told_39, N_X1_told_40, N_X1_told_43, N_X1_told_44, N_X1_told_45, N_X1_told_48, N_X1_told_49, N_X1_told_50, N_X1_told_53, N_X1_told_54, N_X1_told_55, N_X1_told_56, N_X1_told_57, N_X1_told_58, N_X1_told_61, N_X1_told_62, N_X1_told_63, N_X1_told_64, N_X1_told_65, N_X1_told_66, N_X1_told_69, N_X1_told_70, N_X1_told_71, N_X1_told_74, N_X1_told_75, N_X1_told_78, N_X1_told_79, N_X1_told_80, N_X1_told_83, N_X1_told_86, N_X1_told_89, if_true, if_false, ite_true, ite_false, not_false_eq_true, not_true_eq_false, isRf_ref, isRf_null, c1_int, c1_ref, c1_null, c1_none, rfv_some, rfv_none, Ok_s, tl_some, tl_none, List.nil_append, b2i_n1, b2i_n0, s5, s8, e4]
    have := c_toldL (xs := xs) (Ln := Ln) (d := d) h hF hI cls.length (Nat.le_refl _) L none none
    rw [hfin] at this
    exact this
  · intro x hx
    have key : ∀ k, k ≤ cls.length → ∀ x, tldK F cls k = some x → sml x := by
      intro k
      induction k with
      | zero => intro _ x h; cases h
      | succ k ih =>
        intro hk x hx
        have hkl : k < cls.length := by omega
        have hg : cls[k]? = some cls[k] := List.getElem?_eq_getElem hkl
        have hC := h.c (List.getElem_mem hkl)
        have hstep : tldK F cls (k + 1) = if cls[k].1 = 1 ∧ cls[k].2.2.2.2.2 F = some 1 ∧ (cls[k].2.2.2.2.1 F).isSome = true then cls[k].2.2.2.2.1 F else tldK F cls k := by
          show (match cls[k]? with
            | some cl => _
            | none => _) = _
          rw [hg]
        rw [hstep] at hx
        split at hx
        · rename_i hc
          exact (c_sum (xs := fun _ => 0) (Ln := 0) (d := 0) (L := fun _ _ => 0) h.1 h.2.2.2.2 hF hI hC hc.1).2 x hx
        · exact ih (by omega) x hx
    exact key cls.length (Nat.le_refl _) x (by rw [hfin]; exact hx)
/-- does one of the clauses from k on bar -/
theorem ask2_iff (F : Fc) : ∀ (cls : List Cl) (o : Option Int), (∀ cl, cl ∈ cls → cl.1 = 2 → cl.2.2.2.2.1 = d1) → ((askF 2 F cls o).isSome = true ↔ o.isSome = true ∨ ∃ cl, cl ∈ cls ∧ cl.1 = 2 ∧ cl.2.2.2.2.2 F = some 1)
  | [], o, _ => by simp [askF]
  | cl :: cls, o, h => by
    rw [show askF 2 F (cl :: cls) o = askF 2 F cls (askS 2 F cl o) from rfl, ask2_iff F cls _ (fun c hc => h c (List.mem_cons_of_mem _ hc))]
    have hd := h cl List.mem_cons_self
    unfold askS
    by_cases hc : cl.1 = 2 ∧ cl.2.2.2.2.2 F = some 1
    · have hs : (cl.2.2.2.2.1 F).isSome = true := by rw [hd hc.1]; rfl
      rw [if_pos ⟨hc.1, hc.2, hs⟩]
      constructor
      · intro _; exact Or.inr ⟨cl, List.mem_cons_self, hc⟩
      · intro _; exact Or.inl hs
    · rw [if_neg (fun h => hc ⟨h.1, h.2.1⟩)]
      constructor
      · rintro (h1 | ⟨c, h1, h2⟩)
        · exact Or.inl h1
        · exact Or.inr ⟨c, List.mem_cons_of_mem _ h1, h2⟩
      · rintro (h1 | ⟨c, h1, h2⟩)
        · exact Or.inl h1
        · rcases List.mem_cons.mp h1 with rfl | h3
          · exact absurd h2 hc
          · exact Or.inr ⟨c, h3, h2⟩
theorem c_barsL {c : List Nat} {cls : List Cl} (h : LwC D I q tk vl n0 c cls) (hF : ∀ j, F j ≤ 1000) (hI : ∀ j, j < 7 → I 24 j = nI (F j)) : ∀ k i, i + k = cls.length → ∀ L, (∀ j cl, j < i → cls[j]? = some cl → ¬ (cl.1 = 2 ∧ cl.2.2.2.2.2 F = some 1)) → G_X1_bars xs Ln (d + 1) 2 [some (.ref q), some (.ref 24), some (.int (nI (4 * i)))] [] (mkW D I L) (fun r => ∃ L', r = (mkW D I L', some (.int (b2i (askF 2 F cls none).isSome)))) := by
  obtain ⟨S, hrd, hcod, hcl, hz⟩ := h
  have h' : LwC D I q tk vl n0 c cls := ⟨S, hrd, hcod, hcl, hz⟩
  have S' := S
  obtain ⟨s1, s2, s3, s4, s5, s6, s7, s8, s9, s10, s11⟩ := S
  have hO : ∀ I L, isObj (mkW D I L) q 1 = true := fun I L => w_ob s3 rfl
  have hd : ∀ cl, cl ∈ cls → cl.1 = 2 → cl.2.2.2.2.1 = d1 := by
    intro cl hm h2
    rcases (h'.c hm).1 with ⟨e, -⟩ | ⟨-, e⟩
    · omega
    · exact e
  intro k
  induction k with
  | zero =>
    intro i hi L hno
    have e : (askF 2 F cls none).isSome = false := by
      rw [← Bool.not_eq_true, ask2_iff F cls none hd]
      rintro (h1 | ⟨cl, h1, h2⟩)
      · cases h1
      · obtain ⟨j, hj, rfl⟩ := List.getElem_of_mem h1
        exact hno j _ (by omega) (List.getElem?_eq_getElem hj) h2
    rw [N_X1_bars_2]
    simp (disch := first | omega | exact c1_int _ | exact c1_none | exact c1_ref _ | exact isRf_ref _ | assumption | exact hO _ _ | exact isRf_null | exact okRb _ | exact okN1 | exact okN0 | exact rfl) only [N_X1_bars_0, N_X1_bars_1, N_X1_bars_3, N_X1_bars_4, N_X1_bars_5, N_X1_bars_6, N_X1_bars_9, N_X1_bars_10, N_X1_bars_13, N_X1_bars_14, N_X1_bars_17, N_X1_bars_18, N_X1_bars_19, N_X1_bars_22, N_X1_bars_23, N_X1_bars_24, N_X1_bars_27, N_X1_bars_28, N_X1_bars_29, N_X1_bars_30, N_X1_bars_31, N_X1_bars_32, N_X1_bars_35, N_X1_bars_36, N_X1_bars_37, N_X1_bars_38, N_X1_bars_39, N_X1_bars_40, N_X1_bars_43, N_X1_bars_44, N_X1_bars_45, N_X1_bars_48, N_X1_bars_49, N_X1_bars_50, N_X1_bars_53, N_X1_bars_56, N_X1_bars_57, if_true, if_false, ite_true, ite_false, not_false_eq_true, not_true_eq_false, isRf_ref, isRf_null, c1_int, c1_ref, c1_null, c1_none, rfv_some, rfv_none, Ok_s, tl_some, tl_none, List.nil_append, b2i_n1, b2i_n0, ↓reduceIte, nI_add, pk_mul, pk_sub, n_leT, n_leF, n_ltT, n_ltF, n_eqT, n_eqF, n_shl1, n_shl, n_shr, nI_and, nI_or, nI_xor, b2i_z, b2i_o, m1_n, n_m1, m1_lt, m1_le, n_lm1, n_em1, nI_m1, and1, and3, and7, and15, and63, and255, Bool.true_eq_false, Bool.false_eq_true, reduceCtorEq, Nat.reduceAdd, Nat.reduceMul, Nat.reduceSub, Nat.reduceDiv, Nat.reduceMod, Nat.reducePow, Nat.zero_add, Nat.one_mul, s5, s8]
    exact ⟨_, by rw [e]; rfl⟩
  | succ k ih =>
    intro i hi L hno
    have hkl : i < cls.length := by omega
    have hg : cls[i]? = some cls[i] := List.getElem?_eq_getElem hkl
    have hC := h'.c (List.getElem_mem hkl)
    obtain ⟨r0, r1, r2, r3⟩ := hcl i _ hg
    obtain ⟨ct, ct2⟩ := c_test (xs := xs) (Ln := Ln) (d := d) (L := L) S' hz hF hI hC
    have nx : ∀ L, ¬ (cls[i].1 = 2 ∧ cls[i].2.2.2.2.2 F = some 1) → G_X1_bars xs Ln (d + 1) 2 [some (.ref q), some (.ref 24), some (.int (nI (4 * i + 4)))] [] (mkW D I L) (fun r => ∃ L', r = (mkW D I L', some (.int (b2i (askF 2 F cls none).isSome)))) := by
      intro L hc
      refine ih (i + 1) (by omega) L ?_
      intro j cl hj hjc
      by_cases e : j = i
      · subst e
        rw [hg] at hjc
        cases hjc
        exact hc
      · exact hno j cl (by omega) hjc
    have h12 : cls[i].1 = 1 ∨ cls[i].1 = 2 := by
      rcases hC.1 with ⟨e, -⟩ | ⟨e, -⟩
      · exact Or.inl e
      · exact Or.inr e
    rw [N_X1_bars_2]
    rcases h12 with h1 | h2
    · rw [if_pos h1] at r0
      simp (disch := first | omega | exact c1_int _ | exact c1_none | exact c1_ref _ | exact isRf_ref _ | assumption | exact hO _ _ | exact isRf_null | exact okRb _ | exact okN1 | exact okN0 | exact rfl) only [N_X1_bars_0, N_X1_bars_1, N_X1_bars_3, N_X1_bars_4, N_X1_bars_5, N_X1_bars_6, N_X1_bars_9, N_X1_bars_10, N_X1_bars_13, N_X1_bars_14, N_X1_bars_17, N_X1_bars_18, N_X1_bars_19, N_X1_bars_22, N_X1_bars_23, N_X1_bars_24, N_X1_bars_27, N_X1_bars_28, N_X1_bars_29, N_X1_bars_30, N_X1_bars_31, N_X1_bars_32, N_X1_bars_35, N_X1_bars_36, N_X1_bars_37, N_X1_bars_38, N_X1_bars_39, N_X1_bars_40, N_X1_bars_43, N_X1_bars_44, N_X1_bars_45, N_X1_bars_48, N_X1_bars_49, N_X1_bars_50, N_X1_bars_53, N_X1_bars_56, N_X1_bars_57, if_true, if_false, ite_true, ite_false, not_false_eq_true, not_true_eq_false, isRf_ref, isRf_null, c1_int, c1_ref, c1_null, c1_none, rfv_some, rfv_none, Ok_s, tl_some, tl_none, List.nil_append, b2i_n1, b2i_n0, ↓reduceIte, nI_add, pk_mul, pk_sub, n_leT, n_leF, n_ltT, n_ltF, n_eqT, n_eqF, n_shl1, n_shl, n_shr, nI_and, nI_or, nI_xor, b2i_z, b2i_o, m1_n, n_m1, m1_lt, m1_le, n_lm1, n_em1, nI_m1, and1, and3, and7, and15, and63, and255, Bool.true_eq_false, Bool.false_eq_true, reduceCtorEq, Nat.reduceAdd, Nat.reduceMul, Nat.reduceSub, Nat.reduceDiv, Nat.reduceMod, Nat.reducePow, Nat.zero_add, Nat.one_mul, s5, s8, r0]
      exact nx _ (by omega)
    · rw [if_neg (by omega)] at r0
      simp (disch := first | omega | exact c1_int _ | exact c1_none | exact c1_ref _ | exact isRf_ref _ | assumption | exact hO _ _ | exact isRf_null | exact okRb _ | exact okN1 | exact okN0 | exact rfl) only [N_X1_bars_0, N_X1_bars_1, N_X1_bars_3, N_X1_bars_4, N_X1_bars_5, N_X1_bars_6, N_X1_bars_9, N_X1_bars_10, N_X1_bars_13, N_X1_bars_14, N_X1_bars_17, N_X1_bars_18, N_X1_bars_19, N_X1_bars_22, N_X1_bars_23, N_X1_bars_24, N_X1_bars_27, N_X1_bars_28, N_X1_bars_29, N_X1_bars_30, N_X1_bars_31, N_X1_bars_32, N_X1_bars_35, N_X1_bars_36, N_X1_bars_37, N_X1_bars_38, N_X1_bars_39, N_X1_bars_40, N_X1_bars_43, N_X1_bars_44, N_X1_bars_45, N_X1_bars_48, N_X1_bars_49, N_X1_bars_50, N_X1_bars_53, N_X1_bars_56, N_X1_bars_57, if_true, if_false, ite_true, ite_false, not_false_eq_true, not_true_eq_false, isRf_ref, isRf_null, c1_int, c1_ref, c1_null, c1_none, rfv_some, rfv_none, Ok_s, tl_some, tl_none, List.nil_append, b2i_n1, b2i_n0, ↓reduceIte, nI_add, pk_mul, pk_sub, n_leT, n_leF, n_ltT, n_ltF, n_eqT, n_eqF, n_shl1, n_shl, n_shr, nI_and, nI_or, nI_xor, b2i_z, b2i_o, m1_n, n_m1, m1_lt, m1_le, n_lm1, n_em1, nI_m1, and1, and3, and7, and15, and63, and255, Bool.true_eq_false, Bool.false_eq_true, reduceCtorEq, Nat.reduceAdd, Nat.reduceMul, Nat.reduceSub, Nat.reduceDiv, Nat.reduceMod, Nat.reducePow, Nat.zero_add, Nat.one_mul, s5, s8, r0, r2, r3]
      refine Ok.mono ct ?_
      rintro _ ⟨L1, rfl⟩
      cases ht : cls[i].2.2.2.2.2 F with
      | none =>
        have e : ((lO none : Int64) = 1) = False := by apply eq_false; decide
        simp (disch := first | omega | exact c1_int _ | exact c1_none | exact c1_ref _ | exact isRf_ref _ | assumption | exact hO _ _ | exact isRf_null | exact okRb _ | exact okN1 | exact okN0 | exact rfl) only [N_X1_bars_0, N_X1_bars_1, N_X1_bars_3, N_X1_bars_4, N_X1_bars_5, N_X1_bars_6, N_X1_bars_9, N_X1_bars_10, N_X1_bars_13, N_X1_bars_14, N_X1_bars_17, N_X1_bars_18, N_X1_bars_19, N_X1_bars_22, N_X1_bars_23, N_X1_bars_24, N_X1_bars_27, N_X1_bars_28, N_X1_bars_29, N_X1_bars_30, N_X1_bars_31, N_X1_bars_32, N_X1_bars_35, N_X1_bars_36, N_X1_bars_37, N_X1_bars_38, N_X1_bars_39, N_X1_bars_40, N_X1_bars_43, N_X1_bars_44, N_X1_bars_45, N_X1_bars_48, N_X1_bars_49, N_X1_bars_50, N_X1_bars_53, N_X1_bars_56, N_X1_bars_57, if_true, if_false, ite_true, ite_false, not_false_eq_true, not_true_eq_false, isRf_ref, isRf_null, c1_int, c1_ref, c1_null, c1_none, rfv_some, rfv_none, Ok_s, tl_some, tl_none, List.nil_append, b2i_n1, b2i_n0, ↓reduceIte, nI_add, pk_mul, pk_sub, n_leT, n_leF, n_ltT, n_ltF, n_eqT, n_eqF, n_shl1, n_shl, n_shr, nI_and, nI_or, nI_xor, b2i_z, b2i_o, m1_n, n_m1, m1_lt, m1_le, n_lm1, n_em1, nI_m1, and1, and3, and7, and15, and63, and255, Bool.true_eq_false, Bool.false_eq_true, reduceCtorEq, Nat.reduceAdd, Nat.reduceMul, Nat.reduceSub, Nat.reduceDiv, Nat.reduceMod, Nat.reducePow, Nat.zero_add, Nat.one_mul, lc_eq, e]
        exact nx _ (by rw [ht]; simp)
      | some x =>
        have e : ((lO (some x) : Int64) = 1) = (x = 1) := l_t1 (ct2 x ht)
        by_cases hx : x = 1
        · simp (disch := first | omega | exact c1_int _ | exact c1_none | exact c1_ref _ | exact isRf_ref _ | assumption | exact hO _ _ | exact isRf_null | exact okRb _ | exact okN1 | exact okN0 | exact rfl) only [N_X1_bars_0, N_X1_bars_1, N_X1_bars_3, N_X1_bars_4, N_X1_bars_5, N_X1_bars_6, N_X1_bars_9, N_X1_bars_10, N_X1_bars_13, N_X1_bars_14, N_X1_bars_17, N_X1_bars_18, N_X1_bars_19, N_X1_bars_22, N_X1_bars_23, N_X1_bars_24, N_X1_bars_27, N_X1_bars_28, N_X1_bars_29, N_X1_bars_30, N_X1_bars_31, N_X1_bars_32, N_X1_bars_35, N_X1_bars_36, N_X1_bars_37, N_X1_bars_38, N_X1_bars_39, N_X1_bars_40, N_X1_bars_43, N_X1_bars_44, N_X1_bars_45, N_X1_bars_48, N_X1_bars_49, N_X1_bars_50, N_X1_bars_53, N_X1_bars_56, N_X1_bars_57, if_true, if_false, ite_true, ite_false, not_false_eq_true, not_true_eq_false, isRf_ref, isRf_null, c1_int, c1_ref, c1_null, c1_none, rfv_some, rfv_none, Ok_s, tl_some, tl_none, List.nil_append, b2i_n1, b2i_n0, ↓reduceIte, nI_add, pk_mul, pk_sub, n_leT, n_leF, n_ltT, n_ltF, n_eqT, n_eqF, n_shl1, n_shl, n_shr, nI_and, nI_or, nI_xor, b2i_z, b2i_o, m1_n, n_m1, m1_lt, m1_le, n_lm1, n_em1, nI_m1, and1, and3, and7, and15, and63, and255, Bool.true_eq_false, Bool.false_eq_true, reduceCtorEq, Nat.reduceAdd, Nat.reduceMul, Nat.reduceSub, Nat.reduceDiv, Nat.reduceMod, Nat.reducePow, Nat.zero_add, Nat.one_mul, lc_eq, e, hx]
          have : (askF 2 F cls none).isSome = true := (ask2_iff F cls none hd).mpr (Or.inr ⟨cls[i], List.getElem_mem hkl, h2, by rw [ht, hx]⟩)
          exact ⟨_, by rw [this]; rfl⟩
        · simp (disch := first | omega | exact c1_int _ | exact c1_none | exact c1_ref _ | exact isRf_ref _ | assumption | exact hO _ _ | exact isRf_null | exact okRb _ | exact okN1 | exact okN0 | exact rfl) only [N_X1_bars_0, N_X1_bars_1, N_X1_bars_3, N_X1_bars_4, N_X1_bars_5, N_X1_bars_6, N_X1_bars_9, N_X1_bars_10, N_X1_bars_13, N_X1_bars_14, N_X1_bars_17, N_X1_bars_18, N_X1_bars_19, N_X1_bars_22, N_X1_bars_23, N_X1_bars_24, N_X1_bars_27, N_X1_bars_28, N_X1_bars_29, N_X1_bars_30, N_X1_bars_31, N_X1_bars_32, N_X1_bars_35, N_X1_bars_36, N_X1_bars_37, N_X1_bars_38, N_X1_bars_39, N_X1_bars_40, N_X1_bars_43, N_X1_bars_44, N_X1_bars_45, N_X1_bars_48, N_X1_bars_49, N_X1_bars_50, N_X1_bars_53, N_X1_bars_56, N_X1_bars_57, if_true, if_false, ite_true, ite_false, not_false_eq_true, not_true_eq_false, isRf_ref, isRf_null, c1_int, c1_ref, c1_null, c1_none, rfv_some, rfv_none, Ok_s, tl_some, tl_none, List.nil_append, b2i_n1, b2i_n0, ↓reduceIte, nI_add, pk_mul, pk_sub, n_leT, n_leF, n_ltT, n_ltF, n_eqT, n_eqF, n_shl1, n_shl, n_shr, nI_and, nI_or, nI_xor, b2i_z, b2i_o, m1_n, n_m1, m1_lt, m1_le, n_lm1, n_em1, nI_m1, and1, and3, and7, and15, and63, and255, Bool.true_eq_false, Bool.false_eq_true, reduceCtorEq, Nat.reduceAdd, Nat.reduceMul, Nat.reduceSub, Nat.reduceDiv, Nat.reduceMod, Nat.reducePow, Nat.zero_add, Nat.one_mul, lc_eq, e, hx]
          exact nx _ (by rw [ht]; simp [hx])
theorem c_bars {c : List Nat} {cls : List Cl} (h : LwC D I q tk vl n0 c cls) (hF : ∀ j, F j ≤ 1000) (hI : ∀ j, j < 7 → I 24 j = nI (F j)) : Ok (callD xs Ln (d + 2) 5 [.ref q, .ref 24] (mkW D I L)) (fun r => ∃ L', r = (mkW D I L', some (.int (b2i (askF 2 F cls none).isSome)))) := by
  refine semG (lo := [some (.ref q), some (.ref 24), none]) rfl rfl (Nat.le_of_ble_eq_true rfl) rfl (show G_X1_bars xs Ln _ 0 [some (.ref q), some (.ref 24), none] [] _ _ from ?_)
  simp (disch := first | omega | exact c1_int _ | exact c1_none | exact c1_ref _ | exact isRf_ref _ | assumption | exact hO _ _ | exact isRf_null | exact okRb _ | exact okN1 | exact okN0 | exact rfl) only [N_X1_bars_0, N_X1_bars_1, N_X1_bars_3, N_X1_bars_4, N_X1_bars_5, N_X1_bars_6, N_X1_bars_9, N_X1_bars_10, N_X1_bars_13, N_X1_bars_14, N_X1_bars_17, N_X1_bars_18, N_X1_bars_19, N_X1_bars_22, N_X1_bars_23, N_X1_bars_24, N_X1_bars_27, N_X1_bars_28, N_X1_bars_29, N_X1_bars_30, N_X1_bars_31, N_X1_bars_32, N_X1_bars_35, N_X1_bars_36, N_X1_bars_37, N_X1_bars_38, N_X1_bars_39, N_X1_bars_40, N_X1_bars_43, N_X1_bars_44, N_X1_bars_45, N_X1_bars_48, N_X1_bars_49, N_X1_bars_50, N_X1_bars_53, N_X1_bars_56, N_X1_bars_57, if_true, if_false, ite_true, ite_false, not_false_eq_true, not_true_eq_false, isRf_ref, isRf_null, c1_int, c1_ref, c1_null, c1_none, rfv_some, rfv_none, Ok_s, tl_some, tl_none, List.nil_append, b2i_n1, b2i_n0, ↓reduceIte, nI_add, pk_mul, pk_sub, n_leT, n_leF, n_ltT, n_ltF, n_eqT, n_eqF, n_shl1, n_shl, n_shr, nI_and, nI_or, nI_xor, b2i_z, b2i_o, m1_n, n_m1, m1_lt, m1_le, n_lm1, n_em1, nI_m1, and1, and3, and7, and15, and63, and255, Bool.true_eq_false, Bool.false_eq_true, reduceCtorEq, Nat.reduceAdd, Nat.reduceMul, Nat.reduceSub, Nat.reduceDiv, Nat.reduceMod, Nat.reducePow, Nat.zero_add, Nat.one_mul]
  exact c_barsL (xs := xs) (Ln := Ln) (d := d) h hF hI cls.length 0 (by omega) L (fun j cl hj => by omega)
end LW
end P94
