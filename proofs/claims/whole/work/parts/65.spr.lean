section P65
variable {xs : Nat → Int32} {Ln d : Nat} {D : Dyn} {I : Nat → Nat → Int32} {L : Nat → Nat → Int64} {w : Om}
theorem r_added {x y : Nat} (hx : x ≤ 1000000000) (hy : y ≤ 1000000000) : callD xs Ln (d + 1) 228 [.int (nI x), .int (nI y)] w = some (w, some (.int (nI (addS x y)))) := by
  rw [c_added, l_n (by omega), l_n (by omega), l_add, l_e9]
  have e := lc_le (lI (x + y)) (lI 1000000000)
  have e2 := l_le (x := (x : Int) + y) (y := 1000000000) (by unfold bdd; omega) (by unfold bdd; omega)
  unfold addS
  by_cases h : 1000000000 < x + y
  · rw [if_pos h, if_neg]
    · rfl
    · intro h'
      have h2 : lg_cmp (lI (↑x + ↑y)) (lI 1000000000) ≤ nI 0 := h'
      rw [e, e2] at h2
      omega
  · rw [if_neg h, if_pos, nI_add]
    show lg_cmp (lI (↑x + ↑y)) (lI 1000000000) ≤ nI 0
    rw [e, e2]
    omega
def behW (a : Nat → Nat) (m : Nat) (wo : Option Nat) (st w : Nat) : Option Nat := if wo = some w then none else behA a m st w
/-- the search's state when k stands are through -/
def bSt (a : Nat → Nat) (m : Nat) (wo : Option Nat) (st e : Nat) : Bs := bfs (behW a m wo) st e
/-- best, and how many, when k stands are through -/
def gk (a : Nat → Nat) (m : Nat) (t wo : Option Nat) (st : Nat) : Nat → Option Nat × Nat
  | 0 => (none, 0)
  | k + 1 => if golA m t (bQ (bSt a m wo st (8 * k)) k) = true ∧ ((gk a m t wo st k).1 = none ∨ (gk a m t wo st k).1 = some (Fi (bSt a m wo st (8 * k)) k)) then (some (Fi (bSt a m wo st (8 * k)) k), addS (gk a m t wo st k).2 (bM (bSt a m wo st (8 * k)) (bQ (bSt a m wo st (8 * k)) k))) else gk a m t wo st k
def RBs (J : Nat → Nat → Int32) (s : Bs) : Prop := (∀ i, i < bN s → J 96 i = nI (bQ s i)) ∧ (∀ t, t < 32768 → J 97 t = nO (bF s t)) ∧ (∀ t, t < 32768 → J 98 t = nI (bM s t)) ∧ J 82 34 = nI (bN s)
theorem bSt_I {a : Nat → Nat} (hA : AW a) {m st : Nat} {wo : Option Nat} (hm : 1 ≤ m) (hm3 : m ≤ 3) (hv : vSt a m st) (e : Nat) : BI (behW a m wo) (vSt a m) st (bSt a m wo st e) e := by
  refine bfs_I hv ?_ (fun x hx => hx.1) e
  intro x w t hx ht
  unfold behW at ht
  split at ht
  · cases ht
  · exact (beh_v hA hm hm3 hx ht).1
theorem bSt_s (a : Nat → Nat) (m : Nat) (wo : Option Nat) (st e : Nat) : bSt a m wo st (e + 1) = bstep (behW a m wo) (bSt a m wo st e) e := id rfl
theorem behW_hi {a : Nat → Nat} {m x w : Nat} {wo : Option Nat} (hw : a 4321 ≤ w) : behW a m wo x w = none := by
  unfold behW
  split
  · rfl
  · unfold behA
    rw [if_neg (fun h => by omega)]
theorem bSt_W {a : Nat → Nat} {m st k : Nat} {wo : Option Nat} (hW : a 4321 ≤ 8) : bSt a m wo st (8 * k + a 4321) = bSt a m wo st (8 * (k + 1)) := by
  have : ∀ j, a 4321 + j ≤ 8 → bSt a m wo st (8 * k + a 4321) = bSt a m wo st (8 * k + (a 4321 + j)) := by
    intro j
    induction j with
    | zero => intro _; rfl
    | succ j ih =>
      intro hj
      rw [ih (by omega), show 8 * k + (a 4321 + (j + 1)) = 8 * k + (a 4321 + j) + 1 by omega, bSt_s]
      unfold bstep
      split
      · have : (8 * k + (a 4321 + j)) % 8 = a 4321 + j := by omega
        rw [this, behW_hi (by omega)]
      · rfl
  have h := this (8 - a 4321) (by omega)
  rw [h]
  congr 1
  omega
theorem gk_le (a : Nat → Nat) (m : Nat) (t wo : Option Nat) (st : Nat) : ∀ k, (gk a m t wo st k).2 ≤ 1000000000
  | 0 => by show 0 ≤ _; omega
  | k + 1 => by
    unfold gk
    split
    · exact addS_le _ _
    · exact gk_le a m t wo st k
theorem gk_b {a : Nat → Nat} (hA : AW a) {m st : Nat} {t wo : Option Nat} (hm : 1 ≤ m) (hm3 : m ≤ 3) (hv : vSt a m st) : ∀ k, k ≤ bN (bSt a m wo st (8 * k)) → ∀ b, (gk a m t wo st k).1 = some b → b < 32768
  | 0, _, b, h => by cases h
  | k + 1, hk, b, h => by
    have hI := bSt_I (wo := wo) hA hm hm3 hv (8 * k)
    have hn := cntB_le (fun t => (bF (bSt a m wo st (8 * k)) t).isSome) 32768
    rw [hI.1.2] at hn
    have hmono : ∀ j, bN (bSt a m wo st (8 * k + j)) = bN (bSt a m wo st (8 * k)) ∨ k < bN (bSt a m wo st (8 * k)) ∨ 8 ≤ j := by
      intro j
      induction j with
      | zero => exact Or.inl rfl
      | succ j ih =>
        rcases ih with h | h | h
        · by_cases hk2 : k < bN (bSt a m wo st (8 * k))
          · exact Or.inr (Or.inl hk2)
          · by_cases hj : 8 ≤ j
            · exact Or.inr (Or.inr (by omega))
            · left
              rw [show 8 * k + (j + 1) = 8 * k + j + 1 by omega, bSt_s]
              unfold bstep
              rw [if_neg (by rw [h]; omega), h]
        · exact Or.inr (Or.inl h)
        · exact Or.inr (Or.inr (by omega))
    have hkn : k ≤ bN (bSt a m wo st (8 * k)) := by
      rcases hmono 7 with h7 | h7 | h7
      · by_cases hk2 : k < bN (bSt a m wo st (8 * k))
        · omega
        · have : bN (bSt a m wo st (8 * (k + 1))) = bN (bSt a m wo st (8 * k)) := by
            rw [show 8 * (k + 1) = 8 * k + 7 + 1 by omega, bSt_s]
            unfold bstep
            rw [if_neg (by rw [h7]; omega), h7]
          omega
      · omega
      · omega
    unfold gk at h
    split at h
    · have hb : b = Fi (bSt a m wo st (8 * k)) k := by
        simpa using h.symm
      by_cases hk2 : k < bN (bSt a m wo st (8 * k))
      · have := (hI.2.2.1 k hk2).2
        omega
      · rename_i hg
        have : bN (bSt a m wo st (8 * (k + 1))) = bN (bSt a m wo st (8 * k)) := by
          rcases hmono 7 with h7 | h7 | h7
          · rw [show 8 * (k + 1) = 8 * k + 7 + 1 by omega, bSt_s]
            unfold bstep
            rw [if_neg (by rw [h7]; omega), h7]
          · omega
          · omega
        omega
    · exact gk_b hA hm hm3 hv k hkn b h
theorem up2_c {α : Type} (f : Nat → Nat → α) (k j : Nat) (v : α) (k' j' : Nat) : up2 f k j v k' j' = if k' = k ∧ j' = j then v else f k' j' := by
  unfold up2
  by_cases h1 : k' = k <;> by_cases h2 : j' = j <;> simp [h1, h2]
/-- spreads(), the words of one stand -/
theorem r_sprW {a : Nat → Nat} {v m st k s : Nat} {t wo : Option Nat} {I1 : Nat → Nat → Int32} {L1 : Nat → Nat → Int64} {u5 : Option Value} {Q : Res → Prop} (hd1 : Lkd I1 a v) (hA : AW a) (hm : 1 ≤ m) (hm3 : m ≤ 3) (hv : vSt a m st) (hk : k < bN (bSt a m wo st (8 * k))) (hwo : ∀ x, wo = some x → x < 8) (hu5 : c1 u5 = true)
    (hQ : ∀ J u9, SF I1 J → RBs J (bSt a m wo st (8 * (k + 1))) → J 82 35 = nO (gk a m t wo st (k + 1)).1 → J 82 36 = nI (gk a m t wo st (k + 1)).2 → G_X11_spreads xs Ln (d + 103) 93 [some (.ref 82), some (.int (nI m)), some (.int (nI s)), some (.int (nO t)), some (.int (nO wo)), u5, some (.int (nI (k + 1))), some (.int (nI (bQ (bSt a m wo st (8 * k)) k))), some (.int (nI (a 4321))), u9] [] (mkW D J L1) Q) :
    ∀ i J, i ≤ a 4321 → (SF I1 J ∧ RBs J (bSt a m wo st (8 * k + i)) ∧ J 82 35 = nO (gk a m t wo st (k + 1)).1 ∧ J 82 36 = nI (gk a m t wo st (k + 1)).2) → ∀ u9, G_X11_spreads xs Ln (d + 103) 175 [some (.ref 82), some (.int (nI m)), some (.int (nI s)), some (.int (nO t)), some (.int (nO wo)), u5, some (.int (nI k)), some (.int (nI (bQ (bSt a m wo st (8 * k)) k))), some (.int (nI i)), u9] [] (mkW D J L1) Q := by
  have hw8 := hA.2.1
  have hx : ∀ i, i ≤ 8 → k < bN (bSt a m wo st (8 * k + i)) ∧ bQ (bSt a m wo st (8 * k + i)) k = bQ (bSt a m wo st (8 * k)) k := by
    intro i
    induction i with
    | zero => intro _; exact ⟨hk, rfl⟩
    | succ i ih =>
      intro hi
      obtain ⟨q1, q2⟩ := ih (by omega)
      rw [show 8 * k + (i + 1) = 8 * k + i + 1 by omega, bSt_s]
      unfold bstep
      split
      · split
        · exact ⟨q1, q2⟩
        · unfold bput
          split
          · refine ⟨?_, ?_⟩
            · show k < bN (bSt a m wo st (8 * k + i)) + 1
              omega
            · show up1 (bQ (bSt a m wo st (8 * k + i))) (bN (bSt a m wo st (8 * k + i))) _ k = _
              rw [up1_n _ _ (by omega)]
              exact q2
          · split
            · exact ⟨q1, q2⟩
            · exact ⟨q1, q2⟩
      · exact ⟨q1, q2⟩
  refine Lp (n := a 4321) (σ := Nat → Nat → Int32) (E := fun i J => ∀ u9, G_X11_spreads xs Ln (d + 103) 175 [some (.ref 82), some (.int (nI m)), some (.int (nI s)), some (.int (nO t)), some (.int (nO wo)), u5, some (.int (nI k)), some (.int (nI (bQ (bSt a m wo st (8 * k)) k))), some (.int (nI i)), u9] [] (mkW D J L1) Q) (Inv := fun i J => SF I1 J ∧ RBs J (bSt a m wo st (8 * k + i)) ∧ J 82 35 = nO (gk a m t wo st (k + 1)).1 ∧ J 82 36 = nI (gk a m t wo st (k + 1)).2) ?_ ?_
  · rintro J ⟨hf, hR, h35, h36⟩ u9
    have hd := hf.lkd hd1
    have hW := hd.1.2.2.1 4321 (by decide) (by decide) (by decide)
    simp (disch := first | omega | exact c1_int _ | exact c1_none | exact c1_ref _ | exact isRf_ref _ | assumption | exact okRb _ | exact okN1 | exact okN0 | exact rfl) only [N_X11_spreads_0, N_X11_spreads_1, N_X11_spreads_4, N_X11_spreads_5, N_X11_spreads_7, N_X11_spreads_9, N_X11_spreads_11, N_X11_spreads_14, N_X11_spreads_15, N_X11_spreads_18, N_X11_spreads_20, N_X11_spreads_21, N_X11_spreads_22, N_X11_spreads_23, N_X11_spreads_26, N_X11_spreads_28, N_X11_spreads_29, N_X11_spreads_30, N_X11_spreads_33, N_X11_spreads_36, N_X11_spreads_38, N_X11_spreads_39, N_X11_spreads_40, N_X11_spreads_41, N_X11_spreads_44, N_X11_spreads_47, N_X11_spreads_48, N_X11_spreads_49, N_X11_spreads_51, N_X11_spreads_52, N_X11_spreads_55, N_X11_spreads_56, N_X11_spreads_58, N_X11_spreads_59, N_X11_spreads_60, N_X11_spreads_63, N_X11_spreads_65, N_X11_spreads_66, N_X11_spreads_67, N_X11_spreads_68, N_X11_spreads_71, N_X11_spreads_73, N_X11_spreads_74, N_X11_spreads_75, N_X11_spreads_76, N_X11_spreads_77, N_X11_spreads_80, N_X11_spreads_81, N_X11_spreads_82, N_X11_spreads_85, N_X11_spreads_86, N_X11_spreads_87, N_X11_spreads_90, N_X11_spreads_91, N_X11_spreads_95, N_X11_spreads_96, N_X11_spreads_99, N_X11_spreads_102, N_X11_spreads_103, N_X11_spreads_106, N_X11_spreads_108, N_X11_spreads_109, N_X11_spreads_111, N_X11_spreads_112, N_X11_spreads_114, N_X11_spreads_115, N_X11_spreads_118, N_X11_spreads_121, N_X11_spreads_122, N_X11_spreads_125, N_X11_spreads_126, N_X11_spreads_129, N_X11_spreads_130, N_X11_spreads_133, N_X11_spreads_135, N_X11_spreads_136, N_X11_spreads_137, N_X11_spreads_140, N_X11_spreads_143, N_X11_spreads_144, N_X11_spreads_145, N_X11_spreads_148, N_X11_spreads_150, N_X11_spreads_151, N_X11_spreads_154, N_X11_spreads_155, N_X11_spreads_156, N_X11_spreads_159, N_X11_spreads_160, N_X11_spreads_163, N_X11_spreads_165, N_X11_spreads_166, N_X11_spreads_169, N_X11_spreads_172, N_X11_spreads_173, N_X11_spreads_175, N_X11_spreads_177, N_X11_spreads_178, N_X11_spreads_181, N_X11_spreads_184, N_X11_spreads_186, N_X11_spreads_188, N_X11_spreads_191, N_X11_spreads_192, N_X11_spreads_195, N_X11_spreads_196, N_X11_spreads_197, N_X11_spreads_199, N_X11_spreads_201, N_X11_spreads_204, N_X11_spreads_206, N_X11_spreads_208, N_X11_spreads_209, N_X11_spreads_212, N_X11_spreads_215, N_X11_spreads_216, N_X11_spreads_219, N_X11_spreads_221, N_X11_spreads_222, N_X11_spreads_223, N_X11_spreads_226, N_X11_spreads_227, N_X11_spreads_230, N_X11_spreads_232, N_X11_spreads_233, N_X11_spreads_236, N_X11_spreads_238, N_X11_spreads_239, N_X11_spreads_240, N_X11_spreads_241, N_X11_spreads_242, N_X11_spreads_243, N_X11_spreads_246, N_X11_spreads_247, N_X11_spreads_250, N_X11_spreads_252, N_X11_spreads_253, N_X11_spreads_254, N_X11_spreads_255, N_X11_spreads_258, N_X11_spreads_259, N_X11_spreads_260, N_X11_spreads_263, N_X11_spreads_264, N_X11_spreads_267, N_X11_spreads_269, N_X11_spreads_270, N_X11_spreads_271, N_X11_spreads_274, N_X11_spreads_276, N_X11_spreads_277, N_X11_spreads_278, N_X11_spreads_279, N_X11_spreads_282, N_X11_spreads_283, N_X11_spreads_286, N_X11_spreads_288, N_X11_spreads_289, N_X11_spreads_292, N_X11_spreads_294, N_X11_spreads_295, N_X11_spreads_296, N_X11_spreads_299, N_X11_spreads_301, N_X11_spreads_302, N_X11_spreads_305, N_X11_spreads_306, N_X11_spreads_309, N_X11_spreads_312, N_X11_spreads_315, N_X11_spreads_318, if_true, if_false, ite_true, ite_false, not_false_eq_true, not_true_eq_false, isRf_ref, isRf_null, c1_int, c1_ref, c1_null, c1_none, rfv_some, rfv_none, Ok_s, tl_some, tl_none, List.nil_append, b2i_n1, b2i_n0, ↓reduceIte, nI_add, pk_mul, pk_sub, n_leT, n_leF, n_ltT, n_ltF, n_eqT, n_eqF, n_shl1, n_shl, n_shr, nI_and, nI_or, nI_xor, b2i_z, b2i_o, m1_n, n_m1, m1_lt, m1_le, n_lm1, n_em1, nI_m1, and1, and3, and7, and15, and63, and255, Bool.true_eq_false, Bool.false_eq_true, reduceCtorEq, Nat.reduceAdd, Nat.reduceMul, Nat.reduceSub, Nat.reduceDiv, Nat.reduceMod, Nat.reducePow, Nat.zero_add, Nat.one_mul, c_words, hW]
    rw [bSt_W hw8] at hR
    exact hQ J _ hf hR h35 h36
  · rintro i J hi ⟨hf, hR, h35, h36⟩ ih u9
    have hd := hf.lkd hd1
    have hW := hd.1.2.2.1 4321 (by decide) (by decide) (by decide)
    obtain ⟨hk2, hq2⟩ := hx i (by omega)
    have hI := bSt_I (wo := wo) hA hm hm3 hv (8 * k + i)
    have hvx : vSt a m (bQ (bSt a m wo st (8 * k)) k) := by
      rw [← hq2]
      exact hI.2.1 k hk2
    have hx3 := hvx.1
    have hbe := r_behind (xs := xs) (Ln := Ln) (d := d + 100) (D := D) (L := L1) hd.1 hA hd.2.2.1 hm hm3 hvx hi
    have hn := cntB_le (fun t => (bF (bSt a m wo st (8 * k + i)) t).isSome) 32768
    rw [hI.1.2] at hn
    have hes : bSt a m wo st (8 * k + (i + 1)) = bstep (behW a m wo) (bSt a m wo st (8 * k + i)) (8 * k + i) := rfl
    have hdiv : (8 * k + i) / 8 = k := by omega
    have hmod : (8 * k + i) % 8 = i := by omega
    have hstep : bSt a m wo st (8 * k + (i + 1)) = match behW a m wo (bQ (bSt a m wo st (8 * k)) k) i with
        | none => bSt a m wo st (8 * k + i)
        | some t => bput (bSt a m wo st (8 * k + i)) (8 * k + i) t := by
      rw [hes]
      unfold bstep
      rw [hdiv, hmod, if_pos hk2, hq2]
      cases behW a m wo (bQ (bSt a m wo st (8 * k)) k) i <;> rfl
    rw [N_X11_spreads_175]
    have e97 := hR.2.1
    have e98 := hR.2.2.1
    have e34 := hR.2.2.2
    have hFx : bF (bSt a m wo st (8 * k + i)) (bQ (bSt a m wo st (8 * k)) k) = some (Fi (bSt a m wo st (8 * k + i)) k) := by
      have := (hI.2.2.1 k hk2).1
      rw [hq2] at this
      exact this
    have hFk := (hI.2.2.1 k hk2).2
    have x97 : J 97 (bQ (bSt a m wo st (8 * k)) k) = nI (Fi (bSt a m wo st (8 * k + i)) k) := by rw [e97 _ hx3, hFx]; rfl
    have x98 := e98 _ hx3
    have hmle := hI.2.2.2.2.2.2.2.2.2.2.1
    by_cases hwi : wo = some i
    · have hbn : behW a m wo (bQ (bSt a m wo st (8 * k)) k) i = none := by unfold behW; rw [if_pos hwi]
      rw [hbn] at hstep
      have hwon : nO wo = nI i := by rw [hwi]; rfl
      simp (disch := first | omega | exact c1_int _ | exact c1_none | exact c1_ref _ | exact isRf_ref _ | assumption | exact okRb _ | exact okN1 | exact okN0 | exact rfl) only [N_X11_spreads_0, N_X11_spreads_1, N_X11_spreads_4, N_X11_spreads_5, N_X11_spreads_7, N_X11_spreads_9, N_X11_spreads_11, N_X11_spreads_14, N_X11_spreads_15, N_X11_spreads_18, N_X11_spreads_20, N_X11_spreads_21, N_X11_spreads_22, N_X11_spreads_23, N_X11_spreads_26, N_X11_spreads_28, N_X11_spreads_29, N_X11_spreads_30, N_X11_spreads_33, N_X11_spreads_36, N_X11_spreads_38, N_X11_spreads_39, N_X11_spreads_40, N_X11_spreads_41, N_X11_spreads_44, N_X11_spreads_47, N_X11_spreads_48, N_X11_spreads_49, N_X11_spreads_51, N_X11_spreads_52, N_X11_spreads_55, N_X11_spreads_56, N_X11_spreads_58, N_X11_spreads_59, N_X11_spreads_60, N_X11_spreads_63, N_X11_spreads_65, N_X11_spreads_66, N_X11_spreads_67, N_X11_spreads_68, N_X11_spreads_71, N_X11_spreads_73, N_X11_spreads_74, N_X11_spreads_75, N_X11_spreads_76, N_X11_spreads_77, N_X11_spreads_80, N_X11_spreads_81, N_X11_spreads_82, N_X11_spreads_85, N_X11_spreads_86, N_X11_spreads_87, N_X11_spreads_90, N_X11_spreads_91, N_X11_spreads_93, N_X11_spreads_95, N_X11_spreads_96, N_X11_spreads_99, N_X11_spreads_102, N_X11_spreads_103, N_X11_spreads_106, N_X11_spreads_108, N_X11_spreads_109, N_X11_spreads_111, N_X11_spreads_112, N_X11_spreads_114, N_X11_spreads_115, N_X11_spreads_118, N_X11_spreads_121, N_X11_spreads_122, N_X11_spreads_125, N_X11_spreads_126, N_X11_spreads_129, N_X11_spreads_130, N_X11_spreads_133, N_X11_spreads_135, N_X11_spreads_136, N_X11_spreads_137, N_X11_spreads_140, N_X11_spreads_143, N_X11_spreads_144, N_X11_spreads_145, N_X11_spreads_148, N_X11_spreads_150, N_X11_spreads_151, N_X11_spreads_154, N_X11_spreads_155, N_X11_spreads_156, N_X11_spreads_159, N_X11_spreads_160, N_X11_spreads_163, N_X11_spreads_165, N_X11_spreads_166, N_X11_spreads_169, N_X11_spreads_172, N_X11_spreads_173, N_X11_spreads_177, N_X11_spreads_178, N_X11_spreads_181, N_X11_spreads_184, N_X11_spreads_186, N_X11_spreads_188, N_X11_spreads_191, N_X11_spreads_192, N_X11_spreads_195, N_X11_spreads_196, N_X11_spreads_197, N_X11_spreads_199, N_X11_spreads_201, N_X11_spreads_204, N_X11_spreads_206, N_X11_spreads_208, N_X11_spreads_209, N_X11_spreads_212, N_X11_spreads_215, N_X11_spreads_216, N_X11_spreads_219, N_X11_spreads_221, N_X11_spreads_222, N_X11_spreads_223, N_X11_spreads_226, N_X11_spreads_227, N_X11_spreads_230, N_X11_spreads_232, N_X11_spreads_233, N_X11_spreads_236, N_X11_spreads_238, N_X11_spreads_239, N_X11_spreads_240, N_X11_spreads_241, N_X11_spreads_242, N_X11_spreads_243, N_X11_spreads_246, N_X11_spreads_247, N_X11_spreads_250, N_X11_spreads_252, N_X11_spreads_253, N_X11_spreads_254, N_X11_spreads_255, N_X11_spreads_258, N_X11_spreads_259, N_X11_spreads_260, N_X11_spreads_263, N_X11_spreads_264, N_X11_spreads_267, N_X11_spreads_269, N_X11_spreads_270, N_X11_spreads_271, N_X11_spreads_274, N_X11_spreads_276, N_X11_spreads_277, N_X11_spreads_278, N_X11_spreads_279, N_X11_spreads_282, N_X11_spreads_283, N_X11_spreads_286, N_X11_spreads_288, N_X11_spreads_289, N_X11_spreads_292, N_X11_spreads_294, N_X11_spreads_295, N_X11_spreads_296, N_X11_spreads_299, N_X11_spreads_301, N_X11_spreads_302, N_X11_spreads_305, N_X11_spreads_306, N_X11_spreads_309, N_X11_spreads_312, N_X11_spreads_315, N_X11_spreads_318, if_true, if_false, ite_true, ite_false, not_false_eq_true, not_true_eq_false, isRf_ref, isRf_null, c1_int, c1_ref, c1_null, c1_none, rfv_some, rfv_none, Ok_s, tl_some, tl_none, List.nil_append, b2i_n1, b2i_n0, ↓reduceIte, nI_add, pk_mul, pk_sub, n_leT, n_leF, n_ltT, n_ltF, n_eqT, n_eqF, n_shl1, n_shl, n_shr, nI_and, nI_or, nI_xor, b2i_z, b2i_o, m1_n, n_m1, m1_lt, m1_le, n_lm1, n_em1, nI_m1, and1, and3, and7, and15, and63, and255, Bool.true_eq_false, Bool.false_eq_true, reduceCtorEq, Nat.reduceAdd, Nat.reduceMul, Nat.reduceSub, Nat.reduceDiv, Nat.reduceMod, Nat.reducePow, Nat.zero_add, Nat.one_mul, c_words, hW, hwon]
      rw [← hwon]
      exact ih J ⟨hf, by rw [hstep]; exact hR, h35, h36⟩ _
    · have hwon : ¬ nI i = nO wo := by
        cases wo with
        | none => rw [nO_n, n_m1 (by omega)]; exact id
        | some y =>
          rw [nO_s]
          have := hwo y rfl
          exact nl_ne (fun h => hwi (by rw [h])) (by omega) (by omega)
      have hbeq : behW a m wo (bQ (bSt a m wo st (8 * k)) k) i = behA a m (bQ (bSt a m wo st (8 * k)) k) i := by unfold behW; rw [if_neg hwi]
      cases hb : behA a m (bQ (bSt a m wo st (8 * k)) k) i with
      | none =>
        rw [hbeq, hb] at hstep
        rw [hb, nO_n] at hbe
        simp (disch := first | omega | exact c1_int _ | exact c1_none | exact c1_ref _ | exact isRf_ref _ | assumption | exact okRb _ | exact okN1 | exact okN0 | exact rfl) only [N_X11_spreads_0, N_X11_spreads_1, N_X11_spreads_4, N_X11_spreads_5, N_X11_spreads_7, N_X11_spreads_9, N_X11_spreads_11, N_X11_spreads_14, N_X11_spreads_15, N_X11_spreads_18, N_X11_spreads_20, N_X11_spreads_21, N_X11_spreads_22, N_X11_spreads_23, N_X11_spreads_26, N_X11_spreads_28, N_X11_spreads_29, N_X11_spreads_30, N_X11_spreads_33, N_X11_spreads_36, N_X11_spreads_38, N_X11_spreads_39, N_X11_spreads_40, N_X11_spreads_41, N_X11_spreads_44, N_X11_spreads_47, N_X11_spreads_48, N_X11_spreads_49, N_X11_spreads_51, N_X11_spreads_52, N_X11_spreads_55, N_X11_spreads_56, N_X11_spreads_58, N_X11_spreads_59, N_X11_spreads_60, N_X11_spreads_63, N_X11_spreads_65, N_X11_spreads_66, N_X11_spreads_67, N_X11_spreads_68, N_X11_spreads_71, N_X11_spreads_73, N_X11_spreads_74, N_X11_spreads_75, N_X11_spreads_76, N_X11_spreads_77, N_X11_spreads_80, N_X11_spreads_81, N_X11_spreads_82, N_X11_spreads_85, N_X11_spreads_86, N_X11_spreads_87, N_X11_spreads_90, N_X11_spreads_91, N_X11_spreads_93, N_X11_spreads_95, N_X11_spreads_96, N_X11_spreads_99, N_X11_spreads_102, N_X11_spreads_103, N_X11_spreads_106, N_X11_spreads_108, N_X11_spreads_109, N_X11_spreads_111, N_X11_spreads_112, N_X11_spreads_114, N_X11_spreads_115, N_X11_spreads_118, N_X11_spreads_121, N_X11_spreads_122, N_X11_spreads_125, N_X11_spreads_126, N_X11_spreads_129, N_X11_spreads_130, N_X11_spreads_133, N_X11_spreads_135, N_X11_spreads_136, N_X11_spreads_137, N_X11_spreads_140, N_X11_spreads_143, N_X11_spreads_144, N_X11_spreads_145, N_X11_spreads_148, N_X11_spreads_150, N_X11_spreads_151, N_X11_spreads_154, N_X11_spreads_155, N_X11_spreads_156, N_X11_spreads_159, N_X11_spreads_160, N_X11_spreads_163, N_X11_spreads_165, N_X11_spreads_166, N_X11_spreads_169, N_X11_spreads_172, N_X11_spreads_173, N_X11_spreads_177, N_X11_spreads_178, N_X11_spreads_181, N_X11_spreads_184, N_X11_spreads_186, N_X11_spreads_188, N_X11_spreads_191, N_X11_spreads_192, N_X11_spreads_195, N_X11_spreads_196, N_X11_spreads_197, N_X11_spreads_199, N_X11_spreads_201, N_X11_spreads_204, N_X11_spreads_206, N_X11_spreads_208, N_X11_spreads_209, N_X11_spreads_212, N_X11_spreads_215, N_X11_spreads_216, N_X11_spreads_219, N_X11_spreads_221, N_X11_spreads_222, N_X11_spreads_223, N_X11_spreads_226, N_X11_spreads_227, N_X11_spreads_230, N_X11_spreads_232, N_X11_spreads_233, N_X11_spreads_236, N_X11_spreads_238, N_X11_spreads_239, N_X11_spreads_240, N_X11_spreads_241, N_X11_spreads_242, N_X11_spreads_243, N_X11_spreads_246, N_X11_spreads_247, N_X11_spreads_250, N_X11_spreads_252, N_X11_spreads_253, N_X11_spreads_254, N_X11_spreads_255, N_X11_spreads_258, N_X11_spreads_259, N_X11_spreads_260, N_X11_spreads_263, N_X11_spreads_264, N_X11_spreads_267, N_X11_spreads_269, N_X11_spreads_270, N_X11_spreads_271, N_X11_spreads_274, N_X11_spreads_276, N_X11_spreads_277, N_X11_spreads_278, N_X11_spreads_279, N_X11_spreads_282, N_X11_spreads_283, N_X11_spreads_286, N_X11_spreads_288, N_X11_spreads_289, N_X11_spreads_292, N_X11_spreads_294, N_X11_spreads_295, N_X11_spreads_296, N_X11_spreads_299, N_X11_spreads_301, N_X11_spreads_302, N_X11_spreads_305, N_X11_spreads_306, N_X11_spreads_309, N_X11_spreads_312, N_X11_spreads_315, N_X11_spreads_318, if_true, if_false, ite_true, ite_false, not_false_eq_true, not_true_eq_false, isRf_ref, isRf_null, c1_int, c1_ref, c1_null, c1_none, rfv_some, rfv_none, Ok_s, tl_some, tl_none, List.nil_append, b2i_n1, b2i_n0, ↓reduceIte, nI_add, pk_mul, pk_sub, n_leT, n_leF, n_ltT, n_ltF, n_eqT, n_eqF, n_shl1, n_shl, n_shr, nI_and, nI_or, nI_xor, b2i_z, b2i_o, m1_n, n_m1, m1_lt, m1_le, n_lm1, n_em1, nI_m1, and1, and3, and7, and15, and63, and255, Bool.true_eq_false, Bool.false_eq_true, reduceCtorEq, Nat.reduceAdd, Nat.reduceMul, Nat.reduceSub, Nat.reduceDiv, Nat.reduceMod, Nat.reducePow, Nat.zero_add, Nat.one_mul, c_words, hW, hwon, hbe]
        exact ih J ⟨hf, by rw [hstep]; exact hR, h35, h36⟩ _
      | some y =>
        rw [hbeq, hb] at hstep
        have hstep' : bSt a m wo st (8 * k + (i + 1)) = bput (bSt a m wo st (8 * k + i)) (8 * k + i) y := hstep
        rw [hb, nO_s] at hbe
        have hvy := (beh_v hA hm hm3 hvx hb).1
        have hy3 := hvy.1
        have y97 := e97 y hy3
        have y98 := e98 y hy3
        have hmx := hmle (bQ (bSt a m wo st (8 * k)) k)
        have hmy := hmle y
        cases hfy : bF (bSt a m wo st (8 * k + i)) y with
        | none =>
          rw [hfy, nO_n] at y97
          have hnl : bN (bSt a m wo st (8 * k + i)) < 32768 := by
            rw [← hI.1.2]
            exact cntB_lt (t := y) (by simp [hfy]) 32768 hy3
          have hm0 := hI.2.2.2.2.2.2.2.2.2.2.2.1 y hfy
          have hxy : bQ (bSt a m wo st (8 * k)) k ≠ y := by
            intro h
            rw [h, hfy] at hFx
            cases hFx
          have hbp : bput (bSt a m wo st (8 * k + i)) (8 * k + i) y = (bN (bSt a m wo st (8 * k + i)) + 1, up1 (bQ (bSt a m wo st (8 * k + i))) (bN (bSt a m wo st (8 * k + i))) y, up1 (bF (bSt a m wo st (8 * k + i))) y (some (Fi (bSt a m wo st (8 * k + i)) k + 1)), up1 (bM (bSt a m wo st (8 * k + i))) y (bM (bSt a m wo st (8 * k + i)) (bQ (bSt a m wo st (8 * k)) k)), up1 (bP (bSt a m wo st (8 * k + i))) (bN (bSt a m wo st (8 * k + i))) (8 * k + i)) := by
            unfold bput
            rw [if_pos hfy, hdiv, hq2]
          have hadd : addS 0 (bM (bSt a m wo st (8 * k + i)) (bQ (bSt a m wo st (8 * k)) k)) = bM (bSt a m wo st (8 * k + i)) (bQ (bSt a m wo st (8 * k)) k) := by
            unfold addS
            rw [if_neg (by omega)]
            omega
          have j34 : ∀ x, up2 J 97 y x 82 34 = nI (bN (bSt a m wo st (8 * k + i))) := fun x => by rw [up2_k _ _ _ _ (by decide), e34]
          have j34' : ∀ x z, up2 (up2 J 97 y x) 96 (bN (bSt a m wo st (8 * k + i))) z 82 34 = nI (bN (bSt a m wo st (8 * k + i))) := fun x z => by rw [up2_k _ _ _ _ (by decide), j34]
          have j97y : ∀ x z u, up2 (up2 (up2 J 97 y x) 96 (bN (bSt a m wo st (8 * k + i))) z) 82 34 u 97 y = x := fun x z u => by rw [up2_k _ _ _ _ (by decide), up2_k _ _ _ _ (by decide), up2_s]
          have j97x : ∀ x z u, up2 (up2 (up2 J 97 y x) 96 (bN (bSt a m wo st (8 * k + i))) z) 82 34 u 97 (bQ (bSt a m wo st (8 * k)) k) = nI (Fi (bSt a m wo st (8 * k + i)) k) := fun x z u => by rw [up2_k _ _ _ _ (by decide), up2_k _ _ _ _ (by decide), up2_j _ _ _ hxy, x97]
          have j98y : ∀ x z u, up2 (up2 (up2 J 97 y x) 96 (bN (bSt a m wo st (8 * k + i))) z) 82 34 u 98 y = nI 0 := fun x z u => by rw [up2_k _ _ _ _ (by decide), up2_k _ _ _ _ (by decide), up2_k _ _ _ _ (by decide), y98, hm0]
          have j98x : ∀ x z u, up2 (up2 (up2 J 97 y x) 96 (bN (bSt a m wo st (8 * k + i))) z) 82 34 u 98 (bQ (bSt a m wo st (8 * k)) k) = nI (bM (bSt a m wo st (8 * k + i)) (bQ (bSt a m wo st (8 * k)) k)) := fun x z u => by rw [up2_k _ _ _ _ (by decide), up2_k _ _ _ _ (by decide), up2_k _ _ _ _ (by decide), x98]
          simp (disch := first | omega | exact c1_int _ | exact c1_none | exact c1_ref _ | exact isRf_ref _ | assumption | exact okRb _ | exact okN1 | exact okN0 | exact rfl) only [N_X11_spreads_0, N_X11_spreads_1, N_X11_spreads_4, N_X11_spreads_5, N_X11_spreads_7, N_X11_spreads_9, N_X11_spreads_11, N_X11_spreads_14, N_X11_spreads_15, N_X11_spreads_18, N_X11_spreads_20, N_X11_spreads_21, N_X11_spreads_22, N_X11_spreads_23, N_X11_spreads_26, N_X11_spreads_28, N_X11_spreads_29, N_X11_spreads_30, N_X11_spreads_33, N_X11_spreads_36, N_X11_spreads_38, N_X11_spreads_39, N_X11_spreads_40, N_X11_spreads_41, N_X11_spreads_44, N_X11_spreads_47, N_X11_spreads_48, N_X11_spreads_49, N_X11_spreads_51, N_X11_spreads_52, N_X11_spreads_55, N_X11_spreads_56, N_X11_spreads_58, N_X11_spreads_59, N_X11_spreads_60, N_X11_spreads_63, N_X11_spreads_65, N_X11_spreads_66, N_X11_spreads_67, N_X11_spreads_68, N_X11_spreads_71, N_X11_spreads_73, N_X11_spreads_74, N_X11_spreads_75, N_X11_spreads_76, N_X11_spreads_77, N_X11_spreads_80, N_X11_spreads_81, N_X11_spreads_82, N_X11_spreads_85, N_X11_spreads_86, N_X11_spreads_87, N_X11_spreads_90, N_X11_spreads_91, N_X11_spreads_93, N_X11_spreads_95, N_X11_spreads_96, N_X11_spreads_99, N_X11_spreads_102, N_X11_spreads_103, N_X11_spreads_106, N_X11_spreads_108, N_X11_spreads_109, N_X11_spreads_111, N_X11_spreads_112, N_X11_spreads_114, N_X11_spreads_115, N_X11_spreads_118, N_X11_spreads_121, N_X11_spreads_122, N_X11_spreads_125, N_X11_spreads_126, N_X11_spreads_129, N_X11_spreads_130, N_X11_spreads_133, N_X11_spreads_135, N_X11_spreads_136, N_X11_spreads_137, N_X11_spreads_140, N_X11_spreads_143, N_X11_spreads_144, N_X11_spreads_145, N_X11_spreads_148, N_X11_spreads_150, N_X11_spreads_151, N_X11_spreads_154, N_X11_spreads_155, N_X11_spreads_156, N_X11_spreads_159, N_X11_spreads_160, N_X11_spreads_163, N_X11_spreads_165, N_X11_spreads_166, N_X11_spreads_169, N_X11_spreads_172, N_X11_spreads_173, N_X11_spreads_177, N_X11_spreads_178, N_X11_spreads_181, N_X11_spreads_184, N_X11_spreads_186, N_X11_spreads_188, N_X11_spreads_191, N_X11_spreads_192, N_X11_spreads_195, N_X11_spreads_196, N_X11_spreads_197, N_X11_spreads_199, N_X11_spreads_201, N_X11_spreads_204, N_X11_spreads_206, N_X11_spreads_208, N_X11_spreads_209, N_X11_spreads_212, N_X11_spreads_215, N_X11_spreads_216, N_X11_spreads_219, N_X11_spreads_221, N_X11_spreads_222, N_X11_spreads_223, N_X11_spreads_226, N_X11_spreads_227, N_X11_spreads_230, N_X11_spreads_232, N_X11_spreads_233, N_X11_spreads_236, N_X11_spreads_238, N_X11_spreads_239, N_X11_spreads_240, N_X11_spreads_241, N_X11_spreads_242, N_X11_spreads_243, N_X11_spreads_246, N_X11_spreads_247, N_X11_spreads_250, N_X11_spreads_252, N_X11_spreads_253, N_X11_spreads_254, N_X11_spreads_255, N_X11_spreads_258, N_X11_spreads_259, N_X11_spreads_260, N_X11_spreads_263, N_X11_spreads_264, N_X11_spreads_267, N_X11_spreads_269, N_X11_spreads_270, N_X11_spreads_271, N_X11_spreads_274, N_X11_spreads_276, N_X11_spreads_277, N_X11_spreads_278, N_X11_spreads_279, N_X11_spreads_282, N_X11_spreads_283, N_X11_spreads_286, N_X11_spreads_288, N_X11_spreads_289, N_X11_spreads_292, N_X11_spreads_294, N_X11_spreads_295, N_X11_spreads_296, N_X11_spreads_299, N_X11_spreads_301, N_X11_spreads_302, N_X11_spreads_305, N_X11_spreads_306, N_X11_spreads_309, N_X11_spreads_312, N_X11_spreads_315, N_X11_spreads_318, if_true, if_false, ite_true, ite_false, not_false_eq_true, not_true_eq_false, isRf_ref, isRf_null, c1_int, c1_ref, c1_null, c1_none, rfv_some, rfv_none, Ok_s, tl_some, tl_none, List.nil_append, b2i_n1, b2i_n0, ↓reduceIte, nI_add, pk_mul, pk_sub, n_leT, n_leF, n_ltT, n_ltF, n_eqT, n_eqF, n_shl1, n_shl, n_shr, nI_and, nI_or, nI_xor, b2i_z, b2i_o, m1_n, n_m1, m1_lt, m1_le, n_lm1, n_em1, nI_m1, and1, and3, and7, and15, and63, and255, Bool.true_eq_false, Bool.false_eq_true, reduceCtorEq, Nat.reduceAdd, Nat.reduceMul, Nat.reduceSub, Nat.reduceDiv, Nat.reduceMod, Nat.reducePow, Nat.zero_add, Nat.one_mul, c_words, hW, hwon, hbe, y97, x97, j34, j34', j97y, j97x, j98y, j98x, r_added, hadd]
          refine ih _ ⟨⟨fun k hk => ?_, fun j hj => ?_⟩, ?_, ?_, ?_⟩ _
          · rw [up2_ro _ _ _ (by omega), up2_ro _ _ _ (by omega), up2_ro _ _ _ (by omega), up2_ro _ _ _ (by omega)]
            exact hf.1 k hk
          · rw [up2_k _ _ _ _ (by decide), up2_j _ _ _ (by omega), up2_k _ _ _ _ (by decide), up2_k _ _ _ _ (by decide)]
            exact hf.2 j hj
          · rw [hstep', hbp]
            refine ⟨fun q hq => ?_, fun q hq => ?_, fun q hq => ?_, ?_⟩
            · show _ = nI (up1 (bQ (bSt a m wo st (8 * k + i))) (bN (bSt a m wo st (8 * k + i))) y q)
              have hq' : q < bN (bSt a m wo st (8 * k + i)) + 1 := hq
              rw [up2_k _ _ _ _ (by decide), up2_k _ _ _ _ (by decide)]
              by_cases hqn : q = bN (bSt a m wo st (8 * k + i))
              · rw [hqn, up2_s, up1_s]
              · rw [up2_j _ _ _ hqn, up2_k _ _ _ _ (by decide), up1_n _ _ hqn]
                exact hR.1 q (by omega)
            · show _ = nO (up1 (bF (bSt a m wo st (8 * k + i))) y (some (Fi (bSt a m wo st (8 * k + i)) k + 1)) q)
              rw [up2_k _ _ _ _ (by decide), up2_k _ _ _ _ (by decide), up2_k _ _ _ _ (by decide)]
              by_cases hqn : q = y
              · rw [hqn, up2_s, up1_s]; rfl
              · rw [up2_j _ _ _ hqn, up1_n _ _ hqn]
                exact e97 q hq
            · show _ = nI (up1 (bM (bSt a m wo st (8 * k + i))) y (bM (bSt a m wo st (8 * k + i)) (bQ (bSt a m wo st (8 * k)) k)) q)
              by_cases hqn : q = y
              · rw [hqn, up2_s, up1_s]
              · rw [up2_j _ _ _ hqn, up2_k _ _ _ _ (by decide), up2_k _ _ _ _ (by decide), up2_k _ _ _ _ (by decide), up1_n _ _ hqn]
                exact e98 q hq
            · show _ = nI (bN (bSt a m wo st (8 * k + i)) + 1)
              rw [up2_k _ _ _ _ (by decide), up2_s]
          · rw [up2_k _ _ _ _ (by decide), up2_j _ _ _ (by decide), up2_k _ _ _ _ (by decide), up2_k _ _ _ _ (by decide)]
            exact h35
          · rw [up2_k _ _ _ _ (by decide), up2_j _ _ _ (by decide), up2_k _ _ _ _ (by decide), up2_k _ _ _ _ (by decide)]
            exact h36
        | some fy =>
          rw [hfy, nO_s] at y97
          obtain ⟨iy, hiy, hqy⟩ := hI.2.2.2.1 y fy hfy
          have hfy2 := hI.2.2.1 iy hiy
          rw [hqy, hfy] at hfy2
          have hfyl : fy < 32768 := by
            have := Option.some.inj hfy2.1
            omega
          by_cases hfe : fy = Fi (bSt a m wo st (8 * k + i)) k + 1
          · have hbp : bput (bSt a m wo st (8 * k + i)) (8 * k + i) y = (bN (bSt a m wo st (8 * k + i)), bQ (bSt a m wo st (8 * k + i)), bF (bSt a m wo st (8 * k + i)), up1 (bM (bSt a m wo st (8 * k + i))) y (addS (bM (bSt a m wo st (8 * k + i)) y) (bM (bSt a m wo st (8 * k + i)) (bQ (bSt a m wo st (8 * k)) k))), bP (bSt a m wo st (8 * k + i))) := by
              unfold bput
              rw [if_neg (by rw [hfy]; simp), hdiv, if_pos (by rw [hfy, hfe]), hq2]
            simp (disch := first | omega | exact c1_int _ | exact c1_none | exact c1_ref _ | exact isRf_ref _ | assumption | exact okRb _ | exact okN1 | exact okN0 | exact rfl) only [N_X11_spreads_0, N_X11_spreads_1, N_X11_spreads_4, N_X11_spreads_5, N_X11_spreads_7, N_X11_spreads_9, N_X11_spreads_11, N_X11_spreads_14, N_X11_spreads_15, N_X11_spreads_18, N_X11_spreads_20, N_X11_spreads_21, N_X11_spreads_22, N_X11_spreads_23, N_X11_spreads_26, N_X11_spreads_28, N_X11_spreads_29, N_X11_spreads_30, N_X11_spreads_33, N_X11_spreads_36, N_X11_spreads_38, N_X11_spreads_39, N_X11_spreads_40, N_X11_spreads_41, N_X11_spreads_44, N_X11_spreads_47, N_X11_spreads_48, N_X11_spreads_49, N_X11_spreads_51, N_X11_spreads_52, N_X11_spreads_55, N_X11_spreads_56, N_X11_spreads_58, N_X11_spreads_59, N_X11_spreads_60, N_X11_spreads_63, N_X11_spreads_65, N_X11_spreads_66, N_X11_spreads_67, N_X11_spreads_68, N_X11_spreads_71, N_X11_spreads_73, N_X11_spreads_74, N_X11_spreads_75, N_X11_spreads_76, N_X11_spreads_77, N_X11_spreads_80, N_X11_spreads_81, N_X11_spreads_82, N_X11_spreads_85, N_X11_spreads_86, N_X11_spreads_87, N_X11_spreads_90, N_X11_spreads_91, N_X11_spreads_93, N_X11_spreads_95, N_X11_spreads_96, N_X11_spreads_99, N_X11_spreads_102, N_X11_spreads_103, N_X11_spreads_106, N_X11_spreads_108, N_X11_spreads_109, N_X11_spreads_111, N_X11_spreads_112, N_X11_spreads_114, N_X11_spreads_115, N_X11_spreads_118, N_X11_spreads_121, N_X11_spreads_122, N_X11_spreads_125, N_X11_spreads_126, N_X11_spreads_129, N_X11_spreads_130, N_X11_spreads_133, N_X11_spreads_135, N_X11_spreads_136, N_X11_spreads_137, N_X11_spreads_140, N_X11_spreads_143, N_X11_spreads_144, N_X11_spreads_145, N_X11_spreads_148, N_X11_spreads_150, N_X11_spreads_151, N_X11_spreads_154, N_X11_spreads_155, N_X11_spreads_156, N_X11_spreads_159, N_X11_spreads_160, N_X11_spreads_163, N_X11_spreads_165, N_X11_spreads_166, N_X11_spreads_169, N_X11_spreads_172, N_X11_spreads_173, N_X11_spreads_177, N_X11_spreads_178, N_X11_spreads_181, N_X11_spreads_184, N_X11_spreads_186, N_X11_spreads_188, N_X11_spreads_191, N_X11_spreads_192, N_X11_spreads_195, N_X11_spreads_196, N_X11_spreads_197, N_X11_spreads_199, N_X11_spreads_201, N_X11_spreads_204, N_X11_spreads_206, N_X11_spreads_208, N_X11_spreads_209, N_X11_spreads_212, N_X11_spreads_215, N_X11_spreads_216, N_X11_spreads_219, N_X11_spreads_221, N_X11_spreads_222, N_X11_spreads_223, N_X11_spreads_226, N_X11_spreads_227, N_X11_spreads_230, N_X11_spreads_232, N_X11_spreads_233, N_X11_spreads_236, N_X11_spreads_238, N_X11_spreads_239, N_X11_spreads_240, N_X11_spreads_241, N_X11_spreads_242, N_X11_spreads_243, N_X11_spreads_246, N_X11_spreads_247, N_X11_spreads_250, N_X11_spreads_252, N_X11_spreads_253, N_X11_spreads_254, N_X11_spreads_255, N_X11_spreads_258, N_X11_spreads_259, N_X11_spreads_260, N_X11_spreads_263, N_X11_spreads_264, N_X11_spreads_267, N_X11_spreads_269, N_X11_spreads_270, N_X11_spreads_271, N_X11_spreads_274, N_X11_spreads_276, N_X11_spreads_277, N_X11_spreads_278, N_X11_spreads_279, N_X11_spreads_282, N_X11_spreads_283, N_X11_spreads_286, N_X11_spreads_288, N_X11_spreads_289, N_X11_spreads_292, N_X11_spreads_294, N_X11_spreads_295, N_X11_spreads_296, N_X11_spreads_299, N_X11_spreads_301, N_X11_spreads_302, N_X11_spreads_305, N_X11_spreads_306, N_X11_spreads_309, N_X11_spreads_312, N_X11_spreads_315, N_X11_spreads_318, if_true, if_false, ite_true, ite_false, not_false_eq_true, not_true_eq_false, isRf_ref, isRf_null, c1_int, c1_ref, c1_null, c1_none, rfv_some, rfv_none, Ok_s, tl_some, tl_none, List.nil_append, b2i_n1, b2i_n0, ↓reduceIte, nI_add, pk_mul, pk_sub, n_leT, n_leF, n_ltT, n_ltF, n_eqT, n_eqF, n_shl1, n_shl, n_shr, nI_and, nI_or, nI_xor, b2i_z, b2i_o, m1_n, n_m1, m1_lt, m1_le, n_lm1, n_em1, nI_m1, and1, and3, and7, and15, and63, and255, Bool.true_eq_false, Bool.false_eq_true, reduceCtorEq, Nat.reduceAdd, Nat.reduceMul, Nat.reduceSub, Nat.reduceDiv, Nat.reduceMod, Nat.reducePow, Nat.zero_add, Nat.one_mul, c_words, hW, hwon, hbe, y97, x97, y98, x98, r_added]
            refine ih _ ⟨⟨fun k hk => ?_, fun j hj => ?_⟩, ?_, ?_, ?_⟩ _
            · rw [up2_ro _ _ _ (by omega)]
              exact hf.1 k hk
            · rw [up2_k _ _ _ _ (by decide)]
              exact hf.2 j hj
            · rw [hstep', hbp]
              refine ⟨fun q hq => ?_, fun q hq => ?_, fun q hq => ?_, ?_⟩
              · rw [up2_k _ _ _ _ (by decide)]
                exact hR.1 q hq
              · rw [up2_k _ _ _ _ (by decide)]
                exact e97 q hq
              · show _ = nI (up1 (bM (bSt a m wo st (8 * k + i))) y (addS (bM (bSt a m wo st (8 * k + i)) y) (bM (bSt a m wo st (8 * k + i)) (bQ (bSt a m wo st (8 * k)) k))) q)
                by_cases hqn : q = y
                · rw [hqn, up2_s, up1_s]
                · rw [up2_j _ _ _ hqn, up1_n _ _ hqn]
                  exact e98 q hq
              · rw [up2_k _ _ _ _ (by decide)]
                exact e34
            · rw [up2_k _ _ _ _ (by decide)]
              exact h35
            · rw [up2_k _ _ _ _ (by decide)]
              exact h36
          · have hbp : bput (bSt a m wo st (8 * k + i)) (8 * k + i) y = bSt a m wo st (8 * k + i) := by
              unfold bput
              rw [if_neg (by rw [hfy]; simp), hdiv, if_neg (by rw [hfy]; exact fun h => hfe (Option.some.inj h))]
            simp (disch := first | omega | exact c1_int _ | exact c1_none | exact c1_ref _ | exact isRf_ref _ | assumption | exact okRb _ | exact okN1 | exact okN0 | exact rfl) only [N_X11_spreads_0, N_X11_spreads_1, N_X11_spreads_4, N_X11_spreads_5, N_X11_spreads_7, N_X11_spreads_9, N_X11_spreads_11, N_X11_spreads_14, N_X11_spreads_15, N_X11_spreads_18, N_X11_spreads_20, N_X11_spreads_21, N_X11_spreads_22, N_X11_spreads_23, N_X11_spreads_26, N_X11_spreads_28, N_X11_spreads_29, N_X11_spreads_30, N_X11_spreads_33, N_X11_spreads_36, N_X11_spreads_38, N_X11_spreads_39, N_X11_spreads_40, N_X11_spreads_41, N_X11_spreads_44, N_X11_spreads_47, N_X11_spreads_48, N_X11_spreads_49, N_X11_spreads_51, N_X11_spreads_52, N_X11_spreads_55, N_X11_spreads_56, N_X11_spreads_58, N_X11_spreads_59, N_X11_spreads_60, N_X11_spreads_63, N_X11_spreads_65, N_X11_spreads_66, N_X11_spreads_67, N_X11_spreads_68, N_X11_spreads_71, N_X11_spreads_73, N_X11_spreads_74, N_X11_spreads_75, N_X11_spreads_76, N_X11_spreads_77, N_X11_spreads_80, N_X11_spreads_81, N_X11_spreads_82, N_X11_spreads_85, N_X11_spreads_86, N_X11_spreads_87, N_X11_spreads_90, N_X11_spreads_91, N_X11_spreads_93, N_X11_spreads_95, N_X11_spreads_96, N_X11_spreads_99, N_X11_spreads_102, N_X11_spreads_103, N_X11_spreads_106, N_X11_spreads_108, N_X11_spreads_109, N_X11_spreads_111, N_X11_spreads_112, N_X11_spreads_114, N_X11_spreads_115, N_X11_spreads_118, N_X11_spreads_121, N_X11_spreads_122, N_X11_spreads_125, N_X11_spreads_126, N_X11_spreads_129, N_X11_spreads_130, N_X11_spreads_133, N_X11_spreads_135, N_X11_spreads_136, N_X11_spreads_137, N_X11_spreads_140, N_X11_spreads_143, N_X11_spreads_144, N_X11_spreads_145, N_X11_spreads_148, N_X11_spreads_150, N_X11_spreads_151, N_X11_spreads_154, N_X11_spreads_155, N_X11_spreads_156, N_X11_spreads_159, N_X11_spreads_160, N_X11_spreads_163, N_X11_spreads_165, N_X11_spreads_166, N_X11_spreads_169, N_X11_spreads_172, N_X11_spreads_173, N_X11_spreads_177, N_X11_spreads_178, N_X11_spreads_181, N_X11_spreads_184, N_X11_spreads_186, N_X11_spreads_188, N_X11_spreads_191, N_X11_spreads_192, N_X11_spreads_195, N_X11_spreads_196, N_X11_spreads_197, N_X11_spreads_199, N_X11_spreads_201, N_X11_spreads_204, N_X11_spreads_206, N_X11_spreads_208, N_X11_spreads_209, N_X11_spreads_212, N_X11_spreads_215, N_X11_spreads_216, N_X11_spreads_219, N_X11_spreads_221, N_X11_spreads_222, N_X11_spreads_223, N_X11_spreads_226, N_X11_spreads_227, N_X11_spreads_230, N_X11_spreads_232, N_X11_spreads_233, N_X11_spreads_236, N_X11_spreads_238, N_X11_spreads_239, N_X11_spreads_240, N_X11_spreads_241, N_X11_spreads_242, N_X11_spreads_243, N_X11_spreads_246, N_X11_spreads_247, N_X11_spreads_250, N_X11_spreads_252, N_X11_spreads_253, N_X11_spreads_254, N_X11_spreads_255, N_X11_spreads_258, N_X11_spreads_259, N_X11_spreads_260, N_X11_spreads_263, N_X11_spreads_264, N_X11_spreads_267, N_X11_spreads_269, N_X11_spreads_270, N_X11_spreads_271, N_X11_spreads_274, N_X11_spreads_276, N_X11_spreads_277, N_X11_spreads_278, N_X11_spreads_279, N_X11_spreads_282, N_X11_spreads_283, N_X11_spreads_286, N_X11_spreads_288, N_X11_spreads_289, N_X11_spreads_292, N_X11_spreads_294, N_X11_spreads_295, N_X11_spreads_296, N_X11_spreads_299, N_X11_spreads_301, N_X11_spreads_302, N_X11_spreads_305, N_X11_spreads_306, N_X11_spreads_309, N_X11_spreads_312, N_X11_spreads_315, N_X11_spreads_318, if_true, if_false, ite_true, ite_false, not_false_eq_true, not_true_eq_false, isRf_ref, isRf_null, c1_int, c1_ref, c1_null, c1_none, rfv_some, rfv_none, Ok_s, tl_some, tl_none, List.nil_append, b2i_n1, b2i_n0, ↓reduceIte, nI_add, pk_mul, pk_sub, n_leT, n_leF, n_ltT, n_ltF, n_eqT, n_eqF, n_shl1, n_shl, n_shr, nI_and, nI_or, nI_xor, b2i_z, b2i_o, m1_n, n_m1, m1_lt, m1_le, n_lm1, n_em1, nI_m1, and1, and3, and7, and15, and63, and255, Bool.true_eq_false, Bool.false_eq_true, reduceCtorEq, Nat.reduceAdd, Nat.reduceMul, Nat.reduceSub, Nat.reduceDiv, Nat.reduceMod, Nat.reducePow, Nat.zero_add, Nat.one_mul, c_words, hW, hwon, hbe, y97, x97]
            exact ih J ⟨hf, by rw [hstep', hbp]; exact hR, h35, h36⟩ _
end P65
