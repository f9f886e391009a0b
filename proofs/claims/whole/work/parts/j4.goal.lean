section Pj4
variable {xs : Nat → Int32} {Ln d : Nat} {D D' D'' : Dyn} {I I' I'' J : Nat → Nat → Int32} {L : Nat → Nat → Int64} {w : Om} {Q : Res → Prop} {ow ow' ow'' ky ky' ky'' ln ln' ln'' a a' : Nat → Nat} {o be sr : Nat} {A A' : As} {nn : Nat}
theorem cr0 : c1 (some (.retAddr 0)) = true := id rfl
theorem lt6 {l t : Nat} (hL : l ≤ 384) (ht : t ≤ 64) : (nI l - 6 < nI (6 * t)) = (¬ 6 * t + 6 ≤ l) := by
  by_cases h : 6 ≤ l
  · have e : nI l - 6 = nI (l - 6) := nI_sb (b := 6) h
    rw [e, n_lt (by omega) (by omega)]
    apply propext
    omega
  · have hz : ∀ x, x < 6 → nI x - 6 < nI 0 := by decide
    have h1 := hz l (by omega)
    have h2 : nI 0 ≤ nI (6 * t) := by rw [n_le (by decide) (by omega)]; omega
    rw [Int32.lt_iff_toInt_lt] at h1
    rw [Int32.le_iff_toInt_le] at h2
    rw [Int32.lt_iff_toInt_lt]
    apply propext
    constructor
    · intro _; omega
    · intro _; omega
theorem lawExit {t : Nat} (hL : Ln ≤ 384) (ht : t ≤ 64) (h : ¬ 6 * t + 6 ≤ Ln) (hC : CI D I A t) : LG xs Ln 18 t [] (mkW D I L) := by
  have hr := hC.room ht
  have e := lt6 (t := t) hL ht
  have e' : (Int32.ofNat Ln - 6 < nI (6 * t)) = True := by rw [show Int32.ofNat Ln = nI Ln from rfl, e]; exact eq_true h
  unfold LG
  simp only [S_L_law_18, S_L_law_19, S_L_law_20, S_L_law_21, S_L_law_23, S_L_law_24, S_L_law_1791, S_L_law_1792, if_true, if_false, ite_true, ite_false, not_false_eq_true, not_true_eq_false, isRf_ref, isRf_null, c1_int, c1_ref, c1_null, c1_none, rfv_some, rfv_none, aft_s, tl_some, tl_none, w_I, w_L, w_f, List.nil_append, okRb0, okRb1, okRb, Sum.inl.injEq, Prod.mk.injEq, i10, b2i_t, b2i_f, true_and, and_true, or_true, true_or, ir0, e', exists_eq_left]
  exact ⟨_, rfl, hr.1, hr.2⟩
theorem lawStep {t : Nat} (hL : Ln ≤ 384) (ht : 6 * t + 6 ≤ Ln) (hC : CI D I A t) (hR : RI I A t) (K : ∀ D' I' L' A', CI D' I' A' (t + 1) → RI I' A' (t + 1) → LG xs Ln 18 (t + 1) [] (mkW D' I' L')) : ∀ c, c < 64 → LG xs Ln 33 t [.int (nI c)] (mkW D I L)
  | 0, _ => lc_0 hC hR ht hL K
  | 1, _ => lc_1 hC hR ht hL K
  | 2, _ => lc_2 hC hR ht hL K
  | 3, _ => lc_3 hC hR ht hL K
  | 4, _ => lc_4 hC hR ht hL K
  | 5, _ => lc_5 hC hR ht hL K
  | 6, _ => lc_6 hC hR ht hL K
  | 7, _ => lc_7 hC hR ht hL K
  | 8, _ => lc_8 hC hR ht hL K
  | 9, _ => lc_9 hC hR ht hL K
  | 10, _ => lc_10 hC hR ht hL K
  | 11, _ => lc_11 hC hR ht hL K
  | 12, _ => lc_12 hC hR ht hL K
  | 13, _ => lc_13 hC hR ht hL K
  | 14, _ => lc_14 hC hR ht hL K
  | 15, _ => lc_15 hC hR ht hL K
  | 16, _ => lc_16 hC hR ht hL K
  | 17, _ => lc_17 hC hR ht hL K
  | 18, _ => lc_18 hC hR ht hL K
  | 19, _ => lc_19 hC hR ht hL K
  | 20, _ => lc_20 hC hR ht hL K
  | 21, _ => lc_21 hC hR ht hL K
  | 22, _ => lc_22 hC hR ht hL K
  | 23, _ => lc_23 hC hR ht hL K
  | 24, _ => lc_24 hC hR ht hL K
  | 25, _ => lc_25 hC hR ht hL K
  | 26, _ => lc_26 hC hR ht hL K
  | 27, _ => lc_27 hC hR ht hL K
  | 28, _ => lc_28 hC hR ht hL K
  | 29, _ => lc_29 hC hR ht hL K
  | 30, _ => lc_30 hC hR ht hL K
  | 31, _ => lc_31 hC hR ht hL K
  | 32, _ => lc_32 hC hR ht hL K
  | 33, _ => lc_33 hC hR ht hL K
  | 34, _ => lc_34 hC hR ht hL K
  | 35, _ => lc_35 hC hR ht hL K
  | 36, _ => lc_36 hC hR ht hL K
  | 37, _ => lc_37 hC hR ht hL K
  | 38, _ => lc_38 hC hR ht hL K
  | 39, _ => lc_39 hC hR ht hL K
  | 40, _ => lc_40 hC hR ht hL K
  | 41, _ => lc_41 hC hR ht hL K
  | 42, _ => lc_42 hC hR ht hL K
  | 43, _ => lc_43 hC hR ht hL K
  | 44, _ => lc_44 hC hR ht hL K
  | 45, _ => lc_45 hC hR ht hL K
  | 46, _ => lc_46 hC hR ht hL K
  | 47, _ => lc_47 hC hR ht hL K
  | 48, _ => lc_48 hC hR ht hL K
  | 49, _ => lc_49 hC hR ht hL K
  | 50, _ => lc_50 hC hR ht hL K
  | c + 51, hc => by
    have hK := K D I L A hC.up hR.up
    unfold LG at hK ⊢
    have e6 : nI (6 * t) + 6 = nI (6 * (t + 1)) := nI_add (6 * t) 6
    have hd : (nI (c + 51)).toInt < 0 ∨ 50 < (nI (c + 51)).toInt := by
      right
      rw [nI_toInt (by omega)]
      omega
    simp only [S_L_law_33 hd, S_L_law_1785, S_L_law_1788, if_true, if_false, ite_true, ite_false, not_false_eq_true, not_true_eq_false, isRf_ref, isRf_null, c1_int, c1_ref, c1_null, c1_none, rfv_some, rfv_none, aft_s, tl_some, tl_none, w_I, w_L, w_f, List.nil_append, okRb0, okRb1, okRb, Sum.inl.injEq, Prod.mk.injEq, i10, b2i_t, b2i_f, true_and, and_true, or_true, true_or, e6]
    exact hK
theorem lawLoop (hL : Ln ≤ 384) : ∀ f t (D : Dyn) (I : Nat → Nat → Int32) (L : Nat → Nat → Int64) (A : As), t + f = 64 → CI D I A t → RI I A t → LG xs Ln 18 t [] (mkW D I L)
  | 0, t, D, I, L, A, ht, hC, hR => lawExit hL (by omega) (by omega) hC
  | f + 1, t, D, I, L, A, ht, hC, hR => by
    by_cases h : 6 * t + 6 ≤ Ln
    · have hs := lawStep (xs := xs) (L := L) hL h hC hR (fun D' I' L' A' hC' hR' => lawLoop hL f (t + 1) D' I' L' A' (by omega) hC' hR') ((xs (6 * t)).toBitVec.toNat % 64) (by omega)
      have e := lt6 (t := t) hL (by omega)
      have e' : (Int32.ofNat Ln - 6 < nI (6 * t)) = False := by rw [show Int32.ofNat Ln = nI Ln from rfl, e]; exact eq_false (fun q => q h)
      have ea : xs (6 * t) &&& 63 = nI ((xs (6 * t)).toBitVec.toNat % 64) := pk_and _ 6 (by decide)
      have eb : ¬ (nI (6 * t) < 0 ∨ Ln ≤ 6 * t) := by have := n_bd (i := 6 * t) (n := Ln) (by omega) (by omega); rw [n_cl (by omega)] at this; exact this
      have ec : (nI (6 * t)).toNatClampNeg = 6 * t := n_cl (by omega)
      unfold LG at hs ⊢
      simp only [S_L_law_18, S_L_law_19, S_L_law_20, S_L_law_21, S_L_law_23, S_L_law_24, S_L_law_27, S_L_law_28, S_L_law_29, S_L_law_30, S_L_law_32, if_true, if_false, ite_true, ite_false, not_false_eq_true, not_true_eq_false, isRf_ref, isRf_null, c1_int, c1_ref, c1_null, c1_none, rfv_some, rfv_none, aft_s, tl_some, tl_none, w_I, w_L, w_f, List.nil_append, okRb0, okRb1, okRb, Sum.inl.injEq, Prod.mk.injEq, i10, b2i_t, b2i_f, true_and, and_true, or_true, true_or, ir0, e', ea, eb, ec]
      exact hs
    · exact lawExit hL (by omega) h hC
theorem lawGoal0 (Ln : Nat) (xs : Nat → Int32) (hL : Ln ≤ 384) : ∃ w', Ev T_L_law (some .boolean) xs Ln (callD xs Ln 1000) 0 [some (.retAddr 0), none, none, none] [] w00 (w', some (.int 1)) ∧ oN w' ≤ 600000 ∧ oS w' ≤ 7302250 := by
  obtain ⟨wB, w1, hB, hn, h1, hIW⟩ := iw
  have hc1 : callD xs Ln 1000 85 [.ref 0] (mk w00 (.inr 10) (nF 10)) = some (wB, none) := callD_up (cE_le 4 _ _ _ _ hB) (by decide)
  have hc2 : callD xs Ln 1000 159 [.ref 82] (mk wB (.inr 11) (nF 11)) = some (w1, none) := callD_up (cE_le 2 _ _ _ _ h1) (by decide)
  have hl := lawLoop (xs := xs) hL 64 0 (D00 w1) (oI w1) (oL w1) A00 rfl (CI_00 hIW) (RI_00 hIW)
  rw [← hIW.mk] at hl
  have i1 : isObj (mk w00 (.inr 10) (nF 10)) 0 10 = true := rfl
  have i2 : isObj (mk wB (.inr 11) (nF 11)) 82 11 = true := by
    rw [← hn]
    unfold isObj
    show (Nat.blt 11 12 && (match up1 (oH wB) (oN wB) (.inr 11) (oN wB) with
      | .inr c => Nat.beq c 11
      | _ => false)) = true
    rw [up1_s]
    rfl
  have z0 : oN w00 = 0 := rfl
  unfold LG at hl
  have hg : ∃ r, Ev T_L_law (some .boolean) xs Ln (callD xs Ln 1000) 0 [some (.retAddr 0), none, none, none] [] w00 r ∧ LQ r := by
    simp only [S_L_law_0, S_L_law_3, S_L_law_4, S_L_law_7, S_L_law_8, S_L_law_11, S_L_law_12, S_L_law_15, S_L_law_16, S_L_law_17, if_true, if_false, ite_true, ite_false, not_false_eq_true, not_true_eq_false, isRf_ref, isRf_null, c1_int, c1_ref, c1_null, c1_none, rfv_some, rfv_none, aft_s, tl_some, tl_none, w_I, w_L, w_f, List.nil_append, okRb0, okRb1, okRb, Sum.inl.injEq, Prod.mk.injEq, i10, b2i_t, b2i_f, true_and, and_true, or_true, true_or, z0, cr0, i1, hc1, hn, i2, hc2]
    exact hl
  obtain ⟨r, hr, w', rfl, h2, h3⟩ := hg
  exact ⟨w', hr, h2, h3⟩
end Pj4
