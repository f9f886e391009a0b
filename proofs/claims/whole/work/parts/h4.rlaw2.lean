section Ph4
variable {xs : Nat → Int32} {Ln d : Nat} {D D' D'' : Dyn} {I I' I'' J : Nat → Nat → Int32} {L : Nat → Nat → Int64} {w : Om} {Q : Res → Prop} {ow ow' ow'' ky ky' ky'' ln ln' ln'' a a' : Nat → Nat} {o be sr : Nat} {A A' : As} {nn : Nat}
/-! a law more -/
def lwA (a : Nat → Nat) (t m : Nat) (tk vl : Nat → Nat) (n : Nat) : Nat → Nat := itr (fun k b => up1 (up1 b (4334 + 400 * t + k) (tk k)) (6734 + 400 * t + k) (vl k)) n (up1 a (4328 + t) m)
theorem lwA_s (a : Nat → Nat) (t m : Nat) (tk vl : Nat → Nat) (n : Nat) : lwA a t m tk vl (n + 1) = up1 (up1 (lwA a t m tk vl n) (4334 + 400 * t + n) (tk n)) (6734 + 400 * t + n) (vl n) := id rfl
theorem lwA_o {t m : Nat} {tk vl : Nat → Nat} {j : Nat} (h0 : j ≠ 4328 + t) : ∀ n, (∀ k, k < n → j ≠ 4334 + 400 * t + k ∧ j ≠ 6734 + 400 * t + k) → lwA a t m tk vl n j = a j
  | 0, _ => up1_n _ _ h0
  | n + 1, h => by
    have := h n (by omega)
    rw [lwA_s, up1_n _ _ this.2, up1_n _ _ this.1]
    exact lwA_o h0 n (fun k hk => h k (by omega))
theorem lwA_m {t m : Nat} {tk vl : Nat → Nat} (ht : t < 6) : ∀ n, n ≤ 400 → lwA a t m tk vl n (4328 + t) = m
  | 0, _ => up1_s _ _ _
  | n + 1, h => by
    rw [lwA_s, up1_n _ _ (by omega), up1_n _ _ (by omega)]
    exact lwA_m ht n (by omega)
theorem lwA_k {t m k : Nat} {tk vl : Nat → Nat} (ht : t < 6) : ∀ n, n ≤ 400 → k < n → lwA a t m tk vl n (4334 + 400 * t + k) = tk k ∧ lwA a t m tk vl n (6734 + 400 * t + k) = vl k
  | 0, _, h => by omega
  | n + 1, hn, h => by
    rw [lwA_s]
    by_cases e : k = n
    · rw [e, up1_n _ _ (by omega), up1_s, up1_s]
      exact ⟨rfl, rfl⟩
    · rw [up1_n _ _ (by omega), up1_n _ _ (by omega), up1_n _ _ (by omega), up1_n _ _ (by omega)]
      exact lwA_k ht n (by omega) (by omega)
def lawA (a : Nat → Nat) (m : Nat) (tk vl : Nat → Nat) : Nat → Nat := up1 (lwA a (a 4325) m tk vl m) 4325 (a 4325 + 1)
theorem lawA_o {m : Nat} {tk vl : Nat → Nat} {j : Nat} (ht : a 4325 < 6) (hm : m ≤ 400) (hj : j < 4328) (h5 : j ≠ 4325) : lawA a m tk vl j = a j := by
  unfold lawA
  rw [up1_n _ _ h5]
  exact lwA_o (by omega) m (fun k hk => by omega)
theorem lawA_tk {m : Nat} {tk vl : Nat → Nat} (ht : a 4325 < 6) (hm : m ≤ 400) (hz : ∀ j, m ≤ j → tk j = 0 ∧ vl j = 0) : tkA (lawA a m tk vl) (a 4325) = tk ∧ vlA (lawA a m tk vl) (a 4325) = vl ∧ lawA a m tk vl (4328 + a 4325) = m := by
  have e1 : lawA a m tk vl (4328 + a 4325) = m := by
    unfold lawA
    rw [up1_n _ _ (by omega)]
    exact lwA_m ht m hm
  refine ⟨?_, ?_, e1⟩
  · funext j
    unfold tkA
    rw [e1]
    by_cases c : j < m
    · rw [if_pos c]
      unfold lawA
      rw [up1_n _ _ (by omega), show 4334 + (400 * a 4325 + j) = 4334 + 400 * a 4325 + j by omega]
      exact (lwA_k ht m hm c).1
    · rw [if_neg c, (hz j (by omega)).1]
  · funext j
    unfold vlA
    rw [e1]
    by_cases c : j < m
    · rw [if_pos c]
      unfold lawA
      rw [up1_n _ _ (by omega), show 6734 + (400 * a 4325 + j) = 6734 + 400 * a 4325 + j by omega]
      exact (lwA_k ht m hm c).2
    · rw [if_neg c, (hz j (by omega)).2]
theorem lawA_tt {m t : Nat} {tk vl : Nat → Nat} (ht : a 4325 < 6) (hm : m ≤ 400) (h : t < a 4325) (h4 : a (4328 + t) ≤ 400) : tkA (lawA a m tk vl) t = tkA a t ∧ vlA (lawA a m tk vl) t = vlA a t ∧ lawA a m tk vl (4328 + t) = a (4328 + t) := by
  have e0 : ∀ j, j ≠ 4325 → j ≠ 4328 + a 4325 → (∀ k, k < m → j ≠ 4334 + 400 * a 4325 + k ∧ j ≠ 6734 + 400 * a 4325 + k) → lawA a m tk vl j = a j := fun j q1 q2 q3 => by
    unfold lawA
    rw [up1_n _ _ q1]
    exact lwA_o q2 m q3
  have e1 : lawA a m tk vl (4328 + t) = a (4328 + t) := e0 _ (by omega) (by omega) (fun k hk => by omega)
  refine ⟨?_, ?_, e1⟩
  · funext j
    unfold tkA
    rw [e1]
    by_cases c : j < a (4328 + t)
    · rw [if_pos c, if_pos c]
      exact e0 _ (by omega) (by omega) (fun k hk => by omega)
    · rw [if_neg c, if_neg c]
  · funext j
    unfold vlA
    rw [e1]
    by_cases c : j < a (4328 + t)
    · rw [if_pos c, if_pos c]
      exact e0 _ (by omega) (by omega) (fun k hk => by omega)
    · rw [if_neg c, if_neg c]
theorem AW_law {m : Nat} {tk vl : Nat → Nat} {y : List Nat × List Cl} (hA : AW a) (ht : a 4325 < 6) (hm : m ≤ 400) (hz : ∀ j, m ≤ j → tk j = 0 ∧ vl j = 0) (h4 : ∀ j, tk j < 400) (hv : ∀ j, vl j < 2147483648) (hr : rdL tk vl m 12 0 0 0 = .inr y) : AW (lawA a m tk vl) := by
  obtain ⟨h1, h2, h3, h4', h5, h6, h7, h8, h9, h10, h11, h12, h13, h14, h15, h16⟩ := hA
  have hn : ∀ j, j < 4328 → j ≠ 4325 → lawA a m tk vl j = a j := fun j q1 q2 => lawA_o ht hm q1 q2
  have h25 : lawA a m tk vl 4325 = a 4325 + 1 := by unfold lawA; rw [up1_s]
  unfold AW
  rw [hn 4320 (by decide) (by decide), hn 4321 (by decide) (by decide), hn 4322 (by decide) (by decide), hn 4323 (by decide) (by decide), hn 4324 (by decide) (by decide), h25, hn 4326 (by decide) (by decide), hn 4327 (by decide) (by decide)]
  refine ⟨h1, h2, h3, h4', h5, by omega, by omega, h8, ?_, ?_, ?_, ?_, ?_, ?_, ?_, ?_⟩
  · intro p hp
    rw [hn _ (by omega) (by omega)]
    exact h9 p hp
  · intro w hw
    rw [hn _ (by omega) (by omega), hn _ (by omega) (by omega)]
    exact h10 w hw
  · intro w p hw hp
    rw [hn _ (by omega) (by omega)]
    exact h11 w p hw hp
  · intro k w hk hw
    rw [hn _ (by omega) (by omega)]
    exact h12 k w hk hw
  · intro i hi
    rw [hn _ (by omega) (by omega), hn _ (by omega) (by omega)]
    exact h13 i hi
  · intro i hi
    rw [hn _ (by omega) (by omega)]
    exact h14 i hi
  · intro t htt
    by_cases e : t = a 4325
    · rw [e]
      obtain ⟨k1, k2, k3⟩ := lawA_tk (vl := vl) ht hm hz
      unfold LwOK
      rw [k1, k2, k3]
      exact ⟨hm, h4, hv, y.1, y.2, hr⟩
    · have hL := h15 t (by omega)
      obtain ⟨k1, k2, k3⟩ := lawA_tt (tk := tk) (vl := vl) ht hm (show t < a 4325 by omega) hL.1
      unfold LwOK
      rw [k1, k2, k3]
      exact hL
  · rw [← h16]
    exact smN_c 4096 (fun i hi => hn _ (by omega) (by omega))
def aFl (A : As) (fl : Option Nat) : As := (sa A, sim A, sst A, srf A, ssy A, fl, stB A, stn A, shn A)
def tkB (A : As) : Nat → Nat := (tokF (stB A) (stn A)).2.2.1
def vlB (A : As) : Nat → Nat := (tokF (stB A) (stn A)).2.2.2.1
def mB (A : As) : Nat := (tokF (stB A) (stn A)).2.1
def psB (A : As) : Nat → Nat := up1 (tokF (stB A) (stn A)).2.2.2.2 (mB A) (stn A)
def nLaw (A : As) : As × Int32 := if 6 ≤ sa A 4325 then (aRf (aTp A 0) (-5), -5) else match rdL (tkB A) (vlB A) (mB A) 12 0 0 0 with
  | .inl q => (aRf (aFl (aTp A 0) (some (psB A q))) (-6), -6)
  | .inr _ => (aGr (aFl (aTp A 0) none) (lawA (sa A) (mB A) (tkB A) (vlB A)), nI (sa A 4325))
theorem RI_rd {A : As} {nn : Nat} {fl : Option Nat} (h : RI I A nn) (j1 : ∀ k, k ≠ 82 → k ≠ 90 → k ≠ 91 → k ≠ 92 → J k = I k) (j2 : ∀ j, j < 10 ∨ (11 < j ∧ j < 15) ∨ 18 < j → J 82 j = I 82 j) (j3 : J 82 10 = nI 0) (j4 : J 82 11 = nO fl) : RI J (aFl (aTp A 0) fl) nn := by
  obtain ⟨h1, h2, ⟨v, hc, hv⟩, h4, h5, h6, h7, h8, h9, h10, h11⟩ := h
  have hr : ∀ i, i ≠ 82 → i ≠ 90 → i ≠ 91 → i ≠ 92 → J i = I i := j1
  refine ⟨?_, h2, ⟨v, ?_, hv⟩, ?_, ?_, ?_, ?_, ?_, ?_, ?_, ?_⟩
  · unfold RK; rw [hr 84 (by decide) (by decide) (by decide) (by decide)]; exact h1
  · unfold RIc RLk LKb LKg RSi
    rw [hr 94 (by decide) (by decide) (by decide) (by decide), hr 95 (by decide) (by decide) (by decide) (by decide), hr 101 (by decide) (by decide) (by decide) (by decide), j2 1 (by omega), j2 27 (by omega), j2 39 (by omega)]
    exact hc
  · rw [hr 85 (by decide) (by decide) (by decide) (by decide), hr 86 (by decide) (by decide) (by decide) (by decide)]; exact h4
  · rw [j2 0 (by omega)]; exact h5
  · rw [hr 83 (by decide) (by decide) (by decide) (by decide)]; exact h6
  · rw [j2 6 (by omega)]; exact h7
  · exact j4
  · rw [hr 88 (by decide) (by decide) (by decide) (by decide)]; exact ⟨j3, Nat.zero_le _, h9.2.2⟩
  · show HnR _ (shn A)
    unfold HnR
    rw [j2 41 (by omega), j2 42 (by omega), hr 102 (by decide) (by decide) (by decide) (by decide)]
    exact h10
  · rw [hr 87 (by decide) (by decide) (by decide) (by decide)]; exact h11
theorem RK_law {J : Nat → Nat → Int32} {t m : Nat} {tk vl : Nat → Nat} (hK : RK J a) (ht : t < 6) : ∀ n, n ≤ 400 → RK (itr (fun k J => up2 (up2 J 84 (4334 + 400 * t + k) (nI (tk k))) 84 (6734 + 400 * t + k) (nI (vl k))) n (up2 J 84 (4328 + t) (nI m))) (lwA a t m tk vl n)
  | 0, _ => RK_u (by omega) (by omega) hK
  | n + 1, h => RK_u (by omega) (by omega) (RK_u (by omega) (by omega) (RK_law hK ht n (by omega)))
theorem R_law {A : As} {nn : Nat} (h : RI I A nn) (hn : nn < 99999) : RCall xs Ln (d + 84) 196 [.ref 82] D I L (nLaw A).1 nn (nLaw A).2 := by
  have hA := h.2.1
  have h6 := hA.2.2.2.2.2.1
  have h9 := h.2.2.2.2.2.2.2.2.1
  have h11 := h.2.2.2.2.2.2.2.2.2.2
  have e25 : I 84 4325 = nI (sa A 4325) := h.e (by decide) (by decide) (by decide)
  refine semG (lo := [some (.ref 82), none, none]) rfl rfl (Nat.le_of_ble_eq_true rfl) rfl (show G_X11_law xs Ln _ 0 [some (.ref 82), none, none] [] _ _ from ?_)
  unfold nLaw
  by_cases c6 : 6 ≤ sa A 4325
  · rw [if_pos c6]
    have hi := RI_rf rc5 (RI_tp (m := 0) h (by omega))
    simp (disch := first | omega | exact c1_int _ | exact c1_none | exact c1_ref _ | exact isRf_ref _ | assumption | exact okRb _ | exact okN1 | exact okN0 | exact rfl) only [N_X11_law_0, N_X11_law_1, N_X11_law_4, N_X11_law_7, N_X11_law_8, N_X11_law_10, N_X11_law_13, N_X11_law_14, N_X11_law_15, N_X11_law_18, N_X11_law_19, N_X11_law_21, N_X11_law_24, N_X11_law_25, N_X11_law_26, N_X11_law_29, N_X11_law_32, N_X11_law_33, N_X11_law_35, N_X11_law_38, N_X11_law_39, N_X11_law_40, N_X11_law_43, N_X11_law_46, N_X11_law_47, N_X11_law_48, N_X11_law_49, N_X11_law_52, N_X11_law_55, N_X11_law_56, N_X11_law_57, N_X11_law_58, N_X11_law_61, N_X11_law_62, N_X11_law_63, N_X11_law_65, N_X11_law_66, N_X11_law_69, N_X11_law_72, N_X11_law_73, N_X11_law_76, N_X11_law_79, N_X11_law_82, N_X11_law_83, N_X11_law_84, N_X11_law_85, N_X11_law_86, N_X11_law_87, N_X11_law_88, N_X11_law_91, N_X11_law_92, N_X11_law_93, N_X11_law_94, N_X11_law_95, N_X11_law_98, N_X11_law_101, N_X11_law_104, N_X11_law_105, N_X11_law_106, N_X11_law_107, N_X11_law_108, N_X11_law_109, N_X11_law_110, N_X11_law_113, N_X11_law_114, N_X11_law_115, N_X11_law_116, N_X11_law_119, N_X11_law_122, N_X11_law_123, N_X11_law_126, N_X11_law_129, N_X11_law_130, N_X11_law_131, N_X11_law_132, N_X11_law_133, N_X11_law_134, N_X11_law_135, N_X11_law_136, N_X11_law_139, if_true, if_false, ite_true, ite_false, not_false_eq_true, not_true_eq_false, isRf_ref, isRf_null, c1_int, c1_ref, c1_null, c1_none, rfv_some, rfv_none, Ok_s, tl_some, tl_none, List.nil_append, b2i_n1, b2i_n0, ↓reduceIte, nI_add, pk_mul, pk_sub, n_leT, n_leF, n_ltT, n_ltF, n_eqT, n_eqF, n_shl1, n_shl, n_shr, nI_and, nI_or, nI_xor, b2i_z, b2i_o, m1_n, n_m1, m1_lt, m1_le, n_lm1, n_em1, nI_m1, and1, and3, and7, and15, and63, and255, Bool.true_eq_false, Bool.false_eq_true, reduceCtorEq, Nat.reduceAdd, Nat.reduceMul, Nat.reduceSub, Nat.reduceDiv, Nat.reduceMod, Nat.reducePow, Nat.zero_add, Nat.one_mul, e25]
    rw [r_refuses (y := m5) rc5]
    simp (disch := first | omega | exact c1_int _ | exact c1_none | exact c1_ref _ | exact isRf_ref _ | assumption | exact okRb _ | exact okN1 | exact okN0 | exact rfl) only [N_X11_law_0, N_X11_law_1, N_X11_law_4, N_X11_law_7, N_X11_law_8, N_X11_law_10, N_X11_law_13, N_X11_law_14, N_X11_law_15, N_X11_law_18, N_X11_law_19, N_X11_law_21, N_X11_law_24, N_X11_law_25, N_X11_law_26, N_X11_law_29, N_X11_law_32, N_X11_law_33, N_X11_law_35, N_X11_law_38, N_X11_law_39, N_X11_law_40, N_X11_law_43, N_X11_law_46, N_X11_law_47, N_X11_law_48, N_X11_law_49, N_X11_law_52, N_X11_law_55, N_X11_law_56, N_X11_law_57, N_X11_law_58, N_X11_law_61, N_X11_law_62, N_X11_law_63, N_X11_law_65, N_X11_law_66, N_X11_law_69, N_X11_law_72, N_X11_law_73, N_X11_law_76, N_X11_law_79, N_X11_law_82, N_X11_law_83, N_X11_law_84, N_X11_law_85, N_X11_law_86, N_X11_law_87, N_X11_law_88, N_X11_law_91, N_X11_law_92, N_X11_law_93, N_X11_law_94, N_X11_law_95, N_X11_law_98, N_X11_law_101, N_X11_law_104, N_X11_law_105, N_X11_law_106, N_X11_law_107, N_X11_law_108, N_X11_law_109, N_X11_law_110, N_X11_law_113, N_X11_law_114, N_X11_law_115, N_X11_law_116, N_X11_law_119, N_X11_law_122, N_X11_law_123, N_X11_law_126, N_X11_law_129, N_X11_law_130, N_X11_law_131, N_X11_law_132, N_X11_law_133, N_X11_law_134, N_X11_law_135, N_X11_law_136, N_X11_law_139, if_true, if_false, ite_true, ite_false, not_false_eq_true, not_true_eq_false, isRf_ref, isRf_null, c1_int, c1_ref, c1_null, c1_none, rfv_some, rfv_none, Ok_s, tl_some, tl_none, List.nil_append, b2i_n1, b2i_n0, ↓reduceIte, nI_add, pk_mul, pk_sub, n_leT, n_leF, n_ltT, n_ltF, n_eqT, n_eqF, n_shl1, n_shl, n_shr, nI_and, nI_or, nI_xor, b2i_z, b2i_o, m1_n, n_m1, m1_lt, m1_le, n_lm1, n_em1, nI_m1, and1, and3, and7, and15, and63, and255, Bool.true_eq_false, Bool.false_eq_true, reduceCtorEq, Nat.reduceAdd, Nat.reduceMul, Nat.reduceSub, Nat.reduceDiv, Nat.reduceMod, Nat.reducePow, Nat.zero_add, Nat.one_mul]
    refine ⟨_, _, rfl, hi.up, fun k hk => ?_⟩
    rw [RFr_rf k hk, up2_ro _ _ _ (by omega)]
  · rw [if_neg c6]
    simp (disch := first | omega | exact c1_int _ | exact c1_none | exact c1_ref _ | exact isRf_ref _ | assumption | exact okRb _ | exact okN1 | exact okN0 | exact rfl) only [N_X11_law_0, N_X11_law_1, N_X11_law_4, N_X11_law_7, N_X11_law_8, N_X11_law_10, N_X11_law_13, N_X11_law_14, N_X11_law_15, N_X11_law_18, N_X11_law_19, N_X11_law_21, N_X11_law_24, N_X11_law_25, N_X11_law_26, N_X11_law_29, N_X11_law_32, N_X11_law_33, N_X11_law_35, N_X11_law_38, N_X11_law_39, N_X11_law_40, N_X11_law_43, N_X11_law_46, N_X11_law_47, N_X11_law_48, N_X11_law_49, N_X11_law_52, N_X11_law_55, N_X11_law_56, N_X11_law_57, N_X11_law_58, N_X11_law_61, N_X11_law_62, N_X11_law_63, N_X11_law_65, N_X11_law_66, N_X11_law_69, N_X11_law_72, N_X11_law_73, N_X11_law_76, N_X11_law_79, N_X11_law_82, N_X11_law_83, N_X11_law_84, N_X11_law_85, N_X11_law_86, N_X11_law_87, N_X11_law_88, N_X11_law_91, N_X11_law_92, N_X11_law_93, N_X11_law_94, N_X11_law_95, N_X11_law_98, N_X11_law_101, N_X11_law_104, N_X11_law_105, N_X11_law_106, N_X11_law_107, N_X11_law_108, N_X11_law_109, N_X11_law_110, N_X11_law_113, N_X11_law_114, N_X11_law_115, N_X11_law_116, N_X11_law_119, N_X11_law_122, N_X11_law_123, N_X11_law_126, N_X11_law_129, N_X11_law_130, N_X11_law_131, N_X11_law_132, N_X11_law_133, N_X11_law_134, N_X11_law_135, N_X11_law_136, N_X11_law_139, if_true, if_false, ite_true, ite_false, not_false_eq_true, not_true_eq_false, isRf_ref, isRf_null, c1_int, c1_ref, c1_null, c1_none, rfv_some, rfv_none, Ok_s, tl_some, tl_none, List.nil_append, b2i_n1, b2i_n0, ↓reduceIte, nI_add, pk_mul, pk_sub, n_leT, n_leF, n_ltT, n_ltF, n_eqT, n_eqF, n_shl1, n_shl, n_shr, nI_and, nI_or, nI_xor, b2i_z, b2i_o, m1_n, n_m1, m1_lt, m1_le, n_lm1, n_em1, nI_m1, and1, and3, and7, and15, and63, and255, Bool.true_eq_false, Bool.false_eq_true, reduceCtorEq, Nat.reduceAdd, Nat.reduceMul, Nat.reduceSub, Nat.reduceDiv, Nat.reduceMod, Nat.reducePow, Nat.zero_add, Nat.one_mul, e25]
    refine Ok.mono (r_reads (d := d) (tk := tkB A) (vl := vlB A) (m := mB A) (ps := psB A) rfl rfl rfl rfl h9.2.1 h9.1 h9.2.2 h11) ?_
    rintro _ ⟨J, ok, fl, rfl, j1, j2, j3, j4, j5, j6, hrd⟩
    have hRJ := RI_rd h j1 j2 j3 j4
    have hFr : RFr I J := fun k hk => j1 k (by omega) (by omega) (by omega) (by omega)
    unfold rdR at hrd
    cases hr : rdL (tkB A) (vlB A) (mB A) 12 0 0 0 with
    | inl q =>
      rw [hr] at hrd
      obtain ⟨rfl, rfl⟩ := hrd
      simp (disch := first | omega | exact c1_int _ | exact c1_none | exact c1_ref _ | exact isRf_ref _ | assumption | exact okRb _ | exact okN1 | exact okN0 | exact rfl) only [N_X11_law_0, N_X11_law_1, N_X11_law_4, N_X11_law_7, N_X11_law_8, N_X11_law_10, N_X11_law_13, N_X11_law_14, N_X11_law_15, N_X11_law_18, N_X11_law_19, N_X11_law_21, N_X11_law_24, N_X11_law_25, N_X11_law_26, N_X11_law_29, N_X11_law_32, N_X11_law_33, N_X11_law_35, N_X11_law_38, N_X11_law_39, N_X11_law_40, N_X11_law_43, N_X11_law_46, N_X11_law_47, N_X11_law_48, N_X11_law_49, N_X11_law_52, N_X11_law_55, N_X11_law_56, N_X11_law_57, N_X11_law_58, N_X11_law_61, N_X11_law_62, N_X11_law_63, N_X11_law_65, N_X11_law_66, N_X11_law_69, N_X11_law_72, N_X11_law_73, N_X11_law_76, N_X11_law_79, N_X11_law_82, N_X11_law_83, N_X11_law_84, N_X11_law_85, N_X11_law_86, N_X11_law_87, N_X11_law_88, N_X11_law_91, N_X11_law_92, N_X11_law_93, N_X11_law_94, N_X11_law_95, N_X11_law_98, N_X11_law_101, N_X11_law_104, N_X11_law_105, N_X11_law_106, N_X11_law_107, N_X11_law_108, N_X11_law_109, N_X11_law_110, N_X11_law_113, N_X11_law_114, N_X11_law_115, N_X11_law_116, N_X11_law_119, N_X11_law_122, N_X11_law_123, N_X11_law_126, N_X11_law_129, N_X11_law_130, N_X11_law_131, N_X11_law_132, N_X11_law_133, N_X11_law_134, N_X11_law_135, N_X11_law_136, N_X11_law_139, if_true, if_false, ite_true, ite_false, not_false_eq_true, not_true_eq_false, isRf_ref, isRf_null, c1_int, c1_ref, c1_null, c1_none, rfv_some, rfv_none, Ok_s, tl_some, tl_none, List.nil_append, b2i_n1, b2i_n0, ↓reduceIte, nI_add, pk_mul, pk_sub, n_leT, n_leF, n_ltT, n_ltF, n_eqT, n_eqF, n_shl1, n_shl, n_shr, nI_and, nI_or, nI_xor, b2i_z, b2i_o, m1_n, n_m1, m1_lt, m1_le, n_lm1, n_em1, nI_m1, and1, and3, and7, and15, and63, and255, Bool.true_eq_false, Bool.false_eq_true, reduceCtorEq, Nat.reduceAdd, Nat.reduceMul, Nat.reduceSub, Nat.reduceDiv, Nat.reduceMod, Nat.reducePow, Nat.zero_add, Nat.one_mul]
      rw [r_refuses (y := m6) rc6]
      simp (disch := first | omega | exact c1_int _ | exact c1_none | exact c1_ref _ | exact isRf_ref _ | assumption | exact okRb _ | exact okN1 | exact okN0 | exact rfl) only [N_X11_law_0, N_X11_law_1, N_X11_law_4, N_X11_law_7, N_X11_law_8, N_X11_law_10, N_X11_law_13, N_X11_law_14, N_X11_law_15, N_X11_law_18, N_X11_law_19, N_X11_law_21, N_X11_law_24, N_X11_law_25, N_X11_law_26, N_X11_law_29, N_X11_law_32, N_X11_law_33, N_X11_law_35, N_X11_law_38, N_X11_law_39, N_X11_law_40, N_X11_law_43, N_X11_law_46, N_X11_law_47, N_X11_law_48, N_X11_law_49, N_X11_law_52, N_X11_law_55, N_X11_law_56, N_X11_law_57, N_X11_law_58, N_X11_law_61, N_X11_law_62, N_X11_law_63, N_X11_law_65, N_X11_law_66, N_X11_law_69, N_X11_law_72, N_X11_law_73, N_X11_law_76, N_X11_law_79, N_X11_law_82, N_X11_law_83, N_X11_law_84, N_X11_law_85, N_X11_law_86, N_X11_law_87, N_X11_law_88, N_X11_law_91, N_X11_law_92, N_X11_law_93, N_X11_law_94, N_X11_law_95, N_X11_law_98, N_X11_law_101, N_X11_law_104, N_X11_law_105, N_X11_law_106, N_X11_law_107, N_X11_law_108, N_X11_law_109, N_X11_law_110, N_X11_law_113, N_X11_law_114, N_X11_law_115, N_X11_law_116, N_X11_law_119, N_X11_law_122, N_X11_law_123, N_X11_law_126, N_X11_law_129, N_X11_law_130, N_X11_law_131, N_X11_law_132, N_X11_law_133, N_X11_law_134, N_X11_law_135, N_X11_law_136, N_X11_law_139, if_true, if_false, ite_true, ite_false, not_false_eq_true, not_true_eq_false, isRf_ref, isRf_null, c1_int, c1_ref, c1_null, c1_none, rfv_some, rfv_none, Ok_s, tl_some, tl_none, List.nil_append, b2i_n1, b2i_n0, ↓reduceIte, nI_add, pk_mul, pk_sub, n_leT, n_leF, n_ltT, n_ltF, n_eqT, n_eqF, n_shl1, n_shl, n_shr, nI_and, nI_or, nI_xor, b2i_z, b2i_o, m1_n, n_m1, m1_lt, m1_le, n_lm1, n_em1, nI_m1, and1, and3, and7, and15, and63, and255, Bool.true_eq_false, Bool.false_eq_true, reduceCtorEq, Nat.reduceAdd, Nat.reduceMul, Nat.reduceSub, Nat.reduceDiv, Nat.reduceMod, Nat.reducePow, Nat.zero_add, Nat.one_mul]
      exact ⟨_, _, rfl, (RI_rf rc6 hRJ).up, hFr.tr RFr_rf⟩
    | inr y =>
      rw [hr] at hrd
      obtain ⟨rfl, rfl⟩ := hrd
      obtain ⟨⟨t1, t2, t3, t4, t5, t6⟩, _⟩ := tz_i h9.2.1 (fun j hj => (h9.2.2 j hj).2) 400 tz0 (tz0_i _) (by show stn A ≤ 0 + 400; have := h9.2.1; omega)
      have hm4 : mB A ≤ 400 := by have := h9.2.1; show (tokF (stB A) (stn A)).2.1 ≤ 400; unfold tokF; omega
      have e25' : J 84 4325 = nI (sa A 4325) := by rw [j1 84 (by decide) (by decide) (by decide) (by decide)]; exact e25
      have hAW := AW_law hA (by omega) hm4 t3 (fun j => by have := t4 j; show (tzR (stB A) (stn A) 400 tz0).2.2.1 j < 400; omega) (fun j => by have := t5 j; show (tzR (stB A) (stn A) 400 tz0).2.2.2.1 j < 2147483648; omega) hr
      have hKJ : RK J (sa A) := hRJ.1
      simp (disch := first | omega | exact c1_int _ | exact c1_none | exact c1_ref _ | exact isRf_ref _ | assumption | exact okRb _ | exact okN1 | exact okN0 | exact rfl) only [N_X11_law_0, N_X11_law_1, N_X11_law_4, N_X11_law_7, N_X11_law_8, N_X11_law_10, N_X11_law_13, N_X11_law_14, N_X11_law_15, N_X11_law_18, N_X11_law_19, N_X11_law_21, N_X11_law_24, N_X11_law_25, N_X11_law_26, N_X11_law_29, N_X11_law_32, N_X11_law_33, N_X11_law_35, N_X11_law_38, N_X11_law_39, N_X11_law_40, N_X11_law_43, N_X11_law_46, N_X11_law_47, N_X11_law_48, N_X11_law_49, N_X11_law_52, N_X11_law_55, N_X11_law_56, N_X11_law_57, N_X11_law_58, N_X11_law_61, N_X11_law_62, N_X11_law_63, N_X11_law_65, N_X11_law_66, N_X11_law_69, N_X11_law_72, N_X11_law_73, N_X11_law_76, N_X11_law_79, N_X11_law_82, N_X11_law_83, N_X11_law_84, N_X11_law_85, N_X11_law_86, N_X11_law_87, N_X11_law_88, N_X11_law_91, N_X11_law_92, N_X11_law_93, N_X11_law_94, N_X11_law_95, N_X11_law_98, N_X11_law_101, N_X11_law_104, N_X11_law_105, N_X11_law_106, N_X11_law_107, N_X11_law_108, N_X11_law_109, N_X11_law_110, N_X11_law_113, N_X11_law_114, N_X11_law_115, N_X11_law_116, N_X11_law_119, N_X11_law_122, N_X11_law_123, N_X11_law_126, N_X11_law_129, N_X11_law_130, N_X11_law_131, N_X11_law_132, N_X11_law_133, N_X11_law_134, N_X11_law_135, N_X11_law_136, N_X11_law_139, if_true, if_false, ite_true, ite_false, not_false_eq_true, not_true_eq_false, isRf_ref, isRf_null, c1_int, c1_ref, c1_null, c1_none, rfv_some, rfv_none, Ok_s, tl_some, tl_none, List.nil_append, b2i_n1, b2i_n0, ↓reduceIte, nI_add, pk_mul, pk_sub, n_leT, n_leF, n_ltT, n_ltF, n_eqT, n_eqF, n_shl1, n_shl, n_shr, nI_and, nI_or, nI_xor, b2i_z, b2i_o, m1_n, n_m1, m1_lt, m1_le, n_lm1, n_em1, nI_m1, and1, and3, and7, and15, and63, and255, Bool.true_eq_false, Bool.false_eq_true, reduceCtorEq, Nat.reduceAdd, Nat.reduceMul, Nat.reduceSub, Nat.reduceDiv, Nat.reduceMod, Nat.reducePow, Nat.zero_add, Nat.one_mul, e25', j5, up2_ro]
      refine Lp (n := mB A) (σ := Unit) (E := fun i _ => G_X11_law xs Ln (d + 83) 64 [some (.ref 82), some (.int (nI (sa A 4325))), some (.int (nI i))] [] (mkW D (itr (fun k J => up2 (up2 J 84 (4334 + 400 * sa A 4325 + k) (nI (tkB A k))) 84 (6734 + 400 * sa A 4325 + k) (nI (vlB A k))) i (up2 J 84 (4328 + sa A 4325) (nI (mB A)))) L) _) (Inv := fun _ _ => True) ?_ ?_ 0 () (by omega) trivial
      · rintro _ _
        have ro : ∀ k, k ≠ 84 → itr (fun k J => up2 (up2 J 84 (4334 + 400 * sa A 4325 + k) (nI (tkB A k))) 84 (6734 + 400 * sa A 4325 + k) (nI (vlB A k))) (mB A) (up2 J 84 (4328 + sa A 4325) (nI (mB A))) k = J k := fun k hk => by rw [itr_ro (fun i J _ => by rw [up2_ro _ _ _ hk, up2_ro _ _ _ hk]), up2_ro _ _ _ hk]
        have hRK := RK_law (tk := tkB A) (vl := vlB A) (m := mB A) hKJ (show sa A 4325 < 6 by omega) (mB A) hm4
        generalize itr (fun k J => up2 (up2 J 84 (4334 + 400 * sa A 4325 + k) (nI (tkB A k))) 84 (6734 + 400 * sa A 4325 + k) (nI (vlB A k))) (mB A) (up2 J 84 (4328 + sa A 4325) (nI (mB A))) = K at ro hRK ⊢
        have k15 : K 82 15 = nI (mB A) := by rw [ro 82 (by decide)]; exact j5
        have k25 : K 84 4325 = nI (sa A 4325) := by
          rw [hRK.2.2.1 4325 (by decide) (by decide) (by decide), lwA_o (by omega) _ (fun k hk => by omega)]
        rw [N_X11_law_64]
        simp (disch := first | omega | exact c1_int _ | exact c1_none | exact c1_ref _ | exact isRf_ref _ | assumption | exact okRb _ | exact okN1 | exact okN0 | exact rfl) only [N_X11_law_0, N_X11_law_1, N_X11_law_4, N_X11_law_7, N_X11_law_8, N_X11_law_10, N_X11_law_13, N_X11_law_14, N_X11_law_15, N_X11_law_18, N_X11_law_19, N_X11_law_21, N_X11_law_24, N_X11_law_25, N_X11_law_26, N_X11_law_29, N_X11_law_32, N_X11_law_33, N_X11_law_35, N_X11_law_38, N_X11_law_39, N_X11_law_40, N_X11_law_43, N_X11_law_46, N_X11_law_47, N_X11_law_48, N_X11_law_49, N_X11_law_52, N_X11_law_55, N_X11_law_56, N_X11_law_57, N_X11_law_58, N_X11_law_61, N_X11_law_62, N_X11_law_63, N_X11_law_65, N_X11_law_66, N_X11_law_69, N_X11_law_72, N_X11_law_73, N_X11_law_76, N_X11_law_79, N_X11_law_82, N_X11_law_83, N_X11_law_84, N_X11_law_85, N_X11_law_86, N_X11_law_87, N_X11_law_88, N_X11_law_91, N_X11_law_92, N_X11_law_93, N_X11_law_94, N_X11_law_95, N_X11_law_98, N_X11_law_101, N_X11_law_104, N_X11_law_105, N_X11_law_106, N_X11_law_107, N_X11_law_108, N_X11_law_109, N_X11_law_110, N_X11_law_113, N_X11_law_114, N_X11_law_115, N_X11_law_116, N_X11_law_119, N_X11_law_122, N_X11_law_123, N_X11_law_126, N_X11_law_129, N_X11_law_130, N_X11_law_131, N_X11_law_132, N_X11_law_133, N_X11_law_134, N_X11_law_135, N_X11_law_136, N_X11_law_139, if_true, if_false, ite_true, ite_false, not_false_eq_true, not_true_eq_false, isRf_ref, isRf_null, c1_int, c1_ref, c1_null, c1_none, rfv_some, rfv_none, Ok_s, tl_some, tl_none, List.nil_append, b2i_n1, b2i_n0, ↓reduceIte, nI_add, pk_mul, pk_sub, n_leT, n_leF, n_ltT, n_ltF, n_eqT, n_eqF, n_shl1, n_shl, n_shr, nI_and, nI_or, nI_xor, b2i_z, b2i_o, m1_n, n_m1, m1_lt, m1_le, n_lm1, n_em1, nI_m1, and1, and3, and7, and15, and63, and255, Bool.true_eq_false, Bool.false_eq_true, reduceCtorEq, Nat.reduceAdd, Nat.reduceMul, Nat.reduceSub, Nat.reduceDiv, Nat.reduceMod, Nat.reducePow, Nat.zero_add, Nat.one_mul, k15, k25, c_good]
        refine ⟨_, _, rfl, RI_gr hRJ hn ?_ (RK_u (by omega) (by omega) hRK) hAW, hFr.tr (RFr_gr ?_)⟩
        · exact ⟨fun k hk => by rw [up2_ro _ _ _ (by omega)]; exact ro k (by omega), fun j hj => by rw [up2_ro _ _ _ (by decide), ro 82 (by decide)]⟩
        · exact ⟨fun k hk => by rw [up2_ro _ _ _ (by omega)]; exact ro k (by omega), fun j hj => by rw [up2_ro _ _ _ (by decide), ro 82 (by decide)]⟩
      · rintro i _ hi _ ih
        have ro : ∀ k, k ≠ 84 → itr (fun k J => up2 (up2 J 84 (4334 + 400 * sa A 4325 + k) (nI (tkB A k))) 84 (6734 + 400 * sa A 4325 + k) (nI (vlB A k))) i (up2 J 84 (4328 + sa A 4325) (nI (mB A))) k = J k := fun k hk => by rw [itr_ro (fun i J _ => by rw [up2_ro _ _ _ hk, up2_ro _ _ _ hk]), up2_ro _ _ _ hk]
        have ih' := ih () trivial
        rw [itr_s] at ih'
        generalize itr (fun k J => up2 (up2 J 84 (4334 + 400 * sa A 4325 + k) (nI (tkB A k))) 84 (6734 + 400 * sa A 4325 + k) (nI (vlB A k))) i (up2 J 84 (4328 + sa A 4325) (nI (mB A))) = K at ro ih' ⊢
        have k15 : K 82 15 = nI (mB A) := by rw [ro 82 (by decide)]; exact j5
        have k90 : K 90 i = nI (tkB A i) := by rw [ro 90 (by decide)]; exact (j6 i hi).1
        have k91 : K 91 i = nI (vlB A i) := by rw [ro 91 (by decide)]; exact (j6 i hi).2
        rw [N_X11_law_64]
        simp (disch := first | omega | exact c1_int _ | exact c1_none | exact c1_ref _ | exact isRf_ref _ | assumption | exact okRb _ | exact okN1 | exact okN0 | exact rfl) only [N_X11_law_0, N_X11_law_1, N_X11_law_4, N_X11_law_7, N_X11_law_8, N_X11_law_10, N_X11_law_13, N_X11_law_14, N_X11_law_15, N_X11_law_18, N_X11_law_19, N_X11_law_21, N_X11_law_24, N_X11_law_25, N_X11_law_26, N_X11_law_29, N_X11_law_32, N_X11_law_33, N_X11_law_35, N_X11_law_38, N_X11_law_39, N_X11_law_40, N_X11_law_43, N_X11_law_46, N_X11_law_47, N_X11_law_48, N_X11_law_49, N_X11_law_52, N_X11_law_55, N_X11_law_56, N_X11_law_57, N_X11_law_58, N_X11_law_61, N_X11_law_62, N_X11_law_63, N_X11_law_65, N_X11_law_66, N_X11_law_69, N_X11_law_72, N_X11_law_73, N_X11_law_76, N_X11_law_79, N_X11_law_82, N_X11_law_83, N_X11_law_84, N_X11_law_85, N_X11_law_86, N_X11_law_87, N_X11_law_88, N_X11_law_91, N_X11_law_92, N_X11_law_93, N_X11_law_94, N_X11_law_95, N_X11_law_98, N_X11_law_101, N_X11_law_104, N_X11_law_105, N_X11_law_106, N_X11_law_107, N_X11_law_108, N_X11_law_109, N_X11_law_110, N_X11_law_113, N_X11_law_114, N_X11_law_115, N_X11_law_116, N_X11_law_119, N_X11_law_122, N_X11_law_123, N_X11_law_126, N_X11_law_129, N_X11_law_130, N_X11_law_131, N_X11_law_132, N_X11_law_133, N_X11_law_134, N_X11_law_135, N_X11_law_136, N_X11_law_139, if_true, if_false, ite_true, ite_false, not_false_eq_true, not_true_eq_false, isRf_ref, isRf_null, c1_int, c1_ref, c1_null, c1_none, rfv_some, rfv_none, Ok_s, tl_some, tl_none, List.nil_append, b2i_n1, b2i_n0, ↓reduceIte, nI_add, pk_mul, pk_sub, n_leT, n_leF, n_ltT, n_ltF, n_eqT, n_eqF, n_shl1, n_shl, n_shr, nI_and, nI_or, nI_xor, b2i_z, b2i_o, m1_n, n_m1, m1_lt, m1_le, n_lm1, n_em1, nI_m1, and1, and3, and7, and15, and63, and255, Bool.true_eq_false, Bool.false_eq_true, reduceCtorEq, Nat.reduceAdd, Nat.reduceMul, Nat.reduceSub, Nat.reduceDiv, Nat.reduceMod, Nat.reducePow, Nat.zero_add, Nat.one_mul, k15, k90, k91, up2_ro]
        exact ih'
end Ph4
