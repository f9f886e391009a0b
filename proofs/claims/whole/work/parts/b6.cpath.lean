section Pb6
section PT
variable {beh : Nat → Nat → Option Nat} {V : Nat → Prop} {st b g : Nat} {G : Nat → Bool}
/-- back along the edges -/
def anc (s : Bs) (g : Nat) : Nat → Nat
  | 0 => g
  | m + 1 => bP s (anc s g m) / 8
theorem anc_s (s : Bs) (g m : Nat) : anc s g (m + 1) = bP s (anc s g m) / 8 := rfl
theorem anc_ok (hI : ∀ e, BI beh V st (bfs beh st e) e) (hb : dG beh G st = some b) (hg : g0 beh G st = some g) : ∀ m, m ≤ b → anc (bZ beh st) g m < bN (bZ beh st) ∧ anc (bZ beh st) g m ≤ g ∧ Fi (bZ beh st) (anc (bZ beh st) g m) = b - m ∧ cnG beh G m (bQ (bZ beh st) (anc (bZ beh st) g m)) = true ∧ (∀ i, i < anc (bZ beh st) g m → Fi (bZ beh st) i = b - m → cnG beh G m (bQ (bZ beh st) i) = false) := by
  have hZ := bZ_I hI
  have hgs := (lst_s _ _ _).mp hg
  have hFg : Fi (bZ beh st) g = b := by
    have := dG_g0 hI (G := G)
    rw [hb, hg] at this
    exact (Option.some.inj this).symm
  intro m
  induction m with
  | zero => intro _; exact ⟨hgs.1, Nat.le_refl _, hFg, hgs.2.1, fun i hi _ => hgs.2.2 i hi⟩
  | succ m ih =>
    intro hm
    obtain ⟨a1, a2, a3, a4, a5⟩ := ih (by omega)
    rw [anc_s]
    generalize hA : anc (bZ beh st) g m = A at *
    have hA0 : 0 < A := by
      by_cases h : A = 0
      · rw [h, hZ.2.2.2.2.2.2.2.2.2.2.2.2.2] at a3; omega
      · omega
    obtain ⟨p1, p2, p3, p4⟩ := hZ.2.2.2.2.2.2.2.1 A hA0 a1
    refine ⟨by omega, by omega, by omega, (cnG_iff G m _).mpr (Or.inr ⟨_, _, by omega, p3, a4⟩), fun i hi hF => ?_⟩
    cases hc : cnG beh G (m + 1) (bQ (bZ beh st) i) with
    | false => rfl
    | true =>
      exfalso
      rcases (cnG_iff G m _).mp hc with h | ⟨wd, y, w8, hy, hcy⟩
      · by_cases hig : i < g
        · have := hgs.2.2 i hig
          rw [this] at h
          cases h
        · by_cases e : i = g
          · subst e; omega
          · have := hZ.2.2.2.2.2.1 g i (by omega) (by omega)
            omega
      · obtain ⟨j, j1, j2, j3, j4⟩ := bZ_edge hI (by omega) w8 hy
        rw [← j2] at hcy
        have hmin := dG_min hI hb j1 hcy
        have hFj : Fi (bZ beh st) j = b - m := by omega
        have hjA : A ≤ j := by
          by_cases h : j < A
          · rw [a5 j h hFj] at hcy; cases hcy
          · omega
        have hbj := j4 (by omega)
        by_cases e : A = j
        · subst e; omega
        · have := hZ.2.2.2.2.2.2.2.2.1 A j hA0 (by omega) j1
          omega
theorem anc_w (hI : ∀ e, BI beh V st (bfs beh st e) e) (hb : dG beh G st = some b) (hg : g0 beh G st = some g) {m : Nat} (hm : m < b) : 0 < anc (bZ beh st) g m ∧ nxw beh G m (bQ (bZ beh st) (anc (bZ beh st) g (m + 1))) = some (bP (bZ beh st) (anc (bZ beh st) g m) % 8) ∧ beh (bQ (bZ beh st) (anc (bZ beh st) g (m + 1))) (bP (bZ beh st) (anc (bZ beh st) g m) % 8) = some (bQ (bZ beh st) (anc (bZ beh st) g m)) := by
  have hZ := bZ_I hI
  obtain ⟨a1, a2, a3, a4, a5⟩ := anc_ok hI hb hg m (by omega)
  obtain ⟨b1, b2, b3, b4, b5⟩ := anc_ok hI hb hg (m + 1) (by omega)
  rw [anc_s] at *
  generalize hA : anc (bZ beh st) g m = A at *
  have hA0 : 0 < A := by
    by_cases h : A = 0
    · rw [h, hZ.2.2.2.2.2.2.2.2.2.2.2.2.2] at a3; omega
    · omega
  obtain ⟨p1, p2, p3, p4⟩ := hZ.2.2.2.2.2.2.2.1 A hA0 a1
  refine ⟨hA0, ?_, p3⟩
  unfold nxw
  refine (lst_s _ _ _).mpr ⟨by omega, by rw [p3]; exact a4, fun wd hwd => ?_⟩
  cases hy : beh (bQ (bZ beh st) (bP (bZ beh st) A / 8)) wd with
  | none => rfl
  | some y =>
    show cnG beh G m y = false
    cases hcy : cnG beh G m y with
    | false => rfl
    | true =>
      exfalso
      obtain ⟨j, j1, j2, j3, j4⟩ := bZ_edge hI b1 (by omega) hy
      rw [← j2] at hcy
      have hmin := dG_min hI hb j1 hcy
      have hFj : Fi (bZ beh st) j = b - m := by omega
      have hjA : A ≤ j := by
        by_cases h : j < A
        · rw [a5 j h hFj] at hcy; cases hcy
        · omega
      have hbj := j4 (by omega)
      by_cases e : A = j
      · subst e; omega
      · have := hZ.2.2.2.2.2.2.2.2.1 A j hA0 (by omega) j1
        omega
theorem spx_anc (hI : ∀ e, BI beh V st (bfs beh st e) e) (hb : dG beh G st = some b) (hg : g0 beh G st = some g) : ∀ k, k ≤ b → spx beh G b st k = bQ (bZ beh st) (anc (bZ beh st) g (b - k)) := by
  have hZ := bZ_I hI
  intro k
  induction k with
  | zero =>
    intro _
    obtain ⟨a1, a2, a3, a4, a5⟩ := anc_ok hI hb hg b (Nat.le_refl _)
    have h0 : anc (bZ beh st) g b = 0 := by
      by_cases h : anc (bZ beh st) g b = 0
      · exact h
      · have := (hZ.2.2.2.2.2.2.2.1 _ (by omega) a1).2.2.2
        omega
    rw [Nat.sub_zero, h0, hZ.2.2.2.2.2.2.2.2.2.2.2.2.1]
    rfl
  | succ k ih =>
    intro hk
    have ih := ih (by omega)
    obtain ⟨w1, w2, w3⟩ := anc_w hI hb hg (m := b - (k + 1)) (by omega)
    rw [show b - (k + 1) + 1 = b - k by omega] at w2 w3
    show (beh (spx beh G b st k) ((nxw beh G (b - (k + 1)) (spx beh G b st k)).getD 0)).getD 0 = _
    rw [ih, w2]
    show (beh _ (bP (bZ beh st) (anc (bZ beh st) g (b - (k + 1))) % 8)).getD 0 = _
    rw [w3]
    rfl
theorem spw_anc (hI : ∀ e, BI beh V st (bfs beh st e) e) (hb : dG beh G st = some b) (hg : g0 beh G st = some g) {k : Nat} (hk : k < b) : spw beh G b st k = bP (bZ beh st) (anc (bZ beh st) g (b - (k + 1))) % 8 := by
  obtain ⟨w1, w2, w3⟩ := anc_w hI hb hg (m := b - (k + 1)) (by omega)
  rw [show b - (k + 1) + 1 = b - k by omega] at w2
  unfold spw
  rw [spx_anc hI hb hg k (by omega), w2]
  rfl
/-- the words of the first row, as bits -/
def usd (s : Bs) (g : Nat) : Nat → Nat
  | 0 => 0
  | m + 1 => usd s g m ||| 2 ^ (bP s (anc s g m) % 8)
theorem usd_lt (s : Bs) (g : Nat) : ∀ m, usd s g m < 256
  | 0 => by show 0 < 256; decide
  | m + 1 => or_256 (usd_lt s g m) (pw8 (by omega))
theorem usd_tb (s : Bs) (g wd : Nat) : ∀ m, (usd s g m).testBit wd = false → ∀ j, j < m → bP s (anc s g j) % 8 ≠ wd
  | 0, _, j, hj => by omega
  | m + 1, h, j, hj => by
    have h' : (usd s g m ||| 2 ^ (bP s (anc s g m) % 8)).testBit wd = false := h
    rw [or_bit, Bool.or_eq_false_iff] at h'
    by_cases e : j = m
    · subst e
      exact of_decide_eq_false h'.2
    · exact usd_tb s g wd m h'.1 j (by omega)
end PT
variable {xs : Nat → Int32} {Ln d : Nat} {D D' D'' : Dyn} {I I' I'' : Nat → Nat → Int32} {L : Nat → Nat → Int64} {w : Om} {Q : Res → Prop} {ow ow' ow'' ky ky' ky'' ln ln' ln'' a : Nat → Nat}
theorem c_wordOf {beh : Nat → Nat → Option Nat} {V : Nat → Prop} {st b g k : Nat} {G : Nat → Bool} {s : Bs} (hD : DA D ow ky ln) (hI : ∀ e, BI beh V st (bfs beh st e) e) (hb : dG beh G st = some b) (hg : g0 beh G st = some g) (hS : SS I ky ln s) (hx : Ext s (bZ beh st)) (hgs : g < bN s) (h3 : I 29 3 = nI g) (h0 : I 29 0 = nI b) (hb2 : b < 100000) (hk : k < b) : callD xs Ln (d + 1) 58 [.ref 29, .int (nI k)] (mkW D I L) = some (mkW D I L, some (.int (nI (spw beh G b st k)))) := by
  obtain ⟨p3, q3, o3, y3, -, -, b3⟩ := hD 3 (by omega) (by omega)
  have p3' : pF D 29 12 = some (ky 3) := p3
  obtain ⟨c1', c2, c3, c4, c5, c6, c7, c8⟩ := hS
  have hN : bN s ≤ 262144 := by omega
  rw [spw_anc hI hb hg hk]
  refine Ok.eq ?_
  refine semG (lo := [some (.ref 29), some (.int (nI k)), none, none]) rfl rfl (Nat.le_of_ble_eq_true rfl) rfl (show G_X6_wordOfFirst xs Ln _ 0 [some (.ref 29), some (.int (nI k)), none, none] [] _ _ from ?_)
  simp (disch := first | omega | exact c1_int _ | exact c1_none | exact c1_ref _ | exact isRf_ref _ | assumption | exact okRb _ | exact okN1 | exact okN0 | exact rfl) only [N_X6_wordOfFirst_0, N_X6_wordOfFirst_1, N_X6_wordOfFirst_4, N_X6_wordOfFirst_5, N_X6_wordOfFirst_6, N_X6_wordOfFirst_9, N_X6_wordOfFirst_12, N_X6_wordOfFirst_13, N_X6_wordOfFirst_14, N_X6_wordOfFirst_15, N_X6_wordOfFirst_18, N_X6_wordOfFirst_19, N_X6_wordOfFirst_20, N_X6_wordOfFirst_23, N_X6_wordOfFirst_24, N_X6_wordOfFirst_25, N_X6_wordOfFirst_27, N_X6_wordOfFirst_28, N_X6_wordOfFirst_31, N_X6_wordOfFirst_32, N_X6_wordOfFirst_35, N_X6_wordOfFirst_36, N_X6_wordOfFirst_37, N_X6_wordOfFirst_40, N_X6_wordOfFirst_43, N_X6_wordOfFirst_44, N_X6_wordOfFirst_47, N_X6_wordOfFirst_48, N_X6_wordOfFirst_49, N_X6_wordOfFirst_51, N_X6_wordOfFirst_52, N_X6_wordOfFirst_53, N_X6_wordOfFirst_56, N_X6_wordOfFirst_59, N_X6_wordOfFirst_60, N_X6_wordOfFirst_63, N_X6_wordOfFirst_64, N_X6_wordOfFirst_65, N_X6_wordOfFirst_68, N_X6_wordOfFirst_71, N_X6_wordOfFirst_72, N_X6_wordOfFirst_75, N_X6_wordOfFirst_76, N_X6_wordOfFirst_77, N_X6_wordOfFirst_79, N_X6_wordOfFirst_80, N_X6_wordOfFirst_83, N_X6_wordOfFirst_84, if_true, if_false, ite_true, ite_false, not_false_eq_true, not_true_eq_false, isRf_ref, isRf_null, c1_int, c1_ref, c1_null, c1_none, rfv_some, rfv_none, Ok_s, tl_some, tl_none, List.nil_append, b2i_n1, b2i_n0, ↓reduceIte, nI_add, pk_mul, pk_sub, n_leT, n_leF, n_ltT, n_ltF, n_eqT, n_eqF, n_shl1, n_shl, n_shr, nI_and, nI_or, nI_xor, b2i_z, b2i_o, m1_n, n_m1, m1_lt, m1_le, n_lm1, n_em1, nI_m1, and1, and3, and7, and15, and63, and255, Bool.true_eq_false, Bool.false_eq_true, reduceCtorEq, Nat.reduceAdd, Nat.reduceMul, Nat.reduceSub, Nat.reduceDiv, Nat.reduceMod, Nat.reducePow, Nat.zero_add, Nat.one_mul, h0, h3]
  have from_ : ∀ m, m < b → 0 < anc (bZ beh st) g m ∧ anc (bZ beh st) g m < bN s ∧ I (ky 3) (anc (bZ beh st) g m) = nI (bP (bZ beh st) (anc (bZ beh st) g m)) ∧ bP (bZ beh st) (anc (bZ beh st) g m) < 2147483648 := by
    intro m hm
    obtain ⟨a1, a2, -⟩ := anc_ok hI hb hg m (by omega)
    have a3 := (anc_w hI hb hg hm).1
    have h1 : anc (bZ beh st) g m < bN s := by omega
    have h4 := (c7 _ h1).2.2.2 a3
    rw [← hx.2.2.2 _ h1] at h4
    have hZ := bZ_I hI
    have hn := bI_n hZ
    have := (hZ.2.2.2.2.2.2.2.1 _ a3 a1).1
    exact ⟨a3, h1, h4, by omega⟩
  have key : ∀ n m, m + n = b - (k + 1) → G_X6_wordOfFirst xs Ln (d) 26 [some (.ref 29), some (.int (nI k)), some (.int (nI (anc (bZ beh st) g m))), some (.int (nI (b - (m + 1))))] [] (mkW D I L) (fun q => q = (mkW D I L, some (.int (nI (bP (bZ beh st) (anc (bZ beh st) g (b - (k + 1))) % 8))))) := by
    intro n
    induction n with
    | zero =>
      intro m hm
      obtain ⟨f1, f2, f3, f4⟩ := from_ m (by omega)
      rw [N_X6_wordOfFirst_26]
      simp (disch := first | omega | exact c1_int _ | exact c1_none | exact c1_ref _ | exact isRf_ref _ | assumption | exact okRb _ | exact okN1 | exact okN0 | exact rfl) only [N_X6_wordOfFirst_0, N_X6_wordOfFirst_1, N_X6_wordOfFirst_4, N_X6_wordOfFirst_5, N_X6_wordOfFirst_6, N_X6_wordOfFirst_9, N_X6_wordOfFirst_12, N_X6_wordOfFirst_13, N_X6_wordOfFirst_14, N_X6_wordOfFirst_15, N_X6_wordOfFirst_18, N_X6_wordOfFirst_19, N_X6_wordOfFirst_20, N_X6_wordOfFirst_23, N_X6_wordOfFirst_24, N_X6_wordOfFirst_25, N_X6_wordOfFirst_27, N_X6_wordOfFirst_28, N_X6_wordOfFirst_31, N_X6_wordOfFirst_32, N_X6_wordOfFirst_35, N_X6_wordOfFirst_36, N_X6_wordOfFirst_37, N_X6_wordOfFirst_40, N_X6_wordOfFirst_43, N_X6_wordOfFirst_44, N_X6_wordOfFirst_47, N_X6_wordOfFirst_48, N_X6_wordOfFirst_49, N_X6_wordOfFirst_51, N_X6_wordOfFirst_52, N_X6_wordOfFirst_53, N_X6_wordOfFirst_56, N_X6_wordOfFirst_59, N_X6_wordOfFirst_60, N_X6_wordOfFirst_63, N_X6_wordOfFirst_64, N_X6_wordOfFirst_65, N_X6_wordOfFirst_68, N_X6_wordOfFirst_71, N_X6_wordOfFirst_72, N_X6_wordOfFirst_75, N_X6_wordOfFirst_76, N_X6_wordOfFirst_77, N_X6_wordOfFirst_79, N_X6_wordOfFirst_80, N_X6_wordOfFirst_83, N_X6_wordOfFirst_84, if_true, if_false, ite_true, ite_false, not_false_eq_true, not_true_eq_false, isRf_ref, isRf_null, c1_int, c1_ref, c1_null, c1_none, rfv_some, rfv_none, Ok_s, tl_some, tl_none, List.nil_append, b2i_n1, b2i_n0, ↓reduceIte, nI_add, pk_mul, pk_sub, n_leT, n_leF, n_ltT, n_ltF, n_eqT, n_eqF, n_shl1, n_shl, n_shr, nI_and, nI_or, nI_xor, b2i_z, b2i_o, m1_n, n_m1, m1_lt, m1_le, n_lm1, n_em1, nI_m1, and1, and3, and7, and15, and63, and255, Bool.true_eq_false, Bool.false_eq_true, reduceCtorEq, Nat.reduceAdd, Nat.reduceMul, Nat.reduceSub, Nat.reduceDiv, Nat.reduceMod, Nat.reducePow, Nat.zero_add, Nat.one_mul, c1', p3', f3]
      rw [show b - (k + 1) = m by omega]
    | succ n ih =>
      intro m hm
      obtain ⟨f1, f2, f3, f4⟩ := from_ m (by omega)
      have e : b - (m + 1) - 1 = b - (m + 1 + 1) := by omega
      rw [N_X6_wordOfFirst_26]
      simp (disch := first | omega | exact c1_int _ | exact c1_none | exact c1_ref _ | exact isRf_ref _ | assumption | exact okRb _ | exact okN1 | exact okN0 | exact rfl) only [N_X6_wordOfFirst_0, N_X6_wordOfFirst_1, N_X6_wordOfFirst_4, N_X6_wordOfFirst_5, N_X6_wordOfFirst_6, N_X6_wordOfFirst_9, N_X6_wordOfFirst_12, N_X6_wordOfFirst_13, N_X6_wordOfFirst_14, N_X6_wordOfFirst_15, N_X6_wordOfFirst_18, N_X6_wordOfFirst_19, N_X6_wordOfFirst_20, N_X6_wordOfFirst_23, N_X6_wordOfFirst_24, N_X6_wordOfFirst_25, N_X6_wordOfFirst_27, N_X6_wordOfFirst_28, N_X6_wordOfFirst_31, N_X6_wordOfFirst_32, N_X6_wordOfFirst_35, N_X6_wordOfFirst_36, N_X6_wordOfFirst_37, N_X6_wordOfFirst_40, N_X6_wordOfFirst_43, N_X6_wordOfFirst_44, N_X6_wordOfFirst_47, N_X6_wordOfFirst_48, N_X6_wordOfFirst_49, N_X6_wordOfFirst_51, N_X6_wordOfFirst_52, N_X6_wordOfFirst_53, N_X6_wordOfFirst_56, N_X6_wordOfFirst_59, N_X6_wordOfFirst_60, N_X6_wordOfFirst_63, N_X6_wordOfFirst_64, N_X6_wordOfFirst_65, N_X6_wordOfFirst_68, N_X6_wordOfFirst_71, N_X6_wordOfFirst_72, N_X6_wordOfFirst_75, N_X6_wordOfFirst_76, N_X6_wordOfFirst_77, N_X6_wordOfFirst_79, N_X6_wordOfFirst_80, N_X6_wordOfFirst_83, N_X6_wordOfFirst_84, if_true, if_false, ite_true, ite_false, not_false_eq_true, not_true_eq_false, isRf_ref, isRf_null, c1_int, c1_ref, c1_null, c1_none, rfv_some, rfv_none, Ok_s, tl_some, tl_none, List.nil_append, b2i_n1, b2i_n0, ↓reduceIte, nI_add, pk_mul, pk_sub, n_leT, n_leF, n_ltT, n_ltF, n_eqT, n_eqF, n_shl1, n_shl, n_shr, nI_and, nI_or, nI_xor, b2i_z, b2i_o, m1_n, n_m1, m1_lt, m1_le, n_lm1, n_em1, nI_m1, and1, and3, and7, and15, and63, and255, Bool.true_eq_false, Bool.false_eq_true, reduceCtorEq, Nat.reduceAdd, Nat.reduceMul, Nat.reduceSub, Nat.reduceDiv, Nat.reduceMod, Nat.reducePow, Nat.zero_add, Nat.one_mul, c1', p3', f3, e]
      exact ih (m + 1) (by omega)
  have := key (b - (k + 1)) 0 (by omega)
  exact this
theorem c_wordOfN {k b : Int32} (h0 : I 29 0 = b) (hk : k < 0 ∨ b ≤ k) : callD xs Ln (d + 1) 58 [.ref 29, .int k] (mkW D I L) = some (mkW D I L, some (.int m1)) := by
  refine Ok.eq ?_
  refine semG (lo := [some (.ref 29), some (.int k), none, none]) rfl rfl (Nat.le_of_ble_eq_true rfl) rfl (show G_X6_wordOfFirst xs Ln _ 0 [some (.ref 29), some (.int k), none, none] [] _ _ from ?_)
  by_cases e : k < nI 0
  · simp (disch := first | omega | exact c1_int _ | exact c1_none | exact c1_ref _ | exact isRf_ref _ | assumption | exact okRb _ | exact okN1 | exact okN0 | exact rfl) only [N_X6_wordOfFirst_0, N_X6_wordOfFirst_1, N_X6_wordOfFirst_4, N_X6_wordOfFirst_5, N_X6_wordOfFirst_6, N_X6_wordOfFirst_9, N_X6_wordOfFirst_12, N_X6_wordOfFirst_13, N_X6_wordOfFirst_14, N_X6_wordOfFirst_15, N_X6_wordOfFirst_18, N_X6_wordOfFirst_19, N_X6_wordOfFirst_20, N_X6_wordOfFirst_23, N_X6_wordOfFirst_24, N_X6_wordOfFirst_25, N_X6_wordOfFirst_27, N_X6_wordOfFirst_28, N_X6_wordOfFirst_31, N_X6_wordOfFirst_32, N_X6_wordOfFirst_35, N_X6_wordOfFirst_36, N_X6_wordOfFirst_37, N_X6_wordOfFirst_40, N_X6_wordOfFirst_43, N_X6_wordOfFirst_44, N_X6_wordOfFirst_47, N_X6_wordOfFirst_48, N_X6_wordOfFirst_49, N_X6_wordOfFirst_51, N_X6_wordOfFirst_52, N_X6_wordOfFirst_53, N_X6_wordOfFirst_56, N_X6_wordOfFirst_59, N_X6_wordOfFirst_60, N_X6_wordOfFirst_63, N_X6_wordOfFirst_64, N_X6_wordOfFirst_65, N_X6_wordOfFirst_68, N_X6_wordOfFirst_71, N_X6_wordOfFirst_72, N_X6_wordOfFirst_75, N_X6_wordOfFirst_76, N_X6_wordOfFirst_77, N_X6_wordOfFirst_79, N_X6_wordOfFirst_80, N_X6_wordOfFirst_83, N_X6_wordOfFirst_84, if_true, if_false, ite_true, ite_false, not_false_eq_true, not_true_eq_false, isRf_ref, isRf_null, c1_int, c1_ref, c1_null, c1_none, rfv_some, rfv_none, Ok_s, tl_some, tl_none, List.nil_append, b2i_n1, b2i_n0, ↓reduceIte, e]
  · have e2 : ¬ k < b := by
      have := hk.resolve_left e
      rw [Int32.lt_iff_toInt_lt]
      rw [Int32.le_iff_toInt_le] at this
      omega
    simp (disch := first | omega | exact c1_int _ | exact c1_none | exact c1_ref _ | exact isRf_ref _ | assumption | exact okRb _ | exact okN1 | exact okN0 | exact rfl) only [N_X6_wordOfFirst_0, N_X6_wordOfFirst_1, N_X6_wordOfFirst_4, N_X6_wordOfFirst_5, N_X6_wordOfFirst_6, N_X6_wordOfFirst_9, N_X6_wordOfFirst_12, N_X6_wordOfFirst_13, N_X6_wordOfFirst_14, N_X6_wordOfFirst_15, N_X6_wordOfFirst_18, N_X6_wordOfFirst_19, N_X6_wordOfFirst_20, N_X6_wordOfFirst_23, N_X6_wordOfFirst_24, N_X6_wordOfFirst_25, N_X6_wordOfFirst_27, N_X6_wordOfFirst_28, N_X6_wordOfFirst_31, N_X6_wordOfFirst_32, N_X6_wordOfFirst_35, N_X6_wordOfFirst_36, N_X6_wordOfFirst_37, N_X6_wordOfFirst_40, N_X6_wordOfFirst_43, N_X6_wordOfFirst_44, N_X6_wordOfFirst_47, N_X6_wordOfFirst_48, N_X6_wordOfFirst_49, N_X6_wordOfFirst_51, N_X6_wordOfFirst_52, N_X6_wordOfFirst_53, N_X6_wordOfFirst_56, N_X6_wordOfFirst_59, N_X6_wordOfFirst_60, N_X6_wordOfFirst_63, N_X6_wordOfFirst_64, N_X6_wordOfFirst_65, N_X6_wordOfFirst_68, N_X6_wordOfFirst_71, N_X6_wordOfFirst_72, N_X6_wordOfFirst_75, N_X6_wordOfFirst_76, N_X6_wordOfFirst_77, N_X6_wordOfFirst_79, N_X6_wordOfFirst_80, N_X6_wordOfFirst_83, N_X6_wordOfFirst_84, if_true, if_false, ite_true, ite_false, not_false_eq_true, not_true_eq_false, isRf_ref, isRf_null, c1_int, c1_ref, c1_null, c1_none, rfv_some, rfv_none, Ok_s, tl_some, tl_none, List.nil_append, b2i_n1, b2i_n0, ↓reduceIte, e, h0, e2]
theorem c_wordsOf {beh : Nat → Nat → Option Nat} {V : Nat → Prop} {st b g : Nat} {G : Nat → Bool} {s : Bs} (hD : DA D ow ky ln) (hI : ∀ e, BI beh V st (bfs beh st e) e) (hb : dG beh G st = some b) (hg : g0 beh G st = some g) (hS : SS I ky ln s) (hx : Ext s (bZ beh st)) (hgs : g < bN s) (h3 : I 29 3 = nI g) (h0 : I 29 0 = nI b) (hb2 : b < 100000) : callD xs Ln (d + 1) 59 [.ref 29] (mkW D I L) = some (mkW D I L, some (.int (nI (usd (bZ beh st) g b)))) := by
  obtain ⟨p3, q3, o3, y3, -, -, b3⟩ := hD 3 (by omega) (by omega)
  have p3' : pF D 29 12 = some (ky 3) := p3
  obtain ⟨c1', c2, c3, c4, c5, c6, c7, c8⟩ := hS
  have hN : bN s ≤ 262144 := by omega
  refine Ok.eq ?_
  refine semG (lo := [some (.ref 29), none, none, none]) rfl rfl (Nat.le_of_ble_eq_true rfl) rfl (show G_X6_wordsOfFirst xs Ln _ 0 [some (.ref 29), none, none, none] [] _ _ from ?_)
  simp (disch := first | omega | exact c1_int _ | exact c1_none | exact c1_ref _ | exact isRf_ref _ | assumption | exact okRb _ | exact okN1 | exact okN0 | exact rfl) only [N_X6_wordsOfFirst_0, N_X6_wordsOfFirst_1, N_X6_wordsOfFirst_2, N_X6_wordsOfFirst_3, N_X6_wordsOfFirst_6, N_X6_wordsOfFirst_7, N_X6_wordsOfFirst_8, N_X6_wordsOfFirst_10, N_X6_wordsOfFirst_11, N_X6_wordsOfFirst_14, N_X6_wordsOfFirst_17, N_X6_wordsOfFirst_18, N_X6_wordsOfFirst_21, N_X6_wordsOfFirst_22, N_X6_wordsOfFirst_23, N_X6_wordsOfFirst_26, N_X6_wordsOfFirst_29, N_X6_wordsOfFirst_30, N_X6_wordsOfFirst_31, N_X6_wordsOfFirst_32, N_X6_wordsOfFirst_35, N_X6_wordsOfFirst_36, N_X6_wordsOfFirst_37, N_X6_wordsOfFirst_39, N_X6_wordsOfFirst_40, N_X6_wordsOfFirst_41, N_X6_wordsOfFirst_42, N_X6_wordsOfFirst_43, N_X6_wordsOfFirst_44, N_X6_wordsOfFirst_47, N_X6_wordsOfFirst_48, N_X6_wordsOfFirst_49, N_X6_wordsOfFirst_51, N_X6_wordsOfFirst_52, N_X6_wordsOfFirst_53, N_X6_wordsOfFirst_56, N_X6_wordsOfFirst_59, N_X6_wordsOfFirst_60, if_true, if_false, ite_true, ite_false, not_false_eq_true, not_true_eq_false, isRf_ref, isRf_null, c1_int, c1_ref, c1_null, c1_none, rfv_some, rfv_none, Ok_s, tl_some, tl_none, List.nil_append, b2i_n1, b2i_n0, ↓reduceIte, nI_add, pk_mul, pk_sub, n_leT, n_leF, n_ltT, n_ltF, n_eqT, n_eqF, n_shl1, n_shl, n_shr, nI_and, nI_or, nI_xor, b2i_z, b2i_o, m1_n, n_m1, m1_lt, m1_le, n_lm1, n_em1, nI_m1, and1, and3, and7, and15, and63, and255, Bool.true_eq_false, Bool.false_eq_true, reduceCtorEq, Nat.reduceAdd, Nat.reduceMul, Nat.reduceSub, Nat.reduceDiv, Nat.reduceMod, Nat.reducePow, Nat.zero_add, Nat.one_mul, h3]
  refine Lp (n := b) (σ := Unit) (E := fun i _ => G_X6_wordsOfFirst xs Ln (d) 9 [some (.ref 29), some (.int (nI (usd (bZ beh st) g i))), some (.int (nI (anc (bZ beh st) g i))), some (.int (nI i))] [] (mkW D I L) _) (Inv := fun _ _ => True) ?_ ?_ 0 () (by omega) trivial
  · rintro _ _
    rw [N_X6_wordsOfFirst_9]
    simp (disch := first | omega | exact c1_int _ | exact c1_none | exact c1_ref _ | exact isRf_ref _ | assumption | exact okRb _ | exact okN1 | exact okN0 | exact rfl) only [N_X6_wordsOfFirst_0, N_X6_wordsOfFirst_1, N_X6_wordsOfFirst_2, N_X6_wordsOfFirst_3, N_X6_wordsOfFirst_6, N_X6_wordsOfFirst_7, N_X6_wordsOfFirst_8, N_X6_wordsOfFirst_10, N_X6_wordsOfFirst_11, N_X6_wordsOfFirst_14, N_X6_wordsOfFirst_17, N_X6_wordsOfFirst_18, N_X6_wordsOfFirst_21, N_X6_wordsOfFirst_22, N_X6_wordsOfFirst_23, N_X6_wordsOfFirst_26, N_X6_wordsOfFirst_29, N_X6_wordsOfFirst_30, N_X6_wordsOfFirst_31, N_X6_wordsOfFirst_32, N_X6_wordsOfFirst_35, N_X6_wordsOfFirst_36, N_X6_wordsOfFirst_37, N_X6_wordsOfFirst_39, N_X6_wordsOfFirst_40, N_X6_wordsOfFirst_41, N_X6_wordsOfFirst_42, N_X6_wordsOfFirst_43, N_X6_wordsOfFirst_44, N_X6_wordsOfFirst_47, N_X6_wordsOfFirst_48, N_X6_wordsOfFirst_49, N_X6_wordsOfFirst_51, N_X6_wordsOfFirst_52, N_X6_wordsOfFirst_53, N_X6_wordsOfFirst_56, N_X6_wordsOfFirst_59, N_X6_wordsOfFirst_60, if_true, if_false, ite_true, ite_false, not_false_eq_true, not_true_eq_false, isRf_ref, isRf_null, c1_int, c1_ref, c1_null, c1_none, rfv_some, rfv_none, Ok_s, tl_some, tl_none, List.nil_append, b2i_n1, b2i_n0, ↓reduceIte, nI_add, pk_mul, pk_sub, n_leT, n_leF, n_ltT, n_ltF, n_eqT, n_eqF, n_shl1, n_shl, n_shr, nI_and, nI_or, nI_xor, b2i_z, b2i_o, m1_n, n_m1, m1_lt, m1_le, n_lm1, n_em1, nI_m1, and1, and3, and7, and15, and63, and255, Bool.true_eq_false, Bool.false_eq_true, reduceCtorEq, Nat.reduceAdd, Nat.reduceMul, Nat.reduceSub, Nat.reduceDiv, Nat.reduceMod, Nat.reducePow, Nat.zero_add, Nat.one_mul, h0]
  · rintro m _ hm _ ih
    obtain ⟨a1, a2, -⟩ := anc_ok hI hb hg m (by omega)
    have a3 := (anc_w hI hb hg hm).1
    have h1 : anc (bZ beh st) g m < bN s := by omega
    have h4 := (c7 _ h1).2.2.2 a3
    rw [← hx.2.2.2 _ h1] at h4
    have hZ := bZ_I hI
    have hn := bI_n hZ
    have := (hZ.2.2.2.2.2.2.2.1 _ a3 a1).1
    rw [N_X6_wordsOfFirst_9]
    simp (disch := first | omega | exact c1_int _ | exact c1_none | exact c1_ref _ | exact isRf_ref _ | assumption | exact okRb _ | exact okN1 | exact okN0 | exact rfl) only [N_X6_wordsOfFirst_0, N_X6_wordsOfFirst_1, N_X6_wordsOfFirst_2, N_X6_wordsOfFirst_3, N_X6_wordsOfFirst_6, N_X6_wordsOfFirst_7, N_X6_wordsOfFirst_8, N_X6_wordsOfFirst_10, N_X6_wordsOfFirst_11, N_X6_wordsOfFirst_14, N_X6_wordsOfFirst_17, N_X6_wordsOfFirst_18, N_X6_wordsOfFirst_21, N_X6_wordsOfFirst_22, N_X6_wordsOfFirst_23, N_X6_wordsOfFirst_26, N_X6_wordsOfFirst_29, N_X6_wordsOfFirst_30, N_X6_wordsOfFirst_31, N_X6_wordsOfFirst_32, N_X6_wordsOfFirst_35, N_X6_wordsOfFirst_36, N_X6_wordsOfFirst_37, N_X6_wordsOfFirst_39, N_X6_wordsOfFirst_40, N_X6_wordsOfFirst_41, N_X6_wordsOfFirst_42, N_X6_wordsOfFirst_43, N_X6_wordsOfFirst_44, N_X6_wordsOfFirst_47, N_X6_wordsOfFirst_48, N_X6_wordsOfFirst_49, N_X6_wordsOfFirst_51, N_X6_wordsOfFirst_52, N_X6_wordsOfFirst_53, N_X6_wordsOfFirst_56, N_X6_wordsOfFirst_59, N_X6_wordsOfFirst_60, if_true, if_false, ite_true, ite_false, not_false_eq_true, not_true_eq_false, isRf_ref, isRf_null, c1_int, c1_ref, c1_null, c1_none, rfv_some, rfv_none, Ok_s, tl_some, tl_none, List.nil_append, b2i_n1, b2i_n0, ↓reduceIte, nI_add, pk_mul, pk_sub, n_leT, n_leF, n_ltT, n_ltF, n_eqT, n_eqF, n_shl1, n_shl, n_shr, nI_and, nI_or, nI_xor, b2i_z, b2i_o, m1_n, n_m1, m1_lt, m1_le, n_lm1, n_em1, nI_m1, and1, and3, and7, and15, and63, and255, Bool.true_eq_false, Bool.false_eq_true, reduceCtorEq, Nat.reduceAdd, Nat.reduceMul, Nat.reduceSub, Nat.reduceDiv, Nat.reduceMod, Nat.reducePow, Nat.zero_add, Nat.one_mul, h0, c1', p3', h4]
    exact ih () trivial
theorem behW_ne {m wd w' x : Nat} (h : w' ≠ wd) : behW a m (some wd) x w' = behW a m none x w' := by
  unfold behW
  rw [if_neg (fun e => h (Option.some.inj e).symm), if_neg (by simp)]
/-- a word that the first row doesn't use can be left out -/
theorem few_skip {m st b g wd : Nat} {V : Nat → Prop} (hI : ∀ e, BI (behW a m none) V st (bfs (behW a m none) st e) e) (hb : dG (behW a m none) (golA m none) st = some b) (hg : g0 (behW a m none) (golA m none) st = some g) (hu : (usd (bZ (behW a m none) st) g b).testBit wd = false) : fewN a m none (some wd) st = some b := by
  have hno := usd_tb _ g wd b hu
  have sub : ∀ n x, cnG (behW a m (some wd)) (golA m none) n x = true → cnG (behW a m none) (golA m none) n x = true := by
    intro n
    induction n with
    | zero => intro x h; exact h
    | succ n ih =>
      intro x h
      rw [cnG_iff] at h ⊢
      rcases h with h | ⟨w', y, h8, hy, hc⟩
      · exact Or.inl h
      · refine Or.inr ⟨w', y, h8, ?_, ih y hc⟩
        unfold behW at hy ⊢
        split at hy
        · cases hy
        · rw [if_neg (by simp)]; exact hy
  have path : ∀ m', m' ≤ b → cnG (behW a m (some wd)) (golA m none) m' (bQ (bZ (behW a m none) st) (anc (bZ (behW a m none) st) g m')) = true := by
    intro m'
    induction m' with
    | zero => intro _; exact (anc_ok hI hb hg 0 (by omega)).2.2.2.1
    | succ m' ih =>
      intro hm'
      obtain ⟨w1, w2, w3⟩ := anc_w hI hb hg (m := m') (by omega)
      rw [cnG_iff]
      refine Or.inr ⟨bP (bZ (behW a m none) st) (anc (bZ (behW a m none) st) g m') % 8, _, by omega, ?_, ih (by omega)⟩
      rw [behW_ne (hno m' (by omega))]
      exact w3
  have hp := path b (Nat.le_refl _)
  have h0 := spx_anc hI hb hg 0 (by omega)
  rw [Nat.sub_zero] at h0
  rw [← h0] at hp
  have hbs := (lst_s _ _ _).mp hb
  unfold fewN dG
  refine (lst_s _ _ _).mpr ⟨hbs.1, hp, fun j hj => ?_⟩
  cases hc : cnG (behW a m (some wd)) (golA m none) j st with
  | false => rfl
  | true =>
    have := hbs.2.2 j hj
    rw [sub j st hc] at this
    cases this
end Pb6
