section P68
variable {xs : Nat → Int32} {Ln d : Nat} {D : Dyn} {I : Nat → Nat → Int32} {L : Nat → Nat → Int64} {w : Om}
/-- how many rows lead to a goal b words away, up to position k -/
noncomputable def wyZ (beh : Nat → Nat → Option Nat) (G : Nat → Bool) (st b : Nat) : Nat → Nat
  | 0 => 0
  | k + 1 => if G (bQ (bZ beh st) k) = true ∧ Fi (bZ beh st) k = b then addS (wyZ beh G st b k) (bM (bZ beh st) (bQ (bZ beh st) k)) else wyZ beh G st b k
theorem wyZ_0 {beh : Nat → Nat → Option Nat} {G : Nat → Bool} {st b : Nat} (k : Nat) : (∀ i, i < k → G (bQ (bZ beh st) i) = false) → wyZ beh G st b k = 0 := by
  induction k with
  | zero => intro _; rfl
  | succ k ih =>
    intro h
    unfold wyZ
    rw [if_neg (by rw [h k (by omega)]; simp)]
    exact ih (fun i hi => h i (by omega))
theorem gk_Z {a : Nat → Nat} {m st : Nat} {t wo : Option Nat} (hI : ∀ e, BI (behW a m wo) (vSt a m) st (bfs (behW a m wo) st e) e) : ∀ k, k ≤ bN (bZ (behW a m wo) st) → gk a m t wo st k = ((lst (fun i => golA m t (bQ (bZ (behW a m wo) st) i)) k).map (Fi (bZ (behW a m wo) st)), match lst (fun i => golA m t (bQ (bZ (behW a m wo) st) i)) k with
    | none => 0
    | some i => wyZ (behW a m wo) (golA m t) st (Fi (bZ (behW a m wo) st) i) k)
  | 0, _ => rfl
  | k + 1, hk => by
    have ih := gk_Z (t := t) hI k (by omega)
    have h1 := bZ_F hI (show k < bN (bZ (behW a m wo) st) by omega)
    have h2 := bZ_M hI (show k < bN (bZ (behW a m wo) st) by omega)
    show (if golA m t (bQ (bfs (behW a m wo) st (8 * k)) k) = true ∧ ((gk a m t wo st k).1 = none ∨ (gk a m t wo st k).1 = some (Fi (bfs (behW a m wo) st (8 * k)) k)) then (some (Fi (bfs (behW a m wo) st (8 * k)) k), addS (gk a m t wo st k).2 (bM (bfs (behW a m wo) st (8 * k)) (bQ (bfs (behW a m wo) st (8 * k)) k))) else gk a m t wo st k) = _
    rw [h2, h1.1, h1.2, ih]
    have hl : lst (fun i => golA m t (bQ (bZ (behW a m wo) st) i)) (k + 1) = match lst (fun i => golA m t (bQ (bZ (behW a m wo) st) i)) k with
      | some i => some i
      | none => if golA m t (bQ (bZ (behW a m wo) st) k) = true then some k else none := rfl
    cases hlk : lst (fun i => golA m t (bQ (bZ (behW a m wo) st) i)) k with
    | none =>
      rw [hlk] at hl
      have hno := (lst_n _ _).mp hlk
      by_cases hg : golA m t (bQ (bZ (behW a m wo) st) k) = true
      · have hl' : lst (fun i => golA m t (bQ (bZ (behW a m wo) st) i)) (k + 1) = some k := by rw [hl]; exact if_pos hg
        rw [hl', if_pos ⟨hg, Or.inl rfl⟩]
        show (some (Fi (bZ (behW a m wo) st) k), addS 0 (bM (bZ (behW a m wo) st) (bQ (bZ (behW a m wo) st) k))) = (some (Fi (bZ (behW a m wo) st) k), if _ then _ else _)
        rw [if_pos ⟨hg, rfl⟩, wyZ_0 k hno]
      · have hl' : lst (fun i => golA m t (bQ (bZ (behW a m wo) st) i)) (k + 1) = none := by rw [hl]; exact if_neg hg
        rw [hl', if_neg (fun h => hg h.1)]
    | some i =>
      rw [hlk] at hl
      have hl' : lst (fun i => golA m t (bQ (bZ (behW a m wo) st) i)) (k + 1) = some i := hl
      rw [hl']
      by_cases hg : golA m t (bQ (bZ (behW a m wo) st) k) = true ∧ Fi (bZ (behW a m wo) st) k = Fi (bZ (behW a m wo) st) i
      · rw [if_pos ⟨hg.1, Or.inr (by show some _ = some _; rw [hg.2])⟩]
        show (some (Fi (bZ (behW a m wo) st) k), addS (wyZ (behW a m wo) (golA m t) st (Fi (bZ (behW a m wo) st) i) k) (bM (bZ (behW a m wo) st) (bQ (bZ (behW a m wo) st) k))) = (some (Fi (bZ (behW a m wo) st) i), if _ then _ else _)
        rw [if_pos hg, hg.2]
      · rw [if_neg]
        · show (some (Fi (bZ (behW a m wo) st) i), wyZ (behW a m wo) (golA m t) st (Fi (bZ (behW a m wo) st) i) k) = (some (Fi (bZ (behW a m wo) st) i), if _ then _ else _)
          rw [if_neg hg]
        · rintro ⟨q1, q2 | q2⟩
          · cases q2
          · have q3 : some (Fi (bZ (behW a m wo) st) i) = some (Fi (bZ (behW a m wo) st) k) := q2
            exact hg ⟨q1, (Option.some.inj q3).symm⟩
noncomputable def fewN (a : Nat → Nat) (m : Nat) (t wo : Option Nat) (st : Nat) : Option Nat := dG (behW a m wo) (golA m t) st
noncomputable def wayN (a : Nat → Nat) (m : Nat) (t wo : Option Nat) (st : Nat) : Nat := match fewN a m t wo st with
  | none => 0
  | some b => wyZ (behW a m wo) (golA m t) st b (bN (bZ (behW a m wo) st))
theorem gk_few {a : Nat → Nat} (hA : AW a) {m st : Nat} {t wo : Option Nat} (hm : 1 ≤ m) (hm3 : m ≤ 3) (hv : vSt a m st) {K : Nat} (hK : bN (bSt a m wo st (8 * K)) = K) : bSt a m wo st (8 * K) = bZ (behW a m wo) st ∧ K = bN (bZ (behW a m wo) st) ∧ (gk a m t wo st K).1 = fewN a m t wo st ∧ (gk a m t wo st K).2 = wayN a m t wo st := by
  have hI := bSt_I (wo := wo) hA hm hm3 hv
  have hz := bZ_K hI hK
  have hz' : bSt a m wo st (8 * K) = bZ (behW a m wo) st := hz.symm
  have hKn : K = bN (bZ (behW a m wo) st) := by rw [← hz']; exact hK.symm
  have hg := gk_Z (t := t) hI K (by rw [← hKn]; exact Nat.le_refl _)
  have hd : fewN a m t wo st = (lst (fun i => golA m t (bQ (bZ (behW a m wo) st) i)) K).map (Fi (bZ (behW a m wo) st)) := by
    unfold fewN
    rw [dG_g0 hI]
    unfold g0
    rw [← hKn]
  refine ⟨hz', hKn, by rw [hg, hd], ?_⟩
  rw [hg]
  unfold wayN
  rw [hd, ← hKn]
  cases lst (fun i => golA m t (bQ (bZ (behW a m wo) st) i)) K <;> rfl
def tOf (v : Int32) : Option Nat := if v = m1 then none else some v.toNatClampNeg
def okT (a : Nat → Nat) (v : Int32) : Bool := decide (v = m1) || inN v (nI (a 4320))
theorem okT_t {a : Nat → Nat} {v : Int32} (hP : a 4320 ≤ 12) (h : okT a v = true) : v = nO (tOf v) ∧ ∀ q, tOf v = some q → q < a 4320 := by
  unfold okT at h
  unfold tOf
  by_cases hv : v = m1
  · rw [if_pos hv]
    exact ⟨hv, fun q h => by cases h⟩
  · rw [if_neg hv]
    rw [decide_eq_false hv, Bool.false_or] at h
    obtain ⟨i, hi, rfl⟩ := inN_t (by omega) h
    rw [n_cl (by omega)]
    exact ⟨rfl, fun q h => by cases h; exact hi⟩
def stA (a : Nat → Nat) (set : Int32) : Nat := 8 * set.toNatClampNeg + a 4327
noncomputable def aFewest (a : Nat → Nat) (mix set to : Int32) : Int32 := if (okSI (a 4320) mix set && okT a to) = true then nO (fewN a mix.toNatClampNeg (tOf to) none (stA a set)) else m1
noncomputable def aWays (a : Nat → Nat) (mix set to : Int32) : Int32 := if (okSI (a 4320) mix set && okT a to) = true then nI (wayN a mix.toNatClampNeg (tOf to) none (stA a set)) else m1
noncomputable def aWithout (a : Nat → Nat) (mix set w : Int32) : Int32 := if (okSI (a 4320) mix set && inN w (nI (a 4321))) = true then nO (fewN a mix.toNatClampNeg none (some w.toNatClampNeg) (stA a set)) else m1
noncomputable def aStands (a : Nat → Nat) (mix set : Int32) : Int32 := if okSI (a 4320) mix set = true then nI (bN (bZ (behW a mix.toNatClampNeg none) (stA a set))) else m1
theorem r_spr {a : Nat → Nat} {v m s : Nat} {t wo : Option Nat} (hK : RK I a) (hA : AW a) (hc : RIc I a v) (hm : 1 ≤ m) (hm3 : m ≤ 3) (hs : s < 4096) (hS : okS (a 4320) m s = true) (ht : ∀ q, t = some q → q < 12) (hwo : ∀ x, wo = some x → x < 8) : Ok (callD xs Ln (d + 104) 227 [.ref 82, .int (nI m), .int (nI s), .int (nO t), .int (nO wo)] (mkW D I L)) (fun q => ∃ I' L', q = (mkW D I' L', none) ∧ QF I I' ∧ Lkd I' a v ∧ RBs I' (bZ (behW a m wo) (8 * s + a 4327)) ∧ I' 82 35 = nO (fewN a m t wo (8 * s + a 4327)) ∧ I' 82 36 = nI (wayN a m t wo (8 * s + a 4327))) := by
  have h8 := hA.2.2.2.2.2.2.2.1
  refine Ok.mono (r_spreads hK hA hc hm hm3 hs hS ht hwo) ?_
  rintro q ⟨I', L', K, rfl, hf, hd, hKf, hR, h35, h36⟩
  have hv0 : vSt a m (8 * s + a 4327) := ⟨by omega, by rw [show (8 * s + a 4327) / 8 = s by omega]; exact hS⟩
  obtain ⟨e1, e2, e3, e4⟩ := gk_few (t := t) hA hm hm3 hv0 hKf
  rw [e1] at hR
  rw [e3] at h35
  rw [e4] at h36
  exact ⟨_, _, rfl, hf, hd, hR, h35, h36⟩
theorem r_fewest {a : Nat → Nat} {v : Nat} {mix set to : Int32} (hK : RK I a) (hA : AW a) (hc : RIc I a v) : Ans xs Ln (d + 105) 230 [.ref 82, .int mix, .int set, .int to] D I L a v (aFewest a mix set to) := by
  have h1 := hA.1
  refine semG (lo := [some (.ref 82), some (.int mix), some (.int set), some (.int to)]) rfl rfl (Nat.le_of_ble_eq_true rfl) rfl (show G_X11_fewest xs Ln _ 0 [some (.ref 82), some (.int mix), some (.int set), some (.int to)] [] _ _ from ?_)
  unfold aFewest
  have hto := r_isTo (xs := xs) (Ln := Ln) (d := d + 101) (D := D) (L := L) (v := to) hK hA
  cases hs : okSI (a 4320) mix set
  · simp (disch := first | omega | exact c1_int _ | exact c1_none | exact c1_ref _ | exact isRf_ref _ | assumption | exact okRb _ | exact okN1 | exact okN0 | exact rfl) only [N_X11_fewest_0, N_X11_fewest_1, N_X11_fewest_2, N_X11_fewest_3, N_X11_fewest_6, N_X11_fewest_9, N_X11_fewest_10, N_X11_fewest_11, N_X11_fewest_14, N_X11_fewest_17, N_X11_fewest_18, N_X11_fewest_19, N_X11_fewest_20, N_X11_fewest_21, N_X11_fewest_22, N_X11_fewest_23, N_X11_fewest_24, N_X11_fewest_27, N_X11_fewest_28, N_X11_fewest_31, if_true, if_false, ite_true, ite_false, not_false_eq_true, not_true_eq_false, isRf_ref, isRf_null, c1_int, c1_ref, c1_null, c1_none, rfv_some, rfv_none, Ok_s, tl_some, tl_none, List.nil_append, b2i_n1, b2i_n0, ↓reduceIte, nI_add, pk_mul, pk_sub, n_leT, n_leF, n_ltT, n_ltF, n_eqT, n_eqF, n_shl1, n_shl, n_shr, nI_and, nI_or, nI_xor, b2i_z, b2i_o, m1_n, n_m1, m1_lt, m1_le, n_lm1, n_em1, nI_m1, and1, and3, and7, and15, and63, and255, Bool.true_eq_false, Bool.false_eq_true, reduceCtorEq, Nat.reduceAdd, Nat.reduceMul, Nat.reduceSub, Nat.reduceDiv, Nat.reduceMod, Nat.reducePow, Nat.zero_add, Nat.one_mul, r_isSet hK hA, hs, Bool.false_and]
    exact ⟨_, _, rfl, QF.rf I, hc⟩
  · cases ht : okT a to
    · have hto' : callD xs Ln (d + 101 + 3) 229 [.ref 82, .int to] (mkW D I L) = some (mkW D I L, some (.int (b2i (okT a to)))) := hto
      rw [ht] at hto'
      simp (disch := first | omega | exact c1_int _ | exact c1_none | exact c1_ref _ | exact isRf_ref _ | assumption | exact okRb _ | exact okN1 | exact okN0 | exact rfl) only [N_X11_fewest_0, N_X11_fewest_1, N_X11_fewest_2, N_X11_fewest_3, N_X11_fewest_6, N_X11_fewest_9, N_X11_fewest_10, N_X11_fewest_11, N_X11_fewest_14, N_X11_fewest_17, N_X11_fewest_18, N_X11_fewest_19, N_X11_fewest_20, N_X11_fewest_21, N_X11_fewest_22, N_X11_fewest_23, N_X11_fewest_24, N_X11_fewest_27, N_X11_fewest_28, N_X11_fewest_31, if_true, if_false, ite_true, ite_false, not_false_eq_true, not_true_eq_false, isRf_ref, isRf_null, c1_int, c1_ref, c1_null, c1_none, rfv_some, rfv_none, Ok_s, tl_some, tl_none, List.nil_append, b2i_n1, b2i_n0, ↓reduceIte, nI_add, pk_mul, pk_sub, n_leT, n_leF, n_ltT, n_ltF, n_eqT, n_eqF, n_shl1, n_shl, n_shr, nI_and, nI_or, nI_xor, b2i_z, b2i_o, m1_n, n_m1, m1_lt, m1_le, n_lm1, n_em1, nI_m1, and1, and3, and7, and15, and63, and255, Bool.true_eq_false, Bool.false_eq_true, reduceCtorEq, Nat.reduceAdd, Nat.reduceMul, Nat.reduceSub, Nat.reduceDiv, Nat.reduceMod, Nat.reducePow, Nat.zero_add, Nat.one_mul, r_isSet hK hA, hs, hto', Bool.true_and]
      exact ⟨_, _, rfl, QF.rf I, hc⟩
    · have hto' : callD xs Ln (d + 101 + 3) 229 [.ref 82, .int to] (mkW D I L) = some (mkW D I L, some (.int (b2i (okT a to)))) := hto
      rw [ht] at hto'
      obtain ⟨m, s, hm, hm3, hs4, rfl, rfl, hS⟩ := okSI_t hs
      obtain ⟨hto2, hto3⟩ := okT_t h1 ht
      simp (disch := first | omega | exact c1_int _ | exact c1_none | exact c1_ref _ | exact isRf_ref _ | assumption | exact okRb _ | exact okN1 | exact okN0 | exact rfl) only [N_X11_fewest_0, N_X11_fewest_1, N_X11_fewest_2, N_X11_fewest_3, N_X11_fewest_6, N_X11_fewest_9, N_X11_fewest_10, N_X11_fewest_11, N_X11_fewest_14, N_X11_fewest_17, N_X11_fewest_18, N_X11_fewest_19, N_X11_fewest_20, N_X11_fewest_21, N_X11_fewest_22, N_X11_fewest_23, N_X11_fewest_24, N_X11_fewest_27, N_X11_fewest_28, N_X11_fewest_31, if_true, if_false, ite_true, ite_false, not_false_eq_true, not_true_eq_false, isRf_ref, isRf_null, c1_int, c1_ref, c1_null, c1_none, rfv_some, rfv_none, Ok_s, tl_some, tl_none, List.nil_append, b2i_n1, b2i_n0, ↓reduceIte, nI_add, pk_mul, pk_sub, n_leT, n_leF, n_ltT, n_ltF, n_eqT, n_eqF, n_shl1, n_shl, n_shr, nI_and, nI_or, nI_xor, b2i_z, b2i_o, m1_n, n_m1, m1_lt, m1_le, n_lm1, n_em1, nI_m1, and1, and3, and7, and15, and63, and255, Bool.true_eq_false, Bool.false_eq_true, reduceCtorEq, Nat.reduceAdd, Nat.reduceMul, Nat.reduceSub, Nat.reduceDiv, Nat.reduceMod, Nat.reducePow, Nat.zero_add, Nat.one_mul, r_isSet hK hA, hs, hto', Bool.true_and, n_cl]
      have := r_spr (xs := xs) (Ln := Ln) (d := d) (D := D) (L := L) (t := tOf to) (wo := none) hK hA hc hm hm3 hs4 hS (fun q hq => by have := hto3 q hq; omega) (fun x hx => by cases hx)
      rw [← hto2, nO_n] at this
      refine Ok.mono this ?_
      rintro q ⟨I', L', rfl, hf, hd, hR, h35, h36⟩
      simp (disch := first | omega | exact c1_int _ | exact c1_none | exact c1_ref _ | exact isRf_ref _ | assumption | exact okRb _ | exact okN1 | exact okN0 | exact rfl) only [N_X11_fewest_0, N_X11_fewest_1, N_X11_fewest_2, N_X11_fewest_3, N_X11_fewest_6, N_X11_fewest_9, N_X11_fewest_10, N_X11_fewest_11, N_X11_fewest_14, N_X11_fewest_17, N_X11_fewest_18, N_X11_fewest_19, N_X11_fewest_20, N_X11_fewest_21, N_X11_fewest_22, N_X11_fewest_23, N_X11_fewest_24, N_X11_fewest_27, N_X11_fewest_28, N_X11_fewest_31, if_true, if_false, ite_true, ite_false, not_false_eq_true, not_true_eq_false, isRf_ref, isRf_null, c1_int, c1_ref, c1_null, c1_none, rfv_some, rfv_none, Ok_s, tl_some, tl_none, List.nil_append, b2i_n1, b2i_n0, ↓reduceIte, nI_add, pk_mul, pk_sub, n_leT, n_leF, n_ltT, n_ltF, n_eqT, n_eqF, n_shl1, n_shl, n_shr, nI_and, nI_or, nI_xor, b2i_z, b2i_o, m1_n, n_m1, m1_lt, m1_le, n_lm1, n_em1, nI_m1, and1, and3, and7, and15, and63, and255, Bool.true_eq_false, Bool.false_eq_true, reduceCtorEq, Nat.reduceAdd, Nat.reduceMul, Nat.reduceSub, Nat.reduceDiv, Nat.reduceMod, Nat.reducePow, Nat.zero_add, Nat.one_mul, h35, stA, n_cl]
      exact ⟨_, _, rfl, hf, hd.2.1⟩
theorem r_ways {a : Nat → Nat} {v : Nat} {mix set to : Int32} (hK : RK I a) (hA : AW a) (hc : RIc I a v) : Ans xs Ln (d + 105) 231 [.ref 82, .int mix, .int set, .int to] D I L a v (aWays a mix set to) := by
  have h1 := hA.1
  refine semG (lo := [some (.ref 82), some (.int mix), some (.int set), some (.int to)]) rfl rfl (Nat.le_of_ble_eq_true rfl) rfl (show G_X11_ways xs Ln _ 0 [some (.ref 82), some (.int mix), some (.int set), some (.int to)] [] _ _ from ?_)
  unfold aWays
  have hto : callD xs Ln (d + 101 + 3) 229 [.ref 82, .int to] (mkW D I L) = some (mkW D I L, some (.int (b2i (okT a to)))) := r_isTo (xs := xs) (Ln := Ln) (d := d + 101) (D := D) (L := L) (v := to) hK hA
  cases hs : okSI (a 4320) mix set
  · simp (disch := first | omega | exact c1_int _ | exact c1_none | exact c1_ref _ | exact isRf_ref _ | assumption | exact okRb _ | exact okN1 | exact okN0 | exact rfl) only [N_X11_ways_0, N_X11_ways_1, N_X11_ways_2, N_X11_ways_3, N_X11_ways_6, N_X11_ways_9, N_X11_ways_10, N_X11_ways_11, N_X11_ways_14, N_X11_ways_17, N_X11_ways_18, N_X11_ways_19, N_X11_ways_20, N_X11_ways_21, N_X11_ways_22, N_X11_ways_23, N_X11_ways_24, N_X11_ways_27, N_X11_ways_28, N_X11_ways_31, if_true, if_false, ite_true, ite_false, not_false_eq_true, not_true_eq_false, isRf_ref, isRf_null, c1_int, c1_ref, c1_null, c1_none, rfv_some, rfv_none, Ok_s, tl_some, tl_none, List.nil_append, b2i_n1, b2i_n0, ↓reduceIte, nI_add, pk_mul, pk_sub, n_leT, n_leF, n_ltT, n_ltF, n_eqT, n_eqF, n_shl1, n_shl, n_shr, nI_and, nI_or, nI_xor, b2i_z, b2i_o, m1_n, n_m1, m1_lt, m1_le, n_lm1, n_em1, nI_m1, and1, and3, and7, and15, and63, and255, Bool.true_eq_false, Bool.false_eq_true, reduceCtorEq, Nat.reduceAdd, Nat.reduceMul, Nat.reduceSub, Nat.reduceDiv, Nat.reduceMod, Nat.reducePow, Nat.zero_add, Nat.one_mul, r_isSet hK hA, hs, Bool.false_and]
    exact ⟨_, _, rfl, QF.rf I, hc⟩
  · cases ht : okT a to
    · rw [ht] at hto
      simp (disch := first | omega | exact c1_int _ | exact c1_none | exact c1_ref _ | exact isRf_ref _ | assumption | exact okRb _ | exact okN1 | exact okN0 | exact rfl) only [N_X11_ways_0, N_X11_ways_1, N_X11_ways_2, N_X11_ways_3, N_X11_ways_6, N_X11_ways_9, N_X11_ways_10, N_X11_ways_11, N_X11_ways_14, N_X11_ways_17, N_X11_ways_18, N_X11_ways_19, N_X11_ways_20, N_X11_ways_21, N_X11_ways_22, N_X11_ways_23, N_X11_ways_24, N_X11_ways_27, N_X11_ways_28, N_X11_ways_31, if_true, if_false, ite_true, ite_false, not_false_eq_true, not_true_eq_false, isRf_ref, isRf_null, c1_int, c1_ref, c1_null, c1_none, rfv_some, rfv_none, Ok_s, tl_some, tl_none, List.nil_append, b2i_n1, b2i_n0, ↓reduceIte, nI_add, pk_mul, pk_sub, n_leT, n_leF, n_ltT, n_ltF, n_eqT, n_eqF, n_shl1, n_shl, n_shr, nI_and, nI_or, nI_xor, b2i_z, b2i_o, m1_n, n_m1, m1_lt, m1_le, n_lm1, n_em1, nI_m1, and1, and3, and7, and15, and63, and255, Bool.true_eq_false, Bool.false_eq_true, reduceCtorEq, Nat.reduceAdd, Nat.reduceMul, Nat.reduceSub, Nat.reduceDiv, Nat.reduceMod, Nat.reducePow, Nat.zero_add, Nat.one_mul, r_isSet hK hA, hs, hto, Bool.true_and]
      exact ⟨_, _, rfl, QF.rf I, hc⟩
    · rw [ht] at hto
      obtain ⟨m, s, hm, hm3, hs4, rfl, rfl, hS⟩ := okSI_t hs
      obtain ⟨hto2, hto3⟩ := okT_t h1 ht
      simp (disch := first | omega | exact c1_int _ | exact c1_none | exact c1_ref _ | exact isRf_ref _ | assumption | exact okRb _ | exact okN1 | exact okN0 | exact rfl) only [N_X11_ways_0, N_X11_ways_1, N_X11_ways_2, N_X11_ways_3, N_X11_ways_6, N_X11_ways_9, N_X11_ways_10, N_X11_ways_11, N_X11_ways_14, N_X11_ways_17, N_X11_ways_18, N_X11_ways_19, N_X11_ways_20, N_X11_ways_21, N_X11_ways_22, N_X11_ways_23, N_X11_ways_24, N_X11_ways_27, N_X11_ways_28, N_X11_ways_31, if_true, if_false, ite_true, ite_false, not_false_eq_true, not_true_eq_false, isRf_ref, isRf_null, c1_int, c1_ref, c1_null, c1_none, rfv_some, rfv_none, Ok_s, tl_some, tl_none, List.nil_append, b2i_n1, b2i_n0, ↓reduceIte, nI_add, pk_mul, pk_sub, n_leT, n_leF, n_ltT, n_ltF, n_eqT, n_eqF, n_shl1, n_shl, n_shr, nI_and, nI_or, nI_xor, b2i_z, b2i_o, m1_n, n_m1, m1_lt, m1_le, n_lm1, n_em1, nI_m1, and1, and3, and7, and15, and63, and255, Bool.true_eq_false, Bool.false_eq_true, reduceCtorEq, Nat.reduceAdd, Nat.reduceMul, Nat.reduceSub, Nat.reduceDiv, Nat.reduceMod, Nat.reducePow, Nat.zero_add, Nat.one_mul, r_isSet hK hA, hs, hto, Bool.true_and, n_cl]
      have := r_spr (xs := xs) (Ln := Ln) (d := d) (D := D) (L := L) (t := tOf to) (wo := none) hK hA hc hm hm3 hs4 hS (fun q hq => by have := hto3 q hq; omega) (fun x hx => by cases hx)
      rw [← hto2, nO_n] at this
      refine Ok.mono this ?_
      rintro q ⟨I', L', rfl, hf, hd, hR, h35, h36⟩
      simp (disch := first | omega | exact c1_int _ | exact c1_none | exact c1_ref _ | exact isRf_ref _ | assumption | exact okRb _ | exact okN1 | exact okN0 | exact rfl) only [N_X11_ways_0, N_X11_ways_1, N_X11_ways_2, N_X11_ways_3, N_X11_ways_6, N_X11_ways_9, N_X11_ways_10, N_X11_ways_11, N_X11_ways_14, N_X11_ways_17, N_X11_ways_18, N_X11_ways_19, N_X11_ways_20, N_X11_ways_21, N_X11_ways_22, N_X11_ways_23, N_X11_ways_24, N_X11_ways_27, N_X11_ways_28, N_X11_ways_31, if_true, if_false, ite_true, ite_false, not_false_eq_true, not_true_eq_false, isRf_ref, isRf_null, c1_int, c1_ref, c1_null, c1_none, rfv_some, rfv_none, Ok_s, tl_some, tl_none, List.nil_append, b2i_n1, b2i_n0, ↓reduceIte, nI_add, pk_mul, pk_sub, n_leT, n_leF, n_ltT, n_ltF, n_eqT, n_eqF, n_shl1, n_shl, n_shr, nI_and, nI_or, nI_xor, b2i_z, b2i_o, m1_n, n_m1, m1_lt, m1_le, n_lm1, n_em1, nI_m1, and1, and3, and7, and15, and63, and255, Bool.true_eq_false, Bool.false_eq_true, reduceCtorEq, Nat.reduceAdd, Nat.reduceMul, Nat.reduceSub, Nat.reduceDiv, Nat.reduceMod, Nat.reducePow, Nat.zero_add, Nat.one_mul, h36, stA, n_cl]
      exact ⟨_, _, rfl, hf, hd.2.1⟩
theorem r_without {a : Nat → Nat} {v : Nat} {mix set wd : Int32} (hK : RK I a) (hA : AW a) (hc : RIc I a v) : Ans xs Ln (d + 105) 235 [.ref 82, .int mix, .int set, .int wd] D I L a v (aWithout a mix set wd) := by
  have h1 := hA.1
  have h2 := hA.2.1
  refine semG (lo := [some (.ref 82), some (.int mix), some (.int set), some (.int wd)]) rfl rfl (Nat.le_of_ble_eq_true rfl) rfl (show G_X11_without xs Ln _ 0 [some (.ref 82), some (.int mix), some (.int set), some (.int wd)] [] _ _ from ?_)
  unfold aWithout
  cases hs : okSI (a 4320) mix set
  · simp (disch := first | omega | exact c1_int _ | exact c1_none | exact c1_ref _ | exact isRf_ref _ | assumption | exact okRb _ | exact okN1 | exact okN0 | exact rfl) only [N_X11_without_0, N_X11_without_1, N_X11_without_2, N_X11_without_3, N_X11_without_6, N_X11_without_9, N_X11_without_10, N_X11_without_11, N_X11_without_14, N_X11_without_17, N_X11_without_18, N_X11_without_19, N_X11_without_20, N_X11_without_21, N_X11_without_22, N_X11_without_23, N_X11_without_24, N_X11_without_27, N_X11_without_28, N_X11_without_31, if_true, if_false, ite_true, ite_false, not_false_eq_true, not_true_eq_false, isRf_ref, isRf_null, c1_int, c1_ref, c1_null, c1_none, rfv_some, rfv_none, Ok_s, tl_some, tl_none, List.nil_append, b2i_n1, b2i_n0, ↓reduceIte, nI_add, pk_mul, pk_sub, n_leT, n_leF, n_ltT, n_ltF, n_eqT, n_eqF, n_shl1, n_shl, n_shr, nI_and, nI_or, nI_xor, b2i_z, b2i_o, m1_n, n_m1, m1_lt, m1_le, n_lm1, n_em1, nI_m1, and1, and3, and7, and15, and63, and255, Bool.true_eq_false, Bool.false_eq_true, reduceCtorEq, Nat.reduceAdd, Nat.reduceMul, Nat.reduceSub, Nat.reduceDiv, Nat.reduceMod, Nat.reducePow, Nat.zero_add, Nat.one_mul, r_isSet hK hA, hs, Bool.false_and]
    exact ⟨_, _, rfl, QF.rf I, hc⟩
  · cases hw : inN wd (nI (a 4321))
    · simp (disch := first | omega | exact c1_int _ | exact c1_none | exact c1_ref _ | exact isRf_ref _ | assumption | exact okRb _ | exact okN1 | exact okN0 | exact rfl) only [N_X11_without_0, N_X11_without_1, N_X11_without_2, N_X11_without_3, N_X11_without_6, N_X11_without_9, N_X11_without_10, N_X11_without_11, N_X11_without_14, N_X11_without_17, N_X11_without_18, N_X11_without_19, N_X11_without_20, N_X11_without_21, N_X11_without_22, N_X11_without_23, N_X11_without_24, N_X11_without_27, N_X11_without_28, N_X11_without_31, if_true, if_false, ite_true, ite_false, not_false_eq_true, not_true_eq_false, isRf_ref, isRf_null, c1_int, c1_ref, c1_null, c1_none, rfv_some, rfv_none, Ok_s, tl_some, tl_none, List.nil_append, b2i_n1, b2i_n0, ↓reduceIte, nI_add, pk_mul, pk_sub, n_leT, n_leF, n_ltT, n_ltF, n_eqT, n_eqF, n_shl1, n_shl, n_shr, nI_and, nI_or, nI_xor, b2i_z, b2i_o, m1_n, n_m1, m1_lt, m1_le, n_lm1, n_em1, nI_m1, and1, and3, and7, and15, and63, and255, Bool.true_eq_false, Bool.false_eq_true, reduceCtorEq, Nat.reduceAdd, Nat.reduceMul, Nat.reduceSub, Nat.reduceDiv, Nat.reduceMod, Nat.reducePow, Nat.zero_add, Nat.one_mul, r_isSet hK hA, hs, r_isWd hK hA, hw, Bool.true_and]
      exact ⟨_, _, rfl, QF.rf I, hc⟩
    · obtain ⟨m, s, hm, hm3, hs4, rfl, rfl, hS⟩ := okSI_t hs
      obtain ⟨wd, hw2, rfl⟩ := inN_t (by omega) hw
      simp (disch := first | omega | exact c1_int _ | exact c1_none | exact c1_ref _ | exact isRf_ref _ | assumption | exact okRb _ | exact okN1 | exact okN0 | exact rfl) only [N_X11_without_0, N_X11_without_1, N_X11_without_2, N_X11_without_3, N_X11_without_6, N_X11_without_9, N_X11_without_10, N_X11_without_11, N_X11_without_14, N_X11_without_17, N_X11_without_18, N_X11_without_19, N_X11_without_20, N_X11_without_21, N_X11_without_22, N_X11_without_23, N_X11_without_24, N_X11_without_27, N_X11_without_28, N_X11_without_31, if_true, if_false, ite_true, ite_false, not_false_eq_true, not_true_eq_false, isRf_ref, isRf_null, c1_int, c1_ref, c1_null, c1_none, rfv_some, rfv_none, Ok_s, tl_some, tl_none, List.nil_append, b2i_n1, b2i_n0, ↓reduceIte, nI_add, pk_mul, pk_sub, n_leT, n_leF, n_ltT, n_ltF, n_eqT, n_eqF, n_shl1, n_shl, n_shr, nI_and, nI_or, nI_xor, b2i_z, b2i_o, m1_n, n_m1, m1_lt, m1_le, n_lm1, n_em1, nI_m1, and1, and3, and7, and15, and63, and255, Bool.true_eq_false, Bool.false_eq_true, reduceCtorEq, Nat.reduceAdd, Nat.reduceMul, Nat.reduceSub, Nat.reduceDiv, Nat.reduceMod, Nat.reducePow, Nat.zero_add, Nat.one_mul, r_isSet hK hA, hs, r_isWd hK hA, hw, Bool.true_and, n_cl]
      have := r_spr (xs := xs) (Ln := Ln) (d := d) (D := D) (L := L) (t := none) (wo := some wd) hK hA hc hm hm3 hs4 hS (fun q hq => by cases hq) (fun x hx => by cases hx; omega)
      rw [nO_n, nO_s] at this
      refine Ok.mono this ?_
      rintro q ⟨I', L', rfl, hf, hd, hR, h35, h36⟩
      simp (disch := first | omega | exact c1_int _ | exact c1_none | exact c1_ref _ | exact isRf_ref _ | assumption | exact okRb _ | exact okN1 | exact okN0 | exact rfl) only [N_X11_without_0, N_X11_without_1, N_X11_without_2, N_X11_without_3, N_X11_without_6, N_X11_without_9, N_X11_without_10, N_X11_without_11, N_X11_without_14, N_X11_without_17, N_X11_without_18, N_X11_without_19, N_X11_without_20, N_X11_without_21, N_X11_without_22, N_X11_without_23, N_X11_without_24, N_X11_without_27, N_X11_without_28, N_X11_without_31, if_true, if_false, ite_true, ite_false, not_false_eq_true, not_true_eq_false, isRf_ref, isRf_null, c1_int, c1_ref, c1_null, c1_none, rfv_some, rfv_none, Ok_s, tl_some, tl_none, List.nil_append, b2i_n1, b2i_n0, ↓reduceIte, nI_add, pk_mul, pk_sub, n_leT, n_leF, n_ltT, n_ltF, n_eqT, n_eqF, n_shl1, n_shl, n_shr, nI_and, nI_or, nI_xor, b2i_z, b2i_o, m1_n, n_m1, m1_lt, m1_le, n_lm1, n_em1, nI_m1, and1, and3, and7, and15, and63, and255, Bool.true_eq_false, Bool.false_eq_true, reduceCtorEq, Nat.reduceAdd, Nat.reduceMul, Nat.reduceSub, Nat.reduceDiv, Nat.reduceMod, Nat.reducePow, Nat.zero_add, Nat.one_mul, h35, stA, n_cl]
      exact ⟨_, _, rfl, hf, hd.2.1⟩
theorem r_stands {a : Nat → Nat} {v : Nat} {mix set : Int32} (hK : RK I a) (hA : AW a) (hc : RIc I a v) : Ans xs Ln (d + 105) 239 [.ref 82, .int mix, .int set] D I L a v (aStands a mix set) := by
  refine semG (lo := [some (.ref 82), some (.int mix), some (.int set)]) rfl rfl (Nat.le_of_ble_eq_true rfl) rfl (show G_X11_stands xs Ln _ 0 [some (.ref 82), some (.int mix), some (.int set)] [] _ _ from ?_)
  unfold aStands
  cases hs : okSI (a 4320) mix set
  · simp (disch := first | omega | exact c1_int _ | exact c1_none | exact c1_ref _ | exact isRf_ref _ | assumption | exact okRb _ | exact okN1 | exact okN0 | exact rfl) only [N_X11_stands_0, N_X11_stands_1, N_X11_stands_2, N_X11_stands_3, N_X11_stands_6, N_X11_stands_9, N_X11_stands_10, N_X11_stands_11, N_X11_stands_12, N_X11_stands_13, N_X11_stands_14, N_X11_stands_15, N_X11_stands_16, N_X11_stands_19, N_X11_stands_20, N_X11_stands_23, if_true, if_false, ite_true, ite_false, not_false_eq_true, not_true_eq_false, isRf_ref, isRf_null, c1_int, c1_ref, c1_null, c1_none, rfv_some, rfv_none, Ok_s, tl_some, tl_none, List.nil_append, b2i_n1, b2i_n0, ↓reduceIte, nI_add, pk_mul, pk_sub, n_leT, n_leF, n_ltT, n_ltF, n_eqT, n_eqF, n_shl1, n_shl, n_shr, nI_and, nI_or, nI_xor, b2i_z, b2i_o, m1_n, n_m1, m1_lt, m1_le, n_lm1, n_em1, nI_m1, and1, and3, and7, and15, and63, and255, Bool.true_eq_false, Bool.false_eq_true, reduceCtorEq, Nat.reduceAdd, Nat.reduceMul, Nat.reduceSub, Nat.reduceDiv, Nat.reduceMod, Nat.reducePow, Nat.zero_add, Nat.one_mul, r_isSet hK hA, hs]
    exact ⟨_, _, rfl, QF.rf I, hc⟩
  · obtain ⟨m, s, hm, hm3, hs4, rfl, rfl, hS⟩ := okSI_t hs
    simp (disch := first | omega | exact c1_int _ | exact c1_none | exact c1_ref _ | exact isRf_ref _ | assumption | exact okRb _ | exact okN1 | exact okN0 | exact rfl) only [N_X11_stands_0, N_X11_stands_1, N_X11_stands_2, N_X11_stands_3, N_X11_stands_6, N_X11_stands_9, N_X11_stands_10, N_X11_stands_11, N_X11_stands_12, N_X11_stands_13, N_X11_stands_14, N_X11_stands_15, N_X11_stands_16, N_X11_stands_19, N_X11_stands_20, N_X11_stands_23, if_true, if_false, ite_true, ite_false, not_false_eq_true, not_true_eq_false, isRf_ref, isRf_null, c1_int, c1_ref, c1_null, c1_none, rfv_some, rfv_none, Ok_s, tl_some, tl_none, List.nil_append, b2i_n1, b2i_n0, ↓reduceIte, nI_add, pk_mul, pk_sub, n_leT, n_leF, n_ltT, n_ltF, n_eqT, n_eqF, n_shl1, n_shl, n_shr, nI_and, nI_or, nI_xor, b2i_z, b2i_o, m1_n, n_m1, m1_lt, m1_le, n_lm1, n_em1, nI_m1, and1, and3, and7, and15, and63, and255, Bool.true_eq_false, Bool.false_eq_true, reduceCtorEq, Nat.reduceAdd, Nat.reduceMul, Nat.reduceSub, Nat.reduceDiv, Nat.reduceMod, Nat.reducePow, Nat.zero_add, Nat.one_mul, r_isSet hK hA, hs, n_cl]
    have := r_spr (xs := xs) (Ln := Ln) (d := d) (D := D) (L := L) (t := none) (wo := none) hK hA hc hm hm3 hs4 hS (fun q hq => by cases hq) (fun x hx => by cases hx)
    rw [nO_n] at this
    refine Ok.mono this ?_
    rintro q ⟨I', L', rfl, hf, hd, hR, h35, h36⟩
    have h34 := hR.2.2.2
    simp (disch := first | omega | exact c1_int _ | exact c1_none | exact c1_ref _ | exact isRf_ref _ | assumption | exact okRb _ | exact okN1 | exact okN0 | exact rfl) only [N_X11_stands_0, N_X11_stands_1, N_X11_stands_2, N_X11_stands_3, N_X11_stands_6, N_X11_stands_9, N_X11_stands_10, N_X11_stands_11, N_X11_stands_12, N_X11_stands_13, N_X11_stands_14, N_X11_stands_15, N_X11_stands_16, N_X11_stands_19, N_X11_stands_20, N_X11_stands_23, if_true, if_false, ite_true, ite_false, not_false_eq_true, not_true_eq_false, isRf_ref, isRf_null, c1_int, c1_ref, c1_null, c1_none, rfv_some, rfv_none, Ok_s, tl_some, tl_none, List.nil_append, b2i_n1, b2i_n0, ↓reduceIte, nI_add, pk_mul, pk_sub, n_leT, n_leF, n_ltT, n_ltF, n_eqT, n_eqF, n_shl1, n_shl, n_shr, nI_and, nI_or, nI_xor, b2i_z, b2i_o, m1_n, n_m1, m1_lt, m1_le, n_lm1, n_em1, nI_m1, and1, and3, and7, and15, and63, and255, Bool.true_eq_false, Bool.false_eq_true, reduceCtorEq, Nat.reduceAdd, Nat.reduceMul, Nat.reduceSub, Nat.reduceDiv, Nat.reduceMod, Nat.reducePow, Nat.zero_add, Nat.one_mul, h34, stA, n_cl]
    exact ⟨_, _, rfl, hf, hd.2.1⟩
end P68
