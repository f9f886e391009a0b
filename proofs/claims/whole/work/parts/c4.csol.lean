section Pc4
variable {xs : Nat → Int32} {Ln d : Nat} {D D' D'' : Dyn} {I I' I'' : Nat → Nat → Int32} {L : Nat → Nat → Int64} {w : Om} {Q : Res → Prop} {ow ow' ow'' ky ky' ky'' ln ln' ln'' a : Nat → Nat} {o be sr : Nat}
theorem nod_len : ∀ (N : Nat) (l : List Nat), l.Nodup → (∀ e, e ∈ l → e < N) → l.length ≤ N
  | 0, l, _, hb => by
    cases l with
    | nil => simp
    | cons x l => have := hb x List.mem_cons_self; omega
  | N + 1, l, hn, hb => by
    have ih := nod_len N (l.erase N) (hn.erase N) (fun e he => by
      have h1 := List.mem_of_mem_erase he
      have h2 := hb e h1
      have h3 : e ≠ N := by
        rintro rfl
        exact (List.Nodup.not_mem_erase hn) he
      omega)
    have : l.length ≤ (l.erase N).length + 1 := by
      rw [List.length_erase]
      split <;> omega
    omega
/-- what solving needs -/
def SvH (a : Nat → Nat) (D : Dyn) (I : Nat → Nat → Int32) (ow ky ln : Nat → Nat) (o be sr m k : Nat) (sg : Nat → Nat) (n : Nat) (q : Nat → Nat) : Prop := LvO o be sr ∧ OwS ow ∧ DA D ow ky ln ∧ MM ow D I a ∧ 1 ≤ m ∧ m ≤ 3 ∧ I o 0 = nI m ∧ SgR I o sr k sg ∧ (∀ p, p < n → vSt a m (q p) ∧ Rdy I a m (q p % 8)) ∧ (∀ p, p < n → ∀ w y, w < 8 → behA a m (q p) w = some y → ∀ c, c < k → 2 ≤ pcN (y / 8 &&& sg c) 12 → ∃ r, r < n ∧ q r = prS sg y c) ∧ (∀ i j, i < n → j < n → q i = q j → i = j) ∧ n ≤ 32768
theorem SvH.g {m k n : Nat} {sg q : Nat → Nat} (h : SvH a D I ow ky ln o be sr m k sg n q) (hG : GX be (be + 5) o D I ow ky ln D I' ow ky ln) (hj : ∀ j, j ≠ 6 → I' o j = I o j) : SvH a D I' ow ky ln o be sr m k sg n q := by
  obtain ⟨h1, h2, h3, h4, h5, h6, h7, h8, h9, h10, h11, h12⟩ := h
  obtain ⟨f1, f2, f3, hO, hsr, f6, f7, f8, f9, f10, f11, f12, f13, f14⟩ := h1.f
  have ho3 : o = 29 ∨ o = 34 ∨ o = 42 := by rcases h1 with ⟨h, -⟩ | ⟨h, -⟩ <;> omega
  refine ⟨h1, h2, h3, hG.mm h2 (by omega) (by omega) ho3 h4, h5, h6, by rw [hj 0 (by decide)]; exact h7, ⟨by rw [hj 4 (by decide)]; exact h8.1, h8.2.1, fun c hc => ?_⟩, fun p hp => ⟨(h9 p hp).1, hG.rdy h2 (by omega) (by omega) ho3 (h9 p hp).2⟩, h10, h11, h12⟩
  rw [hG.i h2 (by omega) (by omega) f10 f7 f8.symm]
  exact h8.2.2 c hc
theorem c_settle {n i l m k : Nat} {q sg : Nat → Nat} {s : LSt} (H : SvH a D I ow ky ln o be sr m k sg n q) (hR : LRw I ky ln o be n q s) (hC : CL (behA a m) sg k n q l i (fun _ => False) s) (hq : ∀ p, p < n → 2 ≤ pcN (q p / 8) 12) (hi : i < svd s) :
    Ok (callD xs Ln (d + 5) 25 [.ref o, .int (nI (ord' s i))] (mkW D I L)) (fun r => ∃ I' s', r = (mkW D I' L, none) ∧ GX be (be + 5) o D I ow ky ln D I' ow ky ln ∧ (∀ j, j ≠ 6 → I' o j = I o j) ∧ LRw I' ky ln o be n q s' ∧ CL (behA a m) sg k n q (lvl' s (ord' s i)) (i + 1) (fun _ => False) s') := by
  have H' := H
  obtain ⟨hL, hOw, hD, hM, hm1, hm, h0, hS, hV, hcl, hdist, hn⟩ := H
  obtain ⟨f1, f2, f3, hO, hsr, f6, f7, f8, f9, f10, f11, f12, f13, f14⟩ := hL.f
  have hsn : svd s ≤ n := by rw [hC.2.2.2.2.1]; exact cntB_le _ _
  obtain ⟨hpn, hpl, hpb⟩ := hC.2.2.2.1.2.1 i hi
  have hCn := hC.nx hq hi
  have hrn := hC.1.2.1 (ord' s i) hpn
  have hrb := hC.1.1 (ord' s i) hpn
  generalize hpos : ord' s i = pos at *
  have get : ∀ (J : Nat → Nat → Int32), pF D o 10 = some (ky (be + 1)) ∧ pF D o 11 = some (ky (be + 2)) ∧ pF D o 13 = some (ky (be + 4)) ∧ pF D o 14 = some (ky (be + 5)) := by
    intro _
    refine ⟨?_, ?_, ?_, ?_⟩
    · have h := (hD (be + 1) (by omega) (by omega)).1; have := f1 1 (by omega); rw [this.1, this.2.1] at h; exact h
    · have h := (hD (be + 2) (by omega) (by omega)).1; have := f1 2 (by omega); rw [this.1, this.2.1] at h; exact h
    · have h := (hD (be + 4) (by omega) (by omega)).1; have := f1 4 (by omega); rw [this.1, this.2.1] at h; exact h
    · have h := (hD (be + 5) (by omega) (by omega)).1; have := f1 5 (by omega); rw [this.1, this.2.1] at h; exact h
  obtain ⟨p1', p2', p4', p5'⟩ := get I
  have q2 := (hD (be + 2) (by omega) (by omega)).2.1
  have q4 := (hD (be + 4) (by omega) (by omega)).2.1
  have q5 := (hD (be + 5) (by omega) (by omega)).2.1
  have b2 := (hD (be + 2) (by omega) (by omega)).2.2.2.2.2.2
  have b4 := (hD (be + 4) (by omega) (by omega)).2.2.2.2.2.2
  have b5 := (hD (be + 5) (by omega) (by omega)).2.2.2.2.2.2
  have o4 := (hD (be + 4) (by omega) (by omega)).2.2.1
  have nn := fun x y (hx : x < 6) (hy : y < 6) (hxy : x ≠ y) => hD.ne (i := be + x) (j := be + y) (by omega) (by omega) (by omega)
  have nb := fun y (hy : y < 6) (hy0 : 0 < y) => hD.ne (i := be) (j := be + y) (by omega) (by omega) (by omega)
  have m4' := hD.st (i := be + 4) (by omega) f6
  obtain ⟨hE, r6, r2, r3⟩ := hR
  have hln4 : ln (be + 4) = ln (be + 1) := hE.2.2.2.2.1
  have hln2 : ln (be + 2) = ln (be + 1) := hE.2.2.1
  have hln5 : ln (be + 5) = 8 * ln (be + 1) := hE.2.2.2.2.2.1
  have hnl : n ≤ ln (be + 1) := hE.2.1
  obtain ⟨w1, w2, h, w3, w4⟩ := r2 pos hpn
  have hhb := chn_b (N := 8 * n) _ _ w4 hrb
  refine semG (lo := [some (.ref o), some (.int (nI pos)), none, none, none]) rfl rfl (Nat.le_of_ble_eq_true rfl) rfl (show G_X3_settle xs Ln _ 0 [some (.ref o), some (.int (nI pos)), none, none, none] [] _ _ from ?_)
  simp (disch := first | omega | exact c1_int _ | exact c1_none | exact c1_ref _ | exact isRf_ref _ | assumption | exact hO _ _ _ | exact ob23 _ _ _ | exact hsr _ | exact isRf_null | exact okRb _ | exact okN1 | exact okN0 | exact rfl) only [N_X3_settle_0, N_X3_settle_1, N_X3_settle_4, N_X3_settle_5, N_X3_settle_6, N_X3_settle_7, N_X3_settle_8, N_X3_settle_9, N_X3_settle_10, N_X3_settle_13, N_X3_settle_14, N_X3_settle_15, N_X3_settle_16, N_X3_settle_17, N_X3_settle_19, N_X3_settle_20, N_X3_settle_23, N_X3_settle_25, N_X3_settle_26, N_X3_settle_29, N_X3_settle_30, N_X3_settle_33, N_X3_settle_34, N_X3_settle_37, N_X3_settle_38, N_X3_settle_39, N_X3_settle_40, N_X3_settle_41, N_X3_settle_43, N_X3_settle_44, N_X3_settle_47, N_X3_settle_48, N_X3_settle_50, N_X3_settle_51, N_X3_settle_52, N_X3_settle_55, N_X3_settle_56, N_X3_settle_57, N_X3_settle_58, N_X3_settle_61, N_X3_settle_62, N_X3_settle_63, N_X3_settle_66, N_X3_settle_68, N_X3_settle_69, N_X3_settle_72, N_X3_settle_75, if_true, if_false, ite_true, ite_false, not_false_eq_true, not_true_eq_false, isRf_ref, isRf_null, c1_int, c1_ref, c1_null, c1_none, rfv_some, rfv_none, Ok_s, tl_some, tl_none, List.nil_append, b2i_n1, b2i_n0, ↓reduceIte, nI_add, pk_mul, pk_sub, n_leT, n_leF, n_ltT, n_ltF, n_eqT, n_eqF, n_shl1, n_shl, n_shr, nI_and, nI_or, nI_xor, b2i_z, b2i_o, m1_n, n_m1, m1_lt, m1_le, n_lm1, n_em1, nI_m1, and1, and3, and7, and15, and63, and255, Bool.true_eq_false, Bool.false_eq_true, reduceCtorEq, Nat.reduceAdd, Nat.reduceMul, Nat.reduceSub, Nat.reduceDiv, Nat.reduceMod, Nat.reducePow, Nat.zero_add, Nat.one_mul, p4', w3]
  -- detached
  have G1 : GX be (be + 5) o D I ow ky ln D (up2 I (ky (be + 4)) pos (nI 0)) ow ky ln := GX.rf.u (Or.inr (by omega))
  have O1 : ∀ j, j ≠ 6 → up2 I (ky (be + 4)) pos (nI 0) o j = I o j := fun j _ => up2_k _ _ _ _ m4'
  have R1 : LRw (up2 I (ky (be + 4)) pos (nI 0)) ky ln o be n q (lvl' s, ord' s, svd s, fun p => if p = pos then [] else wls s p) := by
    obtain ⟨c1, c2, c3, c4, c5, c6, c7, c8, c9, c10⟩ := hE
    refine ⟨⟨by rw [up2_k _ _ _ _ m4']; exact c1, c2, c3, c4, c5, c6, c7, c8, fun i' hi' => ?_, fun t ht => ?_⟩, by rw [up2_k _ _ _ _ m4']; exact r6, fun p hp => ?_, fun i' hi' => ?_⟩
    · rw [up2_k _ _ _ _ (nn 1 4 (by omega) (by omega) (by omega))]; exact c9 i' hi'
    · rw [up2_k _ _ _ _ (nb 4 (by omega) (by omega))]; exact c10 t ht
    · obtain ⟨x1, x2, h', x3, x4⟩ := r2 p hp
      rw [up2_k _ _ _ _ (nn 2 4 (by omega) (by omega) (by omega)), up2_ro _ _ _ (nn 5 4 (by omega) (by omega) (by omega))]
      refine ⟨x1, x2, ?_⟩
      show ∃ h, _ = nI h ∧ chn (I (ky (be + 5))) h (if p = pos then [] else wls s p)
      by_cases ep : p = pos
      · exact ⟨0, by rw [ep, up2_s], by rw [if_pos ep]; rfl⟩
      · exact ⟨h', by rw [up2_j _ _ _ ep]; exact x3, by rw [if_neg ep]; exact x4⟩
    · rw [up2_k _ _ _ _ (nn 3 4 (by omega) (by omega) (by omega))]; exact r3 i' hi'
  have C1 : chn (up2 I (ky (be + 4)) pos (nI 0) (ky (be + 5))) h (wls s pos) := by rw [up2_ro _ _ _ (nn 5 4 (by omega) (by omega) (by omega))]; exact w4
  have key : ∀ (rem : List Nat) (J : Nat → Nat → Int32) (S : LSt) (j h : Nat) u4, GX be (be + 5) o D I ow ky ln D J ow ky ln → (∀ j, j ≠ 6 → J o j = I o j) → LRw J ky ln o be n q S → CL (behA a m) sg k n q (lvl' s pos) (i + 1) (fun e => e ∈ rem) S → lvl' S pos = lvl' s pos → rem.Nodup → (∀ e, e ∈ rem → e < 8 * n) → chn (J (ky (be + 5))) h rem → j + rem.length ≤ 8 * n → G_X3_settle xs Ln (d + 4) 18 [some (.ref o), some (.int (nI pos)), some (.int (nI h - nI 1)), some (.int (nI j)), u4] [] (mkW D J L) (fun r => ∃ I' s', r = (mkW D I' L, none) ∧ GX be (be + 5) o D I ow ky ln D I' ow ky ln ∧ (∀ j, j ≠ 6 → I' o j = I o j) ∧ LRw I' ky ln o be n q s' ∧ CL (behA a m) sg k n q (lvl' s pos) (i + 1) (fun _ => False) s') := by
    intro rem
    induction rem with
    | nil =>
      intro J S j h u4 g1 g2 g3 g4 g5 g6 g7 g8 g9
      have hh0 : h = 0 := g8
      have e5 : J o 5 = nI n := g3.1.1
      have hfin : ∃ I' s', ((mkW D J L, none) : Res) = (mkW D I' L, none) ∧ GX be (be + 5) o D I ow ky ln D I' ow ky ln ∧ (∀ j, j ≠ 6 → I' o j = I o j) ∧ LRw I' ky ln o be n q s' ∧ CL (behA a m) sg k n q (lvl' s pos) (i + 1) (fun _ => False) s' := ⟨J, S, rfl, g1, g2, g3, g4.pd (fun _ h => h.elim) (fun e _ h => by cases h)⟩
      rw [N_X3_settle_18, hh0, nI_m1z]
      by_cases hj8 : j < n * 8
      · simp (disch := first | omega | exact c1_int _ | exact c1_none | exact c1_ref _ | exact isRf_ref _ | assumption | exact hO _ _ _ | exact ob23 _ _ _ | exact hsr _ | exact isRf_null | exact okRb _ | exact okN1 | exact okN0 | exact rfl) only [N_X3_settle_0, N_X3_settle_1, N_X3_settle_4, N_X3_settle_5, N_X3_settle_6, N_X3_settle_7, N_X3_settle_8, N_X3_settle_9, N_X3_settle_10, N_X3_settle_13, N_X3_settle_14, N_X3_settle_15, N_X3_settle_16, N_X3_settle_17, N_X3_settle_19, N_X3_settle_20, N_X3_settle_23, N_X3_settle_25, N_X3_settle_26, N_X3_settle_29, N_X3_settle_30, N_X3_settle_33, N_X3_settle_34, N_X3_settle_37, N_X3_settle_38, N_X3_settle_39, N_X3_settle_40, N_X3_settle_41, N_X3_settle_43, N_X3_settle_44, N_X3_settle_47, N_X3_settle_48, N_X3_settle_50, N_X3_settle_51, N_X3_settle_52, N_X3_settle_55, N_X3_settle_56, N_X3_settle_57, N_X3_settle_58, N_X3_settle_61, N_X3_settle_62, N_X3_settle_63, N_X3_settle_66, N_X3_settle_68, N_X3_settle_69, N_X3_settle_72, N_X3_settle_75, if_true, if_false, ite_true, ite_false, not_false_eq_true, not_true_eq_false, isRf_ref, isRf_null, c1_int, c1_ref, c1_null, c1_none, rfv_some, rfv_none, Ok_s, tl_some, tl_none, List.nil_append, b2i_n1, b2i_n0, ↓reduceIte, nI_add, pk_mul, pk_sub, n_leT, n_leF, n_ltT, n_ltF, n_eqT, n_eqF, n_shl1, n_shl, n_shr, nI_and, nI_or, nI_xor, b2i_z, b2i_o, m1_n, n_m1, m1_lt, m1_le, n_lm1, n_em1, nI_m1, and1, and3, and7, and15, and63, and255, Bool.true_eq_false, Bool.false_eq_true, reduceCtorEq, Nat.reduceAdd, Nat.reduceMul, Nat.reduceSub, Nat.reduceDiv, Nat.reduceMod, Nat.reducePow, Nat.zero_add, Nat.one_mul, e5]
        exact hfin
      · have : j ≤ 8 * n := by simp at g9; omega
        simp (disch := first | omega | exact c1_int _ | exact c1_none | exact c1_ref _ | exact isRf_ref _ | assumption | exact hO _ _ _ | exact ob23 _ _ _ | exact hsr _ | exact isRf_null | exact okRb _ | exact okN1 | exact okN0 | exact rfl) only [N_X3_settle_0, N_X3_settle_1, N_X3_settle_4, N_X3_settle_5, N_X3_settle_6, N_X3_settle_7, N_X3_settle_8, N_X3_settle_9, N_X3_settle_10, N_X3_settle_13, N_X3_settle_14, N_X3_settle_15, N_X3_settle_16, N_X3_settle_17, N_X3_settle_19, N_X3_settle_20, N_X3_settle_23, N_X3_settle_25, N_X3_settle_26, N_X3_settle_29, N_X3_settle_30, N_X3_settle_33, N_X3_settle_34, N_X3_settle_37, N_X3_settle_38, N_X3_settle_39, N_X3_settle_40, N_X3_settle_41, N_X3_settle_43, N_X3_settle_44, N_X3_settle_47, N_X3_settle_48, N_X3_settle_50, N_X3_settle_51, N_X3_settle_52, N_X3_settle_55, N_X3_settle_56, N_X3_settle_57, N_X3_settle_58, N_X3_settle_61, N_X3_settle_62, N_X3_settle_63, N_X3_settle_66, N_X3_settle_68, N_X3_settle_69, N_X3_settle_72, N_X3_settle_75, if_true, if_false, ite_true, ite_false, not_false_eq_true, not_true_eq_false, isRf_ref, isRf_null, c1_int, c1_ref, c1_null, c1_none, rfv_some, rfv_none, Ok_s, tl_some, tl_none, List.nil_append, b2i_n1, b2i_n0, ↓reduceIte, nI_add, pk_mul, pk_sub, n_leT, n_leF, n_ltT, n_ltF, n_eqT, n_eqF, n_shl1, n_shl, n_shr, nI_and, nI_or, nI_xor, b2i_z, b2i_o, m1_n, n_m1, m1_lt, m1_le, n_lm1, n_em1, nI_m1, and1, and3, and7, and15, and63, and255, Bool.true_eq_false, Bool.false_eq_true, reduceCtorEq, Nat.reduceAdd, Nat.reduceMul, Nat.reduceSub, Nat.reduceDiv, Nat.reduceMod, Nat.reducePow, Nat.zero_add, Nat.one_mul, e5]
        exact hfin
    | cons e rem ih =>
      intro J S j h u4 g1 g2 g3 g4 g5 g6 g7 g8 g9
      obtain ⟨hh, h', g8a, g8b⟩ := g8
      have e5 : J o 5 = nI n := g3.1.1
      have he := g7 e List.mem_cons_self
      have hb' := chn_b (N := 8 * n) _ _ g8b (fun x hx => g7 x (List.mem_cons_of_mem _ hx))
      have hnd := List.nodup_cons.mp g6
      have ek : nI (e + 1) - nI 1 = nI e := by rw [pk_sub (by omega), Nat.add_sub_cancel]
      obtain ⟨v1, v2, -⟩ := g3.2.2.1 (e / 8) (by omega)
      obtain ⟨vp1, vp2, -⟩ := g3.2.2.1 pos hpn
      have hlen : j + 1 + rem.length ≤ 8 * n := by simp only [List.length_cons] at g9; omega
      rw [N_X3_settle_18, hh, ek]
      by_cases hl0 : lvl' S (e / 8) = 0
      · rw [hl0] at v1
        rw [g5] at vp1
        simp (disch := first | omega | exact c1_int _ | exact c1_none | exact c1_ref _ | exact isRf_ref _ | assumption | exact hO _ _ _ | exact ob23 _ _ _ | exact hsr _ | exact isRf_null | exact okRb _ | exact okN1 | exact okN0 | exact rfl) only [N_X3_settle_0, N_X3_settle_1, N_X3_settle_4, N_X3_settle_5, N_X3_settle_6, N_X3_settle_7, N_X3_settle_8, N_X3_settle_9, N_X3_settle_10, N_X3_settle_13, N_X3_settle_14, N_X3_settle_15, N_X3_settle_16, N_X3_settle_17, N_X3_settle_19, N_X3_settle_20, N_X3_settle_23, N_X3_settle_25, N_X3_settle_26, N_X3_settle_29, N_X3_settle_30, N_X3_settle_33, N_X3_settle_34, N_X3_settle_37, N_X3_settle_38, N_X3_settle_39, N_X3_settle_40, N_X3_settle_41, N_X3_settle_43, N_X3_settle_44, N_X3_settle_47, N_X3_settle_48, N_X3_settle_50, N_X3_settle_51, N_X3_settle_52, N_X3_settle_55, N_X3_settle_56, N_X3_settle_57, N_X3_settle_58, N_X3_settle_61, N_X3_settle_62, N_X3_settle_63, N_X3_settle_66, N_X3_settle_68, N_X3_settle_69, N_X3_settle_72, N_X3_settle_75, if_true, if_false, ite_true, ite_false, not_false_eq_true, not_true_eq_false, isRf_ref, isRf_null, c1_int, c1_ref, c1_null, c1_none, rfv_some, rfv_none, Ok_s, tl_some, tl_none, List.nil_append, b2i_n1, b2i_n0, ↓reduceIte, nI_add, pk_mul, pk_sub, n_leT, n_leF, n_ltT, n_ltF, n_eqT, n_eqF, n_shl1, n_shl, n_shr, nI_and, nI_or, nI_xor, b2i_z, b2i_o, m1_n, n_m1, m1_lt, m1_le, n_lm1, n_em1, nI_m1, and1, and3, and7, and15, and63, and255, Bool.true_eq_false, Bool.false_eq_true, reduceCtorEq, Nat.reduceAdd, Nat.reduceMul, Nat.reduceSub, Nat.reduceDiv, Nat.reduceMod, Nat.reducePow, Nat.zero_add, Nat.one_mul, e5, p2', p5', g8a, v1, vp1]
        have H2 := H'.g g1 g2
        obtain ⟨z1, z2, z3, z4, z5, z6, z7, z8, z9, z10, z11, z12⟩ := H2
        refine Ok.mono (c_arrange (d := d) (L := L) z1 z3 z4 z5 z6 z7 z8 g3 z9 g4 he List.mem_cons_self hl0 z10 z11 (by rw [g5] at vp2; omega) z12) ?_
        rintro _ ⟨J2, S2, rfl, y1, y2, y3, y4, y5, y6, y7, y8⟩
        simp (disch := first | omega | exact c1_int _ | exact c1_none | exact c1_ref _ | exact isRf_ref _ | assumption | exact hO _ _ _ | exact ob23 _ _ _ | exact hsr _ | exact isRf_null | exact okRb _ | exact okN1 | exact okN0 | exact rfl) only [N_X3_settle_0, N_X3_settle_1, N_X3_settle_4, N_X3_settle_5, N_X3_settle_6, N_X3_settle_7, N_X3_settle_8, N_X3_settle_9, N_X3_settle_10, N_X3_settle_13, N_X3_settle_14, N_X3_settle_15, N_X3_settle_16, N_X3_settle_17, N_X3_settle_19, N_X3_settle_20, N_X3_settle_23, N_X3_settle_25, N_X3_settle_26, N_X3_settle_29, N_X3_settle_30, N_X3_settle_33, N_X3_settle_34, N_X3_settle_37, N_X3_settle_38, N_X3_settle_39, N_X3_settle_40, N_X3_settle_41, N_X3_settle_43, N_X3_settle_44, N_X3_settle_47, N_X3_settle_48, N_X3_settle_50, N_X3_settle_51, N_X3_settle_52, N_X3_settle_55, N_X3_settle_56, N_X3_settle_57, N_X3_settle_58, N_X3_settle_61, N_X3_settle_62, N_X3_settle_63, N_X3_settle_66, N_X3_settle_68, N_X3_settle_69, N_X3_settle_72, N_X3_settle_75, if_true, if_false, ite_true, ite_false, not_false_eq_true, not_true_eq_false, isRf_ref, isRf_null, c1_int, c1_ref, c1_null, c1_none, rfv_some, rfv_none, Ok_s, tl_some, tl_none, List.nil_append, b2i_n1, b2i_n0, ↓reduceIte, nI_add, pk_mul, pk_sub, n_leT, n_leF, n_ltT, n_ltF, n_eqT, n_eqF, n_shl1, n_shl, n_shr, nI_and, nI_or, nI_xor, b2i_z, b2i_o, m1_n, n_m1, m1_lt, m1_le, n_lm1, n_em1, nI_m1, and1, and3, and7, and15, and63, and255, Bool.true_eq_false, Bool.false_eq_true, reduceCtorEq, Nat.reduceAdd, Nat.reduceMul, Nat.reduceSub, Nat.reduceDiv, Nat.reduceMod, Nat.reducePow, Nat.zero_add, Nat.one_mul]
        refine ih J2 S2 (j + 1) h' _ (g1.tr y1) (fun j hj => by rw [y2 j hj]; exact g2 j hj) y3 (y4.pd (fun e' he' => ⟨List.mem_cons_of_mem _ he', fun e2 => hnd.1 (by rw [← e2]; exact he')⟩) (fun e' _ h1 h2 => ?_)) (by rw [y6 pos hpn (by rw [g5]; exact hpl)]; exact g5) hnd.2 (fun x hx => g7 x (List.mem_cons_of_mem _ hx)) (chn_u y5 _ _ hnd.1 g8b) hlen
        rcases List.mem_cons.mp h1.1 with h3 | h3
        · exact absurd h3 h1.2
        · exact absurd h3 h2
      · simp (disch := first | omega | exact c1_int _ | exact c1_none | exact c1_ref _ | exact isRf_ref _ | assumption | exact hO _ _ _ | exact ob23 _ _ _ | exact hsr _ | exact isRf_null | exact okRb _ | exact okN1 | exact okN0 | exact rfl) only [N_X3_settle_0, N_X3_settle_1, N_X3_settle_4, N_X3_settle_5, N_X3_settle_6, N_X3_settle_7, N_X3_settle_8, N_X3_settle_9, N_X3_settle_10, N_X3_settle_13, N_X3_settle_14, N_X3_settle_15, N_X3_settle_16, N_X3_settle_17, N_X3_settle_19, N_X3_settle_20, N_X3_settle_23, N_X3_settle_25, N_X3_settle_26, N_X3_settle_29, N_X3_settle_30, N_X3_settle_33, N_X3_settle_34, N_X3_settle_37, N_X3_settle_38, N_X3_settle_39, N_X3_settle_40, N_X3_settle_41, N_X3_settle_43, N_X3_settle_44, N_X3_settle_47, N_X3_settle_48, N_X3_settle_50, N_X3_settle_51, N_X3_settle_52, N_X3_settle_55, N_X3_settle_56, N_X3_settle_57, N_X3_settle_58, N_X3_settle_61, N_X3_settle_62, N_X3_settle_63, N_X3_settle_66, N_X3_settle_68, N_X3_settle_69, N_X3_settle_72, N_X3_settle_75, if_true, if_false, ite_true, ite_false, not_false_eq_true, not_true_eq_false, isRf_ref, isRf_null, c1_int, c1_ref, c1_null, c1_none, rfv_some, rfv_none, Ok_s, tl_some, tl_none, List.nil_append, b2i_n1, b2i_n0, ↓reduceIte, nI_add, pk_mul, pk_sub, n_leT, n_leF, n_ltT, n_ltF, n_eqT, n_eqF, n_shl1, n_shl, n_shr, nI_and, nI_or, nI_xor, b2i_z, b2i_o, m1_n, n_m1, m1_lt, m1_le, n_lm1, n_em1, nI_m1, and1, and3, and7, and15, and63, and255, Bool.true_eq_false, Bool.false_eq_true, reduceCtorEq, Nat.reduceAdd, Nat.reduceMul, Nat.reduceSub, Nat.reduceDiv, Nat.reduceMod, Nat.reducePow, Nat.zero_add, Nat.one_mul, e5, p2', p5', g8a, v1]
        refine ih J S (j + 1) h' _ g1 g2 g3 (g4.pd (fun e' he' => List.mem_cons_of_mem _ he') (fun e' _ h1 h2 h3 => ?_)) g5 hnd.2 (fun x hx => g7 x (List.mem_cons_of_mem _ hx)) g8b hlen
        rcases List.mem_cons.mp h1 with h4 | h4
        · rw [h4] at h3; exact absurd h3 hl0
        · exact absurd h4 h2
  exact key (wls s pos) _ _ 0 h none G1 O1 R1 hCn rfl hrn hrb C1 (by have := nod_len (8 * n) _ hrn hrb; omega)
end Pc4
