section Pe4
variable {xs : Nat → Int32} {Ln d : Nat} {D D' D'' : Dyn} {I I' I'' : Nat → Nat → Int32} {L : Nat → Nat → Int64} {w : Om} {Q : Res → Prop} {ow ow' ow'' ky ky' ky'' ln ln' ln'' a a' : Nat → Nat} {o be sr : Nat} {A : As} {nn : Nat}
/-- pairs of what is behind were looked at too -/
theorem PE_st {m e0 n st st' wd : Nat} {sg q lev : Nat → Nat} {S : Nat → Bool} (hV : PrV I ky ln a m e0 sg S n q lev) (hA : AW a) (hm1 : 1 ≤ m) (hm : m ≤ 2) (hv : vSt a m st) (hPE : PE n q st) (hw : wd < 8) (hb : behA a m st wd = some st') : PE n q st' := by
  have hst := hv.1
  have hP := hA.1
  obtain ⟨l1, l2, l3, l4, l5, l6, l7, l8⟩ := hV.1
  unfold behA at hb
  split at hb
  · rename_i hc
    cases hb
    have hdl := dbA_lt hA hc.1 (show st % 8 < 8 by omega)
    intro x' y' hxy hx' hy'
    rw [show (8 * sbN (goA a) m (st / 8) wd (st % 8) + dbA a wd (st % 8)) / 8 = sbN (goA a) m (st / 8) wd (st % 8) by omega] at hx' hy'
    rw [show (8 * sbN (goA a) m (st / 8) wd (st % 8) + dbA a wd (st % 8)) % 8 = dbA a wd (st % 8) by omega]
    unfold sbN at hx' hy'
    obtain ⟨x, x1, x2, x3⟩ := im_tb _ _ _ _ hx'
    obtain ⟨y, y1, y2, y3⟩ := im_tb _ _ _ _ hy'
    have bx := okS_bit hv.2 (by omega) x2
    have bY := okS_bit hv.2 (by omega) y2
    rw [if_neg (by omega)] at bx bY
    unfold tgt at x3 y3
    rw [if_neg (by omega)] at x3 y3
    have hne : x ≠ y := by intro h; subst h; rw [x3] at y3; omega
    have key : ∀ u v, u < v → u < a 4320 → v < a 4320 → (st / 8).testBit u = true → (st / 8).testBit v = true → goA a (m - 1) wd (st % 8) u ≠ goA a (m - 1) wd (st % 8) v → ∃ r, r < n ∧ q r = 8 * (2 ^ goA a (m - 1) wd (st % 8) u ||| 2 ^ goA a (m - 1) wd (st % 8) v) + dbA a wd (st % 8) := by
      intro u v huv hu hv' tu tv hgn
      obtain ⟨p, p1, p2⟩ := hPE u v huv tu tv
      have gu := goA_lt hA (k := m - 1) (e := st % 8) (by omega) hc.1 hu
      have gv := goA_lt hA (k := m - 1) (e := st % 8) (by omega) hc.1 hv'
      obtain ⟨t1, t2, t3⟩ := two_v (m := m) (S := fun _ => true) hA hm1 hm gu gv hdl rfl
      have h8 : (8 * (2 ^ goA a (m - 1) wd (st % 8) u ||| 2 ^ goA a (m - 1) wd (st % 8) v) + dbA a wd (st % 8)) / 8 = 2 ^ goA a (m - 1) wd (st % 8) u ||| 2 ^ goA a (m - 1) wd (st % 8) v := by omega
      obtain ⟨r, r1, r2⟩ := l8.2.2.2.1 p p1 wd (8 * (2 ^ goA a (m - 1) wd (st % 8) u ||| 2 ^ goA a (m - 1) wd (st % 8) v) + dbA a wd (st % 8)) hw (by rw [p2, beh_two hA hm1 hm hu hv' (by omega), if_pos hc]) 0 (by omega) (by
        rw [h8, hV.2.1, and_4095 t2, pc_two _ (by omega) _ (by omega) hgn]
        exact Nat.le_refl _)
      rw [pr_4095 hV.2.1 (by omega)] at r2
      exact ⟨r, r1, r2⟩
    by_cases hlt : x < y
    · obtain ⟨r, r1, r2⟩ := key x y hlt bx bY x2 y2 (by omega)
      rw [x3, y3] at r2
      exact ⟨r, r1, r2⟩
    · obtain ⟨r, r1, r2⟩ := key y x (by omega) bY bx y2 x2 (by omega)
      rw [x3, y3, Nat.or_comm] at r2
      exact ⟨r, r1, r2⟩
  · cases hb
/-- the way of a pair, step by step -/
theorem pr_way {k e0 n e x y l : Nat} {sg q lev : Nat → Nat} {S : Nat → Bool} (hV : PrV I ky ln a (k + 1) e0 sg S n q lev) (hA : AW a) (hk : k < 2) (hx : x < a 4320) (hy : y < a 4320) (he : e < 8) (hin : ∃ p, p < n ∧ q p = 8 * (2 ^ x ||| 2 ^ y) + e) (hl : prN a k e x y = some l) : ∀ j, j < l → (∃ p, p < n ∧ q p = spx (behA a (k + 1)) (golA (k + 1) none) l (8 * (2 ^ x ||| 2 ^ y) + e) j) ∧ fwd (behA a (k + 1)) sg 1 (spx (behA a (k + 1)) (golA (k + 1) none) l (8 * (2 ^ x ||| 2 ^ y) + e) j) = some (wdA a k e x y l j) ∧ wdA a k e x y l j < 8 ∧ behA a (k + 1) (spx (behA a (k + 1)) (golA (k + 1) none) l (8 * (2 ^ x ||| 2 ^ y) + e) j) (wdA a k e x y l j) = some (spx (behA a (k + 1)) (golA (k + 1) none) l (8 * (2 ^ x ||| 2 ^ y) + e) (j + 1)) ∧ vSt a (k + 1) (spx (behA a (k + 1)) (golA (k + 1) none) l (8 * (2 ^ x ||| 2 ^ y) + e) j) := by
  obtain ⟨t1, t2, t3⟩ := two_v (m := k + 1) (S := fun _ => true) hA (by omega) (by omega) hx hy he rfl
  obtain ⟨l1, l2, l3, l4, l5, l6, l7, l8⟩ := hV.1
  have hI : ∀ e', BI (behA a (k + 1)) (vSt a (k + 1)) (8 * (2 ^ x ||| 2 ^ y) + e) (bfs (behA a (k + 1)) (8 * (2 ^ x ||| 2 ^ y) + e) e') e' := by
    intro e'
    have := bSt_I (wo := none) hA (show 1 ≤ k + 1 by omega) (show k + 1 ≤ 3 by omega) t1.1 e'
    unfold bSt at this
    rw [behW_n] at this
    exact this
  have hdg : dG (behA a (k + 1)) (golA (k + 1) none) (8 * (2 ^ x ||| 2 ^ y) + e) = some l := by
    have := hl
    unfold prN fewN at this
    rw [behW_n] at this
    exact this
  have hl32 := prN_lt2 hA hk hx hy he hl
  have hZ := bZ_I hI
  generalize hX : (8 * (2 ^ x ||| 2 ^ y) + e) = X at *
  have stp : ∀ j, j < l → fwd (behA a (k + 1)) sg 1 (spx (behA a (k + 1)) (golA (k + 1) none) l X j) = some (wdA a k e x y l j) ∧ wdA a k e x y l j < 8 ∧ behA a (k + 1) (spx (behA a (k + 1)) (golA (k + 1) none) l X j) (wdA a k e x y l j) = some (spx (behA a (k + 1)) (golA (k + 1) none) l X (j + 1)) ∧ vSt a (k + 1) (spx (behA a (k + 1)) (golA (k + 1) none) l X j) ∧ spx (behA a (k + 1)) (golA (k + 1) none) l X j / 8 ≠ 0 := by
    intro j hj
    obtain ⟨i, hi, hxi, hF, hc⟩ := spx_q hI hdg j (by omega)
    obtain ⟨s1, s2, _, _⟩ := spw_s hI hdg hj hi hxi hF
    have hw : wdA a k e x y l j = spw (behA a (k + 1)) (golA (k + 1) none) l X j := by unfold wdA; rw [hX]
    rw [hw, hxi]
    have hvj := hZ.2.1 i hi
    have hne : bQ (bZ (behA a (k + 1)) X) i / 8 ≠ 0 := by
      intro h0
      have h1 := hc
      have : ∀ r x, vSt a (k + 1) x → x / 8 = 0 → cnG (behA a (k + 1)) (golA (k + 1) none) r x = false := by
        intro r
        induction r with
        | zero =>
          intro x hx h0
          show golA (k + 1) none x = false
          rw [golB_s (m := k + 1) (s := x / 8) (t := none) (by have := hx.1; omega) (fun q h => by cases h) x rfl]
          show decide (pcN (all3 (k + 1) (x / 8)) 12 = 1) = false
          unfold all3
          rw [if_neg (by omega), h0]
          decide
        | succ r ih =>
          intro x hx h0
          rw [← Bool.not_eq_true, cnG_iff]
          rintro (hg | ⟨w, y, hw, hy, hc⟩)
          · have := ih x hx h0
            rw [← Bool.not_eq_true] at this
            exact this (by
              cases r with
              | zero => exact hg
              | succ r => exact (cnG_iff _ _ _).mpr (Or.inl hg))
          · have hvy := (beh_v hA (by omega) (by omega) hx hy).1
            have : y / 8 = 0 := by
              unfold behA at hy
              split at hy
              · rename_i hcc
                cases hy
                have hdl := dbA_lt hA hcc.1 (show x % 8 < 8 by omega)
                rw [show (8 * sbN (goA a) (k + 1) (x / 8) w (x % 8) + dbA a w (x % 8)) / 8 = sbN (goA a) (k + 1) (x / 8) w (x % 8) by omega, h0]
                unfold sbN
                apply Nat.eq_of_testBit_eq
                intro i
                rw [Nat.zero_testBit, ← Bool.not_eq_true]
                intro h
                obtain ⟨j, j1, j2, j3⟩ := im_tb _ _ _ _ h
                simp at j2
              · cases hy
            rw [ih y hvy this] at hc
            cases hc
      rw [this _ _ hvj h0] at h1
      cases h1
    have hgv : glv (behA a (k + 1)) sg 1 (bQ (bZ (behA a (k + 1)) X) i) = some (l - j) := by
      unfold glv
      refine (lst_s _ _ _).mpr ⟨by rw [bnd_e]; omega, (gW_cn hA (by omega) (by omega) hV.2.1 _ _ hvj hne).mpr hc, fun N hN => ?_⟩
      rw [← Bool.not_eq_true, gW_cn hA (by omega) (by omega) hV.2.1 _ _ hvj hne]
      intro h
      have := dG_min hI hdg hi h
      omega
    obtain ⟨r, hr⟩ : ∃ r, l - j = r + 1 := ⟨l - j - 1, by omega⟩
    have hr2 : l - (j + 1) = r := by omega
    have hgf : golA (k + 1) none (bQ (bZ (behA a (k + 1)) X) i) = true → False := by
      intro h
      have := dG_min (k := 0) hI hdg hi h
      omega
    have hfw : fwd (behA a (k + 1)) sg 1 (bQ (bZ (behA a (k + 1)) X) i) = nxw (behA a (k + 1)) (golA (k + 1) none) r (bQ (bZ (behA a (k + 1)) X) i) := by
      unfold fwd
      rw [hgv, hr]
      show lst (okw (behA a (k + 1)) sg 1 r (bQ (bZ (behA a (k + 1)) X) i)) 8 = lst _ 8
      refine lst_cg _ (fun w hw => ?_)
      unfold okw
      cases hb : behA a (k + 1) (bQ (bZ (behA a (k + 1)) X) i) w with
      | none => rfl
      | some z =>
        have hvz := (beh_v hA (by omega) (by omega) hvj hb).1
        have hnz := beh_ne2 hA (by omega) (by omega) hvj hne hb
        have hz32 := hvz.1
        show (true && (decide (pcN (z / 8 &&& sg 0) 12 = 0) || gW (behA a (k + 1)) sg 1 r (prS sg z 0))) = cnG (behA a (k + 1)) (golA (k + 1) none) r z
        rw [Bool.true_and, pr_4095 hV.2.1 hz32, hV.2.1, and_4095 (by omega), decide_eq_false (by rw [pc_0 (by omega)]; exact hnz), Bool.false_or]
        exact Bool.eq_iff_iff.mpr (gW_cn hA (by omega) (by omega) hV.2.1 _ _ hvz hnz)
    refine ⟨?_, s1, s2, hvj, hne⟩
    rw [hfw]
    unfold spw
    rw [hr2, hxi]
    rw [hr] at hc
    rcases (cnG_iff _ _ _).mp hc with h | ⟨w, z, w1, w2, w3⟩
    · exact absurd h hgf
    · cases hn : nxw (behA a (k + 1)) (golA (k + 1) none) r (bQ (bZ (behA a (k + 1)) X) i) with
      | some v => rfl
      | none =>
        have := (lst_n _ _).mp hn w w1
        rw [w2] at this
        dsimp only at this
        rw [w3] at this
        cases this
  intro j hj
  refine ⟨?_, (stp j hj).1, (stp j hj).2.1, (stp j hj).2.2.1, (stp j hj).2.2.2.1⟩
  induction j with
  | zero => exact hin
  | succ j ih =>
    obtain ⟨p, p1, p2⟩ := ih (by omega)
    obtain ⟨b1, b2, b3, b4, b5⟩ := stp j (by omega)
    obtain ⟨c1, c2, c3, c4, c5⟩ := stp (j + 1) hj
    have h32 := c4.1
    obtain ⟨r, r1, r2⟩ := l8.2.2.2.1 p p1 _ _ b2 (by rw [p2]; exact b3) 0 (by omega) (by
      rw [hV.2.1, and_4095 (by omega)]
      have hn0 : pcN (spx (behA a (k + 1)) (golA (k + 1) none) l X (j + 1) / 8) 12 ≠ 0 := by rw [Ne, pc_0 (by omega)]; exact c5
      have hn1 : pcN (spx (behA a (k + 1)) (golA (k + 1) none) l X (j + 1) / 8) 12 ≠ 1 := by
        intro h1
        unfold fwd at c1
        rw [glv_1 h1] at c1
        cases c1
      omega)
    rw [pr_4095 hV.2.1 h32] at r2
    exact ⟨r, r1, r2⟩
end Pe4
