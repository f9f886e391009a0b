section P71
variable {xs : Nat → Int32} {Ln d : Nat} {D : Dyn} {I : Nat → Nat → Int32} {L : Nat → Nat → Int64} {w : Om}
/-- the numbers on which words, laws and colours rest -/
def mvI (j : Nat) : Prop := j < 140 ∨ j = 4320 ∨ j = 4321 ∨ j = 4326 ∨ 4328 ≤ j
def MvE (a a' : Nat → Nat) : Prop := ∀ j, mvI j → a' j = a j
theorem tkA_c {a a' : Nat → Nat} (h : MvE a a') (t : Nat) : tkA a' t = tkA a t := by
  funext j
  unfold tkA
  rw [h (4328 + t) (by unfold mvI; omega), h (4334 + (400 * t + j)) (by unfold mvI; omega)]
theorem vlA_c {a a' : Nat → Nat} (h : MvE a a') (t : Nat) : vlA a' t = vlA a t := by
  funext j
  unfold vlA
  rw [h (4328 + t) (by unfold mvI; omega), h (6734 + (400 * t + j)) (by unfold mvI; omega)]
theorem clsT_c {a a' : Nat → Nat} (h : MvE a a') (t : Nat) : clsT a' t = clsT a t := by
  unfold clsT
  rw [tkA_c h, vlA_c h, h (4328 + t) (by unfold mvI; omega)]
theorem clsA_c {a a' : Nat → Nat} (h : MvE a a') : clsA a' = clsA a := by
  unfold clsA
  rw [h 4326 (by unfold mvI; omega), clsT_c h]
theorem brA_c {a a' : Nat → Nat} (h : MvE a a') : brA a' = brA a := by
  funext w e
  unfold brA
  rw [clsA_c h]
theorem LwOK_c {a a' : Nat → Nat} (h : MvE a a') (t : Nat) : LwOK a' t = LwOK a t := by
  unfold LwOK
  rw [tkA_c h, vlA_c h, h (4328 + t) (by unfold mvI; omega)]
theorem dbA_c {a a' : Nat → Nat} (h : MvE a a') {w : Nat} (hw : w < 8) (e : Nat) : dbA a' w e = dbA a w e := by
  unfold dbA
  rw [h (12 + 2 * w) (by unfold mvI; omega), h (12 + 2 * w + 1) (by unfold mvI; omega)]
theorem goA_c {a a' : Nat → Nat} (hA : AW a) (h : MvE a a') {k w p : Nat} (hk : k < 2) (hw : w < a 4321) (hp : p < 12) (e : Nat) : goA a' k w e p = goA a k w e p := by
  have hw8 := hA.2.1
  have hh := hA.2.2.2.2.2.2.2.2.2.2.2.1 k w hk hw
  unfold goA
  rw [h (124 + (8 * k + w)) (by unfold mvI; omega), h p (by unfold mvI; omega), h 4320 (by unfold mvI; omega), clsA_c h]
  by_cases h0 : a (124 + (8 * k + w)) = 0
  · rw [if_pos h0, if_pos h0]
  · rw [if_neg h0, if_neg h0, h (28 + 12 * (a (124 + (8 * k + w)) - 1) + p) (by unfold mvI; omega)]
theorem im_c {f g : Nat → Nat} {s : Nat} : ∀ n, (∀ i, i < n → f i = g i) → im f s n = im g s n
  | 0, _ => rfl
  | n + 1, h => by rw [im_s, im_s, im_c n (fun i hi => h i (by omega)), h n (by omega)]
theorem sbN_c {a a' : Nat → Nat} (hA : AW a) (h : MvE a a') {m w : Nat} (hm : 1 ≤ m) (hm3 : m ≤ 3) (hw : w < a 4321) (s e : Nat) : sbN (goA a') m s w e = sbN (goA a) m s w e := by
  unfold sbN
  refine im_c 12 (fun i hi => ?_)
  unfold tgt
  by_cases h3 : m = 3
  · rw [if_pos h3, if_pos h3, goA_c hA h (by omega) hw (by omega)]
  · rw [if_neg h3, if_neg h3, goA_c hA h (by omega) hw hi]
theorem behA_c {a a' : Nat → Nat} (hA : AW a) (h : MvE a a') {m : Nat} (hm : 1 ≤ m) (hm3 : m ≤ 3) : behA a' m = behA a m := by
  have hw8 := hA.2.1
  funext st w
  unfold behA
  rw [h 4321 (by unfold mvI; omega), brA_c h]
  by_cases hw : w < a 4321 ∧ brA a w (st % 8) = false
  · rw [if_pos hw, if_pos hw, sbN_c hA h hm hm3 hw.1, dbA_c h (by omega)]
  · rw [if_neg hw, if_neg hw]
theorem behW_c {a a' : Nat → Nat} (hA : AW a) (h : MvE a a') {m : Nat} (hm : 1 ≤ m) (hm3 : m ≤ 3) (wo : Option Nat) : behW a' m wo = behW a m wo := by
  funext st w
  unfold behW
  rw [behA_c hA h hm hm3]
theorem cpl_c {a a' : Nat → Nat} (h : MvE a a') (c : Nat) : ∀ n, n ≤ 12 → cpl a' c n = cpl a c n
  | 0, _ => rfl
  | n + 1, hn => by
    unfold cpl
    rw [cpl_c h c n (by omega), h n (by unfold mvI; omega)]
theorem anyN_c {p q : Nat → Bool} : ∀ n, (∀ i, i < n → p i = q i) → anyN p n = anyN q n
  | 0, _ => rfl
  | n + 1, h => by
    unfold anyN
    rw [anyN_c n (fun i hi => h i (by omega)), h n (by omega)]
theorem allN_c {p q : Nat → Bool} : ∀ n, (∀ i, i < n → p i = q i) → allN p n = allN q n
  | 0, _ => rfl
  | n + 1, h => by
    unfold allN
    rw [allN_c n (fun i hi => h i (by omega)), h n (by omega)]
theorem ptA_c {a a' : Nat → Nat} (hA : AW a) (h : MvE a a') {w : Nat} (hw : w < a 4321) (st c : Nat) : ptA a' st w c = ptA a st w c := by
  unfold ptA
  rw [sbN_c hA h (by decide) (by decide) hw, h 4320 (by unfold mvI; omega), cpl_c h c _ hA.1]
theorem sgW_c {a a' : Nat → Nat} (hA : AW a) (h : MvE a a') : ∀ n st, sgW a' n st = sgW a n st
  | 0, st => rfl
  | n + 1, st => by
    have hw8 := hA.2.1
    unfold sgW
    rw [sgW_c hA h n st, h 4321 (by unfold mvI; omega), brA_c h]
    congr 1
    refine anyN_c _ (fun w hw => ?_)
    congr 1
    refine allN_c _ (fun c hc => ?_)
    rw [ptA_c hA h hw, dbA_c h (by omega), sgW_c hA h n]
theorem sgA_c {a a' : Nat → Nat} (hA : AW a) (h : MvE a a') (st : Nat) : sgA a' st = sgA a st := by
  unfold sgA
  congr 1
  funext n
  exact sgW_c hA h n st
theorem RLk_c {a a' : Nat → Nat} (hA : AW a) (h : MvE a a') (hL : RLk I a) : RLk I a' := by
  have e1 := h 4321 (by unfold mvI; omega)
  have e0 := h 4320 (by unfold mvI; omega)
  have h1 := hA.1
  refine ⟨?_, ?_⟩
  · intro w e hw he hlt
    rw [e1] at hw
    rw [brA_c h]
    exact hL.1 w e hw he hlt
  · intro k w e p hk hw he hp hlt
    rw [e1] at hw
    rw [e0] at hp
    rw [goA_c hA h hk hw (by omega)]
    exact hL.2 k w e p hk hw he hp hlt
theorem RSi_c {a a' : Nat → Nat} (hA : AW a) (h : MvE a a') (hS : RSi I a) : RSi I a' := by
  intro k hk8 hk
  rw [h 4320 (by unfold mvI; omega)] at hk
  rw [sgA_c hA h]
  exact hS k hk8 hk
theorem RIc_c {a a' : Nat → Nat} {v : Nat} (hA : AW a) (h : MvE a a') (hc : RIc I a v) : RIc I a' v := ⟨hc.1, hc.2.1, hc.2.2.1, fun e => RLk_c hA h (hc.2.2.2.1 e), hc.2.2.2.2.1, fun e => RSi_c hA h (hc.2.2.2.2.2 e)⟩
theorem smN_c {f g : Nat → Nat} : ∀ n, (∀ i, i < n → f i = g i) → smN f n = smN g n
  | 0, _ => rfl
  | n + 1, h => by
    unfold smN
    rw [smN_c n (fun i hi => h i (by omega)), h n (by omega)]
/-- other doors -/
theorem MvE_o (a : Nat → Nat) (e : Nat) : MvE a (up1 a 4327 e) := fun j hj => up1_n _ _ (by unfold mvI at hj; omega)
theorem MvE_o' (a : Nat → Nat) (e : Nat) : MvE (up1 a 4327 e) a := fun j hj => (up1_n _ _ (by unfold mvI at hj; omega)).symm
theorem AW_o {a : Nat → Nat} {e : Nat} (hA : AW a) (he : e < 8) : AW (up1 a 4327 e) := by
  have hn : ∀ j, j ≠ 4327 → up1 a 4327 e j = a j := fun j hj => up1_n _ _ hj
  obtain ⟨h1, h2, h3, h4, h5, h6, h7, h8, h9, h10, h11, h12, h13, h14, h15, h16⟩ := hA
  have n0 := hn 4320 (by decide)
  have n1 := hn 4321 (by decide)
  have n2 := hn 4322 (by decide)
  have n3 := hn 4323 (by decide)
  have n4 := hn 4324 (by decide)
  have n5 := hn 4325 (by decide)
  have n6 := hn 4326 (by decide)
  unfold AW
  rw [n0, n1, n2, n3, n4, n5, n6, up1_s]
  refine ⟨h1, h2, h3, h4, h5, h6, h7, he, ?_, ?_, ?_, ?_, ?_, ?_, ?_, ?_⟩
  · intro p hp
    rw [hn p (by omega)]
    exact h9 p hp
  · intro w hw
    rw [hn _ (by omega), hn _ (by omega)]
    exact h10 w hw
  · intro w p hw hp
    rw [hn _ (by omega)]
    exact h11 w p hw hp
  · intro k w hk hw
    rw [hn _ (by omega)]
    exact h12 k w hk hw
  · intro i hi
    rw [hn _ (by omega), hn _ (by omega)]
    exact h13 i hi
  · intro i hi
    rw [hn _ (by omega)]
    exact h14 i hi
  · intro t ht
    rw [LwOK_c (MvE_o a e)]
    exact h15 t ht
  · rw [← h16]
    exact smN_c 4096 (fun i hi => hn _ (by omega))
theorem RK_o {a : Nat → Nat} {e : Nat} (hK : RK I a) : RK (up2 I 84 4327 (nI e)) (up1 a 4327 e) := by
  obtain ⟨k1, k2, k3, k4⟩ := hK
  refine ⟨fun j hj => ?_, fun j hj => ?_, fun j h1 h2 h3 => ?_, ?_⟩
  · rw [up2_j _ _ _ (by omega), up1_n _ _ (by omega)]; exact k1 j hj
  · rw [up2_j _ _ _ (by omega), up1_n _ _ (by omega)]; exact k2 j hj
  · by_cases hj : j = 4327
    · rw [hj, up2_s, up1_s]
    · rw [up2_j _ _ _ hj, up1_n _ _ hj]; exact k3 j h1 h2 h3
  · rw [up2_j _ _ _ (by decide), up1_n _ _ (by decide)]; exact k4
theorem fewN_c {a a' : Nat → Nat} (hA : AW a) (h : MvE a a') {m : Nat} (hm : 1 ≤ m) (hm3 : m ≤ 3) (t wo : Option Nat) (st : Nat) : fewN a' m t wo st = fewN a m t wo st := by
  unfold fewN
  rw [behW_c hA h hm hm3]
/-- how soon two places meet -/
noncomputable def prN (a : Nat → Nat) (k e x y : Nat) : Option Nat := fewN a (k + 1) none none (8 * (2 ^ x ||| 2 ^ y) + e)
theorem two_ok {a : Nat → Nat} (hA : AW a) {k x y : Nat} (hk : k < 2) (hx : x < a 4320) (hy : y < a 4320) : (2 ^ x ||| 2 ^ y) < 4096 ∧ okS (a 4320) (k + 1) (2 ^ x ||| 2 ^ y) = true := by
  have h1 := hA.1
  have hlt : (2 ^ x ||| 2 ^ y) < 2 ^ a 4320 := Nat.or_lt_two_pow (Nat.pow_lt_pow_right (by decide) hx) (Nat.pow_lt_pow_right (by decide) hy)
  refine ⟨Nat.lt_of_lt_of_le hlt (pw_lt h1), ?_⟩
  unfold okS
  rw [if_neg (by omega)]
  exact decide_eq_true hlt
theorem r_pairOf {a : Nat → Nat} {v k x y e : Nat} (hK : RK I a) (hA : AW a) (hc : RIc I a v) (hk : k < 2) (hx : x < a 4320) (hy : y < a 4320) (he : e < 8) : Ok (callD xs Ln (d + 105) 240 [.ref 82, .int (nI k), .int (nI x), .int (nI y), .int (nI e)] (mkW D I L)) (fun q => ∃ I' L', q = (mkW D I' L', some (.int (nO (prN a k e x y)))) ∧ QF I I' ∧ Lkd I' a v) := by
  have h1 := hA.1
  have h8 := hA.2.2.2.2.2.2.2.1
  have ho := hK.2.2.1 4327 (by decide) (by decide) (by decide)
  obtain ⟨t1, t2⟩ := two_ok hA hk hx hy
  have hK' := RK_o (e := e) hK
  have hA' := AW_o hA he
  have hM := MvE_o a e
  have hc' : RIc (up2 I 84 4327 (nI e)) (up1 a 4327 e) v := by
    refine RIc_c hA hM ?_
    unfold RIc RLk LKb LKg RSi
    rw [up2_ro _ _ _ (show (94 : Nat) ≠ 84 by decide), up2_ro _ _ _ (show (95 : Nat) ≠ 84 by decide), up2_ro _ _ _ (show (101 : Nat) ≠ 84 by decide), up2_ro _ _ _ (show (82 : Nat) ≠ 84 by decide)]
    exact hc
  have hP' : up1 a 4327 e 4320 = a 4320 := up1_n _ _ (by decide)
  refine semG (lo := [some (.ref 82), some (.int (nI k)), some (.int (nI x)), some (.int (nI y)), some (.int (nI e)), none]) rfl rfl (Nat.le_of_ble_eq_true rfl) rfl (show G_X11_pairOf xs Ln _ 0 [some (.ref 82), some (.int (nI k)), some (.int (nI x)), some (.int (nI y)), some (.int (nI e)), none] [] _ _ from ?_)
  simp (disch := first | omega | exact c1_int _ | exact c1_none | exact c1_ref _ | exact isRf_ref _ | assumption | exact okRb _ | exact okN1 | exact okN0 | exact rfl) only [N_X11_pairOf_0, N_X11_pairOf_1, N_X11_pairOf_4, N_X11_pairOf_7, N_X11_pairOf_8, N_X11_pairOf_10, N_X11_pairOf_11, N_X11_pairOf_14, N_X11_pairOf_17, N_X11_pairOf_19, N_X11_pairOf_20, N_X11_pairOf_21, N_X11_pairOf_22, N_X11_pairOf_23, N_X11_pairOf_24, N_X11_pairOf_25, N_X11_pairOf_26, N_X11_pairOf_27, N_X11_pairOf_28, N_X11_pairOf_29, N_X11_pairOf_30, N_X11_pairOf_31, N_X11_pairOf_32, N_X11_pairOf_33, N_X11_pairOf_36, N_X11_pairOf_37, N_X11_pairOf_40, N_X11_pairOf_43, N_X11_pairOf_45, N_X11_pairOf_46, N_X11_pairOf_47, N_X11_pairOf_50, if_true, if_false, ite_true, ite_false, not_false_eq_true, not_true_eq_false, isRf_ref, isRf_null, c1_int, c1_ref, c1_null, c1_none, rfv_some, rfv_none, Ok_s, tl_some, tl_none, List.nil_append, b2i_n1, b2i_n0, ↓reduceIte, nI_add, pk_mul, pk_sub, n_leT, n_leF, n_ltT, n_ltF, n_eqT, n_eqF, n_shl1, n_shl, n_shr, nI_and, nI_or, nI_xor, b2i_z, b2i_o, m1_n, n_m1, m1_lt, m1_le, n_lm1, n_em1, nI_m1, and1, and3, and7, and15, and63, and255, Bool.true_eq_false, Bool.false_eq_true, reduceCtorEq, Nat.reduceAdd, Nat.reduceMul, Nat.reduceSub, Nat.reduceDiv, Nat.reduceMod, Nat.reducePow, Nat.zero_add, Nat.one_mul, ho]
  have hsp := r_spr (xs := xs) (Ln := Ln) (d := d) (D := D) (L := L) (m := k + 1) (t := none) (wo := none) hK' hA' hc' (by omega) (by omega) t1 (by rw [hP']; exact t2) (fun q hq => by cases hq) (fun x hx => by cases hx)
  rw [nO_n] at hsp
  refine Ok.mono hsp ?_
  rintro q ⟨I', L', rfl, hf, hd, hR, h35, h36⟩
  rw [up1_s, fewN_c hA hM (by omega) (by omega)] at h35
  have j35 : up2 I' 84 4327 (nI (a 4327)) 82 35 = nO (prN a k e x y) := by rw [up2_k _ _ _ _ (by decide), h35]; rfl
  simp (disch := first | omega | exact c1_int _ | exact c1_none | exact c1_ref _ | exact isRf_ref _ | assumption | exact okRb _ | exact okN1 | exact okN0 | exact rfl) only [N_X11_pairOf_0, N_X11_pairOf_1, N_X11_pairOf_4, N_X11_pairOf_7, N_X11_pairOf_8, N_X11_pairOf_10, N_X11_pairOf_11, N_X11_pairOf_14, N_X11_pairOf_17, N_X11_pairOf_19, N_X11_pairOf_20, N_X11_pairOf_21, N_X11_pairOf_22, N_X11_pairOf_23, N_X11_pairOf_24, N_X11_pairOf_25, N_X11_pairOf_26, N_X11_pairOf_27, N_X11_pairOf_28, N_X11_pairOf_29, N_X11_pairOf_30, N_X11_pairOf_31, N_X11_pairOf_32, N_X11_pairOf_33, N_X11_pairOf_36, N_X11_pairOf_37, N_X11_pairOf_40, N_X11_pairOf_43, N_X11_pairOf_45, N_X11_pairOf_46, N_X11_pairOf_47, N_X11_pairOf_50, if_true, if_false, ite_true, ite_false, not_false_eq_true, not_true_eq_false, isRf_ref, isRf_null, c1_int, c1_ref, c1_null, c1_none, rfv_some, rfv_none, Ok_s, tl_some, tl_none, List.nil_append, b2i_n1, b2i_n0, ↓reduceIte, nI_add, pk_mul, pk_sub, n_leT, n_leF, n_ltT, n_ltF, n_eqT, n_eqF, n_shl1, n_shl, n_shr, nI_and, nI_or, nI_xor, b2i_z, b2i_o, m1_n, n_m1, m1_lt, m1_le, n_lm1, n_em1, nI_m1, and1, and3, and7, and15, and63, and255, Bool.true_eq_false, Bool.false_eq_true, reduceCtorEq, Nat.reduceAdd, Nat.reduceMul, Nat.reduceSub, Nat.reduceDiv, Nat.reduceMod, Nat.reducePow, Nat.zero_add, Nat.one_mul, j35]
  have e84 : I' 84 = up1 (I 84) 4327 (nI e) := by
    rw [hf.1 84 (by omega)]
    exact up2_rs _ _ _ _
  refine ⟨_, _, rfl, ⟨fun k hk => ?_, fun j hj => ?_⟩, ?_, ?_, ?_, ?_⟩
  · by_cases h84 : k = 84
    · subst h84
      funext j
      by_cases hj : j = 4327
      · rw [hj, up2_s, ho]
      · rw [up2_j _ _ _ hj, e84, up1_n _ _ hj]
    · rw [up2_ro _ _ _ h84, hf.1 k hk, up2_ro _ _ _ h84]
  · rw [up2_k _ _ _ _ (by decide), hf.2 j hj, up2_k _ _ _ _ (by decide)]
  · have h84 : up2 I' 84 4327 (nI (a 4327)) 84 = I 84 := by
      funext j
      by_cases hj : j = 4327
      · rw [hj, up2_s, ho]
      · rw [up2_j _ _ _ hj, e84, up1_n _ _ hj]
    unfold RK
    rw [h84]
    exact hK
  · have := RIc_c hA' (MvE_o' a e) hd.2.1
    unfold RIc RLk LKb LKg RSi
    rw [up2_ro _ _ _ (show (94 : Nat) ≠ 84 by decide), up2_ro _ _ _ (show (95 : Nat) ≠ 84 by decide), up2_ro _ _ _ (show (101 : Nat) ≠ 84 by decide), up2_ro _ _ _ (show (82 : Nat) ≠ 84 by decide)]
    exact this
  · have := RLk_c hA' (MvE_o' a e) hd.2.2.1
    unfold RLk LKb LKg
    rw [up2_ro _ _ _ (show (94 : Nat) ≠ 84 by decide), up2_ro _ _ _ (show (95 : Nat) ≠ 84 by decide)]
    exact this
  · rw [up2_ro _ _ _ (show (82 : Nat) ≠ 84 by decide)]
    exact hd.2.2.2
end P71
