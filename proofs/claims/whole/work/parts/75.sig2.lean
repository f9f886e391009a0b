section P75
variable {xs : Nat → Int32} {Ln d : Nat} {D : Dyn} {I : Nat → Nat → Int32} {L : Nat → Nat → Int64} {w : Om}
theorem sgW_up {a : Nat → Nat} {n st : Nat} (h : sgW a n st = true) : ∀ k, sgW a (n + k) st = true
  | 0 => h
  | k + 1 => by
    show (sgW a (n + k) st || _) = true
    rw [sgW_up h k]
    rfl
theorem sgW_le {a : Nat → Nat} {n m st : Nat} (h : sgW a n st = true) (hm : n ≤ m) : sgW a m st = true := by
  have := sgW_up h (m - n)
  rw [show n + (m - n) = m by omega] at this
  exact this
/-- the level, if it is below r -/
def lvl (a : Nat → Nat) (r st : Nat) : Option Nat := lst (fun i => sgW a i st) r
theorem lvl_lt {a : Nat → Nat} {r st u : Nat} (h : lvl a r st = some u) : u < r := ((lst_s _ _ _).mp h).1
theorem lvl_iff {a : Nat → Nat} {r st : Nat} : (∃ u, lvl a (r + 1) st = some u) ↔ sgW a r st = true := by
  constructor
  · rintro ⟨u, h⟩
    obtain ⟨h1, h2, _⟩ := (lst_s _ _ _).mp h
    exact sgW_le h2 (by omega)
  · intro h
    cases hl : lvl a (r + 1) st with
    | none =>
      have := (lst_n _ _).mp hl r (by omega)
      rw [h] at this
      cases this
    | some u => exact ⟨u, rfl⟩
theorem lvl_mono {a : Nat → Nat} {r st u : Nat} (h : lvl a r st = some u) {r' : Nat} (hr : r ≤ r') : lvl a r' st = some u := by
  obtain ⟨h1, h2, h3⟩ := (lst_s _ _ _).mp h
  exact (lst_s _ _ _).mpr ⟨by omega, h2, h3⟩
theorem lvl_s {a : Nat → Nat} {r st : Nat} (h : lvl a r st = none) : lvl a (r + 1) st = if sgW a r st = true then some r else none := by
  show (match lst _ r with
    | some i => some i
    | none => if sgW a r st = true then some r else none) = _
  have h' : lst (fun i => sgW a i st) r = none := h
  rw [h']
def vK (a : Nat → Nat) (k : Nat) : Prop := 8 ≤ k ∧ k < 8 * 2 ^ a 4320
theorem vK_v {a : Nat → Nat} (hA : AW a) {k : Nat} (h : vK a k) : vSt a 1 k := by
  have : 2 ^ a 4320 ≤ 2 ^ 12 := pw_lt hA.1
  refine ⟨by unfold vK at h; omega, ?_⟩
  rw [okS1]
  unfold vK at h
  omega
theorem pt_vK {a : Nat → Nat} (hA : AW a) {st w : Nat} (hv : vSt a 1 st) (hw : w < a 4321) {c : Nat} (h0 : ¬ ptA a st w c = 0) : vK a (8 * ptA a st w c + dbA a w (st % 8)) := by
  have h1 := ptA_lt hA hv hw c
  have h2 := dbA_lt hA hw (show st % 8 < 8 by omega)
  unfold vK
  omega
/-- a level as the words' parts have it -/
theorem sgW_w {a : Nat → Nat} (hA : AW a) {r st : Nat} (hv : vSt a 1 st) {s : Nat → Option Nat} (hs : ∀ k, vK a k → s k = lvl a (r + 1) k ∨ s k = lvl a (r + 2) k) {w : Nat} (hw : w < a 4321) : (!brA a w (st % 8) && allN (fun c => decide (ptA a st w c = 0) || sgW a r (8 * ptA a st w c + dbA a w (st % 8))) 4) = true ↔ ∃ v, svB a s st w = some v ∧ v < r + 1 := by
  rw [Bool.and_eq_true, allN_iff]
  unfold svB
  cases hb : brA a w (st % 8) with
  | true =>
    constructor
    · rintro ⟨h, _⟩; cases h
    · rintro ⟨v, h, _⟩
      rw [if_pos rfl] at h
      cases h
  | false =>
    rw [if_neg (by simp), mxC_iff (by omega)]
    constructor
    · rintro ⟨_, h⟩ c hc
      have := h c hc
      rw [Bool.or_eq_true, decide_eq_true_eq] at this
      rcases this with h0 | h1
      · exact Or.inl h0
      · by_cases h0 : ptA a st w c = 0
        · exact Or.inl h0
        · have hk := pt_vK hA hv hw h0
          obtain ⟨u, hu⟩ := lvl_iff.mpr h1
          refine Or.inr ⟨u, ?_, lvl_lt hu⟩
          rcases hs _ hk with e | e
          · rw [e, hu]
          · rw [e]; exact lvl_mono hu (by omega)
    · intro h
      refine ⟨rfl, fun c hc => ?_⟩
      rw [Bool.or_eq_true, decide_eq_true_eq]
      rcases h c hc with h0 | ⟨u, hu, hur⟩
      · exact Or.inl h0
      · by_cases h0 : ptA a st w c = 0
        · exact Or.inl h0
        · have hk := pt_vK hA hv hw h0
          right
          refine lvl_iff.mp ⟨u, ?_⟩
          rcases hs _ hk with e | e
          · rw [← e, hu]
          · rw [e] at hu
            obtain ⟨h1, h2, h3⟩ := (lst_s _ _ _).mp hu
            exact (lst_s _ _ _).mpr ⟨hur, h2, h3⟩
theorem sgW_s (a : Nat → Nat) (n st : Nat) : sgW a (n + 1) st = (sgW a n st || anyN (fun w => !brA a w (st % 8) && allN (fun c => decide (ptA a st w c = 0) || sgW a n (8 * ptA a st w c + dbA a w (st % 8))) 4) (a 4321)) := id rfl
/-- when a round brings nothing new, no later one does -/
theorem sg_fix {a : Nat → Nat} (hA : AW a) {R : Nat} (h : ∀ k, vK a k → lvl a (R + 2) k = lvl a (R + 1) k) : ∀ n k, vK a k → sgW a (R + n) k = sgW a R k
  | 0, k, _ => rfl
  | n + 1, k, hk => by
    have ih := sg_fix hA h n
    have h1 : sgW a (R + 1) k = sgW a R k := by
      cases hr : sgW a R k with
      | true => exact sgW_le hr (by omega)
      | false =>
        cases hr1 : sgW a (R + 1) k with
        | false => rfl
        | true =>
          obtain ⟨u, hu⟩ := lvl_iff.mpr hr1
          rw [h k hk] at hu
          have := lvl_iff.mp ⟨u, hu⟩
          rw [hr] at this
          cases this
    rw [← h1, show R + (n + 1) = R + n + 1 by omega, sgW_s, sgW_s, ih k hk]
    congr 1
    refine anyN_c _ (fun w hw => ?_)
    congr 1
    refine allN_c _ (fun c hc => ?_)
    by_cases h0 : ptA a k w c = 0
    · rw [decide_eq_true h0]; rfl
    · rw [ih _ (pt_vK hA (vK_v hA hk) hw h0)]
theorem sgA_fix {a : Nat → Nat} (hA : AW a) {R : Nat} (hR : R + 1 ≤ 32769) (h : ∀ k, vK a k → lvl a (R + 2) k = lvl a (R + 1) k) {k : Nat} (hk : vK a k) : sgA a k = lvl a (R + 1) k := by
  have hsg : sgA a k = lvl a bnd k := rfl
  rw [hsg]
  cases hl : lvl a (R + 1) k with
  | some u => exact lvl_mono hl (by rw [bnd_e]; omega)
  | none =>
    apply (lst_n _ _).mpr
    intro i hi
    cases hs : sgW a i k with
    | false => rfl
    | true =>
      exfalso
      by_cases hiR : i ≤ R
      · have := sgW_le hs hiR
        obtain ⟨u, hu⟩ := lvl_iff.mpr this
        rw [hl] at hu
        cases hu
      · have hf := sg_fix hA h (i - R) k hk
        rw [show R + (i - R) = i by omega, hs] at hf
        obtain ⟨u, hu⟩ := lvl_iff.mpr hf.symm
        rw [hl] at hu
        cases hu
def cnL (a : Nat → Nat) (r : Nat) : Nat := cntB (fun k => decide (8 ≤ k) && decide (k < 8 * 2 ^ a 4320) && (lvl a r k).isSome) 32768
theorem cntB_mono {p q : Nat → Bool} (h : ∀ i, p i = true → q i = true) : ∀ n, cntB p n ≤ cntB q n
  | 0 => Nat.le_refl _
  | n + 1 => by
    have ih := cntB_mono h n
    rw [cntB_s, cntB_s]
    cases hp : p n with
    | false => simp; omega
    | true => rw [h n hp]; simp; omega
theorem cntB_mono1 {p q : Nat → Bool} (h : ∀ i, p i = true → q i = true) {t : Nat} (hp : p t = false) (hq : q t = true) : ∀ n, t < n → cntB p n + 1 ≤ cntB q n
  | 0, h => by omega
  | n + 1, htn => by
    rw [cntB_s, cntB_s]
    by_cases hc : t = n
    · subst hc
      have := cntB_mono h t
      rw [hp, hq]
      simp
      omega
    · have ih := cntB_mono1 h hp hq n (by omega)
      cases hpn : p n with
      | false => simp; omega
      | true => rw [h n hpn]; simp; omega
theorem cnL_up {a : Nat → Nat} (hA : AW a) {r k : Nat} (hk : vK a k) (h0 : lvl a r k = none) (h1 : ¬ lvl a (r + 1) k = none) : cnL a r + 1 ≤ cnL a (r + 1) := by
  have hpw : 2 ^ a 4320 ≤ 2 ^ 12 := pw_lt hA.1
  unfold cnL
  refine cntB_mono1 (t := k) ?_ ?_ ?_ 32768 (by unfold vK at hk; omega)
  · intro i hi
    simp only [Bool.and_eq_true, decide_eq_true_eq] at hi ⊢
    refine ⟨hi.1, ?_⟩
    cases hl : lvl a r i with
    | none => rw [hl] at hi; cases hi.2
    | some u => rw [lvl_mono hl (by omega)]; rfl
  · rw [h0]
    simp
  · unfold vK at hk
    cases hl : lvl a (r + 1) k with
    | none => exact absurd hl h1
    | some u => simp [hk.1, hk.2]
/-- the state in the midst of sights() -/
def SgS (I J : Nat → Nat → Int32) (a : Nat → Nat) (v : Nat) : Prop := QF I J ∧ RK J a ∧ RLk J a ∧ J 82 27 = nI v ∧ J 82 1 = nI v ∧ J 82 39 = nI v
theorem SgS.up {I J : Nat → Nat → Int32} {a : Nat → Nat} {v : Nat} (h : SgS I J a v) (k : Nat) (x : Int32) : SgS I (up2 J 101 k x) a v := by
  obtain ⟨h1, h2, h3, h4, h5, h6⟩ := h
  refine ⟨⟨fun q hq => ?_, fun j hj => ?_⟩, ?_, ?_, ?_, ?_, ?_⟩
  · rw [up2_ro _ _ _ (by omega)]; exact h1.1 q hq
  · rw [up2_k _ _ _ _ (by decide)]; exact h1.2 j hj
  · unfold RK; rw [up2_ro _ _ _ (by decide)]; exact h2
  · unfold RLk LKb LKg; rw [up2_ro _ _ _ (show (94 : Nat) ≠ 101 by decide), up2_ro _ _ _ (show (95 : Nat) ≠ 101 by decide)]; exact h3
  · rw [up2_k _ _ _ _ (by decide)]; exact h4
  · rw [up2_k _ _ _ _ (by decide)]; exact h5
  · rw [up2_k _ _ _ _ (by decide)]; exact h6
def bwS (a : Nat → Nat) (s : Nat → Option Nat) (r k w : Nat) : Bool := match svB a s k w with
  | none => false
  | some v => decide (v < r + 1)
/-- sights(), one round -/
theorem r_sigR {a : Nat → Nat} {v r : Nat} {L1 : Nat → Nat → Int64} {Q : Res → Prop} (hA : AW a) (hr : r < 32769)
    (hQ : ∀ J mr u4 u5 u6 u7, SgS I J a v → (∀ k, vK a k → J 101 k = nO (lvl a (r + 2) k)) → (mr = true → cnL a (r + 1) + 1 ≤ cnL a (r + 2)) → (mr = false → ∀ k, vK a k → lvl a (r + 2) k = lvl a (r + 1) k) → G_X11_sights xs Ln (d + 103) 74 [some (.ref 82), some (.int (nI (2 ^ a 4320))), some (.int (b2i mr)), some (.int (nI (r + 2))), u4, u5, u6, u7] [] (mkW D J L1) Q) :
    ∀ n k J mr u5 u6 u7, n + k = 8 * 2 ^ a 4320 → 8 ≤ k → SgS I J a v → (∀ j, vK a j → J 101 j = nO (if j < k then lvl a (r + 2) j else lvl a (r + 1) j)) → (mr = true → cnL a (r + 1) + 1 ≤ cnL a (r + 2)) → (mr = false → ∀ j, vK a j → j < k → lvl a (r + 2) j = lvl a (r + 1) j) → G_X11_sights xs Ln (d + 103) 84 [some (.ref 82), some (.int (nI (2 ^ a 4320))), some (.int (b2i mr)), some (.int (nI (r + 1))), some (.int (nI k)), u5, u6, u7] [] (mkW D J L1) Q := by
  have hpw : 2 ^ a 4320 ≤ 2 ^ 12 := pw_lt hA.1
  have hw8 := hA.2.1
  intro n
  induction n with
  | zero =>
    intro k J mr u5 u6 u7 hn hk hs h101 hm1 hm2
    simp (disch := first | omega | exact c1_int _ | exact c1_none | exact c1_ref _ | exact isRf_ref _ | assumption | exact okRb _ | exact okN1 | exact okN0 | exact rfl) only [N_X11_sights_0, N_X11_sights_1, N_X11_sights_4, N_X11_sights_5, N_X11_sights_8, N_X11_sights_9, N_X11_sights_12, N_X11_sights_15, N_X11_sights_16, N_X11_sights_17, N_X11_sights_18, N_X11_sights_21, N_X11_sights_24, N_X11_sights_25, N_X11_sights_26, N_X11_sights_29, N_X11_sights_30, N_X11_sights_31, N_X11_sights_32, N_X11_sights_33, N_X11_sights_34, N_X11_sights_36, N_X11_sights_37, N_X11_sights_38, N_X11_sights_41, N_X11_sights_42, N_X11_sights_45, N_X11_sights_46, N_X11_sights_47, N_X11_sights_48, N_X11_sights_50, N_X11_sights_51, N_X11_sights_54, N_X11_sights_55, N_X11_sights_58, N_X11_sights_59, N_X11_sights_62, N_X11_sights_63, N_X11_sights_64, N_X11_sights_67, N_X11_sights_70, N_X11_sights_71, N_X11_sights_72, N_X11_sights_73, N_X11_sights_75, N_X11_sights_78, N_X11_sights_79, N_X11_sights_80, N_X11_sights_82, N_X11_sights_84, N_X11_sights_86, N_X11_sights_88, N_X11_sights_89, N_X11_sights_90, N_X11_sights_93, N_X11_sights_94, N_X11_sights_97, N_X11_sights_99, N_X11_sights_100, N_X11_sights_101, N_X11_sights_104, N_X11_sights_107, N_X11_sights_108, N_X11_sights_110, N_X11_sights_111, N_X11_sights_113, N_X11_sights_115, N_X11_sights_116, N_X11_sights_119, N_X11_sights_122, N_X11_sights_124, N_X11_sights_127, N_X11_sights_128, N_X11_sights_130, N_X11_sights_132, N_X11_sights_135, N_X11_sights_137, N_X11_sights_139, N_X11_sights_140, N_X11_sights_143, N_X11_sights_145, N_X11_sights_146, N_X11_sights_149, N_X11_sights_150, N_X11_sights_153, N_X11_sights_154, N_X11_sights_156, N_X11_sights_159, N_X11_sights_162, N_X11_sights_164, N_X11_sights_167, N_X11_sights_170, N_X11_sights_171, N_X11_sights_174, N_X11_sights_176, N_X11_sights_177, N_X11_sights_178, N_X11_sights_179, N_X11_sights_180, N_X11_sights_183, N_X11_sights_186, N_X11_sights_189, N_X11_sights_192, if_true, if_false, ite_true, ite_false, not_false_eq_true, not_true_eq_false, isRf_ref, isRf_null, c1_int, c1_ref, c1_null, c1_none, rfv_some, rfv_none, Ok_s, tl_some, tl_none, List.nil_append, b2i_n1, b2i_n0, ↓reduceIte, nI_add, pk_mul, pk_sub, n_leT, n_leF, n_ltT, n_ltF, n_eqT, n_eqF, n_shl1, n_shl, n_shr, nI_and, nI_or, nI_xor, b2i_z, b2i_o, m1_n, n_m1, m1_lt, m1_le, n_lm1, n_em1, nI_m1, and1, and3, and7, and15, and63, and255, Bool.true_eq_false, Bool.false_eq_true, reduceCtorEq, Nat.reduceAdd, Nat.reduceMul, Nat.reduceSub, Nat.reduceDiv, Nat.reduceMod, Nat.reducePow, Nat.zero_add, Nat.one_mul]
    refine hQ J mr _ _ _ _ hs (fun j hj => ?_) hm1 (fun hm j hj => hm2 hm j hj (by unfold vK at hj; omega))
    rw [h101 j hj, if_pos (by unfold vK at hj; omega)]
  | succ n ih =>
    intro k J mr u5 u6 u7 hn hk hs h101 hm1 hm2
    have hkv : vK a k := by unfold vK; omega
    have hk2 := h101 k hkv
    rw [if_neg (by omega)] at hk2
    rw [N_X11_sights_84]
    cases hl : lvl a (r + 1) k with
    | some u =>
      have hlu := lvl_lt hl
      rw [hl, nO_s] at hk2
      simp (disch := first | omega | exact c1_int _ | exact c1_none | exact c1_ref _ | exact isRf_ref _ | assumption | exact okRb _ | exact okN1 | exact okN0 | exact rfl) only [N_X11_sights_0, N_X11_sights_1, N_X11_sights_4, N_X11_sights_5, N_X11_sights_8, N_X11_sights_9, N_X11_sights_12, N_X11_sights_15, N_X11_sights_16, N_X11_sights_17, N_X11_sights_18, N_X11_sights_21, N_X11_sights_24, N_X11_sights_25, N_X11_sights_26, N_X11_sights_29, N_X11_sights_30, N_X11_sights_31, N_X11_sights_32, N_X11_sights_33, N_X11_sights_34, N_X11_sights_36, N_X11_sights_37, N_X11_sights_38, N_X11_sights_41, N_X11_sights_42, N_X11_sights_45, N_X11_sights_46, N_X11_sights_47, N_X11_sights_48, N_X11_sights_50, N_X11_sights_51, N_X11_sights_54, N_X11_sights_55, N_X11_sights_58, N_X11_sights_59, N_X11_sights_62, N_X11_sights_63, N_X11_sights_64, N_X11_sights_67, N_X11_sights_70, N_X11_sights_71, N_X11_sights_72, N_X11_sights_73, N_X11_sights_74, N_X11_sights_75, N_X11_sights_78, N_X11_sights_79, N_X11_sights_80, N_X11_sights_82, N_X11_sights_86, N_X11_sights_88, N_X11_sights_89, N_X11_sights_90, N_X11_sights_93, N_X11_sights_94, N_X11_sights_97, N_X11_sights_99, N_X11_sights_100, N_X11_sights_101, N_X11_sights_104, N_X11_sights_107, N_X11_sights_108, N_X11_sights_110, N_X11_sights_111, N_X11_sights_113, N_X11_sights_115, N_X11_sights_116, N_X11_sights_119, N_X11_sights_122, N_X11_sights_124, N_X11_sights_127, N_X11_sights_128, N_X11_sights_130, N_X11_sights_132, N_X11_sights_135, N_X11_sights_137, N_X11_sights_139, N_X11_sights_140, N_X11_sights_143, N_X11_sights_145, N_X11_sights_146, N_X11_sights_149, N_X11_sights_150, N_X11_sights_153, N_X11_sights_154, N_X11_sights_156, N_X11_sights_159, N_X11_sights_162, N_X11_sights_164, N_X11_sights_167, N_X11_sights_170, N_X11_sights_171, N_X11_sights_174, N_X11_sights_176, N_X11_sights_177, N_X11_sights_178, N_X11_sights_179, N_X11_sights_180, N_X11_sights_183, N_X11_sights_186, N_X11_sights_189, N_X11_sights_192, if_true, if_false, ite_true, ite_false, not_false_eq_true, not_true_eq_false, isRf_ref, isRf_null, c1_int, c1_ref, c1_null, c1_none, rfv_some, rfv_none, Ok_s, tl_some, tl_none, List.nil_append, b2i_n1, b2i_n0, ↓reduceIte, nI_add, pk_mul, pk_sub, n_leT, n_leF, n_ltT, n_ltF, n_eqT, n_eqF, n_shl1, n_shl, n_shr, nI_and, nI_or, nI_xor, b2i_z, b2i_o, m1_n, n_m1, m1_lt, m1_le, n_lm1, n_em1, nI_m1, and1, and3, and7, and15, and63, and255, Bool.true_eq_false, Bool.false_eq_true, reduceCtorEq, Nat.reduceAdd, Nat.reduceMul, Nat.reduceSub, Nat.reduceDiv, Nat.reduceMod, Nat.reducePow, Nat.zero_add, Nat.one_mul, hk2]
      refine ih (k + 1) J mr _ _ _ (by omega) (by omega) hs (fun j hj => ?_) hm1 (fun hm j hj hjk => ?_)
      · rw [h101 j hj]
        by_cases hjk : j = k
        · subst hjk
          rw [if_neg (by omega), if_pos (by omega), hl, lvl_mono hl (by omega)]
        · by_cases h2 : j < k
          · rw [if_pos h2, if_pos (by omega)]
          · rw [if_neg h2, if_neg (by omega)]
      · by_cases hjk2 : j = k
        · subst hjk2; rw [hl, lvl_mono hl (by omega)]
        · exact hm2 hm j hj (by omega)
    | none =>
      rw [hl, nO_n] at hk2
      have hW := hs.2.1.2.2.1 4321 (by decide) (by decide) (by decide)
      have hvk := vK_v hA hkv
      have hsr : sgW a r k = false := (lst_n _ _).mp hl r (by omega)
      generalize hsd : (fun j => if j < k then lvl a (r + 2) j else lvl a (r + 1) j) = s
      have hsj : ∀ j, s j = if j < k then lvl a (r + 2) j else lvl a (r + 1) j := fun j => by rw [← hsd]
      have hsb : ∀ w, w < a 4321 → callD xs Ln (d + 103) 246 [.ref 82, .int (nI k), .int (nI w)] (mkW D J L1) = some (mkW D J L1, some (.int (nO (svB a s k w)))) := fun w hw => r_sightBehind (d := d + 100) hs.2.1 hs.2.2.1 hA hvk hw (fun j h1 h2 => by rw [h101 j ⟨h1, h2⟩, hsj]) (fun j x hx => by
        rw [hsj] at hx
        split at hx
        · have := lvl_lt hx; omega
        · have := lvl_lt hx; omega)
      have hbw : ∀ w, w < a 4321 → (bwS a s r k w = true ↔ (!brA a w (k % 8) && allN (fun c => decide (ptA a k w c = 0) || sgW a r (8 * ptA a k w c + dbA a w (k % 8))) 4) = true) := by
        intro w hw
        rw [sgW_w hA hvk (s := s) (fun j hj => by
          rw [hsj]
          by_cases h : j < k
          · rw [if_pos h]; exact Or.inr rfl
          · rw [if_neg h]; exact Or.inl rfl) hw]
        unfold bwS
        cases svB a s k w with
        | none => simp
        | some v => simp
      have hsg : sgW a (r + 1) k = anyN (bwS a s r k) (a 4321) := by
        rw [sgW_s, hsr, Bool.false_or]
        refine anyN_c _ (fun w hw => ?_)
        exact (Bool.eq_iff_iff.mpr (hbw w hw)).symm
      have hvl : ∀ w v, svB a s k w = some v → v < 40000 := by
        intro w v h
        have hx : ∀ n v, mxC s (ptA a k w) (dbA a w (k % 8)) n = some v → v < 40000 := by
          intro n
          induction n with
          | zero => intro v h; cases h; decide
          | succ n ihn =>
            intro v h
            unfold mxC at h
            cases hm : mxC s (ptA a k w) (dbA a w (k % 8)) n with
            | none => rw [hm] at h; cases h
            | some m =>
              rw [hm] at h
              have hml := ihn m hm
              dsimp only at h
              split at h
              · cases h; exact hml
              · split at h
                · cases h
                · rename_i u hu
                  have hul : u < 40000 := by
                    rw [hsj] at hu
                    split at hu
                    · have := lvl_lt hu; omega
                    · have := lvl_lt hu; omega
                  have := Option.some.inj h
                  split at this <;> omega
        unfold svB at h
        split at h
        · cases h
        · exact hx 4 v h
      simp (disch := first | omega | exact c1_int _ | exact c1_none | exact c1_ref _ | exact isRf_ref _ | assumption | exact okRb _ | exact okN1 | exact okN0 | exact rfl) only [N_X11_sights_0, N_X11_sights_1, N_X11_sights_4, N_X11_sights_5, N_X11_sights_8, N_X11_sights_9, N_X11_sights_12, N_X11_sights_15, N_X11_sights_16, N_X11_sights_17, N_X11_sights_18, N_X11_sights_21, N_X11_sights_24, N_X11_sights_25, N_X11_sights_26, N_X11_sights_29, N_X11_sights_30, N_X11_sights_31, N_X11_sights_32, N_X11_sights_33, N_X11_sights_34, N_X11_sights_36, N_X11_sights_37, N_X11_sights_38, N_X11_sights_41, N_X11_sights_42, N_X11_sights_45, N_X11_sights_46, N_X11_sights_47, N_X11_sights_48, N_X11_sights_50, N_X11_sights_51, N_X11_sights_54, N_X11_sights_55, N_X11_sights_58, N_X11_sights_59, N_X11_sights_62, N_X11_sights_63, N_X11_sights_64, N_X11_sights_67, N_X11_sights_70, N_X11_sights_71, N_X11_sights_72, N_X11_sights_73, N_X11_sights_74, N_X11_sights_75, N_X11_sights_78, N_X11_sights_79, N_X11_sights_80, N_X11_sights_82, N_X11_sights_86, N_X11_sights_88, N_X11_sights_89, N_X11_sights_90, N_X11_sights_93, N_X11_sights_94, N_X11_sights_97, N_X11_sights_99, N_X11_sights_100, N_X11_sights_101, N_X11_sights_104, N_X11_sights_107, N_X11_sights_108, N_X11_sights_110, N_X11_sights_111, N_X11_sights_115, N_X11_sights_116, N_X11_sights_119, N_X11_sights_122, N_X11_sights_124, N_X11_sights_127, N_X11_sights_128, N_X11_sights_130, N_X11_sights_132, N_X11_sights_135, N_X11_sights_137, N_X11_sights_139, N_X11_sights_140, N_X11_sights_143, N_X11_sights_145, N_X11_sights_146, N_X11_sights_149, N_X11_sights_150, N_X11_sights_153, N_X11_sights_154, N_X11_sights_156, N_X11_sights_159, N_X11_sights_162, N_X11_sights_164, N_X11_sights_167, N_X11_sights_170, N_X11_sights_171, N_X11_sights_174, N_X11_sights_176, N_X11_sights_177, N_X11_sights_178, N_X11_sights_179, N_X11_sights_180, N_X11_sights_183, N_X11_sights_186, N_X11_sights_189, N_X11_sights_192, if_true, if_false, ite_true, ite_false, not_false_eq_true, not_true_eq_false, isRf_ref, isRf_null, c1_int, c1_ref, c1_null, c1_none, rfv_some, rfv_none, Ok_s, tl_some, tl_none, List.nil_append, b2i_n1, b2i_n0, ↓reduceIte, nI_add, pk_mul, pk_sub, n_leT, n_leF, n_ltT, n_ltF, n_eqT, n_eqF, n_shl1, n_shl, n_shr, nI_and, nI_or, nI_xor, b2i_z, b2i_o, m1_n, n_m1, m1_lt, m1_le, n_lm1, n_em1, nI_m1, and1, and3, and7, and15, and63, and255, Bool.true_eq_false, Bool.false_eq_true, reduceCtorEq, Nat.reduceAdd, Nat.reduceMul, Nat.reduceSub, Nat.reduceDiv, Nat.reduceMod, Nat.reducePow, Nat.zero_add, Nat.one_mul, hk2]
      refine Lp (n := a 4321) (σ := Unit) (E := fun w _ => ∀ u7, G_X11_sights xs Ln (d + 103) 113 [some (.ref 82), some (.int (nI (2 ^ a 4320))), some (.int (b2i mr)), some (.int (nI (r + 1))), some (.int (nI k)), some (.int (nI 0)), some (.int (nI w)), u7] [] (mkW D J L1) Q) (Inv := fun w _ => ∀ j, j < w → bwS a s r k j = false) ?_ ?_ 0 () (by omega) (fun j hj => by omega) u7
      · rintro _ hno u7
        have hfs : sgW a (r + 1) k = false := by
          rw [hsg]
          cases hany : anyN (bwS a s r k) (a 4321) with
          | false => rfl
          | true =>
            obtain ⟨w, hw, hb⟩ := (anyN_iff _ _).mp hany
            rw [hno w hw] at hb
            cases hb
        have hl2 : lvl a (r + 2) k = none := by rw [lvl_s hl, if_neg (by rw [hfs]; simp)]
        simp (disch := first | omega | exact c1_int _ | exact c1_none | exact c1_ref _ | exact isRf_ref _ | assumption | exact okRb _ | exact okN1 | exact okN0 | exact rfl) only [N_X11_sights_0, N_X11_sights_1, N_X11_sights_4, N_X11_sights_5, N_X11_sights_8, N_X11_sights_9, N_X11_sights_12, N_X11_sights_15, N_X11_sights_16, N_X11_sights_17, N_X11_sights_18, N_X11_sights_21, N_X11_sights_24, N_X11_sights_25, N_X11_sights_26, N_X11_sights_29, N_X11_sights_30, N_X11_sights_31, N_X11_sights_32, N_X11_sights_33, N_X11_sights_34, N_X11_sights_36, N_X11_sights_37, N_X11_sights_38, N_X11_sights_41, N_X11_sights_42, N_X11_sights_45, N_X11_sights_46, N_X11_sights_47, N_X11_sights_48, N_X11_sights_50, N_X11_sights_51, N_X11_sights_54, N_X11_sights_55, N_X11_sights_58, N_X11_sights_59, N_X11_sights_62, N_X11_sights_63, N_X11_sights_64, N_X11_sights_67, N_X11_sights_70, N_X11_sights_71, N_X11_sights_72, N_X11_sights_73, N_X11_sights_74, N_X11_sights_75, N_X11_sights_78, N_X11_sights_79, N_X11_sights_80, N_X11_sights_82, N_X11_sights_86, N_X11_sights_88, N_X11_sights_89, N_X11_sights_90, N_X11_sights_93, N_X11_sights_94, N_X11_sights_97, N_X11_sights_99, N_X11_sights_100, N_X11_sights_101, N_X11_sights_104, N_X11_sights_107, N_X11_sights_108, N_X11_sights_110, N_X11_sights_111, N_X11_sights_115, N_X11_sights_116, N_X11_sights_119, N_X11_sights_122, N_X11_sights_124, N_X11_sights_127, N_X11_sights_128, N_X11_sights_130, N_X11_sights_132, N_X11_sights_135, N_X11_sights_137, N_X11_sights_139, N_X11_sights_140, N_X11_sights_143, N_X11_sights_145, N_X11_sights_146, N_X11_sights_149, N_X11_sights_150, N_X11_sights_153, N_X11_sights_154, N_X11_sights_156, N_X11_sights_159, N_X11_sights_162, N_X11_sights_164, N_X11_sights_167, N_X11_sights_170, N_X11_sights_171, N_X11_sights_174, N_X11_sights_176, N_X11_sights_177, N_X11_sights_178, N_X11_sights_179, N_X11_sights_180, N_X11_sights_183, N_X11_sights_186, N_X11_sights_189, N_X11_sights_192, N_X11_sights_113, if_true, if_false, ite_true, ite_false, not_false_eq_true, not_true_eq_false, isRf_ref, isRf_null, c1_int, c1_ref, c1_null, c1_none, rfv_some, rfv_none, Ok_s, tl_some, tl_none, List.nil_append, b2i_n1, b2i_n0, ↓reduceIte, nI_add, pk_mul, pk_sub, n_leT, n_leF, n_ltT, n_ltF, n_eqT, n_eqF, n_shl1, n_shl, n_shr, nI_and, nI_or, nI_xor, b2i_z, b2i_o, m1_n, n_m1, m1_lt, m1_le, n_lm1, n_em1, nI_m1, and1, and3, and7, and15, and63, and255, Bool.true_eq_false, Bool.false_eq_true, reduceCtorEq, Nat.reduceAdd, Nat.reduceMul, Nat.reduceSub, Nat.reduceDiv, Nat.reduceMod, Nat.reducePow, Nat.zero_add, Nat.one_mul, c_words, hW]
        refine ih (k + 1) J mr _ _ _ (by omega) (by omega) hs (fun j hj => ?_) hm1 (fun hm j hj hjk => ?_)
        · rw [h101 j hj]
          by_cases hjk : j = k
          · subst hjk
            rw [if_neg (by omega), if_pos (by omega), hl, hl2]
          · by_cases h2 : j < k
            · rw [if_pos h2, if_pos (by omega)]
            · rw [if_neg h2, if_neg (by omega)]
        · by_cases hjk2 : j = k
          · subst hjk2; rw [hl, hl2]
          · exact hm2 hm j hj (by omega)
      · rintro w _ hw hno ih2 u7
        have hcall := hsb w hw
        -- found
        have found : bwS a s r k w = true → ∀ u6 u7, G_X11_sights xs Ln (d + 103) 162 [some (.ref 82), some (.int (nI (2 ^ a 4320))), some (.int (b2i mr)), some (.int (nI (r + 1))), some (.int (nI k)), some (.int (nI 1)), u6, u7] [] (mkW D J L1) Q := by
          intro hb u6 u7
          have hfs : sgW a (r + 1) k = true := by
            rw [hsg]
            exact (anyN_iff _ _).mpr ⟨w, hw, hb⟩
          have hl2 : lvl a (r + 2) k = some (r + 1) := by rw [lvl_s hl, if_pos hfs]
          simp (disch := first | omega | exact c1_int _ | exact c1_none | exact c1_ref _ | exact isRf_ref _ | assumption | exact okRb _ | exact okN1 | exact okN0 | exact rfl) only [N_X11_sights_0, N_X11_sights_1, N_X11_sights_4, N_X11_sights_5, N_X11_sights_8, N_X11_sights_9, N_X11_sights_12, N_X11_sights_15, N_X11_sights_16, N_X11_sights_17, N_X11_sights_18, N_X11_sights_21, N_X11_sights_24, N_X11_sights_25, N_X11_sights_26, N_X11_sights_29, N_X11_sights_30, N_X11_sights_31, N_X11_sights_32, N_X11_sights_33, N_X11_sights_34, N_X11_sights_36, N_X11_sights_37, N_X11_sights_38, N_X11_sights_41, N_X11_sights_42, N_X11_sights_45, N_X11_sights_46, N_X11_sights_47, N_X11_sights_48, N_X11_sights_50, N_X11_sights_51, N_X11_sights_54, N_X11_sights_55, N_X11_sights_58, N_X11_sights_59, N_X11_sights_62, N_X11_sights_63, N_X11_sights_64, N_X11_sights_67, N_X11_sights_70, N_X11_sights_71, N_X11_sights_72, N_X11_sights_73, N_X11_sights_74, N_X11_sights_75, N_X11_sights_78, N_X11_sights_79, N_X11_sights_80, N_X11_sights_82, N_X11_sights_86, N_X11_sights_88, N_X11_sights_89, N_X11_sights_90, N_X11_sights_93, N_X11_sights_94, N_X11_sights_97, N_X11_sights_99, N_X11_sights_100, N_X11_sights_101, N_X11_sights_104, N_X11_sights_107, N_X11_sights_108, N_X11_sights_110, N_X11_sights_111, N_X11_sights_113, N_X11_sights_115, N_X11_sights_116, N_X11_sights_119, N_X11_sights_122, N_X11_sights_124, N_X11_sights_127, N_X11_sights_128, N_X11_sights_130, N_X11_sights_132, N_X11_sights_135, N_X11_sights_137, N_X11_sights_139, N_X11_sights_140, N_X11_sights_143, N_X11_sights_145, N_X11_sights_146, N_X11_sights_149, N_X11_sights_150, N_X11_sights_153, N_X11_sights_154, N_X11_sights_156, N_X11_sights_159, N_X11_sights_162, N_X11_sights_164, N_X11_sights_167, N_X11_sights_170, N_X11_sights_171, N_X11_sights_174, N_X11_sights_176, N_X11_sights_177, N_X11_sights_178, N_X11_sights_179, N_X11_sights_180, N_X11_sights_183, N_X11_sights_186, N_X11_sights_189, N_X11_sights_192, if_true, if_false, ite_true, ite_false, not_false_eq_true, not_true_eq_false, isRf_ref, isRf_null, c1_int, c1_ref, c1_null, c1_none, rfv_some, rfv_none, Ok_s, tl_some, tl_none, List.nil_append, b2i_n1, b2i_n0, ↓reduceIte, nI_add, pk_mul, pk_sub, n_leT, n_leF, n_ltT, n_ltF, n_eqT, n_eqF, n_shl1, n_shl, n_shr, nI_and, nI_or, nI_xor, b2i_z, b2i_o, m1_n, n_m1, m1_lt, m1_le, n_lm1, n_em1, nI_m1, and1, and3, and7, and15, and63, and255, Bool.true_eq_false, Bool.false_eq_true, reduceCtorEq, Nat.reduceAdd, Nat.reduceMul, Nat.reduceSub, Nat.reduceDiv, Nat.reduceMod, Nat.reducePow, Nat.zero_add, Nat.one_mul]
          refine ih (k + 1) _ true _ _ _ (by omega) (by omega) (hs.up _ _) (fun j hj => ?_) (fun _ => cnL_up hA hkv hl (by rw [hl2]; simp)) (fun hm => by cases hm)
          by_cases hjk : j = k
          · subst hjk
            rw [up2_s, if_pos (by omega), hl2]
            rfl
          · rw [up2_j _ _ _ hjk, h101 j hj]
            by_cases h2 : j < k
            · rw [if_pos h2, if_pos (by omega)]
            · rw [if_neg h2, if_neg (by omega)]
        rw [N_X11_sights_113]
        cases hsv : svB a s k w with
        | none =>
          rw [hsv, nO_n] at hcall
          have hbn : bwS a s r k w = false := by unfold bwS; rw [hsv]
          simp (disch := first | omega | exact c1_int _ | exact c1_none | exact c1_ref _ | exact isRf_ref _ | assumption | exact okRb _ | exact okN1 | exact okN0 | exact rfl) only [N_X11_sights_0, N_X11_sights_1, N_X11_sights_4, N_X11_sights_5, N_X11_sights_8, N_X11_sights_9, N_X11_sights_12, N_X11_sights_15, N_X11_sights_16, N_X11_sights_17, N_X11_sights_18, N_X11_sights_21, N_X11_sights_24, N_X11_sights_25, N_X11_sights_26, N_X11_sights_29, N_X11_sights_30, N_X11_sights_31, N_X11_sights_32, N_X11_sights_33, N_X11_sights_34, N_X11_sights_36, N_X11_sights_37, N_X11_sights_38, N_X11_sights_41, N_X11_sights_42, N_X11_sights_45, N_X11_sights_46, N_X11_sights_47, N_X11_sights_48, N_X11_sights_50, N_X11_sights_51, N_X11_sights_54, N_X11_sights_55, N_X11_sights_58, N_X11_sights_59, N_X11_sights_62, N_X11_sights_63, N_X11_sights_64, N_X11_sights_67, N_X11_sights_70, N_X11_sights_71, N_X11_sights_72, N_X11_sights_73, N_X11_sights_74, N_X11_sights_75, N_X11_sights_78, N_X11_sights_79, N_X11_sights_80, N_X11_sights_82, N_X11_sights_86, N_X11_sights_88, N_X11_sights_89, N_X11_sights_90, N_X11_sights_93, N_X11_sights_94, N_X11_sights_97, N_X11_sights_99, N_X11_sights_100, N_X11_sights_101, N_X11_sights_104, N_X11_sights_107, N_X11_sights_108, N_X11_sights_110, N_X11_sights_111, N_X11_sights_115, N_X11_sights_116, N_X11_sights_119, N_X11_sights_122, N_X11_sights_124, N_X11_sights_127, N_X11_sights_128, N_X11_sights_130, N_X11_sights_132, N_X11_sights_135, N_X11_sights_137, N_X11_sights_139, N_X11_sights_140, N_X11_sights_143, N_X11_sights_145, N_X11_sights_146, N_X11_sights_149, N_X11_sights_150, N_X11_sights_153, N_X11_sights_154, N_X11_sights_156, N_X11_sights_159, N_X11_sights_162, N_X11_sights_164, N_X11_sights_167, N_X11_sights_170, N_X11_sights_171, N_X11_sights_174, N_X11_sights_176, N_X11_sights_177, N_X11_sights_178, N_X11_sights_179, N_X11_sights_180, N_X11_sights_183, N_X11_sights_186, N_X11_sights_189, N_X11_sights_192, if_true, if_false, ite_true, ite_false, not_false_eq_true, not_true_eq_false, isRf_ref, isRf_null, c1_int, c1_ref, c1_null, c1_none, rfv_some, rfv_none, Ok_s, tl_some, tl_none, List.nil_append, b2i_n1, b2i_n0, ↓reduceIte, nI_add, pk_mul, pk_sub, n_leT, n_leF, n_ltT, n_ltF, n_eqT, n_eqF, n_shl1, n_shl, n_shr, nI_and, nI_or, nI_xor, b2i_z, b2i_o, m1_n, n_m1, m1_lt, m1_le, n_lm1, n_em1, nI_m1, and1, and3, and7, and15, and63, and255, Bool.true_eq_false, Bool.false_eq_true, reduceCtorEq, Nat.reduceAdd, Nat.reduceMul, Nat.reduceSub, Nat.reduceDiv, Nat.reduceMod, Nat.reducePow, Nat.zero_add, Nat.one_mul, c_words, hW, hcall]
          refine ih2 () (fun j hj => ?_) _
          by_cases hjw : j = w
          · rw [hjw]; exact hbn
          · exact hno j (by omega)
        | some x =>
          have hxl := hvl w x hsv
          rw [hsv, nO_s] at hcall
          by_cases hx : x < r + 1
          · have hbt : bwS a s r k w = true := by unfold bwS; rw [hsv]; exact decide_eq_true hx
            by_cases hw1 : w + 1 < a 4321
            · simp (disch := first | omega | exact c1_int _ | exact c1_none | exact c1_ref _ | exact isRf_ref _ | assumption | exact okRb _ | exact okN1 | exact okN0 | exact rfl) only [N_X11_sights_0, N_X11_sights_1, N_X11_sights_4, N_X11_sights_5, N_X11_sights_8, N_X11_sights_9, N_X11_sights_12, N_X11_sights_15, N_X11_sights_16, N_X11_sights_17, N_X11_sights_18, N_X11_sights_21, N_X11_sights_24, N_X11_sights_25, N_X11_sights_26, N_X11_sights_29, N_X11_sights_30, N_X11_sights_31, N_X11_sights_32, N_X11_sights_33, N_X11_sights_34, N_X11_sights_36, N_X11_sights_37, N_X11_sights_38, N_X11_sights_41, N_X11_sights_42, N_X11_sights_45, N_X11_sights_46, N_X11_sights_47, N_X11_sights_48, N_X11_sights_50, N_X11_sights_51, N_X11_sights_54, N_X11_sights_55, N_X11_sights_58, N_X11_sights_59, N_X11_sights_62, N_X11_sights_63, N_X11_sights_64, N_X11_sights_67, N_X11_sights_70, N_X11_sights_71, N_X11_sights_72, N_X11_sights_73, N_X11_sights_74, N_X11_sights_75, N_X11_sights_78, N_X11_sights_79, N_X11_sights_80, N_X11_sights_82, N_X11_sights_86, N_X11_sights_88, N_X11_sights_89, N_X11_sights_90, N_X11_sights_93, N_X11_sights_94, N_X11_sights_97, N_X11_sights_99, N_X11_sights_100, N_X11_sights_101, N_X11_sights_104, N_X11_sights_107, N_X11_sights_108, N_X11_sights_110, N_X11_sights_111, N_X11_sights_113, N_X11_sights_115, N_X11_sights_116, N_X11_sights_119, N_X11_sights_122, N_X11_sights_124, N_X11_sights_127, N_X11_sights_128, N_X11_sights_130, N_X11_sights_132, N_X11_sights_135, N_X11_sights_137, N_X11_sights_139, N_X11_sights_140, N_X11_sights_143, N_X11_sights_145, N_X11_sights_146, N_X11_sights_149, N_X11_sights_150, N_X11_sights_153, N_X11_sights_154, N_X11_sights_156, N_X11_sights_159, N_X11_sights_164, N_X11_sights_167, N_X11_sights_170, N_X11_sights_171, N_X11_sights_174, N_X11_sights_176, N_X11_sights_177, N_X11_sights_178, N_X11_sights_179, N_X11_sights_180, N_X11_sights_183, N_X11_sights_186, N_X11_sights_189, N_X11_sights_192, if_true, if_false, ite_true, ite_false, not_false_eq_true, not_true_eq_false, isRf_ref, isRf_null, c1_int, c1_ref, c1_null, c1_none, rfv_some, rfv_none, Ok_s, tl_some, tl_none, List.nil_append, b2i_n1, b2i_n0, ↓reduceIte, nI_add, pk_mul, pk_sub, n_leT, n_leF, n_ltT, n_ltF, n_eqT, n_eqF, n_shl1, n_shl, n_shr, nI_and, nI_or, nI_xor, b2i_z, b2i_o, m1_n, n_m1, m1_lt, m1_le, n_lm1, n_em1, nI_m1, and1, and3, and7, and15, and63, and255, Bool.true_eq_false, Bool.false_eq_true, reduceCtorEq, Nat.reduceAdd, Nat.reduceMul, Nat.reduceSub, Nat.reduceDiv, Nat.reduceMod, Nat.reducePow, Nat.zero_add, Nat.one_mul, c_words, hW, hcall]
              exact found hbt _ _
            · simp (disch := first | omega | exact c1_int _ | exact c1_none | exact c1_ref _ | exact isRf_ref _ | assumption | exact okRb _ | exact okN1 | exact okN0 | exact rfl) only [N_X11_sights_0, N_X11_sights_1, N_X11_sights_4, N_X11_sights_5, N_X11_sights_8, N_X11_sights_9, N_X11_sights_12, N_X11_sights_15, N_X11_sights_16, N_X11_sights_17, N_X11_sights_18, N_X11_sights_21, N_X11_sights_24, N_X11_sights_25, N_X11_sights_26, N_X11_sights_29, N_X11_sights_30, N_X11_sights_31, N_X11_sights_32, N_X11_sights_33, N_X11_sights_34, N_X11_sights_36, N_X11_sights_37, N_X11_sights_38, N_X11_sights_41, N_X11_sights_42, N_X11_sights_45, N_X11_sights_46, N_X11_sights_47, N_X11_sights_48, N_X11_sights_50, N_X11_sights_51, N_X11_sights_54, N_X11_sights_55, N_X11_sights_58, N_X11_sights_59, N_X11_sights_62, N_X11_sights_63, N_X11_sights_64, N_X11_sights_67, N_X11_sights_70, N_X11_sights_71, N_X11_sights_72, N_X11_sights_73, N_X11_sights_74, N_X11_sights_75, N_X11_sights_78, N_X11_sights_79, N_X11_sights_80, N_X11_sights_82, N_X11_sights_86, N_X11_sights_88, N_X11_sights_89, N_X11_sights_90, N_X11_sights_93, N_X11_sights_94, N_X11_sights_97, N_X11_sights_99, N_X11_sights_100, N_X11_sights_101, N_X11_sights_104, N_X11_sights_107, N_X11_sights_108, N_X11_sights_110, N_X11_sights_111, N_X11_sights_113, N_X11_sights_115, N_X11_sights_116, N_X11_sights_119, N_X11_sights_122, N_X11_sights_124, N_X11_sights_127, N_X11_sights_128, N_X11_sights_130, N_X11_sights_132, N_X11_sights_135, N_X11_sights_137, N_X11_sights_139, N_X11_sights_140, N_X11_sights_143, N_X11_sights_145, N_X11_sights_146, N_X11_sights_149, N_X11_sights_150, N_X11_sights_153, N_X11_sights_154, N_X11_sights_156, N_X11_sights_159, N_X11_sights_164, N_X11_sights_167, N_X11_sights_170, N_X11_sights_171, N_X11_sights_174, N_X11_sights_176, N_X11_sights_177, N_X11_sights_178, N_X11_sights_179, N_X11_sights_180, N_X11_sights_183, N_X11_sights_186, N_X11_sights_189, N_X11_sights_192, if_true, if_false, ite_true, ite_false, not_false_eq_true, not_true_eq_false, isRf_ref, isRf_null, c1_int, c1_ref, c1_null, c1_none, rfv_some, rfv_none, Ok_s, tl_some, tl_none, List.nil_append, b2i_n1, b2i_n0, ↓reduceIte, nI_add, pk_mul, pk_sub, n_leT, n_leF, n_ltT, n_ltF, n_eqT, n_eqF, n_shl1, n_shl, n_shr, nI_and, nI_or, nI_xor, b2i_z, b2i_o, m1_n, n_m1, m1_lt, m1_le, n_lm1, n_em1, nI_m1, and1, and3, and7, and15, and63, and255, Bool.true_eq_false, Bool.false_eq_true, reduceCtorEq, Nat.reduceAdd, Nat.reduceMul, Nat.reduceSub, Nat.reduceDiv, Nat.reduceMod, Nat.reducePow, Nat.zero_add, Nat.one_mul, c_words, hW, hcall]
              exact found hbt _ _
          · have hbn : bwS a s r k w = false := by unfold bwS; rw [hsv]; exact decide_eq_false hx
            simp (disch := first | omega | exact c1_int _ | exact c1_none | exact c1_ref _ | exact isRf_ref _ | assumption | exact okRb _ | exact okN1 | exact okN0 | exact rfl) only [N_X11_sights_0, N_X11_sights_1, N_X11_sights_4, N_X11_sights_5, N_X11_sights_8, N_X11_sights_9, N_X11_sights_12, N_X11_sights_15, N_X11_sights_16, N_X11_sights_17, N_X11_sights_18, N_X11_sights_21, N_X11_sights_24, N_X11_sights_25, N_X11_sights_26, N_X11_sights_29, N_X11_sights_30, N_X11_sights_31, N_X11_sights_32, N_X11_sights_33, N_X11_sights_34, N_X11_sights_36, N_X11_sights_37, N_X11_sights_38, N_X11_sights_41, N_X11_sights_42, N_X11_sights_45, N_X11_sights_46, N_X11_sights_47, N_X11_sights_48, N_X11_sights_50, N_X11_sights_51, N_X11_sights_54, N_X11_sights_55, N_X11_sights_58, N_X11_sights_59, N_X11_sights_62, N_X11_sights_63, N_X11_sights_64, N_X11_sights_67, N_X11_sights_70, N_X11_sights_71, N_X11_sights_72, N_X11_sights_73, N_X11_sights_74, N_X11_sights_75, N_X11_sights_78, N_X11_sights_79, N_X11_sights_80, N_X11_sights_82, N_X11_sights_86, N_X11_sights_88, N_X11_sights_89, N_X11_sights_90, N_X11_sights_93, N_X11_sights_94, N_X11_sights_97, N_X11_sights_99, N_X11_sights_100, N_X11_sights_101, N_X11_sights_104, N_X11_sights_107, N_X11_sights_108, N_X11_sights_110, N_X11_sights_111, N_X11_sights_115, N_X11_sights_116, N_X11_sights_119, N_X11_sights_122, N_X11_sights_124, N_X11_sights_127, N_X11_sights_128, N_X11_sights_130, N_X11_sights_132, N_X11_sights_135, N_X11_sights_137, N_X11_sights_139, N_X11_sights_140, N_X11_sights_143, N_X11_sights_145, N_X11_sights_146, N_X11_sights_149, N_X11_sights_150, N_X11_sights_153, N_X11_sights_154, N_X11_sights_156, N_X11_sights_159, N_X11_sights_162, N_X11_sights_164, N_X11_sights_167, N_X11_sights_170, N_X11_sights_171, N_X11_sights_174, N_X11_sights_176, N_X11_sights_177, N_X11_sights_178, N_X11_sights_179, N_X11_sights_180, N_X11_sights_183, N_X11_sights_186, N_X11_sights_189, N_X11_sights_192, if_true, if_false, ite_true, ite_false, not_false_eq_true, not_true_eq_false, isRf_ref, isRf_null, c1_int, c1_ref, c1_null, c1_none, rfv_some, rfv_none, Ok_s, tl_some, tl_none, List.nil_append, b2i_n1, b2i_n0, ↓reduceIte, nI_add, pk_mul, pk_sub, n_leT, n_leF, n_ltT, n_ltF, n_eqT, n_eqF, n_shl1, n_shl, n_shr, nI_and, nI_or, nI_xor, b2i_z, b2i_o, m1_n, n_m1, m1_lt, m1_le, n_lm1, n_em1, nI_m1, and1, and3, and7, and15, and63, and255, Bool.true_eq_false, Bool.false_eq_true, reduceCtorEq, Nat.reduceAdd, Nat.reduceMul, Nat.reduceSub, Nat.reduceDiv, Nat.reduceMod, Nat.reducePow, Nat.zero_add, Nat.one_mul, c_words, hW, hcall]
            refine ih2 () (fun j hj => ?_) _
            by_cases hjw : j = w
            · rw [hjw]; exact hbn
            · exact hno j (by omega)
theorem tog1 (k : Nat) : nO (lst (fun i => sgW (fun _ => 0) i k) 0) = m1 := rfl
theorem r_sights {a : Nat → Nat} {v : Nat} (hK : RK I a) (hA : AW a) (hc : RIc I a v) : Ok (callD xs Ln (d + 104) 247 [.ref 82] (mkW D I L)) (fun q => ∃ I' L', q = (mkW D I' L', none) ∧ QF I I' ∧ Lkd I' a v ∧ RSi I' a) := by
  have hpw : 2 ^ a 4320 ≤ 2 ^ 12 := pw_lt hA.1
  have hpp : 0 < 2 ^ a 4320 := Nat.two_pow_pos _
  have hP12 := hA.1
  refine semG (lo := [some (.ref 82), none, none, none, none, none, none, none]) rfl rfl (Nat.le_of_ble_eq_true rfl) rfl (show G_X11_sights xs Ln _ 0 [some (.ref 82), none, none, none, none, none, none, none] [] _ _ from ?_)
  simp (disch := first | omega | exact c1_int _ | exact c1_none | exact c1_ref _ | exact isRf_ref _ | assumption | exact okRb _ | exact okN1 | exact okN0 | exact rfl) only [N_X11_sights_0, N_X11_sights_1, N_X11_sights_4, N_X11_sights_5, N_X11_sights_8, N_X11_sights_9, N_X11_sights_12, N_X11_sights_15, N_X11_sights_16, N_X11_sights_17, N_X11_sights_18, N_X11_sights_21, N_X11_sights_24, N_X11_sights_25, N_X11_sights_26, N_X11_sights_29, N_X11_sights_30, N_X11_sights_31, N_X11_sights_32, N_X11_sights_34, N_X11_sights_36, N_X11_sights_37, N_X11_sights_38, N_X11_sights_41, N_X11_sights_42, N_X11_sights_45, N_X11_sights_46, N_X11_sights_47, N_X11_sights_48, N_X11_sights_50, N_X11_sights_51, N_X11_sights_54, N_X11_sights_55, N_X11_sights_58, N_X11_sights_59, N_X11_sights_62, N_X11_sights_63, N_X11_sights_64, N_X11_sights_67, N_X11_sights_70, N_X11_sights_71, N_X11_sights_72, N_X11_sights_73, N_X11_sights_74, N_X11_sights_75, N_X11_sights_78, N_X11_sights_79, N_X11_sights_80, N_X11_sights_82, N_X11_sights_84, N_X11_sights_86, N_X11_sights_88, N_X11_sights_89, N_X11_sights_90, N_X11_sights_93, N_X11_sights_94, N_X11_sights_97, N_X11_sights_99, N_X11_sights_100, N_X11_sights_101, N_X11_sights_104, N_X11_sights_107, N_X11_sights_108, N_X11_sights_110, N_X11_sights_111, N_X11_sights_113, N_X11_sights_115, N_X11_sights_116, N_X11_sights_119, N_X11_sights_122, N_X11_sights_124, N_X11_sights_127, N_X11_sights_128, N_X11_sights_130, N_X11_sights_132, N_X11_sights_135, N_X11_sights_137, N_X11_sights_139, N_X11_sights_140, N_X11_sights_143, N_X11_sights_145, N_X11_sights_146, N_X11_sights_149, N_X11_sights_150, N_X11_sights_153, N_X11_sights_154, N_X11_sights_156, N_X11_sights_159, N_X11_sights_162, N_X11_sights_164, N_X11_sights_167, N_X11_sights_170, N_X11_sights_171, N_X11_sights_174, N_X11_sights_176, N_X11_sights_177, N_X11_sights_178, N_X11_sights_179, N_X11_sights_180, N_X11_sights_183, N_X11_sights_186, N_X11_sights_189, N_X11_sights_192, if_true, if_false, ite_true, ite_false, not_false_eq_true, not_true_eq_false, isRf_ref, isRf_null, c1_int, c1_ref, c1_null, c1_none, rfv_some, rfv_none, Ok_s, tl_some, tl_none, List.nil_append, b2i_n1, b2i_n0, ↓reduceIte, nI_add, pk_mul, pk_sub, n_leT, n_leF, n_ltT, n_ltF, n_eqT, n_eqF, n_shl1, n_shl, n_shr, nI_and, nI_or, nI_xor, b2i_z, b2i_o, m1_n, n_m1, m1_lt, m1_le, n_lm1, n_em1, nI_m1, and1, and3, and7, and15, and63, and255, Bool.true_eq_false, Bool.false_eq_true, reduceCtorEq, Nat.reduceAdd, Nat.reduceMul, Nat.reduceSub, Nat.reduceDiv, Nat.reduceMod, Nat.reducePow, Nat.zero_add, Nat.one_mul]
  refine Ok.mono (r_look hK hA hc) ?_
  rintro q ⟨I1, L1, rfl, hf1, hd1⟩
  by_cases h39 : I1 82 39 = I1 82 1
  · simp (disch := first | omega | exact c1_int _ | exact c1_none | exact c1_ref _ | exact isRf_ref _ | assumption | exact okRb _ | exact okN1 | exact okN0 | exact rfl) only [N_X11_sights_0, N_X11_sights_1, N_X11_sights_4, N_X11_sights_5, N_X11_sights_8, N_X11_sights_9, N_X11_sights_12, N_X11_sights_15, N_X11_sights_16, N_X11_sights_17, N_X11_sights_18, N_X11_sights_21, N_X11_sights_24, N_X11_sights_25, N_X11_sights_26, N_X11_sights_29, N_X11_sights_30, N_X11_sights_31, N_X11_sights_32, N_X11_sights_34, N_X11_sights_36, N_X11_sights_37, N_X11_sights_38, N_X11_sights_41, N_X11_sights_42, N_X11_sights_45, N_X11_sights_46, N_X11_sights_47, N_X11_sights_48, N_X11_sights_50, N_X11_sights_51, N_X11_sights_54, N_X11_sights_55, N_X11_sights_58, N_X11_sights_59, N_X11_sights_62, N_X11_sights_63, N_X11_sights_64, N_X11_sights_67, N_X11_sights_70, N_X11_sights_71, N_X11_sights_72, N_X11_sights_73, N_X11_sights_74, N_X11_sights_75, N_X11_sights_78, N_X11_sights_79, N_X11_sights_80, N_X11_sights_82, N_X11_sights_84, N_X11_sights_86, N_X11_sights_88, N_X11_sights_89, N_X11_sights_90, N_X11_sights_93, N_X11_sights_94, N_X11_sights_97, N_X11_sights_99, N_X11_sights_100, N_X11_sights_101, N_X11_sights_104, N_X11_sights_107, N_X11_sights_108, N_X11_sights_110, N_X11_sights_111, N_X11_sights_113, N_X11_sights_115, N_X11_sights_116, N_X11_sights_119, N_X11_sights_122, N_X11_sights_124, N_X11_sights_127, N_X11_sights_128, N_X11_sights_130, N_X11_sights_132, N_X11_sights_135, N_X11_sights_137, N_X11_sights_139, N_X11_sights_140, N_X11_sights_143, N_X11_sights_145, N_X11_sights_146, N_X11_sights_149, N_X11_sights_150, N_X11_sights_153, N_X11_sights_154, N_X11_sights_156, N_X11_sights_159, N_X11_sights_162, N_X11_sights_164, N_X11_sights_167, N_X11_sights_170, N_X11_sights_171, N_X11_sights_174, N_X11_sights_176, N_X11_sights_177, N_X11_sights_178, N_X11_sights_179, N_X11_sights_180, N_X11_sights_183, N_X11_sights_186, N_X11_sights_189, N_X11_sights_192, if_true, if_false, ite_true, ite_false, not_false_eq_true, not_true_eq_false, isRf_ref, isRf_null, c1_int, c1_ref, c1_null, c1_none, rfv_some, rfv_none, Ok_s, tl_some, tl_none, List.nil_append, b2i_n1, b2i_n0, ↓reduceIte, nI_add, pk_mul, pk_sub, n_leT, n_leF, n_ltT, n_ltF, n_eqT, n_eqF, n_shl1, n_shl, n_shr, nI_and, nI_or, nI_xor, b2i_z, b2i_o, m1_n, n_m1, m1_lt, m1_le, n_lm1, n_em1, nI_m1, and1, and3, and7, and15, and63, and255, Bool.true_eq_false, Bool.false_eq_true, reduceCtorEq, Nat.reduceAdd, Nat.reduceMul, Nat.reduceSub, Nat.reduceDiv, Nat.reduceMod, Nat.reducePow, Nat.zero_add, Nat.one_mul, h39]
    exact ⟨_, _, rfl, hf1, hd1, hd1.2.1.2.2.2.2.2 h39⟩
  · have hP : up2 I1 82 39 (I1 82 1) 84 4320 = nI (a 4320) := by
      rw [up2_k _ _ _ _ (by decide)]
      exact hd1.1.2.2.1 4320 (by decide) (by decide) (by decide)
    simp (disch := first | omega | exact c1_int _ | exact c1_none | exact c1_ref _ | exact isRf_ref _ | assumption | exact okRb _ | exact okN1 | exact okN0 | exact rfl) only [N_X11_sights_0, N_X11_sights_1, N_X11_sights_4, N_X11_sights_5, N_X11_sights_8, N_X11_sights_9, N_X11_sights_12, N_X11_sights_15, N_X11_sights_16, N_X11_sights_17, N_X11_sights_18, N_X11_sights_21, N_X11_sights_24, N_X11_sights_25, N_X11_sights_26, N_X11_sights_29, N_X11_sights_30, N_X11_sights_31, N_X11_sights_32, N_X11_sights_34, N_X11_sights_36, N_X11_sights_37, N_X11_sights_38, N_X11_sights_41, N_X11_sights_42, N_X11_sights_45, N_X11_sights_46, N_X11_sights_47, N_X11_sights_48, N_X11_sights_50, N_X11_sights_51, N_X11_sights_54, N_X11_sights_55, N_X11_sights_58, N_X11_sights_59, N_X11_sights_62, N_X11_sights_63, N_X11_sights_64, N_X11_sights_67, N_X11_sights_70, N_X11_sights_71, N_X11_sights_72, N_X11_sights_73, N_X11_sights_74, N_X11_sights_75, N_X11_sights_78, N_X11_sights_79, N_X11_sights_80, N_X11_sights_82, N_X11_sights_84, N_X11_sights_86, N_X11_sights_88, N_X11_sights_89, N_X11_sights_90, N_X11_sights_93, N_X11_sights_94, N_X11_sights_97, N_X11_sights_99, N_X11_sights_100, N_X11_sights_101, N_X11_sights_104, N_X11_sights_107, N_X11_sights_108, N_X11_sights_110, N_X11_sights_111, N_X11_sights_113, N_X11_sights_115, N_X11_sights_116, N_X11_sights_119, N_X11_sights_122, N_X11_sights_124, N_X11_sights_127, N_X11_sights_128, N_X11_sights_130, N_X11_sights_132, N_X11_sights_135, N_X11_sights_137, N_X11_sights_139, N_X11_sights_140, N_X11_sights_143, N_X11_sights_145, N_X11_sights_146, N_X11_sights_149, N_X11_sights_150, N_X11_sights_153, N_X11_sights_154, N_X11_sights_156, N_X11_sights_159, N_X11_sights_162, N_X11_sights_164, N_X11_sights_167, N_X11_sights_170, N_X11_sights_171, N_X11_sights_174, N_X11_sights_176, N_X11_sights_177, N_X11_sights_178, N_X11_sights_179, N_X11_sights_180, N_X11_sights_183, N_X11_sights_186, N_X11_sights_189, N_X11_sights_192, if_true, if_false, ite_true, ite_false, not_false_eq_true, not_true_eq_false, isRf_ref, isRf_null, c1_int, c1_ref, c1_null, c1_none, rfv_some, rfv_none, Ok_s, tl_some, tl_none, List.nil_append, b2i_n1, b2i_n0, ↓reduceIte, nI_add, pk_mul, pk_sub, n_leT, n_leF, n_ltT, n_ltF, n_eqT, n_eqF, n_shl1, n_shl, n_shr, nI_and, nI_or, nI_xor, b2i_z, b2i_o, m1_n, n_m1, m1_lt, m1_le, n_lm1, n_em1, nI_m1, and1, and3, and7, and15, and63, and255, Bool.true_eq_false, Bool.false_eq_true, reduceCtorEq, Nat.reduceAdd, Nat.reduceMul, Nat.reduceSub, Nat.reduceDiv, Nat.reduceMod, Nat.reducePow, Nat.zero_add, Nat.one_mul, h39, c_places, hP]
    have hv1 := hd1.2.1.1
    have hs0 : SgS I (up2 I1 82 39 (I1 82 1)) a v := by
      refine ⟨⟨fun q hq => ?_, fun j hj => ?_⟩, ?_, ?_, ?_, ?_, ?_⟩
      · rw [up2_ro _ _ _ (by omega)]; exact hf1.1 q hq
      · rw [up2_j _ _ _ (by omega)]; exact hf1.2 j hj
      · unfold RK; rw [up2_ro _ _ _ (by decide)]; exact hd1.1
      · unfold RLk LKb LKg; rw [up2_ro _ _ _ (show (94 : Nat) ≠ 82 by decide), up2_ro _ _ _ (show (95 : Nat) ≠ 82 by decide)]; exact hd1.2.2.1
      · rw [up2_j _ _ _ (by decide), hd1.2.2.2, hv1]
      · rw [up2_j _ _ _ (by decide), hv1]
      · rw [up2_s, hv1]
    -- the rounds
    have main : ∀ n r J mr u4 u5 u6 u7, 32770 ≤ n + r → r + 1 ≤ cnL a (r + 1) + 2 → SgS I J a v → (∀ k, vK a k → J 101 k = nO (lvl a (r + 1) k)) → (mr = false → 0 < r ∧ r ≤ 32769 ∧ ∀ k, vK a k → lvl a (r + 1) k = lvl a r k) → (mr = true → r ≤ cnL a (r + 1)) → G_X11_sights xs Ln (d + 103) 74 [some (.ref 82), some (.int (nI (2 ^ a 4320))), some (.int (b2i mr)), some (.int (nI (r + 1))), u4, u5, u6, u7] [] (mkW D J L1) (fun q => ∃ I' L', q = (mkW D I' L', none) ∧ QF I I' ∧ Lkd I' a v ∧ RSi I' a) := by
      intro n
      induction n with
      | zero =>
        intro r J mr u4 u5 u6 u7 hn hcn
        exfalso
        have := cntB_le (fun k => decide (8 ≤ k) && decide (k < 8 * 2 ^ a 4320) && (lvl a (r + 1) k).isSome) 32768
        unfold cnL at hcn
        omega
      | succ n ih =>
        intro r J mr u4 u5 u6 u7 hn hcn hs h101 hmf hmt
        have hcl := cntB_le (fun k => decide (8 ≤ k) && decide (k < 8 * 2 ^ a 4320) && (lvl a (r + 1) k).isSome) 32768
        have hcl' : cnL a (r + 1) ≤ 32768 := hcl
        cases mr with
        | false =>
          obtain ⟨hr0, hr1, hfx⟩ := hmf rfl
          obtain ⟨R, rfl⟩ : ∃ R, r = R + 1 := ⟨r - 1, by omega⟩
          rw [N_X11_sights_74]
          simp (disch := first | omega | exact c1_int _ | exact c1_none | exact c1_ref _ | exact isRf_ref _ | assumption | exact okRb _ | exact okN1 | exact okN0 | exact rfl) only [N_X11_sights_0, N_X11_sights_1, N_X11_sights_4, N_X11_sights_5, N_X11_sights_8, N_X11_sights_9, N_X11_sights_12, N_X11_sights_15, N_X11_sights_16, N_X11_sights_17, N_X11_sights_18, N_X11_sights_21, N_X11_sights_24, N_X11_sights_25, N_X11_sights_26, N_X11_sights_29, N_X11_sights_30, N_X11_sights_31, N_X11_sights_32, N_X11_sights_33, N_X11_sights_34, N_X11_sights_36, N_X11_sights_37, N_X11_sights_38, N_X11_sights_41, N_X11_sights_42, N_X11_sights_45, N_X11_sights_46, N_X11_sights_47, N_X11_sights_48, N_X11_sights_50, N_X11_sights_51, N_X11_sights_54, N_X11_sights_55, N_X11_sights_58, N_X11_sights_59, N_X11_sights_62, N_X11_sights_63, N_X11_sights_64, N_X11_sights_67, N_X11_sights_70, N_X11_sights_71, N_X11_sights_72, N_X11_sights_73, N_X11_sights_75, N_X11_sights_78, N_X11_sights_79, N_X11_sights_80, N_X11_sights_82, N_X11_sights_84, N_X11_sights_86, N_X11_sights_88, N_X11_sights_89, N_X11_sights_90, N_X11_sights_93, N_X11_sights_94, N_X11_sights_97, N_X11_sights_99, N_X11_sights_100, N_X11_sights_101, N_X11_sights_104, N_X11_sights_107, N_X11_sights_108, N_X11_sights_110, N_X11_sights_111, N_X11_sights_113, N_X11_sights_115, N_X11_sights_116, N_X11_sights_119, N_X11_sights_122, N_X11_sights_124, N_X11_sights_127, N_X11_sights_128, N_X11_sights_130, N_X11_sights_132, N_X11_sights_135, N_X11_sights_137, N_X11_sights_139, N_X11_sights_140, N_X11_sights_143, N_X11_sights_145, N_X11_sights_146, N_X11_sights_149, N_X11_sights_150, N_X11_sights_153, N_X11_sights_154, N_X11_sights_156, N_X11_sights_159, N_X11_sights_162, N_X11_sights_164, N_X11_sights_167, N_X11_sights_170, N_X11_sights_171, N_X11_sights_174, N_X11_sights_176, N_X11_sights_177, N_X11_sights_178, N_X11_sights_179, N_X11_sights_180, N_X11_sights_183, N_X11_sights_186, N_X11_sights_189, N_X11_sights_192, if_true, if_false, ite_true, ite_false, not_false_eq_true, not_true_eq_false, isRf_ref, isRf_null, c1_int, c1_ref, c1_null, c1_none, rfv_some, rfv_none, Ok_s, tl_some, tl_none, List.nil_append, b2i_n1, b2i_n0, ↓reduceIte, nI_add, pk_mul, pk_sub, n_leT, n_leF, n_ltT, n_ltF, n_eqT, n_eqF, n_shl1, n_shl, n_shr, nI_and, nI_or, nI_xor, b2i_z, b2i_o, m1_n, n_m1, m1_lt, m1_le, n_lm1, n_em1, nI_m1, and1, and3, and7, and15, and63, and255, Bool.true_eq_false, Bool.false_eq_true, reduceCtorEq, Nat.reduceAdd, Nat.reduceMul, Nat.reduceSub, Nat.reduceDiv, Nat.reduceMod, Nat.reducePow, Nat.zero_add, Nat.one_mul]
          have hsi : RSi J a := by
            intro k h8 hk
            have hkv : vK a k := ⟨h8, hk⟩
            rw [h101 k hkv, sgA_fix hA hr1 hfx hkv, hfx k hkv]
          obtain ⟨q1, q2, q3, q4, q5, q6⟩ := hs
          exact ⟨_, _, rfl, q1, ⟨q2, ⟨q5, hd1.2.1.2.1, ⟨some v, q4, fun x hx => by cases hx; exact Nat.le_refl _⟩, fun _ => q3, ⟨some v, q6, fun x hx => by cases hx; exact Nat.le_refl _⟩, fun _ => hsi⟩, q3, by rw [q4, q5]⟩, hsi⟩
        | true =>
          have hrc := hmt rfl
          have h8 : 8 ≤ 8 * 2 ^ a 4320 := by omega
          rw [N_X11_sights_74]
          simp (disch := first | omega | exact c1_int _ | exact c1_none | exact c1_ref _ | exact isRf_ref _ | assumption | exact okRb _ | exact okN1 | exact okN0 | exact rfl) only [N_X11_sights_0, N_X11_sights_1, N_X11_sights_4, N_X11_sights_5, N_X11_sights_8, N_X11_sights_9, N_X11_sights_12, N_X11_sights_15, N_X11_sights_16, N_X11_sights_17, N_X11_sights_18, N_X11_sights_21, N_X11_sights_24, N_X11_sights_25, N_X11_sights_26, N_X11_sights_29, N_X11_sights_30, N_X11_sights_31, N_X11_sights_32, N_X11_sights_33, N_X11_sights_34, N_X11_sights_36, N_X11_sights_37, N_X11_sights_38, N_X11_sights_41, N_X11_sights_42, N_X11_sights_45, N_X11_sights_46, N_X11_sights_47, N_X11_sights_48, N_X11_sights_50, N_X11_sights_51, N_X11_sights_54, N_X11_sights_55, N_X11_sights_58, N_X11_sights_59, N_X11_sights_62, N_X11_sights_63, N_X11_sights_64, N_X11_sights_67, N_X11_sights_70, N_X11_sights_71, N_X11_sights_72, N_X11_sights_73, N_X11_sights_75, N_X11_sights_78, N_X11_sights_79, N_X11_sights_80, N_X11_sights_82, N_X11_sights_86, N_X11_sights_88, N_X11_sights_89, N_X11_sights_90, N_X11_sights_93, N_X11_sights_94, N_X11_sights_97, N_X11_sights_99, N_X11_sights_100, N_X11_sights_101, N_X11_sights_104, N_X11_sights_107, N_X11_sights_108, N_X11_sights_110, N_X11_sights_111, N_X11_sights_113, N_X11_sights_115, N_X11_sights_116, N_X11_sights_119, N_X11_sights_122, N_X11_sights_124, N_X11_sights_127, N_X11_sights_128, N_X11_sights_130, N_X11_sights_132, N_X11_sights_135, N_X11_sights_137, N_X11_sights_139, N_X11_sights_140, N_X11_sights_143, N_X11_sights_145, N_X11_sights_146, N_X11_sights_149, N_X11_sights_150, N_X11_sights_153, N_X11_sights_154, N_X11_sights_156, N_X11_sights_159, N_X11_sights_162, N_X11_sights_164, N_X11_sights_167, N_X11_sights_170, N_X11_sights_171, N_X11_sights_174, N_X11_sights_176, N_X11_sights_177, N_X11_sights_178, N_X11_sights_179, N_X11_sights_180, N_X11_sights_183, N_X11_sights_186, N_X11_sights_189, N_X11_sights_192, if_true, if_false, ite_true, ite_false, not_false_eq_true, not_true_eq_false, isRf_ref, isRf_null, c1_int, c1_ref, c1_null, c1_none, rfv_some, rfv_none, Ok_s, tl_some, tl_none, List.nil_append, b2i_n1, b2i_n0, ↓reduceIte, nI_add, pk_mul, pk_sub, n_leT, n_leF, n_ltT, n_ltF, n_eqT, n_eqF, n_shl1, n_shl, n_shr, nI_and, nI_or, nI_xor, b2i_z, b2i_o, m1_n, n_m1, m1_lt, m1_le, n_lm1, n_em1, nI_m1, and1, and3, and7, and15, and63, and255, Bool.true_eq_false, Bool.false_eq_true, reduceCtorEq, Nat.reduceAdd, Nat.reduceMul, Nat.reduceSub, Nat.reduceDiv, Nat.reduceMod, Nat.reducePow, Nat.zero_add, Nat.one_mul]
          refine r_sigR (mr := false) hA (show r < 32769 by omega) ?_ (8 * 2 ^ a 4320 - 8) 8 J _ _ _ (by omega) (by omega) hs (fun j hj => ?_) (fun hm => by cases hm) (fun _ j hj hj8 => ?_)
          · intro J' mr' u4 u5 u6 u7 hs' h101' hm1 hm2
            refine ih (r + 1) J' mr' _ _ _ _ (by omega) ?_ hs' h101' (fun hm => ⟨by omega, by omega, hm2 hm⟩) (fun hm => ?_)
            · cases mr' with
              | true =>
                have h9 : cnL a (r + 1) + 1 ≤ cnL a (r + 1 + 1) := hm1 rfl
                omega
              | false =>
                have : cnL a (r + 1) ≤ cnL a (r + 1 + 1) := by
                  unfold cnL
                  refine cntB_mono ?_ 32768
                  intro i hi
                  simp only [Bool.and_eq_true, decide_eq_true_eq] at hi ⊢
                  refine ⟨hi.1, ?_⟩
                  cases hl : lvl a (r + 1) i with
                  | none => rw [hl] at hi; cases hi.2
                  | some u => rw [lvl_mono hl (by omega)]; rfl
                omega
            · have h9 : cnL a (r + 1) + 1 ≤ cnL a (r + 1 + 1) := hm1 hm
              omega
          · rw [h101 j hj, if_neg (by unfold vK at hj; omega)]
          · unfold vK at hj
            omega
    -- first the sets of one place
    refine Lp (n := 8 * 2 ^ a 4320) (σ := Nat → Nat → Int32) (E := fun k J => G_X11_sights xs Ln (d + 103) 33 [some (.ref 82), some (.int (nI (2 ^ a 4320))), some (.int (nI k)), none, none, none, none, none] [] (mkW D J L1) _) (Inv := fun k J => SgS I J a v ∧ ∀ j, j < k → J 101 j = nO (lvl a 1 j)) ?_ ?_ 0 (up2 I1 82 39 (I1 82 1)) (by omega) ⟨hs0, fun j hj => by omega⟩
    · rintro J ⟨hs, h101⟩
      simp (disch := first | omega | exact c1_int _ | exact c1_none | exact c1_ref _ | exact isRf_ref _ | assumption | exact okRb _ | exact okN1 | exact okN0 | exact rfl) only [N_X11_sights_0, N_X11_sights_1, N_X11_sights_4, N_X11_sights_5, N_X11_sights_8, N_X11_sights_9, N_X11_sights_12, N_X11_sights_15, N_X11_sights_16, N_X11_sights_17, N_X11_sights_18, N_X11_sights_21, N_X11_sights_24, N_X11_sights_25, N_X11_sights_26, N_X11_sights_29, N_X11_sights_30, N_X11_sights_31, N_X11_sights_32, N_X11_sights_33, N_X11_sights_34, N_X11_sights_36, N_X11_sights_37, N_X11_sights_38, N_X11_sights_41, N_X11_sights_42, N_X11_sights_45, N_X11_sights_46, N_X11_sights_47, N_X11_sights_48, N_X11_sights_50, N_X11_sights_51, N_X11_sights_54, N_X11_sights_55, N_X11_sights_58, N_X11_sights_59, N_X11_sights_62, N_X11_sights_63, N_X11_sights_64, N_X11_sights_67, N_X11_sights_70, N_X11_sights_71, N_X11_sights_72, N_X11_sights_73, N_X11_sights_75, N_X11_sights_78, N_X11_sights_79, N_X11_sights_80, N_X11_sights_82, N_X11_sights_84, N_X11_sights_86, N_X11_sights_88, N_X11_sights_89, N_X11_sights_90, N_X11_sights_93, N_X11_sights_94, N_X11_sights_97, N_X11_sights_99, N_X11_sights_100, N_X11_sights_101, N_X11_sights_104, N_X11_sights_107, N_X11_sights_108, N_X11_sights_110, N_X11_sights_111, N_X11_sights_113, N_X11_sights_115, N_X11_sights_116, N_X11_sights_119, N_X11_sights_122, N_X11_sights_124, N_X11_sights_127, N_X11_sights_128, N_X11_sights_130, N_X11_sights_132, N_X11_sights_135, N_X11_sights_137, N_X11_sights_139, N_X11_sights_140, N_X11_sights_143, N_X11_sights_145, N_X11_sights_146, N_X11_sights_149, N_X11_sights_150, N_X11_sights_153, N_X11_sights_154, N_X11_sights_156, N_X11_sights_159, N_X11_sights_162, N_X11_sights_164, N_X11_sights_167, N_X11_sights_170, N_X11_sights_171, N_X11_sights_174, N_X11_sights_176, N_X11_sights_177, N_X11_sights_178, N_X11_sights_179, N_X11_sights_180, N_X11_sights_183, N_X11_sights_186, N_X11_sights_189, N_X11_sights_192, if_true, if_false, ite_true, ite_false, not_false_eq_true, not_true_eq_false, isRf_ref, isRf_null, c1_int, c1_ref, c1_null, c1_none, rfv_some, rfv_none, Ok_s, tl_some, tl_none, List.nil_append, b2i_n1, b2i_n0, ↓reduceIte, nI_add, pk_mul, pk_sub, n_leT, n_leF, n_ltT, n_ltF, n_eqT, n_eqF, n_shl1, n_shl, n_shr, nI_and, nI_or, nI_xor, b2i_z, b2i_o, m1_n, n_m1, m1_lt, m1_le, n_lm1, n_em1, nI_m1, and1, and3, and7, and15, and63, and255, Bool.true_eq_false, Bool.false_eq_true, reduceCtorEq, Nat.reduceAdd, Nat.reduceMul, Nat.reduceSub, Nat.reduceDiv, Nat.reduceMod, Nat.reducePow, Nat.zero_add, Nat.one_mul]
      exact main 32770 0 J true _ _ _ _ (by omega) (by omega) hs (fun k hk => h101 k hk.2) (fun h => by cases h) (fun _ => by omega)
    · rintro k J hk ⟨hs, h101⟩ ih
      have hk8 : k / 8 < 4096 := by omega
      have hlv : lvl a 1 k = if (tog 1 (k / 8)).isSome = true then some 0 else none := rfl
      rw [N_X11_sights_33]
      have hto := r_together (xs := xs) (Ln := Ln) (d := d + 102) (D := D) (I := J) (L := L1) (m := 1) (s := k / 8) (by decide) hk8
      cases htg : tog 1 (k / 8) with
      | none =>
        rw [htg, nO_n] at hto
        rw [htg] at hlv
        simp (disch := first | omega | exact c1_int _ | exact c1_none | exact c1_ref _ | exact isRf_ref _ | assumption | exact okRb _ | exact okN1 | exact okN0 | exact rfl) only [N_X11_sights_0, N_X11_sights_1, N_X11_sights_4, N_X11_sights_5, N_X11_sights_8, N_X11_sights_9, N_X11_sights_12, N_X11_sights_15, N_X11_sights_16, N_X11_sights_17, N_X11_sights_18, N_X11_sights_21, N_X11_sights_24, N_X11_sights_25, N_X11_sights_26, N_X11_sights_29, N_X11_sights_30, N_X11_sights_31, N_X11_sights_32, N_X11_sights_34, N_X11_sights_36, N_X11_sights_37, N_X11_sights_38, N_X11_sights_41, N_X11_sights_42, N_X11_sights_45, N_X11_sights_46, N_X11_sights_47, N_X11_sights_48, N_X11_sights_50, N_X11_sights_51, N_X11_sights_54, N_X11_sights_55, N_X11_sights_58, N_X11_sights_59, N_X11_sights_62, N_X11_sights_63, N_X11_sights_64, N_X11_sights_67, N_X11_sights_70, N_X11_sights_71, N_X11_sights_72, N_X11_sights_73, N_X11_sights_74, N_X11_sights_75, N_X11_sights_78, N_X11_sights_79, N_X11_sights_80, N_X11_sights_82, N_X11_sights_84, N_X11_sights_86, N_X11_sights_88, N_X11_sights_89, N_X11_sights_90, N_X11_sights_93, N_X11_sights_94, N_X11_sights_97, N_X11_sights_99, N_X11_sights_100, N_X11_sights_101, N_X11_sights_104, N_X11_sights_107, N_X11_sights_108, N_X11_sights_110, N_X11_sights_111, N_X11_sights_113, N_X11_sights_115, N_X11_sights_116, N_X11_sights_119, N_X11_sights_122, N_X11_sights_124, N_X11_sights_127, N_X11_sights_128, N_X11_sights_130, N_X11_sights_132, N_X11_sights_135, N_X11_sights_137, N_X11_sights_139, N_X11_sights_140, N_X11_sights_143, N_X11_sights_145, N_X11_sights_146, N_X11_sights_149, N_X11_sights_150, N_X11_sights_153, N_X11_sights_154, N_X11_sights_156, N_X11_sights_159, N_X11_sights_162, N_X11_sights_164, N_X11_sights_167, N_X11_sights_170, N_X11_sights_171, N_X11_sights_174, N_X11_sights_176, N_X11_sights_177, N_X11_sights_178, N_X11_sights_179, N_X11_sights_180, N_X11_sights_183, N_X11_sights_186, N_X11_sights_189, N_X11_sights_192, if_true, if_false, ite_true, ite_false, not_false_eq_true, not_true_eq_false, isRf_ref, isRf_null, c1_int, c1_ref, c1_null, c1_none, rfv_some, rfv_none, Ok_s, tl_some, tl_none, List.nil_append, b2i_n1, b2i_n0, ↓reduceIte, nI_add, pk_mul, pk_sub, n_leT, n_leF, n_ltT, n_ltF, n_eqT, n_eqF, n_shl1, n_shl, n_shr, nI_and, nI_or, nI_xor, b2i_z, b2i_o, m1_n, n_m1, m1_lt, m1_le, n_lm1, n_em1, nI_m1, and1, and3, and7, and15, and63, and255, Bool.true_eq_false, Bool.false_eq_true, reduceCtorEq, Nat.reduceAdd, Nat.reduceMul, Nat.reduceSub, Nat.reduceDiv, Nat.reduceMod, Nat.reducePow, Nat.zero_add, Nat.one_mul, hto]
        refine ih _ ⟨hs.up _ _, fun j hj => ?_⟩
        by_cases hjk : j = k
        · subst hjk; rw [up2_s, hlv]; rfl
        · rw [up2_j _ _ _ hjk]; exact h101 j (by omega)
      | some p =>
        have hp := tog_lt htg
        rw [htg, nO_s] at hto
        rw [htg] at hlv
        simp (disch := first | omega | exact c1_int _ | exact c1_none | exact c1_ref _ | exact isRf_ref _ | assumption | exact okRb _ | exact okN1 | exact okN0 | exact rfl) only [N_X11_sights_0, N_X11_sights_1, N_X11_sights_4, N_X11_sights_5, N_X11_sights_8, N_X11_sights_9, N_X11_sights_12, N_X11_sights_15, N_X11_sights_16, N_X11_sights_17, N_X11_sights_18, N_X11_sights_21, N_X11_sights_24, N_X11_sights_25, N_X11_sights_26, N_X11_sights_29, N_X11_sights_30, N_X11_sights_31, N_X11_sights_32, N_X11_sights_34, N_X11_sights_36, N_X11_sights_37, N_X11_sights_38, N_X11_sights_41, N_X11_sights_42, N_X11_sights_45, N_X11_sights_46, N_X11_sights_47, N_X11_sights_48, N_X11_sights_50, N_X11_sights_51, N_X11_sights_54, N_X11_sights_55, N_X11_sights_58, N_X11_sights_59, N_X11_sights_62, N_X11_sights_63, N_X11_sights_64, N_X11_sights_67, N_X11_sights_70, N_X11_sights_71, N_X11_sights_72, N_X11_sights_73, N_X11_sights_74, N_X11_sights_75, N_X11_sights_78, N_X11_sights_79, N_X11_sights_80, N_X11_sights_82, N_X11_sights_84, N_X11_sights_86, N_X11_sights_88, N_X11_sights_89, N_X11_sights_90, N_X11_sights_93, N_X11_sights_94, N_X11_sights_97, N_X11_sights_99, N_X11_sights_100, N_X11_sights_101, N_X11_sights_104, N_X11_sights_107, N_X11_sights_108, N_X11_sights_110, N_X11_sights_111, N_X11_sights_113, N_X11_sights_115, N_X11_sights_116, N_X11_sights_119, N_X11_sights_122, N_X11_sights_124, N_X11_sights_127, N_X11_sights_128, N_X11_sights_130, N_X11_sights_132, N_X11_sights_135, N_X11_sights_137, N_X11_sights_139, N_X11_sights_140, N_X11_sights_143, N_X11_sights_145, N_X11_sights_146, N_X11_sights_149, N_X11_sights_150, N_X11_sights_153, N_X11_sights_154, N_X11_sights_156, N_X11_sights_159, N_X11_sights_162, N_X11_sights_164, N_X11_sights_167, N_X11_sights_170, N_X11_sights_171, N_X11_sights_174, N_X11_sights_176, N_X11_sights_177, N_X11_sights_178, N_X11_sights_179, N_X11_sights_180, N_X11_sights_183, N_X11_sights_186, N_X11_sights_189, N_X11_sights_192, if_true, if_false, ite_true, ite_false, not_false_eq_true, not_true_eq_false, isRf_ref, isRf_null, c1_int, c1_ref, c1_null, c1_none, rfv_some, rfv_none, Ok_s, tl_some, tl_none, List.nil_append, b2i_n1, b2i_n0, ↓reduceIte, nI_add, pk_mul, pk_sub, n_leT, n_leF, n_ltT, n_ltF, n_eqT, n_eqF, n_shl1, n_shl, n_shr, nI_and, nI_or, nI_xor, b2i_z, b2i_o, m1_n, n_m1, m1_lt, m1_le, n_lm1, n_em1, nI_m1, and1, and3, and7, and15, and63, and255, Bool.true_eq_false, Bool.false_eq_true, reduceCtorEq, Nat.reduceAdd, Nat.reduceMul, Nat.reduceSub, Nat.reduceDiv, Nat.reduceMod, Nat.reducePow, Nat.zero_add, Nat.one_mul, hto]
        refine ih _ ⟨hs.up _ _, fun j hj => ?_⟩
        by_cases hjk : j = k
        · subst hjk; rw [up2_s, hlv]; rfl
        · rw [up2_j _ _ _ hjk]; exact h101 j (by omega)
noncomputable def aSight (a : Nat → Nat) (set : Int32) : Int32 := if (okSI (a 4320) (nI 1) set && !decide (set = nI 0)) = true then nO (sgA a (stA a set)) else m1
/-- the lowest word behind which one word less is enough -/
noncomputable def akN (a : Nat → Nat) (st b : Nat) : Option Nat := lst (fun w => match svB a (sgA a) st w with
  | none => false
  | some v => decide (v < b)) (a 4321)
noncomputable def aAsk (a : Nat → Nat) (set : Int32) : Int32 := if (okSI (a 4320) (nI 1) set && !decide (set = nI 0)) = true then (match sgA a (stA a set) with
  | none => m1
  | some 0 => m1
  | some (b + 1) => nO (akN a (stA a set) (b + 1))) else m1
theorem sgA_lt {a : Nat → Nat} {k b : Nat} (h : sgA a k = some b) : b < 32769 := by
  have := ((lst_s _ _ _).mp h).1
  rw [bnd_e] at this
  exact this
theorem stA_v {a : Nat → Nat} (hA : AW a) {s : Nat} (hs : s < 4096) (hS : okS (a 4320) 1 s = true) (h0 : s ≠ 0) : vK a (8 * s + a 4327) := by
  have h8 := hA.2.2.2.2.2.2.2.1
  have := okS1.mp hS
  unfold vK
  omega
theorem okSI_1 {P : Nat} {set : Int32} (h : okSI P (nI 1) set = true) : ∃ s, s < 4096 ∧ set = nI s ∧ okS P 1 s = true := by
  obtain ⟨m, s, hm, hm3, hs4, hmm, rfl, hS⟩ := okSI_t h
  have : m = 1 := by
    rw [n_eq (by decide) (by omega)] at hmm
    exact hmm.symm
  subst this
  exact ⟨s, hs4, rfl, hS⟩
theorem r_sightL {a : Nat → Nat} {v : Nat} {set : Int32} (hK : RK I a) (hA : AW a) (hc : RIc I a v) : Ok (callD xs Ln (d + 105) 248 [.ref 82, .int set] (mkW D I L)) (fun q => ∃ I' L', q = (mkW D I' L', some (.int (aSight a set))) ∧ QF I I' ∧ RIc I' a v ∧ ((okSI (a 4320) (nI 1) set && !decide (set = nI 0)) = true → Lkd I' a v ∧ RSi I' a)) := by
  have h8 := hA.2.2.2.2.2.2.2.1
  refine semG (lo := [some (.ref 82), some (.int set)]) rfl rfl (Nat.le_of_ble_eq_true rfl) rfl (show G_X11_sight xs Ln _ 0 [some (.ref 82), some (.int set)] [] _ _ from ?_)
  unfold aSight
  cases hs : okSI (a 4320) (nI 1) set
  · simp (disch := first | omega | exact c1_int _ | exact c1_none | exact c1_ref _ | exact isRf_ref _ | assumption | exact okRb _ | exact okN1 | exact okN0 | exact rfl) only [N_X11_sight_0, N_X11_sight_1, N_X11_sight_2, N_X11_sight_3, N_X11_sight_6, N_X11_sight_9, N_X11_sight_10, N_X11_sight_13, N_X11_sight_14, N_X11_sight_15, N_X11_sight_16, N_X11_sight_19, N_X11_sight_20, N_X11_sight_23, N_X11_sight_25, N_X11_sight_26, N_X11_sight_27, N_X11_sight_28, N_X11_sight_31, N_X11_sight_34, N_X11_sight_35, N_X11_sight_36, N_X11_sight_37, if_true, if_false, ite_true, ite_false, not_false_eq_true, not_true_eq_false, isRf_ref, isRf_null, c1_int, c1_ref, c1_null, c1_none, rfv_some, rfv_none, Ok_s, tl_some, tl_none, List.nil_append, b2i_n1, b2i_n0, ↓reduceIte, nI_add, pk_mul, pk_sub, n_leT, n_leF, n_ltT, n_ltF, n_eqT, n_eqF, n_shl1, n_shl, n_shr, nI_and, nI_or, nI_xor, b2i_z, b2i_o, m1_n, n_m1, m1_lt, m1_le, n_lm1, n_em1, nI_m1, and1, and3, and7, and15, and63, and255, Bool.true_eq_false, Bool.false_eq_true, reduceCtorEq, Nat.reduceAdd, Nat.reduceMul, Nat.reduceSub, Nat.reduceDiv, Nat.reduceMod, Nat.reducePow, Nat.zero_add, Nat.one_mul, r_isSet hK hA, hs, Bool.false_and]
    exact ⟨_, _, rfl, QF.rf I, hc, fun h => by cases h⟩
  · obtain ⟨s, hs4, rfl, hS⟩ := okSI_1 hs
    by_cases h0 : s = 0
    · subst h0
      simp (disch := first | omega | exact c1_int _ | exact c1_none | exact c1_ref _ | exact isRf_ref _ | assumption | exact okRb _ | exact okN1 | exact okN0 | exact rfl) only [N_X11_sight_0, N_X11_sight_1, N_X11_sight_2, N_X11_sight_3, N_X11_sight_6, N_X11_sight_9, N_X11_sight_10, N_X11_sight_13, N_X11_sight_14, N_X11_sight_15, N_X11_sight_16, N_X11_sight_19, N_X11_sight_20, N_X11_sight_23, N_X11_sight_25, N_X11_sight_26, N_X11_sight_27, N_X11_sight_28, N_X11_sight_31, N_X11_sight_34, N_X11_sight_35, N_X11_sight_36, N_X11_sight_37, if_true, if_false, ite_true, ite_false, not_false_eq_true, not_true_eq_false, isRf_ref, isRf_null, c1_int, c1_ref, c1_null, c1_none, rfv_some, rfv_none, Ok_s, tl_some, tl_none, List.nil_append, b2i_n1, b2i_n0, ↓reduceIte, nI_add, pk_mul, pk_sub, n_leT, n_leF, n_ltT, n_ltF, n_eqT, n_eqF, n_shl1, n_shl, n_shr, nI_and, nI_or, nI_xor, b2i_z, b2i_o, m1_n, n_m1, m1_lt, m1_le, n_lm1, n_em1, nI_m1, and1, and3, and7, and15, and63, and255, Bool.true_eq_false, Bool.false_eq_true, reduceCtorEq, Nat.reduceAdd, Nat.reduceMul, Nat.reduceSub, Nat.reduceDiv, Nat.reduceMod, Nat.reducePow, Nat.zero_add, Nat.one_mul, r_isSet hK hA, hs, decide_true, Bool.not_true, Bool.and_false]
      exact ⟨_, _, rfl, QF.rf I, hc, fun h => by cases h⟩
    · have hne : decide (nI s = nI 0) = false := decide_eq_false (nl_ne h0 (by omega) (by decide))
      have hst : stA a (nI s) = 8 * s + a 4327 := by unfold stA; rw [n_cl (by omega)]
      simp (disch := first | omega | exact c1_int _ | exact c1_none | exact c1_ref _ | exact isRf_ref _ | assumption | exact okRb _ | exact okN1 | exact okN0 | exact rfl) only [N_X11_sight_0, N_X11_sight_1, N_X11_sight_2, N_X11_sight_3, N_X11_sight_6, N_X11_sight_9, N_X11_sight_10, N_X11_sight_13, N_X11_sight_14, N_X11_sight_15, N_X11_sight_16, N_X11_sight_19, N_X11_sight_20, N_X11_sight_23, N_X11_sight_25, N_X11_sight_26, N_X11_sight_27, N_X11_sight_28, N_X11_sight_31, N_X11_sight_34, N_X11_sight_35, N_X11_sight_36, N_X11_sight_37, if_true, if_false, ite_true, ite_false, not_false_eq_true, not_true_eq_false, isRf_ref, isRf_null, c1_int, c1_ref, c1_null, c1_none, rfv_some, rfv_none, Ok_s, tl_some, tl_none, List.nil_append, b2i_n1, b2i_n0, ↓reduceIte, nI_add, pk_mul, pk_sub, n_leT, n_leF, n_ltT, n_ltF, n_eqT, n_eqF, n_shl1, n_shl, n_shr, nI_and, nI_or, nI_xor, b2i_z, b2i_o, m1_n, n_m1, m1_lt, m1_le, n_lm1, n_em1, nI_m1, and1, and3, and7, and15, and63, and255, Bool.true_eq_false, Bool.false_eq_true, reduceCtorEq, Nat.reduceAdd, Nat.reduceMul, Nat.reduceSub, Nat.reduceDiv, Nat.reduceMod, Nat.reducePow, Nat.zero_add, Nat.one_mul, r_isSet hK hA, hs, hne, Bool.not_false, Bool.true_and, hst]
      refine Ok.mono (r_sights hK hA hc) ?_
      rintro q ⟨I1, L1, rfl, hf1, hd1, hsi⟩
      have ho := hd1.1.2.2.1 4327 (by decide) (by decide) (by decide)
      have hvk := stA_v hA hs4 hS h0
      have h101 := hsi _ hvk.1 hvk.2
      simp (disch := first | omega | exact c1_int _ | exact c1_none | exact c1_ref _ | exact isRf_ref _ | assumption | exact okRb _ | exact okN1 | exact okN0 | exact rfl) only [N_X11_sight_0, N_X11_sight_1, N_X11_sight_2, N_X11_sight_3, N_X11_sight_6, N_X11_sight_9, N_X11_sight_10, N_X11_sight_13, N_X11_sight_14, N_X11_sight_15, N_X11_sight_16, N_X11_sight_19, N_X11_sight_20, N_X11_sight_23, N_X11_sight_25, N_X11_sight_26, N_X11_sight_27, N_X11_sight_28, N_X11_sight_31, N_X11_sight_34, N_X11_sight_35, N_X11_sight_36, N_X11_sight_37, if_true, if_false, ite_true, ite_false, not_false_eq_true, not_true_eq_false, isRf_ref, isRf_null, c1_int, c1_ref, c1_null, c1_none, rfv_some, rfv_none, Ok_s, tl_some, tl_none, List.nil_append, b2i_n1, b2i_n0, ↓reduceIte, nI_add, pk_mul, pk_sub, n_leT, n_leF, n_ltT, n_ltF, n_eqT, n_eqF, n_shl1, n_shl, n_shr, nI_and, nI_or, nI_xor, b2i_z, b2i_o, m1_n, n_m1, m1_lt, m1_le, n_lm1, n_em1, nI_m1, and1, and3, and7, and15, and63, and255, Bool.true_eq_false, Bool.false_eq_true, reduceCtorEq, Nat.reduceAdd, Nat.reduceMul, Nat.reduceSub, Nat.reduceDiv, Nat.reduceMod, Nat.reducePow, Nat.zero_add, Nat.one_mul, ho, h101]
      exact ⟨_, _, rfl, hf1, hd1.2.1, fun _ => ⟨hd1, hsi⟩⟩
theorem r_sight {a : Nat → Nat} {v : Nat} {set : Int32} (hK : RK I a) (hA : AW a) (hc : RIc I a v) : Ans xs Ln (d + 105) 248 [.ref 82, .int set] D I L a v (aSight a set) := by
  refine Ok.mono (r_sightL hK hA hc) ?_
  rintro q ⟨I', L', rfl, hf, hc', _⟩
  exact ⟨_, _, rfl, hf, hc'⟩
theorem r_ask {a : Nat → Nat} {v : Nat} {set : Int32} (hK : RK I a) (hA : AW a) (hc : RIc I a v) : Ans xs Ln (d + 106) 249 [.ref 82, .int set] D I L a v (aAsk a set) := by
  have h8 := hA.2.2.2.2.2.2.2.1
  have hw8 := hA.2.1
  refine semG (lo := [some (.ref 82), some (.int set), none, none]) rfl rfl (Nat.le_of_ble_eq_true rfl) rfl (show G_X11_ask xs Ln _ 0 [some (.ref 82), some (.int set), none, none] [] _ _ from ?_)
  simp (disch := first | omega | exact c1_int _ | exact c1_none | exact c1_ref _ | exact isRf_ref _ | assumption | exact okRb _ | exact okN1 | exact okN0 | exact rfl) only [N_X11_ask_0, N_X11_ask_1, N_X11_ask_2, N_X11_ask_5, N_X11_ask_6, N_X11_ask_9, N_X11_ask_10, N_X11_ask_11, N_X11_ask_13, N_X11_ask_14, N_X11_ask_15, N_X11_ask_16, N_X11_ask_19, N_X11_ask_22, N_X11_ask_23, N_X11_ask_24, N_X11_ask_25, N_X11_ask_26, N_X11_ask_28, N_X11_ask_29, N_X11_ask_32, N_X11_ask_35, N_X11_ask_36, N_X11_ask_37, N_X11_ask_38, N_X11_ask_41, N_X11_ask_42, N_X11_ask_45, N_X11_ask_46, N_X11_ask_47, N_X11_ask_48, N_X11_ask_51, N_X11_ask_52, N_X11_ask_55, N_X11_ask_56, N_X11_ask_57, N_X11_ask_60, N_X11_ask_61, N_X11_ask_62, N_X11_ask_65, N_X11_ask_68, N_X11_ask_69, if_true, if_false, ite_true, ite_false, not_false_eq_true, not_true_eq_false, isRf_ref, isRf_null, c1_int, c1_ref, c1_null, c1_none, rfv_some, rfv_none, Ok_s, tl_some, tl_none, List.nil_append, b2i_n1, b2i_n0, ↓reduceIte, nI_add, pk_mul, pk_sub, n_leT, n_leF, n_ltT, n_ltF, n_eqT, n_eqF, n_shl1, n_shl, n_shr, nI_and, nI_or, nI_xor, b2i_z, b2i_o, m1_n, n_m1, m1_lt, m1_le, n_lm1, n_em1, nI_m1, and1, and3, and7, and15, and63, and255, Bool.true_eq_false, Bool.false_eq_true, reduceCtorEq, Nat.reduceAdd, Nat.reduceMul, Nat.reduceSub, Nat.reduceDiv, Nat.reduceMod, Nat.reducePow, Nat.zero_add, Nat.one_mul]
  refine Ok.mono (r_sightL hK hA hc) ?_
  rintro q ⟨I1, L1, rfl, hf1, hc1, hd1⟩
  unfold aAsk
  have hlt : ¬ nI 1 ≤ m1 := by decide
  cases hval : (okSI (a 4320) (nI 1) set && !decide (set = nI 0)) with
  | false =>
    have hp : aSight a set = m1 := by unfold aSight; rw [hval]; rfl
    simp (disch := first | omega | exact c1_int _ | exact c1_none | exact c1_ref _ | exact isRf_ref _ | assumption | exact okRb _ | exact okN1 | exact okN0 | exact rfl) only [N_X11_ask_0, N_X11_ask_1, N_X11_ask_2, N_X11_ask_5, N_X11_ask_6, N_X11_ask_9, N_X11_ask_10, N_X11_ask_11, N_X11_ask_13, N_X11_ask_14, N_X11_ask_15, N_X11_ask_16, N_X11_ask_19, N_X11_ask_22, N_X11_ask_23, N_X11_ask_24, N_X11_ask_25, N_X11_ask_26, N_X11_ask_28, N_X11_ask_29, N_X11_ask_32, N_X11_ask_35, N_X11_ask_36, N_X11_ask_37, N_X11_ask_38, N_X11_ask_41, N_X11_ask_42, N_X11_ask_45, N_X11_ask_46, N_X11_ask_47, N_X11_ask_48, N_X11_ask_51, N_X11_ask_52, N_X11_ask_55, N_X11_ask_56, N_X11_ask_57, N_X11_ask_60, N_X11_ask_61, N_X11_ask_62, N_X11_ask_65, N_X11_ask_68, N_X11_ask_69, if_true, if_false, ite_true, ite_false, not_false_eq_true, not_true_eq_false, isRf_ref, isRf_null, c1_int, c1_ref, c1_null, c1_none, rfv_some, rfv_none, Ok_s, tl_some, tl_none, List.nil_append, b2i_n1, b2i_n0, ↓reduceIte, nI_add, pk_mul, pk_sub, n_leT, n_leF, n_ltT, n_ltF, n_eqT, n_eqF, n_shl1, n_shl, n_shr, nI_and, nI_or, nI_xor, b2i_z, b2i_o, m1_n, n_m1, m1_lt, m1_le, n_lm1, n_em1, nI_m1, and1, and3, and7, and15, and63, and255, Bool.true_eq_false, Bool.false_eq_true, reduceCtorEq, Nat.reduceAdd, Nat.reduceMul, Nat.reduceSub, Nat.reduceDiv, Nat.reduceMod, Nat.reducePow, Nat.zero_add, Nat.one_mul, hp, hlt]
    exact ⟨_, _, rfl, hf1, hc1⟩
  | true =>
    obtain ⟨hd, hsi⟩ := hd1 hval
    have ho := hd.1.2.2.1 4327 (by decide) (by decide) (by decide)
    have hW := hd.1.2.2.1 4321 (by decide) (by decide) (by decide)
    have hp : aSight a set = nO (sgA a (stA a set)) := by unfold aSight; rw [hval]; rfl
    have hval' := hval
    simp only [Bool.and_eq_true] at hval'
    obtain ⟨s, hs4, rfl, hS⟩ := okSI_1 hval'.1
    have h0 : s ≠ 0 := by
      intro h
      subst h
      have := hval'.2
      simp at this
    have hst : stA a (nI s) = 8 * s + a 4327 := by unfold stA; rw [n_cl (by omega)]
    have hvk := stA_v hA hs4 hS h0
    have hv1 := vK_v hA hvk
    rw [hp, if_pos rfl, hst]
    have h101 := hsi _ hvk.1 hvk.2
    cases hsg : sgA a (8 * s + a 4327) with
    | none =>
      simp (disch := first | omega | exact c1_int _ | exact c1_none | exact c1_ref _ | exact isRf_ref _ | assumption | exact okRb _ | exact okN1 | exact okN0 | exact rfl) only [N_X11_ask_0, N_X11_ask_1, N_X11_ask_2, N_X11_ask_5, N_X11_ask_6, N_X11_ask_9, N_X11_ask_10, N_X11_ask_11, N_X11_ask_13, N_X11_ask_14, N_X11_ask_15, N_X11_ask_16, N_X11_ask_19, N_X11_ask_22, N_X11_ask_23, N_X11_ask_24, N_X11_ask_25, N_X11_ask_26, N_X11_ask_28, N_X11_ask_29, N_X11_ask_32, N_X11_ask_35, N_X11_ask_36, N_X11_ask_37, N_X11_ask_38, N_X11_ask_41, N_X11_ask_42, N_X11_ask_45, N_X11_ask_46, N_X11_ask_47, N_X11_ask_48, N_X11_ask_51, N_X11_ask_52, N_X11_ask_55, N_X11_ask_56, N_X11_ask_57, N_X11_ask_60, N_X11_ask_61, N_X11_ask_62, N_X11_ask_65, N_X11_ask_68, N_X11_ask_69, if_true, if_false, ite_true, ite_false, not_false_eq_true, not_true_eq_false, isRf_ref, isRf_null, c1_int, c1_ref, c1_null, c1_none, rfv_some, rfv_none, Ok_s, tl_some, tl_none, List.nil_append, b2i_n1, b2i_n0, ↓reduceIte, nI_add, pk_mul, pk_sub, n_leT, n_leF, n_ltT, n_ltF, n_eqT, n_eqF, n_shl1, n_shl, n_shr, nI_and, nI_or, nI_xor, b2i_z, b2i_o, m1_n, n_m1, m1_lt, m1_le, n_lm1, n_em1, nI_m1, and1, and3, and7, and15, and63, and255, Bool.true_eq_false, Bool.false_eq_true, reduceCtorEq, Nat.reduceAdd, Nat.reduceMul, Nat.reduceSub, Nat.reduceDiv, Nat.reduceMod, Nat.reducePow, Nat.zero_add, Nat.one_mul, nO_n, hlt]
      exact ⟨_, _, rfl, hf1, hc1⟩
    | some b' =>
      have hbl := sgA_lt hsg
      cases b' with
      | zero =>
        simp (disch := first | omega | exact c1_int _ | exact c1_none | exact c1_ref _ | exact isRf_ref _ | assumption | exact okRb _ | exact okN1 | exact okN0 | exact rfl) only [N_X11_ask_0, N_X11_ask_1, N_X11_ask_2, N_X11_ask_5, N_X11_ask_6, N_X11_ask_9, N_X11_ask_10, N_X11_ask_11, N_X11_ask_13, N_X11_ask_14, N_X11_ask_15, N_X11_ask_16, N_X11_ask_19, N_X11_ask_22, N_X11_ask_23, N_X11_ask_24, N_X11_ask_25, N_X11_ask_26, N_X11_ask_28, N_X11_ask_29, N_X11_ask_32, N_X11_ask_35, N_X11_ask_36, N_X11_ask_37, N_X11_ask_38, N_X11_ask_41, N_X11_ask_42, N_X11_ask_45, N_X11_ask_46, N_X11_ask_47, N_X11_ask_48, N_X11_ask_51, N_X11_ask_52, N_X11_ask_55, N_X11_ask_56, N_X11_ask_57, N_X11_ask_60, N_X11_ask_61, N_X11_ask_62, N_X11_ask_65, N_X11_ask_68, N_X11_ask_69, if_true, if_false, ite_true, ite_false, not_false_eq_true, not_true_eq_false, isRf_ref, isRf_null, c1_int, c1_ref, c1_null, c1_none, rfv_some, rfv_none, Ok_s, tl_some, tl_none, List.nil_append, b2i_n1, b2i_n0, ↓reduceIte, nI_add, pk_mul, pk_sub, n_leT, n_leF, n_ltT, n_ltF, n_eqT, n_eqF, n_shl1, n_shl, n_shr, nI_and, nI_or, nI_xor, b2i_z, b2i_o, m1_n, n_m1, m1_lt, m1_le, n_lm1, n_em1, nI_m1, and1, and3, and7, and15, and63, and255, Bool.true_eq_false, Bool.false_eq_true, reduceCtorEq, Nat.reduceAdd, Nat.reduceMul, Nat.reduceSub, Nat.reduceDiv, Nat.reduceMod, Nat.reducePow, Nat.zero_add, Nat.one_mul, nO_s]
        exact ⟨_, _, rfl, hf1, hc1⟩
      | succ b =>
        rw [hsg, nO_s] at h101
        simp (disch := first | omega | exact c1_int _ | exact c1_none | exact c1_ref _ | exact isRf_ref _ | assumption | exact okRb _ | exact okN1 | exact okN0 | exact rfl) only [N_X11_ask_0, N_X11_ask_1, N_X11_ask_2, N_X11_ask_5, N_X11_ask_6, N_X11_ask_9, N_X11_ask_10, N_X11_ask_11, N_X11_ask_13, N_X11_ask_14, N_X11_ask_15, N_X11_ask_16, N_X11_ask_19, N_X11_ask_22, N_X11_ask_23, N_X11_ask_24, N_X11_ask_25, N_X11_ask_26, N_X11_ask_28, N_X11_ask_29, N_X11_ask_32, N_X11_ask_35, N_X11_ask_36, N_X11_ask_37, N_X11_ask_38, N_X11_ask_41, N_X11_ask_42, N_X11_ask_45, N_X11_ask_46, N_X11_ask_47, N_X11_ask_48, N_X11_ask_51, N_X11_ask_52, N_X11_ask_55, N_X11_ask_56, N_X11_ask_57, N_X11_ask_60, N_X11_ask_61, N_X11_ask_62, N_X11_ask_65, N_X11_ask_68, N_X11_ask_69, if_true, if_false, ite_true, ite_false, not_false_eq_true, not_true_eq_false, isRf_ref, isRf_null, c1_int, c1_ref, c1_null, c1_none, rfv_some, rfv_none, Ok_s, tl_some, tl_none, List.nil_append, b2i_n1, b2i_n0, ↓reduceIte, nI_add, pk_mul, pk_sub, n_leT, n_leF, n_ltT, n_ltF, n_eqT, n_eqF, n_shl1, n_shl, n_shr, nI_and, nI_or, nI_xor, b2i_z, b2i_o, m1_n, n_m1, m1_lt, m1_le, n_lm1, n_em1, nI_m1, and1, and3, and7, and15, and63, and255, Bool.true_eq_false, Bool.false_eq_true, reduceCtorEq, Nat.reduceAdd, Nat.reduceMul, Nat.reduceSub, Nat.reduceDiv, Nat.reduceMod, Nat.reducePow, Nat.zero_add, Nat.one_mul, nO_s, ho]
        show G_X11_ask xs Ln (d + 105) 27 _ _ _ (fun q => ∃ I' L', q = (mkW D I' L', some (.int (nO (akN a (8 * s + a 4327) (b + 1))))) ∧ QF I I' ∧ RIc I' a v)
        have hcall := fun wd (hw : wd < a 4321) => r_sightBehind (xs := xs) (Ln := Ln) (d := d + 102) (D := D) (L := L1) (s := sgA a) hd.1 hd.2.2.1 hA hv1 hw hsi (fun k x hx => by have := sgA_lt hx; omega)
        refine Lp (n := a 4321) (σ := Unit) (E := fun i _ => G_X11_ask xs Ln (d + 105) 27 [some (.ref 82), some (.int (nI s)), some (.int (nI (8 * s + a 4327))), some (.int (nI i))] [] (mkW D I1 L1) _) (Inv := fun i _ => ∀ j, j < i → (match svB a (sgA a) (8 * s + a 4327) j with
          | none => false
          | some v => decide (v < b + 1)) = false) ?_ ?_ 0 () (by omega) (fun j hj => by omega)
        · rintro _ hno
          have hn : akN a (8 * s + a 4327) (b + 1) = none := (lst_n _ _).mpr hno
          simp (disch := first | omega | exact c1_int _ | exact c1_none | exact c1_ref _ | exact isRf_ref _ | assumption | exact okRb _ | exact okN1 | exact okN0 | exact rfl) only [N_X11_ask_0, N_X11_ask_1, N_X11_ask_2, N_X11_ask_5, N_X11_ask_6, N_X11_ask_9, N_X11_ask_10, N_X11_ask_11, N_X11_ask_13, N_X11_ask_14, N_X11_ask_15, N_X11_ask_16, N_X11_ask_19, N_X11_ask_22, N_X11_ask_23, N_X11_ask_24, N_X11_ask_25, N_X11_ask_26, N_X11_ask_27, N_X11_ask_28, N_X11_ask_29, N_X11_ask_32, N_X11_ask_35, N_X11_ask_36, N_X11_ask_37, N_X11_ask_38, N_X11_ask_41, N_X11_ask_42, N_X11_ask_45, N_X11_ask_46, N_X11_ask_47, N_X11_ask_48, N_X11_ask_51, N_X11_ask_52, N_X11_ask_55, N_X11_ask_56, N_X11_ask_57, N_X11_ask_60, N_X11_ask_61, N_X11_ask_62, N_X11_ask_65, N_X11_ask_68, N_X11_ask_69, if_true, if_false, ite_true, ite_false, not_false_eq_true, not_true_eq_false, isRf_ref, isRf_null, c1_int, c1_ref, c1_null, c1_none, rfv_some, rfv_none, Ok_s, tl_some, tl_none, List.nil_append, b2i_n1, b2i_n0, ↓reduceIte, nI_add, pk_mul, pk_sub, n_leT, n_leF, n_ltT, n_ltF, n_eqT, n_eqF, n_shl1, n_shl, n_shr, nI_and, nI_or, nI_xor, b2i_z, b2i_o, m1_n, n_m1, m1_lt, m1_le, n_lm1, n_em1, nI_m1, and1, and3, and7, and15, and63, and255, Bool.true_eq_false, Bool.false_eq_true, reduceCtorEq, Nat.reduceAdd, Nat.reduceMul, Nat.reduceSub, Nat.reduceDiv, Nat.reduceMod, Nat.reducePow, Nat.zero_add, Nat.one_mul, c_words, hW, hn, nO_n]
          exact ⟨_, _, rfl, hf1, hc1⟩
        · rintro i _ hi hno ih
          have hcl := hcall i hi
          rw [N_X11_ask_27]
          cases hsv : svB a (sgA a) (8 * s + a 4327) i with
          | none =>
            rw [hsv, nO_n] at hcl
            simp (disch := first | omega | exact c1_int _ | exact c1_none | exact c1_ref _ | exact isRf_ref _ | assumption | exact okRb _ | exact okN1 | exact okN0 | exact rfl) only [N_X11_ask_0, N_X11_ask_1, N_X11_ask_2, N_X11_ask_5, N_X11_ask_6, N_X11_ask_9, N_X11_ask_10, N_X11_ask_11, N_X11_ask_13, N_X11_ask_14, N_X11_ask_15, N_X11_ask_16, N_X11_ask_19, N_X11_ask_22, N_X11_ask_23, N_X11_ask_24, N_X11_ask_25, N_X11_ask_26, N_X11_ask_28, N_X11_ask_29, N_X11_ask_32, N_X11_ask_35, N_X11_ask_36, N_X11_ask_37, N_X11_ask_38, N_X11_ask_41, N_X11_ask_42, N_X11_ask_45, N_X11_ask_46, N_X11_ask_47, N_X11_ask_48, N_X11_ask_51, N_X11_ask_52, N_X11_ask_55, N_X11_ask_56, N_X11_ask_57, N_X11_ask_60, N_X11_ask_61, N_X11_ask_62, N_X11_ask_65, N_X11_ask_68, N_X11_ask_69, if_true, if_false, ite_true, ite_false, not_false_eq_true, not_true_eq_false, isRf_ref, isRf_null, c1_int, c1_ref, c1_null, c1_none, rfv_some, rfv_none, Ok_s, tl_some, tl_none, List.nil_append, b2i_n1, b2i_n0, ↓reduceIte, nI_add, pk_mul, pk_sub, n_leT, n_leF, n_ltT, n_ltF, n_eqT, n_eqF, n_shl1, n_shl, n_shr, nI_and, nI_or, nI_xor, b2i_z, b2i_o, m1_n, n_m1, m1_lt, m1_le, n_lm1, n_em1, nI_m1, and1, and3, and7, and15, and63, and255, Bool.true_eq_false, Bool.false_eq_true, reduceCtorEq, Nat.reduceAdd, Nat.reduceMul, Nat.reduceSub, Nat.reduceDiv, Nat.reduceMod, Nat.reducePow, Nat.zero_add, Nat.one_mul, c_words, hW, hcl]
            refine ih () (fun j hj => ?_)
            by_cases hji : j = i
            · rw [hji, hsv]
            · exact hno j (by omega)
          | some x =>
            have hxl : x < 40000 := by
              have hx : ∀ n v, mxC (sgA a) (ptA a (8 * s + a 4327) i) (dbA a i ((8 * s + a 4327) % 8)) n = some v → v < 40000 := by
                intro n
                induction n with
                | zero => intro v h; cases h; decide
                | succ n ihn =>
                  intro v h
                  unfold mxC at h
                  cases hm : mxC (sgA a) (ptA a (8 * s + a 4327) i) (dbA a i ((8 * s + a 4327) % 8)) n with
                  | none => rw [hm] at h; cases h
                  | some m =>
                    rw [hm] at h
                    have hml := ihn m hm
                    dsimp only at h
                    split at h
                    · cases h; exact hml
                    · split at h
                      · cases h
                      · rename_i u hu
                        have := sgA_lt hu
                        have := Option.some.inj h
                        split at this <;> omega
              unfold svB at hsv
              split at hsv
              · cases hsv
              · exact hx 4 x hsv
            rw [hsv, nO_s] at hcl
            by_cases hxb : x < b + 1
            · have hs1 : akN a (8 * s + a 4327) (b + 1) = some i := (lst_s _ _ _).mpr ⟨hi, by rw [hsv]; exact decide_eq_true hxb, hno⟩
              simp (disch := first | omega | exact c1_int _ | exact c1_none | exact c1_ref _ | exact isRf_ref _ | assumption | exact okRb _ | exact okN1 | exact okN0 | exact rfl) only [N_X11_ask_0, N_X11_ask_1, N_X11_ask_2, N_X11_ask_5, N_X11_ask_6, N_X11_ask_9, N_X11_ask_10, N_X11_ask_11, N_X11_ask_13, N_X11_ask_14, N_X11_ask_15, N_X11_ask_16, N_X11_ask_19, N_X11_ask_22, N_X11_ask_23, N_X11_ask_24, N_X11_ask_25, N_X11_ask_26, N_X11_ask_28, N_X11_ask_29, N_X11_ask_32, N_X11_ask_35, N_X11_ask_36, N_X11_ask_37, N_X11_ask_38, N_X11_ask_41, N_X11_ask_42, N_X11_ask_45, N_X11_ask_46, N_X11_ask_47, N_X11_ask_48, N_X11_ask_51, N_X11_ask_52, N_X11_ask_55, N_X11_ask_56, N_X11_ask_57, N_X11_ask_60, N_X11_ask_61, N_X11_ask_62, N_X11_ask_65, N_X11_ask_68, N_X11_ask_69, if_true, if_false, ite_true, ite_false, not_false_eq_true, not_true_eq_false, isRf_ref, isRf_null, c1_int, c1_ref, c1_null, c1_none, rfv_some, rfv_none, Ok_s, tl_some, tl_none, List.nil_append, b2i_n1, b2i_n0, ↓reduceIte, nI_add, pk_mul, pk_sub, n_leT, n_leF, n_ltT, n_ltF, n_eqT, n_eqF, n_shl1, n_shl, n_shr, nI_and, nI_or, nI_xor, b2i_z, b2i_o, m1_n, n_m1, m1_lt, m1_le, n_lm1, n_em1, nI_m1, and1, and3, and7, and15, and63, and255, Bool.true_eq_false, Bool.false_eq_true, reduceCtorEq, Nat.reduceAdd, Nat.reduceMul, Nat.reduceSub, Nat.reduceDiv, Nat.reduceMod, Nat.reducePow, Nat.zero_add, Nat.one_mul, c_words, hW, hcl, h101, hs1, nO_s]
              exact ⟨_, _, rfl, hf1, hc1⟩
            · simp (disch := first | omega | exact c1_int _ | exact c1_none | exact c1_ref _ | exact isRf_ref _ | assumption | exact okRb _ | exact okN1 | exact okN0 | exact rfl) only [N_X11_ask_0, N_X11_ask_1, N_X11_ask_2, N_X11_ask_5, N_X11_ask_6, N_X11_ask_9, N_X11_ask_10, N_X11_ask_11, N_X11_ask_13, N_X11_ask_14, N_X11_ask_15, N_X11_ask_16, N_X11_ask_19, N_X11_ask_22, N_X11_ask_23, N_X11_ask_24, N_X11_ask_25, N_X11_ask_26, N_X11_ask_28, N_X11_ask_29, N_X11_ask_32, N_X11_ask_35, N_X11_ask_36, N_X11_ask_37, N_X11_ask_38, N_X11_ask_41, N_X11_ask_42, N_X11_ask_45, N_X11_ask_46, N_X11_ask_47, N_X11_ask_48, N_X11_ask_51, N_X11_ask_52, N_X11_ask_55, N_X11_ask_56, N_X11_ask_57, N_X11_ask_60, N_X11_ask_61, N_X11_ask_62, N_X11_ask_65, N_X11_ask_68, N_X11_ask_69, if_true, if_false, ite_true, ite_false, not_false_eq_true, not_true_eq_false, isRf_ref, isRf_null, c1_int, c1_ref, c1_null, c1_none, rfv_some, rfv_none, Ok_s, tl_some, tl_none, List.nil_append, b2i_n1, b2i_n0, ↓reduceIte, nI_add, pk_mul, pk_sub, n_leT, n_leF, n_ltT, n_ltF, n_eqT, n_eqF, n_shl1, n_shl, n_shr, nI_and, nI_or, nI_xor, b2i_z, b2i_o, m1_n, n_m1, m1_lt, m1_le, n_lm1, n_em1, nI_m1, and1, and3, and7, and15, and63, and255, Bool.true_eq_false, Bool.false_eq_true, reduceCtorEq, Nat.reduceAdd, Nat.reduceMul, Nat.reduceSub, Nat.reduceDiv, Nat.reduceMod, Nat.reducePow, Nat.zero_add, Nat.one_mul, c_words, hW, hcl, h101]
              refine ih () (fun j hj => ?_)
              by_cases hji : j = i
              · rw [hji, hsv]; exact decide_eq_false hxb
              · exact hno j (by omega)
end P75
