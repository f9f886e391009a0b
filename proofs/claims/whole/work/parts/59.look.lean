section P59
variable {xs : Nat → Int32} {Ln d : Nat} {D : Dyn} {I : Nat → Nat → Int32} {L : Nat → Nat → Int64} {w : Om}
/-! The maze in whole numbers: a, laid out as the reference keeps it; where a word may be missing, one more. -/
def nM (x : Nat) : Int32 := match x with
  | 0 => m1
  | y + 1 => nI y
theorem nM_0 : nM 0 = m1 := id rfl
theorem nM_s (y : Nat) : nM (y + 1) = nI y := id rfl
def RK (I : Nat → Nat → Int32) (a : Nat → Nat) : Prop := (∀ j, j < 124 → I 84 j = nI (a j)) ∧ (∀ j, j < 16 → I 84 (124 + j) = nM (a (124 + j))) ∧ (∀ j, 140 ≤ j → j < 9134 → j ≠ 4326 → I 84 j = nI (a j)) ∧ I 84 4326 = nM (a 4326)
def tkA (a : Nat → Nat) (t j : Nat) : Nat := if j < a (4328 + t) then a (4334 + (400 * t + j)) else 0
def vlA (a : Nat → Nat) (t j : Nat) : Nat := if j < a (4328 + t) then a (6734 + (400 * t + j)) else 0
def LwOK (a : Nat → Nat) (t : Nat) : Prop := a (4328 + t) ≤ 400 ∧ (∀ j, tkA a t j < 400) ∧ (∀ j, vlA a t j < 2147483648) ∧ ∃ c cls, rdL (tkA a t) (vlA a t) (a (4328 + t)) 12 0 0 0 = .inr (c, cls)
def clsT (a : Nat → Nat) (t : Nat) : List Cl := match rdL (tkA a t) (vlA a t) (a (4328 + t)) 12 0 0 0 with
  | .inr y => y.2
  | .inl _ => []
def clsA (a : Nat → Nat) : List Cl := if a 4326 = 0 then [] else clsT a (a 4326 - 1)
def fct (w p k c e : Nat) : Fc := fun j => if j = 0 then w else if j = 1 then p else if j = 2 then k else if j = 3 then c else if j = 4 then e % 2 else if j = 5 then e / 2 % 2 else if j = 6 then e / 4 % 2 else 0
theorem fct_le {w p k c e : Nat} (hw : w ≤ 1000) (hp : p ≤ 1000) (hk : k ≤ 1000) (hc : c ≤ 1000) (j : Nat) : fct w p k c e j ≤ 1000 := by
  unfold fct
  split
  · exact hw
  · split
    · exact hp
    · split
      · exact hk
      · split
        · exact hc
        · split
          · omega
          · split
            · omega
            · split
              · omega
              · omega
def goA (a : Nat → Nat) (k w e p : Nat) : Nat := if a (124 + (8 * k + w)) = 0 then p else
  (match askF 1 (fct (a (124 + (8 * k + w)) - 1) p k (a p) e) (clsA a) none with
  | some v => if 0 ≤ v ∧ v < a 4320 then v.toNat else a (28 + 12 * (a (124 + (8 * k + w)) - 1) + p)
  | none => a (28 + 12 * (a (124 + (8 * k + w)) - 1) + p))
def brA (a : Nat → Nat) (w e : Nat) : Bool := (askF 2 (fct w 0 0 0 e) (clsA a) none).isSome
def smN (f : Nat → Nat) : Nat → Nat
  | 0 => 0
  | n + 1 => smN f n + f n
def AW (a : Nat → Nat) : Prop :=
  a 4320 ≤ 12 ∧ a 4321 ≤ 8 ∧ a 4322 ≤ 12 ∧ a 4323 ≤ 60 ∧ a 4324 ≤ 200 ∧ a 4325 ≤ 6 ∧ a 4326 ≤ a 4325 ∧ a 4327 < 8 ∧
  (∀ p, p < a 4320 → a p < 4) ∧
  (∀ w, w < a 4321 → a (12 + 2 * w) < 8 ∧ a (12 + 2 * w + 1) < 8) ∧
  (∀ w p, w < a 4321 → p < 12 → (p < a 4320 → a (28 + 12 * w + p) < a 4320) ∧ (a 4320 ≤ p → a (28 + 12 * w + p) = p)) ∧
  (∀ k w, k < 2 → w < a 4321 → a (124 + (8 * k + w)) ≤ a 4321) ∧
  (∀ i, i < a 4322 → a (140 + 2 * i) < a 4320 ∧ a (140 + 2 * i + 1) < 2) ∧
  (∀ i, i < a 4323 → a (164 + i) < a 4321) ∧
  (∀ t, t < a 4325 → LwOK a t) ∧
  smN (fun s => a (224 + s)) 4096 = a 4324
theorem rdL_b {tk vl : Nat → Nat} {n : Nat} {F : Fc} (hF : ∀ j, F j ≤ 1000) : ∀ k pos lv sz c cls, rdL tk vl n k pos lv sz = .inr (c, cls) → ∀ cl, cl ∈ cls → ∀ x, cl.2.2.2.2.1 F = some x → sml x := by
  intro k
  induction k with
  | zero => intro pos lv sz c cls h; cases h
  | succ k ih =>
    intro pos lv sz c cls h cl hcl x hx
    unfold rdL at h
    split at h
    · cases h
    · rename_i p2 l2 c2 cl2 hC
      have hd1 : ∀ x, d1 F = some x → sml x := by
        intro x hx
        have : (1 : Int) = x := by
          unfold d1 at hx
          simpa using hx
        rw [← this]
        unfold sml
        omega
      have h2 : ∀ x, cl2.2.2.2.2.1 F = some x → sml x := by
        intro x hx
        have hT : ∀ h p l c ds, rdT tk vl h p l sz c ds = .inr (p2, l2, c2, cl2) → cl2.2.2.2.2.1 = ds := by
          intro h p l c ds hr
          rcases rdT_i hr with ⟨_, _, _, _, _, rfl⟩ | ⟨_, _, _, _, rfl⟩ <;> rfl
        rcases rdC_i hC with ⟨h1, p1, l1, c1', e1, h4, h5⟩ | ⟨h2, h5⟩
        · rw [hT _ _ _ _ _ h5] at hx
          exact (rd_dn hF 4000 _ _ _ _ _ _ p1 l1 c1' e1 (by omega) h4 (fun h => by omega) x hx).1
        · rw [hT _ _ _ _ _ h5] at hx
          exact hd1 x hx
      split at h
      · split at h
        · cases h
        · rename_i c3 cs h3
          cases h
          rcases List.mem_cons.mp hcl with rfl | hm
          · exact h2 x hx
          · exact ih _ _ _ _ _ h3 cl hm x hx
      · split at h
        · cases h
          rw [List.mem_singleton] at hcl
          subst hcl
          exact h2 x hx
        · cases h
theorem askF_m {hd : Nat} {F : Fc} {P : Int → Prop} : ∀ (cls : List Cl) (o : Option Int), (∀ v, o = some v → P v) → (∀ cl, cl ∈ cls → ∀ v, cl.2.2.2.2.1 F = some v → P v) → ∀ v, askF hd F cls o = some v → P v
  | [], o, ho, _, v, h => ho v h
  | cl :: cs, o, ho, hc, v, h => by
    refine askF_m cs (askS hd F cl o) ?_ (fun cl' hm => hc cl' (List.mem_cons_of_mem _ hm)) v h
    intro x hx
    unfold askS at hx
    split at hx
    · exact hc cl List.mem_cons_self x hx
    · exact ho x hx
theorem clsA_b {a : Nat → Nat} {hd : Nat} {F : Fc} (hF : ∀ j, F j ≤ 1000) (v : Int) (h : askF hd F (clsA a) none = some v) : sml v := by
  refine askF_m (P := sml) (clsA a) none (fun v h => by cases h) ?_ v h
  intro cl hcl x hx
  unfold clsA at hcl
  split at hcl
  · cases hcl
  · unfold clsT at hcl
    split at hcl
    · rename_i y hy
      exact rdL_b hF _ _ _ _ y.1 y.2 hy cl hcl x hx
    · cases hcl
theorem goA_lt {a : Nat → Nat} (hA : AW a) {k w e p : Nat} (hk : k < 2) (hw : w < a 4321) (hp : p < a 4320) : goA a k w e p < a 4320 := by
  obtain ⟨h1, h2, h3, h4, h5, h6, h7, h8, h9, h10, h11, h12, h13, h14, h15, h16⟩ := hA
  have hh := h12 k w hk hw
  have hl : ∀ s, s < a 4321 → a (28 + 12 * s + p) < a 4320 := fun s hs => (h11 s p hs (by omega)).1 hp
  unfold goA
  split
  · exact hp
  · rename_i h0
    have := hl (a (124 + (8 * k + w)) - 1) (by omega)
    split
    · split
      · omega
      · exact this
    · exact this
/-- what looking at the law may change -/
def FA (I I' : Nat → Nat → Int32) : Prop := (∀ k, k ≠ 82 → k ≠ 93 → I' k = I k) ∧ (∀ j, j < 19 ∨ 24 < j → I' 82 j = I 82 j)
theorem FA.tr {I I' I'' : Nat → Nat → Int32} (h : FA I I') (h' : FA I' I'') : FA I I'' := ⟨fun k h1 h2 => by rw [h'.1 k h1 h2, h.1 k h1 h2], fun j hj => by rw [h'.2 j hj, h.2 j hj]⟩
theorem FA.rk {I I' : Nat → Nat → Int32} {a : Nat → Nat} (h : FA I I') (hK : RK I a) : RK I' a := by
  have := h.1 84 (by decide) (by decide)
  unfold RK
  rw [this]
  exact hK
theorem r_asks {a : Nat → Nat} {hd : Nat} {F : Fc} (hK : RK I a) (hA : AW a) (hF : ∀ j, j < 7 → I 93 j = nI (F j)) (hFb : ∀ j, F j ≤ 1000) (hhd : hd < 400) : Ok (callD xs Ln (d + 101) 209 [.ref 82, .int (nI hd)] (mkW D I L)) (fun q => ∃ I' L', q = (mkW D I' L', none) ∧ FA I I' ∧ I' 93 = I 93 ∧ I' 82 24 = b2i (askF hd F (clsA a) none).isSome ∧ (hd = 1 → ∀ v, askF hd F (clsA a) none = some v → L' 82 23 = lI v)) := by
  obtain ⟨k1, k2, k3, k4⟩ := hK
  have h15 := hA.2.2.2.2.2.2.2.2.2.2.2.2.2.2.1
  have h6 := hA.2.2.2.2.2.1
  have h7 := hA.2.2.2.2.2.2.1
  refine semG (lo := [some (.ref 82), some (.int (nI hd)), none, none, none, none, none]) rfl rfl (Nat.le_of_ble_eq_true rfl) rfl (show G_X11_asks xs Ln _ 0 [some (.ref 82), some (.int (nI hd)), none, none, none, none, none] [] _ _ from ?_)
  cases hf : a 4326 with
  | zero =>
    rw [hf, nM_0] at k4
    have e0 : up2 I 82 24 (nI 0) 84 4326 = m1 := by rw [up2_k _ _ _ _ (by decide), k4]
    simp (disch := first | omega | exact c1_int _ | exact c1_none | exact c1_ref _ | exact isRf_ref _ | assumption | exact okRb _ | exact okN1 | exact okN0 | exact rfl) only [N_X11_asks_0, N_X11_asks_1, N_X11_asks_2, N_X11_asks_5, N_X11_asks_6, N_X11_asks_7, N_X11_asks_10, N_X11_asks_11, N_X11_asks_14, N_X11_asks_17, N_X11_asks_18, N_X11_asks_19, N_X11_asks_22, N_X11_asks_23, N_X11_asks_24, N_X11_asks_27, N_X11_asks_28, N_X11_asks_31, N_X11_asks_34, N_X11_asks_35, N_X11_asks_36, N_X11_asks_39, N_X11_asks_40, N_X11_asks_41, N_X11_asks_44, N_X11_asks_45, N_X11_asks_48, N_X11_asks_51, N_X11_asks_52, N_X11_asks_55, N_X11_asks_58, N_X11_asks_59, N_X11_asks_60, N_X11_asks_61, N_X11_asks_62, N_X11_asks_66, N_X11_asks_69, N_X11_asks_70, N_X11_asks_73, N_X11_asks_76, N_X11_asks_77, N_X11_asks_78, N_X11_asks_81, N_X11_asks_82, N_X11_asks_83, N_X11_asks_86, N_X11_asks_89, N_X11_asks_90, N_X11_asks_91, N_X11_asks_92, N_X11_asks_95, N_X11_asks_96, N_X11_asks_97, N_X11_asks_100, N_X11_asks_101, N_X11_asks_102, N_X11_asks_105, N_X11_asks_106, N_X11_asks_107, N_X11_asks_110, N_X11_asks_113, N_X11_asks_114, N_X11_asks_115, N_X11_asks_116, N_X11_asks_119, N_X11_asks_121, N_X11_asks_122, N_X11_asks_123, N_X11_asks_126, N_X11_asks_127, N_X11_asks_128, N_X11_asks_131, N_X11_asks_134, N_X11_asks_135, N_X11_asks_136, N_X11_asks_139, N_X11_asks_142, N_X11_asks_143, N_X11_asks_146, N_X11_asks_147, N_X11_asks_149, N_X11_asks_151, N_X11_asks_154, N_X11_asks_155, N_X11_asks_158, N_X11_asks_161, N_X11_asks_163, N_X11_asks_166, N_X11_asks_167, N_X11_asks_168, N_X11_asks_171, N_X11_asks_172, N_X11_asks_175, N_X11_asks_176, N_X11_asks_178, N_X11_asks_179, N_X11_asks_180, N_X11_asks_183, N_X11_asks_184, N_X11_asks_185, N_X11_asks_188, N_X11_asks_190, N_X11_asks_193, N_X11_asks_196, N_X11_asks_197, N_X11_asks_198, N_X11_asks_201, N_X11_asks_202, N_X11_asks_203, N_X11_asks_206, N_X11_asks_209, if_true, if_false, ite_true, ite_false, not_false_eq_true, not_true_eq_false, isRf_ref, isRf_null, c1_int, c1_ref, c1_null, c1_none, rfv_some, rfv_none, Ok_s, tl_some, tl_none, List.nil_append, b2i_n1, b2i_n0, ↓reduceIte, nI_add, pk_mul, pk_sub, n_leT, n_leF, n_ltT, n_ltF, n_eqT, n_eqF, n_shl1, n_shl, n_shr, nI_and, nI_or, nI_xor, b2i_z, b2i_o, m1_n, n_m1, m1_lt, m1_le, n_lm1, n_em1, nI_m1, and1, and3, and7, and15, and63, and255, Bool.true_eq_false, Bool.false_eq_true, reduceCtorEq, Nat.reduceAdd, Nat.reduceMul, Nat.reduceSub, Nat.reduceDiv, Nat.reduceMod, Nat.reducePow, Nat.zero_add, Nat.one_mul, e0]
    refine ⟨_, _, rfl, ⟨fun k h1 h2 => up2_ro _ _ _ h1, fun j hj => up2_j _ _ _ (by omega)⟩, up2_ro _ _ _ (by decide), ?_, ?_⟩
    · rw [up2_s]
      unfold clsA
      rw [if_pos hf]
      rfl
    · intro _ v hv
      unfold clsA at hv
      rw [if_pos hf] at hv
      cases hv
  | succ t =>
    rw [hf, nM_s] at k4
    have ht : t < a 4325 := by omega
    obtain ⟨hsz, htk, hvl, c, cls, hr⟩ := h15 t ht
    have k5 := k3 (4328 + t) (by omega) (by omega) (by omega)
    have e0 : up2 I 82 24 (nI 0) 84 4326 = nI t := by rw [up2_k _ _ _ _ (by decide), k4]
    have e1 : ∀ x, up2 (up2 I 82 24 (nI 0)) 82 19 x 84 4326 = nI t := fun x => by rw [up2_k _ _ _ _ (by decide), e0]
    have e2 : ∀ x, up2 (up2 I 82 24 (nI 0)) 82 19 x 84 (4328 + t) = nI (a (4328 + t)) := fun x => by rw [up2_k _ _ _ _ (by decide), up2_k _ _ _ _ (by decide), k5]
    have hcls : clsA a = cls := by
      unfold clsA clsT
      rw [if_neg (by omega), hf, show t + 1 - 1 = t by omega, hr]
    rw [hcls]
    simp (disch := first | omega | exact c1_int _ | exact c1_none | exact c1_ref _ | exact isRf_ref _ | assumption | exact okRb _ | exact okN1 | exact okN0 | exact rfl) only [N_X11_asks_0, N_X11_asks_1, N_X11_asks_2, N_X11_asks_5, N_X11_asks_6, N_X11_asks_7, N_X11_asks_10, N_X11_asks_11, N_X11_asks_14, N_X11_asks_17, N_X11_asks_18, N_X11_asks_19, N_X11_asks_22, N_X11_asks_23, N_X11_asks_24, N_X11_asks_27, N_X11_asks_28, N_X11_asks_31, N_X11_asks_34, N_X11_asks_35, N_X11_asks_36, N_X11_asks_39, N_X11_asks_40, N_X11_asks_41, N_X11_asks_44, N_X11_asks_45, N_X11_asks_48, N_X11_asks_51, N_X11_asks_52, N_X11_asks_55, N_X11_asks_58, N_X11_asks_59, N_X11_asks_60, N_X11_asks_61, N_X11_asks_62, N_X11_asks_66, N_X11_asks_69, N_X11_asks_70, N_X11_asks_73, N_X11_asks_76, N_X11_asks_77, N_X11_asks_78, N_X11_asks_81, N_X11_asks_82, N_X11_asks_83, N_X11_asks_86, N_X11_asks_89, N_X11_asks_90, N_X11_asks_91, N_X11_asks_92, N_X11_asks_95, N_X11_asks_96, N_X11_asks_97, N_X11_asks_100, N_X11_asks_101, N_X11_asks_102, N_X11_asks_105, N_X11_asks_106, N_X11_asks_107, N_X11_asks_110, N_X11_asks_113, N_X11_asks_114, N_X11_asks_115, N_X11_asks_116, N_X11_asks_119, N_X11_asks_121, N_X11_asks_122, N_X11_asks_123, N_X11_asks_126, N_X11_asks_127, N_X11_asks_128, N_X11_asks_131, N_X11_asks_134, N_X11_asks_135, N_X11_asks_136, N_X11_asks_139, N_X11_asks_142, N_X11_asks_143, N_X11_asks_146, N_X11_asks_147, N_X11_asks_149, N_X11_asks_151, N_X11_asks_154, N_X11_asks_155, N_X11_asks_158, N_X11_asks_161, N_X11_asks_163, N_X11_asks_166, N_X11_asks_167, N_X11_asks_168, N_X11_asks_171, N_X11_asks_172, N_X11_asks_175, N_X11_asks_176, N_X11_asks_178, N_X11_asks_179, N_X11_asks_180, N_X11_asks_183, N_X11_asks_184, N_X11_asks_185, N_X11_asks_188, N_X11_asks_190, N_X11_asks_193, N_X11_asks_196, N_X11_asks_197, N_X11_asks_198, N_X11_asks_201, N_X11_asks_202, N_X11_asks_203, N_X11_asks_206, N_X11_asks_209, if_true, if_false, ite_true, ite_false, not_false_eq_true, not_true_eq_false, isRf_ref, isRf_null, c1_int, c1_ref, c1_null, c1_none, rfv_some, rfv_none, Ok_s, tl_some, tl_none, List.nil_append, b2i_n1, b2i_n0, ↓reduceIte, nI_add, pk_mul, pk_sub, n_leT, n_leF, n_ltT, n_ltF, n_eqT, n_eqF, n_shl1, n_shl, n_shr, nI_and, nI_or, nI_xor, b2i_z, b2i_o, m1_n, n_m1, m1_lt, m1_le, n_lm1, n_em1, nI_m1, and1, and3, and7, and15, and63, and255, Bool.true_eq_false, Bool.false_eq_true, reduceCtorEq, Nat.reduceAdd, Nat.reduceMul, Nat.reduceSub, Nat.reduceDiv, Nat.reduceMod, Nat.reducePow, Nat.zero_add, Nat.one_mul, e0, e1, e2, up2_s, ast0]
    refine r_asksL (tk := tkA a t) (vl := vlA a t) (bs := 400 * t) (n := a (4328 + t)) (F := F) (o := none) hhd rfl ?_ (by omega) 12 0 0 0 c cls _ _ _ _ _ _ _ hr (by omega) (fun _ v hv => by cases hv) ?_
    · intro tl
      refine ⟨by omega, hsz, by simp [ast, up2], ?_, ?_, ?_, htk, hvl, ?_, hFb⟩
      · intro j hj
        have := k3 (4334 + (400 * t + j)) (by omega) (by omega) (by omega)
        simp only [ast, up2, tkA, if_pos hj]
        simp [this]
      · intro j hj
        have := k3 (6734 + (400 * t + j)) (by omega) (by omega) (by omega)
        simp only [ast, up2, vlA, if_pos hj]
        simp [this]
      · intro j hj
        unfold tkA
        rw [if_neg (by omega)]
      · intro j hj
        simp [ast, up2, hF j hj]
    · intro g' x' L' h'
      refine ⟨_, _, rfl, ⟨fun k h1 h2 => ?_, fun j hj => ?_⟩, ?_, ?_, h'⟩
      · funext j
        simp [estx, ast, up2, h1]
      · have a1 : j ≠ 19 := by omega
        have a2 : j ≠ 20 := by omega
        have a3 : j ≠ 21 := by omega
        have a4 : j ≠ 24 := by omega
        simp [estx, ast, up2, a1, a2, a3, a4]
      · funext j
        simp [estx, ast, up2]
      · simp [estx, ast, up2]
theorem r_asksOf {w p k c e : Nat} (he : e < 8) : Ok (callD xs Ln (d + 1) 210 [.ref 82, .int (nI w), .int (nI p), .int (nI k), .int (nI c), .int (nI e)] (mkW D I L)) (fun q => ∃ I', q = (mkW D I' L, none) ∧ FA I I' ∧ (∀ j, j < 7 → I' 93 j = nI (fct w p k c e j)) ∧ I' 82 = I 82) := by
  refine semG (lo := [some (.ref 82), some (.int (nI w)), some (.int (nI p)), some (.int (nI k)), some (.int (nI c)), some (.int (nI e)), none]) rfl rfl (Nat.le_of_ble_eq_true rfl) rfl (show G_X11_asksOf xs Ln _ 0 [some (.ref 82), some (.int (nI w)), some (.int (nI p)), some (.int (nI k)), some (.int (nI c)), some (.int (nI e)), none] [] _ _ from ?_)
  simp (disch := first | omega | exact c1_int _ | exact c1_none | exact c1_ref _ | exact isRf_ref _ | assumption | exact okRb _ | exact okN1 | exact okN0 | exact rfl) only [N_X11_asksOf_0, N_X11_asksOf_1, N_X11_asksOf_4, N_X11_asksOf_5, N_X11_asksOf_6, N_X11_asksOf_7, N_X11_asksOf_8, N_X11_asksOf_11, N_X11_asksOf_12, N_X11_asksOf_13, N_X11_asksOf_14, N_X11_asksOf_15, N_X11_asksOf_18, N_X11_asksOf_19, N_X11_asksOf_20, N_X11_asksOf_21, N_X11_asksOf_22, N_X11_asksOf_25, N_X11_asksOf_26, N_X11_asksOf_28, N_X11_asksOf_29, N_X11_asksOf_30, N_X11_asksOf_32, N_X11_asksOf_34, N_X11_asksOf_35, N_X11_asksOf_38, N_X11_asksOf_39, N_X11_asksOf_42, N_X11_asksOf_43, N_X11_asksOf_45, N_X11_asksOf_46, N_X11_asksOf_48, N_X11_asksOf_50, N_X11_asksOf_51, N_X11_asksOf_52, N_X11_asksOf_53, N_X11_asksOf_54, N_X11_asksOf_57, N_X11_asksOf_60, if_true, if_false, ite_true, ite_false, not_false_eq_true, not_true_eq_false, isRf_ref, isRf_null, c1_int, c1_ref, c1_null, c1_none, rfv_some, rfv_none, Ok_s, tl_some, tl_none, List.nil_append, b2i_n1, b2i_n0, ↓reduceIte, nI_add, pk_mul, pk_sub, n_leT, n_leF, n_ltT, n_ltF, n_eqT, n_eqF, n_shl1, n_shl, n_shr, nI_and, nI_or, nI_xor, b2i_z, b2i_o, m1_n, n_m1, m1_lt, m1_le, n_lm1, n_em1, nI_m1, and1, and3, and7, and15, and63, and255, Bool.true_eq_false, Bool.false_eq_true, reduceCtorEq, Nat.reduceAdd, Nat.reduceMul, Nat.reduceSub, Nat.reduceDiv, Nat.reduceMod, Nat.reducePow, Nat.zero_add, Nat.one_mul]
  refine ⟨_, rfl, ⟨fun k h1 h2 => ?_, fun j hj => ?_⟩, ?_, ?_⟩
  · funext j
    simp [up2, h2]
  · simp [up2]
  · intro j hj
    have : j = 0 ∨ j = 1 ∨ j = 2 ∨ j = 3 ∨ j = 4 ∨ j = 5 ∨ j = 6 := by omega
    rcases this with rfl | rfl | rfl | rfl | rfl | rfl | rfl <;> simp [up2, fct]
  · funext j
    simp [up2]
theorem l_toI {v : Int} (h : 0 ≤ v) : (lI v).toInt32 = nI v.toNat := by
  unfold lI nI
  rw [Int64.toInt32_ofInt]
  obtain ⟨m, rfl⟩ := Int.eq_ofNat_of_zero_le h
  rw [Int32.ofInt_eq_ofNat]
  rfl
theorem r_goOf {a : Nat → Nat} {k w p e : Nat} (hK : RK I a) (hA : AW a) (hk : k < 2) (hw : w < a 4321) (hp : p < a 4320) (he : e < 8) : Ok (callD xs Ln (d + 102) 211 [.ref 82, .int (nI k), .int (nI w), .int (nI p), .int (nI e)] (mkW D I L)) (fun q => ∃ I' L', q = (mkW D I' L', some (.int (nI (goA a k w e p)))) ∧ FA I I') := by
  have hK' := hK
  have hA' := hA
  obtain ⟨k1, k2, k3, k4⟩ := hK
  obtain ⟨h1, h2, h3, h4, h5, h6, h7, h8, h9, h10, h11, h12, h13, h14, h15, h16⟩ := hA
  have hh := k2 (8 * k + w) (by omega)
  have hh2 := h12 k w hk hw
  have ei : 124 + 8 * k + w = 124 + (8 * k + w) := by omega
  refine semG (lo := [some (.ref 82), some (.int (nI k)), some (.int (nI w)), some (.int (nI p)), some (.int (nI e)), none]) rfl rfl (Nat.le_of_ble_eq_true rfl) rfl (show G_X11_goOf xs Ln _ 0 [some (.ref 82), some (.int (nI k)), some (.int (nI w)), some (.int (nI p)), some (.int (nI e)), none] [] _ _ from ?_)
  cases hs : a (124 + (8 * k + w)) with
  | zero =>
    rw [hs, nM_0] at hh
    have hg : goA a k w e p = p := by unfold goA; rw [if_pos hs]
    simp (disch := first | omega | exact c1_int _ | exact c1_none | exact c1_ref _ | exact isRf_ref _ | assumption | exact okRb _ | exact okN1 | exact okN0 | exact rfl) only [N_X11_goOf_0, N_X11_goOf_1, N_X11_goOf_4, N_X11_goOf_6, N_X11_goOf_8, N_X11_goOf_9, N_X11_goOf_10, N_X11_goOf_11, N_X11_goOf_12, N_X11_goOf_13, N_X11_goOf_14, N_X11_goOf_16, N_X11_goOf_18, N_X11_goOf_19, N_X11_goOf_22, N_X11_goOf_23, N_X11_goOf_24, N_X11_goOf_25, N_X11_goOf_27, N_X11_goOf_28, N_X11_goOf_29, N_X11_goOf_30, N_X11_goOf_33, N_X11_goOf_34, N_X11_goOf_35, N_X11_goOf_36, N_X11_goOf_37, N_X11_goOf_39, N_X11_goOf_42, N_X11_goOf_43, N_X11_goOf_44, N_X11_goOf_47, N_X11_goOf_48, N_X11_goOf_51, N_X11_goOf_54, N_X11_goOf_55, N_X11_goOf_58, N_X11_goOf_59, N_X11_goOf_60, N_X11_goOf_63, N_X11_goOf_64, N_X11_goOf_67, N_X11_goOf_68, N_X11_goOf_71, N_X11_goOf_72, N_X11_goOf_73, N_X11_goOf_76, N_X11_goOf_77, N_X11_goOf_80, N_X11_goOf_81, N_X11_goOf_84, N_X11_goOf_85, N_X11_goOf_88, N_X11_goOf_90, N_X11_goOf_92, N_X11_goOf_94, N_X11_goOf_95, N_X11_goOf_96, N_X11_goOf_97, N_X11_goOf_98, N_X11_goOf_99, if_true, if_false, ite_true, ite_false, not_false_eq_true, not_true_eq_false, isRf_ref, isRf_null, c1_int, c1_ref, c1_null, c1_none, rfv_some, rfv_none, Ok_s, tl_some, tl_none, List.nil_append, b2i_n1, b2i_n0, ↓reduceIte, nI_add, pk_mul, pk_sub, n_leT, n_leF, n_ltT, n_ltF, n_eqT, n_eqF, n_shl1, n_shl, n_shr, nI_and, nI_or, nI_xor, b2i_z, b2i_o, m1_n, n_m1, m1_lt, m1_le, n_lm1, n_em1, nI_m1, and1, and3, and7, and15, and63, and255, Bool.true_eq_false, Bool.false_eq_true, reduceCtorEq, Nat.reduceAdd, Nat.reduceMul, Nat.reduceSub, Nat.reduceDiv, Nat.reduceMod, Nat.reducePow, Nat.zero_add, Nat.one_mul, ei, hh]
    rw [hg]
    exact ⟨_, _, rfl, ⟨fun _ _ _ => rfl, fun _ _ => rfl⟩⟩
  | succ s =>
    rw [hs, nM_s] at hh
    have hc := k1 p (by omega)
    have hcl := h9 p hp
    simp (disch := first | omega | exact c1_int _ | exact c1_none | exact c1_ref _ | exact isRf_ref _ | assumption | exact okRb _ | exact okN1 | exact okN0 | exact rfl) only [N_X11_goOf_0, N_X11_goOf_1, N_X11_goOf_4, N_X11_goOf_6, N_X11_goOf_8, N_X11_goOf_9, N_X11_goOf_10, N_X11_goOf_11, N_X11_goOf_12, N_X11_goOf_13, N_X11_goOf_14, N_X11_goOf_16, N_X11_goOf_18, N_X11_goOf_19, N_X11_goOf_22, N_X11_goOf_23, N_X11_goOf_24, N_X11_goOf_25, N_X11_goOf_27, N_X11_goOf_28, N_X11_goOf_29, N_X11_goOf_30, N_X11_goOf_33, N_X11_goOf_34, N_X11_goOf_35, N_X11_goOf_36, N_X11_goOf_37, N_X11_goOf_39, N_X11_goOf_42, N_X11_goOf_43, N_X11_goOf_44, N_X11_goOf_47, N_X11_goOf_48, N_X11_goOf_51, N_X11_goOf_54, N_X11_goOf_55, N_X11_goOf_58, N_X11_goOf_59, N_X11_goOf_60, N_X11_goOf_63, N_X11_goOf_64, N_X11_goOf_67, N_X11_goOf_68, N_X11_goOf_71, N_X11_goOf_72, N_X11_goOf_73, N_X11_goOf_76, N_X11_goOf_77, N_X11_goOf_80, N_X11_goOf_81, N_X11_goOf_84, N_X11_goOf_85, N_X11_goOf_88, N_X11_goOf_90, N_X11_goOf_92, N_X11_goOf_94, N_X11_goOf_95, N_X11_goOf_96, N_X11_goOf_97, N_X11_goOf_98, N_X11_goOf_99, if_true, if_false, ite_true, ite_false, not_false_eq_true, not_true_eq_false, isRf_ref, isRf_null, c1_int, c1_ref, c1_null, c1_none, rfv_some, rfv_none, Ok_s, tl_some, tl_none, List.nil_append, b2i_n1, b2i_n0, ↓reduceIte, nI_add, pk_mul, pk_sub, n_leT, n_leF, n_ltT, n_ltF, n_eqT, n_eqF, n_shl1, n_shl, n_shr, nI_and, nI_or, nI_xor, b2i_z, b2i_o, m1_n, n_m1, m1_lt, m1_le, n_lm1, n_em1, nI_m1, and1, and3, and7, and15, and63, and255, Bool.true_eq_false, Bool.false_eq_true, reduceCtorEq, Nat.reduceAdd, Nat.reduceMul, Nat.reduceSub, Nat.reduceDiv, Nat.reduceMod, Nat.reducePow, Nat.zero_add, Nat.one_mul, ei, hh, hc]
    refine Ok.mono (r_asksOf he) ?_
    rintro q ⟨I1, rfl, hf1, hx1, hx2⟩
    have hK1 := hf1.rk hK'
    simp (disch := first | omega | exact c1_int _ | exact c1_none | exact c1_ref _ | exact isRf_ref _ | assumption | exact okRb _ | exact okN1 | exact okN0 | exact rfl) only [N_X11_goOf_0, N_X11_goOf_1, N_X11_goOf_4, N_X11_goOf_6, N_X11_goOf_8, N_X11_goOf_9, N_X11_goOf_10, N_X11_goOf_11, N_X11_goOf_12, N_X11_goOf_13, N_X11_goOf_14, N_X11_goOf_16, N_X11_goOf_18, N_X11_goOf_19, N_X11_goOf_22, N_X11_goOf_23, N_X11_goOf_24, N_X11_goOf_25, N_X11_goOf_27, N_X11_goOf_28, N_X11_goOf_29, N_X11_goOf_30, N_X11_goOf_33, N_X11_goOf_34, N_X11_goOf_35, N_X11_goOf_36, N_X11_goOf_37, N_X11_goOf_39, N_X11_goOf_42, N_X11_goOf_43, N_X11_goOf_44, N_X11_goOf_47, N_X11_goOf_48, N_X11_goOf_51, N_X11_goOf_54, N_X11_goOf_55, N_X11_goOf_58, N_X11_goOf_59, N_X11_goOf_60, N_X11_goOf_63, N_X11_goOf_64, N_X11_goOf_67, N_X11_goOf_68, N_X11_goOf_71, N_X11_goOf_72, N_X11_goOf_73, N_X11_goOf_76, N_X11_goOf_77, N_X11_goOf_80, N_X11_goOf_81, N_X11_goOf_84, N_X11_goOf_85, N_X11_goOf_88, N_X11_goOf_90, N_X11_goOf_92, N_X11_goOf_94, N_X11_goOf_95, N_X11_goOf_96, N_X11_goOf_97, N_X11_goOf_98, N_X11_goOf_99, if_true, if_false, ite_true, ite_false, not_false_eq_true, not_true_eq_false, isRf_ref, isRf_null, c1_int, c1_ref, c1_null, c1_none, rfv_some, rfv_none, Ok_s, tl_some, tl_none, List.nil_append, b2i_n1, b2i_n0, ↓reduceIte, nI_add, pk_mul, pk_sub, n_leT, n_leF, n_ltT, n_ltF, n_eqT, n_eqF, n_shl1, n_shl, n_shr, nI_and, nI_or, nI_xor, b2i_z, b2i_o, m1_n, n_m1, m1_lt, m1_le, n_lm1, n_em1, nI_m1, and1, and3, and7, and15, and63, and255, Bool.true_eq_false, Bool.false_eq_true, reduceCtorEq, Nat.reduceAdd, Nat.reduceMul, Nat.reduceSub, Nat.reduceDiv, Nat.reduceMod, Nat.reducePow, Nat.zero_add, Nat.one_mul]
    have hfb := fct_le (w := s) (p := p) (k := k) (c := a p) (e := e) (by omega) (by omega) (by omega) (by omega)
    refine Ok.mono (r_asks hK1 hA' hx1 hfb (by decide)) ?_
    rintro q ⟨I2, L2, rfl, hf2, _, ht, hv⟩
    have hf := hf1.tr hf2
    have hK2 := hf2.rk hK1
    have hpl := hK2.2.2.1 4320 (by decide) (by decide) (by decide)
    have hld := hK2.1 (28 + 12 * s + p) (by omega)
    have hg : goA a k w e p = (match askF 1 (fct s p k (a p) e) (clsA a) none with
      | some v => if 0 ≤ v ∧ v < a 4320 then v.toNat else a (28 + 12 * s + p)
      | none => a (28 + 12 * s + p)) := by
      unfold goA
      rw [if_neg (by omega), hs, show s + 1 - 1 = s by omega]
    cases ha : askF 1 (fct s p k (a p) e) (clsA a) none with
    | none =>
      rw [ha] at hg ht
      have ht' : I2 82 24 = b2i false := ht
      simp (disch := first | omega | exact c1_int _ | exact c1_none | exact c1_ref _ | exact isRf_ref _ | assumption | exact okRb _ | exact okN1 | exact okN0 | exact rfl) only [N_X11_goOf_0, N_X11_goOf_1, N_X11_goOf_4, N_X11_goOf_6, N_X11_goOf_8, N_X11_goOf_9, N_X11_goOf_10, N_X11_goOf_11, N_X11_goOf_12, N_X11_goOf_13, N_X11_goOf_14, N_X11_goOf_16, N_X11_goOf_18, N_X11_goOf_19, N_X11_goOf_22, N_X11_goOf_23, N_X11_goOf_24, N_X11_goOf_25, N_X11_goOf_27, N_X11_goOf_28, N_X11_goOf_29, N_X11_goOf_30, N_X11_goOf_33, N_X11_goOf_34, N_X11_goOf_35, N_X11_goOf_36, N_X11_goOf_37, N_X11_goOf_39, N_X11_goOf_42, N_X11_goOf_43, N_X11_goOf_44, N_X11_goOf_47, N_X11_goOf_48, N_X11_goOf_51, N_X11_goOf_54, N_X11_goOf_55, N_X11_goOf_58, N_X11_goOf_59, N_X11_goOf_60, N_X11_goOf_63, N_X11_goOf_64, N_X11_goOf_67, N_X11_goOf_68, N_X11_goOf_71, N_X11_goOf_72, N_X11_goOf_73, N_X11_goOf_76, N_X11_goOf_77, N_X11_goOf_80, N_X11_goOf_81, N_X11_goOf_84, N_X11_goOf_85, N_X11_goOf_88, N_X11_goOf_90, N_X11_goOf_92, N_X11_goOf_94, N_X11_goOf_95, N_X11_goOf_96, N_X11_goOf_97, N_X11_goOf_98, N_X11_goOf_99, if_true, if_false, ite_true, ite_false, not_false_eq_true, not_true_eq_false, isRf_ref, isRf_null, c1_int, c1_ref, c1_null, c1_none, rfv_some, rfv_none, Ok_s, tl_some, tl_none, List.nil_append, b2i_n1, b2i_n0, ↓reduceIte, nI_add, pk_mul, pk_sub, n_leT, n_leF, n_ltT, n_ltF, n_eqT, n_eqF, n_shl1, n_shl, n_shr, nI_and, nI_or, nI_xor, b2i_z, b2i_o, m1_n, n_m1, m1_lt, m1_le, n_lm1, n_em1, nI_m1, and1, and3, and7, and15, and63, and255, Bool.true_eq_false, Bool.false_eq_true, reduceCtorEq, Nat.reduceAdd, Nat.reduceMul, Nat.reduceSub, Nat.reduceDiv, Nat.reduceMod, Nat.reducePow, Nat.zero_add, Nat.one_mul, ht', hld]
      rw [hg]
      exact ⟨_, _, rfl, hf⟩
    | some v =>
      rw [ha] at hg ht
      have ht' : I2 82 24 = b2i true := ht
      have hv' := hv rfl v ha
      have hsm := (clsA_b hfb v ha).b
      have hP : bdd (a 4320 : Int) := by unfold bdd; omega
      by_cases hv0 : 0 ≤ v
      · have e1 : ¬ lI v < 0 := by rw [l_0, l_lt hsm (by unfold bdd; omega)]; omega
        by_cases hvp : v < a 4320
        · have e2 : ¬ lI (a 4320) ≤ lI v := by rw [l_le hP hsm]; omega
          simp (disch := first | omega | exact c1_int _ | exact c1_none | exact c1_ref _ | exact isRf_ref _ | assumption | exact okRb _ | exact okN1 | exact okN0 | exact rfl) only [N_X11_goOf_0, N_X11_goOf_1, N_X11_goOf_4, N_X11_goOf_6, N_X11_goOf_8, N_X11_goOf_9, N_X11_goOf_10, N_X11_goOf_11, N_X11_goOf_12, N_X11_goOf_13, N_X11_goOf_14, N_X11_goOf_16, N_X11_goOf_18, N_X11_goOf_19, N_X11_goOf_22, N_X11_goOf_23, N_X11_goOf_24, N_X11_goOf_25, N_X11_goOf_27, N_X11_goOf_28, N_X11_goOf_29, N_X11_goOf_30, N_X11_goOf_33, N_X11_goOf_34, N_X11_goOf_35, N_X11_goOf_36, N_X11_goOf_37, N_X11_goOf_39, N_X11_goOf_42, N_X11_goOf_43, N_X11_goOf_44, N_X11_goOf_47, N_X11_goOf_48, N_X11_goOf_51, N_X11_goOf_54, N_X11_goOf_55, N_X11_goOf_58, N_X11_goOf_59, N_X11_goOf_60, N_X11_goOf_63, N_X11_goOf_64, N_X11_goOf_67, N_X11_goOf_68, N_X11_goOf_71, N_X11_goOf_72, N_X11_goOf_73, N_X11_goOf_76, N_X11_goOf_77, N_X11_goOf_80, N_X11_goOf_81, N_X11_goOf_84, N_X11_goOf_85, N_X11_goOf_88, N_X11_goOf_90, N_X11_goOf_92, N_X11_goOf_94, N_X11_goOf_95, N_X11_goOf_96, N_X11_goOf_97, N_X11_goOf_98, N_X11_goOf_99, if_true, if_false, ite_true, ite_false, not_false_eq_true, not_true_eq_false, isRf_ref, isRf_null, c1_int, c1_ref, c1_null, c1_none, rfv_some, rfv_none, Ok_s, tl_some, tl_none, List.nil_append, b2i_n1, b2i_n0, ↓reduceIte, nI_add, pk_mul, pk_sub, n_leT, n_leF, n_ltT, n_ltF, n_eqT, n_eqF, n_shl1, n_shl, n_shr, nI_and, nI_or, nI_xor, b2i_z, b2i_o, m1_n, n_m1, m1_lt, m1_le, n_lm1, n_em1, nI_m1, and1, and3, and7, and15, and63, and255, Bool.true_eq_false, Bool.false_eq_true, reduceCtorEq, Nat.reduceAdd, Nat.reduceMul, Nat.reduceSub, Nat.reduceDiv, Nat.reduceMod, Nat.reducePow, Nat.zero_add, Nat.one_mul, ht', hv', lc_lt, lc_ge, e1, e2, c_places, hpl, l_n, l_toI]
          rw [hg]
          simp only [if_pos (And.intro hv0 hvp)]
          exact ⟨_, _, rfl, hf⟩
        · have e2 : lI (a 4320) ≤ lI v := by rw [l_le hP hsm]; omega
          simp (disch := first | omega | exact c1_int _ | exact c1_none | exact c1_ref _ | exact isRf_ref _ | assumption | exact okRb _ | exact okN1 | exact okN0 | exact rfl) only [N_X11_goOf_0, N_X11_goOf_1, N_X11_goOf_4, N_X11_goOf_6, N_X11_goOf_8, N_X11_goOf_9, N_X11_goOf_10, N_X11_goOf_11, N_X11_goOf_12, N_X11_goOf_13, N_X11_goOf_14, N_X11_goOf_16, N_X11_goOf_18, N_X11_goOf_19, N_X11_goOf_22, N_X11_goOf_23, N_X11_goOf_24, N_X11_goOf_25, N_X11_goOf_27, N_X11_goOf_28, N_X11_goOf_29, N_X11_goOf_30, N_X11_goOf_33, N_X11_goOf_34, N_X11_goOf_35, N_X11_goOf_36, N_X11_goOf_37, N_X11_goOf_39, N_X11_goOf_42, N_X11_goOf_43, N_X11_goOf_44, N_X11_goOf_47, N_X11_goOf_48, N_X11_goOf_51, N_X11_goOf_54, N_X11_goOf_55, N_X11_goOf_58, N_X11_goOf_59, N_X11_goOf_60, N_X11_goOf_63, N_X11_goOf_64, N_X11_goOf_67, N_X11_goOf_68, N_X11_goOf_71, N_X11_goOf_72, N_X11_goOf_73, N_X11_goOf_76, N_X11_goOf_77, N_X11_goOf_80, N_X11_goOf_81, N_X11_goOf_84, N_X11_goOf_85, N_X11_goOf_88, N_X11_goOf_90, N_X11_goOf_92, N_X11_goOf_94, N_X11_goOf_95, N_X11_goOf_96, N_X11_goOf_97, N_X11_goOf_98, N_X11_goOf_99, if_true, if_false, ite_true, ite_false, not_false_eq_true, not_true_eq_false, isRf_ref, isRf_null, c1_int, c1_ref, c1_null, c1_none, rfv_some, rfv_none, Ok_s, tl_some, tl_none, List.nil_append, b2i_n1, b2i_n0, ↓reduceIte, nI_add, pk_mul, pk_sub, n_leT, n_leF, n_ltT, n_ltF, n_eqT, n_eqF, n_shl1, n_shl, n_shr, nI_and, nI_or, nI_xor, b2i_z, b2i_o, m1_n, n_m1, m1_lt, m1_le, n_lm1, n_em1, nI_m1, and1, and3, and7, and15, and63, and255, Bool.true_eq_false, Bool.false_eq_true, reduceCtorEq, Nat.reduceAdd, Nat.reduceMul, Nat.reduceSub, Nat.reduceDiv, Nat.reduceMod, Nat.reducePow, Nat.zero_add, Nat.one_mul, ht', hv', lc_lt, lc_ge, e1, e2, c_places, hpl, l_n, hld]
          rw [hg]
          simp only [if_neg (show ¬ (0 ≤ v ∧ v < a 4320) from fun h => hvp h.2)]
          exact ⟨_, _, rfl, hf⟩
      · have e1 : lI v < 0 := by rw [l_0, l_lt hsm (by unfold bdd; omega)]; omega
        simp (disch := first | omega | exact c1_int _ | exact c1_none | exact c1_ref _ | exact isRf_ref _ | assumption | exact okRb _ | exact okN1 | exact okN0 | exact rfl) only [N_X11_goOf_0, N_X11_goOf_1, N_X11_goOf_4, N_X11_goOf_6, N_X11_goOf_8, N_X11_goOf_9, N_X11_goOf_10, N_X11_goOf_11, N_X11_goOf_12, N_X11_goOf_13, N_X11_goOf_14, N_X11_goOf_16, N_X11_goOf_18, N_X11_goOf_19, N_X11_goOf_22, N_X11_goOf_23, N_X11_goOf_24, N_X11_goOf_25, N_X11_goOf_27, N_X11_goOf_28, N_X11_goOf_29, N_X11_goOf_30, N_X11_goOf_33, N_X11_goOf_34, N_X11_goOf_35, N_X11_goOf_36, N_X11_goOf_37, N_X11_goOf_39, N_X11_goOf_42, N_X11_goOf_43, N_X11_goOf_44, N_X11_goOf_47, N_X11_goOf_48, N_X11_goOf_51, N_X11_goOf_54, N_X11_goOf_55, N_X11_goOf_58, N_X11_goOf_59, N_X11_goOf_60, N_X11_goOf_63, N_X11_goOf_64, N_X11_goOf_67, N_X11_goOf_68, N_X11_goOf_71, N_X11_goOf_72, N_X11_goOf_73, N_X11_goOf_76, N_X11_goOf_77, N_X11_goOf_80, N_X11_goOf_81, N_X11_goOf_84, N_X11_goOf_85, N_X11_goOf_88, N_X11_goOf_90, N_X11_goOf_92, N_X11_goOf_94, N_X11_goOf_95, N_X11_goOf_96, N_X11_goOf_97, N_X11_goOf_98, N_X11_goOf_99, if_true, if_false, ite_true, ite_false, not_false_eq_true, not_true_eq_false, isRf_ref, isRf_null, c1_int, c1_ref, c1_null, c1_none, rfv_some, rfv_none, Ok_s, tl_some, tl_none, List.nil_append, b2i_n1, b2i_n0, ↓reduceIte, nI_add, pk_mul, pk_sub, n_leT, n_leF, n_ltT, n_ltF, n_eqT, n_eqF, n_shl1, n_shl, n_shr, nI_and, nI_or, nI_xor, b2i_z, b2i_o, m1_n, n_m1, m1_lt, m1_le, n_lm1, n_em1, nI_m1, and1, and3, and7, and15, and63, and255, Bool.true_eq_false, Bool.false_eq_true, reduceCtorEq, Nat.reduceAdd, Nat.reduceMul, Nat.reduceSub, Nat.reduceDiv, Nat.reduceMod, Nat.reducePow, Nat.zero_add, Nat.one_mul, ht', hv', lc_lt, e1, hld]
        rw [hg]
        simp only [if_neg (show ¬ (0 ≤ v ∧ v < a 4320) from fun h => hv0 h.1)]
        exact ⟨_, _, rfl, hf⟩
end P59
