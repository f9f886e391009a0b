section P77
variable {xs : Nat → Int32} {Ln d : Nat} {D : Dyn} {I : Nat → Nat → Int32} {L : Nat → Nat → Int64} {w : Om}
theorem im_tb' {f : Nat → Nat} {s j i : Nat} (hi : s.testBit i = true) (hj : f i = j) : ∀ n, i < n → (im f s n).testBit j = true
  | 0, h => by omega
  | n + 1, h => by
    rw [im_s, Nat.testBit_or]
    by_cases hin : i = n
    · subst hin
      rw [if_pos hi, Nat.testBit_two_pow, decide_eq_true hj]
      simp
    · rw [im_tb' hi hj n (by omega)]
      rfl
theorem im_comp {f g : Nat → Nat} {s : Nat} (hg : ∀ b, b < 12 → s.testBit b = true → g b < 12) : im f (im g s 12) 12 = im (fun b => f (g b)) s 12 := by
  apply Nat.eq_of_testBit_eq
  intro j
  apply Bool.eq_iff_iff.mpr
  constructor
  · intro h
    obtain ⟨i, h1, h2, h3⟩ := im_tb _ _ _ _ h
    obtain ⟨b, q1, q2, q3⟩ := im_tb _ _ _ _ h2
    exact im_tb' (f := fun b => f (g b)) q2 (by show f (g b) = j; rw [q3, h3]) 12 q1
  · intro h
    obtain ⟨b, q1, q2, q3⟩ := im_tb _ _ _ _ h
    exact im_tb' (im_tb' q2 rfl 12 q1) q3 12 (hg b q1 q2)
theorem im_ct {f g : Nat → Nat} {s : Nat} : ∀ n, (∀ i, i < n → s.testBit i = true → f i = g i) → im f s n = im g s n
  | 0, _ => rfl
  | n + 1, h => by
    rw [im_s, im_s, im_ct n (fun i hi => h i (by omega))]
    by_cases hb : s.testBit n = true
    · rw [if_pos hb, if_pos hb, h n (by omega) hb]
    · rw [if_neg hb, if_neg hb]
theorem im_id {s : Nat} (hs : s < 4096) : im (fun b => b) s 12 = s := by
  apply Nat.eq_of_testBit_eq
  intro j
  apply Bool.eq_iff_iff.mpr
  constructor
  · intro h
    obtain ⟨i, h1, h2, rfl⟩ := im_tb _ _ _ _ h
    exact h2
  · intro h
    exact im_tb' h rfl 12 (tb_lt (N := 12) hs h)
def vB (P m b : Nat) : Prop := if m = 3 then P ≤ 6 ∧ b % 6 < P ∧ b < 12 else b < P
theorem vB_lt {P m b : Nat} (hP : P ≤ 12) (h : vB P m b) : b < 12 := by
  unfold vB at h
  split at h <;> omega
theorem tgt_v {a : Nat → Nat} (hA : AW a) {m w e b : Nat} (hm : 1 ≤ m) (hm3 : m ≤ 3) (hw : w < a 4321) (hb : vB (a 4320) m b) : vB (a 4320) m (tgt (goA a) m w e b) := by
  unfold vB at hb ⊢
  unfold tgt
  by_cases h3 : m = 3
  · rw [if_pos h3] at hb ⊢
    rw [if_pos h3]
    have := goA_lt hA (k := b / 6) (e := e) (by omega) hw hb.2.1
    generalize goA a (b / 6) w e (b % 6) = y at this
    refine ⟨hb.1, ?_, by omega⟩
    have : b / 6 = 0 ∨ b / 6 = 1 := by omega
    rcases this with h | h <;> rw [h] <;> omega
  · rw [if_neg h3] at hb ⊢
    rw [if_neg h3]
    exact goA_lt hA (by omega) hw hb
/-- the doors, and where a place's bit goes, along the row of words -/
def dpt (a : Nat → Nat) (e : Nat) : Nat → Nat
  | 0 => e
  | i + 1 => dbA a (a (164 + i)) (dpt a e i)
def phi (a : Nat → Nat) (m e : Nat) : Nat → Nat → Nat
  | 0, b => b
  | i + 1, b => tgt (goA a) m (a (164 + i)) (dpt a e i) (phi a m e i b)
section LP
variable {a : Nat → Nat} {m : Nat}
theorem dpt_lt (hA : AW a) {e : Nat} (he : e < 8) : ∀ k, k ≤ a 4323 → dpt a e k < 8
  | 0, _ => he
  | k + 1, h => dbA_lt hA (hA.2.2.2.2.2.2.2.2.2.2.2.2.2.1 k (by omega)) (dpt_lt hA he k (by omega))
theorem phi_v (hA : AW a) (hm : 1 ≤ m) (hm3 : m ≤ 3) {e b : Nat} (hb : vB (a 4320) m b) : ∀ k, k ≤ a 4323 → vB (a 4320) m (phi a m e k b)
  | 0, _ => hb
  | k + 1, h => tgt_v hA hm hm3 (hA.2.2.2.2.2.2.2.2.2.2.2.2.2.1 k (by omega)) (phi_v hA hm hm3 hb k (by omega))
/-- a run of the row, by its doors and its bits -/
theorem run_phi (hA : AW a) (hm : 1 ≤ m) (hm3 : m ≤ 3) {st : Nat} (hv : vSt a m st) : ∀ k, k ≤ a 4323 → runA a m st k = if anyN (fun i => brA a (a (164 + i)) (dpt a (st % 8) i)) k = true then none else some (8 * im (phi a m (st % 8) k) (st / 8) 12 + dpt a (st % 8) k)
  | 0, _ => by
    have := hv.1
    show some st = some (8 * im (fun b => b) (st / 8) 12 + st % 8)
    rw [im_id (by omega)]
    congr 1
    omega
  | k + 1, hk => by
    have ih := run_phi hA hm hm3 hv k (by omega)
    have hcw := hA.2.2.2.2.2.2.2.2.2.2.2.2.2.1 k (by omega)
    have hdl := dpt_lt hA (show st % 8 < 8 by omega) k (by omega)
    show (match runA a m st k with
      | none => none
      | some s => behA a m s (a (164 + k))) = _
    rw [ih]
    show _ = if (anyN (fun i => brA a (a (164 + i)) (dpt a (st % 8) i)) k || brA a (a (164 + k)) (dpt a (st % 8) k)) = true then none else _
    by_cases hany : anyN (fun i => brA a (a (164 + i)) (dpt a (st % 8) i)) k = true
    · rw [if_pos hany, hany, Bool.true_or, if_pos rfl]
    · have hany' : anyN (fun i => brA a (a (164 + i)) (dpt a (st % 8) i)) k = false := by simpa using hany
      rw [if_neg hany, hany', Bool.false_or]
      show behA a m (8 * im (phi a m (st % 8) k) (st / 8) 12 + dpt a (st % 8) k) (a (164 + k)) = _
      unfold behA
      rw [show (8 * im (phi a m (st % 8) k) (st / 8) 12 + dpt a (st % 8) k) % 8 = dpt a (st % 8) k by omega, show (8 * im (phi a m (st % 8) k) (st / 8) 12 + dpt a (st % 8) k) / 8 = im (phi a m (st % 8) k) (st / 8) 12 by omega]
      cases hb : brA a (a (164 + k)) (dpt a (st % 8) k) with
      | true => rw [if_neg (by simp), if_pos rfl]
      | false =>
        rw [if_pos ⟨hcw, rfl⟩, if_neg (by simp)]
        have hst := hv.1
        have hbit : ∀ b, b < 12 → (st / 8).testBit b = true → vB (a 4320) m b := by
          intro b _ hb
          exact okS_bit hv.2 (by omega) hb
        have hcomp : sbN (goA a) m (im (phi a m (st % 8) k) (st / 8) 12) (a (164 + k)) (dpt a (st % 8) k) = im (phi a m (st % 8) (k + 1)) (st / 8) 12 := by
          unfold sbN
          exact im_comp (fun b h1 h2 => vB_lt hA.1 (phi_v hA hm hm3 (hbit b h1 h2) k (by omega)))
        rw [hcomp]
        rfl
/-- a bit of the doors is set, cleared or kept -/
theorem dpt_bit (hA : AW a) (j : Nat) : ∀ k, k ≤ a 4323 → (∀ e, e < 8 → (dpt a e k).testBit j = false) ∨ (∀ e, e < 8 → (dpt a e k).testBit j = true) ∨ (∀ e, e < 8 → (dpt a e k).testBit j = e.testBit j)
  | 0, _ => Or.inr (Or.inr (fun e _ => rfl))
  | k + 1, hk => by
    have ih := dpt_bit hA j k (by omega)
    have hcw := hA.2.2.2.2.2.2.2.2.2.2.2.2.2.1 k (by omega)
    have h10 := hA.2.2.2.2.2.2.2.2.2.1 _ hcw
    have hb : ∀ e, e < 8 → (dpt a e (k + 1)).testBit j = (((dpt a e k).testBit j || (a (12 + 2 * a (164 + k))).testBit j) && !(a (12 + 2 * a (164 + k) + 1)).testBit j) := by
      intro e he
      have hdl := dpt_lt hA he k (by omega)
      show (dbA a (a (164 + k)) (dpt a e k)).testBit j = _
      unfold dbA
      have : dpt a e k ||| a (12 + 2 * a (164 + k)) < 2 ^ 3 := Nat.or_lt_two_pow (n := 3) hdl h10.1
      rw [adn_tb (by omega), Nat.testBit_or]
    cases hs : (a (12 + 2 * a (164 + k) + 1)).testBit j with
    | true => exact Or.inl (fun e he => by rw [hb e he, hs]; simp)
    | false =>
      cases ho : (a (12 + 2 * a (164 + k))).testBit j with
      | true => exact Or.inr (Or.inl (fun e he => by rw [hb e he, hs, ho]; simp))
      | false =>
        rcases ih with h | h | h
        · exact Or.inl (fun e he => by rw [hb e he, hs, ho, h e he]; rfl)
        · exact Or.inr (Or.inl (fun e he => by rw [hb e he, hs, ho, h e he]; rfl))
        · exact Or.inr (Or.inr (fun e he => by rw [hb e he, hs, ho, h e he]; simp))
theorem dpt_id (hA : AW a) {e : Nat} (he : e < 8) : dpt a (dpt a e (a 4323)) (a 4323) = dpt a e (a 4323) := by
  have hdl := dpt_lt hA he _ (Nat.le_refl _)
  apply Nat.eq_of_testBit_eq
  intro j
  rcases dpt_bit hA j (a 4323) (Nat.le_refl _) with h | h | h
  · rw [h _ hdl, h _ he]
  · rw [h _ hdl, h _ he]
  · rw [h _ hdl]
/-- the stand behind so many laps -/
def lapN (a : Nat → Nat) (m st : Nat) : Nat → Option Nat
  | 0 => some st
  | k + 1 => match lapN a m st k with
    | none => none
    | some s => runA a m s (a 4323)
theorem lap_v (hA : AW a) (hm : 1 ≤ m) (hm3 : m ≤ 3) {st : Nat} (hv : vSt a m st) : ∀ k s, lapN a m st k = some s → vSt a m s
  | 0, s, h => by cases h; exact hv
  | k + 1, s, h => by
    unfold lapN at h
    split at h
    · cases h
    · rename_i s' h'
      exact run_v hA hm hm3 (lap_v hA hm hm3 hv k s' h') _ _ h
/-- some lap comes back -/
theorem lap_bd (hA : AW a) (hm : 1 ≤ m) (hm3 : m ≤ 3) {st : Nat} (hv : vSt a m st) : ∃ j, 1 ≤ j ∧ j ≤ 73 ∧ (lapN a m st j = none ∨ ∃ i, i < j ∧ lapN a m st i = lapN a m st j) := by
  cases h1 : lapN a m st 1 with
  | none => exact ⟨1, by omega, by omega, Or.inl h1⟩
  | some y1 =>
    cases h2 : lapN a m st 2 with
    | none => exact ⟨2, by omega, by omega, Or.inl h2⟩
    | some y2 =>
      have hv1 := lap_v hA hm hm3 hv 1 y1 h1
      have hr1 := run_phi hA hm hm3 hv (a 4323) (Nat.le_refl _)
      have hl1 : runA a m st (a 4323) = some y1 := h1
      rw [hl1] at hr1
      have hdl := dpt_lt hA (show st % 8 < 8 by omega) (a 4323) (Nat.le_refl _)
      have hy1 : y1 % 8 = dpt a (st % 8) (a 4323) := by
        split at hr1
        · cases hr1
        · have := Option.some.inj hr1
          omega
      have hfix : dpt a (y1 % 8) (a 4323) = y1 % 8 := by
        rw [hy1]
        exact dpt_id hA (by omega)
      have hl2 : runA a m y1 (a 4323) = some y2 := by
        have : lapN a m st 2 = (match lapN a m st 1 with
          | none => none
          | some s => runA a m s (a 4323)) := rfl
        rw [h1] at this
        rw [← h2, this]
      have hnb : anyN (fun i => brA a (a (164 + i)) (dpt a (y1 % 8) i)) (a 4323) = false := by
        have := run_phi hA hm hm3 hv1 (a 4323) (Nat.le_refl _)
        rw [hl2] at this
        cases hany : anyN (fun i => brA a (a (164 + i)) (dpt a (y1 % 8) i)) (a 4323) with
        | false => rfl
        | true => rw [hany, if_pos rfl] at this; cases this
      -- the map
      have hP := hA.1
      have hF : ∃ F : Nat → Nat, (∀ i, i < 12 → F i < 12) ∧ (∀ b, vB (a 4320) m b → F b = phi a m (y1 % 8) (a 4323) b) := by
        refine ⟨fun b => @ite _ (vB (a 4320) m b) (Classical.propDecidable _) (phi a m (y1 % 8) (a 4323) b) b, fun i hi => ?_, fun b hb => ?_⟩
        · by_cases hb : vB (a 4320) m i
          · show @ite _ _ (Classical.propDecidable _) _ _ < 12
            rw [if_pos hb]
            exact vB_lt hP (phi_v hA hm hm3 hb _ (Nat.le_refl _))
          · show @ite _ _ (Classical.propDecidable _) _ _ < 12
            rw [if_neg hb]
            exact hi
        · show @ite _ _ (Classical.propDecidable _) _ _ = _
          rw [if_pos hb]
      obtain ⟨F, hF12, hFv⟩ := hF
      have hbit : ∀ b, (y1 / 8).testBit b = true → vB (a 4320) m b := fun b hb => okS_bit hv1.2 (by have := hv1.1; omega) hb
      have hiv : ∀ b, vB (a 4320) m b → ∀ t, vB (a 4320) m (itf F t b) := by
        intro b hb t
        induction t with
        | zero => exact hb
        | succ t ih =>
          show vB (a 4320) m (F (itf F t b))
          rw [hFv _ ih]
          exact phi_v hA hm hm3 ih _ (Nat.le_refl _)
      have hlap : ∀ t, lapN a m st (1 + t) = some (8 * im (itf F t) (y1 / 8) 12 + y1 % 8) := by
        intro t
        induction t with
        | zero =>
          have hy := hv1.1
          have e1 : im (itf F 0) (y1 / 8) 12 = y1 / 8 := im_id (by omega)
          rw [e1, Nat.add_zero, h1]
          congr 1
          omega
        | succ t ih =>
          have hvt := lap_v hA hm hm3 hv _ _ ih
          have hr := run_phi hA hm hm3 hvt (a 4323) (Nat.le_refl _)
          rw [show (8 * im (itf F t) (y1 / 8) 12 + y1 % 8) % 8 = y1 % 8 by omega, show (8 * im (itf F t) (y1 / 8) 12 + y1 % 8) / 8 = im (itf F t) (y1 / 8) 12 by omega, hnb, if_neg (by simp), hfix] at hr
          have : lapN a m st (1 + (t + 1)) = (match lapN a m st (1 + t) with
            | none => none
            | some s => runA a m s (a 4323)) := rfl
          rw [this, ih]
          show runA a m _ (a 4323) = _
          rw [hr]
          congr 3
          rw [im_comp (fun b _ hb => vB_lt hP (hiv b (hbit b hb) t))]
          refine im_ct 12 (fun b _ hb => ?_)
          show phi a m (y1 % 8) (a 4323) (itf F t b) = F (itf F t b)
          rw [hFv _ (hiv b (hbit b hb) t)]
      obtain ⟨p, hp1, hp60, hpe⟩ := orb12 hF12
      refine ⟨1 + (12 + p), by omega, by omega, Or.inr ⟨1 + 12, by omega, ?_⟩⟩
      rw [hlap, hlap]
      congr 3
      exact im_ct 12 (fun b hb _ => (hpe b hb).symm)
end LP
def cyS (a : Nat → Nat) (m st j : Nat) : Bool := (lapN a m st j).isNone || anyN (fun i => decide (lapN a m st i = lapN a m st j)) j
def cyJ (a : Nat → Nat) (m st : Nat) : Option Nat := lst (fun j => decide (1 ≤ j) && cyS a m st j) 128
/-- cycle's answer -/
def cyA (a : Nat → Nat) (m st : Nat) (wh : Bool) : Option Nat := match cyJ a m st with
  | none => none
  | some j => match lapN a m st j with
    | none => none
    | some y => match lst (fun i => decide (lapN a m st i = some y)) j with
      | none => none
      | some i => some (if wh = true then j - i else i)
def aCycle (a : Nat → Nat) (mix set what : Int32) : Int32 := if (okSI (a 4320) mix set && inN what (nI 2) && !decide (a 4323 = 0)) = true then nO (cyA a mix.toNatClampNeg (stA a set) (!decide (what = nI 0))) else m1
theorem cyJ_ex {a : Nat → Nat} (hA : AW a) {m st : Nat} (hm : 1 ≤ m) (hm3 : m ≤ 3) (hv : vSt a m st) : ∃ j, cyJ a m st = some j ∧ j ≤ 73 := by
  obtain ⟨j, h1, h2, h3⟩ := lap_bd hA hm hm3 hv
  have hj : (decide (1 ≤ j) && cyS a m st j) = true := by
    rw [decide_eq_true h1, Bool.true_and]
    unfold cyS
    rcases h3 with h | ⟨i, hi, he⟩
    · rw [h]; rfl
    · rw [Bool.or_eq_true]
      exact Or.inr ((anyN_iff _ _).mpr ⟨i, hi, decide_eq_true he⟩)
  cases hc : cyJ a m st with
  | none =>
    have := (lst_n _ _).mp hc j (by omega)
    rw [hj] at this
    cases this
  | some j' =>
    refine ⟨j', rfl, ?_⟩
    obtain ⟨_, _, h4⟩ := (lst_s _ _ _).mp hc
    by_cases hle : j' ≤ 73
    · exact hle
    · have := h4 j (by omega)
      rw [hj] at this
      cases this
end P77
