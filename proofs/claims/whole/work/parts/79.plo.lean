section P79
/-! Row by row, pair by pair. -/
/-- along any row of words -/
def itb (a : Nat → Nat) (m : Nat) (om : Nat → Nat) (st : Nat) : Nat → Option Nat
  | 0 => some st
  | j + 1 => match itb a m om st j with
    | none => none
    | some s => behA a m s (om j)
def dpw (a : Nat → Nat) (om : Nat → Nat) (e : Nat) : Nat → Nat
  | 0 => e
  | i + 1 => dbA a (om i) (dpw a om e i)
def phw (a : Nat → Nat) (m : Nat) (om : Nat → Nat) (e : Nat) : Nat → Nat → Nat
  | 0, b => b
  | i + 1, b => tgt (goA a) m (om i) (dpw a om e i) (phw a m om e i b)
section IT
variable {a : Nat → Nat} {m : Nat} {om : Nat → Nat}
theorem dpw_lt (hA : AW a) {e n : Nat} (he : e < 8) (ho : ∀ j, j < n → om j < a 4321) : ∀ k, k ≤ n → dpw a om e k < 8
  | 0, _ => he
  | k + 1, h => dbA_lt hA (ho k (by omega)) (dpw_lt hA he ho k (by omega))
theorem phw_v (hA : AW a) (hm : 1 ≤ m) (hm3 : m ≤ 3) {e b n : Nat} (ho : ∀ j, j < n → om j < a 4321) (hb : vB (a 4320) m b) : ∀ k, k ≤ n → vB (a 4320) m (phw a m om e k b)
  | 0, _ => hb
  | k + 1, h => tgt_v hA hm hm3 (ho k (by omega)) (phw_v hA hm hm3 ho hb k (by omega))
theorem itb_phi (hA : AW a) (hm : 1 ≤ m) (hm3 : m ≤ 3) {st n : Nat} (hv : vSt a m st) (ho : ∀ j, j < n → om j < a 4321) : ∀ k, k ≤ n → itb a m om st k = if anyN (fun i => brA a (om i) (dpw a om (st % 8) i)) k = true then none else some (8 * im (phw a m om (st % 8) k) (st / 8) 12 + dpw a om (st % 8) k)
  | 0, _ => by
    have := hv.1
    show some st = some (8 * im (fun b => b) (st / 8) 12 + st % 8)
    rw [im_id (by omega)]
    congr 1
    omega
  | k + 1, hk => by
    have ih := itb_phi hA hm hm3 hv ho k (by omega)
    have hcw := ho k (by omega)
    have hdl := dpw_lt hA (show st % 8 < 8 by omega) ho k (by omega)
    show (match itb a m om st k with
      | none => none
      | some s => behA a m s (om k)) = _
    rw [ih]
    show _ = if (anyN (fun i => brA a (om i) (dpw a om (st % 8) i)) k || brA a (om k) (dpw a om (st % 8) k)) = true then none else _
    by_cases hany : anyN (fun i => brA a (om i) (dpw a om (st % 8) i)) k = true
    · rw [if_pos hany, hany, Bool.true_or, if_pos rfl]
    · have hany' : anyN (fun i => brA a (om i) (dpw a om (st % 8) i)) k = false := by simpa using hany
      rw [if_neg hany, hany', Bool.false_or]
      show behA a m (8 * im (phw a m om (st % 8) k) (st / 8) 12 + dpw a om (st % 8) k) (om k) = _
      unfold behA
      rw [show (8 * im (phw a m om (st % 8) k) (st / 8) 12 + dpw a om (st % 8) k) % 8 = dpw a om (st % 8) k by omega, show (8 * im (phw a m om (st % 8) k) (st / 8) 12 + dpw a om (st % 8) k) / 8 = im (phw a m om (st % 8) k) (st / 8) 12 by omega]
      cases hb : brA a (om k) (dpw a om (st % 8) k) with
      | true => rw [if_neg (by simp), if_pos rfl]
      | false =>
        rw [if_pos ⟨hcw, rfl⟩, if_neg (by simp)]
        have hst := hv.1
        have hbit : ∀ b, b < 12 → (st / 8).testBit b = true → vB (a 4320) m b := by
          intro b _ hb
          exact okS_bit hv.2 (by omega) hb
        have hcomp : sbN (goA a) m (im (phw a m om (st % 8) k) (st / 8) 12) (om k) (dpw a om (st % 8) k) = im (phw a m om (st % 8) (k + 1)) (st / 8) 12 := by
          unfold sbN
          exact im_comp (fun b h1 h2 => vB_lt hA.1 (phw_v hA hm hm3 ho (hbit b h1 h2) k (by omega)))
        rw [hcomp]
        rfl
theorem itb_v (hA : AW a) (hm : 1 ≤ m) (hm3 : m ≤ 3) {st : Nat} (hv : vSt a m st) : ∀ k s, itb a m om st k = some s → vSt a m s
  | 0, s, h => by cases h; exact hv
  | k + 1, s, h => by
    unfold itb at h
    split at h
    · cases h
    · rename_i s' h'
      exact (beh_v hA hm hm3 (itb_v hA hm hm3 hv k s' h') h).1
theorem itb_up {st : Nat} {k : Nat} (h : itb a m om st k = none) : ∀ j, itb a m om st (k + j) = none
  | 0 => h
  | j + 1 => by
    show (match itb a m om st (k + j) with
      | none => none
      | some s => behA a m s (om (k + j))) = none
    rw [itb_up h j]
end IT
/-- how many bits -/
def pcB (s : Nat) : Nat := cntB (fun i => s.testBit i) 12
theorem pcB_or (u j : Nat) : pcB (u ||| 2 ^ j) ≤ pcB u + 1 := by
  unfold pcB
  by_cases hj : u.testBit j = true
  · have : u ||| 2 ^ j = u := by
      apply Nat.eq_of_testBit_eq
      intro i
      rw [Nat.testBit_or, Nat.testBit_two_pow]
      by_cases h : j = i
      · subst h; rw [hj]; simp
      · rw [decide_eq_false h]; simp
    rw [this]
    omega
  · have hj' : u.testBit j = false := by simpa using hj
    by_cases h12 : j < 12
    · rw [cntB_up (p := fun i => u.testBit i) (t := j) hj' (by simp [Nat.testBit_or, Nat.testBit_two_pow]) (fun i hi => by rw [Nat.testBit_or, Nat.testBit_two_pow, show decide (j = i) = false from decide_eq_false (fun h => hi h.symm)]; simp) 12 h12]
      omega
    · have : ∀ n, n ≤ 12 → cntB (fun i => (u ||| 2 ^ j).testBit i) n = cntB (fun i => u.testBit i) n := by
        intro n
        induction n with
        | zero => intro _; rfl
        | succ n ih =>
          intro hn
          rw [cntB_s, cntB_s, ih (by omega), Nat.testBit_or, Nat.testBit_two_pow, show decide (j = n) = false from decide_eq_false (by omega)]
          simp
      rw [this 12 (by omega)]
      omega
theorem pcB_im (f : Nat → Nat) (s : Nat) : ∀ n, pcB (im f s n) ≤ cntB (fun i => s.testBit i) n
  | 0 => by
    show pcB 0 ≤ 0
    decide
  | n + 1 => by
    have ih := pcB_im f s n
    rw [im_s, cntB_s]
    by_cases hb : s.testBit n = true
    · rw [if_pos hb, if_pos hb]
      have := pcB_or (im f s n) (f n)
      omega
    · rw [if_neg hb, if_neg hb, Nat.or_zero]
      omega
/-- two that come together make the image smaller -/
theorem pcB_dec {f : Nat → Nat} {s x y : Nat} (hx : s.testBit x = true) (hy : s.testBit y = true) (hxy : x ≠ y) (hy12 : y < 12) (hx12 : x < 12) (he : f x = f y) : pcB (im f s 12) < pcB s := by
  -- s without y
  have hs' : ∃ s' : Nat, (∀ i, s'.testBit i = (s.testBit i && !decide (i = y))) := by
    refine ⟨s ^^^ 2 ^ y, fun i => ?_⟩
    rw [Nat.testBit_xor, Nat.testBit_two_pow]
    by_cases h : i = y
    · subst h; rw [hy]; simp
    · rw [show decide (y = i) = false from decide_eq_false (fun h' => h h'.symm), decide_eq_false h]; simp
  obtain ⟨s', hs'⟩ := hs'
  have h1 : im f s 12 = im f s' 12 := by
    apply Nat.eq_of_testBit_eq
    intro j
    apply Bool.eq_iff_iff.mpr
    constructor
    · intro h
      obtain ⟨i, q1, q2, q3⟩ := im_tb _ _ _ _ h
      by_cases hiy : i = y
      · subst hiy
        exact im_tb' (i := x) (by rw [hs', hx, decide_eq_false hxy]; rfl) (by rw [he, q3]) 12 hx12
      · exact im_tb' (i := i) (by rw [hs', q2, decide_eq_false hiy]; rfl) q3 12 q1
    · intro h
      obtain ⟨i, q1, q2, q3⟩ := im_tb _ _ _ _ h
      rw [hs', Bool.and_eq_true] at q2
      exact im_tb' q2.1 q3 12 q1
  have h2 := pcB_im f s' 12
  have h3 : pcB s = cntB (fun i => s'.testBit i) 12 + 1 := cntB_up (p := fun i => s'.testBit i) (q := fun i => s.testBit i) (t := y) (by rw [hs', decide_eq_true rfl]; simp) hy (fun i hi => by rw [hs', decide_eq_false hi]; simp) 12 hy12
  rw [h1]
  omega
/-- the pair that meets soonest -/
def sp1 (g : Nat → Nat → Option Nat) (s x y : Nat) (o : Option (Nat × Nat × Nat)) : Option (Nat × Nat × Nat) := if s.testBit x = true ∧ s.testBit y = true then (match g x y with
  | none => o
  | some v => match o with
    | none => some (x, y, v)
    | some q => if v < q.2.2 then some (x, y, v) else o) else o
def spY (g : Nat → Nat → Option Nat) (s x P : Nat) : Nat → Option (Nat × Nat × Nat) → Option (Nat × Nat × Nat)
  | 0, o => o
  | n + 1, o => spY g s x P n (sp1 g s x (P - (n + 1)) o)
def spX (g : Nat → Nat → Option Nat) (s P : Nat) : Nat → Option (Nat × Nat × Nat) → Option (Nat × Nat × Nat)
  | 0, o => o
  | n + 1, o => spX g s P n (spY g s (P - (n + 1)) P (P - (P - (n + 1) + 1)) o)
def okP (g : Nat → Nat → Option Nat) (s P : Nat) (o : Option (Nat × Nat × Nat)) : Prop := ∀ x y v, o = some (x, y, v) → x < y ∧ y < P ∧ s.testBit x = true ∧ s.testBit y = true ∧ g x y = some v
theorem sp1_ok {g : Nat → Nat → Option Nat} {s P x y : Nat} {o : Option (Nat × Nat × Nat)} (h : okP g s P o) (hxy : x < y) (hy : y < P) : okP g s P (sp1 g s x y o) := by
  unfold sp1
  split
  · rename_i hb
    split
    · exact h
    · rename_i v hv
      have hnew : okP g s P (some (x, y, v)) := by
        intro x' y' v' e
        cases e
        exact ⟨hxy, hy, hb.1, hb.2, hv⟩
      split
      · exact hnew
      · split
        · exact hnew
        · exact h
  · exact h
theorem spY_ok {g : Nat → Nat → Option Nat} {s P x : Nat} : ∀ n o, x < P - n ∨ n = 0 → n ≤ P → okP g s P o → okP g s P (spY g s x P n o)
  | 0, o, _, _, h => h
  | n + 1, o, hx, hn, h => by
    unfold spY
    exact spY_ok n _ (by omega) (by omega) (sp1_ok h (by omega) (by omega))
theorem spX_ok {g : Nat → Nat → Option Nat} {s P : Nat} : ∀ n o, n ≤ P → okP g s P o → okP g s P (spX g s P n o)
  | 0, o, _, h => h
  | n + 1, o, hn, h => by
    unfold spX
    exact spX_ok n _ (by omega) (spY_ok _ o (by omega) (by omega) h)
noncomputable def soonA (a : Nat → Nat) (k st : Nat) : Option (Nat × Nat × Nat) := spX (prN a k (st % 8)) (st / 8) (a 4320) (a 4320) none
/-- the words that bring a pair together -/
noncomputable def wdA (a : Nat → Nat) (k e x y l j : Nat) : Nat := spw (behA a (k + 1)) (golA (k + 1) none) l (8 * (2 ^ x ||| 2 ^ y) + e) j
noncomputable def mvA (a : Nat → Nat) (k st x y l j : Nat) : Option Nat := itb a (k + 1) (wdA a k (st % 8) x y l) st j
noncomputable def plA (a : Nat → Nat) (k : Nat) : Nat → Nat → Nat → Option Nat
  | 0, _, _ => none
  | f + 1, st, n => if (tog 1 (st / 8)).isSome = true then some n else (match soonA a k st with
    | none => none
    | some q => match mvA a k st q.1 q.2.1 q.2.2 q.2.2 with
      | none => none
      | some st' => plA a k f st' (n + q.2.2))
theorem tog_pw {s p : Nat} (h : tog 1 s = some p) : s = 2 ^ p := by
  have : ∀ n i u, tgr u i n = some p → u = 2 ^ p := by
    intro n
    induction n with
    | zero => intro i u h; cases h
    | succ n ih =>
      intro i u h
      unfold tgr at h
      split at h
      · rename_i he
        cases h
        exact he
      · exact ih _ _ h
  exact this 12 0 s h
/-- a pair's row serves the whole set, and makes it smaller -/
theorem pl_step {a : Nat → Nat} (hA : AW a) {k st x y l : Nat} (hk : k < 2) (hv : vSt a (k + 1) st) (hs : soonA a k st = some (x, y, l)) : (∀ j, j < l → wdA a k (st % 8) x y l j < a 4321) ∧ (∀ j, j ≤ l → ∃ s, mvA a k st x y l j = some s ∧ s % 8 = spx (behA a (k + 1)) (golA (k + 1) none) l (8 * (2 ^ x ||| 2 ^ y) + st % 8) j % 8 ∧ (j < l → brA a (wdA a k (st % 8) x y l j) (s % 8) = false)) ∧ (∃ s, mvA a k st x y l l = some s ∧ pcB (s / 8) < pcB (st / 8)) ∧ x < y ∧ y < a 4320 ∧ prN a k (st % 8) x y = some l := by
  have h1 := hA.1
  obtain ⟨hxy, hyP, hbx, hby, hpr⟩ := spX_ok (g := prN a k (st % 8)) (s := st / 8) (P := a 4320) (a 4320) none (Nat.le_refl _) (fun x y v e => by cases e) x y l hs
  obtain ⟨t1, t2⟩ := two_ok hA hk (show x < a 4320 by omega) hyP
  have hvp : vSt a (k + 1) (8 * (2 ^ x ||| 2 ^ y) + st % 8) := ⟨by omega, by rw [show (8 * (2 ^ x ||| 2 ^ y) + st % 8) / 8 = (2 ^ x ||| 2 ^ y) by omega]; exact t2⟩
  have hI : ∀ e, BI (behA a (k + 1)) (vSt a (k + 1)) (8 * (2 ^ x ||| 2 ^ y) + st % 8) (bfs (behA a (k + 1)) (8 * (2 ^ x ||| 2 ^ y) + st % 8) e) e := by
    intro e
    have := bSt_I (wo := none) hA (show 1 ≤ k + 1 by omega) (show k + 1 ≤ 3 by omega) hvp e
    unfold bSt at this
    rw [behW_n] at this
    exact this
  have hdg : dG (behA a (k + 1)) (golA (k + 1) none) (8 * (2 ^ x ||| 2 ^ y) + st % 8) = some l := by
    have := hpr
    unfold prN fewN at this
    rw [behW_n] at this
    exact this
  have hZ := bZ_I hI
  -- the words
  have hwd : ∀ j, j < l → wdA a k (st % 8) x y l j < a 4321 ∧ behA a (k + 1) (spx (behA a (k + 1)) (golA (k + 1) none) l (8 * (2 ^ x ||| 2 ^ y) + st % 8) j) (wdA a k (st % 8) x y l j) = some (spx (behA a (k + 1)) (golA (k + 1) none) l (8 * (2 ^ x ||| 2 ^ y) + st % 8) (j + 1)) := by
    intro j hj
    obtain ⟨i, hi, hx, hF, _⟩ := spx_q hI hdg j (by omega)
    obtain ⟨s1, s2, _, _⟩ := spw_s hI hdg hj hi hx hF
    rw [hx]
    exact ⟨(beh_v hA (by omega) (by omega) (hZ.2.1 i hi) s2).2, s2⟩
  have hom : ∀ j, j < l → wdA a k (st % 8) x y l j < a 4321 := fun j hj => (hwd j hj).1
  have hpa : ∀ j, j ≤ l → itb a (k + 1) (wdA a k (st % 8) x y l) (8 * (2 ^ x ||| 2 ^ y) + st % 8) j = some (spx (behA a (k + 1)) (golA (k + 1) none) l (8 * (2 ^ x ||| 2 ^ y) + st % 8) j) := by
    intro j
    induction j with
    | zero => intro _; rfl
    | succ j ih =>
      intro hj
      show (match itb a (k + 1) (wdA a k (st % 8) x y l) (8 * (2 ^ x ||| 2 ^ y) + st % 8) j with
        | none => none
        | some s => behA a (k + 1) s (wdA a k (st % 8) x y l j)) = _
      rw [ih (by omega)]
      exact (hwd j (by omega)).2
  have hpp := itb_phi hA (show 1 ≤ k + 1 by omega) (show k + 1 ≤ 3 by omega) hvp hom
  have hww := itb_phi hA (show 1 ≤ k + 1 by omega) (show k + 1 ≤ 3 by omega) hv hom
  have he8 : (8 * (2 ^ x ||| 2 ^ y) + st % 8) % 8 = st % 8 := by omega
  have he9 : (8 * (2 ^ x ||| 2 ^ y) + st % 8) / 8 = (2 ^ x ||| 2 ^ y) := by omega
  rw [he8, he9] at hpp
  have hnb : anyN (fun i => brA a (wdA a k (st % 8) x y l i) (dpw a (wdA a k (st % 8) x y l) (st % 8) i)) l = false := by
    have := hpp l (Nat.le_refl _)
    rw [hpa l (Nat.le_refl _)] at this
    cases hany : anyN (fun i => brA a (wdA a k (st % 8) x y l i) (dpw a (wdA a k (st % 8) x y l) (st % 8) i)) l with
    | false => rfl
    | true => rw [hany, if_pos rfl] at this; cases this
  have hnbj : ∀ j, j < l → brA a (wdA a k (st % 8) x y l j) (dpw a (wdA a k (st % 8) x y l) (st % 8) j) = false := by
    intro j hj
    cases hb : brA a (wdA a k (st % 8) x y l j) (dpw a (wdA a k (st % 8) x y l) (st % 8) j) with
    | false => rfl
    | true =>
      have := (anyN_iff (fun i => brA a (wdA a k (st % 8) x y l i) (dpw a (wdA a k (st % 8) x y l) (st % 8) i)) l).mpr ⟨j, hj, hb⟩
      rw [hnb] at this
      cases this
  have hnk : ∀ j, j ≤ l → anyN (fun i => brA a (wdA a k (st % 8) x y l i) (dpw a (wdA a k (st % 8) x y l) (st % 8) i)) j = false := by
    intro j hj
    cases hany : anyN (fun i => brA a (wdA a k (st % 8) x y l i) (dpw a (wdA a k (st % 8) x y l) (st % 8) i)) j with
    | false => rfl
    | true =>
      obtain ⟨i, hi, hb⟩ := (anyN_iff _ _).mp hany
      rw [hnbj i (by omega)] at hb
      cases hb
  have hmv : ∀ j, j ≤ l → mvA a k st x y l j = some (8 * im (phw a (k + 1) (wdA a k (st % 8) x y l) (st % 8) j) (st / 8) 12 + dpw a (wdA a k (st % 8) x y l) (st % 8) j) := by
    intro j hj
    unfold mvA
    rw [hww j hj, hnk j hj, if_neg (by simp)]
  have hsp : ∀ j, j ≤ l → spx (behA a (k + 1)) (golA (k + 1) none) l (8 * (2 ^ x ||| 2 ^ y) + st % 8) j = 8 * im (phw a (k + 1) (wdA a k (st % 8) x y l) (st % 8) j) (2 ^ x ||| 2 ^ y) 12 + dpw a (wdA a k (st % 8) x y l) (st % 8) j := by
    intro j hj
    have := hpp j hj
    rw [hpa j hj, hnk j hj, if_neg (by simp)] at this
    exact Option.some.inj this
  refine ⟨hom, ?_, ?_, hxy, hyP, hpr⟩
  · intro j hj
    have hdl := dpw_lt hA (show st % 8 < 8 by omega) hom j hj
    refine ⟨_, hmv j hj, ?_, fun hjl => ?_⟩
    · rw [hsp j hj]
      omega
    · rw [show (8 * im (phw a (k + 1) (wdA a k (st % 8) x y l) (st % 8) j) (st / 8) 12 + dpw a (wdA a k (st % 8) x y l) (st % 8) j) % 8 = dpw a (wdA a k (st % 8) x y l) (st % 8) j by omega]
      exact hnbj j hjl
  · have hdl := dpw_lt hA (show st % 8 < 8 by omega) hom l (Nat.le_refl _)
    refine ⟨_, hmv l (Nat.le_refl _), ?_⟩
    rw [show (8 * im (phw a (k + 1) (wdA a k (st % 8) x y l) (st % 8) l) (st / 8) 12 + dpw a (wdA a k (st % 8) x y l) (st % 8) l) / 8 = im (phw a (k + 1) (wdA a k (st % 8) x y l) (st % 8) l) (st / 8) 12 by omega]
    have hgl : golA (k + 1) none (spx (behA a (k + 1)) (golA (k + 1) none) l (8 * (2 ^ x ||| 2 ^ y) + st % 8) l) = true := by
      obtain ⟨i, hi, hx, hF, hc⟩ := spx_q hI hdg l (Nat.le_refl _)
      rw [Nat.sub_self, ← hx] at hc
      exact hc
    rw [hsp l (Nat.le_refl _)] at hgl
    unfold golA at hgl
    rw [show (8 * im (phw a (k + 1) (wdA a k (st % 8) x y l) (st % 8) l) (2 ^ x ||| 2 ^ y) 12 + dpw a (wdA a k (st % 8) x y l) (st % 8) l) / 8 = im (phw a (k + 1) (wdA a k (st % 8) x y l) (st % 8) l) (2 ^ x ||| 2 ^ y) 12 by omega] at hgl
    have htk : tog (k + 1) (im (phw a (k + 1) (wdA a k (st % 8) x y l) (st % 8) l) (2 ^ x ||| 2 ^ y) 12) = tog 1 (im (phw a (k + 1) (wdA a k (st % 8) x y l) (st % 8) l) (2 ^ x ||| 2 ^ y) 12) := by
      unfold tog all3
      rw [if_neg (by omega), if_neg (by decide)]
    rw [htk] at hgl
    have htx : (2 ^ x ||| 2 ^ y).testBit x = true := by rw [Nat.testBit_or, Nat.testBit_two_pow]; simp
    have hty : (2 ^ x ||| 2 ^ y).testBit y = true := by rw [Nat.testBit_or, Nat.testBit_two_pow, Nat.testBit_two_pow]; simp
    cases htg : tog 1 (im (phw a (k + 1) (wdA a k (st % 8) x y l) (st % 8) l) (2 ^ x ||| 2 ^ y) 12) with
    | none => rw [htg] at hgl; cases hgl
    | some p =>
      have hpw := tog_pw htg
      have e1 : ∀ z, z < 12 → (2 ^ x ||| 2 ^ y).testBit z = true → phw a (k + 1) (wdA a k (st % 8) x y l) (st % 8) l z = p := by
        intro z hz hb
        have := im_tb' (f := phw a (k + 1) (wdA a k (st % 8) x y l) (st % 8) l) hb rfl 12 hz
        rw [hpw, Nat.testBit_two_pow, decide_eq_true_eq] at this
        exact this.symm
      exact pcB_dec hbx hby (by omega) (by omega) (by omega) (by rw [e1 x (by omega) htx, e1 y (by omega) hty])
end P79
