theorem run_succ {T : List Ent} {rt : Option FieldType} {xs : Nat → Int32} {Ln : Nat} {call : Call} {n pc : Nat} {lo : List (Option Value)} {st : List Value} {w : Om} : run T rt xs Ln call (n + 1) pc lo st w = (match fnd T pc with
    | none => none
    | some e => match exec1 rt xs Ln call e lo st w with
      | none => none
      | some (.inr r) => some r
      | some (.inl q) => run T rt xs Ln call n q.1 q.2.1 q.2.2.1 q.2.2.2) := rfl
theorem fnd_s {T : List Ent} {pc : Nat} {e : Ent} (h : fnd T pc = some e) : e ∈ T ∧ e.1 = pc := by
  unfold fnd at h
  exact ⟨List.mem_of_find?_eq_some h, Nat.eq_of_beq_eq_true (by simpa using List.find?_some h)⟩
theorem chkM_s {co : Nat} {ini : Bool} {bytes : ByteArray} {T : List Ent} (h : chkM co ini bytes T = true) {e : Ent} (he : e ∈ T) : okE co ini e = true ∧ decode bytes e.1 = .ok (e.2.1, e.2.2.1) := by
  have h1 := List.all_eq_true.mp h e he
  rw [Bool.and_eq_true, decide_eq_true_eq] at h1
  exact h1
/-- an outcome that is no return -/
def noR (o : Option (Cfg ⊕ Res)) : Prop := ∀ r, o ≠ some (.inr r)
theorem nr_go {pc : Nat} {l : List (Option Value)} {st : List Value} {w : Om} : noR (go1 pc l st w) := fun r h => by cases h
theorem nr_no : noR none := fun r h => by cases h
theorem nr_if {c : Prop} [hdc : Decidable c] {x y : Option (Cfg ⊕ Res)} (hx : noR x) (hy : noR y) : noR (if c then x else y) := by
  split
  · exact hx
  · exact hy
theorem nr_I1 {st : List Value} {k : Int32 → List Value → Option (Cfg ⊕ Res)} (h : ∀ x t, noR (k x t)) : noR (pI1 st k) := fun r z => by
  obtain ⟨x, t, -, h2⟩ := pI1_s z
  exact h x t r h2
theorem nr_I2 {st : List Value} {k : Int32 → Int32 → List Value → Option (Cfg ⊕ Res)} (h : ∀ x y t, noR (k x y t)) : noR (pI2 st k) := fun r z => by
  obtain ⟨x, y, t, -, h2⟩ := pI2_s z
  exact h x y t r h2
theorem nr_L1 {st : List Value} {k : Int64 → List Value → Option (Cfg ⊕ Res)} (h : ∀ x t, noR (k x t)) : noR (pL1 st k) := fun r z => by
  obtain ⟨x, t, -, h2⟩ := pL1_s z
  exact h x t r h2
theorem nr_L2 {st : List Value} {k : Int64 → Int64 → List Value → Option (Cfg ⊕ Res)} (h : ∀ x y t, noR (k x y t)) : noR (pL2 st k) := fun r z => by
  obtain ⟨x, y, t, -, h2⟩ := pL2_s z
  exact h x y t r h2
theorem nr_R1 {st : List Value} {k : Nat → List Value → Option (Cfg ⊕ Res)} (h : ∀ x t, noR (k x t)) : noR (pR1 st k) := fun r z => by
  obtain ⟨x, t, -, h2⟩ := pR1_s z
  exact h x t r h2
theorem nr_V1 {st : List Value} {k : Value → List Value → Option (Cfg ⊕ Res)} (h : ∀ x t, noR (k x t)) : noR (pV1 st k) := fun r z => by
  obtain ⟨x, t, -, h2⟩ := pV1_s z
  exact h x t r h2
theorem nr_A {w : Om} {k : Nat} {f : FieldType → Nat → Option (Cfg ⊕ Res)} (h : ∀ x t, noR (f x t)) : noR (pA w k f) := fun r z => by
  obtain ⟨x, t, -, h2⟩ := pA_s z
  exact h x t r h2
theorem nr_call {call : Call} {v : Bool} {a b pc : Nat} {l : List (Option Value)} {st : List Value} {w : Om} : noR (xCall call v a b pc l st w) := by
  unfold xCall
  refine nr_if ?_ nr_no
  split
  · refine nr_if ?_ nr_no
    split
    · exact nr_go
    · exact nr_no
  · exact nr_no
theorem nr_copy {pc : Nat} {l : List (Option Value)} {st : List Value} {w : Om} : noR (xCopy pc l st w) := by
  unfold xCopy
  split
  · exact nr_A (fun _ _ => nr_A (fun _ _ => nr_if nr_go nr_no))
  · exact nr_no
theorem nr_clone {pc : Nat} {l : List (Option Value)} {st : List Value} {w : Om} : noR (xClone pc l st w) := by
  unfold xClone
  split
  · exact nr_A (fun _ _ => nr_if nr_go nr_no)
  · exact nr_no
/-- an outcome whose heap is no smaller -/
def moN (w : Om) (o : Option (Cfg ⊕ Res)) : Prop := (∀ q, o = some (.inl q) → oN w ≤ oN q.2.2.2 ∧ oS w ≤ oS q.2.2.2) ∧ ∀ r, o = some (.inr r) → oN w ≤ oN r.1 ∧ oS w ≤ oS r.1
theorem mo_go {pc : Nat} {l : List (Option Value)} {st : List Value} {w w' : Om} (h : oN w ≤ oN w' ∧ oS w ≤ oS w') : moN w (go1 pc l st w') := ⟨fun q z => (by rw [go1_s z]; exact h), fun r z => (by cases z)⟩
theorem mo_rt {w : Om} {v : Option Value} : moN w (some (.inr (w, v))) := ⟨fun q z => (by cases z), fun r z => (by cases z; exact ⟨Nat.le_refl _, Nat.le_refl _⟩)⟩
theorem mo_no {w : Om} : moN w none := ⟨fun q z => (by cases z), fun r z => (by cases z)⟩
theorem mo_if {w : Om} {c : Prop} [hdc : Decidable c] {x y : Option (Cfg ⊕ Res)} (hx : moN w x) (hy : moN w y) : moN w (if c then x else y) := by
  split
  · exact hx
  · exact hy
theorem mo_I1 {w : Om} {st : List Value} {k : Int32 → List Value → Option (Cfg ⊕ Res)} (h : ∀ x t, moN w (k x t)) : moN w (pI1 st k) := by
  unfold pI1
  split
  · exact h _ _
  · exact mo_no
theorem mo_I2 {w : Om} {st : List Value} {k : Int32 → Int32 → List Value → Option (Cfg ⊕ Res)} (h : ∀ x y t, moN w (k x y t)) : moN w (pI2 st k) := by
  unfold pI2
  split
  · exact h _ _ _
  · exact mo_no
theorem mo_L1 {w : Om} {st : List Value} {k : Int64 → List Value → Option (Cfg ⊕ Res)} (h : ∀ x t, moN w (k x t)) : moN w (pL1 st k) := by
  unfold pL1
  split
  · exact h _ _
  · exact mo_no
theorem mo_L2 {w : Om} {st : List Value} {k : Int64 → Int64 → List Value → Option (Cfg ⊕ Res)} (h : ∀ x y t, moN w (k x y t)) : moN w (pL2 st k) := by
  unfold pL2
  split
  · exact h _ _ _
  · exact mo_no
theorem mo_R1 {w : Om} {st : List Value} {k : Nat → List Value → Option (Cfg ⊕ Res)} (h : ∀ x t, moN w (k x t)) : moN w (pR1 st k) := by
  unfold pR1
  split
  · exact h _ _
  · exact mo_no
theorem mo_V1 {w : Om} {st : List Value} {k : Value → List Value → Option (Cfg ⊕ Res)} (h : ∀ x t, moN w (k x t)) : moN w (pV1 st k) := by
  unfold pV1
  split
  · exact h _ _
  · exact mo_no
theorem mo_A {w v : Om} {k : Nat} {f : FieldType → Nat → Option (Cfg ⊕ Res)} (h : ∀ x t, moN w (f x t)) : moN w (pA v k f) := by
  unfold pA
  split
  · exact h _ _
  · exact mo_no
def CallMo (call : Call) : Prop := ∀ a as w r, call a as w = some r → oN w ≤ oN r.1 ∧ oS w ≤ oS r.1
theorem mo_call {call : Call} (hc : CallMo call) {v : Bool} {a b pc : Nat} {l : List (Option Value)} {st : List Value} {w : Om} : moN w (xCall call v a b pc l st w) := by
  unfold xCall
  refine mo_if ?_ mo_no
  split
  · refine mo_if ?_ mo_no
    split
    · rename_i w' r hcl
      exact mo_go (hc _ _ _ _ hcl)
    · exact mo_no
  · exact mo_no
theorem mo_copy {pc : Nat} {l : List (Option Value)} {st : List Value} {w : Om} : moN w (xCopy pc l st w) := by
  unfold xCopy
  split
  · exact mo_A (fun _ _ => mo_A (fun _ _ => mo_if (mo_go ⟨Nat.le_refl _, Nat.le_refl _⟩) mo_no))
  · exact mo_no
theorem mo_clone {pc : Nat} {l : List (Option Value)} {st : List Value} {w : Om} : moN w (xClone pc l st w) := by
  unfold xClone
  split
  · exact mo_A (fun _ _ => mo_if (mo_go ⟨Nat.le_succ _, Nat.le_add_right _ _⟩) mo_no)
  · exact mo_no
theorem mo_put {w : Om} {k b pc : Nat} {u : Value} {l : List (Option Value)} {t : List Value} : moN w (match wV w k b u with
    | some w' => go1 pc l t w'
    | none => none) := by
  split
  · rename_i w' hw
    obtain ⟨w1, w2, -⟩ := wV_shape hw
    exact mo_go ⟨Nat.le_of_eq w1.symm, Nat.le_of_eq w2.symm⟩
  · exact mo_no
theorem mo_exec {rt : Option FieldType} {xs : Nat → Int32} {Ln : Nat} {call : Call} (hc : CallMo call) {pc : Nat} {i : Instr} {len a bb : Nat} {v : Value} {lo : List (Option Value)} {st : List Value} {w : Om} : moN w (exec1 rt xs Ln call (pc, i, len, a, bb, v) lo st w) := by
  cases i <;> simp only [exec1] <;> first | exact mo_no | exact mo_go ⟨Nat.le_refl _, Nat.le_refl _⟩ | skip
  all_goals repeat' (first | exact mo_go ⟨Nat.le_refl _, Nat.le_refl _⟩ | exact mo_no | exact mo_rt | exact mo_go ⟨Nat.le_succ _, Nat.le_add_right _ _⟩ | exact mo_call hc | exact mo_copy | exact mo_clone | exact mo_put | refine mo_if ?_ ?_ | (refine mo_I1 (fun _ _ => ?_)) | (refine mo_I2 (fun _ _ _ => ?_)) | (refine mo_L1 (fun _ _ => ?_)) | (refine mo_L2 (fun _ _ _ => ?_)) | (refine mo_R1 (fun _ _ => ?_)) | (refine mo_V1 (fun _ _ => ?_)) | (refine mo_A (fun _ _ => ?_)) | split)
theorem run_mono {T : List Ent} {rt : Option FieldType} {xs : Nat → Int32} {Ln : Nat} {call : Call} (hc : CallMo call) {r : Res} : ∀ (n pc : Nat) (lo : List (Option Value)) (st : List Value) (w : Om), run T rt xs Ln call n pc lo st w = some r → oN w ≤ oN r.1 ∧ oS w ≤ oS r.1 := by
  intro n
  induction n with
  | zero => intro pc lo st w h; cases h
  | succ n ih =>
    intro pc lo st w h
    rw [run_succ] at h
    split at h
    · cases h
    · rename_i en hf
      obtain ⟨pc', i, len, a, bb, v⟩ := en
      have hm := mo_exec (rt := rt) (xs := xs) (Ln := Ln) hc (pc := pc') (i := i) (len := len) (a := a) (bb := bb) (v := v) (lo := lo) (st := st) (w := w)
      split at h
      · cases h
      · rename_i r' hex
        cases h
        exact hm.2 _ hex
      · rename_i q hex
        have h1 := hm.1 _ hex
        have h2 := ih _ _ _ _ h
        exact ⟨Nat.le_trans h1.1 h2.1, Nat.le_trans h1.2 h2.2⟩
section STEP
variable {p : Program} {l : Launch} {e : Env} {R : Room} {s : State} {m : MethodId} {args : Array Value} {below : List Frame} {meth : Method} {c : Code}
variable {cc : ByteArray} {co nL : Nat} {H0 : Heap} {b Ln : Nat} {sa : Nat → Option Nat} {xs : Nat → Int32} {D : va_G} {cT : FieldType → ClassId} {n0 s0 : Nat} {ini : Bool} {pc : Nat} {lo : List (Option Value)} {t st : List Value} {w : Om}
theorem ret1 {rt : Option FieldType} {call : Call} {i : Instr} {len a bb : Nat} {v : Value} {r : Res} (C : Ct p R s m args meth c cc co nL H0 b Ln xs sa D cT ini) (hrt : meth.sig.returnType = rt) (hlocks : meth.locks = false) (hd : decode cc pc = .ok (i, len)) (hok : okE co ini (pc, i, len, a, bb, v) = true)
    (hex : exec1 rt xs Ln call (pc, i, len, a, bb, v) lo st w = some (.inr r)) : r.1 = w ∧ Gd p l e R s m args below meth c nL H0 b sa D cT n0 s0 (MQ below (QcA H0 b sa D cT r) args s (oN r.1 - n0) (oS r.1 - s0) (fun z => H0.size ≤ z)) (pc, lo, st, w) := by
  have C' := C
  obtain ⟨hx, hb, hmx, hown, hts, hC, hR1, hR2, hin⟩ := C'
  have nog : ∀ {pc' : Nat} {l' : List (Option Value)} {st' : List Value} {w' : Om}, go1 pc' l' st' w' = some (.inr r) → False := fun h => by cases h
  cases i with
  | ireturn =>
    simp only [exec1] at hex
    have h1 := Nat.eq_of_beq_eq_true (show Nat.beq len 1 = true from hok)
    subst h1
    split at hex
    · rename_i x
      obtain ⟨hr, hex⟩ := ite_s hex
      cases hex
      refine ⟨rfl, fun H locs ls hW hL hq => ?_⟩
      cases rt with
      | none => cases hr
      | some ty =>
        have hn : narrow ty (.int x) = .int x := by
          cases ty <;> first | rfl | (cases hr; done) | skip
          · exact congrArg Value.int (by simpa [okR] using hr)
          · exact congrArg Value.int (by simpa [okR] using hr)
          · have h2 : x = 0 ∨ x = 1 := by simpa [okR] using hr
            rcases h2 with rfl | rfl <;> decide
        exact W.zret hx hb hrt hn (fun t ht _ => ⟨rfl, by rw [ht]; exact hW⟩) hq hd hlocks
    · cases hex
  | lreturn =>
    simp only [exec1] at hex
    have h1 := Nat.eq_of_beq_eq_true (show Nat.beq len 1 = true from hok)
    subst h1
    split at hex
    · rename_i x
      obtain ⟨hr, hex⟩ := ite_s hex
      cases hex
      refine ⟨rfl, fun H locs ls hW hL hq => ?_⟩
      cases rt with
      | none => cases hr
      | some ty =>
        cases ty <;> first | (cases hr; done) | exact W.lret hx hb hrt (fun t ht _ => ⟨rfl, by rw [ht]; exact hW⟩) hq hd hlocks
    · cases hex
  | areturn =>
    simp only [exec1] at hex
    have h1 := Nat.eq_of_beq_eq_true (show Nat.beq len 1 = true from hok)
    subst h1
    split at hex
    · rename_i u
      obtain ⟨⟨hr0, hr⟩, hex⟩ := ite_s hex
      cases hex
      refine ⟨rfl, fun H locs ls hW hL hq => ?_⟩
      cases rt with
      | none => cases hr
      | some ty =>
        have hty : (∃ n, ty = .object n) ∨ ∃ t, ty = .array t := by
          cases ty <;> first | exact Or.inl ⟨_, rfl⟩ | exact Or.inr ⟨_, rfl⟩ | (cases u <;> first | (cases hr; done) | (cases hr0; done))
        exact W.aret hx hb hrt hty (isRf_cv hr0) (fun t ht _ => ⟨rfl, by rw [ht]; exact hW⟩) hq hd hlocks
    · cases hex
  | return_ =>
    simp only [exec1] at hex
    have h1 := Nat.eq_of_beq_eq_true (show Nat.beq len 1 = true from hok)
    subst h1
    obtain ⟨⟨hr, hst⟩, hex⟩ := ite_s hex
    cases hex
    subst hst
    subst hr
    exact ⟨rfl, fun H locs ls hW hL hq => W.vret hx hb hrt (fun t ht _ => ⟨rfl, by rw [ht]; exact hW⟩) hq hd hlocks⟩
  | _ =>
    refine absurd hex ((?_ : noR _) r)
    simp only [exec1]
    repeat' (first | exact nr_go | exact nr_no | exact nr_call | exact nr_copy | exact nr_clone | refine nr_if ?_ ?_ | (refine nr_I1 (fun _ _ => ?_)) | (refine nr_I2 (fun _ _ _ => ?_)) | (refine nr_L1 (fun _ _ => ?_)) | (refine nr_L2 (fun _ _ _ => ?_)) | (refine nr_R1 (fun _ _ => ?_)) | (refine nr_V1 (fun _ _ => ?_)) | (refine nr_A (fun _ _ => ?_)) | split)
theorem run_sound {T : List Ent} {rt : Option FieldType} {call : Call} {d : Nat} {r : Res} (C : Ct p R s m args meth c cc co nL H0 b Ln xs sa D cT ini) (hcall : CallOK l H0 b sa Ln xs D cT d call) (hRd : d + 1 ≤ R.frames ∧ 64 * (d + 1) ≤ R.locals) (hchk : chkM co ini cc T = true) (hrt : meth.sig.returnType = rt) (hlocks : meth.locks = false) :
    ∀ (n pc : Nat) (lo : List (Option Value)) (st : List Value) (w : Om), run T rt xs Ln call n pc lo st w = some r → n0 ≤ oN w → s0 ≤ oS w → oN r.1 - n0 ≤ R.cells → oS r.1 - s0 ≤ R.slots →
      (oN w ≤ oN r.1 ∧ oS w ≤ oS r.1) ∧ Gd p l e R s m args below meth c nL H0 b sa D cT n0 s0 (MQ below (QcA H0 b sa D cT r) args s (oN r.1 - n0) (oS r.1 - s0) (fun z => H0.size ≤ z)) (pc, lo, st, w) := by
  intro n
  induction n with
  | zero => intro pc lo st w h; cases h
  | succ n ih =>
    intro pc lo st w h hn0 hs0 hr1 hr2
    rw [run_succ] at h
    split at h
    · cases h
    · rename_i en hf
      obtain ⟨hmem, hpc⟩ := fnd_s hf
      obtain ⟨hok, hdec⟩ := chkM_s hchk hmem
      obtain ⟨pc', i, len, a, bb, v⟩ := en
      dsimp only at hpc hdec
      subst hpc
      split at h
      · cases h
      · rename_i r' hex
        cases h
        obtain ⟨h1, h2⟩ := ret1 (l := l) (e := e) (below := below) (sa := sa) (n0 := n0) (s0 := s0) C hrt hlocks hdec hok hex
        rw [h1]
        rw [h1] at h2
        exact ⟨⟨Nat.le_refl _, Nat.le_refl _⟩, h2⟩
      · rename_i q hex
        obtain ⟨q1, q2, q3, q4⟩ := q
        have key := stp (e := e) (below := below) (n0 := n0) (s0 := s0) (Q := MQ below (QcA H0 b sa D cT r) args s (oN r.1 - n0) (oS r.1 - s0) (fun z => H0.size ≤ z)) C hcall hRd hdec hok hex hn0 hs0
        have mono := key.1
        dsimp only at mono h
        obtain ⟨k1, k2⟩ := ih q1 q2 q3 q4 h (by omega) (by omega) hr1 hr2
        refine ⟨⟨by omega, by omega⟩, key.2 ?_ ?_ k2⟩
        · show oN q4 - n0 ≤ R.cells
          omega
        · show oS q4 - s0 ≤ R.slots
          omega
/-- THE CONTRACT OF A METHOD OUT OF A RUN OF THE SMALL MACHINE -/
theorem met_of_run {T : List Ent} {rt : Option FieldType} {call : Call} {d k : Nat} {y : MethodName} {as : List Value} {r : Res} {kd n : Nat} (hk : k < 280) (hm : mI k = some (y, cc, nL, rt, kd)) (hco : On co = y.cls) (hini : ini = true → y.name = "<init>") (hcall : CallOK l H0 b sa Ln xs D cT d call) (hchk : chkM co ini cc T = true)
    (hlo : lo.length = nL ∧ (lg_sl (as.map (cvv H0.size b sa))).length ≤ nL ∧ ∀ j v, lo[j]? = some (some v) → (j, cvv H0.size b sa v) ∈ lv_args 0 (as.map (cvv H0.size b sa)))
    (hrun : run T rt xs Ln call n 0 lo [] w = some r) : (oN w ≤ oN r.1 ∧ oS w ≤ oS r.1) ∧ MetA l H0 b sa Ln xs D cT (d + 1) k as w r := by
  have C0 := mok (by omega) hm
  obtain ⟨k1, k2, k3, k4, k5, k6, k7, k8, k9⟩ := C0
  dsimp only at k1 k2 k3 k4 k5 k6 k7 k8 k9
  have main : ∀ (p : Program) (e : Env) (s : State) (m : MethodId) (args : Array Value) (below : List Frame) (meth : Method) (c : Code) (R : Room), Ct p R s m args meth c cc co nL H0 b Ln xs sa D cT ini → meth.sig.returnType = rt → meth.locks = false → d + 1 ≤ R.frames ∧ 64 * (d + 1) ≤ R.locals → oN r.1 - oN w ≤ R.cells → oS r.1 - oS w ≤ R.slots →
      (oN w ≤ oN r.1 ∧ oS w ≤ oS r.1) ∧ Gd p l e R s m args below meth c nL H0 b sa D cT (oN w) (oS w) (MQ below (QcA H0 b sa D cT r) args s (oN r.1 - oN w) (oS r.1 - oS w) (fun z => H0.size ≤ z)) (0, lo, [], w) :=
    fun p e s m args below meth c R C hrt hlk hRd h1 h2 => run_sound C hcall hRd hchk hrt hlk n 0 lo [] w hrun (Nat.le_refl _) (Nat.le_refl _) h1 h2
  refine ⟨run_mono (fun a as w r h => ⟨(hcall a as w r h).1, (hcall a as w r h).2.1⟩) n 0 lo [] w hrun, ?_⟩
  intro q hq
  rw [hm] at hq
  cases hq
  refine Met.ofW (cc := cc) (maxL := nL) (ret := rt) k5 rfl ?_
  intro p e s m args below meth c s₁ B hml hv
  obtain ⟨rfl, hW, hCX⟩ := hv
  have hts0 := atoms_spec (ws := Cond.code y cc nL rt :: TT) B.pre
  have hts : ∀ w ∈ TT, w.before _ s = true := fun w hw => hts0 w (List.mem_cons_of_mem _ hw)
  have hown : s.vm.findClass (On co) = some m.cls := by rw [hco]; exact findClass_of_methodNamed B.named
  have hin : ini = true → meth.name = "<init>" := fun h => (name_of_methodNamed B.named B.method).1.trans (hini h)
  have hG := (main p e s m _ below meth c { frames := d + 1, cells := oN r.1 - oN w, slots := oS r.1 - oS w, locals := 64 * (d + 1) } ⟨B.exec, B.bytes, hml, hown, hts, hCX, Nat.le_add_left 1 d, by show 64 ≤ 64 * (d + 1); omega, hin⟩ B.returns B.notSynchronized ⟨Nat.le_refl _, Nat.le_refl _⟩ (Nat.le_refl _) (Nat.le_refl _)).2
  have hl := lv_entry (as.map (cvv H0.size b sa)) (n := nL) hlo.2.1
  rw [lg_entry_eq]
  have := hG s.heap [] _ hW ⟨hlo.1, hl.1, hl.2.1, fun j v hj => hl.2.2 _ (hlo.2.2 j v hj)⟩ (fun z hz => by cases hz)
  rw [show oN (0, lo, ([] : List Value), w).2.2.2 - oN w = 0 from Nat.sub_self _, show oS (0, lo, ([] : List Value), w).2.2.2 - oS w = 0 from Nat.sub_self _] at this
  exact this
end STEP
