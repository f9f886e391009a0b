-- ===== end of PART A; then your names; then what follows =====
/-! THE CLAIM OUT OF ONE WALK OF THE LAW'S BODY. Your part is whole_start (and what it stands on); all else here is the same for every law, but numbers. -/
def RLaw0 : String := "HornMazeLaw"
def lw_P (b : Addr) (xs : List Int32) (args : Array Value) (s : State) : Prop := args = #[.ref b] ∧ s.IntsAt b xs ∧ xs.length ≤ 384 ∧ (Jvm.Cond.and given_1 narrow_1).before args s = true
def lw_Q (_ : Array Value) (s : State) (o : Outcome) (t : State) : Prop := o = .returned (some (.int 1)) ∧ Framed s o t [] 600000 7302250
def lw_Z (below : List Frame) (a : Array Value) (s : State) : State → Prop := fun t => ∃ o, t.status = .running ∧ Ended t below o ∧ lw_Q a s o t
/-- the law's own end, with 1 on the stack, nothing written that was there before, its room as the claim has it -/
theorem lw_ret {p : Program} {l : Launch} {e : Env} {s : State} {m : MethodId} {below : List Frame} {meth : Method} {c : Code} {b : Nat} (hx : p.tables.exec = Jvm.exec) (hb : c.code = code) (hr : meth.sig.returnType = ret) (hlocks : meth.locks = false) {pc : Nat} {H : Heap} {ls : Array Slot} (hdg : decode code pc = .ok (.ireturn, 1)) : W p l e room_1 s m #[Value.ref b] below meth c H [] 600000 7302250 (lw_Z below #[Value.ref b] s) (F0 m pc ls [.int 1]) := by
  intro T hT X
  obtain ⟨fs, hret, hrun, hended, hW, hframe⟩ := X.leave (v := some (.int 1)) (hlocks := hlocks) (fun h => by rw [hr] at h; cases h)
  have hmeth' : T.vm.method? m = some meth := X.method'
  refine ⟨T.setFrames fs, ?_, .returned (some (.int 1)), hrun, hended, rfl, ⟨_, rfl⟩, hW, hframe⟩
  jvm_step X.here [X.here.top, hx, hb, hdg, hmeth', hr, ret, narrow_b1]
  (try refine ⟨rfl, ?_⟩); (try refine ⟨rfl, ?_⟩)
  first | (intro acts; rw [hret _ acts rfl rfl rfl]) | rw [hret _ _ rfl rfl rfl]
  exact Steps.refl _
/-- what holds at the law's entry: the machine, the code, the tables' words (any of lw_tbl by 'hts w (by decide +kernel)'), the script of L ints xs at the cell b, what the Statement gives of the start (any of its parts by flat_of_before) -/
def lw_At (p : Program) (s : State) (m : MethodId) (meth : Method) (c : Code) (b L : Nat) (xs : Nat → Int32) : Prop :=
  p.tables.exec = Jvm.exec ∧ c.code = code ∧ meth.sig.returnType = ret ∧ c.maxLocals = 4 ∧ s.vm.findClass RLaw0 = some m.cls ∧ (∀ w ∈ lw_tbl, w.before #[Value.ref b] s = true) ∧ va_X b L xs s s.heap ∧ b < s.heap.size ∧ meth.locks = false ∧ (Jvm.Cond.and given_1 narrow_1).before #[Value.ref b] s = true
def w0 : Om := (0, 0, fun _ => .inr 99, fun _ _ => 0, fun _ _ => 0, fun _ _ => none)
/-- WHAT IS LEFT: the law over the small machine -/
def LawGoal : Prop := ∀ (L : Nat) (xs : Nat → Int32), L ≤ 384 → ∃ w', Ev T_L_law (some .boolean) xs L (callD xs L 1000) 0 [some (.retAddr 0), none, none, none] [] w0 (w', some (.int 1)) ∧ oN w' ≤ 600000 ∧ oS w' ≤ 7302250
theorem ret_i {xs : Nat → Int32} {Ln : Nat} {call : Call} {pc : Nat} {i : Instr} {len a bb : Nat} {v : Value} {lo : List (Option Value)} {st : List Value} {w w1 : Om} {x : Int32} (hex : exec1 (some .boolean) xs Ln call (pc, i, len, a, bb, v) lo st w = some (.inr (w1, some (.int x)))) : i = .ireturn ∧ st = [.int x] ∧ w1 = w := by
  cases i with
  | ireturn =>
    simp only [exec1] at hex
    split at hex
    · obtain ⟨-, hex⟩ := ite_s hex
      cases hex
      exact ⟨rfl, rfl, rfl⟩
    · cases hex
  | lreturn =>
    simp only [exec1] at hex
    split at hex
    · obtain ⟨h, hex⟩ := ite_s hex
      cases hex
    · cases hex
  | areturn =>
    simp only [exec1] at hex
    split at hex
    · obtain ⟨h, hex⟩ := ite_s hex
      cases hex
      cases h.1
    · cases hex
  | return_ =>
    simp only [exec1] at hex
    obtain ⟨h, hex⟩ := ite_s hex
    cases hex
  | _ =>
    refine absurd hex ((?_ : noR _) _)
    simp only [exec1]
    repeat' (first | exact nr_go | exact nr_no | exact nr_call | exact nr_copy | exact nr_clone | refine nr_if ?_ ?_ | (refine nr_I1 (fun _ _ => ?_)) | (refine nr_I2 (fun _ _ _ => ?_)) | (refine nr_L1 (fun _ _ => ?_)) | (refine nr_L2 (fun _ _ _ => ?_)) | (refine nr_R1 (fun _ _ => ?_)) | (refine nr_V1 (fun _ _ => ?_)) | (refine nr_A (fun _ _ => ?_)) | split)
section STEP
variable {p : Program} {l : Launch} {e : Env} {R : Room} {s : State} {m : MethodId} {args : Array Value} {below : List Frame} {meth : Method} {c : Code} {Q : State → Prop}
variable {cc : ByteArray} {co nL : Nat} {H0 : Heap} {b Ln : Nat} {sa : Nat → Option Nat} {xs : Nat → Int32} {D : va_G} {cT : FieldType → ClassId} {n0 s0 : Nat} {ini : Bool}
theorem run_soundQ {T : List Ent} {rt : Option FieldType} {call : Call} {d : Nat} {r : Res} (C : Ct p R s m args meth c cc co nL H0 b Ln xs sa D cT ini) (hcall : CallOK l H0 b sa Ln xs D cT d call) (hRd : d + 1 ≤ R.frames ∧ 64 * (d + 1) ≤ R.locals) (hchk : chkM co ini cc T = true)
    (hret : ∀ (pc : Nat) (i : Instr) (len a bb : Nat) (v : Value) (lo : List (Option Value)) (st : List Value) (w : Om), decode cc pc = .ok (i, len) → okE co ini (pc, i, len, a, bb, v) = true → exec1 rt xs Ln call (pc, i, len, a, bb, v) lo st w = some (.inr r) → Gd p l e R s m args below meth c nL H0 b sa D cT n0 s0 Q (pc, lo, st, w)) :
    ∀ (n pc : Nat) (lo : List (Option Value)) (st : List Value) (w : Om), run T rt xs Ln call n pc lo st w = some r → n0 ≤ oN w → s0 ≤ oS w → oN r.1 - n0 ≤ R.cells → oS r.1 - s0 ≤ R.slots → Gd p l e R s m args below meth c nL H0 b sa D cT n0 s0 Q (pc, lo, st, w) := by
  have hmo : CallMo call := fun a as w r h => ⟨(hcall a as w r h).1, (hcall a as w r h).2.1⟩
  intro n
  induction n with
  | zero => intro pc lo st w h; cases h
  | succ n ih =>
    intro pc lo st w h hn0 hs0 hr1 hr2
    rw [run_succ] at h
    split at h
    · cases h
    · rename_i en hf
      obtain ⟨hmem, hpc⟩ := fnd_s hf
      obtain ⟨hok, hdec⟩ := chkM_s hchk hmem
      obtain ⟨pc', i, len, a, bb, v⟩ := en
      dsimp only at hpc hdec
      subst hpc
      split at h
      · cases h
      · rename_i r' hex
        cases h
        exact hret _ _ _ _ _ _ _ _ _ hdec hok hex
      · rename_i q hex
        obtain ⟨q1, q2, q3, q4⟩ := q
        have key := stp (e := e) (below := below) (n0 := n0) (s0 := s0) (Q := Q) C hcall hRd hdec hok hex hn0 hs0
        have mono := key.1
        have m2 := run_mono hmo n q1 q2 q3 q4 h
        dsimp only at mono h
        have k2 := ih q1 q2 q3 q4 h (by omega) (by omega) hr1 hr2
        refine key.2 ?_ ?_ k2
        · show oN q4 - n0 ≤ R.cells
          omega
        · show oS q4 - s0 ≤ R.slots
          omega
end STEP
theorem ao_tbl : Cond.arrayOver (.object RX1) ∈ lw_tbl ∧ Cond.arrayOver (.object RX4) ∈ lw_tbl ∧ Cond.castable "[I" "java/lang/Cloneable" ∈ lw_tbl ∧ Cond.stringRef "HornMaze$Tokens" 52 NAMS ∈ lw_tbl := by decide +kernel
theorem ac_tbl : Cond.arrayClass .int ∈ lw_tbl ∧ Cond.arrayClass .long ∈ lw_tbl ∧ Cond.arrayClass .byte ∈ lw_tbl ∧ Cond.arrayClass .boolean ∈ lw_tbl := by decide +kernel
theorem ls_tbl : Cond.laysStatic "java/lang/String" "COMPACT_STRINGS" "Z" ∈ lw_tbl ∧ Cond.initialized "java/lang/String" ∈ lw_tbl ∧ Cond.laysStatic "jdk/internal/util/Preconditions" "SIOOBE_FORMATTER" "Ljava/util/function/BiFunction;" ∈ lw_tbl ∧ Cond.initialized "jdk/internal/util/Preconditions" ∈ lw_tbl := by decide +kernel
theorem arr_prim {args : Array Value} {s : State} {ty : FieldType} (ht : ∀ C, ty ≠ .object C) (h : (Cond.arrayClass ty).before args s = true) : ∃ cA, ArrOfT s cA ty ∧ va_RA s cA ty := by
  obtain ⟨c, k, comp, h1, h2, h3⟩ := Cond.arrayClass_spec h
  refine ⟨c, fun n z => ⟨fun k h => (by cases h), k, h2, comp, h3⟩, ?_⟩
  cases ty <;> first | exact h1 | exact absurd rfl (ht _)
theorem arr_obj {s : State} {C : String} (h : va_AO C s) : ∃ cA, ArrOfT s cA (.object C) ∧ va_RA s cA (.object C) := by
  obtain ⟨comp, c, k, h1, h2, h3, h4, h5⟩ := Cond.arrayOver_spec h
  exact ⟨c, fun n z => ⟨fun k h => (by cases h), k, h3, comp, h4⟩, k, comp, h3, h4, h1, h5⟩
theorem static_int {args : Array Value} {s : State} {C n d : String} {x : Int32} (h : (Cond.eq (.static C n d) (.int x)).before args s = true) : (Term.static C n d).eval args s none [] s = some (.int x) := by
  simp only [Cond.before, Cond.holds, Cond.value] at h
  have h2 : (Term.int x).eval args s none [] s = some (.int x) := rfl
  rw [h2] at h
  generalize (Term.static C n d).eval args s none [] s = o at h ⊢
  cases o with
  | none => simp at h
  | some v => cases v <;> simp_all
set_option maxHeartbeats 4000000 in
theorem whole_of (hgoal : LawGoal) {p : Program} {e : Env} {s : State} {m : MethodId} {below : List Frame} {meth : Method} {c : Code} (l : Launch) {b L : Nat} {xs : Nat → Int32} (hL : L ≤ 384) (C0 : lw_At p s m meth c b L xs) : W p l e room_1 s m #[Value.ref b] below meth c s.heap [] 0 0 (lw_Z below #[Value.ref b] s) (entryFrame m ([Value.ref b] : List Value).toArray 4) := by
  obtain ⟨hx, hb, hr, hml, hown, hts, hX, hbl, hlocks, hgv⟩ := C0
  have hTT : ∀ w ∈ TT, w.before #[Value.ref b] s = true := fun w hw => hts w (List.mem_filter.mp hw).1
  have hfl := flat_of_before _ hgv
  -- the kinds
  obtain ⟨D, hD⟩ : ∃ D : va_G, va_K D vwCl [] s := by
    have h1 : ∀ k : Nat, ∃ q : ClassId × (Nat → Nat), k < 12 → u_Kn s (Cn k) (Tn k) (nF k) q.1 q.2 := by
      intro k
      by_cases hk : k < 12
      · have K := kis hk
        obtain ⟨c0, iS, hKn⟩ := u_known (C := Cn k) (T := Tn k) (N := nF k) (n := nF k) hTT K.2.1 (hTT _ K.2.2.2.2.1)
        exact ⟨(c0, iS), fun _ => hKn⟩
      · exact ⟨(0, fun _ => 0), fun h => absurd h hk⟩
    refine ⟨(fun k => (Classical.choose (h1 k)).1, fun k => (Classical.choose (h1 k)).2), fun k q hq => ?_, fun k q hq => by simp at hq⟩
    have hk : k < 12 := (List.getElem?_eq_some_iff.mp hq).1
    have h2 := (kis hk).1
    rw [h2] at hq
    cases hq
    exact Classical.choose_spec (h1 k) hk
  have hA1 : va_AO RX1 s := va_AO.of (hts _ ao_tbl.1)
  have hA4 : va_AO RX4 s := va_AO.of (hts _ ao_tbl.2.1)
  obtain ⟨cT, hcT⟩ : ∃ cT : FieldType → ClassId, ∀ ty ∈ tyL, ArrOfT s (cT ty) ty ∧ va_RA s (cT ty) ty := by
    have h1 : ∀ ty : FieldType, ∃ cA, ty ∈ tyL → ArrOfT s cA ty ∧ va_RA s cA ty := by
      intro ty
      by_cases hty : ty ∈ tyL
      · have h2 : ty = .int ∨ ty = .long ∨ ty = .byte ∨ ty = .boolean ∨ ty = .object RX1 ∨ ty = .object RX4 := by simpa [tyL] using hty
        have : ∃ cA, ArrOfT s cA ty ∧ va_RA s cA ty := by
          rcases h2 with rfl | rfl | rfl | rfl | rfl | rfl
          · exact arr_prim (fun C z => by cases z) (hts _ ac_tbl.1)
          · exact arr_prim (fun C z => by cases z) (hts _ ac_tbl.2.1)
          · exact arr_prim (fun C z => by cases z) (hts _ ac_tbl.2.2.1)
          · exact arr_prim (fun C z => by cases z) (hts _ ac_tbl.2.2.2)
          · exact arr_obj hA1
          · exact arr_obj hA4
        obtain ⟨cA, h3⟩ := this
        exact ⟨cA, fun _ => h3⟩
      · exact ⟨0, fun h => absurd h hty⟩
    exact ⟨fun ty => Classical.choose (h1 ty), fun ty hty => Classical.choose_spec (h1 ty) hty⟩
  have hnA : ∀ a : Nat, a < s.heap.size → ¬ (fun _ : Nat => False) a := fun _ _ h => h
  -- the text
  obtain ⟨adK, adV, hS, hSt⟩ := vk_Sof (args := #[Value.ref b]) (s := s) (N := 1) (tm := fun _ => .string "HornMaze$Tokens" 52) (len := [66]) (byt := [nmL]) (A := fun _ => False)
    (fun i hi => by rw [show i = 0 by omega]; decide)
    (fun i _ => hfl _ (by decide +kernel)) (fun i _ => hfl _ (by decide +kernel)) (fun i _ => hfl _ (by decide +kernel)) (fun i hi => by rw [show i = 0 by omega]; exact hfl _ (by decide +kernel))
    (fun i hi j hj => by
      rw [show i = 0 by omega] at hj ⊢
      have h9 : ∀ j, j < 66 → (Cond.eq (.elem (.field (.string "HornMaze$Tokens" 52) "java/lang/String" "value" "[B") (.int (Int32.ofNat j))) (.int (nmL.getD j 0))) ∈ flatC (Cond.and given_1 narrow_1) := by decide +kernel
      exact hfl _ (h9 j hj))
    (fun i j hi hj hne => absurd (show i = j by omega) hne) hnA
  obtain ⟨s4, s5, s6, s7⟩ := hS.1 0 (by decide)
  have s8 := va_Zof (A := fun _ => False) (hts _ ls_tbl.1) (hts _ ls_tbl.2.1) (static_int (hfl (Cond.eq (.static "java/lang/String" "COMPACT_STRINGS" "Z") (.int 1)) (by decide +kernel))) hnA
  have s9 := va_Zqof (A := fun _ => False) (hts _ ls_tbl.2.2.1) (hts _ ls_tbl.2.2.2) (hfl (Cond.isRef (.static "jdk/internal/util/Preconditions" "SIOOBE_FORMATTER" "Ljava/util/function/BiFunction;")) (by decide +kernel)) hnA
  obtain ⟨fo, s9⟩ : ∃ fo : Option Nat, va_Z "jdk/internal/util/Preconditions" "SIOOBE_FORMATTER" "Ljava/util/function/BiFunction;" (va_rf fo) (fun _ => False) s s.heap := by
    rcases s9 with h | ⟨t, h⟩
    · exact ⟨none, h⟩
    · exact ⟨some t, h⟩
  have hSX : SX s.heap (fun j => if j = 0 then some (adK 0) else if j = 1 then some (adV 0) else fo) s := ⟨adK 0, adV 0, rfl, rfl, vk_R.of (hts _ ao_tbl.2.2.2) (hSt 0 (by decide)), s4, s5, s6, s7, s8, s9⟩
  have hCX : CX s.heap b L xs (fun j => if j = 0 then some (adK 0) else if j = 1 then some (adV 0) else fo) D cT s := ⟨⟨hD, hcT, hA1, hA4, va_Nw.of rfl (hts _ ao_tbl.2.2.1)⟩, hX, hbl, hSX⟩
  obtain ⟨w', ⟨n, hrun⟩, hw1, hw2⟩ := hgoal L xs hL
  have hW0 : Wd s.heap b (fun j => if j = 0 then some (adK 0) else if j = 1 then some (adV 0) else fo) D cT w0 s.heap := ⟨rfl, fun _ _ => rfl, fun k hk => absurd hk (Nat.not_lt_zero k), fun _ _ => rfl⟩
  have hG := run_soundQ (p := p) (l := l) (e := e) (R := room_1) (s := s) (m := m) (args := #[Value.ref b]) (below := below) (meth := meth) (c := c) (Q := lw_Z below #[Value.ref b] s) (n0 := 0) (s0 := 0) (cc := code) (co := 15) (nL := 4) (ini := false) (r := (w', some (.int 1))) ⟨hx, hb, hml, hown, hTT, hCX, by decide, by decide, fun h => by cases h⟩ (callD_ok 1000) ⟨by decide, by decide⟩ chkL (by
      intro pc i len a bb v lo st w hdec hok hex
      obtain ⟨rfl, rfl, rfl⟩ := ret_i hex
      have h1 := Nat.eq_of_beq_eq_true (show Nat.beq len 1 = true from hok)
      subst h1
      intro H locs ls hW hLR hq
      refine va_forget (fun q hq' => hq q hq') ?_
      refine W.widen (k := 600000) (n := 7302250) ?_ ?_ ?_
      · show oN w' - 0 ≤ 600000
        omega
      · show oS w' - 0 ≤ 7302250
        omega
      · exact lw_ret hx hb hr hlocks hdec) n 0 _ [] w0 hrun (Nat.le_refl _) (Nat.le_refl _) (by show oN w' - 0 ≤ 600000; omega) (by show oS w' - 0 ≤ 7302250; omega)
  have hl := lv_entry ([.ref b]) (n := 4) (Nat.le_of_ble_eq_true rfl)
  rw [lg_entry_eq]
  exact hG s.heap [] _ hW0 ⟨rfl, hl.1, hl.2.1, fun j v hj => by
    have hj0 : j = 0 ∧ v = .retAddr 0 := by
      match j, hj with
      | 0, hj => simp at hj; exact ⟨rfl, hj.symm⟩
      | 1, hj => simp at hj
      | 2, hj => simp at hj
      | 3, hj => simp at hj
      | j + 4, hj => simp at hj
    obtain ⟨rfl, rfl⟩ := hj0
    exact hl.2.2 (0, .ref b) List.mem_cons_self⟩ (fun z hz => by cases hz)
theorem lawGoal : LawGoal := fun L xs hL => lawGoal0 L xs hL
