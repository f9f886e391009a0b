/-! One instruction of the small machine, and the real one's: Gd q says that the real machine, standing as q says, comes to Q. -/
def dvf (ty : FieldType) : Value := match ty with
  | .long => .long 0
  | .object _ => .null
  | .array _ => .null
  | _ => .int 0
theorem dvf_ok : ∀ ci, ci < 12 → ∀ k, k < nF ci → defaultValue (tyOf ci k) = dvf (tyOf ci k) := by decide +kernel
theorem wV_same {w w' : Om} {k j : Nat} {u : Value} {ty : FieldType} (h : wV w k j u = some w') (ho : okV ty u = true) : vOf w' k ty j = u := by
  have hs : ∀ {α : Type} (f : Nat → Nat → α) (v : α), up2 f k j v k j = v := fun f v => by simp [up2]
  cases u <;> cases ty <;> first | (cases ho; done) | (cases h; exact congrArg Value.int (hs _ _)) | (cases h; exact congrArg Value.long (hs _ _)) | (cases h; exact congrArg rfv (hs _ _)) | (cases h; done)
theorem wV_other {w w' : Om} {k j k' j' : Nat} {u : Value} (h : wV w k j u = some w') (hne : ¬ (k' = k ∧ j' = j)) (ty : FieldType) : vOf w' k' ty j' = vOf w k' ty j' := by
  have hh : ∀ {α : Type} (f : Nat → Nat → α) (v : α), up2 f k j v k' j' = f k' j' := by
    intro α f v
    unfold up2
    by_cases e : k' = k
    · have : j' ≠ j := fun z => hne ⟨e, z⟩
      simp [e, this]
    · simp [e]
  cases u <;> first | (cases h; cases ty <;> first | rfl | exact congrArg Value.int (hh _ _) | exact congrArg Value.long (hh _ _) | exact congrArg rfv (hh _ _)) | (cases h; done)
theorem wV_shape {w w' : Om} {k j : Nat} {u : Value} (h : wV w k j u = some w') : oN w' = oN w ∧ oS w' = oS w ∧ oH w' = oH w := by
  cases u <;> first | (cases h; exact ⟨rfl, rfl, rfl⟩) | (cases h; done)
theorem okV_cv {B b : Nat} {sa : Nat → Option Nat} {ty : FieldType} {u : Value} (h : okV ty u = true) : narrow ty (cvv B b sa u) = cvv B b sa u ∧ fits ty (cvv B b sa u) = true := by
  cases ty <;> cases u <;> first | (cases h; done) | exact ⟨rfl, rfl⟩ | skip
  rename_i x
  have h2 : x = 0 ∨ x = 1 := by simpa [okV] using h
  rcases h2 with rfl | rfl
  · show narrow .boolean (.int 0) = .int 0 ∧ fits .boolean (.int 0) = true
    decide
  · show narrow .boolean (.int 1) = .int 1 ∧ fits .boolean (.int 1) = true
    decide
theorem On_Cn : ∀ a, a < 12 → On a = Cn a := by decide
theorem isRf_cv {B b : Nat} {sa : Nat → Option Nat} {u : Value} (h : isRf u = true) : cvv B b sa u = .null ∨ ∃ a, cvv B b sa u = .ref a := by
  cases u <;> first | (cases h; done) | exact Or.inl rfl | exact Or.inr ⟨_, rfl⟩ | skip
  rename_i n
  cases n with
  | zero => exact Or.inr ⟨_, rfl⟩
  | succ j =>
    show va_rf (sa j) = .null ∨ ∃ a, va_rf (sa j) = .ref a
    cases sa j with
    | none => exact Or.inl rfl
    | some z => exact Or.inr ⟨z, rfl⟩
section STEP
variable {p : Program} {l : Launch} {e : Env} {R : Room} {s : State} {m : MethodId} {args : Array Value} {below : List Frame} {meth : Method} {c : Code} {Q : State → Prop}
variable {cc : ByteArray} {co nL : Nat} {H0 : Heap} {b Ln : Nat} {sa : Nat → Option Nat} {xs : Nat → Int32} {D : va_G} {cT : FieldType → ClassId} {n0 s0 : Nat}
def Gd (p : Program) (l : Launch) (e : Env) (R : Room) (s : State) (m : MethodId) (args : Array Value) (below : List Frame) (meth : Method) (c : Code) (nL : Nat) (H0 : Heap) (b : Nat) (sa : Nat → Option Nat) (D : va_G) (cT : FieldType → ClassId) (n0 s0 : Nat) (Q : State → Prop) (q : Cfg) : Prop :=
  ∀ (H : Heap) (locs : List Loc) (ls : Array Slot), Wd H0 b sa D cT q.2.2.2 H → LR H0.size b sa ls nL q.2.1 → (∀ z ∈ locs, H0.size ≤ z.base) → W p l e R s m args below meth c H locs (oN q.2.2.2 - n0) (oS q.2.2.2 - s0) Q (F0 m q.1 ls (q.2.2.1.map (cvv H0.size b sa)))
/-- what the walk leans on -/
def Ct (p : Program) (R : Room) (s : State) (m : MethodId) (args : Array Value) (meth : Method) (c : Code) (cc : ByteArray) (co nL : Nat) (H0 : Heap) (b Ln : Nat) (xs : Nat → Int32) (sa : Nat → Option Nat) (D : va_G) (cT : FieldType → ClassId) (ini : Bool) : Prop :=
  p.tables.exec = Jvm.exec ∧ c.code = cc ∧ c.maxLocals = nL ∧ s.vm.findClass (On co) = some m.cls ∧ (∀ w ∈ TT, w.before args s = true) ∧ CX H0 b Ln xs sa D cT s ∧ 1 ≤ R.frames ∧ 64 ≤ R.locals ∧ (ini = true → meth.name = "<init>")
theorem locs1 {B k f : Nat} {locs : List Loc} (h : ∀ z ∈ locs, B ≤ z.base) : ∀ z ∈ locs ++ [⟨B + k, f⟩], B ≤ z.base := by
  intro z hz
  rcases List.mem_append.mp hz with h1 | h1
  · exact h z h1
  · rw [List.mem_singleton.mp h1]; exact Nat.le_add_right _ _

theorem st_get {ini : Bool} {a bb k x pc : Nat} {lo : List (Option Value)} {t : List Value} {w : Om} (C : Ct p R s m args meth c cc co nL H0 b Ln xs sa D cT ini) (hd : decode cc pc = .ok (.getfield x, 3)) (hf : (x, a, bb) ∈ FLK co) (hk : isObj w k a = true)
    (g : Gd p l e R s m args below meth c nL H0 b sa D cT n0 s0 Q (pc + 3, lo, vOf w k (tyOf a bb) bb :: t, w)) : Gd p l e R s m args below meth c nL H0 b sa D cT n0 s0 Q (pc, lo, .ref k :: t, w) := by
  intro H locs ls hW hL hq
  obtain ⟨hx, hb, hml, hown, hts, hC, -⟩ := C
  obtain ⟨hfl, hci, hbk⟩ := flk_ok co _ hf
  have hlink := hts _ (mem_TT hfl rfl)
  obtain ⟨-, hk2⟩ := isObj_s hk
  obtain ⟨hl, cell, q1, q2, q3, q4⟩ := hW.obj hci hk2
  have K := kis hci
  obtain ⟨hS, hfc, kC, hkC, hkind⟩ := hC.1.1.1 a _ K.1
  obtain ⟨cf, kf, fi, f, hi, hsl⟩ := hS bb hbk
  refine W.getf hx hb hown hlink hi (u_facts hfc hkC (u_lays hts K.2.1 hbk) hi).1 q1 (by rw [q3]; exact fun h => by cases h) (v := cvv H0.size b sa (vOf w k (tyOf a bb) bb)) ?_ rfl rfl hd (g H locs ls hW hL hq)
  rw [hsl, q4 bb hbk]
theorem st_put {ini : Bool} {a bb k x pc : Nat} {lo : List (Option Value)} {t : List Value} {u : Value} {w w' : Om} (C : Ct p R s m args meth c cc co nL H0 b Ln xs sa D cT ini) (hd : decode cc pc = .ok (.putfield x, 3)) (hf : (x, a, bb) ∈ FLK co) (hfin : (Tn a bb).2.2.2 = false ∨ (ini = true ∧ a = co)) (hk : isObj w k a = true) (ho : okV (tyOf a bb) u = true) (hw : wV w k bb u = some w')
    (g : Gd p l e R s m args below meth c nL H0 b sa D cT n0 s0 Q (pc + 3, lo, t, w')) : Gd p l e R s m args below meth c nL H0 b sa D cT n0 s0 Q (pc, lo, u :: .ref k :: t, w) := by
  intro H locs ls hW hL hq
  obtain ⟨hx, hb, hml, hown, hts, hC, -, -, hin⟩ := C
  obtain ⟨hfl, hci, hbk⟩ := flk_ok co _ hf
  have hlink := hts _ (mem_TT hfl rfl)
  obtain ⟨-, hk2⟩ := isObj_s hk
  obtain ⟨hl, cell, q1, q2, q3, q4⟩ := hW.obj hci hk2
  have K := kis hci
  obtain ⟨hS, hfc, kC, hkC, hkind⟩ := hC.1.1.1 a _ K.1
  obtain ⟨cf, kf, fi, f, hi, hsl⟩ := hS bb hbk
  have hst := (u_facts hfc hkC (u_lays hts K.2.1 hbk) hi).1
  have hap := va_apart (own := On co) hts K.2.1 (tyOf a) K.2.2.1 K.2.2.2.1 hC.1.1 K.1
  obtain ⟨hn, hfit⟩ := okV_cv (B := H0.size) (b := b) (sa := sa) ho
  obtain ⟨w1, w2, w3⟩ := wV_shape hw
  have key : ∀ H' : Heap, H'[H0.size + k]? = some (cell.setSlot f.slot (cvv H0.size b sa u)) → H'.size = H.size → (∀ q, q ≠ H0.size + k → H'[q]? = H[q]?) → Wd H0 b sa D cT w' H' := by
    intro H' e1 e2 e3
    refine hW.upd w1 w3 (fun k' hk' ty j => wV_other hw (fun z => hk' z.1) ty) e2 e3 ?_
    unfold cellAt
    rw [w3, hk2]
    refine ⟨hci, _, e1, q2, q3, ?_⟩
    rw [hsl]
    intro j hj
    rw [t_set q4 hap hbk _ j hj]
    by_cases ej : j = bb
    · subst ej
      simp [updV, wV_same hw ho]
    · simp [updV, ej, wV_other hw (fun z => ej z.2)]
  have hsame : W p l e R s m args below meth c H locs (oN w - n0) (oS w - s0) Q (F0 m pc ls ((u :: .ref k :: t).map (cvv H0.size b sa))) ↔ W p l e R s m args below meth c H locs (oN w' - n0) (oS w' - s0) Q (F0 m pc ls ((u :: .ref k :: t).map (cvv H0.size b sa))) := by rw [w1, w2]
  refine hsame.mpr ?_
  by_cases hff : (Tn a bb).2.2.2 = false
  · have hlay := hts _ (K.2.1 _ (u_in_lay hbk))
    unfold u_lay at hlay
    rw [if_neg (by rw [hff]; decide)] at hlay
    have h6 := u_store hfc hkC hkind hlay hi (K.2.2.1 bb hbk) hn hfit
    exact W.putK hx hb (f := f) ⟨hown, hlink, ⟨_, _, _, hi⟩, hst⟩ (by rw [q2]; exact h6) q1 q3 (by rw [hsl]; exact k2_hasslot (q4 bb hbk)) rfl rfl hd fun H' e1 e2 e3 => g H' _ ls (key H' e1 e2 e3) hL (locs1 hq)
  · have hft : (Tn a bb).2.2.2 = true := by simpa using hff
    obtain ⟨hini, hac⟩ := hfin.resolve_left hff
    have hlay := hts _ (K.2.1 _ (u_in_lay hbk))
    unfold u_lay at hlay
    rw [if_pos hft] at hlay
    have hcf : m.cls = cf := by
      obtain ⟨_, _, c', _, _, _, -, -, hf', -, -, -, hown2, -⟩ := Cond.laysFinal_spec hlay
      have e1 : c' = cf := by have := hi.symm.trans hf'; simp at this; exact this.1.symm
      rw [K.2.2.2.2.2.2 bb hbk] at hown2
      have hco : On co = Cn a := by rw [← hac]; exact On_Cn a hci
      rw [hco] at hown
      rw [← e1]; exact Option.some.inj (hown.symm.trans hown2)
    have h6 := u_fits hfc hkC hkind (Or.inr hlay) hi (K.2.2.1 bb hbk) hn hfit
    exact W.putFinK hx hb hown hlink hi hst hcf (hin hini) (by rw [q2]; exact h6) q1 q3 (by rw [hsl]; exact k2_hasslot (q4 bb hbk)) rfl rfl hd fun H' e1 e2 e3 => g H' _ ls (key H' e1 e2 e3) hL (locs1 hq)
theorem st_iald {ini : Bool} {k n pc : Nat} {i : Int32} {lo : List (Option Value)} {t : List Value} {w : Om} (C : Ct p R s m args meth c cc co nL H0 b Ln xs sa D cT ini) (hd : decode cc pc = .ok (.iaload, 1)) (hk : oH w k = .inl (.int, n)) (hi : ¬ (i < 0 ∨ n ≤ i.toNatClampNeg))
    (g : Gd p l e R s m args below meth c nL H0 b sa D cT n0 s0 Q (pc + 1, lo, .int (oI w k i.toNatClampNeg) :: t, w)) : Gd p l e R s m args below meth c nL H0 b sa D cT n0 s0 Q (pc, lo, .int i :: .ref k :: t, w) := by
  intro H locs ls hW hL hq
  obtain ⟨hx, hb, hml, hown, hts, hC, -⟩ := C
  obtain ⟨-, hty, hc⟩ := hW.arr hk
  have hlt : i.toNatClampNeg < n := Nat.not_le.mp fun q => hi (Or.inr q)
  exact W.iald (v := cvv H0.size b sa (.int (oI w k i.toNatClampNeg))) hx hb hc ((hC.1.2.1 _ hty).1 _ _) (fun q => by cases q) (by rw [arrV_size]; exact hi) (by rw [arrV_read _ _ hlt]; rfl) rfl rfl hd (g H locs ls hW hL hq)
theorem st_bald {ini : Bool} {k n pc : Nat} {i : Int32} {lo : List (Option Value)} {t : List Value} {w : Om} (C : Ct p R s m args meth c cc co nL H0 b Ln xs sa D cT ini) (hd : decode cc pc = .ok (.baload, 1)) (hk : oH w k = .inl (.byte, n)) (hi : ¬ (i < 0 ∨ n ≤ i.toNatClampNeg))
    (g : Gd p l e R s m args below meth c nL H0 b sa D cT n0 s0 Q (pc + 1, lo, .int (oI w k i.toNatClampNeg) :: t, w)) : Gd p l e R s m args below meth c nL H0 b sa D cT n0 s0 Q (pc, lo, .int i :: .ref k :: t, w) := by
  intro H locs ls hW hL hq
  obtain ⟨hx, hb, hml, hown, hts, hC, -⟩ := C
  obtain ⟨-, hty, hc⟩ := hW.arr hk
  have hlt : i.toNatClampNeg < n := Nat.not_le.mp fun q => hi (Or.inr q)
  exact W.bald (v := cvv H0.size b sa (.int (oI w k i.toNatClampNeg))) hx hb hc ((hC.1.2.1 _ hty).1 _ _) (fun q => by cases q) (by rw [arrV_size]; exact hi) (by rw [arrV_read _ _ hlt]; rfl) rfl rfl hd (g H locs ls hW hL hq)
theorem st_zald {ini : Bool} {k n pc : Nat} {i : Int32} {lo : List (Option Value)} {t : List Value} {w : Om} (C : Ct p R s m args meth c cc co nL H0 b Ln xs sa D cT ini) (hd : decode cc pc = .ok (.baload, 1)) (hk : oH w k = .inl (.boolean, n)) (hi : ¬ (i < 0 ∨ n ≤ i.toNatClampNeg))
    (g : Gd p l e R s m args below meth c nL H0 b sa D cT n0 s0 Q (pc + 1, lo, .int (oI w k i.toNatClampNeg) :: t, w)) : Gd p l e R s m args below meth c nL H0 b sa D cT n0 s0 Q (pc, lo, .int i :: .ref k :: t, w) := by
  intro H locs ls hW hL hq
  obtain ⟨hx, hb, hml, hown, hts, hC, -⟩ := C
  obtain ⟨-, hty, hc⟩ := hW.arr hk
  have hlt : i.toNatClampNeg < n := Nat.not_le.mp fun q => hi (Or.inr q)
  exact W.zald (v := cvv H0.size b sa (.int (oI w k i.toNatClampNeg))) hx hb hc ((hC.1.2.1 _ hty).1 _ _) (fun q => by cases q) (by rw [arrV_size]; exact hi) (by rw [arrV_read _ _ hlt]; rfl) rfl rfl hd (g H locs ls hW hL hq)
theorem st_lald {ini : Bool} {k n pc : Nat} {i : Int32} {lo : List (Option Value)} {t : List Value} {w : Om} (C : Ct p R s m args meth c cc co nL H0 b Ln xs sa D cT ini) (hd : decode cc pc = .ok (.laload, 1)) (hk : oH w k = .inl (.long, n)) (hi : ¬ (i < 0 ∨ n ≤ i.toNatClampNeg))
    (g : Gd p l e R s m args below meth c nL H0 b sa D cT n0 s0 Q (pc + 1, lo, .long (oL w k i.toNatClampNeg) :: t, w)) : Gd p l e R s m args below meth c nL H0 b sa D cT n0 s0 Q (pc, lo, .int i :: .ref k :: t, w) := by
  intro H locs ls hW hL hq
  obtain ⟨hx, hb, hml, hown, hts, hC, -⟩ := C
  obtain ⟨-, hty, hc⟩ := hW.arr hk
  have hlt : i.toNatClampNeg < n := Nat.not_le.mp fun q => hi (Or.inr q)
  exact W.lald (v := cvv H0.size b sa (.long (oL w k i.toNatClampNeg))) hx hb hc ((hC.1.2.1 _ hty).1 _ _) (fun q => by cases q) (by rw [arrV_size]; exact hi) (by rw [arrV_read _ _ hlt]; rfl) rfl rfl hd (g H locs ls hW hL hq)
theorem st_aald {ini : Bool} {k n pc : Nat} {i : Int32} {C0 : String} {lo : List (Option Value)} {t : List Value} {w : Om} (C : Ct p R s m args meth c cc co nL H0 b Ln xs sa D cT ini) (hd : decode cc pc = .ok (.aaload, 1)) (hk : oH w k = .inl (.object C0, n)) (hi : ¬ (i < 0 ∨ n ≤ i.toNatClampNeg))
    (g : Gd p l e R s m args below meth c nL H0 b sa D cT n0 s0 Q (pc + 1, lo, rfv (oP w k i.toNatClampNeg) :: t, w)) : Gd p l e R s m args below meth c nL H0 b sa D cT n0 s0 Q (pc, lo, .int i :: .ref k :: t, w) := by
  intro H locs ls hW hL hq
  obtain ⟨hx, hb, hml, hown, hts, hC, -⟩ := C
  obtain ⟨-, hty, hc⟩ := hW.arr hk
  have hlt : i.toNatClampNeg < n := Nat.not_le.mp fun q => hi (Or.inr q)
  exact W.aald (v := cvv H0.size b sa (rfv (oP w k i.toNatClampNeg))) hx hb hc ((hC.1.2.1 _ hty).1 _ _) rfl (fun q => by cases q) (by rw [arrV_size]; exact hi) (by rw [arrV_read _ _ hlt]; rfl) rfl rfl hd (g H locs ls hW hL hq)
theorem st_iast {ini : Bool} {k n pc : Nat} {i : Int32} {x : Int32} {lo : List (Option Value)} {t : List Value} {w : Om} (C : Ct p R s m args meth c cc co nL H0 b Ln xs sa D cT ini) (hd : decode cc pc = .ok (.iastore, 1)) (hk : oH w k = .inl (.int, n)) (hi : ¬ (i < 0 ∨ n ≤ i.toNatClampNeg))
    (g : Gd p l e R s m args below meth c nL H0 b sa D cT n0 s0 Q (pc + 1, lo, t, (oN w, oS w, oH w, up2 (oI w) k i.toNatClampNeg x, oL w, oP w))) : Gd p l e R s m args below meth c nL H0 b sa D cT n0 s0 Q (pc, lo, .int x :: .int i :: .ref k :: t, w) := by
  intro H locs ls hW hL hq
  obtain ⟨hx, hb, hml, hown, hts, hC, -⟩ := C
  obtain ⟨-, hty, hc⟩ := hW.arr hk
  refine W.iast hx hb hc ((hC.1.2.1 _ hty).1 _ _) (fun q => by cases q) (by rw [arrV_size]; exact hi) rfl rfl hd fun H1 e1 z oq => g H1 _ ls ?_ hL (locs1 hq)
  have hw : wV w k i.toNatClampNeg (.int x) = some (oN w, oS w, oH w, up2 (oI w) k i.toNatClampNeg x, oL w, oP w) := rfl
  have hs : ∀ {α : Type} (f : Nat → Nat → α) (v : α), up2 f k i.toNatClampNeg v k i.toNatClampNeg = v := fun f v => by simp [up2]
  refine hW.upd (k := k) rfl rfl (fun k' hk' ty j => wV_other hw (fun z => hk' z.1) ty) z oq ?_
  unfold cellAt
  rw [show oH (oN w, oS w, oH w, up2 (oI w) k i.toNatClampNeg x, oL w, oP w) k = .inl (.int, n) from hk]
  refine ⟨hty, ?_⟩
  rw [e1, arrV_store]
  congr 2
  funext j
  by_cases hj : j = i.toNatClampNeg
  · rw [hj]
    simp only [updV, if_true]
    exact (congrArg Value.int (hs _ _)).symm
  · simp only [updV, if_neg hj]
    rw [wV_other hw (fun z => hj z.2) .int]
theorem st_bast {ini : Bool} {k n pc : Nat} {i : Int32} {x : Int32} {lo : List (Option Value)} {t : List Value} {w : Om} (C : Ct p R s m args meth c cc co nL H0 b Ln xs sa D cT ini) (hd : decode cc pc = .ok (.bastore, 1)) (hk : oH w k = .inl (.byte, n)) (hi : ¬ (i < 0 ∨ n ≤ i.toNatClampNeg))
    (g : Gd p l e R s m args below meth c nL H0 b sa D cT n0 s0 Q (pc + 1, lo, t, (oN w, oS w, oH w, up2 (oI w) k i.toNatClampNeg (vp_nar .byte x), oL w, oP w))) : Gd p l e R s m args below meth c nL H0 b sa D cT n0 s0 Q (pc, lo, .int x :: .int i :: .ref k :: t, w) := by
  intro H locs ls hW hL hq
  obtain ⟨hx, hb, hml, hown, hts, hC, -⟩ := C
  obtain ⟨-, hty, hc⟩ := hW.arr hk
  refine W.bast hx hb hc ((hC.1.2.1 _ hty).1 _ _) (fun q => by cases q) (by rw [arrV_size]; exact hi) rfl rfl hd fun H1 e1 z oq => g H1 _ ls ?_ hL (locs1 hq)
  have hw : wV w k i.toNatClampNeg (.int (vp_nar .byte x)) = some (oN w, oS w, oH w, up2 (oI w) k i.toNatClampNeg (vp_nar .byte x), oL w, oP w) := rfl
  have hs : ∀ {α : Type} (f : Nat → Nat → α) (v : α), up2 f k i.toNatClampNeg v k i.toNatClampNeg = v := fun f v => by simp [up2]
  refine hW.upd (k := k) rfl rfl (fun k' hk' ty j => wV_other hw (fun z => hk' z.1) ty) z oq ?_
  unfold cellAt
  rw [show oH (oN w, oS w, oH w, up2 (oI w) k i.toNatClampNeg (vp_nar .byte x), oL w, oP w) k = .inl (.byte, n) from hk]
  refine ⟨hty, ?_⟩
  rw [e1, arrV_store]
  congr 2
  funext j
  by_cases hj : j = i.toNatClampNeg
  · rw [hj]
    simp only [updV, if_true]
    exact (congrArg Value.int (hs _ _)).symm
  · simp only [updV, if_neg hj]
    rw [wV_other hw (fun z => hj z.2) .byte]
theorem st_zast {ini : Bool} {k n pc : Nat} {i : Int32} {x : Int32} {lo : List (Option Value)} {t : List Value} {w : Om} (C : Ct p R s m args meth c cc co nL H0 b Ln xs sa D cT ini) (hd : decode cc pc = .ok (.bastore, 1)) (hk : oH w k = .inl (.boolean, n)) (hi : ¬ (i < 0 ∨ n ≤ i.toNatClampNeg))
    (g : Gd p l e R s m args below meth c nL H0 b sa D cT n0 s0 Q (pc + 1, lo, t, (oN w, oS w, oH w, up2 (oI w) k i.toNatClampNeg (vp_nar .boolean x), oL w, oP w))) : Gd p l e R s m args below meth c nL H0 b sa D cT n0 s0 Q (pc, lo, .int x :: .int i :: .ref k :: t, w) := by
  intro H locs ls hW hL hq
  obtain ⟨hx, hb, hml, hown, hts, hC, -⟩ := C
  obtain ⟨-, hty, hc⟩ := hW.arr hk
  refine W.zast hx hb hc ((hC.1.2.1 _ hty).1 _ _) (fun q => by cases q) (by rw [arrV_size]; exact hi) rfl rfl hd fun H1 e1 z oq => g H1 _ ls ?_ hL (locs1 hq)
  have hw : wV w k i.toNatClampNeg (.int (vp_nar .boolean x)) = some (oN w, oS w, oH w, up2 (oI w) k i.toNatClampNeg (vp_nar .boolean x), oL w, oP w) := rfl
  have hs : ∀ {α : Type} (f : Nat → Nat → α) (v : α), up2 f k i.toNatClampNeg v k i.toNatClampNeg = v := fun f v => by simp [up2]
  refine hW.upd (k := k) rfl rfl (fun k' hk' ty j => wV_other hw (fun z => hk' z.1) ty) z oq ?_
  unfold cellAt
  rw [show oH (oN w, oS w, oH w, up2 (oI w) k i.toNatClampNeg (vp_nar .boolean x), oL w, oP w) k = .inl (.boolean, n) from hk]
  refine ⟨hty, ?_⟩
  rw [e1, arrV_store]
  congr 2
  funext j
  by_cases hj : j = i.toNatClampNeg
  · rw [hj]
    simp only [updV, if_true]
    exact (congrArg Value.int (hs _ _)).symm
  · simp only [updV, if_neg hj]
    rw [wV_other hw (fun z => hj z.2) .boolean]
theorem st_last {ini : Bool} {k n pc : Nat} {i : Int32} {x : Int64} {lo : List (Option Value)} {t : List Value} {w : Om} (C : Ct p R s m args meth c cc co nL H0 b Ln xs sa D cT ini) (hd : decode cc pc = .ok (.lastore, 1)) (hk : oH w k = .inl (.long, n)) (hi : ¬ (i < 0 ∨ n ≤ i.toNatClampNeg))
    (g : Gd p l e R s m args below meth c nL H0 b sa D cT n0 s0 Q (pc + 1, lo, t, (oN w, oS w, oH w, oI w, up2 (oL w) k i.toNatClampNeg x, oP w))) : Gd p l e R s m args below meth c nL H0 b sa D cT n0 s0 Q (pc, lo, .long x :: .int i :: .ref k :: t, w) := by
  intro H locs ls hW hL hq
  obtain ⟨hx, hb, hml, hown, hts, hC, -⟩ := C
  obtain ⟨-, hty, hc⟩ := hW.arr hk
  refine W.last hx hb hc ((hC.1.2.1 _ hty).1 _ _) (fun q => by cases q) (by rw [arrV_size]; exact hi) rfl rfl hd fun H1 e1 z oq => g H1 _ ls ?_ hL (locs1 hq)
  have hw : wV w k i.toNatClampNeg (.long x) = some (oN w, oS w, oH w, oI w, up2 (oL w) k i.toNatClampNeg x, oP w) := rfl
  have hs : ∀ {α : Type} (f : Nat → Nat → α) (v : α), up2 f k i.toNatClampNeg v k i.toNatClampNeg = v := fun f v => by simp [up2]
  refine hW.upd (k := k) rfl rfl (fun k' hk' ty j => wV_other hw (fun z => hk' z.1) ty) z oq ?_
  unfold cellAt
  rw [show oH (oN w, oS w, oH w, oI w, up2 (oL w) k i.toNatClampNeg x, oP w) k = .inl (.long, n) from hk]
  refine ⟨hty, ?_⟩
  rw [e1, arrV_store]
  congr 2
  funext j
  by_cases hj : j = i.toNatClampNeg
  · rw [hj]
    simp only [updV, if_true]
    exact (congrArg Value.long (hs _ _)).symm
  · simp only [updV, if_neg hj]
    rw [wV_other hw (fun z => hj z.2) .long]
end STEP
