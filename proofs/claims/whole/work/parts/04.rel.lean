/-! How the small machine's heap and frames lie in the real ones. -/
def TT : List Cond := lw_tbl.filter goodWord
theorem mem_TT {w : Cond} (h : w ∈ lw_tbl) (hg : goodWord w = true) : w ∈ TT := List.mem_filter.mpr ⟨h, hg⟩
theorem good_TT : GoodIn TT TT := fun w h => ⟨h, good_of_word (List.mem_filter.mp h).2⟩
def cvv (B b : Nat) (sa : Nat → Option Nat) (v : Value) : Value := match v with
  | .ref k => .ref (B + k)
  | .retAddr 0 => .ref b
  | .retAddr (j + 1) => va_rf (sa j)
  | v => v
theorem cvv_cat (B b : Nat) (sa : Nat → Option Nat) (v : Value) : (cvv B b sa v).category = v.category := by
  cases v <;> try rfl
  rename_i n
  cases n with
  | zero => rfl
  | succ j => show (va_rf (sa j)).category = 1; cases sa j <;> rfl
theorem cvv_catS (B b : Nat) (sa : Nat → Option Nat) (st : List Value) : ((st.map (cvv B b sa)).map fun v => v.category).sum = catS st := by
  unfold catS
  rw [List.map_map]
  congr 1
  exact List.map_congr_left (fun v _ => cvv_cat B b sa v)
def cellAt (B b : Nat) (sa : Nat → Option Nat) (D : va_G) (cT : FieldType → ClassId) (w : Om) (k : Nat) (H : Heap) : Prop := match oH w k with
  | .inl (ty, n) => ty ∈ tyL ∧ H[B + k]? = some (arrV (cT ty) n (fun j => cvv B b sa (vOf w k ty j)))
  | .inr ci => ci < 12 ∧ t_OB (B + k) (D.1 ci) (nF ci) (D.2 ci) H (fun j => cvv B b sa (vOf w k (tyOf ci j) j))
def Wd (H0 : Heap) (b : Nat) (sa : Nat → Option Nat) (D : va_G) (cT : FieldType → ClassId) (w : Om) (H : Heap) : Prop :=
  H.size = H0.size + oN w ∧ (∀ q, q < H0.size → H[q]? = H0[q]?) ∧ (∀ k, k < oN w → cellAt H0.size b sa D cT w k H) ∧ ∀ k, oN w ≤ k → oH w k = .inr 99
def KK (D : va_G) (cT : FieldType → ClassId) (s : State) : Prop := va_K D vwCl [] s ∧ (∀ ty ∈ tyL, ArrOfT s (cT ty) ty ∧ va_RA s (cT ty) ty) ∧ va_AO RX1 s ∧ va_AO RX4 s ∧ va_Nw (.castable "[I" "java/lang/Cloneable") s
def NAMS : String := "leads barred if or and not word place kind colour north east west "
/-- the one text of the maze's reader, and what the JDK's methods ask on the way -/
def SX (H0 : Heap) (sa : Nat → Option Nat) (s : State) : Prop := ∃ q v, sa 0 = some q ∧ sa 1 = some v ∧ vk_R "HornMaze$Tokens" 52 NAMS q s ∧ va_O "java/lang/String" q (fun _ => False) s H0 ∧ va_OF "java/lang/String" "coder" "B" (.int 0) q (fun _ => False) s H0 ∧ va_OF "java/lang/String" "value" "[B" (.ref v) q (fun _ => False) s H0 ∧ va_T .byte v 66 (fun j => .int (nmB j)) (fun _ => False) s H0 ∧ va_Z "java/lang/String" "COMPACT_STRINGS" "Z" (.int 1) (fun _ => False) s H0 ∧ va_Z "jdk/internal/util/Preconditions" "SIOOBE_FORMATTER" "Ljava/util/function/BiFunction;" (va_rf (sa 2)) (fun _ => False) s H0
def CX (H0 : Heap) (b Ln : Nat) (xs : Nat → Int32) (sa : Nat → Option Nat) (D : va_G) (cT : FieldType → ClassId) (s : State) : Prop := KK D cT s ∧ va_X b Ln xs s H0 ∧ b < H0.size ∧ SX H0 sa s
theorem nw_moved {C T : String} {u U : State} (hvm : u.vm.Alike U.vm) (h : va_Nw (.castable C T) u) : va_Nw (.castable C T) U := va_tabs rfl (rfl : (u.setVm U.vm).vm = U.vm) (by rw [Cond.castable_setVm hvm]; exact h)
theorem KK.moved {D : va_G} {cT : FieldType → ClassId} {u U : State} (hvm : u.vm.Alike U.vm) (h : KK D cT u) : KK D cT U := ⟨va_K.moved hvm h.1, fun ty ht => ⟨arrOfT_moved hvm (h.2.1 ty ht).1, (h.2.1 ty ht).2.moved hvm⟩, h.2.2.1.moved hvm, h.2.2.2.1.moved hvm, nw_moved hvm h.2.2.2.2⟩
theorem SX.warm {H0 : Heap} {sa : Nat → Option Nat} {u U : State} (hW : u.WarmedH U.vm) (h : SX H0 sa u) : SX H0 sa U := by
  obtain ⟨q, v, h1, h2, h3, h4, h5, h6, h7, h8, h9⟩ := h
  exact ⟨q, v, h1, h2, h3.warm hW, h4.moved hW.alike, h5.moved hW.alike, h6.moved hW.alike, h7.moved hW.alike, h8.moved hW.alike, h9.moved hW.alike⟩
theorem SX.same {H0 : Heap} {sa : Nat → Option Nat} {u U : State} (hv : U.vm = u.vm) (h : SX H0 sa u) : SX H0 sa U := by
  have ha : u.vm.Alike U.vm := by rw [hv]; exact Vm.Alike.refl _
  obtain ⟨q, v, h1, h2, h3, h4, h5, h6, h7, h8, h9⟩ := h
  exact ⟨q, v, h1, h2, h3.same hv, h4.moved ha, h5.moved ha, h6.moved ha, h7.moved ha, h8.moved ha, h9.moved ha⟩
theorem CX.warm {H0 : Heap} {b Ln : Nat} {xs : Nat → Int32} {sa : Nat → Option Nat} {D : va_G} {cT : FieldType → ClassId} {u U : State} (hW : u.WarmedH U.vm) (h : CX H0 b Ln xs sa D cT u) : CX H0 b Ln xs sa D cT U := ⟨h.1.moved hW.alike, h.2.1.moved hW.alike, h.2.2.1, h.2.2.2.warm hW⟩
theorem CX.same {H0 : Heap} {b Ln : Nat} {xs : Nat → Int32} {sa : Nat → Option Nat} {D : va_G} {cT : FieldType → ClassId} {u U : State} (hv : U.vm = u.vm) (h : CX H0 b Ln xs sa D cT u) : CX H0 b Ln xs sa D cT U := by
  have ha : u.vm.Alike U.vm := by rw [hv]; exact Vm.Alike.refl _
  exact ⟨h.1.moved ha, h.2.1.moved ha, h.2.2.1, h.2.2.2.same hv⟩
theorem KK.k1 {D : va_G} {cT : FieldType → ClassId} {s : State} (h : KK D cT s) {ty : FieldType} (ht : ty ∈ tyL) : va_K D vwCl [(cT ty, ty)] s := ⟨h.1.1, fun k q hk => by
  have hz : k < 1 := (List.getElem?_eq_some_iff.mp hk).1
  rw [show k = 0 by omega] at hk
  cases hk
  exact h.2.1 ty ht⟩
/-- locals -/
def LR (B b : Nat) (sa : Nat → Option Nat) (ls : Array Slot) (nL : Nat) (l : List (Option Value)) : Prop := l.length = nL ∧ ls.size = nL ∧ lv_wf ls ∧ ∀ (j : Nat) (v : Value), l[j]? = some (some v) → ls[j]? = some (.val (cvv B b sa v))
def al : Nat → List (Option Value) → List (Nat × Value)
  | _, [] => []
  | i, none :: t => al (i + 1) t
  | i, some v :: t => (i, v) :: al (i + 1) t
theorem mem_al : ∀ (l : List (Option Value)) (i j : Nat) (v : Value), (j, v) ∈ al i l ↔ i ≤ j ∧ l[j - i]? = some (some v)
  | [], i, j, v => by simp [al]
  | none :: t, i, j, v => by
    rw [al, mem_al t (i + 1) j v]
    constructor
    · rintro ⟨h1, h2⟩
      refine ⟨by omega, ?_⟩
      rw [show j - i = (j - (i + 1)) + 1 by omega, List.getElem?_cons_succ]
      exact h2
    · rintro ⟨h1, h2⟩
      rcases Nat.eq_or_lt_of_le h1 with rfl | h3
      · simp at h2
      · refine ⟨h3, ?_⟩
        rw [show j - i = (j - (i + 1)) + 1 by omega, List.getElem?_cons_succ] at h2
        exact h2
  | some u :: t, i, j, v => by
    rw [al, List.mem_cons, mem_al t (i + 1) j v]
    constructor
    · rintro (h | ⟨h1, h2⟩)
      · cases h
        simp
      · refine ⟨by omega, ?_⟩
        rw [show j - i = (j - (i + 1)) + 1 by omega, List.getElem?_cons_succ]
        exact h2
    · rintro ⟨h1, h2⟩
      rcases Nat.eq_or_lt_of_le h1 with rfl | h3
      · simp at h2
        exact Or.inl (by rw [h2])
      · refine Or.inr ⟨h3, ?_⟩
        rw [show j - i = (j - (i + 1)) + 1 by omega, List.getElem?_cons_succ] at h2
        exact h2
theorem LR.has {B b : Nat} {sa : Nat → Option Nat} {ls : Array Slot} {nL : Nat} {l : List (Option Value)} (h : LR B b sa ls nL l) : lv_has ls nL ((al 0 l).map (fun q => (q.1, cvv B b sa q.2))) := by
  refine ⟨h.2.1, h.2.2.1, fun q hq => ?_⟩
  obtain ⟨⟨j, v⟩, h1, rfl⟩ := List.mem_map.mp hq
  exact h.2.2.2 j v ((mem_al l 0 j v).mp h1).2
theorem lget_some {l : List (Option Value)} {i : Nat} {v : Value} (h : lget l i = some v) : l[i]? = some (some v) := by
  unfold lget at h
  split at h
  · cases h
    assumption
  · cases h
theorem LR.get {B b : Nat} {sa : Nat → Option Nat} {ls : Array Slot} {nL : Nat} {l : List (Option Value)} (h : LR B b sa ls nL l) {i : Nat} {v : Value} (hg : lget l i = some v) : ls[i]? = some (.val (cvv B b sa v)) := h.2.2.2 i v (lget_some hg)
theorem lclr_len (l : List (Option Value)) (i : Nat) : (lclr l i).length = l.length := by
  unfold lclr
  split
  · rfl
  · split
    · split <;> simp
    · rfl
theorem lclr_get {l : List (Option Value)} {i j : Nat} {u : Value} (h : (lclr l i)[j]? = some (some u)) : l[j]? = some (some u) ∧ ¬ (j + 1 = i ∧ u.category = 2) := by
  unfold lclr at h
  split at h
  · exact ⟨h, fun z => by omega⟩
  · rename_i k
    split at h
    · rename_i v hv
      split at h
      · rename_i hc
        by_cases hj : j = k
        · subst hj
          rw [List.getElem?_set_self (by
            have := (List.getElem?_eq_some_iff.mp (lget_some hv)).1
            exact this)] at h
          simp at h
        · rw [List.getElem?_set_ne (Ne.symm hj)] at h
          exact ⟨h, fun z => hj (by omega)⟩
      · rename_i hc
        refine ⟨h, fun z => ?_⟩
        have hjk : j = k := by omega
        subst hjk
        rw [lget_some hv] at h
        cases h
        exact hc z.2
    · rename_i hv
      refine ⟨h, fun z => ?_⟩
      have hjk : j = k := by omega
      subst hjk
      simp [lget, h] at hv
theorem LR.set1 {B b : Nat} {sa : Nat → Option Nat} {ls ls' : Array Slot} {nL i : Nat} {l : List (Option Value)} {v : Value} (h : LR B b sa ls nL l) (hi : i < nL)
    (h' : lv_has ls' nL ((i, cvv B b sa v) :: ((al 0 l).map (fun q => (q.1, cvv B b sa q.2))).filter (fun q => !(q.1 == i) && !(q.1 + 1 == i && q.2.category == 2)))) : LR B b sa ls' nL (lset l i v) := by
  refine ⟨by unfold lset; rw [List.length_set, lclr_len]; exact h.1, h'.1, h'.2.1, fun j u hj => ?_⟩
  unfold lset at hj
  by_cases e : j = i
  · subst e
    rw [List.getElem?_set_self (by rw [lclr_len, h.1]; exact hi)] at hj
    cases hj
    exact h'.2.2 _ List.mem_cons_self
  · rw [List.getElem?_set_ne (Ne.symm e)] at hj
    obtain ⟨h1, h2⟩ := lclr_get hj
    refine h'.2.2 (j, cvv B b sa u) (List.mem_cons_of_mem _ (List.mem_filter.mpr ⟨List.mem_map.mpr ⟨(j, u), (mem_al l 0 j u).mpr ⟨Nat.zero_le _, h1⟩, rfl⟩, ?_⟩))
    simp only [cvv_cat]
    simp [e]
    exact (Classical.em (j + 1 = i)).elim (fun z => Or.inr (fun z2 => h2 ⟨z, z2⟩)) Or.inl
theorem LR.set2 {B b : Nat} {sa : Nat → Option Nat} {ls ls' : Array Slot} {nL i : Nat} {l : List (Option Value)} {v : Value} (h : LR B b sa ls nL l) (hi : i + 1 < nL)
    (h' : lv_has ls' nL ((i, cvv B b sa v) :: ((al 0 l).map (fun q => (q.1, cvv B b sa q.2))).filter (fun q => !(q.1 == i) && (!(q.1 == i + 1) && !(q.1 + 1 == i && q.2.category == 2))))) : LR B b sa ls' nL (lset2 l i v) := by
  refine ⟨by unfold lset2; rw [List.length_set, List.length_set, lclr_len]; exact h.1, h'.1, h'.2.1, fun j u hj => ?_⟩
  unfold lset2 at hj
  by_cases e2 : j = i + 1
  · subst e2
    rw [List.getElem?_set_self (by rw [List.length_set, lclr_len, h.1]; exact hi)] at hj
    cases hj
  · rw [List.getElem?_set_ne (Ne.symm e2)] at hj
    by_cases e : j = i
    · subst e
      rw [List.getElem?_set_self (by rw [lclr_len, h.1]; omega)] at hj
      cases hj
      exact h'.2.2 _ List.mem_cons_self
    · rw [List.getElem?_set_ne (Ne.symm e)] at hj
      obtain ⟨h1, h2⟩ := lclr_get hj
      refine h'.2.2 (j, cvv B b sa u) (List.mem_cons_of_mem _ (List.mem_filter.mpr ⟨List.mem_map.mpr ⟨(j, u), (mem_al l 0 j u).mpr ⟨Nat.zero_le _, h1⟩, rfl⟩, ?_⟩))
      simp only [cvv_cat]
      simp [e, e2]
      exact (Classical.em (j + 1 = i)).elim (fun z => Or.inr (fun z2 => h2 ⟨z, z2⟩)) Or.inl
theorem pI1_s {α : Type} {st : List Value} {k : Int32 → List Value → Option α} {r : α} (h : pI1 st k = some r) : ∃ x t, st = .int x :: t ∧ k x t = some r := by
  unfold pI1 at h
  split at h
  · exact ⟨_, _, rfl, h⟩
  · cases h
theorem pI2_s {α : Type} {st : List Value} {k : Int32 → Int32 → List Value → Option α} {r : α} (h : pI2 st k = some r) : ∃ x y t, st = .int y :: .int x :: t ∧ k x y t = some r := by
  unfold pI2 at h
  split at h
  · exact ⟨_, _, _, rfl, h⟩
  · cases h
theorem pL1_s {α : Type} {st : List Value} {k : Int64 → List Value → Option α} {r : α} (h : pL1 st k = some r) : ∃ x t, st = .long x :: t ∧ k x t = some r := by
  unfold pL1 at h
  split at h
  · exact ⟨_, _, rfl, h⟩
  · cases h
theorem pL2_s {α : Type} {st : List Value} {k : Int64 → Int64 → List Value → Option α} {r : α} (h : pL2 st k = some r) : ∃ x y t, st = .long y :: .long x :: t ∧ k x y t = some r := by
  unfold pL2 at h
  split at h
  · exact ⟨_, _, _, rfl, h⟩
  · cases h
theorem pR1_s {α : Type} {st : List Value} {k : Nat → List Value → Option α} {r : α} (h : pR1 st k = some r) : ∃ x t, st = .ref x :: t ∧ k x t = some r := by
  unfold pR1 at h
  split at h
  · exact ⟨_, _, rfl, h⟩
  · cases h
theorem pV1_s {α : Type} {st : List Value} {k : Value → List Value → Option α} {r : α} (h : pV1 st k = some r) : ∃ x t, st = x :: t ∧ k x t = some r := by
  unfold pV1 at h
  split at h
  · exact ⟨_, _, rfl, h⟩
  · cases h
theorem pA_s {α : Type} {w : Om} {k : Nat} {f : FieldType → Nat → Option α} {r : α} (h : pA w k f = some r) : ∃ ty n, oH w k = .inl (ty, n) ∧ f ty n = some r := by
  unfold pA at h
  split at h
  · rename_i ty n h1
    exact ⟨ty, n, h1, h⟩
  · cases h
theorem isObj_s {w : Om} {k ci : Nat} (h : isObj w k ci = true) : ci < 12 ∧ oH w k = .inr ci := by
  unfold isObj at h
  rw [Bool.and_eq_true] at h
  refine ⟨by
    have := h.1
    simpa [Nat.blt_eq] using this, ?_⟩
  have h2 := h.2
  split at h2
  · rename_i c hc
    rw [hc, Nat.eq_of_beq_eq_true h2]
  · cases h2
theorem ite_s {α : Type} {c : Prop} [hdc : Decidable c] {x : Option α} {r : α} (h : (if c then x else none) = some r) : c ∧ x = some r := by
  split at h
  · exact ⟨by assumption, h⟩
  · cases h
theorem go1_s {pc : Nat} {l : List (Option Value)} {st : List Value} {w : Om} {q : Cfg} (h : go1 pc l st w = some (.inl q)) : q = (pc, l, st, w) := by
  unfold go1 at h
  exact (Sum.inl.inj (Option.some.inj h)).symm

section WDS
variable {H0 H H1 : Heap} {b : Nat} {sa : Nat → Option Nat} {D : va_G} {cT : FieldType → ClassId} {w w' : Om} {k : Nat}
theorem Wd.lt (h : Wd H0 b sa D cT w H) (hk : oH w k ≠ .inr 99) : k < oN w := Nat.lt_of_not_le (fun z => hk (h.2.2.2 k z))
theorem Wd.arr {ty : FieldType} {n : Nat} (h : Wd H0 b sa D cT w H) (hk : oH w k = .inl (ty, n)) : k < oN w ∧ ty ∈ tyL ∧ H[H0.size + k]? = some (arrV (cT ty) n (fun j => cvv H0.size b sa (vOf w k ty j))) := by
  have hl : k < oN w := h.lt (by rw [hk]; exact fun z => by cases z)
  have hc := h.2.2.1 k hl
  unfold cellAt at hc
  rw [hk] at hc
  exact ⟨hl, hc⟩
theorem Wd.obj {ci : Nat} (h : Wd H0 b sa D cT w H) (hci : ci < 12) (hk : oH w k = .inr ci) : k < oN w ∧ t_OB (H0.size + k) (D.1 ci) (nF ci) (D.2 ci) H (fun j => cvv H0.size b sa (vOf w k (tyOf ci j) j)) := by
  have hl : k < oN w := h.lt (by rw [hk]; exact fun z => by cases z; omega)
  have hc := h.2.2.1 k hl
  unfold cellAt at hc
  rw [hk] at hc
  exact ⟨hl, hc.2⟩
theorem cellAt.keep {B : Nat} (h : cellAt B b sa D cT w k H) (hH : oH w' k = oH w k) (hv : ∀ ty j, vOf w' k ty j = vOf w k ty j) (hq : H1[B + k]? = H[B + k]?) : cellAt B b sa D cT w' k H1 := by
  unfold cellAt at h ⊢
  rw [hH]
  split at h
  · refine ⟨h.1, ?_⟩
    rw [hq, h.2]
    simp only [hv]
  · refine ⟨h.1, (h.2.kept hq).to (fun j _ => by simp only [hv])⟩
theorem Wd.upd (h : Wd H0 b sa D cT w H) (hN : oN w' = oN w) (hH : oH w' = oH w) (hoth : ∀ k', k' ≠ k → ∀ ty j, vOf w' k' ty j = vOf w k' ty j) (hsz : H1.size = H.size) (hq : ∀ q : Nat, q ≠ H0.size + k → H1[q]? = H[q]?) (hc : cellAt H0.size b sa D cT w' k H1) : Wd H0 b sa D cT w' H1 := by
  refine ⟨by rw [hsz, hN]; exact h.1, fun q hl => by rw [hq q (by omega)]; exact h.2.1 q hl, fun k' hk' => ?_, fun k' hk' => by rw [hH]; exact h.2.2.2 k' (by rw [← hN]; exact hk')⟩
  by_cases e : k' = k
  · subst e; exact hc
  · exact (h.2.2.1 k' (by rw [← hN]; exact hk')).keep (by rw [hH]) (hoth k' e) (hq _ (by omega))
theorem Wd.new (h : Wd H0 b sa D cT w H) (hN : oN w' = oN w + 1) (hH : ∀ k', k' ≠ oN w → oH w' k' = oH w k') (hoth : ∀ k', k' ≠ oN w → ∀ ty j, vOf w' k' ty j = vOf w k' ty j) (hsz : H1.size = H.size + 1) (hq : ∀ q : Nat, q < H.size → H1[q]? = H[q]?) (hc : cellAt H0.size b sa D cT w' (oN w) H1) : Wd H0 b sa D cT w' H1 := by
  have hs := h.1
  refine ⟨by rw [hsz, hN]; omega, fun q hl => by rw [hq q (by omega)]; exact h.2.1 q hl, fun k' hk' => ?_, fun k' hk' => by rw [hH k' (by omega)]; exact h.2.2.2 k' (by omega)⟩
  by_cases e : k' = oN w
  · subst e; exact hc
  · exact (h.2.2.1 k' (by omega)).keep (hH k' e) (hoth k' e) (hq _ (by omega))
end WDS
