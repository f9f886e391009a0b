def PcA (H0 : Heap) (b : Nat) (sa : Nat → Option Nat) (Ln : Nat) (xs : Nat → Int32) (D : va_G) (cT : FieldType → ClassId) (as : List Value) (w : Om) : Array Value → State → Prop := va_Pc (as.map (cvv H0.size b sa)) (fun U => Wd H0 b sa D cT w U.heap ∧ CX H0 b Ln xs sa D cT U)
def QcA (H0 : Heap) (b : Nat) (sa : Nat → Option Nat) (D : va_G) (cT : FieldType → ClassId) (r : Res) : Array Value → State → Outcome → State → Prop := fun _ _ o t => o = .returned (r.2.map (cvv H0.size b sa)) ∧ Wd H0 b sa D cT r.1 t.heap
/-- the contract of method a at these arguments and this heap, with room for d frames -/
def MetA (l : Launch) (H0 : Heap) (b : Nat) (sa : Nat → Option Nat) (Ln : Nat) (xs : Nat → Int32) (D : va_G) (cT : FieldType → ClassId) (d a : Nat) (as : List Value) (w : Om) (r : Res) : Prop := ∀ q, mI a = some q → Met l q.1 (Cond.code q.1 q.2.1 q.2.2.1 q.2.2.2.1 :: TT) { frames := d, cells := oN r.1 - oN w, slots := oS r.1 - oS w, locals := 64 * d } (PcA H0 b sa Ln xs D cT as w) (QcA H0 b sa D cT r) (oN r.1 - oN w) (oS r.1 - oS w) (fun z => H0.size ≤ z)
def CallOK (l : Launch) (H0 : Heap) (b : Nat) (sa : Nat → Option Nat) (Ln : Nat) (xs : Nat → Int32) (D : va_G) (cT : FieldType → ClassId) (d : Nat) (call : Call) : Prop := ∀ a as w r, call a as w = some r → oN w ≤ oN r.1 ∧ oS w ≤ oS r.1 ∧ MetA l H0 b sa Ln xs D cT d a as w r
theorem PcA_blind {H0 : Heap} {b Ln : Nat} {sa : Nat → Option Nat} {xs : Nat → Int32} {D : va_G} {cT : FieldType → ClassId} {as : List Value} {w : Om} : FrameBlind (PcA H0 b sa Ln xs D cT as w) := fun a U g mk q => by
  obtain ⟨q0, q1, q2⟩ := q
  exact ⟨q0, q1, q2.same (u := U) (U := U.calling g mk a) rfl⟩
theorem noStr : ∀ z, z < 280 → mIn z = true → (match mI z with
    | some q => Nat.blt q.2.2.2.2 12
    | none => true) = true := by decide +kernel
section STEP
variable {p : Program} {l : Launch} {e : Env} {R : Room} {s : State} {m : MethodId} {args : Array Value} {below : List Frame} {meth : Method} {c : Code} {Q : State → Prop}
variable {cc : ByteArray} {co nL : Nat} {H0 : Heap} {b Ln : Nat} {sa : Nat → Option Nat} {xs : Nat → Int32} {D : va_G} {cT : FieldType → ClassId} {n0 s0 : Nat} {ini : Bool} {pc : Nat} {lo : List (Option Value)} {t st : List Value} {w : Om}
theorem runW {H : Heap} {locs : List Loc} {cells slots mc ms : Nat} {ls : Array Slot} {st0 rest : List Value} {Qa : State → Outcome → State → Prop} {free : Addr → Prop} (hr : va_Run p l e R s m args below meth c H locs cells slots mc ms (F0 m pc ls st0) rest Qa free)
    (kk : ∀ (v : Option Value) (st₀ t : State) (locs1 : List Loc), Qa st₀ (.returned v) t → (∀ z ∈ locs1, z ∈ locs ∨ free z.base) → W p l e R s m args below meth c t.heap locs1 (cells + mc) (slots + ms) Q (F0 m (pc + 3) ls (v.toList ++ rest))) : W p l e R s m args below meth c H locs cells slots Q (F0 m pc ls st0) := by
  intro T hT X
  obtain ⟨v, st₀, t, T', L, h0, X', hL, e1, e2, hq, st⟩ := hr T hT X
  obtain ⟨t2, a1, b1⟩ := kk v st₀ t (locs ++ L) hq (fun z hz => (List.mem_append.mp hz).elim Or.inl (fun h => Or.inr (hL z h))) T' e1 X'
  exact ⟨t2, st t2 a1, b1⟩
theorem goodC {q : MInf} (h : Cond.code q.1 q.2.1 q.2.2.1 q.2.2.2.1 ∈ TT) : GoodIn TT (Cond.code q.1 q.2.1 q.2.2.1 q.2.2.2.1 :: TT) := fun w hw => by
  rcases List.mem_cons.mp hw with rfl | hw
  · exact good_TT _ h
  · exact good_TT _ hw
theorem xCall_s {call : Call} {v : Bool} {a bb nx : Nat} {q : Cfg} (h : xCall call v a bb nx lo st w = some (.inl q)) : bb ≤ st.length ∧ catS (st.drop bb) ≤ 8 ∧ ∃ i w' r, mI a = some i ∧ (v = false ∨ rcv w (st.take bb).reverse i.2.2.2.2 = true) ∧ call a (st.take bb).reverse w = some (w', r) ∧ q = (nx, lo, r.toList ++ st.drop bb, w') := by
  unfold xCall at h
  obtain ⟨h1, h2⟩ := ite_s h
  refine ⟨h1.1, h1.2, ?_⟩
  split at h2
  · rename_i i hi
    obtain ⟨h3, h4⟩ := ite_s h2
    split at h4
    · rename_i w' r hc
      exact ⟨i, w', r, hi, h3, hc, go1_s h4⟩
    · cases h4
  · cases h2
theorem wfin {H : Heap} {locs locs' : List Loc} {ls : Array Slot} {r : Res} {rest : List Value} {cl sl : Nat} (hW : Wd H0 b sa D cT r.1 H) (hL : LR H0.size b sa ls nL lo) (hq : ∀ z ∈ locs, H0.size ≤ z.base) (hl : ∀ z ∈ locs', z ∈ locs ∨ H0.size ≤ z.base) (h1 : cl = oN r.1 - n0) (h2 : sl = oS r.1 - s0)
    (g : Gd p l e R s m args below meth c nL H0 b sa D cT n0 s0 Q (pc, lo, r.2.toList ++ rest, r.1)) : W p l e R s m args below meth c H locs' cl sl Q (F0 m pc ls ((r.2.map (cvv H0.size b sa)).toList ++ rest.map (cvv H0.size b sa))) := by
  subst h1 h2
  have := g H locs' ls hW hL (fun z hz => (hl z hz).elim (hq z) id)
  rw [show (r.2.map (cvv H0.size b sa)).toList ++ rest.map (cvv H0.size b sa) = (r.2.toList ++ rest).map (cvv H0.size b sa) by cases r.2 <;> simp]
  exact this
theorem st_callS {call : Call} {a bb x d : Nat} {q : Cfg} (C : Ct p R s m args meth c cc co nL H0 b Ln xs sa D cT ini) (hcall : CallOK l H0 b sa Ln xs D cT d call) (hRd : d + 1 ≤ R.frames ∧ 64 * (d + 1) ≤ R.locals) (hd : decode cc pc = .ok (.invokestatic x, 3)) (hml : (x, a) ∈ MLK co) (ha : a < 280) (hst : mSt a = true) (hbb : bb = mNp a)
    (hex : xCall call false a bb (pc + 3) lo st w = some (.inl q)) (hn0 : n0 ≤ oN w) (hs0 : s0 ≤ oS w) (hr1 : oN q.2.2.2 - n0 ≤ R.cells) (hr2 : oS q.2.2.2 - s0 ≤ R.slots)
    (g : Gd p l e R s m args below meth c nL H0 b sa D cT n0 s0 Q q) : Gd p l e R s m args below meth c nL H0 b sa D cT n0 s0 Q (pc, lo, st, w) := by
  intro H locs ls hW hL hq
  obtain ⟨hx, hb, hmx, hown, hts, hC, -⟩ := C
  obtain ⟨hle, hcat, i, w', r, hi, -, hcl, rfl⟩ := xCall_s hex
  obtain ⟨hm1, hm2, hmet⟩ := hcall _ _ _ _ hcl
  have hM := hmet i hi
  obtain ⟨k1, k2, k3, k4, k5, k6, -⟩ := mok (by omega) hi
  have hlen : (st.take bb).reverse.length = mNp a := by rw [List.length_reverse, List.length_take]; omega
  have hyl := hts _ (mem_TT (mlk_ok co _ hml) rfl)
  rw [show yN a = i.1 by unfold yN; rw [hi]] at hyl
  dsimp only at hm1 hm2 hM hr1 hr2
  refine runW (va_runS (As := (st.take bb).reverse.map (cvv H0.size b sa)) (rest := (st.drop bb).map (cvv H0.size b sa)) (bytes := i.2.1) (maxL := i.2.2.1) (ret := i.2.2.2.1) ⟨hx, hb, hmx, hown, hts⟩ hM ⟨callB_of (mNp a) hts (goodC k1) rfl rfl rfl (hts _ k2) hyl k3 ⟨hRd.1, by show 8 + (i.2.2.1 + 11) + 64 * d ≤ R.locals; omega⟩, hts _ (k6 hst)⟩ ⟨PcA_blind, fun U hU hWm => ⟨rfl, by rw [hU]; exact hW, hC.warm hWm⟩⟩ rfl (by rw [List.length_map]; exact hlen) hL.2.1 ?_ ?_ hd ⟨?_, ?_⟩) ?_
  · show st.map _ = _
    rw [← List.map_reverse, List.reverse_reverse, ← List.map_append, List.take_append_drop]
  · exact lv_room (by rw [cvv_catS]; exact hcat)
  · show (oN w - n0) + (oN w' - oN w) ≤ R.cells
    omega
  · show (oS w - s0) + (oS w' - oS w) ≤ R.slots
    omega
  · intro v st₀ t locs1 hQ hl1
    obtain ⟨hv, hW'⟩ := hQ
    cases hv
    exact wfin (r := (w', r)) hW' hL hq hl1 (by dsimp only; omega) (by dsimp only; omega) g
theorem st_callI {call : Call} {a bb x d : Nat} {q : Cfg} (C : Ct p R s m args meth c cc co nL H0 b Ln xs sa D cT ini) (hcall : CallOK l H0 b sa Ln xs D cT d call) (hRd : d + 1 ≤ R.frames ∧ 64 * (d + 1) ≤ R.locals) (hd : decode cc pc = .ok (.invokespecial x, 3)) (hml : (x, a) ∈ MLK co) (ha : a < 280) (hst : mIn a = true) (hbb : bb = mNp a + 1)
    (hex : xCall call true a bb (pc + 3) lo st w = some (.inl q)) (hn0 : n0 ≤ oN w) (hs0 : s0 ≤ oS w) (hr1 : oN q.2.2.2 - n0 ≤ R.cells) (hr2 : oS q.2.2.2 - s0 ≤ R.slots)
    (g : Gd p l e R s m args below meth c nL H0 b sa D cT n0 s0 Q q) : Gd p l e R s m args below meth c nL H0 b sa D cT n0 s0 Q (pc, lo, st, w) := by
  intro H locs ls hW hL hq
  obtain ⟨hx, hb, hmx, hown, hts, hC, -⟩ := C
  obtain ⟨hle, hcat, i, w', r, hi, hrc, hcl, rfl⟩ := xCall_s hex
  obtain ⟨hm1, hm2, hmet⟩ := hcall _ _ _ _ hcl
  have hM := hmet i hi
  obtain ⟨k1, k2, k3, k4, k5, k6, k7, k8, k9⟩ := mok (by omega) hi
  have hlen : (st.take bb).reverse.length = mNp a + 1 := by rw [List.length_reverse, List.length_take]; omega
  have hyl := hts _ (mem_TT (mlk_ok co _ hml) rfl)
  rw [show yN a = i.1 by unfold yN; rw [hi]] at hyl
  dsimp only at hm1 hm2 hM hr1 hr2
  have hns : mSt a = false := by
    cases hz : mSt a
    · rfl
    · have : ∀ z, z < 280 → ¬ (mIn z = true ∧ mSt z = true) := by decide +kernel
      exact absurd ⟨hst, hz⟩ (this a ha)
  have hrc2 := hrc.resolve_left (by decide)
  generalize has : (st.take bb).reverse = as at hlen hM hrc2
  cases as with
  | nil => simp at hlen
  | cons u0 as =>
  have hstk : st = as.reverse ++ u0 :: st.drop bb := by
    have h1 : st.take bb = as.reverse ++ [u0] := by
      have := congrArg List.reverse has
      simpa using this
    have h2 := List.take_append_drop bb st
    rw [h1] at h2
    simpa using h2.symm
  cases u0 with
  | ref k =>
    refine runW (va_runI (b := H0.size + k) (As := as.map (cvv H0.size b sa)) (rest := (st.drop bb).map (cvv H0.size b sa)) (bytes := i.2.1) (maxL := i.2.2.1) (n := mNp a) ⟨hx, hb, hmx, hown, hts⟩ hM ⟨callB_of (mNp a) hts (goodC k1) (by rw [(k8 hst).2]) rfl rfl (hts _ k2) hyl k3 ⟨hRd.1, by show 8 + (i.2.2.1 + 11) + 64 * d ≤ R.locals; omega⟩, (k8 hst).1, hts _ (k7 hns).1⟩ ⟨PcA_blind, fun U hU hWm => ⟨rfl, by rw [hU]; exact hW, hC.warm hWm⟩⟩ rfl (by rw [List.length_map]; simpa using hlen) hL.2.1 ?_ ?_ hd ⟨?_, ?_⟩) ?_
    · show st.map _ = _
      conv => lhs; rw [hstk]
      simp [cvv]
    · exact lv_room (by rw [cvv_catS]; exact hcat)
    · show (oN w - n0) + (oN w' - oN w) ≤ R.cells
      omega
    · show (oS w - s0) + (oS w' - oS w) ≤ R.slots
      omega
    · intro v st₀ t locs1 hQ hl1
      obtain ⟨hv, hW'⟩ := hQ
      cases hv
      exact wfin (r := (w', r)) hW' hL hq hl1 (by dsimp only; omega) (by dsimp only; omega) g
  | retAddr n =>
    rcases n with _ | _ | n
    · exact absurd hrc2 (by simp [rcv])
    · have h90 : i.2.2.2.2 = 90 := Nat.eq_of_beq_eq_true (show Nat.beq i.2.2.2.2 90 = true from hrc2)
      have h12 := noStr a ha hst
      rw [hi] at h12
      simp [h90] at h12
    · exact absurd hrc2 (by simp [rcv])
  | _ => exact absurd hrc2 (by simp [rcv])
theorem st_callV {call : Call} {a bb x d : Nat} {q : Cfg} (C : Ct p R s m args meth c cc co nL H0 b Ln xs sa D cT ini) (hcall : CallOK l H0 b sa Ln xs D cT d call) (hRd : d + 1 ≤ R.frames ∧ 64 * (d + 1) ≤ R.locals) (hd : decode cc pc = .ok (.invokevirtual x, 3)) (hml : (x, a) ∈ MLK co) (ha : a < 280) (hst : mIn a = false) (hns : mSt a = false) (hbb : bb = mNp a + 1)
    (hex : xCall call true a bb (pc + 3) lo st w = some (.inl q)) (hn0 : n0 ≤ oN w) (hs0 : s0 ≤ oS w) (hr1 : oN q.2.2.2 - n0 ≤ R.cells) (hr2 : oS q.2.2.2 - s0 ≤ R.slots)
    (g : Gd p l e R s m args below meth c nL H0 b sa D cT n0 s0 Q q) : Gd p l e R s m args below meth c nL H0 b sa D cT n0 s0 Q (pc, lo, st, w) := by
  intro H locs ls hW hL hq
  obtain ⟨hx, hb, hmx, hown, hts, hC, -⟩ := C
  obtain ⟨hle, hcat, i, w', r, hi, hrc, hcl, rfl⟩ := xCall_s hex
  obtain ⟨hm1, hm2, hmet⟩ := hcall _ _ _ _ hcl
  have hM := hmet i hi
  obtain ⟨k1, k2, k3, k4, k5, k6, k7, k8, k9⟩ := mok (by omega) hi
  have hlen : (st.take bb).reverse.length = mNp a + 1 := by rw [List.length_reverse, List.length_take]; omega
  have hyl := hts _ (mem_TT (mlk_ok co _ hml) rfl)
  rw [show yN a = i.1 by unfold yN; rw [hi]] at hyl
  dsimp only at hm1 hm2 hM hr1 hr2
  have hrc2 := hrc.resolve_left (by decide)
  generalize has : (st.take bb).reverse = as at hlen hM hrc2
  cases as with
  | nil => simp at hlen
  | cons u0 as =>
  have hstk : st = as.reverse ++ u0 :: st.drop bb := by
    have h1 : st.take bb = as.reverse ++ [u0] := by
      have := congrArg List.reverse has
      simpa using this
    have h2 := List.take_append_drop bb st
    rw [h1] at h2
    simpa using h2.symm
  cases u0 with
  | ref k =>
    obtain ⟨hk12, hkO⟩ := isObj_s hrc2
    obtain ⟨-, cell, o1, o2, o3, -⟩ := hW.obj hk12 hkO
    have hfc := (hC.1.1.1 _ _ (kis hk12).1).2.1
    have hcn : i.1.cls = Cn i.2.2.2.2 := (k7 hns).2.elim (fun h => h.2) (fun h => absurd hk12 (by omega))
    refine runW (va_runV (C := i.1.cls) (b := H0.size + k) (As := as.map (cvv H0.size b sa)) (rest := (st.drop bb).map (cvv H0.size b sa)) (bytes := i.2.1) (maxL := i.2.2.1) (ret := i.2.2.2.1) (n := mNp a) ⟨hx, hb, hmx, hown, hts⟩ hM ⟨callB_of (mNp a) hts (goodC k1) rfl rfl rfl (hts _ k2) hyl k3 ⟨hRd.1, by show 8 + (i.2.2.1 + 11) + 64 * d ≤ R.locals; omega⟩, hts _ (k7 hns).1, hts _ (k9 hns hst)⟩ ⟨PcA_blind, ⟨cell, o1, by rw [o3]; rfl, by rw [o2, hcn]; exact hfc⟩, fun U hU hWm => ⟨rfl, by rw [hU]; exact hW, hC.warm hWm⟩⟩ rfl (by rw [List.length_map]; simpa using hlen) hL.2.1 ?_ ?_ hd ⟨?_, ?_⟩) ?_
    · show st.map _ = _
      conv => lhs; rw [hstk]
      simp [cvv]
    · exact lv_room (by rw [cvv_catS]; exact hcat)
    · show (oN w - n0) + (oN w' - oN w) ≤ R.cells
      omega
    · show (oS w - s0) + (oS w' - oS w) ≤ R.slots
      omega
    · intro v st₀ t locs1 hQ hl1
      obtain ⟨hv, hW'⟩ := hQ
      cases hv
      exact wfin (r := (w', r)) hW' hL hq hl1 (by dsimp only; omega) (by dsimp only; omega) g
  | retAddr n =>
    rcases n with _ | _ | n
    · exact absurd hrc2 (by simp [rcv])
    · have h90 : i.2.2.2.2 = 90 := Nat.eq_of_beq_eq_true (show Nat.beq i.2.2.2.2 90 = true from hrc2)
      obtain ⟨q9, v9, s1, s2, s3, ⟨cell, o1, o2, o3, -⟩, -⟩ := hC.2.2.2
      have hcn : i.1.cls = "java/lang/String" := (k7 hns).2.elim (fun h => absurd h.1 (by omega)) (fun h => h.2)
      refine runW (va_runV (C := i.1.cls) (b := q9) (As := as.map (cvv H0.size b sa)) (rest := (st.drop bb).map (cvv H0.size b sa)) (bytes := i.2.1) (maxL := i.2.2.1) (ret := i.2.2.2.1) (n := mNp a) ⟨hx, hb, hmx, hown, hts⟩ hM ⟨callB_of (mNp a) hts (goodC k1) rfl rfl rfl (hts _ k2) hyl k3 ⟨hRd.1, by show 8 + (i.2.2.1 + 11) + 64 * d ≤ R.locals; omega⟩, hts _ (k7 hns).1, hts _ (k9 hns hst)⟩ ⟨PcA_blind, ⟨cell, (hW.2.1 _ (Array.getElem?_eq_some_iff.mp o1).1).trans o1, o2, by rw [hcn]; exact o3⟩, fun U hU hWm => ⟨by rw [List.map_cons]; simp only [cvv, s1, va_rf], by rw [hU]; exact hW, hC.warm hWm⟩⟩ rfl (by rw [List.length_map]; simpa using hlen) hL.2.1 ?_ ?_ hd ⟨?_, ?_⟩) ?_
      · show st.map _ = _
        conv => lhs; rw [hstk]
        simp [cvv, s1, va_rf]
      · exact lv_room (by rw [cvv_catS]; exact hcat)
      · show (oN w - n0) + (oN w' - oN w) ≤ R.cells
        omega
      · show (oS w - s0) + (oS w' - oS w) ≤ R.slots
        omega
      · intro v st₀ t locs1 hQ hl1
        obtain ⟨hv, hW'⟩ := hQ
        cases hv
        exact wfin (r := (w', r)) hW' hL hq hl1 (by dsimp only; omega) (by dsimp only; omega) g
    · exact absurd hrc2 (by simp [rcv])
  | _ => exact absurd hrc2 (by simp [rcv])
end STEP
