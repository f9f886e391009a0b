theorem aTy_ok {t : ArrayType} {ty : FieldType} (h : aTy t = some ty) : newarray.typeOf t = ty ∧ ty ∈ tyL ∧ Cond.arrayClass ty ∈ lw_tbl ∧ defaultValue ty = dvf ty := by
  cases t <;> first | (cases h; done) | (cases h; exact ⟨rfl, by decide, by decide +kernel, rfl⟩)
theorem ra_prim {s : State} {cA : ClassId} {ty : FieldType} (ht : ∀ C, ty ≠ .object C) (h : va_RA s cA ty) : s.vm.findClass ("[" ++ ty.toString) = some cA := by
  cases ty <;> first | exact h | exact absurd rfl (ht _)
theorem vOf_mk {w : Om} {sh : Sh} {n : Nat} (ty : FieldType) (j : Nat) : vOf (mk w sh n) (oN w) ty j = dvf ty := by
  have hs : ∀ {α : Type} (f : Nat → Nat → α) (g : Nat → α), upr f (oN w) g (oN w) j = g j := fun f g => by simp [upr]
  cases ty <;> first | exact congrArg Value.int (hs _ _) | exact congrArg Value.long (hs _ _) | exact congrArg rfv (hs _ _)
theorem vOf_mk_ne {w : Om} {sh : Sh} {n k : Nat} (hk : k ≠ oN w) (ty : FieldType) (j : Nat) : vOf (mk w sh n) k ty j = vOf w k ty j := by
  have hs : ∀ {α : Type} (f : Nat → Nat → α) (g : Nat → α), upr f (oN w) g k j = f k j := fun f g => by simp [upr, hk]
  cases ty <;> first | exact congrArg Value.int (hs _ _) | exact congrArg Value.long (hs _ _) | exact congrArg rfv (hs _ _)
theorem oH_mk {w : Om} {sh : Sh} {n : Nat} : oH (mk w sh n) (oN w) = sh := if_pos rfl
theorem oH_mk_ne {w : Om} {sh : Sh} {n k : Nat} (hk : k ≠ oN w) : oH (mk w sh n) k = oH w k := if_neg hk
theorem cvv_dvf {B b : Nat} {sa : Nat → Option Nat} (ty : FieldType) : cvv B b sa (dvf ty) = dvf ty := by cases ty <;> rfl
section STEP
variable {p : Program} {l : Launch} {e : Env} {R : Room} {s : State} {m : MethodId} {args : Array Value} {below : List Frame} {meth : Method} {c : Code} {Q : State → Prop}
variable {cc : ByteArray} {co nL : Nat} {H0 : Heap} {b Ln : Nat} {sa : Nat → Option Nat} {xs : Nat → Int32} {D : va_G} {cT : FieldType → ClassId} {n0 s0 : Nat} {ini : Bool} {pc : Nat} {lo : List (Option Value)} {t : List Value} {w : Om}
theorem cnt1 {x y n z : Nat} (h : n ≤ x) : x + z - n = (x - n) + z := by omega
theorem st_newa {tt : ArrayType} {ty : FieldType} {x : Int32} (C : Ct p R s m args meth c cc co nL H0 b Ln xs sa D cT ini) (hd : decode cc pc = .ok (.newarray tt, 2)) (ha : aTy tt = some ty) (hx0 : ¬ x < 0) (hx1 : x.toNatClampNeg ≤ 1000000) (hn0 : n0 ≤ oN w) (hs0 : s0 ≤ oS w) (hr1 : oN w + 1 - n0 ≤ R.cells) (hr2 : oS w + x.toNatClampNeg - s0 ≤ R.slots)
    (g : Gd p l e R s m args below meth c nL H0 b sa D cT n0 s0 Q (pc + 2, lo, .ref (oN w) :: t, mk w (.inl (ty, x.toNatClampNeg)) x.toNatClampNeg)) : Gd p l e R s m args below meth c nL H0 b sa D cT n0 s0 Q (pc, lo, .int x :: t, w) := by
  intro H locs ls hW hL hq
  obtain ⟨hx, hb, hml, hown, hts, hC, -⟩ := C
  obtain ⟨h1, h2, h3, h4⟩ := aTy_ok ha
  subst h1
  rw [cnt1 (y := 0) hn0] at hr1
  rw [cnt1 (y := 0) hs0] at hr2
  have hne : ∀ C0, newarray.typeOf tt ≠ .object C0 := fun C0 => by cases tt <;> (intro z; cases z)
  have hcb : componentBytes (newarray.typeOf tt) ≤ 8 := by cases tt <;> decide
  refine va_newaK hx hb (hts _ (mem_TT h3 rfl)) rfl hd rfl hx0 rfl (Nat.le_trans (Nat.mul_le_mul hx1 hcb) (by decide)) hr1 hr2 rfl fun H1 cA e1 z1 o1 hAr hNm => ?_
  have hcA : cA = cT (newarray.typeOf tt) := Option.some.inj (hNm.symm.trans (ra_prim hne (hC.1.2.1 _ h2).2))
  subst hcA
  have hWn : Wd H0 b sa D cT (mk w (.inl (newarray.typeOf tt, x.toNatClampNeg)) x.toNatClampNeg) H1 := by
    refine hW.new rfl (fun k' hk' => oH_mk_ne hk') (fun k' hk' ty j => vOf_mk_ne hk' ty j) z1 o1 ?_
    unfold cellAt
    rw [oH_mk]
    refine ⟨h2, ?_⟩
    rw [← hW.1]
    simp only [vOf_mk, cvv_dvf]
    rw [← h4]
    exact e1
  have hg := g H1 locs ls hWn hL hq
  rw [show oN (mk w (.inl (newarray.typeOf tt, x.toNatClampNeg)) x.toNatClampNeg) - n0 = (oN w - n0) + 1 from cnt1 (y := 0) hn0, show oS (mk w (.inl (newarray.typeOf tt, x.toNatClampNeg)) x.toNatClampNeg) - s0 = (oS w - s0) + x.toNatClampNeg from cnt1 (y := 0) hs0] at hg
  rw [hW.1]
  exact hg
theorem st_anew {x a i : Nat} {n : Int32} (C : Ct p R s m args meth c cc co nL H0 b Ln xs sa D cT ini) (hd : decode cc pc = .ok (.anewarray i, 3)) (hl : (i, a) ∈ CLK co) (ha : a = 1 ∨ a = 4) (hx0 : ¬ n < 0) (hx1 : n.toNatClampNeg ≤ 1000000) (hn0 : n0 ≤ oN w) (hs0 : s0 ≤ oS w) (hr1 : oN w + 1 - n0 ≤ R.cells) (hr2 : oS w + n.toNatClampNeg - s0 ≤ R.slots)
    (g : Gd p l e R s m args below meth c nL H0 b sa D cT n0 s0 Q (pc + 3, lo, .ref (oN w) :: t, mk w (.inl (if a = 1 then .object RX1 else .object RX4, n.toNatClampNeg)) n.toNatClampNeg)) : Gd p l e R s m args below meth c nL H0 b sa D cT n0 s0 Q (pc, lo, .int n :: t, w) := by
  intro H locs ls hW hL hq
  obtain ⟨hx, hb, hml, hown, hts, hC, -⟩ := C
  rw [cnt1 (y := 0) hn0] at hr1
  rw [cnt1 (y := 0) hs0] at hr2
  obtain ⟨C0, hC0, hty, hov, hcn⟩ : ∃ C0, (if a = 1 then FieldType.object RX1 else .object RX4) = .object C0 ∧ FieldType.object C0 ∈ tyL ∧ va_AO C0 s ∧ Cn a = C0 := by
    rcases ha with rfl | rfl
    · exact ⟨RX1, rfl, by decide, hC.1.2.2.1, rfl⟩
    · exact ⟨RX4, rfl, by decide, hC.1.2.2.2.1, rfl⟩
  rw [hC0] at g
  have hcl := hts _ (mem_TT (clk_ok co _ hl).1 rfl)
  rw [hcn] at hcl
  refine W.anew hx hb hown hcl (va_AO.use hov) rfl hd rfl hx0 (Nat.le_trans (Nat.mul_le_mul hx1 (Nat.le_refl 4)) (by decide)) hr1 hr2 fun cA kA comp f1 f2 f3 f4 => ?_
  obtain ⟨-, -, -, -, -, hra⟩ := (hC.1.2.1 _ hty).2
  have hcA : cA = cT (.object C0) := Option.some.inj (f1.symm.trans hra)
  subst hcA
  generalize hH1 : H.push ({ cls := cT (.object C0), slots := Array.replicate n.toNatClampNeg .null, vm := .none } : Cell) = H1
  have z1 : H1.size = H.size + 1 := by rw [← hH1, Array.size_push]
  have e1 : H1[H.size]? = some (arrV (cT (.object C0)) n.toNatClampNeg (fun _ => .null)) := by rw [← hH1, Array.getElem?_push_size, ← arrV_new]
  have o1 : ∀ q : Nat, q < H.size → H1[q]? = H[q]? := fun q hq => by rw [← hH1, Array.getElem?_push, if_neg (Nat.ne_of_lt hq)]
  have hWn : Wd H0 b sa D cT (mk w (.inl (.object C0, n.toNatClampNeg)) n.toNatClampNeg) H1 := by
    refine hW.new rfl (fun k' hk' => oH_mk_ne hk') (fun k' hk' ty j => vOf_mk_ne hk' ty j) z1 o1 ?_
    unfold cellAt
    rw [oH_mk]
    refine ⟨hty, ?_⟩
    rw [← hW.1]
    simp only [vOf_mk, cvv_dvf]
    exact e1
  have hg := g H1 locs ls hWn hL hq
  rw [show oN (mk w (.inl (.object C0, n.toNatClampNeg)) n.toNatClampNeg) - n0 = (oN w - n0) + 1 from cnt1 (y := 0) hn0, show oS (mk w (.inl (.object C0, n.toNatClampNeg)) n.toNatClampNeg) - s0 = (oS w - s0) + n.toNatClampNeg from cnt1 (y := 0) hs0] at hg
  rw [hW.1]
  exact hg
theorem st_new {a i : Nat} (C : Ct p R s m args meth c cc co nL H0 b Ln xs sa D cT ini) (hd : decode cc pc = .ok (.new i, 3)) (hl : (i, a) ∈ CLK co) (hn0 : n0 ≤ oN w) (hs0 : s0 ≤ oS w) (hr1 : oN w + 1 - n0 ≤ R.cells) (hr2 : oS w + nF a - s0 ≤ R.slots)
    (g : Gd p l e R s m args below meth c nL H0 b sa D cT n0 s0 Q (pc + 3, lo, .ref (oN w) :: t, mk w (.inr a) (nF a))) : Gd p l e R s m args below meth c nL H0 b sa D cT n0 s0 Q (pc, lo, t, w) := by
  intro H locs ls hW hL hq
  obtain ⟨hx, hb, hml, hown, hts, hC, -⟩ := C
  rw [cnt1 (y := 0) hn0] at hr1
  rw [cnt1 (y := 0) hs0] at hr2
  obtain ⟨hcl, hci⟩ := clk_ok co _ hl
  have K := kis hci
  have hKn := hC.1.1.1 a _ K.1
  refine W.newcK hx hb hown (hts _ (mem_TT hcl rfl)) (hts _ K.2.2.2.2.1) (hts _ K.2.2.2.2.2.1) rfl hd hr1 hr2 hKn.2.1 rfl fun H1 kC hkC e1 z1 o1 => ?_
  have hWn : Wd H0 b sa D cT (mk w (.inr a) (nF a)) H1 := by
    refine hW.new rfl (fun k' hk' => oH_mk_ne hk') (fun k' hk' ty j => vOf_mk_ne hk' ty j) z1 o1 ?_
    unfold cellAt
    rw [oH_mk]
    refine ⟨hci, ?_⟩
    rw [← hW.1]
    refine (u_born (tyOf a) hts K.2.1 hKn hkC e1 K.2.2.1).to (fun j hj => ?_)
    rw [dvf_ok a hci j hj, vOf_mk, cvv_dvf]
  have hg := g H1 locs ls hWn hL hq
  rw [show oN (mk w (.inr a) (nF a)) - n0 = (oN w - n0) + 1 from cnt1 (y := 0) hn0, show oS (mk w (.inr a) (nF a)) - s0 = (oS w - s0) + nF a from cnt1 (y := 0) hs0] at hg
  rw [hW.1]
  exact hg
theorem elK_s {ty : FieldType} (h : elK ty ≠ 99) : ∃ C0, ty = .object C0 ∧ elK ty < 12 ∧ Cn (elK ty) = C0 := by
  unfold elK at h ⊢
  split at h
  · rename_i h1
    subst h1
    exact ⟨RX1, rfl, by simp, by simp [Cn]⟩
  · split at h
    · rename_i h1 h2
      subst h2
      exact ⟨RX4, rfl, by simp [h1], by simp [h1, Cn]⟩
    · exact absurd rfl h
theorem st_aast {k n q : Nat} {i : Int32} {ty : FieldType} (C : Ct p R s m args meth c cc co nL H0 b Ln xs sa D cT ini) (hd : decode cc pc = .ok (.aastore, 1)) (hk : oH w k = .inl (ty, n)) (he : elK ty ≠ 99) (hi : ¬ (i < 0 ∨ n ≤ i.toNatClampNeg)) (hv : isObj w q (elK ty) = true)
    (g : Gd p l e R s m args below meth c nL H0 b sa D cT n0 s0 Q (pc + 1, lo, t, (oN w, oS w, oH w, oI w, oL w, up2 (oP w) k i.toNatClampNeg (some q)))) : Gd p l e R s m args below meth c nL H0 b sa D cT n0 s0 Q (pc, lo, .ref q :: .int i :: .ref k :: t, w) := by
  intro H locs ls hW hL hq
  obtain ⟨hx, hb, hml, hown, hts, hC, -⟩ := C
  obtain ⟨C0, hC0, hlt, hcn⟩ := elK_s he
  obtain ⟨-, hty, hc⟩ := hW.arr hk
  obtain ⟨-, hv2⟩ := isObj_s hv
  obtain ⟨-, cellV, g1, g2, g3, -⟩ := hW.obj hlt hv2
  have K := kis hlt
  have hcls := (hC.1.1.1 _ _ K.1).2
  have hra := (hC.1.2.1 _ hty).2
  rw [hC0] at hra
  obtain ⟨kA, comp, k1, k2, k3, -⟩ := hra
  have hcls1 := hcls.1
  dsimp only at hcls1
  rw [hcn] at hcls1
  have hcomp : comp = D.1 (elK ty) := Option.some.inj (k3.symm.trans hcls1)
  subst hcomp
  obtain ⟨kC, hkC, -⟩ := hcls.2
  have hlt2 : i.toNatClampNeg < n := Nat.not_le.mp fun q => hi (Or.inr q)
  have hw : wV w k i.toNatClampNeg (.ref q) = some (oN w, oS w, oH w, oI w, oL w, up2 (oP w) k i.toNatClampNeg (some q)) := rfl
  refine W.aast hx hb hc (fun q h => by cases h) (fun h => by cases h) (by rw [← hC0] at k1; exact k1) k2 rfl hkC ⟨fun z => hi (Or.inl z), by rw [arrV_size]; exact hlt2⟩ g1 (fun q h => by rw [g3] at h; cases h) (by rw [g2]; exact hkC) (by rw [g2]; exact va_assign hcls) rfl rfl hd fun H1 e1 z oq => g H1 _ ls ?_ hL (locs1 hq)
  refine hW.upd (k := k) rfl rfl (fun k' hk' ty j => wV_other hw (fun z => hk' z.1) ty) z oq ?_
  unfold cellAt
  rw [show oH (oN w, oS w, oH w, oI w, oL w, up2 (oP w) k i.toNatClampNeg (some q)) k = .inl (ty, n) from hk]
  refine ⟨hty, ?_⟩
  rw [e1, arrV_store]
  congr 2
  funext j
  by_cases hj : j = i.toNatClampNeg
  · rw [hj]
    simp only [updV, if_true]
    rw [wV_same hw (by rw [hC0]; rfl)]
    rfl
  · simp only [updV, if_neg hj]
    rw [wV_other hw (fun z => hj z.2) ty]
theorem st_aastN {k n : Nat} {i : Int32} {ty : FieldType} (C : Ct p R s m args meth c cc co nL H0 b Ln xs sa D cT ini) (hd : decode cc pc = .ok (.aastore, 1)) (hk : oH w k = .inl (ty, n)) (he : elK ty ≠ 99) (hi : ¬ (i < 0 ∨ n ≤ i.toNatClampNeg))
    (g : Gd p l e R s m args below meth c nL H0 b sa D cT n0 s0 Q (pc + 1, lo, t, (oN w, oS w, oH w, oI w, oL w, up2 (oP w) k i.toNatClampNeg none))) : Gd p l e R s m args below meth c nL H0 b sa D cT n0 s0 Q (pc, lo, .null :: .int i :: .ref k :: t, w) := by
  intro H locs ls hW hL hq
  obtain ⟨hx, hb, hml, hown, hts, hC, -⟩ := C
  obtain ⟨C0, hC0, hlt, hcn⟩ := elK_s he
  obtain ⟨-, hty, hc⟩ := hW.arr hk
  have hw : wV w k i.toNatClampNeg .null = some (oN w, oS w, oH w, oI w, oL w, up2 (oP w) k i.toNatClampNeg none) := rfl
  have hA := (hC.1.2.1 _ hty).1
  refine va_WaastN (C := C0) hx hb hc (by rw [← hC0]; exact hA _ _) (fun h => by cases h) (by rw [arrV_size]; exact hi) rfl rfl hd fun H1 e1 z oq => g H1 _ ls ?_ hL (locs1 hq)
  refine hW.upd (k := k) rfl rfl (fun k' hk' ty j => wV_other hw (fun z => hk' z.1) ty) z oq ?_
  unfold cellAt
  rw [show oH (oN w, oS w, oH w, oI w, oL w, up2 (oP w) k i.toNatClampNeg none) k = .inl (ty, n) from hk]
  refine ⟨hty, ?_⟩
  rw [e1, arrV_store]
  congr 2
  funext j
  by_cases hj : j = i.toNatClampNeg
  · rw [hj]
    simp only [updV, if_true]
    rw [wV_same hw (by rw [hC0]; rfl)]
    rfl
  · simp only [updV, if_neg hj]
    rw [wV_other hw (fun z => hj z.2) ty]
end STEP
