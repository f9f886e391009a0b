theorem castW : Cond.classLink (On 14) 317 "[I" ∈ TT := mem_TT (by decide +kernel) rfl
theorem objW : Cond.instanceMethod objectInit ∈ TT ∧ Cond.code objectInit ⟨#[0xb1]⟩ 1 none ∈ TT := ⟨mem_TT (by decide +kernel) rfl, mem_TT (by decide +kernel) rfl⟩
theorem mathW : Cond.static Lib.Math.max.name ∈ TT ∧ Cond.initialized "java/lang/Math" ∈ TT ∧ Cond.code Lib.Math.max.name Lib.Math.max.code 2 (some .int) ∈ TT ∧ Cond.static Lib.Math.min.name ∈ TT ∧ Cond.code Lib.Math.min.name Lib.Math.min.code 2 (some .int) ∈ TT := ⟨mem_TT (by decide +kernel) rfl, mem_TT (by decide +kernel) rfl, mem_TT (by decide +kernel) rfl, mem_TT (by decide +kernel) rfl, mem_TT (by decide +kernel) rfl⟩
theorem cpyW : Cond.native arraycopyName ∈ TT ∧ Cond.static arraycopyName ∈ TT ∧ Cond.initialized "java/lang/System" ∈ TT := ⟨mem_TT (by decide +kernel) rfl, mem_TT (by decide +kernel) rfl, mem_TT (by decide +kernel) rfl⟩
theorem clnW : Cond.sameMethod "[I" "java/lang/Object" "clone" "()Ljava/lang/Object;" ∈ TT ∧ Cond.native cloneY ∈ TT ∧ Cond.instanceMethod cloneY ∈ TT ∧ Cond.selects "[I" cloneA cloneY ∈ TT := ⟨mem_TT (by decide +kernel) rfl, mem_TT (by decide +kernel) rfl, mem_TT (by decide +kernel) rfl, mem_TT (by decide +kernel) rfl⟩
theorem strW : Cond.fieldLink (On 16) 15 "java/lang/String" "coder" "B" ∈ TT ∧ Cond.fieldLink (On 16) 9 "java/lang/String" "value" "[B" ∈ TT ∧ Cond.fieldLink (On 16) 38 "java/lang/String" "COMPACT_STRINGS" "Z" ∈ TT ∧ Cond.fieldLink (On 16) 1053 "jdk/internal/util/Preconditions" "SIOOBE_FORMATTER" "Ljava/util/function/BiFunction;" ∈ TT := ⟨mem_TT (by decide +kernel) rfl, mem_TT (by decide +kernel) rfl, mem_TT (by decide +kernel) rfl, mem_TT (by decide +kernel) rfl⟩
section STEP
variable {p : Program} {l : Launch} {e : Env} {R : Room} {s : State} {m : MethodId} {args : Array Value} {below : List Frame} {meth : Method} {c : Code} {Q : State → Prop}
variable {cc : ByteArray} {co nL : Nat} {H0 : Heap} {b Ln : Nat} {sa : Nat → Option Nat} {xs : Nat → Int32} {D : va_G} {cT : FieldType → ClassId} {n0 s0 : Nat} {ini : Bool} {pc : Nat} {lo : List (Option Value)} {t st : List Value} {w : Om}
theorem st_copy {x a0 a n0' n1' : Nat} {sp dp n : Int32} (C : Ct p R s m args meth c cc co nL H0 b Ln xs sa D cT ini) (hd : decode cc pc = .ok (.invokestatic x, 3)) (hml : (x, 1001) ∈ MLK co) (hk0 : oH w a0 = .inl (.int, n0')) (hk1 : oH w a = .inl (.int, n1')) (h1 : ¬ sp < 0) (h2 : ¬ dp < 0) (h3 : ¬ n < 0) (h4 : sp.toNatClampNeg + n.toNatClampNeg ≤ n0') (h5 : dp.toNatClampNeg + n.toNatClampNeg ≤ n1') (hcat : catS t ≤ 8)
    (g : Gd p l e R s m args below meth c nL H0 b sa D cT n0 s0 Q (pc + 3, lo, t, (oN w, oS w, oH w, upr (oI w) a (cpy (oI w a0) (oI w a) sp.toNatClampNeg dp.toNatClampNeg n.toNatClampNeg), oL w, oP w))) : Gd p l e R s m args below meth c nL H0 b sa D cT n0 s0 Q (pc, lo, .int n :: .int dp :: .ref a :: .int sp :: .ref a0 :: t, w) := by
  intro H locs ls hW hL hq
  obtain ⟨hx, hb, hmx, hown, hts, hC, hR1, hR2, -⟩ := C
  obtain ⟨-, hty, hc0⟩ := hW.arr hk0
  obtain ⟨-, -, hc1⟩ := hW.arr hk1
  have hA := (hC.1.2.1 _ hty).1
  refine copyI (f := oI w a0) (g := oI w a) hx hb (hmx.trans hL.2.1.symm) hown (hts _ (mem_TT (mlk_ok co _ hml) rfl)) (hts _ cpyW.1) (hts _ cpyW.2.1) (hts _ cpyW.2.2) hc0 hc1 hA hA h1 h2 h3 h4 h5 hR1 (by
    rw [cvv_catS]
    have : nativeFrameWords "java/lang/System" "arraycopy" 5 ≤ 40 := by decide
    omega) hd fun H1 locs1 e1 z oq hl1 => g H1 locs1 ls ?_ hL (fun z hz => (hl1 z hz).elim (hq z) (fun h => by rw [h]; exact Nat.le_add_right _ _))
  have hne : ∀ {k' : Nat}, k' ≠ a → ∀ (ty : FieldType) (j : Nat), vOf (oN w, oS w, oH w, upr (oI w) a (cpy (oI w a0) (oI w a) sp.toNatClampNeg dp.toNatClampNeg n.toNatClampNeg), oL w, oP w) k' ty j = vOf w k' ty j := by
    intro k' hk' ty j
    have hs : ∀ (f : Nat → Nat → Int32) (g : Nat → Int32), upr f a g k' j = f k' j := fun f g => by simp [upr, hk']
    cases ty <;> first | rfl | exact congrArg Value.int (hs _ _)
  refine hW.upd (k := a) rfl rfl (fun k' hk' ty j => hne hk' ty j) z oq ?_
  unfold cellAt
  rw [show oH (oN w, oS w, oH w, upr (oI w) a (cpy (oI w a0) (oI w a) sp.toNatClampNeg dp.toNatClampNeg n.toNatClampNeg), oL w, oP w) a = .inl (.int, n1') from hk1]
  refine ⟨hty, ?_⟩
  rw [e1]
  congr 2
  funext j
  exact congrArg Value.int (show _ = upr (oI w) a _ a j by simp [upr]; rfl)
theorem st_clone {x a n : Nat} (C : Ct p R s m args meth c cc co nL H0 b Ln xs sa D cT ini) (hd : decode cc pc = .ok (.invokevirtual x, 3)) (hml : (x, 1002) ∈ MLK co) (hk : oH w a = .inl (.int, n)) (hcat : catS t ≤ 8) (hn0 : n0 ≤ oN w) (hs0 : s0 ≤ oS w) (hr1 : oN w + 1 - n0 ≤ R.cells) (hr2 : oS w + n - s0 ≤ R.slots)
    (g : Gd p l e R s m args below meth c nL H0 b sa D cT n0 s0 Q (pc + 3, lo, .ref (oN w) :: t, (oN w + 1, oS w + n, up1 (oH w) (oN w) (.inl (.int, n)), upr (oI w) (oN w) (oI w a), upr (oL w) (oN w) (fun _ => 0), upr (oP w) (oN w) (fun _ => none)))) : Gd p l e R s m args below meth c nL H0 b sa D cT n0 s0 Q (pc, lo, .ref a :: t, w) := by
  intro H locs ls hW hL hq
  obtain ⟨hx, hb, hmx, hown, hts, hC, hR1, hR2, -⟩ := C
  obtain ⟨-, hty, hc⟩ := hW.arr hk
  have hA := (hC.1.2.1 _ hty).1
  have hnm : s.vm.findClass "[I" = some (cT .int) := ra_prim (fun C0 z => by cases z) (hC.1.2.1 _ hty).2
  rw [cnt1 (y := 0) hn0] at hr1
  rw [cnt1 (y := 0) hs0] at hr2
  refine cloneI (f := oI w a) hx hb (hmx.trans hL.2.1.symm) hown (hts _ (mem_TT (mlk_ok co _ hml) rfl)) (hts _ clnW.1) (hts _ clnW.2.1) (hts _ clnW.2.2.1) (hts _ clnW.2.2.2) (va_Nw.use rfl hC.1.2.2.2.2) hc hA hnm hR1 (by rw [cvv_catS]; omega) hr1 hr2 hd fun H1 e1 z1 o1 => ?_
  have hWn : Wd H0 b sa D cT (oN w + 1, oS w + n, up1 (oH w) (oN w) (.inl (.int, n)), upr (oI w) (oN w) (oI w a), upr (oL w) (oN w) (fun _ => 0), upr (oP w) (oN w) (fun _ => none)) H1 := by
    refine hW.new rfl (fun k' hk' => if_neg hk') (fun k' hk' ty j => ?_) z1 o1 ?_
    · have hs : ∀ {α : Type} (f : Nat → Nat → α) (g : Nat → α), upr f (oN w) g k' j = f k' j := fun f g => by simp [upr, hk']
      cases ty <;> first | exact congrArg Value.int (hs _ _) | exact congrArg Value.long (hs _ _) | exact congrArg rfv (hs _ _)
    · unfold cellAt
      rw [show oH (oN w + 1, oS w + n, up1 (oH w) (oN w) (.inl (.int, n)), upr (oI w) (oN w) (oI w a), upr (oL w) (oN w) (fun _ => 0), upr (oP w) (oN w) (fun _ => none)) (oN w) = .inl (.int, n) from if_pos rfl]
      refine ⟨hty, ?_⟩
      rw [← hW.1, e1]
      congr 2
      funext j
      exact congrArg Value.int (show _ = upr (oI w) (oN w) _ (oN w) j by simp [upr])
  have hg := g H1 locs ls hWn hL hq
  rw [show oN (oN w + 1, oS w + n, up1 (oH w) (oN w) (.inl (.int, n)), upr (oI w) (oN w) (oI w a), upr (oL w) (oN w) (fun _ => (0 : Int64)), upr (oP w) (oN w) (fun _ => none)) - n0 = (oN w - n0) + 1 from cnt1 (y := 0) hn0, show oS (oN w + 1, oS w + n, up1 (oH w) (oN w) (.inl (.int, n)), upr (oI w) (oN w) (oI w a), upr (oL w) (oN w) (fun _ => (0 : Int64)), upr (oP w) (oN w) (fun _ => none)) - s0 = (oS w - s0) + n from cnt1 (y := 0) hs0] at hg
  rw [hW.1]
  exact hg
set_option maxHeartbeats 8000000 in
theorem stp {rt : Option FieldType} {call : Call} {i : Instr} {len a bb d : Nat} {v : Value} {q : Cfg} (C : Ct p R s m args meth c cc co nL H0 b Ln xs sa D cT ini) (hcall : CallOK l H0 b sa Ln xs D cT d call) (hRd : d + 1 ≤ R.frames ∧ 64 * (d + 1) ≤ R.locals) (hd : decode cc pc = .ok (i, len)) (hok : okE co ini (pc, i, len, a, bb, v) = true)
    (hex : exec1 rt xs Ln call (pc, i, len, a, bb, v) lo st w = some (.inl q)) (hn0 : n0 ≤ oN w) (hs0 : s0 ≤ oS w) :
    (oN w ≤ oN q.2.2.2 ∧ oS w ≤ oS q.2.2.2) ∧ (oN q.2.2.2 - n0 ≤ R.cells → oS q.2.2.2 - s0 ≤ R.slots → Gd p l e R s m args below meth c nL H0 b sa D cT n0 s0 Q q → Gd p l e R s m args below meth c nL H0 b sa D cT n0 s0 Q (pc, lo, st, w)) := by
  have C' := C
  obtain ⟨hx, hb, hmx, hown, hts, hC, hR1, hR2, hin⟩ := C'
  cases i with
  | iconst n =>
    simp only [exec1] at hex
    have hq := go1_s hex
    subst hq
    simp only [okE, Bool.and_eq_true, decide_eq_true_eq] at hok
    obtain ⟨h1, h2⟩ := hok
    have h1 := Nat.eq_of_beq_eq_true h1
    subst h1
    subst h2
    exact ⟨⟨Nat.le_refl _, Nat.le_refl _⟩, fun _ _ g H locs ls hW hL hq => lv_iconst hx hb hd rfl (g H locs ls hW hL hq)⟩
  | bipush n =>
    simp only [exec1] at hex
    have hq := go1_s hex
    subst hq
    simp only [okE, Bool.and_eq_true, decide_eq_true_eq] at hok
    obtain ⟨h1, h2⟩ := hok
    have h1 := Nat.eq_of_beq_eq_true h1
    subst h1
    subst h2
    exact ⟨⟨Nat.le_refl _, Nat.le_refl _⟩, fun _ _ g H locs ls hW hL hq => lv_bipush hx hb hd rfl (g H locs ls hW hL hq)⟩
  | sipush n =>
    simp only [exec1] at hex
    have hq := go1_s hex
    subst hq
    simp only [okE, Bool.and_eq_true, decide_eq_true_eq] at hok
    obtain ⟨h1, h2⟩ := hok
    have h1 := Nat.eq_of_beq_eq_true h1
    subst h1
    subst h2
    exact ⟨⟨Nat.le_refl _, Nat.le_refl _⟩, fun _ _ g H locs ls hW hL hq => lv_sipush hx hb hd rfl (g H locs ls hW hL hq)⟩
  | lconst n =>
    simp only [exec1] at hex
    have hq := go1_s hex
    subst hq
    simp only [okE, Bool.and_eq_true, decide_eq_true_eq] at hok
    obtain ⟨h1, h2⟩ := hok
    have h1 := Nat.eq_of_beq_eq_true h1
    subst h1
    subst h2
    exact ⟨⟨Nat.le_refl _, Nat.le_refl _⟩, fun _ _ g H locs ls hW hL hq => lv_lconst hx hb hd rfl (g H locs ls hW hL hq)⟩
  | aconst_null =>
    simp only [exec1] at hex
    have hq := go1_s hex
    subst hq
    simp only [okE, Bool.and_eq_true, decide_eq_true_eq] at hok
    obtain ⟨h1, h2⟩ := hok
    have h1 := Nat.eq_of_beq_eq_true h1
    subst h1
    subst h2
    exact ⟨⟨Nat.le_refl _, Nat.le_refl _⟩, fun _ _ g H locs ls hW hL hq => lv_null hx hb hd (g H locs ls hW hL hq)⟩
  | ldc_w x =>
    simp only [exec1] at hex
    have hq := go1_s hex
    subst hq
    simp only [okE, Bool.and_eq_true] at hok
    obtain ⟨⟨h1, h2⟩, h3⟩ := hok
    have h1 := Nat.eq_of_beq_eq_true h1
    subst h1
    have h2 := hts _ (mem_TT (ck_ok co _ (memV_s h2)) (by cases v <;> first | rfl | cases h3))
    cases v with
    | int z => exact ⟨⟨Nat.le_refl _, Nat.le_refl _⟩, fun _ _ g H locs ls hW hL hq => lv_ldcw hx hb hown h2 hd (g H locs ls hW hL hq)⟩
    | _ => cases h3
  | ldc2_w x =>
    simp only [exec1] at hex
    have hq := go1_s hex
    subst hq
    simp only [okE, Bool.and_eq_true] at hok
    obtain ⟨⟨h1, h2⟩, h3⟩ := hok
    have h1 := Nat.eq_of_beq_eq_true h1
    subst h1
    have h2 := hts _ (mem_TT (ck_ok co _ (memV_s h2)) (by cases v <;> first | rfl | cases h3))
    cases v with
    | long z => exact ⟨⟨Nat.le_refl _, Nat.le_refl _⟩, fun _ _ g H locs ls hW hL hq => lv_ldc2 hx hb hown h2 hd (g H locs ls hW hL hq)⟩
    | _ => cases h3
  | ldc x =>
    simp only [exec1] at hex
    have hq := go1_s hex
    subst hq
    cases v with
    | int z =>
      simp only [okE, Bool.and_eq_true] at hok
      obtain ⟨h1, h3⟩ := hok
      have h1 := Nat.eq_of_beq_eq_true h1
      subst h1
      have h2 := hts _ (mem_TT (ck_ok co _ (memV_s h3)) rfl)
      exact ⟨⟨Nat.le_refl _, Nat.le_refl _⟩, fun _ _ g H locs ls hW hL hq => lv_ldc hx hb hown h2 hd (g H locs ls hW hL hq)⟩
    | retAddr k =>
      rcases k with _ | _ | k
      · simp [okE] at hok
      · simp only [okE, Bool.and_eq_true] at hok
        obtain ⟨h1, h3, h4⟩ := hok
        have h1 := Nat.eq_of_beq_eq_true h1
        have h3 := Nat.eq_of_beq_eq_true h3
        have h4 := Nat.eq_of_beq_eq_true h4
        subst h1
        subst h3
        subst h4
        obtain ⟨q9, v9, s1, s2, s3, -⟩ := hC.2.2.2
        refine ⟨⟨Nat.le_refl _, Nat.le_refl _⟩, fun _ _ g H locs ls hW hL hq => ?_⟩
        have hg := g H locs ls hW hL hq
        simp only [List.map_cons, cvv, s1, va_rf] at hg
        exact va_ldcS hx hb hown s3 hd hg
      · simp [okE] at hok
    | _ => simp [okE] at hok
  | iload_n i =>
    simp only [exec1] at hex
    have h1 := Nat.eq_of_beq_eq_true (show Nat.beq len 1 = true from hok)
    subst h1
    split at hex
    · rename_i z hz
      have hq := go1_s hex
      subst hq
      exact ⟨⟨Nat.le_refl _, Nat.le_refl _⟩, fun _ _ g H locs ls hW hL hq => lv_iload_n hx hb hd rfl (hL.get hz) (g H locs ls hW hL hq)⟩
    · cases hex
  | iload i =>
    simp only [exec1] at hex
    have h1 := Nat.eq_of_beq_eq_true (show Nat.beq len 2 = true from hok)
    subst h1
    split at hex
    · rename_i z hz
      have hq := go1_s hex
      subst hq
      exact ⟨⟨Nat.le_refl _, Nat.le_refl _⟩, fun _ _ g H locs ls hW hL hq => lv_iload hx hb hd (hL.get hz) (g H locs ls hW hL hq)⟩
    · cases hex
  | lload_n i =>
    simp only [exec1] at hex
    have h1 := Nat.eq_of_beq_eq_true (show Nat.beq len 1 = true from hok)
    subst h1
    split at hex
    · rename_i z hz
      have hq := go1_s hex
      subst hq
      exact ⟨⟨Nat.le_refl _, Nat.le_refl _⟩, fun _ _ g H locs ls hW hL hq => lv_lload_n hx hb hd rfl (hL.get hz) (g H locs ls hW hL hq)⟩
    · cases hex
  | lload i =>
    simp only [exec1] at hex
    have h1 := Nat.eq_of_beq_eq_true (show Nat.beq len 2 = true from hok)
    subst h1
    split at hex
    · rename_i z hz
      have hq := go1_s hex
      subst hq
      exact ⟨⟨Nat.le_refl _, Nat.le_refl _⟩, fun _ _ g H locs ls hW hL hq => lv_lload hx hb hd (hL.get hz) (g H locs ls hW hL hq)⟩
    · cases hex
  | aload_n i =>
    simp only [exec1] at hex
    have h1 := Nat.eq_of_beq_eq_true (show Nat.beq len 1 = true from hok)
    subst h1
    split at hex
    · rename_i z hz
      obtain ⟨hr, hex⟩ := ite_s hex
      have hq := go1_s hex
      subst hq
      refine ⟨⟨Nat.le_refl _, Nat.le_refl _⟩, fun _ _ g H locs ls hW hL hq => ?_⟩
      have hg := g H locs ls hW hL hq
      have hz := hL.get hz
      simp only [List.map_cons] at hg
      rcases isRf_cv (B := H0.size) (b := b) (sa := sa) hr with h9 | ⟨z9, h9⟩
      · rw [h9] at hz hg
        exact lv_aload_nN hx hb hd rfl hz hg
      · rw [h9] at hz hg
        exact lv_aload_n hx hb hd rfl hz hg
    · cases hex
  | aload i =>
    simp only [exec1] at hex
    have h1 := Nat.eq_of_beq_eq_true (show Nat.beq len 2 = true from hok)
    subst h1
    split at hex
    · rename_i z hz
      obtain ⟨hr, hex⟩ := ite_s hex
      have hq := go1_s hex
      subst hq
      refine ⟨⟨Nat.le_refl _, Nat.le_refl _⟩, fun _ _ g H locs ls hW hL hq => ?_⟩
      have hg := g H locs ls hW hL hq
      have hz := hL.get hz
      simp only [List.map_cons] at hg
      rcases isRf_cv (B := H0.size) (b := b) (sa := sa) hr with h9 | ⟨z9, h9⟩
      · rw [h9] at hz hg
        exact lv_aloadN hx hb hd hz hg
      · rw [h9] at hz hg
        exact lv_aload hx hb hd hz hg
    · cases hex
  | istore_n i =>
    simp only [exec1] at hex
    have h1 := Nat.eq_of_beq_eq_true (show Nat.beq len 1 = true from hok)
    subst h1
    have hex9 := pI1_s hex
    clear hex
    obtain ⟨z, t, rfl, hex⟩ := hex9
    obtain ⟨hi, hex⟩ := ite_s hex
    have hq := go1_s hex
    subst hq
    refine ⟨⟨Nat.le_refl _, Nat.le_refl _⟩, fun _ _ g H locs ls hW hL hq => ?_⟩
    have hi2 := hi
    rw [hL.1] at hi2
    exact lv_istore_n hx hb hd rfl hL.has hi2 rfl (fun ls' h' => g H locs ls' hW (hL.set1 hi2 h') hq)
  | istore i =>
    simp only [exec1] at hex
    have h1 := Nat.eq_of_beq_eq_true (show Nat.beq len 2 = true from hok)
    subst h1
    have hex9 := pI1_s hex
    clear hex
    obtain ⟨z, t, rfl, hex⟩ := hex9
    obtain ⟨hi, hex⟩ := ite_s hex
    have hq := go1_s hex
    subst hq
    refine ⟨⟨Nat.le_refl _, Nat.le_refl _⟩, fun _ _ g H locs ls hW hL hq => ?_⟩
    have hi2 := hi
    rw [hL.1] at hi2
    exact lv_istore hx hb hd hL.has hi2 rfl (fun ls' h' => g H locs ls' hW (hL.set1 hi2 h') hq)
  | lstore_n i =>
    simp only [exec1] at hex
    have h1 := Nat.eq_of_beq_eq_true (show Nat.beq len 1 = true from hok)
    subst h1
    have hex9 := pL1_s hex
    clear hex
    obtain ⟨z, t, rfl, hex⟩ := hex9
    obtain ⟨hi, hex⟩ := ite_s hex
    have hq := go1_s hex
    subst hq
    refine ⟨⟨Nat.le_refl _, Nat.le_refl _⟩, fun _ _ g H locs ls hW hL hq => ?_⟩
    have hi2 := hi
    rw [hL.1] at hi2
    exact lv_lstore_n hx hb hd rfl hL.has hi2 rfl (fun ls' h' => g H locs ls' hW (hL.set2 hi2 h') hq)
  | lstore i =>
    simp only [exec1] at hex
    have h1 := Nat.eq_of_beq_eq_true (show Nat.beq len 2 = true from hok)
    subst h1
    have hex9 := pL1_s hex
    clear hex
    obtain ⟨z, t, rfl, hex⟩ := hex9
    obtain ⟨hi, hex⟩ := ite_s hex
    have hq := go1_s hex
    subst hq
    refine ⟨⟨Nat.le_refl _, Nat.le_refl _⟩, fun _ _ g H locs ls hW hL hq => ?_⟩
    have hi2 := hi
    rw [hL.1] at hi2
    exact lv_lstore hx hb hd hL.has hi2 rfl (fun ls' h' => g H locs ls' hW (hL.set2 hi2 h') hq)
  | astore_n i =>
    simp only [exec1] at hex
    have h1 := Nat.eq_of_beq_eq_true (show Nat.beq len 1 = true from hok)
    subst h1
    have hex9 := pV1_s hex
    clear hex
    obtain ⟨z, t, rfl, hex⟩ := hex9
    obtain ⟨⟨hr, hi⟩, hex⟩ := ite_s hex
    have hq := go1_s hex
    subst hq
    refine ⟨⟨Nat.le_refl _, Nat.le_refl _⟩, fun _ _ g H locs ls hW hL hq => ?_⟩
    have hi2 := hi
    rw [hL.1] at hi2
    show W p l e R s m args below meth c H locs _ _ Q (F0 m pc ls (cvv H0.size b sa z :: t.map (cvv H0.size b sa)))
    rcases isRf_cv (B := H0.size) (b := b) (sa := sa) hr with h9 | ⟨z9, h9⟩
    · rw [h9]
      exact lv_astore_nN hx hb hd rfl hL.has hi2 rfl (fun ls' h' => g H locs ls' hW (hL.set1 hi2 (by rw [h9]; exact h')) hq)
    · rw [h9]
      exact lv_astore_n hx hb hd rfl hL.has hi2 rfl (fun ls' h' => g H locs ls' hW (hL.set1 hi2 (by rw [h9]; exact h')) hq)
  | astore i =>
    simp only [exec1] at hex
    have h1 := Nat.eq_of_beq_eq_true (show Nat.beq len 2 = true from hok)
    subst h1
    have hex9 := pV1_s hex
    clear hex
    obtain ⟨z, t, rfl, hex⟩ := hex9
    obtain ⟨⟨hr, hi⟩, hex⟩ := ite_s hex
    have hq := go1_s hex
    subst hq
    refine ⟨⟨Nat.le_refl _, Nat.le_refl _⟩, fun _ _ g H locs ls hW hL hq => ?_⟩
    have hi2 := hi
    rw [hL.1] at hi2
    show W p l e R s m args below meth c H locs _ _ Q (F0 m pc ls (cvv H0.size b sa z :: t.map (cvv H0.size b sa)))
    rcases isRf_cv (B := H0.size) (b := b) (sa := sa) hr with h9 | ⟨z9, h9⟩
    · rw [h9]
      exact lv_astoreN hx hb hd hL.has hi2 rfl (fun ls' h' => g H locs ls' hW (hL.set1 hi2 (by rw [h9]; exact h')) hq)
    · rw [h9]
      exact lv_astore hx hb hd hL.has hi2 rfl (fun ls' h' => g H locs ls' hW (hL.set1 hi2 (by rw [h9]; exact h')) hq)
  | iinc i n =>
    simp only [exec1] at hex
    simp only [okE, Bool.and_eq_true, decide_eq_true_eq] at hok
    obtain ⟨h1, h2⟩ := hok
    have h1 := Nat.eq_of_beq_eq_true h1
    subst h1
    subst h2
    split at hex
    · rename_i z d hz hd2
      cases hd2
      obtain ⟨hi, hex⟩ := ite_s hex
      have hq := go1_s hex
      subst hq
      refine ⟨⟨Nat.le_refl _, Nat.le_refl _⟩, fun _ _ g H locs ls hW hL hq => ?_⟩
      have hi2 := hi
      rw [hL.1] at hi2
      obtain ⟨kx, hkx⟩ := List.getElem?_of_mem (List.mem_map.mpr ⟨(i, .int z), (mem_al lo 0 i (.int z)).mpr ⟨Nat.zero_le _, lget_some hz⟩, rfl⟩ : (i, Value.int z) ∈ (al 0 lo).map (fun q => (q.1, cvv H0.size b sa q.2)))
      exact lv_iinc hx hb hd hL.has hkx rfl hi2 rfl (fun ls' h' => g H locs ls' hW (hL.set1 hi2 h') hq)
    · cases hex
  | iadd =>
    simp only [exec1] at hex
    have h1 := Nat.eq_of_beq_eq_true (show Nat.beq len 1 = true from hok)
    subst h1
    have hex9 := pI2_s hex
    clear hex
    obtain ⟨z, y, t, rfl, hex⟩ := hex9
    have hq := go1_s hex
    subst hq
    exact ⟨⟨Nat.le_refl _, Nat.le_refl _⟩, fun _ _ g H locs ls hW hL hq => lv_iadd hx hb hd (g H locs ls hW hL hq)⟩
  | isub =>
    simp only [exec1] at hex
    have h1 := Nat.eq_of_beq_eq_true (show Nat.beq len 1 = true from hok)
    subst h1
    have hex9 := pI2_s hex
    clear hex
    obtain ⟨z, y, t, rfl, hex⟩ := hex9
    have hq := go1_s hex
    subst hq
    exact ⟨⟨Nat.le_refl _, Nat.le_refl _⟩, fun _ _ g H locs ls hW hL hq => lv_isub hx hb hd (g H locs ls hW hL hq)⟩
  | imul =>
    simp only [exec1] at hex
    have h1 := Nat.eq_of_beq_eq_true (show Nat.beq len 1 = true from hok)
    subst h1
    have hex9 := pI2_s hex
    clear hex
    obtain ⟨z, y, t, rfl, hex⟩ := hex9
    have hq := go1_s hex
    subst hq
    exact ⟨⟨Nat.le_refl _, Nat.le_refl _⟩, fun _ _ g H locs ls hW hL hq => lv_imul hx hb hd (g H locs ls hW hL hq)⟩
  | iand =>
    simp only [exec1] at hex
    have h1 := Nat.eq_of_beq_eq_true (show Nat.beq len 1 = true from hok)
    subst h1
    have hex9 := pI2_s hex
    clear hex
    obtain ⟨z, y, t, rfl, hex⟩ := hex9
    have hq := go1_s hex
    subst hq
    exact ⟨⟨Nat.le_refl _, Nat.le_refl _⟩, fun _ _ g H locs ls hW hL hq => lv_iand hx hb hd (g H locs ls hW hL hq)⟩
  | ior =>
    simp only [exec1] at hex
    have h1 := Nat.eq_of_beq_eq_true (show Nat.beq len 1 = true from hok)
    subst h1
    have hex9 := pI2_s hex
    clear hex
    obtain ⟨z, y, t, rfl, hex⟩ := hex9
    have hq := go1_s hex
    subst hq
    exact ⟨⟨Nat.le_refl _, Nat.le_refl _⟩, fun _ _ g H locs ls hW hL hq => lv_ior hx hb hd (g H locs ls hW hL hq)⟩
  | ixor =>
    simp only [exec1] at hex
    have h1 := Nat.eq_of_beq_eq_true (show Nat.beq len 1 = true from hok)
    subst h1
    have hex9 := pI2_s hex
    clear hex
    obtain ⟨z, y, t, rfl, hex⟩ := hex9
    have hq := go1_s hex
    subst hq
    exact ⟨⟨Nat.le_refl _, Nat.le_refl _⟩, fun _ _ g H locs ls hW hL hq => lv_ixor hx hb hd (g H locs ls hW hL hq)⟩
  | ishl =>
    simp only [exec1] at hex
    have h1 := Nat.eq_of_beq_eq_true (show Nat.beq len 1 = true from hok)
    subst h1
    have hex9 := pI2_s hex
    clear hex
    obtain ⟨z, y, t, rfl, hex⟩ := hex9
    have hq := go1_s hex
    subst hq
    exact ⟨⟨Nat.le_refl _, Nat.le_refl _⟩, fun _ _ g H locs ls hW hL hq => lv_ishl hx hb hd (g H locs ls hW hL hq)⟩
  | ishr =>
    simp only [exec1] at hex
    have h1 := Nat.eq_of_beq_eq_true (show Nat.beq len 1 = true from hok)
    subst h1
    have hex9 := pI2_s hex
    clear hex
    obtain ⟨z, y, t, rfl, hex⟩ := hex9
    have hq := go1_s hex
    subst hq
    exact ⟨⟨Nat.le_refl _, Nat.le_refl _⟩, fun _ _ g H locs ls hW hL hq => lv_ishr hx hb hd (g H locs ls hW hL hq)⟩
  | iushr =>
    simp only [exec1] at hex
    have h1 := Nat.eq_of_beq_eq_true (show Nat.beq len 1 = true from hok)
    subst h1
    have hex9 := pI2_s hex
    clear hex
    obtain ⟨z, y, t, rfl, hex⟩ := hex9
    have hq := go1_s hex
    subst hq
    exact ⟨⟨Nat.le_refl _, Nat.le_refl _⟩, fun _ _ g H locs ls hW hL hq => lv_iushr hx hb hd rfl (g H locs ls hW hL hq)⟩
  | idiv =>
    simp only [exec1] at hex
    have h1 := Nat.eq_of_beq_eq_true (show Nat.beq len 1 = true from hok)
    subst h1
    have hex9 := pI2_s hex
    clear hex
    obtain ⟨z, y, t, rfl, hex⟩ := hex9
    split at hex
    · cases hex
    · rename_i hne
      have hq := go1_s hex
      subst hq
      exact ⟨⟨Nat.le_refl _, Nat.le_refl _⟩, fun _ _ g H locs ls hW hL hq => lv_idiv hx hb hd hne (g H locs ls hW hL hq)⟩
  | irem =>
    simp only [exec1] at hex
    have h1 := Nat.eq_of_beq_eq_true (show Nat.beq len 1 = true from hok)
    subst h1
    have hex9 := pI2_s hex
    clear hex
    obtain ⟨z, y, t, rfl, hex⟩ := hex9
    split at hex
    · cases hex
    · rename_i hne
      have hq := go1_s hex
      subst hq
      exact ⟨⟨Nat.le_refl _, Nat.le_refl _⟩, fun _ _ g H locs ls hW hL hq => lv_irem hx hb hd hne (g H locs ls hW hL hq)⟩
  | ldiv =>
    simp only [exec1] at hex
    have h1 := Nat.eq_of_beq_eq_true (show Nat.beq len 1 = true from hok)
    subst h1
    have hex9 := pL2_s hex
    clear hex
    obtain ⟨z, y, t, rfl, hex⟩ := hex9
    split at hex
    · cases hex
    · rename_i hne
      have hq := go1_s hex
      subst hq
      exact ⟨⟨Nat.le_refl _, Nat.le_refl _⟩, fun _ _ g H locs ls hW hL hq => lv_ldiv hx hb hd hne (g H locs ls hW hL hq)⟩
  | lrem =>
    simp only [exec1] at hex
    have h1 := Nat.eq_of_beq_eq_true (show Nat.beq len 1 = true from hok)
    subst h1
    have hex9 := pL2_s hex
    clear hex
    obtain ⟨z, y, t, rfl, hex⟩ := hex9
    split at hex
    · cases hex
    · rename_i hne
      have hq := go1_s hex
      subst hq
      exact ⟨⟨Nat.le_refl _, Nat.le_refl _⟩, fun _ _ g H locs ls hW hL hq => lv_lrem hx hb hd hne (g H locs ls hW hL hq)⟩
  | ladd =>
    simp only [exec1] at hex
    have h1 := Nat.eq_of_beq_eq_true (show Nat.beq len 1 = true from hok)
    subst h1
    have hex9 := pL2_s hex
    clear hex
    obtain ⟨z, y, t, rfl, hex⟩ := hex9
    have hq := go1_s hex
    subst hq
    exact ⟨⟨Nat.le_refl _, Nat.le_refl _⟩, fun _ _ g H locs ls hW hL hq => lv_ladd hx hb hd (g H locs ls hW hL hq)⟩
  | lsub =>
    simp only [exec1] at hex
    have h1 := Nat.eq_of_beq_eq_true (show Nat.beq len 1 = true from hok)
    subst h1
    have hex9 := pL2_s hex
    clear hex
    obtain ⟨z, y, t, rfl, hex⟩ := hex9
    have hq := go1_s hex
    subst hq
    exact ⟨⟨Nat.le_refl _, Nat.le_refl _⟩, fun _ _ g H locs ls hW hL hq => lv_lsub hx hb hd (g H locs ls hW hL hq)⟩
  | lmul =>
    simp only [exec1] at hex
    have h1 := Nat.eq_of_beq_eq_true (show Nat.beq len 1 = true from hok)
    subst h1
    have hex9 := pL2_s hex
    clear hex
    obtain ⟨z, y, t, rfl, hex⟩ := hex9
    have hq := go1_s hex
    subst hq
    exact ⟨⟨Nat.le_refl _, Nat.le_refl _⟩, fun _ _ g H locs ls hW hL hq => lv_lmul hx hb hd (g H locs ls hW hL hq)⟩
  | lcmp =>
    simp only [exec1] at hex
    have h1 := Nat.eq_of_beq_eq_true (show Nat.beq len 1 = true from hok)
    subst h1
    have hex9 := pL2_s hex
    clear hex
    obtain ⟨z, y, t, rfl, hex⟩ := hex9
    have hq := go1_s hex
    subst hq
    exact ⟨⟨Nat.le_refl _, Nat.le_refl _⟩, fun _ _ g H locs ls hW hL hq => W.lcmp hx hb hd (g H locs ls hW hL hq)⟩
  | ineg =>
    simp only [exec1] at hex
    have h1 := Nat.eq_of_beq_eq_true (show Nat.beq len 1 = true from hok)
    subst h1
    have hex9 := pI1_s hex
    clear hex
    obtain ⟨z, t, rfl, hex⟩ := hex9
    have hq := go1_s hex
    subst hq
    exact ⟨⟨Nat.le_refl _, Nat.le_refl _⟩, fun _ _ g H locs ls hW hL hq => lv_ineg hx hb hd (g H locs ls hW hL hq)⟩
  | i2l =>
    simp only [exec1] at hex
    have h1 := Nat.eq_of_beq_eq_true (show Nat.beq len 1 = true from hok)
    subst h1
    have hex9 := pI1_s hex
    clear hex
    obtain ⟨z, t, rfl, hex⟩ := hex9
    have hq := go1_s hex
    subst hq
    exact ⟨⟨Nat.le_refl _, Nat.le_refl _⟩, fun _ _ g H locs ls hW hL hq => lv_i2l hx hb hd rfl (g H locs ls hW hL hq)⟩
  | l2i =>
    simp only [exec1] at hex
    have h1 := Nat.eq_of_beq_eq_true (show Nat.beq len 1 = true from hok)
    subst h1
    have hex9 := pL1_s hex
    clear hex
    obtain ⟨z, t, rfl, hex⟩ := hex9
    have hq := go1_s hex
    subst hq
    exact ⟨⟨Nat.le_refl _, Nat.le_refl _⟩, fun _ _ g H locs ls hW hL hq => lv_l2i hx hb hd rfl (g H locs ls hW hL hq)⟩
  | i2b =>
    simp only [exec1] at hex
    have h1 := Nat.eq_of_beq_eq_true (show Nat.beq len 1 = true from hok)
    subst h1
    have hex9 := pI1_s hex
    clear hex
    obtain ⟨z, t, rfl, hex⟩ := hex9
    have hq := go1_s hex
    subst hq
    exact ⟨⟨Nat.le_refl _, Nat.le_refl _⟩, fun _ _ g H locs ls hW hL hq => lv_i2b hx hb hd rfl (g H locs ls hW hL hq)⟩
  | dup =>
    simp only [exec1] at hex
    have h1 := Nat.eq_of_beq_eq_true (show Nat.beq len 1 = true from hok)
    subst h1
    have hex9 := pV1_s hex
    clear hex
    obtain ⟨z, t, rfl, hex⟩ := hex9
    obtain ⟨hc, hex⟩ := ite_s hex
    have hq := go1_s hex
    subst hq
    exact ⟨⟨Nat.le_refl _, Nat.le_refl _⟩, fun _ _ g H locs ls hW hL hq => lv_dup hx hb hd ((cvv_cat _ _ _ _).trans hc) (g H locs ls hW hL hq)⟩
  | dup2 =>
    simp only [exec1] at hex
    have h1 := Nat.eq_of_beq_eq_true (show Nat.beq len 1 = true from hok)
    subst h1
    have hex9 := pV1_s hex
    clear hex
    obtain ⟨z, t, rfl, hex⟩ := hex9
    split at hex
    · rename_i hc
      have hq := go1_s hex
      subst hq
      exact ⟨⟨Nat.le_refl _, Nat.le_refl _⟩, fun _ _ g H locs ls hW hL hq => lv_dup2_2 hx hb hd ((cvv_cat _ _ _ _).trans hc) (g H locs ls hW hL hq)⟩
    · have hex9 := pV1_s hex
      clear hex
      obtain ⟨z2, t2, rfl, hex⟩ := hex9
      obtain ⟨⟨hc1, hc2⟩, hex⟩ := ite_s hex
      have hq := go1_s hex
      subst hq
      exact ⟨⟨Nat.le_refl _, Nat.le_refl _⟩, fun _ _ g H locs ls hW hL hq => lv_dup2_11 hx hb hd ((cvv_cat _ _ _ _).trans hc2) ((cvv_cat _ _ _ _).trans hc1) (g H locs ls hW hL hq)⟩
  | ifCond cd off =>
    simp only [exec1] at hex
    simp only [okE, Bool.and_eq_true, decide_eq_true_eq] at hok
    obtain ⟨h1, h2⟩ := hok
    have h1 := Nat.eq_of_beq_eq_true h1
    subst h1
    have hex9 := pI1_s hex
    clear hex
    obtain ⟨z, t, rfl, hex⟩ := hex9
    have hT : cndB cd z 0 = true → q = (a, lo, t, w) := fun hc => by
      rw [if_pos hc] at hex
      exact go1_s hex
    have hF : ¬ cndB cd z 0 = true → q = (pc + 3, lo, t, w) := fun hc => by
      rw [if_neg hc] at hex
      exact go1_s hex
    have hqq : oN q.2.2.2 = oN w ∧ oS q.2.2.2 = oS w := by
      by_cases hc : cndB cd z 0 = true
      · rw [hT hc]; exact ⟨rfl, rfl⟩
      · rw [hF hc]; exact ⟨rfl, rfl⟩
    refine ⟨⟨Nat.le_of_eq hqq.1.symm, Nat.le_of_eq hqq.2.symm⟩, fun _ _ g H locs ls hW hL hq => ?_⟩
    cases cd
    · exact lv_if_eq hx hb hd h2 (fun h => by rw [hT (by simp [cndB, h])] at g; exact g H locs ls hW hL hq) (fun h => by rw [hF (by simp [cndB, h])] at g; exact g H locs ls hW hL hq)
    · exact lv_if_ne hx hb hd h2 (fun h => by rw [hT (by simp [cndB, h])] at g; exact g H locs ls hW hL hq) (fun h => by rw [hF (by simp [cndB, h])] at g; exact g H locs ls hW hL hq)
    · exact lv_if_lt hx hb hd h2 (fun h => by rw [hT (decide_eq_true h)] at g; exact g H locs ls hW hL hq) (fun h => by rw [hF (fun z9 => h (of_decide_eq_true z9))] at g; exact g H locs ls hW hL hq)
    · exact lv_if_ge hx hb hd h2 (fun h => by rw [hT (decide_eq_true h)] at g; exact g H locs ls hW hL hq) (fun h => by rw [hF (fun z9 => h (of_decide_eq_true z9))] at g; exact g H locs ls hW hL hq)
    · exact lv_if_gt hx hb hd h2 (fun h => by rw [hT (decide_eq_true h)] at g; exact g H locs ls hW hL hq) (fun h => by rw [hF (fun z9 => h (of_decide_eq_true z9))] at g; exact g H locs ls hW hL hq)
    · exact lv_if_le hx hb hd h2 (fun h => by rw [hT (decide_eq_true h)] at g; exact g H locs ls hW hL hq) (fun h => by rw [hF (fun z9 => h (of_decide_eq_true z9))] at g; exact g H locs ls hW hL hq)
  | if_icmp cd off =>
    simp only [exec1] at hex
    simp only [okE, Bool.and_eq_true, decide_eq_true_eq] at hok
    obtain ⟨h1, h2⟩ := hok
    have h1 := Nat.eq_of_beq_eq_true h1
    subst h1
    have hex9 := pI2_s hex
    clear hex
    obtain ⟨z, y, t, rfl, hex⟩ := hex9
    have hT : cndB cd z y = true → q = (a, lo, t, w) := fun hc => by
      rw [if_pos hc] at hex
      exact go1_s hex
    have hF : ¬ cndB cd z y = true → q = (pc + 3, lo, t, w) := fun hc => by
      rw [if_neg hc] at hex
      exact go1_s hex
    have hqq : oN q.2.2.2 = oN w ∧ oS q.2.2.2 = oS w := by
      by_cases hc : cndB cd z y = true
      · rw [hT hc]; exact ⟨rfl, rfl⟩
      · rw [hF hc]; exact ⟨rfl, rfl⟩
    refine ⟨⟨Nat.le_of_eq hqq.1.symm, Nat.le_of_eq hqq.2.symm⟩, fun _ _ g H locs ls hW hL hq => ?_⟩
    cases cd
    · exact lv_icmp_eq hx hb hd h2 (fun h => by rw [hT (by simp [cndB, h])] at g; exact g H locs ls hW hL hq) (fun h => by rw [hF (by simp [cndB, h])] at g; exact g H locs ls hW hL hq)
    · exact lv_icmp_ne hx hb hd h2 (fun h => by rw [hT (by simp [cndB, h])] at g; exact g H locs ls hW hL hq) (fun h => by rw [hF (by simp [cndB, h])] at g; exact g H locs ls hW hL hq)
    · exact lv_icmp_lt hx hb hd h2 (fun h => by rw [hT (decide_eq_true h)] at g; exact g H locs ls hW hL hq) (fun h => by rw [hF (fun z9 => h (of_decide_eq_true z9))] at g; exact g H locs ls hW hL hq)
    · exact lv_icmp_ge hx hb hd h2 (fun h => by rw [hT (decide_eq_true h)] at g; exact g H locs ls hW hL hq) (fun h => by rw [hF (fun z9 => h (of_decide_eq_true z9))] at g; exact g H locs ls hW hL hq)
    · exact lv_icmp_gt hx hb hd h2 (fun h => by rw [hT (decide_eq_true h)] at g; exact g H locs ls hW hL hq) (fun h => by rw [hF (fun z9 => h (of_decide_eq_true z9))] at g; exact g H locs ls hW hL hq)
    · exact lv_icmp_le hx hb hd h2 (fun h => by rw [hT (decide_eq_true h)] at g; exact g H locs ls hW hL hq) (fun h => by rw [hF (fun z9 => h (of_decide_eq_true z9))] at g; exact g H locs ls hW hL hq)
  | goto off =>
    simp only [exec1] at hex
    have hq := go1_s hex
    subst hq
    simp only [okE, Bool.and_eq_true, decide_eq_true_eq] at hok
    obtain ⟨h1, h2⟩ := hok
    have h1 := Nat.eq_of_beq_eq_true h1
    subst h1
    exact ⟨⟨Nat.le_refl _, Nat.le_refl _⟩, fun _ _ g H locs ls hW hL hq => lv_goto hx hb hd h2 (g H locs ls hW hL hq)⟩
  | ifnull off =>
    simp only [exec1] at hex
    simp only [okE, Bool.and_eq_true, decide_eq_true_eq] at hok
    obtain ⟨h1, h2⟩ := hok
    have h1 := Nat.eq_of_beq_eq_true h1
    subst h1
    split at hex
    · have hq := go1_s hex
      subst hq
      exact ⟨⟨Nat.le_refl _, Nat.le_refl _⟩, fun _ _ g H locs ls hW hL hq => lv_ifnullN hx hb hd h2 (g H locs ls hW hL hq)⟩
    · have hq := go1_s hex
      subst hq
      exact ⟨⟨Nat.le_refl _, Nat.le_refl _⟩, fun _ _ g H locs ls hW hL hq => lv_ifnull hx hb hd (g H locs ls hW hL hq)⟩
    · cases hex
  | ifnonnull off =>
    simp only [exec1] at hex
    simp only [okE, Bool.and_eq_true, decide_eq_true_eq] at hok
    obtain ⟨h1, h2⟩ := hok
    have h1 := Nat.eq_of_beq_eq_true h1
    subst h1
    split at hex
    · have hq := go1_s hex
      subst hq
      exact ⟨⟨Nat.le_refl _, Nat.le_refl _⟩, fun _ _ g H locs ls hW hL hq => lv_ifnonnullN hx hb hd (g H locs ls hW hL hq)⟩
    · have hq := go1_s hex
      subst hq
      exact ⟨⟨Nat.le_refl _, Nat.le_refl _⟩, fun _ _ g H locs ls hW hL hq => lv_ifnonnull hx hb hd h2 (g H locs ls hW hL hq)⟩
    · cases hex
  | tableswitch df low hig offs =>
    simp only [exec1] at hex
    simp only [okE, decide_eq_true_eq] at hok
    have hex9 := pI1_s hex
    clear hex
    obtain ⟨z, t, rfl, hex⟩ := hex9
    split at hex
    · rename_i hout
      have hq := go1_s hex
      subst hq
      exact ⟨⟨Nat.le_refl _, Nat.le_refl _⟩, fun _ _ g H locs ls hW hL hq => lv_tableOut hx hb hd hout hok (g H locs ls hW hL hq)⟩
    · rename_i hout
      split at hex
      · rename_i off hoff
        obtain ⟨hge, hex⟩ := ite_s hex
        have hq := go1_s hex
        subst hq
        exact ⟨⟨Nat.le_refl _, Nat.le_refl _⟩, fun _ _ g H locs ls hW hL hq => lv_tableIn hx hb hd (fun z => hout (Or.inl z)) (fun z => hout (Or.inr z)) hoff (Int.toNat_of_nonneg hge).symm (g H locs ls hW hL hq)⟩
      · cases hex
  | getfield x =>
    simp only [exec1] at hex
    simp only [okE, Bool.and_eq_true, Bool.or_eq_true] at hok
    obtain ⟨h1, h2⟩ := hok
    have h1 := Nat.eq_of_beq_eq_true h1
    subst h1
    have hex9 := pV1_s hex
    clear hex
    obtain ⟨u, t, rfl, hex⟩ := hex9
    split at hex
    · obtain ⟨hk, hex⟩ := ite_s hex
      have hq := go1_s hex
      subst hq
      rcases h2 with h2 | ⟨⟨h2, -⟩, -⟩
      · exact ⟨⟨Nat.le_refl _, Nat.le_refl _⟩, fun _ _ g => st_get C hd (mem3_s h2) hk g⟩
      · have h3 := Nat.eq_of_beq_eq_true h2
        have h4 := (isObj_s hk).1
        exact absurd h4 (by omega)
    · obtain ⟨q9, v9, s1, s2, s3, s4, s5, s6, s7, s8, s9⟩ := hC.2.2.2
      have h90 : a = 90 → co = 16 ∧ ((x = 15 ∧ bb = 0) ∨ (x = 9 ∧ bb = 1)) := fun h9 => by
        rcases h2 with h2 | ⟨⟨-, h2⟩, h3⟩
        · have h4 := (flk_ok co _ (mem3_s h2)).2.1
          dsimp only at h4
          omega
        · refine ⟨Nat.eq_of_beq_eq_true h2, ?_⟩
          rcases h3 with h3 | h3
          · exact Or.inl ⟨Nat.eq_of_beq_eq_true h3.1, Nat.eq_of_beq_eq_true h3.2⟩
          · exact Or.inr ⟨Nat.eq_of_beq_eq_true h3.1, Nat.eq_of_beq_eq_true h3.2⟩
      split at hex
      · rename_i hab
        have hq := go1_s hex
        subst hq
        obtain ⟨hco, hxb⟩ := h90 hab.1
        have hx15 : x = 15 := by
          rcases hxb with h | h
          · exact h.1
          · omega
        subst hco
        subst hx15
        refine ⟨⟨Nat.le_refl _, Nat.le_refl _⟩, fun _ _ g H locs ls hW hL hq => ?_⟩
        obtain ⟨cf, k9, i9, f9, cell, f1, f2, f3, f4, f5, -⟩ := s5
        show W p l e R s m args below meth c H locs _ _ Q (F0 m pc ls (va_rf (sa 0) :: t.map (cvv H0.size b sa)))
        rw [s1]
        exact W.getf hx hb hown (hts _ strW.1) f1 f2 ((hW.2.1 _ (Array.getElem?_eq_some_iff.mp f3).1).trans f3) f4 f5 rfl rfl hd (g H locs ls hW hL hq)
      · split at hex
        · rename_i hab
          have hq := go1_s hex
          subst hq
          obtain ⟨hco, hxb⟩ := h90 hab.1
          have hx15 : x = 9 := by
            rcases hxb with h | h
            · omega
            · exact h.1
          subst hco
          subst hx15
          refine ⟨⟨Nat.le_refl _, Nat.le_refl _⟩, fun _ _ g H locs ls hW hL hq => ?_⟩
          obtain ⟨cf, k9, i9, f9, cell, f1, f2, f3, f4, f5, -⟩ := s6
          have hg := g H locs ls hW hL hq
          simp only [List.map_cons, cvv, s2, va_rf] at hg
          show W p l e R s m args below meth c H locs _ _ Q (F0 m pc ls (va_rf (sa 0) :: t.map (cvv H0.size b sa)))
          rw [s1]
          exact W.getf hx hb hown (hts _ strW.2.1) f1 f2 ((hW.2.1 _ (Array.getElem?_eq_some_iff.mp f3).1).trans f3) f4 f5 rfl rfl hd hg
        · cases hex
    · cases hex
  | getstatic x =>
    simp only [exec1] at hex
    have hq := go1_s hex
    subst hq
    simp only [okE, Bool.and_eq_true, Bool.or_eq_true, decide_eq_true_eq] at hok
    obtain ⟨⟨h1, h2⟩, h3⟩ := hok
    have h1 := Nat.eq_of_beq_eq_true h1
    have h2 := Nat.eq_of_beq_eq_true h2
    subst h1
    subst h2
    obtain ⟨q9, v9, s1, s2, s3, s4, s5, s6, s7, s8, s9⟩ := hC.2.2.2
    rcases h3 with ⟨h3, h4⟩ | ⟨h3, h4⟩
    · have h3 := Nat.eq_of_beq_eq_true h3
      subst h3
      subst h4
      refine ⟨⟨Nat.le_refl _, Nat.le_refl _⟩, fun _ _ g H locs ls hW hL hq => ?_⟩
      obtain ⟨cf, kf, fi, f, a9, cell, f1, f2, f3, f4, f5, f6, f7, -⟩ := s8
      exact W.gets hx hb hown (hts _ strW.2.2.1) f1 f2 f3 f4 ((hW.2.1 _ (Array.getElem?_eq_some_iff.mp f5).1).trans f5) (fun z => by rw [z] at f6; cases f6) f7 rfl hd (g H locs ls hW hL hq)
    · have h3 := Nat.eq_of_beq_eq_true h3
      subst h3
      subst h4
      refine ⟨⟨Nat.le_refl _, Nat.le_refl _⟩, fun _ _ g H locs ls hW hL hq => ?_⟩
      obtain ⟨cf, kf, fi, f, a9, cell, f1, f2, f3, f4, f5, f6, f7, -⟩ := s9
      exact W.gets hx hb hown (hts _ strW.2.2.2) f1 f2 f3 f4 ((hW.2.1 _ (Array.getElem?_eq_some_iff.mp f5).1).trans f5) (fun z => by rw [z] at f6; cases f6) f7 rfl hd (g H locs ls hW hL hq)
  | i2c =>
    simp only [exec1] at hex
    have h1 := Nat.eq_of_beq_eq_true (show Nat.beq len 1 = true from hok)
    subst h1
    have hex9 := pI1_s hex
    clear hex
    obtain ⟨z, t, rfl, hex⟩ := hex9
    have hq := go1_s hex
    subst hq
    exact ⟨⟨Nat.le_refl _, Nat.le_refl _⟩, fun _ _ g H locs ls hW hL hq => lv_i2c hx hb hd rfl (g H locs ls hW hL hq)⟩
  | pop =>
    simp only [exec1] at hex
    have h1 := Nat.eq_of_beq_eq_true (show Nat.beq len 1 = true from hok)
    subst h1
    have hex9 := pV1_s hex
    clear hex
    obtain ⟨z, t, rfl, hex⟩ := hex9
    obtain ⟨hc, hex⟩ := ite_s hex
    have hq := go1_s hex
    subst hq
    exact ⟨⟨Nat.le_refl _, Nat.le_refl _⟩, fun _ _ g H locs ls hW hL hq => lv_pop hx hb hd ((cvv_cat _ _ _ _).trans hc) (g H locs ls hW hL hq)⟩
  | putfield x =>
    simp only [exec1] at hex
    simp only [okE, Bool.and_eq_true, Bool.or_eq_true] at hok
    obtain ⟨⟨h1, h2⟩, h3⟩ := hok
    have h1 := Nat.eq_of_beq_eq_true h1
    subst h1
    have hex9 := pV1_s hex
    clear hex
    obtain ⟨u, t, rfl, hex⟩ := hex9
    have hex9 := pR1_s hex
    clear hex
    obtain ⟨z, t2, rfl, hex⟩ := hex9
    obtain ⟨⟨hk, ho⟩, hex⟩ := ite_s hex
    split at hex
    · rename_i w' hw
      have hq := go1_s hex
      subst hq
      obtain ⟨w1, w2, w3⟩ := wV_shape hw
      exact ⟨⟨Nat.le_of_eq w1.symm, Nat.le_of_eq w2.symm⟩, fun _ _ g => st_put C hd (mem3_s h2) (h3.elim (fun h => Or.inl (by simpa using h)) (fun h => Or.inr ⟨h.1, Nat.eq_of_beq_eq_true h.2⟩)) hk ho hw g⟩
    · cases hex
  | iaload =>
    simp only [exec1] at hex
    have h1 := Nat.eq_of_beq_eq_true (show Nat.beq len 1 = true from hok)
    subst h1
    have hex9 := pI1_s hex
    clear hex
    obtain ⟨i, t, rfl, hex⟩ := hex9
    have hex9 := pV1_s hex
    clear hex
    obtain ⟨u, t2, rfl, hex⟩ := hex9
    split at hex
    · obtain ⟨ty, n, hk, hex⟩ := pA_s hex
      have hex9 := ite_s hex
      clear hex
      obtain ⟨⟨rfl, hi⟩, hex⟩ := hex9
      have hq := go1_s hex
      subst hq
      exact ⟨⟨Nat.le_refl _, Nat.le_refl _⟩, fun _ _ g => st_iald C hd hk hi g⟩
    · obtain ⟨hi, hex⟩ := ite_s hex
      have hq := go1_s hex
      subst hq
      refine ⟨⟨Nat.le_refl _, Nat.le_refl _⟩, fun _ _ g H locs ls hW hL hq => ?_⟩
      exact va_sld (A := fun z => H0.size ≤ z) (H0 := H0) hx hb hC.2.1 hC.2.2.1 (Nat.not_le.mpr hC.2.2.1) ⟨by rw [hW.1]; exact Nat.le_add_right _ _, fun z h9 _ => hW.2.1 z h9, hq⟩ hi hd (g H locs ls hW hL hq)
    · cases hex
  | baload =>
    simp only [exec1] at hex
    have h1 := Nat.eq_of_beq_eq_true (show Nat.beq len 1 = true from hok)
    subst h1
    have hex9 := pI1_s hex
    clear hex
    obtain ⟨i, t, rfl, hex⟩ := hex9
    have hex9 := pV1_s hex
    clear hex
    obtain ⟨u, t2, rfl, hex⟩ := hex9
    split at hex
    · obtain ⟨ty, n, hk, hex⟩ := pA_s hex
      obtain ⟨⟨hty, hi⟩, hex⟩ := ite_s hex
      have hq := go1_s hex
      subst hq
      rcases hty with rfl | rfl
      · exact ⟨⟨Nat.le_refl _, Nat.le_refl _⟩, fun _ _ g => st_bald C hd hk hi g⟩
      · exact ⟨⟨Nat.le_refl _, Nat.le_refl _⟩, fun _ _ g => st_zald C hd hk hi g⟩
    · obtain ⟨hi, hex⟩ := ite_s hex
      have hq := go1_s hex
      subst hq
      obtain ⟨q9, v9, s1, s2, s3, s4, s5, s6, s7, s8, s9⟩ := hC.2.2.2
      refine ⟨⟨Nat.le_refl _, Nat.le_refl _⟩, fun _ _ g H locs ls hW hL hq => ?_⟩
      obtain ⟨cell, f1, f2, f3, f4, f5, f6, -⟩ := s7
      show W p l e R s m args below meth c H locs _ _ Q (F0 m pc ls (.int i :: va_rf (sa 1) :: t2.map (cvv H0.size b sa)))
      rw [s2]
      have hlt : i.toNatClampNeg < 66 := Nat.not_le.mp fun z => hi (Or.inr z)
      exact W.bald hx hb ((hW.2.1 _ (Array.getElem?_eq_some_iff.mp f1).1).trans f1) f2 f3 (fun z => hi (z.elim Or.inl (fun z => Or.inr (Nat.le_trans f4 z)))) (f6 _ hlt) rfl rfl hd (g H locs ls hW hL hq)
    · cases hex
  | laload =>
    simp only [exec1] at hex
    have h1 := Nat.eq_of_beq_eq_true (show Nat.beq len 1 = true from hok)
    subst h1
    have hex9 := pI1_s hex
    clear hex
    obtain ⟨i, t, rfl, hex⟩ := hex9
    have hex9 := pR1_s hex
    clear hex
    obtain ⟨z, t2, rfl, hex⟩ := hex9
    obtain ⟨ty, n, hk, hex⟩ := pA_s hex
    have hex9 := ite_s hex
    clear hex
    obtain ⟨⟨rfl, hi⟩, hex⟩ := hex9
    have hq := go1_s hex
    subst hq
    exact ⟨⟨Nat.le_refl _, Nat.le_refl _⟩, fun _ _ g => st_lald C hd hk hi g⟩
  | aaload =>
    simp only [exec1] at hex
    have h1 := Nat.eq_of_beq_eq_true (show Nat.beq len 1 = true from hok)
    subst h1
    have hex9 := pI1_s hex
    clear hex
    obtain ⟨i, t, rfl, hex⟩ := hex9
    have hex9 := pR1_s hex
    clear hex
    obtain ⟨z, t2, rfl, hex⟩ := hex9
    obtain ⟨ty, n, hk, hex⟩ := pA_s hex
    obtain ⟨⟨hty, hi⟩, hex⟩ := ite_s hex
    have hq := go1_s hex
    subst hq
    obtain ⟨C0, rfl, -, -⟩ := elK_s hty
    exact ⟨⟨Nat.le_refl _, Nat.le_refl _⟩, fun _ _ g => st_aald C hd hk hi g⟩
  | iastore =>
    simp only [exec1] at hex
    have h1 := Nat.eq_of_beq_eq_true (show Nat.beq len 1 = true from hok)
    subst h1
    have hex9 := pI2_s hex
    clear hex
    obtain ⟨i, x, t, rfl, hex⟩ := hex9
    have hex9 := pR1_s hex
    clear hex
    obtain ⟨z, t2, rfl, hex⟩ := hex9
    obtain ⟨ty, n, hk, hex⟩ := pA_s hex
    have hex9 := ite_s hex
    clear hex
    obtain ⟨⟨rfl, hi⟩, hex⟩ := hex9
    have hq := go1_s hex
    subst hq
    exact ⟨⟨Nat.le_refl _, Nat.le_refl _⟩, fun _ _ g => st_iast C hd hk hi g⟩
  | bastore =>
    simp only [exec1] at hex
    have h1 := Nat.eq_of_beq_eq_true (show Nat.beq len 1 = true from hok)
    subst h1
    have hex9 := pI2_s hex
    clear hex
    obtain ⟨i, x, t, rfl, hex⟩ := hex9
    have hex9 := pR1_s hex
    clear hex
    obtain ⟨z, t2, rfl, hex⟩ := hex9
    obtain ⟨ty, n, hk, hex⟩ := pA_s hex
    obtain ⟨⟨hty, hi⟩, hex⟩ := ite_s hex
    have hq := go1_s hex
    subst hq
    rcases hty with rfl | rfl
    · exact ⟨⟨Nat.le_refl _, Nat.le_refl _⟩, fun _ _ g => st_bast C hd hk hi g⟩
    · exact ⟨⟨Nat.le_refl _, Nat.le_refl _⟩, fun _ _ g => st_zast C hd hk hi g⟩
  | lastore =>
    simp only [exec1] at hex
    have h1 := Nat.eq_of_beq_eq_true (show Nat.beq len 1 = true from hok)
    subst h1
    have hex9 := pL1_s hex
    clear hex
    obtain ⟨x, t0, rfl, hex⟩ := hex9
    have hex9 := pI1_s hex
    clear hex
    obtain ⟨i, t, rfl, hex⟩ := hex9
    have hex9 := pR1_s hex
    clear hex
    obtain ⟨z, t2, rfl, hex⟩ := hex9
    obtain ⟨ty, n, hk, hex⟩ := pA_s hex
    have hex9 := ite_s hex
    clear hex
    obtain ⟨⟨rfl, hi⟩, hex⟩ := hex9
    have hq := go1_s hex
    subst hq
    exact ⟨⟨Nat.le_refl _, Nat.le_refl _⟩, fun _ _ g => st_last C hd hk hi g⟩
  | aastore =>
    simp only [exec1] at hex
    have h1 := Nat.eq_of_beq_eq_true (show Nat.beq len 1 = true from hok)
    subst h1
    have hex9 := pV1_s hex
    clear hex
    obtain ⟨u, t0, rfl, hex⟩ := hex9
    have hex9 := pI1_s hex
    clear hex
    obtain ⟨i, t, rfl, hex⟩ := hex9
    have hex9 := pR1_s hex
    clear hex
    obtain ⟨z, t2, rfl, hex⟩ := hex9
    obtain ⟨ty, n, hk, hex⟩ := pA_s hex
    obtain ⟨⟨hty, hi⟩, hex⟩ := ite_s hex
    split at hex
    · have hq := go1_s hex
      subst hq
      exact ⟨⟨Nat.le_refl _, Nat.le_refl _⟩, fun _ _ g => st_aastN C hd hk hty hi g⟩
    · obtain ⟨ho, hex⟩ := ite_s hex
      have hq := go1_s hex
      subst hq
      exact ⟨⟨Nat.le_refl _, Nat.le_refl _⟩, fun _ _ g => st_aast C hd hk hty hi ho g⟩
    · cases hex
  | arraylength =>
    simp only [exec1] at hex
    have h1 := Nat.eq_of_beq_eq_true (show Nat.beq len 1 = true from hok)
    subst h1
    have hex9 := pV1_s hex
    clear hex
    obtain ⟨u, t, rfl, hex⟩ := hex9
    split at hex
    · obtain ⟨ty, n, hk, hex⟩ := pA_s hex
      have hq := go1_s hex
      subst hq
      refine ⟨⟨Nat.le_refl _, Nat.le_refl _⟩, fun _ _ g H locs ls hW hL hq => ?_⟩
      obtain ⟨-, hty, hc⟩ := hW.arr hk
      exact W.alen hx hb hc ((hC.1.2.1 _ hty).1 _ _) (by rw [arrV_size]) rfl rfl hd (g H locs ls hW hL hq)
    · have hq := go1_s hex
      subst hq
      refine ⟨⟨Nat.le_refl _, Nat.le_refl _⟩, fun _ _ g H locs ls hW hL hq => ?_⟩
      exact va_slen (A := fun z => H0.size ≤ z) (H0 := H0) hx hb hC.2.1 hC.2.2.1 (Nat.not_le.mpr hC.2.2.1) ⟨by rw [hW.1]; exact Nat.le_add_right _ _, fun z h9 _ => hW.2.1 z h9, hq⟩ hd (g H locs ls hW hL hq)
    · have hq := go1_s hex
      subst hq
      obtain ⟨q9, v9, s1, s2, s3, s4, s5, s6, s7, s8, s9⟩ := hC.2.2.2
      refine ⟨⟨Nat.le_refl _, Nat.le_refl _⟩, fun _ _ g H locs ls hW hL hq => ?_⟩
      obtain ⟨cell, f1, f2, f3, f4, f5, f6, -⟩ := s7
      show W p l e R s m args below meth c H locs _ _ Q (F0 m pc ls (va_rf (sa 1) :: t.map (cvv H0.size b sa)))
      rw [s2]
      exact W.alen hx hb ((hW.2.1 _ (Array.getElem?_eq_some_iff.mp f1).1).trans f1) f2 f5 rfl rfl hd (g H locs ls hW hL hq)
    · cases hex
  | newarray at' =>
    simp only [exec1] at hex
    have h1 := Nat.eq_of_beq_eq_true (show Nat.beq len 2 = true from hok)
    subst h1
    have hex9 := pI1_s hex
    clear hex
    obtain ⟨x, t, rfl, hex⟩ := hex9
    split at hex
    · rename_i ty hty
      obtain ⟨⟨hx0, hx1⟩, hex⟩ := ite_s hex
      have hq := go1_s hex
      subst hq
      exact ⟨⟨Nat.le_succ _, Nat.le_add_right _ _⟩, fun hr1 hr2 g => st_newa C hd hty hx0 hx1 hn0 hs0 hr1 hr2 g⟩
    · cases hex
  | anewarray i =>
    simp only [exec1] at hex
    simp only [okE, Bool.and_eq_true] at hok
    obtain ⟨h1, h2⟩ := hok
    have h1 := Nat.eq_of_beq_eq_true h1
    subst h1
    have hex9 := pI1_s hex
    clear hex
    obtain ⟨x, t, rfl, hex⟩ := hex9
    obtain ⟨⟨ha, hx0, hx1⟩, hex⟩ := ite_s hex
    have hq := go1_s hex
    subst hq
    exact ⟨⟨Nat.le_succ _, Nat.le_add_right _ _⟩, fun hr1 hr2 g => st_anew (x := 0) C hd (mem2_s h2) ha hx0 hx1 hn0 hs0 hr1 hr2 g⟩
  | new i =>
    simp only [exec1] at hex
    simp only [okE, Bool.and_eq_true] at hok
    obtain ⟨h1, h2⟩ := hok
    have h1 := Nat.eq_of_beq_eq_true h1
    subst h1
    obtain ⟨ha, hex⟩ := ite_s hex
    have hq := go1_s hex
    subst hq
    exact ⟨⟨Nat.le_succ _, Nat.le_add_right _ _⟩, fun hr1 hr2 g => st_new C hd (mem2_s h2) hn0 hs0 hr1 hr2 g⟩
  | checkcast i =>
    simp only [exec1] at hex
    simp only [okE, Bool.and_eq_true] at hok
    obtain ⟨⟨h1, h2⟩, h3⟩ := hok
    have h1 := Nat.eq_of_beq_eq_true h1
    have h2 := Nat.eq_of_beq_eq_true h2
    have h3 := Nat.eq_of_beq_eq_true h3
    subst h1
    subst h2
    subst h3
    split at hex
    · obtain ⟨ty, n, hk, hex⟩ := pA_s hex
      have hex9 := ite_s hex
      clear hex
      obtain ⟨rfl, hex⟩ := hex9
      have hq := go1_s hex
      subst hq
      refine ⟨⟨Nat.le_refl _, Nat.le_refl _⟩, fun _ _ g H locs ls hW hL hq => ?_⟩
      obtain ⟨-, hty, hc⟩ := hW.arr hk
      exact va_castA (D := D) (cl := vwCl) (ws := [(_, .inl (cT .int, n, .inl (oI w _)))]) hx hb hown (hts _ castW) (fun k9 q9 h9 => by
        have hz : k9 < 1 := (List.getElem?_eq_some_iff.mp h9).1
        rw [show k9 = 0 by omega] at h9
        cases h9
        exact hc) 0 rfl (ra_prim (fun C0 z => by cases z) (hC.1.2.1 _ hty).2) hd (g H locs ls hW hL hq)
    · cases hex
  | invokespecial x =>
    simp only [exec1] at hex
    simp only [okE, Bool.and_eq_true, Bool.or_eq_true] at hok
    rcases hok with hok | hok
    · have h1999 := Nat.eq_of_beq_eq_true hok
      subst h1999
      have hnone : mI 1999 = none := rfl
      simp [xCall, hnone] at hex
    obtain ⟨⟨h1, h2⟩, h3⟩ := hok
    have h1 := Nat.eq_of_beq_eq_true h1
    subst h1
    split at hex
    · rename_i ha
      subst ha
      have hex9 := pR1_s hex
      clear hex
      obtain ⟨z, t, rfl, hex⟩ := hex9
      obtain ⟨hcat, hex⟩ := ite_s hex
      have hq := go1_s hex
      subst hq
      refine ⟨⟨Nat.le_refl _, Nat.le_refl _⟩, fun _ _ g H locs ls hW hL hq => ?_⟩
      exact W.objInit hx hb hown (hts _ (mem_TT (mlk_ok co _ (mem2_s h2)) rfl)) (hts _ objW.1) (hts _ objW.2) rfl (hL.2.1.trans hmx.symm) rfl hd hR1 (by
        show 2 * 0 + ((t.map (cvv H0.size b sa)).map fun v => v.category).sum + 12 ≤ R.locals
        rw [cvv_catS]; omega) (g H locs ls hW hL hq)
    · rename_i ha
      rcases h3 with h3 | h3
      · exact absurd (Nat.eq_of_beq_eq_true h3) ha
      · obtain ⟨⟨h4, h5⟩, h6⟩ := h3
        have h4 : a < 280 := by simpa [Nat.blt_eq] using h4
        have hx9 := xCall_s hex
        obtain ⟨-, -, i9, w9, r9, -, -, hcl9, rfl⟩ := hx9
        obtain ⟨m1, m2, -⟩ := hcall _ _ _ _ hcl9
        exact ⟨⟨m1, m2⟩, fun hr1 hr2 g => st_callI C hcall hRd hd (mem2_s h2) h4 h5 (Nat.eq_of_beq_eq_true h6) hex hn0 hs0 hr1 hr2 g⟩
  | invokevirtual x =>
    simp only [exec1] at hex
    simp only [okE, Bool.and_eq_true, Bool.or_eq_true] at hok
    rcases hok with hok | hok
    · have h1999 := Nat.eq_of_beq_eq_true hok
      subst h1999
      have hnone : mI 1999 = none := rfl
      simp [xCall, hnone] at hex
    obtain ⟨⟨h1, h2⟩, h3⟩ := hok
    have h1 := Nat.eq_of_beq_eq_true h1
    subst h1
    split at hex
    · rename_i ha
      subst ha
      unfold xClone at hex
      split at hex
      · obtain ⟨ty, n, hk, hex⟩ := pA_s hex
        have hex9 := ite_s hex
        clear hex
        obtain ⟨⟨rfl, hcat⟩, hex⟩ := hex9
        have hq := go1_s hex
        subst hq
        refine ⟨⟨Nat.le_succ _, Nat.le_add_right _ _⟩, fun hr1 hr2 g => ?_⟩
        exact st_clone C hd (mem2_s h2) hk hcat hn0 hs0 hr1 hr2 g
      · cases hex
    · rename_i ha
      rcases h3 with h3 | h3
      · exact absurd (Nat.eq_of_beq_eq_true h3) ha
      · obtain ⟨⟨⟨h4, h5⟩, h7⟩, h6⟩ := h3
        have h4 : a < 280 := by simpa [Nat.blt_eq] using h4
        have hx9 := xCall_s hex
        obtain ⟨-, -, i9, w9, r9, -, -, hcl9, rfl⟩ := hx9
        obtain ⟨m1, m2, -⟩ := hcall _ _ _ _ hcl9
        exact ⟨⟨m1, m2⟩, fun hr1 hr2 g => st_callV C hcall hRd hd (mem2_s h2) h4 (by simpa using h5) (by simpa using h7) (Nat.eq_of_beq_eq_true h6) hex hn0 hs0 hr1 hr2 g⟩
  | invokestatic x =>
    simp only [exec1] at hex
    simp only [okE, Bool.and_eq_true, Bool.or_eq_true] at hok
    rcases hok with hok | hok
    · have h1999 := Nat.eq_of_beq_eq_true hok
      subst h1999
      have hnone : mI 1999 = none := rfl
      simp [xCall, hnone] at hex
    obtain ⟨⟨h1, h2⟩, h3⟩ := hok
    have h1 := Nat.eq_of_beq_eq_true h1
    subst h1
    split at hex
    · rename_i ha
      subst ha
      unfold xCopy at hex
      split at hex
      · obtain ⟨ty0, n0', hk0, hexA⟩ := pA_s hex
        clear hex
        obtain ⟨ty1, n1', hk1, hexB⟩ := pA_s hexA
        clear hexA
        have hexC := ite_s hexB
        clear hexB
        obtain ⟨⟨rfl, rfl, hs1, hs2, hs3, hs4, hs5, hcat⟩, hex⟩ := hexC
        have hq := go1_s hex
        subst hq
        exact ⟨⟨Nat.le_refl _, Nat.le_refl _⟩, fun _ _ g => st_copy C hd (mem2_s h2) hk0 hk1 hs1 hs2 hs3 hs4 hs5 hcat g⟩
      · cases hex
    · rename_i ha
      split at hex
      · rename_i ha5
        subst ha5
        have hex9 := pI2_s hex
        clear hex
        obtain ⟨x9, y9, t9, rfl, hex⟩ := hex9
        obtain ⟨hcat, hex⟩ := ite_s hex
        have hq := go1_s hex
        subst hq
        refine ⟨⟨Nat.le_refl _, Nat.le_refl _⟩, fun hr1 hr2 g H locs ls hW hL hq => ?_⟩
        exact va_mmax hx hb (hmx.trans hL.2.1.symm) hown (hts _ (mem_TT (mlk_ok co _ (mem2_s h2)) rfl)) (hts _ mathW.1) (hts _ mathW.2.1) (hts _ mathW.2.2.1) hR1 (by rw [cvv_catS]; omega) hr1 hr2 hd (g H locs ls hW hL hq)
      · rename_i ha5
        split at hex
        · rename_i ha6
          subst ha6
          have hex9 := pI2_s hex
          clear hex
          obtain ⟨x9, y9, t9, rfl, hex⟩ := hex9
          obtain ⟨hcat, hex⟩ := ite_s hex
          have hq := go1_s hex
          subst hq
          refine ⟨⟨Nat.le_refl _, Nat.le_refl _⟩, fun hr1 hr2 g H locs ls hW hL hq => ?_⟩
          exact va_mmin hx hb (hmx.trans hL.2.1.symm) hown (hts _ (mem_TT (mlk_ok co _ (mem2_s h2)) rfl)) (hts _ mathW.2.2.2.1) (hts _ mathW.2.1) (hts _ mathW.2.2.2.2) hR1 (by rw [cvv_catS]; omega) hr1 hr2 hd (g H locs ls hW hL hq)
        · rename_i ha6
          rcases h3 with ((h3 | h3) | h3) | h3
          · exact absurd (Nat.eq_of_beq_eq_true h3) ha
          · exact absurd (Nat.eq_of_beq_eq_true h3) ha5
          · exact absurd (Nat.eq_of_beq_eq_true h3) ha6
          · obtain ⟨⟨h4, h5⟩, h6⟩ := h3
            have h4 : a < 280 := by simpa [Nat.blt_eq] using h4
            have hx9 := xCall_s hex
            obtain ⟨-, -, i9, w9, r9, -, -, hcl9, rfl⟩ := hx9
            obtain ⟨m1, m2, -⟩ := hcall _ _ _ _ hcl9
            exact ⟨⟨m1, m2⟩, fun hr1 hr2 g => st_callS C hcall hRd hd (mem2_s h2) h4 h5 (Nat.eq_of_beq_eq_true h6) hex hn0 hs0 hr1 hr2 g⟩
  | ireturn =>
    simp only [exec1] at hex
    split at hex
    · obtain ⟨-, hex⟩ := ite_s hex
      cases hex
    · cases hex
  | lreturn =>
    simp only [exec1] at hex
    split at hex
    · obtain ⟨-, hex⟩ := ite_s hex
      cases hex
    · cases hex
  | areturn =>
    simp only [exec1] at hex
    split at hex
    · obtain ⟨-, hex⟩ := ite_s hex
      cases hex
    · cases hex
  | return_ =>
    simp only [exec1] at hex
    obtain ⟨-, hex⟩ := ite_s hex
    cases hex
  | _ =>
    cases hex
end STEP
