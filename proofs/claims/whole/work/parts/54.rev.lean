section P54
variable {xs : Nat → Int32} {Ln d : Nat} {D : Dyn} {I : Nat → Nat → Int32} {L : Nat → Nat → Int64} {w : Om}
def lI (x : Int) : Int64 := Int64.ofInt x
theorem l_add (x y : Int) : lI x + lI y = lI (x + y) := (Int64.ofInt_add x y).symm
theorem l_sub (x y : Int) : lI x - lI y = lI (x - y) := (Int64.ofInt_sub x y).symm
theorem l_mul (x y : Int) : lI x * lI y = lI (x * y) := (Int64.ofInt_mul x y).symm
def bdd (x : Int) : Prop := -4000000000000000000 ≤ x ∧ x ≤ 4000000000000000000
theorem l_toInt {x : Int} (h : bdd x) : (lI x).toInt = x := Int64.toInt_ofInt_of_le (by unfold bdd at h; omega) (by unfold bdd at h; omega)
theorem l_lt {x y : Int} (hx : bdd x) (hy : bdd y) : (lI x < lI y) = (x < y) := by
  rw [Int64.lt_iff_toInt_lt, l_toInt hx, l_toInt hy]
theorem l_le {x y : Int} (hx : bdd x) (hy : bdd y) : (lI x ≤ lI y) = (x ≤ y) := by
  rw [Int64.le_iff_toInt_le, l_toInt hx, l_toInt hy]
theorem l_eq {x y : Int} (hx : bdd x) (hy : bdd y) : (lI x = lI y) = (x = y) := by
  rw [← Int64.toInt_inj, l_toInt hx, l_toInt hy]
theorem l_div {x y : Int} (hx : bdd x) (hy : bdd y) : lI x / lI y = lI (x.tdiv y) := (Int64.ofInt_tdiv (by rw [show Int64.minValue.toInt = -9223372036854775808 by decide]; unfold bdd at hx; omega) (by rw [show Int64.maxValue.toInt = 9223372036854775807 by decide]; unfold bdd at hx; omega) (by rw [show Int64.minValue.toInt = -9223372036854775808 by decide]; unfold bdd at hy; omega) (by rw [show Int64.maxValue.toInt = 9223372036854775807 by decide]; unfold bdd at hy; omega)).symm
theorem lc_le (x y : Int64) : (lg_cmp x y ≤ nI 0) = (x ≤ y) := propext (lg_cmp_le x y)
theorem lc_ge (x y : Int64) : (nI 0 ≤ lg_cmp x y) = (y ≤ x) := propext (lg_cmp_ge x y)
theorem lc_lt (x y : Int64) : (lg_cmp x y < nI 0) = (x < y) := propext (lg_cmp_lt x y)
theorem lc_gt (x y : Int64) : (nI 0 < lg_cmp x y) = (y < x) := propext (lg_cmp_gt x y)
theorem lc_eq (x y : Int64) : (lg_cmp x y = nI 0) = (x = y) := propext (lg_cmp_eq x y)
theorem l_e9 : (1000000000 : Int64) = lI 1000000000 := by decide
theorem l_m9 : (-1000000000 : Int64) = lI (-1000000000) := by decide
theorem l_0 : (0 : Int64) = lI 0 := by decide
theorem l_1 : (1 : Int64) = lI 1 := by decide
theorem l_n {a : Nat} (h : a < 2147483648) : (nI a).toInt64 = lI a := by
  apply Int64.toInt_inj.mp
  rw [Int32.toInt_toInt64, nI_toInt h, l_toInt (by unfold bdd; omega)]
/-- small enough -/
def sml (x : Int) : Prop := -1000000000 ≤ x ∧ x ≤ 1000000000
theorem sml.b {x : Int} (h : sml x) : bdd x := by unfold sml at h; unfold bdd; omega
theorem chk_s {x y : Int} (h : chk x = some y) : y = x ∧ sml y := by
  unfold chk at h
  split at h
  · rename_i h1
    cases h
    exact ⟨rfl, h1⟩
  · cases h
theorem tdiv_sml {x y : Int} (h : sml x) : sml (x.tdiv y) := by
  unfold sml at h ⊢
  have h3 : (x.tdiv y).natAbs = x.natAbs / y.natAbs := Int.natAbs_tdiv x y
  have h2 : x.natAbs / y.natAbs ≤ x.natAbs := Nat.div_le_self _ _
  omega
theorem mul_bdd {x y : Int} (hx : sml x) (hy : sml y) : bdd (x * y) := by
  unfold sml at hx hy
  have h := Int.natAbs_mul x y
  have h1 : x.natAbs * y.natAbs ≤ 1000000000 * 1000000000 := Nat.mul_le_mul (by omega) (by omega)
  unfold bdd
  omega
theorem ari_s {op : Nat} {x y z : Int} (h : ari op x y = some z) : sml z ∧ (6 ≤ op → z = 0 ∨ z = 1) := by
  unfold ari at h
  split at h
  · exact ⟨(chk_s h).2, by omega⟩
  · split at h
    · exact ⟨(chk_s h).2, by omega⟩
    · split at h
      · exact ⟨(chk_s h).2, by omega⟩
      · split at h
        · split at h
          · cases h
          · exact ⟨(chk_s h).2, by omega⟩
        · have : ∀ c : Prop, [Decidable c] → ∀ z, some (if c then (1 : Int) else 0) = some z → sml z ∧ (6 ≤ op → z = 0 ∨ z = 1) := by
            intro c _ z h
            cases h
            by_cases hc : c
            · simp [hc, sml]
            · simp [hc, sml]
          split at h
          · exact this _ _ h
          · split at h
            · exact this _ _ h
            · exact this _ _ h
def tst (md : Nat) : Prop := md ≤ 2 ∨ md = 10 ∨ md = 11
def bd (md : Nat) (x : Int) : Prop := sml x ∧ (tst md → x = 0 ∨ x = 1)
theorem bd.tr {a b : Nat} {x : Int} (h : bd a x) (hab : tst b → tst a) : bd b x := ⟨h.1, fun hb => h.2 (hab hb)⟩
theorem dNot_s {b : Bool} {e : Dn} {F : Fc} {x : Int} (h : dNot b e F = some x) : ∃ y, e F = some y ∧ x = if b = true then 1 - y else y := by
  unfold dNot at h
  split at h
  · cases h
  · rename_i y hy
    cases h
    exact ⟨y, hy, rfl⟩
theorem dAri_s {op : Nat} {p q : Dn} {F : Fc} {x : Int} (h : dAri op p q F = some x) : ∃ a b, p F = some a ∧ q F = some b ∧ ari op a b = some x := by
  unfold dAri at h
  split at h
  · cases h
  · rename_i a ha
    split at h
    · cases h
    · rename_i b hb
      exact ⟨a, b, ha, hb, h⟩
theorem dJ_s {op : Nat} {p q : Dn} {F : Fc} {x : Int} (h : dJ op p q F = some x) : p F = some x ∨ q F = some x := by
  unfold dJ at h
  split at h
  · cases h
  · rename_i a ha
    by_cases hc : a = (if op = 10 then 1 else 0)
    · rw [if_pos hc] at h
      rw [ha]
      exact Or.inl h
    · rw [if_neg hc] at h
      exact Or.inr h
theorem cmp_6 {c : Nat} (h : ¬ cmpO c = 0) : 6 ≤ cmpO c := by
  unfold cmpO at h ⊢
  split
  · omega
  · split
    · omega
    · split
      · omega
      · rename_i h1 h2 h3
        simp [h1, h2, h3] at h
/-- what a reading means is small -/
theorem rd_dn {tk vl : Nat → Nat} {F : Fc} (hF : ∀ j, F j ≤ 1000) : ∀ f md dp pos lv sz dl p l c e, (md ≤ 5 ∨ 10 ≤ md) → rd tk vl f md dp pos lv sz dl = .inr (p, l, c, e) → (10 ≤ md → ∀ x, dl F = some x → bd md x) → ∀ x, e F = some x → bd md x := by
  intro f
  induction f with
  | zero => intro md dp pos lv sz dl p l c e _ h; cases h
  | succ f ih =>
    intro md dp pos lv sz dl p l c e hmd h hdl x hx
    by_cases h2 : md = 2
    · subst h2
      rw [rd_2] at h
      split at h
      · split at h
        · cases h
        · obtain ⟨p1, l1, c1', e1, h1, h3⟩ := rb_inr h
          split at h3
          · cases h3
            obtain ⟨y, hy, rfl⟩ := dNot_s hx
            have := ih _ _ _ _ _ _ _ _ _ _ (by omega) h1 (fun h => by omega) y hy
            have h01 := this.2 (Or.inl (by omega))
            unfold bd sml tst
            rcases h01 with rfl | rfl <;> cases decide (nt tk 400 pos % 2 = 1) <;> simp
          · cases h3
      · obtain ⟨p1, l1, c1', e1, h1, h3⟩ := rb_inr h
        split at h3
        · cases h3
        · rename_i hc
          obtain ⟨p2, l2, c2', e2, h5, h6⟩ := rb_inr h3
          cases h6
          obtain ⟨y, hy, rfl⟩ := dNot_s hx
          obtain ⟨a, b, ha, hb, hab⟩ := dAri_s hy
          have h01 := (ari_s hab).2 (cmp_6 hc)
          unfold bd sml tst
          rcases h01 with rfl | rfl <;> cases decide (nt tk 400 pos % 2 = 1) <;> simp
    · by_cases h5 : md = 5
      · subst h5
        have nt5 : ¬ tst 5 := by unfold tst; omega
        rw [rd_5] at h
        split at h
        · split at h
          · cases h
          · obtain ⟨p1, l1, c1', e1, h1, h3⟩ := rb_inr h
            split at h3
            · cases h3
              exact (ih _ _ _ _ _ _ _ _ _ _ (by omega) h1 (fun h => by omega) x hx).tr (fun h => absurd h nt5)
            · cases h3
        · split at h
          · cases h
            have := hF (tk pos - 7)
            simp only [Option.some.injEq] at hx
            subst hx
            exact ⟨by unfold sml; omega, fun h => absurd h nt5⟩
          · split at h
            · rename_i hv
              cases h
              simp only [Option.some.injEq] at hx
              subst hx
              exact ⟨by unfold sml; omega, fun h => absurd h nt5⟩
            · cases h
      · by_cases h6 : md < 5
        · rw [rd_r (by omega)] at h
          obtain ⟨p1, l1, c1', e1, h1, h3⟩ := rb_inr h
          obtain ⟨p2, l2, c2', e2, h7, h8⟩ := rb_inr h3
          cases h8
          have i1 := ih _ _ _ _ _ _ _ _ _ _ (by omega) h1 (fun h => by omega)
          have hc : md = 0 ∨ md = 1 ∨ md = 3 ∨ md = 4 := by omega
          refine (ih _ _ _ _ _ _ _ _ _ _ (by omega) h7 (fun _ y hy => (i1 y hy).tr ?_) x hx).tr ?_
          · unfold tst; omega
          · unfold tst; omega
        · obtain ⟨r, rfl⟩ : ∃ r, md = 10 + r := ⟨md - 10, by omega⟩
          rw [rd_l] at h
          split at h
          · cases h
            exact hdl (by omega) x hx
          · rename_i hj
            have hr5 := jo_r hj
            split at h
            · obtain ⟨p1, l1, c1', e1, h1, h3⟩ := rb_inr h
              obtain ⟨p2, l2, c2', e2, h7, h8⟩ := rb_inr h3
              cases h8
              have i1 := ih _ _ _ _ _ _ _ _ _ _ (by omega) h1 (fun h => by omega)
              refine ih _ _ _ _ _ _ _ _ _ _ (by omega) h7 (fun _ y hy => ?_) x hx
              rcases dJ_s hy with hy | hy
              · exact hdl (by omega) y hy
              · exact (i1 y hy).tr (by unfold tst; omega)
            · obtain ⟨p1, l1, c1', e1, h1, h3⟩ := rb_inr h
              obtain ⟨p2, l2, c2', e2, h7, h8⟩ := rb_inr h3
              cases h8
              refine ih _ _ _ _ _ _ _ _ _ _ (by omega) h7 (fun _ y hy => ?_) x hx
              obtain ⟨a, b, ha, hb, hab⟩ := dAri_s hy
              exact ⟨(ari_s hab).1, fun h => by unfold tst at h; omega⟩
end P54
