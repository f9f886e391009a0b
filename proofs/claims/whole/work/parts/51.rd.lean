section P51
/-! The reading of laws, in whole numbers: tokens tk (the reference's codes), values vl; a reading gives a fault's token, or where it ends, how many leaves, the class's code, and what it means. -/
abbrev Fc : Type := Nat → Nat
abbrev Dn : Type := Fc → Option Int
abbrev Rr : Type := Nat ⊕ (Nat × Nat × List Nat × Dn)
def chk (x : Int) : Option Int := if -1000000000 ≤ x ∧ x ≤ 1000000000 then some x else none
def rb (r : Rr) (k : Nat → Nat → List Nat → Dn → Rr) : Rr := match r with
  | .inl p => .inl p
  | .inr (p, l, c, e) => k p l c e
def ari (op : Nat) (x y : Int) : Option Int := if op = 2 then chk (x + y) else if op = 3 then chk (x - y) else if op = 4 then chk (x * y) else if op = 5 then (if y = 0 then none else chk (x.tdiv y)) else if op = 6 then some (if x < y then 1 else 0) else if op = 7 then some (if y < x then 1 else 0) else some (if x = y then 1 else 0)
def dAri (op : Nat) (p q : Dn) : Dn := fun F => match p F with
  | none => none
  | some x => match q F with
    | none => none
    | some y => ari op x y
def dJ (op : Nat) (p q : Dn) : Dn := fun F => match p F with
  | none => none
  | some x => if x = (if op = 10 then 1 else 0) then some x else q F
def dNot (b : Bool) (p : Dn) : Dn := fun F => match p F with
  | none => none
  | some x => some (if b = true then 1 - x else x)
def d1 : Dn := fun _ => some 1
/-- what joins at a rank: the class's op, 0 for none -/
def jo (r c : Nat) : Nat := if r = 0 then (if c = 4 then 10 else 0) else if r = 1 then (if c = 5 then 11 else 0) else if r = 3 then (if c = 143 then 2 else if c = 145 then 3 else 0) else if r = 4 then (if c = 142 then 4 else if c = 147 then 5 else 0) else 0
def cmpO (c : Nat) : Nat := if c = 160 then 6 else if c = 162 then 7 else if c = 161 then 8 else 0
/-- how many nots stand from pos on -/
def nt (tk : Nat → Nat) : Nat → Nat → Nat
  | 0, _ => 0
  | f + 1, pos => if tk pos = 6 then nt tk f (pos + 1) + 1 else 0
def tlN (b : Bool) : List Nat := if b = true then [9] else []
def rd (tk vl : Nat → Nat) : Nat → Nat → Nat → Nat → Nat → Nat → Dn → Rr
  | 0, _, _, pos, _, _, _ => .inl pos
  | f + 1, md, dp, pos, lv, sz, dl =>
    if md = 2 then
      (if tk (pos + nt tk 400 pos) = 140 then
        (if 8 ≤ dp then .inl (pos + nt tk 400 pos) else
          rb (rd tk vl f 0 (dp + 1) (pos + nt tk 400 pos + 1) lv sz dl) fun p l c e =>
            if tk p = 141 then .inr (p + 1, l, c ++ tlN (decide (nt tk 400 pos % 2 = 1)), dNot (decide (nt tk 400 pos % 2 = 1)) e) else .inl p)
      else
        rb (rd tk vl f 3 dp (pos + nt tk 400 pos) lv sz dl) fun p l c e =>
          if cmpO (tk p) = 0 then .inl p else
            rb (rd tk vl f 3 dp (p + 1) l (sz + c.length) dl) fun p2 l2 c2 e2 =>
              .inr (p2, l2, c ++ (c2 ++ (cmpO (tk p) :: tlN (decide (nt tk 400 pos % 2 = 1)))), dNot (decide (nt tk 400 pos % 2 = 1)) (dAri (cmpO (tk p)) e e2)))
    else if md = 5 then
      (if tk pos = 191 then
        (if 8 ≤ dp then .inl pos else
          rb (rd tk vl f 3 (dp + 1) (pos + 1) lv sz dl) fun p l c e => if tk p = 193 then .inr (p + 1, l, c, e) else .inl p)
      else if (7 ≤ tk pos ∧ tk pos ≤ 13) ∧ lv < 50 then .inr (pos + 1, lv + 1, [1 + 16 * (tk pos - 7)], fun F => some (F (tk pos - 7)))
      else if (tk pos = 50 ∧ vl pos ≤ 1000) ∧ lv < 50 then .inr (pos + 1, lv + 1, [16 * vl pos], fun _ => some (vl pos))
      else .inl pos)
    else if md < 5 then
      rb (rd tk vl f (md + 1) dp pos lv sz dl) fun p l c e =>
        rb (rd tk vl f (10 + md) dp p l (sz + c.length) e) fun p2 l2 c2 e2 => .inr (p2, l2, c ++ c2, e2)
    else if jo (md - 10) (tk pos) = 0 then .inr (pos, lv, [], dl)
    else if md - 10 < 2 then
      rb (rd tk vl f (md - 10 + 1) dp (pos + 1) lv (sz + 1) dl) fun p l c e =>
        rb (rd tk vl f md dp p l (sz + 1 + c.length) (dJ (jo (md - 10) (tk pos)) dl e)) fun p2 l2 c2 e2 =>
          .inr (p2, l2, (jo (md - 10) (tk pos) + 16 * (sz + 1 + c.length)) :: (c ++ c2), e2)
    else
      rb (rd tk vl f (md - 10 + 1) dp (pos + 1) lv sz dl) fun p l c e =>
        rb (rd tk vl f md dp p l (sz + c.length + 1) (dAri (jo (md - 10) (tk pos)) dl e)) fun p2 l2 c2 e2 =>
          .inr (p2, l2, c ++ (jo (md - 10) (tk pos) :: c2), e2)
section RD
variable {tk vl : Nat → Nat} {f md dp pos lv sz : Nat} {dl : Dn}
theorem rb_l (p : Nat) (k : Nat → Nat → List Nat → Dn → Rr) : rb (.inl p) k = .inl p := id rfl
theorem rb_r (p l : Nat) (c : List Nat) (e : Dn) (k : Nat → Nat → List Nat → Dn → Rr) : rb (.inr (p, l, c, e)) k = k p l c e := id rfl
theorem rb_inr {r : Rr} {k : Nat → Nat → List Nat → Dn → Rr} {y : Nat × Nat × List Nat × Dn} (h : rb r k = .inr y) : ∃ p l c e, r = .inr (p, l, c, e) ∧ k p l c e = .inr y := by
  unfold rb at h
  split at h
  · cases h
  · exact ⟨_, _, _, _, rfl, h⟩
theorem rb_inl {r : Rr} {k : Nat → Nat → List Nat → Dn → Rr} {y : Nat} (h : rb r k = .inl y) : r = .inl y ∨ ∃ p l c e, r = .inr (p, l, c, e) ∧ k p l c e = .inl y := by
  unfold rb at h
  split at h
  · exact Or.inl h
  · exact Or.inr ⟨_, _, _, _, rfl, h⟩
theorem rd_2 : rd tk vl (f + 1) 2 dp pos lv sz dl = (if tk (pos + nt tk 400 pos) = 140 then
        (if 8 ≤ dp then .inl (pos + nt tk 400 pos) else
          rb (rd tk vl f 0 (dp + 1) (pos + nt tk 400 pos + 1) lv sz dl) fun p l c e =>
            if tk p = 141 then .inr (p + 1, l, c ++ tlN (decide (nt tk 400 pos % 2 = 1)), dNot (decide (nt tk 400 pos % 2 = 1)) e) else .inl p)
      else
        rb (rd tk vl f 3 dp (pos + nt tk 400 pos) lv sz dl) fun p l c e =>
          if cmpO (tk p) = 0 then .inl p else
            rb (rd tk vl f 3 dp (p + 1) l (sz + c.length) dl) fun p2 l2 c2 e2 =>
              .inr (p2, l2, c ++ (c2 ++ (cmpO (tk p) :: tlN (decide (nt tk 400 pos % 2 = 1)))), dNot (decide (nt tk 400 pos % 2 = 1)) (dAri (cmpO (tk p)) e e2))) := id rfl
theorem rd_5 : rd tk vl (f + 1) 5 dp pos lv sz dl = (if tk pos = 191 then
        (if 8 ≤ dp then .inl pos else
          rb (rd tk vl f 3 (dp + 1) (pos + 1) lv sz dl) fun p l c e => if tk p = 193 then .inr (p + 1, l, c, e) else .inl p)
      else if (7 ≤ tk pos ∧ tk pos ≤ 13) ∧ lv < 50 then .inr (pos + 1, lv + 1, [1 + 16 * (tk pos - 7)], fun F => some (F (tk pos - 7)))
      else if (tk pos = 50 ∧ vl pos ≤ 1000) ∧ lv < 50 then .inr (pos + 1, lv + 1, [16 * vl pos], fun _ => some (vl pos))
      else .inl pos) := id rfl
theorem rd_r (h : md = 0 ∨ md = 1 ∨ md = 3 ∨ md = 4) : rd tk vl (f + 1) md dp pos lv sz dl = rb (rd tk vl f (md + 1) dp pos lv sz dl) fun p l c e =>
        rb (rd tk vl f (10 + md) dp p l (sz + c.length) e) fun p2 l2 c2 e2 => .inr (p2, l2, c ++ c2, e2) := by
  rcases h with rfl | rfl | rfl | rfl <;> rfl
theorem rd_l {r : Nat} : rd tk vl (f + 1) (10 + r) dp pos lv sz dl = if jo r (tk pos) = 0 then .inr (pos, lv, [], dl)
    else if r < 2 then
      rb (rd tk vl f (r + 1) dp (pos + 1) lv (sz + 1) dl) fun p l c e =>
        rb (rd tk vl f (10 + r) dp p l (sz + 1 + c.length) (dJ (jo r (tk pos)) dl e)) fun p2 l2 c2 e2 =>
          .inr (p2, l2, (jo r (tk pos) + 16 * (sz + 1 + c.length)) :: (c ++ c2), e2)
    else
      rb (rd tk vl f (r + 1) dp (pos + 1) lv sz dl) fun p l c e =>
        rb (rd tk vl f (10 + r) dp p l (sz + c.length + 1) (dAri (jo r (tk pos)) dl e)) fun p2 l2 c2 e2 =>
          .inr (p2, l2, c ++ (jo r (tk pos) :: c2), e2) := by
  have h1 : ¬ 10 + r = 2 := by omega
  have h2 : ¬ 10 + r = 5 := by omega
  have h3 : ¬ 10 + r < 5 := by omega
  have h4 : 10 + r - 10 = r := by omega
  show (if 10 + r = 2 then _ else if 10 + r = 5 then _ else if 10 + r < 5 then _ else _) = _
  rw [if_neg h1, if_neg h2, if_neg h3, h4]
theorem nt_le (tk : Nat → Nat) {n : Nat} (hn : ∀ j, n ≤ j → tk j = 0) : ∀ f pos, pos ≤ n → pos + nt tk f pos ≤ n
  | 0, pos, h => by unfold nt; omega
  | f + 1, pos, h => by
    unfold nt
    split
    · rename_i h6
      have : pos < n := by
        by_cases h : pos < n
        · exact h
        · rw [hn pos (by omega)] at h6
          omega
      have := nt_le tk hn f (pos + 1) (by omega)
      omega
    · omega
theorem jo_p {n r pos : Nat} (hn : ∀ j, n ≤ j → tk j = 0) (h : ¬ jo r (tk pos) = 0) : pos < n := by
  by_cases h1 : pos < n
  · exact h1
  · rw [hn pos (by omega)] at h
    exact absurd (by unfold jo; simp) h
theorem jo_r {r c : Nat} (h : ¬ jo r c = 0) : r < 5 ∧ r ≠ 2 := by
  by_cases h0 : r = 0
  · omega
  · by_cases h1 : r = 1
    · omega
    · by_cases h3 : r = 3
      · omega
      · by_cases h4 : r = 4
        · omega
        · exact absurd (by unfold jo; simp [h0, h1, h3, h4]) h
theorem cmp_p {n pos : Nat} (hn : ∀ j, n ≤ j → tk j = 0) (h : ¬ cmpO (tk pos) = 0) : pos < n := by
  by_cases h1 : pos < n
  · exact h1
  · rw [hn pos (by omega)] at h
    exact absurd (by unfold cmpO; simp) h
theorem tk_p {n pos c : Nat} (hn : ∀ j, n ≤ j → tk j = 0) (h : tk pos = c) (hc : c ≠ 0) : pos < n := by
  by_cases h1 : pos < n
  · exact h1
  · rw [hn pos (by omega)] at h
    exact absurd h.symm hc
/-- where a reading ends, how long its code is -/
theorem rd_ok {n : Nat} (hn : ∀ j, n ≤ j → tk j = 0) : ∀ f md dp pos lv sz dl p l c e, (md ≤ 5 ∨ 10 ≤ md) → pos ≤ n → rd tk vl f md dp pos lv sz dl = .inr (p, l, c, e) → pos ≤ p ∧ (md ≤ 5 → pos < p ∧ 0 < c.length) ∧ c.length + pos ≤ p ∧ p ≤ n ∧ lv ≤ l ∧ (lv ≤ 50 → l ≤ 50) := by
  intro f
  induction f with
  | zero => intro md dp pos lv sz dl p l c e _ _ h; cases h
  | succ f ih =>
    intro md dp pos lv sz dl p l c e hmd hp h
    by_cases h2 : md = 2
    · subst h2
      have hnt := nt_le tk hn 400 pos hp
      rw [rd_2] at h
      have htl : (tlN (decide (nt tk 400 pos % 2 = 1))).length ≤ nt tk 400 pos := by
        unfold tlN
        by_cases ho : nt tk 400 pos % 2 = 1
        · simp [ho]; omega
        · simp [ho]
      split at h
      · rename_i h140
        split at h
        · cases h
        · obtain ⟨p1, l1, c1', e1, h1, h3⟩ := rb_inr h
          have hq := tk_p hn h140 (by decide)
          have := ih _ _ _ _ _ _ _ _ _ _ (by omega) (by omega) h1
          split at h3
          · rename_i h141
            have hq2 := tk_p hn h141 (by decide)
            have h4 := Sum.inr.inj h3
            cases h4
            rw [List.length_append]
            exact ⟨by omega, fun _ => by omega, by omega, by omega, by omega, by omega⟩
          · cases h3
      · obtain ⟨p1, l1, c1', e1, h1, h3⟩ := rb_inr h
        have i1 := ih _ _ _ _ _ _ _ _ _ _ (by omega) hnt h1
        split at h3
        · cases h3
        · rename_i hc
          have hq := cmp_p hn hc
          obtain ⟨p2, l2, c2', e2, h5, h6⟩ := rb_inr h3
          have i2 := ih _ _ _ _ _ _ _ _ _ _ (by omega) (by omega) h5
          have h4 := Sum.inr.inj h6
          cases h4
          rw [List.length_append, List.length_append, List.length_cons]
          exact ⟨by omega, fun _ => by omega, by omega, by omega, by omega, by omega⟩
    · by_cases h5 : md = 5
      · subst h5
        rw [rd_5] at h
        split at h
        · rename_i h191
          have hq := tk_p hn h191 (by decide)
          split at h
          · cases h
          · obtain ⟨p1, l1, c1', e1, h1, h3⟩ := rb_inr h
            have i1 := ih _ _ _ _ _ _ _ _ _ _ (by omega) (by omega) h1
            split at h3
            · rename_i h193
              have hq2 := tk_p hn h193 (by decide)
              have h4 := Sum.inr.inj h3
              cases h4
              exact ⟨by omega, fun _ => by omega, by omega, by omega, by omega, by omega⟩
            · cases h3
        · split at h
          · rename_i hf
            have hq : pos < n := by
              by_cases h1 : pos < n
              · exact h1
              · rw [hn pos (by omega)] at hf
                omega
            have h4 := Sum.inr.inj h
            cases h4
            simp only [List.length_cons, List.length_nil]
            exact ⟨by omega, fun _ => by omega, by omega, by omega, by omega, by omega⟩
          · split at h
            · rename_i hf
              have hq := tk_p hn hf.1.1 (by decide)
              have h4 := Sum.inr.inj h
              cases h4
              simp only [List.length_cons, List.length_nil]
              exact ⟨by omega, fun _ => by omega, by omega, by omega, by omega, by omega⟩
            · cases h
      · by_cases h6 : md < 5
        · rw [rd_r (by omega)] at h
          obtain ⟨p1, l1, c1', e1, h1, h3⟩ := rb_inr h
          have i1 := ih _ _ _ _ _ _ _ _ _ _ (by omega) hp h1
          obtain ⟨p2, l2, c2', e2, h7, h8⟩ := rb_inr h3
          have i2 := ih _ _ _ _ _ _ _ _ _ _ (by omega) (by omega) h7
          have h4 := Sum.inr.inj h8
          cases h4
          rw [List.length_append]
          have := i1.2.1 (by omega)
          exact ⟨by omega, fun _ => by omega, by omega, by omega, by omega, by omega⟩
        · obtain ⟨r, rfl⟩ : ∃ r, md = 10 + r := ⟨md - 10, by omega⟩
          rw [rd_l] at h
          split at h
          · have h4 := Sum.inr.inj h
            cases h4
            simp only [List.length_nil]
            exact ⟨by omega, fun _ => by omega, by omega, by omega, by omega, by omega⟩
          · rename_i hj
            have hq := jo_p hn hj
            have hr5 := jo_r hj
            split at h
            · obtain ⟨p1, l1, c1', e1, h1, h3⟩ := rb_inr h
              have i1 := ih _ _ _ _ _ _ _ _ _ _ (by omega) (by omega) h1
              obtain ⟨p2, l2, c2', e2, h7, h8⟩ := rb_inr h3
              have i2 := ih _ _ _ _ _ _ _ _ _ _ (by omega) (by omega) h7
              have h4 := Sum.inr.inj h8
              cases h4
              rw [List.length_cons, List.length_append]
              exact ⟨by omega, fun _ => by omega, by omega, by omega, by omega, by omega⟩
            · obtain ⟨p1, l1, c1', e1, h1, h3⟩ := rb_inr h
              have i1 := ih _ _ _ _ _ _ _ _ _ _ (by omega) (by omega) h1
              obtain ⟨p2, l2, c2', e2, h7, h8⟩ := rb_inr h3
              have i2 := ih _ _ _ _ _ _ _ _ _ _ (by omega) (by omega) h7
              have h4 := Sum.inr.inj h8
              cases h4
              rw [List.length_append, List.length_cons]
              exact ⟨by omega, fun _ => by omega, by omega, by omega, by omega, by omega⟩
end RD
end P51
