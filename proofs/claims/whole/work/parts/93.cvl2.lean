section P93
variable {xs : Nat → Int32} {Ln d : Nat} {D : Dyn} {I : Nat → Nat → Int32} {L : Nat → Nat → Int64} {w : Om} {Q : Res → Prop}
theorem rd_lt {tk vl : Nat → Nat} {n : Nat} (hn : ∀ j, n ≤ j → tk j = 0) : ∀ f md dp pos lv sz dl p l c e, md ≤ 5 → pos ≤ n → rd tk vl f md dp pos lv sz dl = .inr (p, l, c, e) → lv < l := by
  intro f
  induction f with
  | zero => intro md dp pos lv sz dl p l c e _ _ h; cases h
  | succ f ih =>
    intro md dp pos lv sz dl p l c e hmd hp h
    by_cases h2 : md = 2
    · subst h2
      have hnt := nt_le tk hn 400 pos hp
      rw [rd_2] at h
      split at h
      · rename_i h140
        split at h
        · cases h
        · obtain ⟨p1, l1, c1', e1, h1, h3⟩ := rb_inr h
          have hq := tk_p hn h140 (by decide)
          have := ih _ _ _ _ _ _ _ _ _ _ (by omega) (by omega) h1
          split at h3
          · cases h3
            exact this
          · cases h3
      · obtain ⟨p1, l1, c1', e1, h1, h3⟩ := rb_inr h
        have i1 := ih _ _ _ _ _ _ _ _ _ _ (by omega) hnt h1
        split at h3
        · cases h3
        · rename_i hc
          have hq := cmp_p hn hc
          obtain ⟨p2, l2, c2', e2, h5, h6⟩ := rb_inr h3
          have i2 := ih _ _ _ _ _ _ _ _ _ _ (by omega) (by omega) h5
          cases h6
          omega
    · by_cases h5 : md = 5
      · subst h5
        rw [rd_5] at h
        split at h
        · rename_i h191
          have hq := tk_p hn h191 (by decide)
          split at h
          · cases h
          · obtain ⟨p1, l1, c1', e1, h1, h3⟩ := rb_inr h
            have i1 := ih _ _ _ _ _ _ _ _ _ _ (by omega) (by omega) h1
            split at h3
            · cases h3
              exact i1
            · cases h3
        · split at h
          · cases h
            omega
          · split at h
            · cases h
              omega
            · cases h
      · rw [rd_r (by omega)] at h
        obtain ⟨p1, l1, c1', e1, h1, h3⟩ := rb_inr h
        have i1 := ih _ _ _ _ _ _ _ _ _ _ (by omega) hp h1
        have j1 := rd_ok hn _ _ _ _ _ _ _ _ _ _ _ (by omega) hp h1
        obtain ⟨p2, l2, c2', e2, h7, h8⟩ := rb_inr h3
        have i2 := rd_ok hn _ _ _ _ _ _ _ _ _ _ _ (by omega) (by omega) h7
        cases h8
        omega
/-- what is broken stays so -/
theorem rd_no {tk vl : Nat → Nat} {F : Fc} : ∀ {f r dp pos lv sz dl p l c e}, rd tk vl f (10 + r) dp pos lv sz dl = .inr (p, l, c, e) → dl F = none → e F = none := by
  intro f
  induction f with
  | zero => intro r dp pos lv sz dl p l c e h; cases h
  | succ f ih =>
    intro r dp pos lv sz dl p l c e h hd
    rw [rd_l] at h
    split at h
    · cases h
      exact hd
    · split at h
      · obtain ⟨p1, l1, c1', e1, h1, h3⟩ := rb_inr h
        obtain ⟨p2, l2, c2', e2, h7, h8⟩ := rb_inr h3
        cases h8
        exact ih h7 (by unfold dJ; rw [hd])
      · obtain ⟨p1, l1, c1', e1, h1, h3⟩ := rb_inr h
        obtain ⟨p2, l2, c2', e2, h7, h8⟩ := rb_inr h3
        cases h8
        exact ih h7 (by unfold dAri; rw [hd])
/-- the code c lies in the row r from sz on -/
def cod (r : Nat → Int32) (sz : Nat) (c : List Nat) : Prop := ∀ j, j < c.length → r (sz + j) = nI (c.getD j 0)
theorem cod_nil (r : Nat → Int32) (sz : Nat) : cod r sz [] := fun j h => absurd h (Nat.not_lt_zero j)
theorem cod_c {r : Nat → Int32} {sz x : Nat} {c : List Nat} (h : cod r sz (x :: c)) : r sz = nI x ∧ cod r (sz + 1) c := by
  constructor
  · exact h 0 (by simp)
  · intro j hj
    have := h (j + 1) (by simp; omega)
    rw [show sz + 1 + j = sz + (j + 1) by omega, this]
    simp
theorem cod_a {r : Nat → Int32} {sz : Nat} {c1 c2 : List Nat} (h : cod r sz (c1 ++ c2)) : cod r sz c1 ∧ cod r (sz + c1.length) c2 := by
  constructor
  · intro j hj
    rw [h j (by simp; omega)]
    simp [List.getD_eq_getElem?_getD, List.getElem?_append_left hj]
  · intro j hj
    rw [show sz + c1.length + j = sz + (c1.length + j) by omega, h (c1.length + j) (by simp; omega)]
    simp [List.getD_eq_getElem?_getD, List.getElem?_append_right (Nat.le_add_right _ _)]
theorem cod_ai {r : Nat → Int32} {sz : Nat} {c1 c2 : List Nat} (h1 : cod r sz c1) (h2 : cod r (sz + c1.length) c2) : cod r sz (c1 ++ c2) := by
  intro j hj
  by_cases h : j < c1.length
  · rw [h1 j h]
    simp [List.getD_eq_getElem?_getD, List.getElem?_append_left h]
  · have := h2 (j - c1.length) (by simp at hj; omega)
    rw [show sz + c1.length + (j - c1.length) = sz + j by omega] at this
    rw [this]
    simp [List.getD_eq_getElem?_getD, List.getElem?_append_right (Nat.le_of_not_lt h)]
section VG
variable {q fr to n m n0 : Nat} {tk vl : Nat → Nat} {F : Fc}
def sam (q h : Nat) (L L' : Nat → Nat → Int64) : Prop := ∀ j, j < h → L' (q + 3) j = L (q + 3) j
theorem sam_u {h : Nat} {x : Int64} : sam q h L (up2 L (q + 3) h x) := fun j hj => up2_j _ _ _ (by omega)
theorem sam_tr {h h' : Nat} {L' L'' : Nat → Nat → Int64} (hh : h ≤ h') (h1 : sam q h L L') (h2 : sam q h' L' L'') : sam q h L L'' := fun j hj => by rw [h2 j (by omega), h1 j hj]
def VA (xs : Nat → Int32) (Ln d : Nat) (D : Dyn) (I : Nat → Nat → Int32) (q fr to : Nat) (tk vl : Nat → Nat) (n0 : Nat) (F : Fc) (f : Nat) : Prop := ∀ md dp pos lv sz dl p l c e, md ≤ 5 → pos ≤ n0 → rd tk vl f md dp pos lv sz dl = .inr (p, l, c, e) → l ≤ 50 → cod (I (q + 1)) sz c → sz + c.length ≤ to → ∀ h L Q, h ≤ lv →
  (∀ x, e F = some x → ∀ L', sam q h L L' → L' (q + 3) h = lI x → VG xs Ln d D I q fr to Q L' (h + 1) (sz + c.length)) → (e F = none → ∀ L', Q (mkW D I L', some (.long br9))) → VG xs Ln d D I q fr to Q L h sz
def VB (xs : Nat → Int32) (Ln d : Nat) (D : Dyn) (I : Nat → Nat → Int32) (q fr to : Nat) (tk vl : Nat → Nat) (n0 : Nat) (F : Fc) (f : Nat) : Prop := ∀ r dp pos lv sz dl p l c e, r < 5 → pos ≤ n0 → rd tk vl f (10 + r) dp pos lv sz dl = .inr (p, l, c, e) → l ≤ 50 → cod (I (q + 1)) sz c → sz + c.length ≤ to → ∀ h L Q x0, h + 1 ≤ lv → dl F = some x0 → bd (10 + r) x0 → L (q + 3) h = lI x0 →
  (∀ x, e F = some x → ∀ L', sam q h L L' → L' (q + 3) h = lI x → VG xs Ln d D I q fr to Q L' (h + 1) (sz + c.length)) → (e F = none → ∀ L', Q (mkW D I L', some (.long br9))) → VG xs Ln d D I q fr to Q L (h + 1) sz
theorem V_tl {b : Bool} {h sz : Nat} {x : Int} (S : LwS D q n m) (hto : to ≤ n) (hc : cod (I (q + 1)) sz (tlN b)) (hz : sz + (tlN b).length ≤ to) (hh : h + 1 < 64) (hx : L (q + 3) h = lI x) (sx : x = 0 ∨ x = 1) (hk : ∀ L', sam q h L L' → L' (q + 3) h = lI (if b = true then 1 - x else x) → VG xs Ln d D I q fr to Q L' (h + 1) (sz + (tlN b).length)) : VG xs Ln d D I q fr to Q L (h + 1) sz := by
  cases b
  · have := hk L (fun _ _ => rfl) (by simpa using hx)
    simpa [tlN] using this
  · obtain ⟨c1, -⟩ := cod_c (show cod (I (q + 1)) sz (9 :: []) from hc)
    refine V_not S hto (by simp [tlN] at hz; omega) c1 hh hx sx ?_
    exact hk _ sam_u (by rw [up2_s]; rfl)
theorem V_ari {op h i : Nat} {x y : Int} (S : LwS D q n m) (hto : to ≤ n) (hop : 2 ≤ op ∧ op ≤ 8) (hi : i < to) (hc : I (q + 1) i = nI op) (hh : h + 2 < 64) (hx : L (q + 3) h = lI x) (hy : L (q + 3) (h + 1) = lI y) (sx : sml x) (sy : sml y) (hk : ∀ z, ari op x y = some z → VG xs Ln d D I q fr to Q (up2 L (q + 3) h (lI z)) (h + 1) (i + 1)) (hq : ari op x y = none → ∀ L, Q (mkW D I L, some (.long br9))) : VG xs Ln d D I q fr to Q L (h + 2) i := by
  have : op = 2 ∨ op = 3 ∨ op = 4 ∨ op = 5 ∨ op = 6 ∨ op = 7 ∨ op = 8 := by omega
  rcases this with rfl | rfl | rfl | rfl | rfl | rfl | rfl
  · exact V_ari2 S hto hi hc hh hx hy sx sy hk hq
  · exact V_ari3 S hto hi hc hh hx hy sx sy hk hq
  · exact V_ari4 S hto hi hc hh hx hy sx sy hk hq
  · exact V_ari5 S hto hi hc hh hx hy sx sy hk hq
  · exact V_ari6 S hto hi hc hh hx hy sx sy hk hq
  · exact V_ari7 S hto hi hc hh hx hy sx sy hk hq
  · exact V_ari8 S hto hi hc hh hx hy sx sy hk hq
theorem cmp_8 {c : Nat} (h : ¬ cmpO c = 0) : 2 ≤ cmpO c ∧ cmpO c ≤ 8 := by
  unfold cmpO at h ⊢
  split
  · omega
  · split
    · omega
    · split
      · omega
      · rename_i h1 h2 h3
        rw [if_neg h1, if_neg h2, if_neg h3] at h
        exact absurd rfl h
theorem jo_5 {r c : Nat} (h : ¬ jo r c = 0) : (r < 2 → jo r c = 10 ∧ r = 0 ∨ jo r c = 11 ∧ r = 1) ∧ (¬ r < 2 → 2 ≤ jo r c ∧ jo r c ≤ 5) := by
  have hr := jo_r h
  have : r = 0 ∨ r = 1 ∨ r = 3 ∨ r = 4 := by omega
  rcases this with rfl | rfl | rfl | rfl
  · have e : jo 0 c = if c = 4 then 10 else 0 := rfl
    rw [e] at h ⊢
    split at h
    · rename_i hc; rw [if_pos hc]; exact ⟨fun _ => Or.inl ⟨rfl, rfl⟩, fun h => absurd (by omega) h⟩
    · exact absurd rfl h
  · have e : jo 1 c = if c = 5 then 11 else 0 := rfl
    rw [e] at h ⊢
    split at h
    · rename_i hc; rw [if_pos hc]; exact ⟨fun _ => Or.inr ⟨rfl, rfl⟩, fun h => absurd (by omega) h⟩
    · exact absurd rfl h
  · have e : jo 3 c = if c = 143 then 2 else if c = 145 then 3 else 0 := rfl
    rw [e] at h ⊢
    refine ⟨fun h => by omega, fun _ => ?_⟩
    by_cases h1 : c = 143
    · rw [if_pos h1]; omega
    · rw [if_neg h1] at h ⊢
      by_cases h2 : c = 145
      · rw [if_pos h2]; omega
      · rw [if_neg h2] at h; exact absurd rfl h
  · have e : jo 4 c = if c = 142 then 4 else if c = 147 then 5 else 0 := rfl
    rw [e] at h ⊢
    refine ⟨fun h => by omega, fun _ => ?_⟩
    by_cases h1 : c = 142
    · rw [if_pos h1]; omega
    · rw [if_neg h1] at h ⊢
      by_cases h2 : c = 147
      · rw [if_pos h2]; omega
      · rw [if_neg h2] at h; exact absurd rfl h
theorem vAll (S : LwS D q n m) (hto : to ≤ n) (hz : ∀ j, n0 ≤ j → tk j = 0) (hF : ∀ j, F j ≤ 1000) (hI : ∀ j, j < 7 → I 24 j = nI (F j)) : ∀ f, VA xs Ln d D I q fr to tk vl n0 F f ∧ VB xs Ln d D I q fr to tk vl n0 F f := by
  have hn4 : n ≤ 400 := S.2.2.2.2.2.2.2.2.2.1
  intro f
  induction f with
  | zero => exact ⟨fun md dp pos lv sz dl p l c e _ _ h => (by cases h), fun md dp pos lv sz dl p l c e _ _ h => (by cases h)⟩
  | succ f ih =>
    obtain ⟨ihA, ihB⟩ := ih
    constructor
    · intro md dp pos lv sz dl p l c e hmd hp hr hl hc hsz h L Q hh hk hb
      by_cases h2 : md = 2
      · subst h2
        have hnt := nt_le tk hz 400 pos hp
        rw [rd_2] at hr
        split at hr
        · rename_i h140
          split at hr
          · cases hr
          · obtain ⟨p1, l1, c1', e1, h1, h3⟩ := rb_inr hr
            have hq := tk_p hz h140 (by decide)
            have b1 := rd_dn hF f _ _ _ _ _ _ p1 l1 c1' e1 (by omega) h1 (fun h => by omega)
            split at h3
            · cases h3
              have g1 := rd_lt hz f _ _ _ _ _ _ p1 l c1' e1 (by omega) (by omega) h1
              obtain ⟨k1, k2⟩ := cod_a hc
              rw [List.length_append] at hsz
              refine ihA 0 _ _ _ _ _ _ _ _ _ (by omega) (by omega) h1 hl k1 (by omega) h L Q hh ?_ ?_
              · intro x hx L' hs hx2
                refine V_tl S hto k2 (by omega) (by omega) hx2 ((b1 x hx).2 (by unfold tst; omega)) ?_
                intro L2 hs2 hx3
                have := hk (if (decide (nt tk 400 pos % 2 = 1)) = true then 1 - x else x) (by unfold dNot; rw [hx]) L2 (sam_tr (Nat.le_refl _) hs hs2) hx3
                rw [List.length_append, ← Nat.add_assoc] at this
                exact this
              · intro hx L'
                exact hb (by unfold dNot; rw [hx]) L'
            · cases h3
        · obtain ⟨p1, l1, c1', e1, h1, h3⟩ := rb_inr hr
          split at h3
          · cases h3
          · rename_i hcm
            have hq := cmp_p hz hcm
            obtain ⟨p2, l2, c2', e2, h5, h6⟩ := rb_inr h3
            cases h6
            have i1 := rd_ok hz f _ _ _ _ _ _ p1 l1 c1' e1 (by omega) hnt h1
            have g1 := rd_lt hz f _ _ _ _ _ _ p1 l1 c1' e1 (by omega) hnt h1
            have g2 := rd_lt hz f _ _ _ _ _ _ p l c2' e2 (by omega) (by omega) h5
            have b1 := rd_dn hF f _ _ _ _ _ _ p1 l1 c1' e1 (by omega) h1 (fun h => by omega)
            have b2 := rd_dn hF f _ _ _ _ _ _ p l c2' e2 (by omega) h5 (fun h => by omega)
            obtain ⟨k1, k2⟩ := cod_a hc
            obtain ⟨k3, k4⟩ := cod_a k2
            obtain ⟨k5, k6⟩ := cod_c k4
            rw [List.length_append, List.length_append, List.length_cons] at hsz
            refine ihA 3 _ _ _ _ _ _ _ _ _ (by omega) hnt h1 (by omega) k1 (by omega) h L Q hh ?_ ?_
            · intro x hx L' hs hx2
              refine ihA 3 _ _ _ _ _ _ _ _ _ (by omega) (by omega) h5 hl k3 (by omega) (h + 1) L' Q (by omega) ?_ ?_
              · intro y hy L2 hs2 hy2
                have hx3 : L2 (q + 3) h = lI x := by rw [hs2 h (by omega), hx2]
                refine V_ari S hto (cmp_8 hcm) (by omega) k5 (by omega) hx3 hy2 (b1 x hx).1 (b2 y hy).1 ?_ ?_
                · intro z hzz
                  refine V_tl S hto k6 (by omega) (by omega) (up2_s _ _ _ _) ((ari_s hzz).2 (cmp_6 hcm)) ?_
                  intro L3 hs3 hx4
                  have := hk (if (decide (nt tk 400 pos % 2 = 1)) = true then 1 - z else z) (by unfold dNot dAri; simp only [hx, hy, hzz]) L3 (sam_tr (Nat.le_refl _) (sam_tr (Nat.le_refl _) (sam_tr (Nat.le_succ _) hs hs2) sam_u) hs3) hx4
                  rw [List.length_append, List.length_append, List.length_cons] at this
                  rw [show sz + c1'.length + c2'.length + 1 + (tlN (decide (nt tk 400 pos % 2 = 1))).length = sz + (c1'.length + (c2'.length + ((tlN (decide (nt tk 400 pos % 2 = 1))).length + 1))) by omega]
                  exact this
                · intro hzz L3
                  exact hb (by unfold dNot dAri; simp only [hx, hy, hzz]) L3
              · intro hy L2
                exact hb (by unfold dNot dAri; simp only [hx, hy]) L2
            · intro hx L2
              exact hb (by unfold dNot dAri; simp only [hx]) L2
      · by_cases h5 : md = 5
        · subst h5
          rw [rd_5] at hr
          split at hr
          · rename_i h191
            have hq := tk_p hz h191 (by decide)
            split at hr
            · cases hr
            · obtain ⟨p1, l1, c1', e1, h1, h3⟩ := rb_inr hr
              split at h3
              · cases h3
                exact ihA 3 _ _ _ _ _ _ _ _ _ (by omega) (by omega) h1 hl hc hsz h L Q hh hk hb
              · cases h3
          · split at hr
            · rename_i hf
              cases hr
              obtain ⟨k1, -⟩ := cod_c hc
              simp only [List.length_cons, List.length_nil] at hsz hk
              have := hF (tk pos - 7)
              exact V_fact S hto (by omega) k1 rfl (by omega) (hI _ (by omega)) this (by omega) (hk _ rfl _ sam_u (up2_s _ _ _ _))
            · split at hr
              · rename_i hf
                cases hr
                obtain ⟨k1, -⟩ := cod_c hc
                simp only [List.length_cons, List.length_nil] at hsz hk
                exact V_num S hto (by omega) k1 rfl (by omega) (by omega) (hk _ rfl _ sam_u (up2_s _ _ _ _))
              · cases hr
        · rw [rd_r (by omega)] at hr
          obtain ⟨p1, l1, c1', e1, h1, h3⟩ := rb_inr hr
          obtain ⟨p2, l2, c2', e2, h7, h8⟩ := rb_inr h3
          cases h8
          have i1 := rd_ok hz f _ _ _ _ _ _ p1 l1 c1' e1 (by omega) hp h1
          have g1 := rd_lt hz f _ _ _ _ _ _ p1 l1 c1' e1 (by omega) hp h1
          have i2 := rd_ok hz f _ _ _ _ _ _ p l c2' e (by omega) (by omega) h7
          have b1 := rd_dn hF f _ _ _ _ _ _ p1 l1 c1' e1 (by omega) h1 (fun h => by omega)
          obtain ⟨k1, k2⟩ := cod_a hc
          rw [List.length_append] at hsz
          have hmd4 : md = 0 ∨ md = 1 ∨ md = 3 ∨ md = 4 := by omega
          refine ihA (md + 1) _ _ _ _ _ _ _ _ _ (by omega) hp h1 (by omega) k1 (by omega) h L Q hh ?_ ?_
          · intro x hx L' hs hx2
            refine ihB md _ _ _ _ _ _ _ _ _ (by omega) (by omega) h7 hl k2 (by omega) h L' Q x (by omega) hx ((b1 x hx).tr (by unfold tst; omega)) hx2 ?_ hb
            intro y hy L2 hs2 hy2
            have := hk y hy L2 (sam_tr (Nat.le_refl _) hs hs2) hy2
            rw [List.length_append, ← Nat.add_assoc] at this
            exact this
          · intro hx L'
            refine hb ?_ L'
            exact rd_no h7 hx
    · intro r dp pos lv sz dl p l c e hr5 hp hr hl hc hsz h L Q x0 hh hx0 hbd hx2 hk hb
      rw [rd_l] at hr
      split at hr
      · cases hr
        have := hk x0 hx0 L (fun _ _ => rfl) hx2
        simpa using this
      · rename_i hj
        have hq := jo_p hz hj
        have hjr := jo_r hj
        have hj5 := jo_5 hj
        split at hr
        · rename_i hlt
          obtain ⟨p1, l1, c1', e1, h1, h3⟩ := rb_inr hr
          obtain ⟨p2, l2, c2', e2, h7, h8⟩ := rb_inr h3
          cases h8
          have i1 := rd_ok hz f _ _ _ _ _ _ p1 l1 c1' e1 (by omega) (by omega) h1
          have i2 := rd_ok hz f _ _ _ _ _ _ p l c2' e (by omega) (by omega) h7
          have g1 := rd_lt hz f _ _ _ _ _ _ p1 l1 c1' e1 (by omega) (by omega) h1
          have b1 := rd_dn hF f _ _ _ _ _ _ p1 l1 c1' e1 (by omega) h1 (fun h => by omega)
          obtain ⟨k1, k2⟩ := cod_c hc
          obtain ⟨k3, k4⟩ := cod_a k2
          rw [List.length_cons, List.length_append] at hsz
          have hlen : sz + ((c1' ++ c2').length + 1) = sz + 1 + c1'.length + c2'.length := by rw [List.length_append]; omega
          have hkk : ∀ x, e F = some x → ∀ L', sam q h L L' → L' (q + 3) h = lI x → VG xs Ln d D I q fr to Q L' (h + 1) (sz + 1 + c1'.length + c2'.length) := by
            intro x hx L' hs hxx
            have := hk x hx L' hs hxx
            rw [List.length_cons, hlen] at this
            exact this
          have fin : ∀ y L', dJ (jo r (tk pos)) dl e1 F = some y → bd (10 + r) y → sam q h L L' → L' (q + 3) h = lI y → VG xs Ln d D I q fr to Q L' (h + 1) (sz + 1 + c1'.length) := by
            intro y L' hy hby hs hy2
            exact ihB r _ _ _ _ _ _ _ _ _ hr5 (by omega) h7 hl k4 (by omega) h L' Q y (by omega) hy hby hy2 (fun z hz L2 hs2 hz2 => hkk z hz L2 (sam_tr (Nat.le_refl _) hs hs2) hz2) hb
          have run : dJ (jo r (tk pos)) dl e1 F = e1 F → VG xs Ln d D I q fr to Q L h (sz + 1) := by
            intro hde
            refine ihA (r + 1) _ _ _ _ _ _ _ _ _ (by omega) (by omega) h1 (by omega) k3 (by omega) h L Q (by omega) ?_ ?_
            · intro y hy L' hs hy2
              exact fin y L' (by rw [hde, hy]) ((b1 y hy).tr (by unfold tst; omega)) hs hy2
            · intro hy L'
              exact hb (rd_no h7 (by rw [hde, hy])) L'
          rcases hj5.1 hlt with ⟨e10, rfl⟩ | ⟨e11, rfl⟩
          · rw [e10] at k1 fin run
            refine V_join10 S hto (by omega) k1 rfl (by omega) (by omega) (by omega) hx2 hbd.1 ?_ ?_
            · intro h1x
              exact fin x0 L (by unfold dJ; rw [hx0]; simp [h1x]) hbd (fun _ _ => rfl) hx2
            · intro h1x
              exact run (by unfold dJ; rw [hx0]; simp [h1x])
          · rw [e11] at k1 fin run
            refine V_join11 S hto (by omega) k1 rfl (by omega) (by omega) (by omega) hx2 hbd.1 ?_ ?_
            · intro h1x
              exact fin x0 L (by unfold dJ; rw [hx0]; simp [h1x]) hbd (fun _ _ => rfl) hx2
            · intro h1x
              exact run (by unfold dJ; rw [hx0]; simp [h1x])
        · rename_i hlt
          obtain ⟨p1, l1, c1', e1, h1, h3⟩ := rb_inr hr
          obtain ⟨p2, l2, c2', e2, h7, h8⟩ := rb_inr h3
          cases h8
          have i1 := rd_ok hz f _ _ _ _ _ _ p1 l1 c1' e1 (by omega) (by omega) h1
          have i2 := rd_ok hz f _ _ _ _ _ _ p l c2' e (by omega) (by omega) h7
          have g1 := rd_lt hz f _ _ _ _ _ _ p1 l1 c1' e1 (by omega) (by omega) h1
          have b1 := rd_dn hF f _ _ _ _ _ _ p1 l1 c1' e1 (by omega) h1 (fun h => by omega)
          obtain ⟨k1, k2⟩ := cod_a hc
          obtain ⟨k3, k4⟩ := cod_c k2
          rw [List.length_append, List.length_cons] at hsz
          refine ihA (r + 1) _ _ _ _ _ _ _ _ _ (by omega) (by omega) h1 (by omega) k1 (by omega) (h + 1) L Q (by omega) ?_ ?_
          · intro y hy L' hs hy2
            have hx3 : L' (q + 3) h = lI x0 := by rw [hs h (by omega), hx2]
            refine V_ari S hto (by have := hj5.2 hlt; omega) (by omega) k3 (by omega) hx3 hy2 hbd.1 (b1 y hy).1 ?_ ?_
            · intro z hzz
              refine ihB r _ _ _ _ _ _ _ _ _ hr5 (by omega) h7 hl k4 (by omega) h _ Q z (by omega) (by unfold dAri; simp only [hx0, hy, hzz]) ⟨(ari_s hzz).1, fun h => by unfold tst at h; omega⟩ (up2_s _ _ _ _) ?_ hb
              intro z2 hz2 L3 hs3 hz3
              have := hk z2 hz2 L3 (sam_tr (Nat.le_refl _) (sam_tr (Nat.le_refl _) (sam_tr (Nat.le_succ _) (fun _ _ => rfl) hs) sam_u) hs3) hz3
              rw [List.length_append, List.length_cons] at this
              rw [show sz + c1'.length + 1 + c2'.length = sz + (c1'.length + (c2'.length + 1)) by omega]
              exact this
            · intro hzz L3
              exact hb (rd_no h7 (by unfold dAri; simp only [hx0, hy, hzz])) L3
          · intro hy L'
            exact hb (rd_no h7 (by unfold dAri; simp only [hx0, hy])) L'
end VG
end P93
