section P88
variable {xs : Nat → Int32} {Ln d : Nat} {D : Dyn} {I : Nat → Nat → Int32} {L : Nat → Nat → Int64} {w : Om}
/-! The simple questions, as answers of As. -/
theorem nI_sb {a b : Nat} (h : b ≤ a) : nI a - nI b = nI (a - b) := by
  have e : nI a = nI (a - b) + nI b := by rw [nI_add]; congr 1; omega
  rw [e, Int32.add_sub_cancel]
def hdF (A : As) (s : Nat) : Nat := sa A (224 + s)
theorem RI.hf {A : As} {nn : Nat} (h : RI I A nn) : ∀ j, j < 4096 → I 84 (224 + j) = nI (hdF A j) ∧ hdF A j < 2147483648 := fun j hj => by
  have := h.sm hj
  have h5 := h.2.1.2.2.2.2.1
  unfold hdF
  exact ⟨h.e (by omega) (by omega) (by omega), by omega⟩
def qHeld (A : As) (v : Int32) : Int32 := if inN v (nI 4096) = true then nI (hdF A v.toNatClampNeg) else -1
theorem R_held {A : As} {nn : Nat} {v : Int32} (h : RI I A nn) : RCall xs Ln (d + 3) 253 [.ref 82, .int v] D I L A nn (qHeld A v) := by
  unfold qHeld
  cases h0 : inN v (nI 4096) with
  | false => exact RC_id h (r_heldN (by rw [iR40, h0]))
  | true =>
    rw [if_pos rfl]
    obtain ⟨v, hv, rfl⟩ := inN_t (by decide) h0
    have hc := r_held (xs := xs) (Ln := Ln) (d := d) (D := D) (I := I) (L := L) (v := v) (by rw [iR40, h0]) hv
    rw [(h.hf v hv).1] at hc
    rw [n_cl (by omega)]
    exact RC_id h hc
def qRank (A : As) (v : Int32) : Int32 := if inN v (nI 4096) = true then nI (blw (hdF A) v.toNatClampNeg) else -1
theorem R_rank {A : As} {nn : Nat} {v : Int32} (h : RI I A nn) : RCall xs Ln (d + 3) 256 [.ref 82, .int v] D I L A nn (qRank A v) := by
  unfold qRank
  cases h0 : inN v (nI 4096) with
  | false => exact RC_id h (r_rankN (by rw [iR40, h0]))
  | true =>
    rw [if_pos rfl]
    obtain ⟨v, hv, rfl⟩ := inN_t (by decide) h0
    rw [n_cl (by omega)]
    exact RC_id h (r_rank (by rw [iR40, h0]) hv h.hf)
def qBetw (A : As) (x y : Int32) : Int32 := if (inN x (nI 4096) && inN y (nI 4096) && decide (x.toNatClampNeg ≤ y.toNatClampNeg)) = true then nI (blw (hdF A) (y.toNatClampNeg + 1) - blw (hdF A) x.toNatClampNeg) else -1
theorem inR_lo {x y : Int32} (hx : inN x (nI 4096) = true) : inR y x 4095 = (inN y (nI 4096) && decide (x.toNatClampNeg ≤ y.toNatClampNeg)) := by
  obtain ⟨x, hx', rfl⟩ := inN_t (by decide) hx
  cases hy : inN y (nI 4096) with
  | true =>
    obtain ⟨y, hy', rfl⟩ := inN_t (by decide) hy
    unfold inR
    rw [n_cl (by omega), n_cl (by omega)]
    have e1 : (nI y < nI x) = (y < x) := n_lt (by omega) (by omega)
    have e2 : ((4095 : Int32) < nI y) = (4095 < y) := n_lt (a := 4095) (by decide) (by omega)
    by_cases h : x ≤ y
    · rw [decide_eq_false (by rw [e1]; omega), decide_eq_false (by rw [e2]; omega), decide_eq_true h]; rfl
    · rw [decide_eq_true (by rw [e1]; omega), decide_eq_false h]; rfl
  | false =>
    rw [← iR40] at hy
    unfold inR at hy ⊢
    have h0 : (0 : Int32) ≤ nI x := by
      have := n_le (a := 0) (b := x) (by decide) (by omega)
      show nI 0 ≤ nI x
      rw [this]
      omega
    by_cases h1 : y < 0
    · have : y < nI x := by
        rw [Int32.lt_iff_toInt_lt] at h1 ⊢
        rw [Int32.le_iff_toInt_le] at h0
        omega
      rw [decide_eq_true this]; rfl
    · rw [decide_eq_false h1] at hy
      simp only [Bool.not_false, Bool.true_and] at hy
      rw [hy, Bool.and_false, Bool.false_and]
theorem R_betw {A : As} {nn : Nat} {x y : Int32} (h : RI I A nn) : RCall xs Ln (d + 3) 259 [.ref 82, .int x, .int y] D I L A nn (qBetw A x y) := by
  unfold qBetw
  cases h0 : inN x (nI 4096) with
  | false => exact RC_id h (r_betweenN (by rw [iR40, h0]; exact Or.inl rfl))
  | true =>
    have he := inR_lo (y := y) h0
    rw [Bool.true_and]
    cases h1 : inN y (nI 4096) && decide (x.toNatClampNeg ≤ y.toNatClampNeg) with
    | false => exact RC_id h (r_betweenN (by rw [he, h1]; exact Or.inr rfl))
    | true =>
      rw [if_pos rfl]
      rw [h1] at he
      rw [Bool.and_eq_true] at h1
      obtain ⟨h1, h2⟩ := h1
      have h2 := of_decide_eq_true h2
      obtain ⟨x, hx, rfl⟩ := inN_t (by decide) h0
      obtain ⟨y, hy, rfl⟩ := inN_t (by decide) h1
      rw [n_cl (by omega), n_cl (by omega)] at h2 ⊢
      have hc := r_between (xs := xs) (Ln := Ln) (d := d) (D := D) (I := I) (L := L) (a := x) (b := y) (by rw [iR40, h0]) he hx hy h.hf
      have hm := blw_mono (hdF A) (show x ≤ y + 1 by omega)
      rw [show nI (blw (hdF A) (y + 1)) - nI (blw (hdF A) x) = nI (blw (hdF A) (y + 1) - blw (hdF A) x) from nI_sb hm] at hc
      exact RC_id h hc
def qKth (A : As) (v : Int32) : Int32 := if v = m1 then nI (blw (hdF A) 4096) else if v < 0 then -1 else match lst (fun n => decide (0 < hdF A n) && decide (blw (hdF A) n = v.toNatClampNeg)) 4096 with
  | some n => nI n
  | none => -1
theorem blw_hit (f : Nat → Nat) : ∀ n v, v < blw f n → ∃ i, i < n ∧ 0 < f i ∧ blw f i = v
  | 0, v, h => by
    have : blw f 0 = 0 := rfl
    omega
  | n + 1, v, h => by
    rw [blw_s] at h
    by_cases h1 : v < blw f n
    · obtain ⟨i, h2, h3⟩ := blw_hit f n v h1
      exact ⟨i, by omega, h3⟩
    · by_cases h2 : 0 < f n
      · rw [if_pos h2] at h
        exact ⟨n, by omega, h2, by omega⟩
      · rw [if_neg h2] at h
        omega
theorem R_kth {A : As} {nn : Nat} {v : Int32} (h : RI I A nn) : RCall xs Ln (d + 2) 255 [.ref 82, .int v] D I L A nn (qKth A v) := by
  unfold qKth
  by_cases h1 : v = m1
  · rw [if_pos h1, h1]
    exact RC_id h (r_kthM h.hf)
  · rw [if_neg h1]
    by_cases h2 : v < 0
    · rw [if_pos h2]
      exact RC_id h (r_kthG h2 h1)
    · rw [if_neg h2]
      obtain ⟨n, hlt, hv⟩ := nI_of h2
      rw [show v.toNatClampNeg = n by rw [hv]; exact n_cl hlt]
      cases hl : lst (fun i => decide (0 < hdF A i) && decide (blw (hdF A) i = n)) 4096 with
      | some i =>
        obtain ⟨q1, q2, q3⟩ := (lst_s _ _ _).mp hl
        rw [Bool.and_eq_true] at q2
        have q4 := of_decide_eq_true q2.1
        have q5 := of_decide_eq_true q2.2
        have hc := r_kth (xs := xs) (Ln := Ln) (d := d) (D := D) (I := I) (L := L) (n := i) q1 h.hf q4
        rw [q5, ← hv] at hc
        exact RC_id h hc
      | none =>
        have hn := (lst_n _ _).mp hl
        have : blw (hdF A) 4096 ≤ n := by
          by_cases hb : blw (hdF A) 4096 ≤ n
          · exact hb
          · obtain ⟨i, q1, q2, q3⟩ := blw_hit (hdF A) 4096 n (by omega)
            have := hn i q1
            rw [decide_eq_true q2, decide_eq_true q3] at this
            cases this
        have hc := r_kthN (xs := xs) (Ln := Ln) (d := d) (D := D) (I := I) (L := L) (v := n) hlt h.hf this
        rw [← hv] at hc
        exact RC_id h hc
def qAbout (A : As) (x y : Int32) : Int32 := if inN x (nI 4096) = false then -1 else if y = 0 then nI (cntB (fun s => sbI (nI s) x && decide (0 < hdF A s)) 4096) else if y = 1 then nI (cntB (fun s => sbI x (nI s) && decide (0 < hdF A s)) 4096) else if y = 2 then (match lst (fun s => sbI x (nI s) && decide (0 < hdF A s)) 4096 with
  | some n => nI n
  | none => -1) else -1
theorem in3 {y : Int32} (h0 : ¬ y = 0) (h1 : ¬ y = 1) (h2 : ¬ y = 2) : inR y 0 2 = false := by
  cases h : inR y 0 2 with
  | false => rfl
  | true =>
    rw [show inR y 0 2 = inN y (nI 3) from inR_inN (n := 3) (by decide)] at h
    obtain ⟨i, hi, rfl⟩ := inN_t (by decide) h
    have : i = 0 ∨ i = 1 ∨ i = 2 := by omega
    rcases this with rfl | rfl | rfl
    · exact absurd rfl h0
    · exact absurd rfl h1
    · exact absurd rfl h2
theorem R_about {A : As} {nn : Nat} {x y : Int32} (h : RI I A nn) : RCall xs Ln (d + 3) 257 [.ref 82, .int x, .int y] D I L A nn (qAbout A x y) := by
  unfold qAbout
  cases h0 : inN x (nI 4096) with
  | false => exact RC_id h (r_aboutN (by rw [iR40, h0]; exact Or.inl rfl))
  | true =>
    rw [if_neg (by decide)]
    by_cases y0 : y = 0
    · rw [if_pos y0, y0]
      exact RC_id h (r_about0 (by rw [iR40, h0]) h.hf)
    · rw [if_neg y0]
      by_cases y1 : y = 1
      · rw [if_pos y1, y1]
        exact RC_id h (r_about1 (by rw [iR40, h0]) h.hf)
      · rw [if_neg y1]
        by_cases y2 : y = 2
        · rw [if_pos y2, y2]
          cases hl : lst (fun s => sbI x (nI s) && decide (0 < hdF A s)) 4096 with
          | some i =>
            obtain ⟨q1, q2, q3⟩ := (lst_s _ _ _).mp hl
            rw [Bool.and_eq_true] at q2
            refine RC_id h (r_about2 (by rw [iR40, h0]) h.hf q1 (fun s hs hb => ?_) (of_decide_eq_true q2.2) q2.1)
            have := q3 s hs
            rw [hb, Bool.true_and] at this
            have := of_decide_eq_false this
            omega
          | none =>
            have hn := (lst_n _ _).mp hl
            refine RC_id h (r_about2N (by rw [iR40, h0]) h.hf (fun s hs hb => ?_))
            have := hn s hs
            rw [hb, Bool.true_and] at this
            have := of_decide_eq_false this
            omega
        · rw [if_neg y2]
          exact RC_id h (r_aboutN (Or.inr (in3 y0 y1 y2)))
def qNear (A : As) (x y : Int32) : Int32 := if (inN x (nI 4096) && inN y (nI 2)) = false then -1 else if (nrF (hdF A) x.toNatClampNeg 4096).1 = 0 ∨ y = 0 then nI (nrF (hdF A) x.toNatClampNeg 4096).1 - 1 else nI (nrF (hdF A) x.toNatClampNeg 4096).2
theorem R_near {A : As} {nn : Nat} {x y : Int32} (h : RI I A nn) : RCall xs Ln (d + 3) 258 [.ref 82, .int x, .int y] D I L A nn (qNear A x y) := by
  unfold qNear
  cases h0 : inN x (nI 4096) with
  | false => exact RC_id h (r_nearN (by rw [iR40, h0]; exact Or.inl rfl))
  | true =>
    cases h1 : inN y (nI 2) with
    | false => exact RC_id h (r_nearN (by rw [iR2, h1]; exact Or.inr rfl))
    | true =>
      rw [if_neg (by decide)]
      obtain ⟨x, hx, rfl⟩ := inN_t (by decide) h0
      rw [n_cl (by omega)]
      exact RC_id h (r_near hx (by rw [iR40, h0]) (by rw [iR2, h1]) h.hf)
def qWhere (A : As) (v : Int32) : Int32 := if inN v (nI (sa A 4322)) = true then nI (sa A (140 + 2 * v.toNatClampNeg)) else -1
theorem R_where {A : As} {nn : Nat} {v : Int32} (h : RI I A nn) : RCall xs Ln (d + 2) 261 [.ref 82, .int v] D I L A nn (qWhere A v) := by
  have h12 := h.2.1.2.2.1
  have e : inR v 0 (I 84 4322 - 1) = inN v (nI (sa A 4322)) := by
    rw [h.e (by decide) (by decide) (by decide)]
    exact inR_inN (by omega)
  unfold qWhere
  cases h0 : inN v (nI (sa A 4322)) with
  | false => exact RC_id h (r_whereN (by rw [e, h0]))
  | true =>
    rw [if_pos rfl]
    obtain ⟨v, hv, rfl⟩ := inN_t (by omega) h0
    have hc := r_where (xs := xs) (Ln := Ln) (d := d) (D := D) (I := I) (L := L) (n := v) (by rw [e, h0]) (by omega)
    rw [h.e (by omega) (by omega) (by omega)] at hc
    rw [n_cl (by omega)]
    exact RC_id h hc
def qDrawn (A : As) (v : Int32) : Int32 := match shn A with
  | none => -1
  | some q => if v = m1 then nI q.2.1 else if inN v (nI q.1) = true then nI (q.2.2 v.toNatClampNeg) else -1
theorem R_drawn {A : As} {nn : Nat} {v : Int32} (h : RI I A nn) : RCall xs Ln (d + 3) 264 [.ref 82, .int v] D I L A nn (qDrawn A v) := by
  have h10 := h.2.2.2.2.2.2.2.2.2.1
  unfold qDrawn
  cases hs : shn A with
  | none =>
    rw [hs] at h10
    exact RC_id h (r_drawn0 h10)
  | some q =>
    rw [hs] at h10
    obtain ⟨q1, q2, q3, q4, q5⟩ := h10
    have hne : ¬ I 82 41 = -1 := by
      rw [q1]
      intro he
      have := m1_n (a := q.1) (by omega)
      rw [← this]
      exact he.symm
    dsimp only
    by_cases h1 : v = m1
    · rw [if_pos h1, h1, ← q3]
      exact RC_id h (r_drawnD hne)
    · rw [if_neg h1]
      have e : inR v 0 (I 82 41 - 1) = inN v (nI q.1) := by rw [q1]; exact inR_inN (by omega)
      cases h0 : inN v (nI q.1) with
      | false => exact RC_id h (r_drawnN hne h1 (by rw [e, h0]))
      | true =>
        rw [if_pos rfl]
        obtain ⟨v, hv, rfl⟩ := inN_t (by omega) h0
        have hc := r_drawn (xs := xs) (Ln := Ln) (d := d) (D := D) (I := I) (L := L) (v := v) hne h1 (by rw [e, h0]) (by omega)
        rw [q5 v hv] at hc
        rw [n_cl (by omega)]
        exact RC_id h hc
def qCount (A : As) (v : Int32) : Int32 := if v = 0 then nI (sa A 4320) else if v = 1 then nI (sa A 4321) else if v = 2 then nI (sa A 4325) else if v = 3 then nI (sa A 4323) else if v = 4 then nI (sa A 4324) else if v = 5 then nI (sa A 4322) else if v = 6 then nI (stn A) else if v = 7 then nI (srf A 1) else if v = 8 then nI (srf A 2) else if v = 9 then nI (srf A 3) else if v = 10 then nI (srf A 5) else if v = 11 then nI (srf A 6) else if v = 12 then nM (sa A 4326) else if v = 13 then nI (sa A 4327) else -1
theorem R_count {A : As} {nn : Nat} {v : Int32} (h : RI I A nn) : RCall xs Ln (d + 2) 265 [.ref 82, .int v] D I L A nn (qCount A v) := by
  have h6 := h.2.2.2.2.2.1
  have h9 := h.2.2.2.2.2.2.2.2.1
  have hc := r_countG (xs := xs) (Ln := Ln) (d := d) (D := D) (I := I) (L := L) (v := v)
  have e : cntR I v = qCount A v := by
    unfold cntR qCount
    rw [h.e (show 140 ≤ 4320 by decide) (by decide) (by decide), h.e (show 140 ≤ 4321 by decide) (by decide) (by decide), h.e (show 140 ≤ 4322 by decide) (by decide) (by decide), h.e (show 140 ≤ 4323 by decide) (by decide) (by decide), h.e (show 140 ≤ 4324 by decide) (by decide) (by decide), h.e (show 140 ≤ 4325 by decide) (by decide) (by decide), h.e (show 140 ≤ 4327 by decide) (by decide) (by decide), h.1.2.2.2, h9.1, h6 1 (by decide), h6 2 (by decide), h6 3 (by decide), h6 5 (by decide), h6 6 (by decide)]
  rw [e] at hc
  exact RC_id h hc
theorem R_status {A : As} {nn : Nat} (h : RI I A nn) : RCall xs Ln (d + 1) 266 [.ref 82] D I L A nn (sst A) := by
  have hc := r_status (xs := xs) (Ln := Ln) (d := d) (D := D) (I := I) (L := L)
  rw [h.2.2.2.2.1] at hc
  exact RC_id h hc
theorem R_stray {A : As} {nn : Nat} (h : RI I A nn) : RCall xs Ln (d + 1) 175 [.ref 82] D I L A nn (nI (ssy A)) := by
  have hc := r_stray (xs := xs) (Ln := Ln) (d := d) (D := D) (I := I) (L := L)
  rw [h.2.2.2.2.2.2.1] at hc
  exact RC_id h hc
theorem R_fault {A : As} {nn : Nat} (h : RI I A nn) : RCall xs Ln (d + 1) 197 [.ref 82] D I L A nn (nO (sfl A)) := by
  have hc := r_fault (xs := xs) (Ln := Ln) (d := d) (D := D) (I := I) (L := L)
  rw [h.2.2.2.2.2.2.2.1] at hc
  exact RC_id h hc
end P88
