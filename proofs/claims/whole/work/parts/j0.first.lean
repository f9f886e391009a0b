section Pj0
variable {xs : Nat → Int32} {Ln d : Nat} {D D' D'' : Dyn} {I I' I'' J : Nat → Nat → Int32} {L : Nat → Nat → Int64} {w : Om} {Q : Res → Prop} {ow ow' ow'' ky ky' ky'' ln ln' ln'' a a' : Nat → Nat} {o be sr : Nat} {A A' : As} {nn : Nat}
/-! the beginning -/
theorem allB_t {p : Nat → Bool} : ∀ n, allB p n = true → ∀ i, i < n → p i = true
  | 0, _, i, hi => by omega
  | n + 1, h, i, hi => by
    rw [allB_s, Bool.and_eq_true] at h
    by_cases e : i = n
    · rw [e]; exact h.2
    · exact allB_t n h.1 i (by omega)
def IW (w : Om) : Prop := oN w = 103 ∧ oS w ≤ 500000 ∧ (∀ k, k < 103 → oH w k = sh0 k) ∧ (∀ k j q, p0 k j = some q → oP w k j = some q) ∧ (∀ i, 1 ≤ i → i ≤ 16 → oP w (ob i) (fl i) = some (ky0 i) ∧ sh0 (ky0 i) = .inl (.int, ln0 i)) ∧ (∀ t, t < 6 → oP w 10 t = none) ∧ (∀ x, x ∈ fl0 → oI w x.1 x.2.1 = x.2.2) ∧ (∀ x, x ∈ rw0 → ∀ j, j < x.2 → oI w x.1 j = 0) ∧ (∀ j, j < 9134 → oI w 84 j = if j = 4326 then -1 else 0) ∧ (∀ j, j < 66 → oI w 87 j = nmB j)
theorem iw : ∃ wB w1, cE 4 85 [.ref 0] (mk w00 (.inr 10) (nF 10)) = some (wB, none) ∧ oN wB = 82 ∧ cE 2 159 [.ref 82] (mk wB (.inr 11) (nF 11)) = some (w1, none) ∧ IW w1 := by
  obtain ⟨wB, w1, hB, hn, h1⟩ := chB_ex chB_1
  refine ⟨wB, w1, hB, hn, h1, ?_⟩
  have a1 := chB_at chB_1 hB h1
  have a2 := chB_at chB_2 hB h1
  have a3 := chB_at chB_3 hB h1
  have a4 := chB_at chB_4 hB h1
  have a5 := chB_at chB_5 hB h1
  have a6 := chB_at chB_6 hB h1
  have a7 := chB_at chB_7 hB h1
  have a8 := chB_at chB_8 hB h1
  have c0 := chB_at chC_0 hB h1
  have c1' := chB_at chC_1 hB h1
  have c2 := chB_at chC_2 hB h1
  have c3 := chB_at chC_3 hB h1
  have c4 := chB_at chC_4 hB h1
  rw [Bool.and_eq_true] at a1
  refine ⟨of_decide_eq_true a1.1, of_decide_eq_true a1.2, fun k hk => of_decide_eq_true (allB_t _ a2 k hk), fun k j q hq => of_decide_eq_true (List.all_eq_true.mp a5 _ (p0_in hq)), fun i i1 i2 => ?_, fun t ht => of_decide_eq_true (allB_t _ a7 t ht), fun x hx => of_decide_eq_true (List.all_eq_true.mp a3 x hx), fun x hx j hj => of_decide_eq_true (allB_t _ (List.all_eq_true.mp a4 x hx) j hj), fun j hj => ?_, fun j hj => of_decide_eq_true (allB_t _ a8 j hj)⟩
  · have := allB_t _ a6 (i - 1) (by omega)
    rw [Bool.and_eq_true, show i - 1 + 1 = i by omega] at this
    exact ⟨of_decide_eq_true this.1, of_decide_eq_true this.2⟩
  · have key : ∀ K, (allB (fun c => allB (fun i => decide (oI w1 84 (K + 50 * c + i) = if K + 50 * c + i = 4326 then -1 else 0)) 50) 40) = true → K ≤ j → j < K + 2000 → oI w1 84 j = if j = 4326 then -1 else 0 := by
      intro K h k1 k2
      have := of_decide_eq_true (allB_t _ (allB_t _ h ((j - K) / 50) (by omega)) ((j - K) % 50) (by omega))
      rw [show K + 50 * ((j - K) / 50) + (j - K) % 50 = j by omega] at this
      exact this
    by_cases q0 : j < 2000
    · exact key 0 c0 (by omega) (by omega)
    · by_cases q1 : j < 4000
      · exact key 2000 c1' (by omega) (by omega)
      · by_cases q2 : j < 6000
        · exact key 4000 c2 (by omega) (by omega)
        · by_cases q3 : j < 8000
          · exact key 6000 c3 (by omega) (by omega)
          · exact key 8000 c4 (by omega) (by omega)
def D00 (w : Om) : Dyn := (0, oS w, oH w, oP w)
theorem IW.pf {w : Om} (h : IW w) : pF (D00 w) = oP w := by
  funext k j
  unfold pF
  split
  · rename_i q hq
    exact (h.2.2.2.1 k j q hq).symm
  · rfl
theorem IW.sf {w : Om} (h : IW w) : shF (D00 w) = oH w := by
  funext k
  unfold shF
  by_cases hk : k < 103
  · rw [if_pos hk]; exact (h.2.2.1 k hk).symm
  · rw [if_neg hk]; rfl
theorem IW.mk {w : Om} (h : IW w) : w = mkW (D00 w) (oI w) (oL w) := by
  show w = (103 + 0, oS w, shF (D00 w), oI w, oL w, pF (D00 w))
  rw [h.pf, h.sf]
  have e : w = (oN w, oS w, oH w, oI w, oL w, oP w) := rfl
  rw [h.1] at e
  exact e
def a00 (j : Nat) : Nat := if 124 ≤ j ∧ j < 140 then 1 else 0
def A00 : As := (a00, fun _ => none, 0, fun _ => 0, 0, none, fun _ => 0, 0, none)
theorem a00_z {j : Nat} (h : ¬ (124 ≤ j ∧ j < 140)) : a00 j = 0 := by unfold a00; rw [if_neg h]
theorem smN_0 {f : Nat → Nat} : ∀ n, (∀ i, i < n → f i = 0) → smN f n = 0
  | 0, _ => rfl
  | n + 1, h => by
    show smN f n + f n = 0
    rw [smN_0 n (fun i hi => h i (by omega)), h n (by omega)]
theorem AW_00 : AW a00 := by
  unfold AW
  rw [a00_z (j := 4320) (by omega), a00_z (j := 4321) (by omega), a00_z (j := 4322) (by omega), a00_z (j := 4323) (by omega), a00_z (j := 4324) (by omega), a00_z (j := 4325) (by omega), a00_z (j := 4326) (by omega), a00_z (j := 4327) (by omega)]
  exact ⟨by omega, by omega, by omega, by omega, by omega, by omega, by omega, by omega, fun p hp => by omega, fun w hw => by omega, fun w p hw => by omega, fun k w hk hw => by omega, fun i hi => by omega, fun i hi => by omega, fun t ht => by omega, smN_0 4096 (fun i hi => a00_z (by omega))⟩
def ow00 (k : Nat) : Nat := if 30 ≤ k ∧ k ≤ 33 then k - 29 else if 36 ≤ k ∧ k ≤ 41 then k - 31 else if 44 ≤ k ∧ k ≤ 49 then k - 33 else 17
theorem ky0_d {i : Nat} (h1 : 1 ≤ i) (h2 : i ≤ 16) : ow00 (ky0 i) = i ∧ dy (ky0 i) ∧ ky0 i < 103 := by
  unfold ky0
  by_cases a : i ≤ 4
  · rw [if_pos a]
    unfold ow00 dy
    rw [if_pos (by omega)]
    omega
  · rw [if_neg a]
    by_cases b : i ≤ 10
    · rw [if_pos b]
      unfold ow00 dy
      rw [if_neg (by omega), if_pos (by omega)]
      omega
    · rw [if_neg b]
      unfold ow00 dy
      rw [if_neg (by omega), if_neg (by omega), if_pos (by omega)]
      omega
theorem ln0_b {i : Nat} (h1 : 1 ≤ i) : 16 ≤ ln0 i ∧ ln0 i ≤ 262144 := by
  unfold ln0
  rw [if_neg (by omega)]
  split <;> omega
theorem CI_00 {w : Om} (h : IW w) : CI (D00 w) (oI w) A00 0 := by
  obtain ⟨hN, hS, hH, hP, hG, hL, hF, hR, h84, h87⟩ := id h
  have epf := h.pf
  have esf := h.sf
  have z20 : sa A00 4320 = 0 := a00_z (j := 4320) (by omega)
  have z21 : sa A00 4321 = 0 := a00_z (j := 4321) (by omega)
  have z22 : sa A00 4322 = 0 := a00_z (j := 4322) (by omega)
  have z23 : sa A00 4323 = 0 := a00_z (j := 4323) (by omega)
  have z24 : sa A00 4324 = 0 := a00_z (j := 4324) (by omega)
  have z25 : sa A00 4325 = 0 := a00_z (j := 4325) (by omega)
  have z26 : sa A00 4326 = 0 := a00_z (j := 4326) (by omega)
  have z27 : sa A00 4327 = 0 := a00_z (j := 4327) (by omega)
  have e298 : oI w 29 8 = m1 := hF (29, 8, -1) (by decide)
  have e343 : oI w 34 3 = m1 := hF (34, 3, -1) (by decide)
  have e423 : oI w 42 3 = m1 := hF (42, 3, -1) (by decide)
  have e230 : oI w 23 0 = nI 0 := hF (23, 0, 0) (by decide)
  have hne : ¬ m1 = nI 0 := by decide
  refine ⟨ow00, ky0, ln0, ?_, ?_, ?_, ⟨?_, AW_00, ?_, ?_⟩, ?_, ?_, ?_, ?_, ?_, 0, ?_, Nat.le_refl _⟩
  · intro k hk h1 h2
    unfold ow00 at h1 h2
    unfold dy
    by_cases a : 30 ≤ k ∧ k ≤ 33
    · omega
    · rw [if_neg a] at h1 h2
      by_cases b : 36 ≤ k ∧ k ≤ 41
      · omega
      · rw [if_neg b] at h1 h2
        by_cases c : 44 ≤ k ∧ k ≤ 49
        · omega
        · rw [if_neg c] at h1 h2
          omega
  · intro i h1 h2
    obtain ⟨k1, k2, k3⟩ := ky0_d h1 h2
    obtain ⟨g1, g2⟩ := hG i h1 h2
    rw [epf, esf, hH _ k3]
    exact ⟨g1, g2, k1, k2, by show ky0 i < 103 + 0; omega, ln0_b h1⟩
  · refine ⟨?_, ?_, rfl⟩
    · show oS w ≤ zB + 600 * 0 + 2 * smN ln0 17
      unfold zB
      omega
    · show 16 * 0 ≤ oS w
      omega
  · unfold MzI
    rw [z20, z21, z22, z23, z25, z26, z27]
    exact ⟨hF (1, 0, 0) (by decide), hF (1, 1, 0) (by decide), hF (1, 2, 0) (by decide), hF (1, 3, 0) (by decide), hF (1, 4, -1) (by decide), hF (1, 5, 0) (by decide), hF (1, 6, 0) (by decide), fun p hp => by omega, fun w hw => by omega, fun w p hw => by omega, fun k w hk hw => by omega, fun i hi => by omega, fun i hi => by omega⟩
  · refine ⟨fun t ht => by rw [z25] at ht; omega, fun t ht q hq => ?_⟩
    rw [epf] at hq
    have := hL t ht
    have hq' : oP w 10 t = some q := hq
    rw [this] at hq'
    cases hq'
  · refine ⟨fun e he => ⟨0, 0, by decide, by decide, hR (27, 8) (by decide) e he, hR (28, 8) (by decide) e he, fun w hw => ?_, fun w => ?_⟩, fun k e hk he => ⟨0, by decide, hR (26, 16) (by decide) (k * 8 + e) (by show k * 8 + e < 16; omega), fun w hw => ?_⟩⟩
    · rw [Nat.zero_testBit] at hw; cases hw
    · rw [Nat.zero_testBit, Bool.false_and]
    · rw [Nat.zero_testBit] at hw; cases hw
  · refine ⟨0, fun _ => 0, by omega, hF (11, 0, 0) (by decide), ?_, fun i hi => by omega, fun i j _ hj => by omega, fun x hx hp => ?_⟩
    · rw [z24]; exact hF (11, 1, 0) (by decide)
    · rw [show sa A00 (224 + x) = 0 from a00_z (j := 224 + x) (by omega)] at hp
      omega
  · refine ⟨fun k hk => ⟨?_, fun b hb => by cases hb⟩, hF (0, 12, 0) (by decide), fun j hj => hR (80, 7) (by decide) j hj, hF (0, 14, 0) (by decide), hF (0, 13, -1) (by decide), ⟨hF (14, 0, 0) (by decide), Nat.zero_le _, fun j hj => ⟨hR (15, 400) (by decide) j hj, by show 0 < 256; decide⟩⟩, hF (50, 0, 0) (by decide)⟩
    have : k = 0 ∨ k = 1 := by omega
    rcases this with rfl | rfl
    · exact hF (79, 0, 0) (by decide)
    · exact hF (79, 1, 0) (by decide)
  · refine ⟨⟨(0, fun _ => 0, fun _ => none, fun _ => 0, fun _ => 0), hF (29, 2, 0) (by decide), Nat.zero_le _, by decide, by decide, ⟨4, by decide, by decide⟩, ⟨4, by decide, by decide⟩, fun i hi => by have : i < 0 := hi; omega, fun t ht => hR (30, 16) (by decide) t ht⟩, fun he => ?_⟩
    rw [e298, e230] at he
    exact absurd he hne
  · refine ⟨⟨0, fun _ => 0, hF (34, 5, 0) (by decide), Nat.zero_le _, by decide, by decide, by decide, by decide, ⟨4, by decide, by decide⟩, ⟨4, by decide, by decide⟩, fun i hi => by omega, fun t ht => hR (36, 16) (by decide) t ht⟩, fun he => ?_⟩
    rw [e343, e230] at he
    exact absurd he hne
  · refine ⟨⟨0, fun _ => 0, hF (42, 5, 0) (by decide), Nat.zero_le _, by decide, by decide, by decide, by decide, ⟨4, by decide, by decide⟩, ⟨4, by decide, by decide⟩, fun i hi => by omega, fun t ht => hR (44, 16) (by decide) t ht⟩, fun he => ?_⟩
    rw [e423, e230] at he
    exact absurd he hne
  · exact ⟨e230, ⟨none, e298, fun x hx => by cases hx⟩, ⟨none, e343, fun x hx => by cases hx⟩, ⟨none, e423, fun x hx => by cases hx⟩⟩
theorem RI_00 {w : Om} (h : IW w) : RI (oI w) A00 0 := by
  obtain ⟨hN, hS, hH, hP, hG, hL, hF, hR, h84, h87⟩ := h
  have e821 : oI w 82 1 = nI 0 := hF (82, 1, 0) (by decide)
  have e8227 : oI w 82 27 = m1 := hF (82, 27, -1) (by decide)
  have e8239 : oI w 82 39 = m1 := hF (82, 39, -1) (by decide)
  have hne : ¬ m1 = nI 0 := by decide
  refine ⟨⟨fun j hj => ?_, fun j hj => ?_, fun j j1 j2 j3 => ?_, ?_⟩, AW_00, ⟨0, ⟨e821, by decide, ⟨none, e8227, fun x hx => by cases hx⟩, fun he => ?_, ⟨none, e8239, fun x hx => by cases hx⟩, fun he => ?_⟩, Nat.le_refl _⟩, fun k hk => ⟨?_, fun b hb => by cases hb⟩, hF (82, 0, 0) (by decide), fun j hj => hR (83, 7) (by decide) j hj, hF (82, 6, 0) (by decide), hF (82, 11, -1) (by decide), ⟨hF (82, 10, 0) (by decide), Nat.zero_le _, fun j hj => ⟨hR (88, 400) (by decide) j hj, by show 0 < 256; decide⟩⟩, hF (82, 41, -1) (by decide), h87⟩
  · rw [h84 j (by omega), if_neg (by omega), show sa A00 j = 0 from a00_z (j := j) (by omega)]; rfl
  · rw [h84 _ (by omega), if_neg (by omega), show sa A00 (124 + j) = 1 from by show a00 (124 + j) = 1; unfold a00; rw [if_pos (by omega)]]; rfl
  · rw [h84 j j2, if_neg j3, show sa A00 j = 0 from a00_z (j := j) (by omega)]; rfl
  · rw [h84 4326 (by decide), if_pos rfl, show sa A00 4326 = 0 from a00_z (j := 4326) (by omega)]; rfl
  · rw [e8227, e821] at he; exact absurd he hne
  · rw [e8239, e821] at he; exact absurd he hne
  · have : k = 0 ∨ k = 1 := by omega
    rcases this with rfl | rfl
    · exact hF (86, 0, 0) (by decide)
    · exact hF (86, 1, 0) (by decide)
end Pj0
