section Pb3
section LV
variable {beh : Nat → Nat → Option Nat} {V : Nat → Prop} {st : Nat}
/-- a search by levels -/
theorem lev_e (hI : ∀ e, BI beh V st (bfs beh st e) e) {f lv : Nat} (hf : f < bN (bfs beh st (8 * f))) (h1 : ∀ j, j < f → Fi (bfs beh st (8 * f)) j < lv) (h2 : ∀ j, f ≤ j → j < bN (bfs beh st (8 * f)) → Fi (bfs beh st (8 * f)) j = lv) {e : Nat} (he : 8 * f ≤ e) (hel : e ≤ 8 * bN (bfs beh st (8 * f))) :
    bN (bfs beh st (8 * f)) ≤ bN (bfs beh st e) ∧ (∀ j, j < bN (bfs beh st (8 * f)) → bQ (bfs beh st e) j = bQ (bfs beh st (8 * f)) j ∧ Fi (bfs beh st e) j = Fi (bfs beh st (8 * f)) j) ∧ (∀ j, bN (bfs beh st (8 * f)) ≤ j → j < bN (bfs beh st e) → Fi (bfs beh st e) j = lv + 1) := by
  have hx := bfs_x (beh := beh) (st := st) (8 * f) (e - 8 * f)
  rw [show 8 * f + (e - 8 * f) = e by omega] at hx
  have hI0 := hI (8 * f)
  have hIe := hI e
  have hlow : ∀ j, j < bN (bfs beh st (8 * f)) → bQ (bfs beh st e) j = bQ (bfs beh st (8 * f)) j ∧ Fi (bfs beh st e) j = Fi (bfs beh st (8 * f)) j := fun j hj => ⟨hx.2.1 j hj, hx.F hI0 hj⟩
  refine ⟨hx.1, hlow, fun j hj hj2 => ?_⟩
  obtain ⟨g1, g2, g3, g4⟩ := hIe.2.2.2.2.2.2.2.1 j (by omega) hj2
  have hp : bP (bfs beh st e) j / 8 < bN (bfs beh st (8 * f)) := by omega
  obtain ⟨q1, q2⟩ := hlow _ hp
  rw [g4, q2]
  by_cases hpf : bP (bfs beh st e) j / 8 < f
  · exfalso
    rw [q1] at g3
    obtain ⟨j', r1, r2, -, -⟩ := hI0.2.2.2.2.2.2.2.2.2.1 (bP (bfs beh st e) j) (by omega) hp _ g3
    have := hIe.2.2.2.2.1 j' j (by omega) hj2 (by rw [(hlow j' r1).1, r2])
    omega
  · rw [h2 _ (by omega) hp]
theorem bZ_xe {e : Nat} (he : e ≤ 262144) : Ext (bfs beh st e) (bZ beh st) := by
  rw [bZ_e]
  have := bfs_x (beh := beh) (st := st) e (262144 - e)
  rw [show e + (262144 - e) = 262144 by omega] at this
  exact this
/-- behind a level all is farther -/
theorem lev_z (hI : ∀ e, BI beh V st (bfs beh st e) e) {f lv : Nat} (hf : f < bN (bfs beh st (8 * f))) (h1 : ∀ j, j < f → Fi (bfs beh st (8 * f)) j < lv) (h2 : ∀ j, f ≤ j → j < bN (bfs beh st (8 * f)) → Fi (bfs beh st (8 * f)) j = lv) {k : Nat} (hk : bN (bfs beh st (8 * f)) ≤ k) (hkZ : k < bN (bZ beh st)) : lv < Fi (bZ beh st) k := by
  have hl : bN (bfs beh st (8 * f)) < bN (bZ beh st) := by omega
  have hl2 := bZ_lt hI hl
  have := (lev_e hI hf h1 h2 (e := 8 * bN (bfs beh st (8 * f))) (by omega) (Nat.le_refl _)).2.2 _ (Nat.le_refl _) hl2
  have hF := (bZ_F hI hl).2
  have hZ := bZ_I hI
  by_cases e : k = bN (bfs beh st (8 * f))
  · subst e; omega
  · have := hZ.2.2.2.2.2.1 (bN (bfs beh st (8 * f))) k (by omega) hkZ
    omega
theorem lev_w (hI : ∀ e, BI beh V st (bfs beh st e) e) {G : Nat → Bool} {f lv : Nat} (hf : f < bN (bfs beh st (8 * f))) (h1 : ∀ j, j < f → Fi (bfs beh st (8 * f)) j < lv) (h2 : ∀ j, f ≤ j → j < bN (bfs beh st (8 * f)) → Fi (bfs beh st (8 * f)) j = lv) (hG : ∀ j, j < f → G (bQ (bfs beh st (8 * f)) j) = false) : wyZ beh G st lv (bN (bZ beh st)) = wyC (bfs beh st (8 * f)) G f (bN (bfs beh st (8 * f))) := by
  have hn := bI_n (hI (8 * f))
  have hx := bZ_xe (beh := beh) (st := st) (e := 8 * f) (by omega)
  have low : ∀ k, k ≤ bN (bfs beh st (8 * f)) → wyZ beh G st lv k = wyC (bfs beh st (8 * f)) G f k := by
    intro k
    induction k with
    | zero => intro _; rfl
    | succ k ih =>
      intro hk
      have ih := ih (by omega)
      have hq := hx.2.1 k (by omega)
      have hF := hx.F (hI (8 * f)) (show k < bN (bfs beh st (8 * f)) by omega)
      show (if G (bQ (bZ beh st) k) = true ∧ Fi (bZ beh st) k = lv then addS (wyZ beh G st lv k) (bM (bZ beh st) (bQ (bZ beh st) k)) else wyZ beh G st lv k) = (if f ≤ k ∧ G (bQ (bfs beh st (8 * f)) k) = true then addS (wyC (bfs beh st (8 * f)) G f k) (bM (bfs beh st (8 * f)) (bQ (bfs beh st (8 * f)) k)) else wyC (bfs beh st (8 * f)) G f k)
      rw [ih, hq, hF]
      by_cases hkf : f ≤ k
      · have hb := bM_st hI (e := 8 * f) (i := k) (by rw [show 8 * f / 8 = f by omega]; exact hf) (by omega) (by rw [show 8 * f / 8 = f by omega, h2 k hkf (by omega), h2 f (by omega) hf]; omega) (262144 - 8 * f)
        rw [show 8 * f + (262144 - 8 * f) = 262144 by omega, ← bZ_e] at hb
        rw [hb, h2 k hkf (by omega)]
        by_cases hg : G (bQ (bfs beh st (8 * f)) k) = true
        · rw [if_pos ⟨hg, rfl⟩, if_pos ⟨hkf, hg⟩]
        · rw [if_neg (fun h => hg h.1), if_neg (fun h => hg h.2)]
      · rw [if_neg (by rw [hG k (by omega)]; simp), if_neg (fun h => hkf h.1)]
  have up : ∀ j, bN (bfs beh st (8 * f)) + j ≤ bN (bZ beh st) → wyZ beh G st lv (bN (bfs beh st (8 * f)) + j) = wyC (bfs beh st (8 * f)) G f (bN (bfs beh st (8 * f))) := by
    intro j
    induction j with
    | zero => intro _; exact low _ (Nat.le_refl _)
    | succ j ih =>
      intro hj
      have := lev_z hI hf h1 h2 (k := bN (bfs beh st (8 * f)) + j) (by omega) (by omega)
      rw [← Nat.add_assoc]
      show (if G (bQ (bZ beh st) (bN (bfs beh st (8 * f)) + j)) = true ∧ Fi (bZ beh st) (bN (bfs beh st (8 * f)) + j) = lv then _ else _) = _
      rw [if_neg (by omega)]
      exact ih (by omega)
  have := up (bN (bZ beh st) - bN (bfs beh st (8 * f))) (by have := hx.1; omega)
  rw [show bN (bfs beh st (8 * f)) + (bN (bZ beh st) - bN (bfs beh st (8 * f))) = bN (bZ beh st) by have := hx.1; omega] at this
  exact this
end LV
end Pb3
