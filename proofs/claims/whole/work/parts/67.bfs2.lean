section P67
/-! What a search finds. -/
section BF
variable {beh : Nat → Nat → Option Nat} {V : Nat → Prop} {st : Nat}
/-- what later steps leave as it is -/
def Ext (s s' : Bs) : Prop := bN s ≤ bN s' ∧ (∀ i, i < bN s → bQ s' i = bQ s i) ∧ (∀ t f, bF s t = some f → bF s' t = some f) ∧ (∀ i, i < bN s → bP s' i = bP s i)
theorem Ext.rf (s : Bs) : Ext s s := ⟨Nat.le_refl _, fun _ _ => rfl, fun _ _ h => h, fun _ _ => rfl⟩
theorem Ext.tr {s s' s'' : Bs} (h : Ext s s') (h' : Ext s' s'') : Ext s s'' := ⟨Nat.le_trans h.1 h'.1, fun i hi => by rw [h'.2.1 i (Nat.lt_of_lt_of_le hi h.1), h.2.1 i hi], fun t f hf => h'.2.2.1 t f (h.2.2.1 t f hf), fun i hi => by rw [h'.2.2.2 i (Nat.lt_of_lt_of_le hi h.1), h.2.2.2 i hi]⟩
theorem bput_x (s : Bs) (e t : Nat) : Ext s (bput s e t) := by
  unfold bput
  split
  · rename_i hn
    refine ⟨Nat.le_succ _, fun i hi => up1_n _ _ (by omega), fun t' f hf => ?_, fun i hi => up1_n _ _ (by omega)⟩
    show up1 (bF s) t _ t' = some f
    by_cases htt : t' = t
    · subst htt; rw [hn] at hf; cases hf
    · rw [up1_n _ _ htt]; exact hf
  · split
    · exact ⟨Nat.le_refl _, fun _ _ => rfl, fun _ _ h => h, fun _ _ => rfl⟩
    · exact Ext.rf s
theorem bstep_x (s : Bs) (e : Nat) : Ext s (bstep beh s e) := by
  unfold bstep
  split
  · split
    · exact Ext.rf s
    · exact bput_x s e _
  · exact Ext.rf s
theorem bfs_x (e : Nat) : ∀ j, Ext (bfs beh st e) (bfs beh st (e + j))
  | 0 => Ext.rf _
  | j + 1 => (bfs_x e j).tr (bstep_x _ _)
theorem Ext.F {s s' : Bs} (h : Ext s s') {e : Nat} (hI : BI beh V st s e) {i : Nat} (hi : i < bN s) : Fi s' i = Fi s i := by
  unfold Fi
  rw [h.2.1 i hi, h.2.2.1 _ _ (hI.2.2.1 i hi).1, (hI.2.2.1 i hi).1]
/-- finished -/
theorem bfs_fin {K : Nat} (h : bN (bfs beh st (8 * K)) = K) : ∀ j, bfs beh st (8 * K + j) = bfs beh st (8 * K)
  | 0 => rfl
  | j + 1 => by
    have ih := bfs_fin h j
    show bstep beh (bfs beh st (8 * K + j)) (8 * K + j) = _
    rw [ih]
    unfold bstep
    rw [if_neg (by rw [h]; omega)]
theorem bI_n {s : Bs} {e : Nat} (hI : BI beh V st s e) : bN s ≤ 32768 := by
  have := cntB_le (fun t => (bF s t).isSome) 32768
  rw [hI.1.2] at this
  exact this
/-- the search's end -/
theorem bZ_ex (beh : Nat → Nat → Option Nat) (st : Nat) : ∃ s, s = bfs beh st 262144 := ⟨_, rfl⟩
noncomputable def bZ (beh : Nat → Nat → Option Nat) (st : Nat) : Bs := Classical.choose (bZ_ex beh st)
theorem bZ_e (beh : Nat → Nat → Option Nat) (st : Nat) : bZ beh st = bfs beh st 262144 := Classical.choose_spec (bZ_ex beh st)
theorem bZ_K (hI : ∀ e, BI beh V st (bfs beh st e) e) {K : Nat} (h : bN (bfs beh st (8 * K)) = K) : bZ beh st = bfs beh st (8 * K) := by
  have hn := bI_n (hI (8 * K))
  have := bfs_fin h (262144 - 8 * K)
  rw [bZ_e, ← this]
  congr 1
  omega
/-- there is an end -/
theorem bZ_end (hI : ∀ e, BI beh V st (bfs beh st e) e) : ∃ K, bN (bfs beh st (8 * K)) = K := by
  have : ∀ k, (∃ K, K ≤ k ∧ bN (bfs beh st (8 * K)) = K) ∨ k < bN (bfs beh st (8 * k)) := by
    intro k
    induction k with
    | zero => exact Or.inr (hI 0).1.1
    | succ k ih =>
      rcases ih with ⟨K, h1, h2⟩ | h
      · exact Or.inl ⟨K, by omega, h2⟩
      · have hx := (bfs_x (beh := beh) (st := st) (8 * k) 8).1
        rw [show 8 * k + 8 = 8 * (k + 1) by omega] at hx
        by_cases he : bN (bfs beh st (8 * (k + 1))) = k + 1
        · exact Or.inl ⟨k + 1, Nat.le_refl _, he⟩
        · exact Or.inr (by omega)
  rcases this 32768 with ⟨K, _, h⟩ | h
  · exact ⟨K, h⟩
  · have := bI_n (hI (8 * 32768))
    omega
/-- all edges of the end are through -/
theorem bZ_I (hI : ∀ e, BI beh V st (bfs beh st e) e) : BI beh V st (bZ beh st) (8 * bN (bZ beh st)) := by
  obtain ⟨K, hK⟩ := bZ_end hI
  have h := bZ_K hI hK
  rw [h, hK]
  exact hI (8 * K)
theorem bZ_x (hI : ∀ e, BI beh V st (bfs beh st e) e) {k : Nat} (hk : k ≤ bN (bZ beh st)) {e : Nat} (he : e ≤ 8 * k) : Ext (bfs beh st e) (bZ beh st) := by
  obtain ⟨K, hK⟩ := bZ_end hI
  have h := bZ_K hI hK
  rw [h] at hk ⊢
  rw [hK] at hk
  have := bfs_x (beh := beh) (st := st) e (8 * K - e)
  rw [show e + (8 * K - e) = 8 * K by omega] at this
  exact this
theorem bZ_lt (hI : ∀ e, BI beh V st (bfs beh st e) e) {k : Nat} (hk : k < bN (bZ beh st)) : k < bN (bfs beh st (8 * k)) := by
  obtain ⟨K, hK⟩ := bZ_end hI
  have h := bZ_K hI hK
  rw [h, hK] at hk
  have : ∀ k, k < K → k < bN (bfs beh st (8 * k)) := by
    intro k
    induction k with
    | zero => intro _; exact (hI 0).1.1
    | succ k ih =>
      intro hk
      have h1 := ih (by omega)
      have hx := (bfs_x (beh := beh) (st := st) (8 * k) 8).1
      rw [show 8 * k + 8 = 8 * (k + 1) by omega] at hx
      by_cases he : bN (bfs beh st (8 * (k + 1))) = k + 1
      · have := bfs_fin he (8 * (K - (k + 1)))
        rw [show 8 * (k + 1) + 8 * (K - (k + 1)) = 8 * K by omega] at this
        rw [this, he] at hK
        omega
      · omega
  exact this k hk
theorem bZ_F (hI : ∀ e, BI beh V st (bfs beh st e) e) {k : Nat} (hk : k < bN (bZ beh st)) : bQ (bfs beh st (8 * k)) k = bQ (bZ beh st) k ∧ Fi (bfs beh st (8 * k)) k = Fi (bZ beh st) k := by
  have h1 := bZ_lt hI hk
  have hx := bZ_x hI (Nat.le_of_lt hk) (Nat.le_refl (8 * k))
  exact ⟨(hx.2.1 k h1).symm, (hx.F (hI (8 * k)) h1).symm⟩
/-- how many rows: a stand's number is final when its turn comes -/
theorem bM_st (hI : ∀ e, BI beh V st (bfs beh st e) e) {e i : Nat} (hk : e / 8 < bN (bfs beh st e)) (hi : i < bN (bfs beh st e)) (hF : Fi (bfs beh st e) i ≤ Fi (bfs beh st e) (e / 8)) : ∀ j, bM (bfs beh st (e + j)) (bQ (bfs beh st e) i) = bM (bfs beh st e) (bQ (bfs beh st e) i)
  | 0 => rfl
  | j + 1 => by
    have ih := bM_st hI hk hi hF j
    have hx := bfs_x (beh := beh) (st := st) e j
    have hIj := hI (e + j)
    have hFi := hx.F (hI e) hi
    have hFk := hx.F (hI e) hk
    have hqi := hx.2.1 i hi
    show bM (bstep beh (bfs beh st (e + j)) (e + j)) _ = _
    unfold bstep
    split
    · rename_i hkj
      split
      · exact ih
      · rename_i t ht
        have hmono : Fi (bfs beh st (e + j)) (e / 8) ≤ Fi (bfs beh st (e + j)) ((e + j) / 8) := by
          by_cases he : e / 8 = (e + j) / 8
          · rw [he]; exact Nat.le_refl _
          · exact hIj.2.2.2.2.2.1 _ _ (by omega) hkj
        have hfar : bF (bfs beh st (e + j)) (bQ (bfs beh st e) i) = some (Fi (bfs beh st e) i) := hx.2.2.1 _ _ ((hI e).2.2.1 i hi).1
        unfold bput
        split
        · rename_i hn
          show up1 (bM (bfs beh st (e + j))) t _ _ = _
          by_cases hti : bQ (bfs beh st e) i = t
          · rw [hti, hn] at hfar; cases hfar
          · rw [up1_n _ _ hti]; exact ih
        · split
          · rename_i hf
            show up1 (bM (bfs beh st (e + j))) t _ _ = _
            by_cases hti : bQ (bfs beh st e) i = t
            · rw [hti, hf] at hfar
              have := Option.some.inj hfar
              omega
            · rw [up1_n _ _ hti]; exact ih
          · exact ih
    · exact ih
theorem bZ_M (hI : ∀ e, BI beh V st (bfs beh st e) e) {k : Nat} (hk : k < bN (bZ beh st)) : bM (bfs beh st (8 * k)) (bQ (bfs beh st (8 * k)) k) = bM (bZ beh st) (bQ (bZ beh st) k) := by
  have h1 := bZ_lt hI hk
  obtain ⟨K, hK⟩ := bZ_end hI
  have hz := bZ_K hI hK
  have hkK : k < K := by
    rw [hz, hK] at hk
    exact hk
  have h2 := bM_st hI (e := 8 * k) (i := k) (by rw [show 8 * k / 8 = k by omega]; exact h1) h1 (by rw [show 8 * k / 8 = k by omega]; exact Nat.le_refl _) (8 * K - 8 * k)
  rw [show 8 * k + (8 * K - 8 * k) = 8 * K by omega] at h2
  rw [← h2, (bZ_F hI hk).1, hz]
/-- goal within n words -/
def cnG (beh : Nat → Nat → Option Nat) (G : Nat → Bool) : Nat → Nat → Bool
  | 0, x => G x
  | n + 1, x => G x || anyN (fun w => match beh x w with
    | none => false
    | some y => cnG beh G n y) 8
theorem cnG_iff (G : Nat → Bool) (n x : Nat) : cnG beh G (n + 1) x = true ↔ G x = true ∨ ∃ w y, w < 8 ∧ beh x w = some y ∧ cnG beh G n y = true := by
  show (G x || _) = true ↔ _
  rw [Bool.or_eq_true, anyN_iff]
  constructor
  · rintro (h | ⟨w, hw, h⟩)
    · exact Or.inl h
    · split at h
      · cases h
      · rename_i y hy
        exact Or.inr ⟨w, y, hw, hy, h⟩
  · rintro (h | ⟨w, y, hw, hy, h⟩)
    · exact Or.inl h
    · refine Or.inr ⟨w, hw, ?_⟩
      rw [hy]
      exact h
theorem cnG_up {G : Nat → Bool} : ∀ n x, cnG beh G n x = true → cnG beh G (n + 1) x = true
  | 0, x, h => (cnG_iff G 0 x).mpr (Or.inl h)
  | n + 1, x, h => by
    rcases (cnG_iff G n x).mp h with h1 | ⟨w, y, hw, hy, h1⟩
    · exact (cnG_iff G (n + 1) x).mpr (Or.inl h1)
    · exact (cnG_iff G (n + 1) x).mpr (Or.inr ⟨w, y, hw, hy, cnG_up n y h1⟩)
theorem cnG_le {G : Nat → Bool} {n x : Nat} (h : cnG beh G n x = true) : ∀ k, cnG beh G (n + k) x = true
  | 0 => h
  | k + 1 => cnG_up _ _ (cnG_le h k)
/-- the fewest words to a goal -/
noncomputable def dG (beh : Nat → Nat → Option Nat) (G : Nat → Bool) (x : Nat) : Option Nat := lst (fun n => cnG beh G n x) bnd
theorem cn_back (hI : ∀ e, BI beh V st (bfs beh st e) e) {G : Nat → Bool} : ∀ i, i < bN (bZ beh st) → ∀ k, cnG beh G k (bQ (bZ beh st) i) = true → cnG beh G (k + Fi (bZ beh st) i) st = true := by
  intro i
  induction i using Nat.strongRecOn with
  | ind i ih =>
    intro hi k hk
    have hZ := bZ_I hI
    by_cases h0 : i = 0
    · subst h0
      rw [hZ.2.2.2.2.2.2.2.2.2.2.2.2.2, Nat.add_zero, ← hZ.2.2.2.2.2.2.2.2.2.2.2.2.1]
      exact hk
    · obtain ⟨p1, p2, p3, p4⟩ := hZ.2.2.2.2.2.2.2.1 i (by omega) hi
      have := ih (bP (bZ beh st) i / 8) p2 (by omega) (k + 1) ((cnG_iff G k _).mpr (Or.inr ⟨_, _, Nat.mod_lt _ (by decide), p3, hk⟩))
      rw [p4, show k + (Fi (bZ beh st) (bP (bZ beh st) i / 8) + 1) = k + 1 + Fi (bZ beh st) (bP (bZ beh st) i / 8) by omega]
      exact this
theorem cn_fwd (hI : ∀ e, BI beh V st (bfs beh st e) e) {G : Nat → Bool} : ∀ k j, j < bN (bZ beh st) → cnG beh G k (bQ (bZ beh st) j) = true → ∃ i, i < bN (bZ beh st) ∧ G (bQ (bZ beh st) i) = true ∧ Fi (bZ beh st) i ≤ Fi (bZ beh st) j + k := by
  intro k
  induction k with
  | zero => intro j hj h; exact ⟨j, hj, h, by omega⟩
  | succ k ih =>
    intro j hj h
    rcases (cnG_iff G k _).mp h with h1 | ⟨w, y, hw, hy, h1⟩
    · exact ⟨j, hj, h1, by omega⟩
    · have hZ := bZ_I hI
      have e1 : (8 * j + w) / 8 = j := by omega
      have e2 : (8 * j + w) % 8 = w := by omega
      obtain ⟨j', hj', hq, hF, _⟩ := hZ.2.2.2.2.2.2.2.2.2.1 (8 * j + w) (by omega) (by rw [e1]; exact hj) y (by rw [e1, e2]; exact hy)
      rw [e1] at hF
      rw [← hq] at h1
      obtain ⟨i, hi, hg, hF2⟩ := ih j' hj' h1
      exact ⟨i, hi, hg, by omega⟩
/-- the first goal in the queue -/
noncomputable def g0 (beh : Nat → Nat → Option Nat) (G : Nat → Bool) (st : Nat) : Option Nat := lst (fun i => G (bQ (bZ beh st) i)) (bN (bZ beh st))
theorem dG_g0 (hI : ∀ e, BI beh V st (bfs beh st e) e) {G : Nat → Bool} : dG beh G st = (g0 beh G st).map (Fi (bZ beh st)) := by
  have hZ := bZ_I hI
  have hn := bI_n hZ
  cases hg : g0 beh G st with
  | none =>
    have hno := (lst_n _ _).mp hg
    show lst _ _ = none
    rw [lst_n]
    intro n hn
    cases hc : cnG beh G n st with
    | false => rfl
    | true =>
      exfalso
      have h0 := hZ.2.2.2.2.2.2.2.2.2.2.2.2
      rw [← h0.1] at hc
      obtain ⟨i, hi, hgi, _⟩ := cn_fwd hI n 0 hZ.1.1 hc
      rw [hno i hi] at hgi
      cases hgi
  | some i =>
    obtain ⟨h1, h2, h3⟩ := (lst_s _ _ _).mp hg
    show lst _ _ = some (Fi (bZ beh st) i)
    rw [lst_s]
    have hFi := (hZ.2.2.1 i h1).2
    refine ⟨by rw [bnd_e]; omega, ?_, ?_⟩
    · have := cn_back hI i h1 0 h2
      rw [Nat.zero_add] at this
      exact this
    · intro j hj
      cases hc : cnG beh G j st with
      | false => rfl
      | true =>
        exfalso
        have h0 := hZ.2.2.2.2.2.2.2.2.2.2.2.2
        have hc' := hc
        rw [← h0.1] at hc'
        obtain ⟨i', hi', hgi, hF⟩ := cn_fwd hI j 0 hZ.1.1 hc'
        rw [h0.2] at hF
        by_cases hii : i' < i
        · rw [h3 i' hii] at hgi
          cases hgi
        · by_cases he : i' = i
          · subst he; omega
          · have := hZ.2.2.2.2.2.1 i i' (by omega) hi'
            omega
end BF
end P67
