section P36
theorem nI_tb (a : Nat) : (nI a).toBitVec = BitVec.ofNat 32 a := id rfl
theorem nI_and (a b : Nat) : nI a &&& nI b = nI (a &&& b) := by
  apply Int32.toBitVec_inj.mp
  rw [Int32.toBitVec_and, nI_tb, nI_tb, nI_tb]
  apply BitVec.eq_of_toNat_eq
  simp only [BitVec.toNat_and, BitVec.toNat_ofNat]
  exact (Nat.and_mod_two_pow).symm
theorem nI_or (a b : Nat) : nI a ||| nI b = nI (a ||| b) := by
  apply Int32.toBitVec_inj.mp
  rw [Int32.toBitVec_or, nI_tb, nI_tb, nI_tb]
  apply BitVec.eq_of_toNat_eq
  simp only [BitVec.toNat_or, BitVec.toNat_ofNat]
  exact (Nat.or_mod_two_pow).symm
theorem nI_xor (a b : Nat) : nI a ^^^ nI b = nI (a ^^^ b) := by
  apply Int32.toBitVec_inj.mp
  rw [Int32.toBitVec_xor, nI_tb, nI_tb, nI_tb]
  apply BitVec.eq_of_toNat_eq
  simp only [BitVec.toNat_xor, BitVec.toNat_ofNat]
  exact (Nat.xor_mod_two_pow).symm
theorem sh31 : ∀ k : Nat, k < 32 → ((nI k &&& 31).toBitVec.smod 32).toNat = k := by decide
theorem nI_shr {a k : Nat} (ha : a < 2147483648) (hk : k < 32) : nI a >>> (nI k &&& 31) = nI (a / 2 ^ k) := pk_shrN ha _ k (sh31 k hk)
theorem nI_shl {a k : Nat} (hk : k < 32) (h : a * 2 ^ k < 4294967296) : nI a <<< (nI k &&& 31) = nI (a * 2 ^ k) := pk_shlN _ k (sh31 k hk) h
theorem nI_1shl {k : Nat} (hk : k < 31) : (1 : Int32) <<< (nI k &&& 31) = nI (2 ^ k) := by
  have h : 2 ^ k < 2 ^ 31 := Nat.pow_lt_pow_right (by decide) hk
  have := nI_shl (a := 1) (k := k) (by omega) (by omega)
  rw [Nat.one_mul] at this
  exact this
theorem inN_nI {i n : Nat} (hi : i < 2147483648) (hn : n < 2147483648) : inN (nI i) (nI n) = decide (i < n) := by
  unfold inN
  rw [decide_eq_false (nI_pos hi)]
  by_cases h : i < n
  · rw [decide_eq_false (by rw [n_le hn hi]; omega), decide_eq_true h]; rfl
  · rw [decide_eq_true (by rw [n_le hn hi]; omega), decide_eq_false h]; rfl
theorem inN_t {v : Int32} {n : Nat} (hn : n < 2147483648) (h : inN v (nI n) = true) : ∃ i, i < n ∧ v = nI i := by
  unfold inN at h
  simp only [Bool.and_eq_true, Bool.not_eq_true', decide_eq_false_iff_not] at h
  obtain ⟨j, hj, rfl⟩ := nI_of h.1
  refine ⟨j, ?_, rfl⟩
  have := h.2
  rw [n_le hn hj] at this
  omega
theorem inN_cases (v : Int32) {n : Nat} (hn : n < 2147483648) : inN v (nI n) = false ∨ ∃ i, i < n ∧ v = nI i := by
  cases h : inN v (nI n)
  · exact Or.inl rfl
  · exact Or.inr (inN_t hn h)
theorem inR_inN {v : Int32} {n : Nat} (hn : n < 2147483648) : inR v 0 (nI n - 1) = inN v (nI n) := by
  unfold inR inN
  by_cases h0 : v < 0
  · simp [h0]
  · obtain ⟨j, hj, rfl⟩ := nI_of h0
    rw [decide_eq_false h0]
    cases n with
    | zero =>
      have h1 : (nI 0 - 1 : Int32) < nI j := by
        apply Int32.lt_iff_toInt_lt.mpr
        rw [nI_toInt hj, show (nI 0 - 1 : Int32).toInt = -1 by decide]
        omega
      rw [decide_eq_true h1, decide_eq_true (show nI 0 ≤ nI j by rw [n_le (by omega) hj]; omega)]
    | succ n =>
      rw [nI_pred]
      by_cases h : n < j
      · rw [decide_eq_true (show nI n < nI j by rw [n_lt (by omega) hj]; omega), decide_eq_true (show nI (n + 1) ≤ nI j by rw [n_le (by omega) hj]; omega)]
      · rw [decide_eq_false (show ¬ nI n < nI j by rw [n_lt (by omega) hj]; omega), decide_eq_false (show ¬ nI (n + 1) ≤ nI j by rw [n_le (by omega) hj]; omega)]
/-- the rows of the two memories in whole numbers: some places hold one more than the number there -/
def isM (j : Nat) : Bool := (Nat.ble 124 j && Nat.blt j 140) || Nat.beq j 4326
def kI (a : Nat → Nat) (j : Nat) : Int32 := if isM j then nI (a j) - 1 else nI (a j)
theorem kI_n {a : Nat → Nat} {j : Nat} (h : isM j = false) : kI a j = nI (a j) := by unfold kI; rw [h]; rfl
theorem kI_m {a : Nat → Nat} {j : Nat} (h : isM j = true) : kI a j = nI (a j) - 1 := by unfold kI; rw [h]; rfl
theorem isM_lo {j : Nat} (h : j < 124) : isM j = false := by
  unfold isM
  rw [show Nat.ble 124 j = false by rw [← Bool.not_eq_true, Nat.ble_eq]; omega, show Nat.beq j 4326 = false by rw [← Bool.not_eq_true, Nat.beq_eq]; omega]
  rfl
theorem isM_hi {j : Nat} (h : 140 ≤ j) (h2 : j ≠ 4326) : isM j = false := by
  unfold isM
  rw [show Nat.blt j 140 = false by rw [← Bool.not_eq_true, Nat.blt_eq]; omega, show Nat.beq j 4326 = false by rw [← Bool.not_eq_true, Nat.beq_eq]; omega]
  simp
theorem isM_h {j : Nat} (h : 124 ≤ j) (h2 : j < 140) : isM j = true := by
  unfold isM
  rw [show Nat.ble 124 j = true by rw [Nat.ble_eq]; omega, show Nat.blt j 140 = true by rw [Nat.blt_eq]; omega]
  rfl
theorem isM_f : isM 4326 = true := by decide
/-- the row r from place o on is the row a -/
def KR (r : Nat → Int32) (o : Nat) (a : Nat → Nat) : Prop := ∀ j, j < 9134 → r (o + j) = kI a j
theorem KR.n {r : Nat → Int32} {a : Nat → Nat} (h : KR r 0 a) {j : Nat} (hj : j < 9134) (hm : isM j = false) : r j = nI (a j) := by
  have := h j hj
  rw [Nat.zero_add, kI_n hm] at this
  exact this
theorem KR.m {r : Nat → Int32} {a : Nat → Nat} (h : KR r 0 a) {j : Nat} (hj : j < 9134) (hm : isM j = true) : r j = nI (a j) - 1 := by
  have := h j hj
  rw [Nat.zero_add, kI_m hm] at this
  exact this
theorem KR.up {r : Nat → Int32} {a : Nat → Nat} (h : KR r 0 a) {j v : Nat} {x : Int32} (hm : isM j = false) (hx : x = nI v) : KR (up1 r j x) 0 (up1 a j v) := by
  intro i hi
  unfold up1 kI
  simp only [Nat.zero_add]
  by_cases e : i = j
  · subst e; simp only [if_true, hx, hm, Bool.false_eq_true, if_false]
  · simp only [e, if_false]
    have := h i hi
    rw [Nat.zero_add] at this
    rw [this]
    rfl
theorem KR.upm {r : Nat → Int32} {a : Nat → Nat} (h : KR r 0 a) {j v : Nat} {x : Int32} (hm : isM j = true) (hx : x = nI v - 1) : KR (up1 r j x) 0 (up1 a j v) := by
  intro i hi
  unfold up1 kI
  simp only [Nat.zero_add]
  by_cases e : i = j
  · subst e; simp only [if_true, hx, hm]
  · simp only [e, if_false]
    have := h i hi
    rw [Nat.zero_add] at this
    rw [this]
    rfl
theorem up2_rs {α : Type} (f : Nat → Nat → α) (k j : Nat) (v : α) : up2 f k j v k = up1 (f k) j v := by
  funext i
  simp [up2, up1]
theorem up2_ro {α : Type} (f : Nat → Nat → α) {k k' : Nat} (j : Nat) (v : α) (h : k' ≠ k) : up2 f k j v k' = f k' := by
  funext i
  simp [up2, h]
theorem up1_s {α : Type} (f : Nat → α) (k : Nat) (v : α) : up1 f k v k = v := by simp [up1]
theorem up1_n {α : Type} (f : Nat → α) {k j : Nat} (v : α) (h : j ≠ k) : up1 f k v j = f j := by simp [up1, h]
end P36
