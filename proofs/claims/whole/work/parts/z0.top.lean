theorem loA_map {B b : Nat} {sa : Nat → Option Nat} : ∀ (as : List Value) (i j : Nat) (v : Value), (loA as)[j]? = some (some v) → (i + j, cvv B b sa v) ∈ lv_args i (as.map (cvv B b sa))
  | [], i, j, v, h => by simp [loA] at h
  | u :: t, i, j, v, h => by
    unfold loA at h
    by_cases hc : u.category = 2
    · rw [if_pos hc] at h
      rw [List.map_cons, lv_args]
      rw [cvv_cat, hc]
      match j, h with
      | 0, h =>
        simp at h
        subst h
        exact List.mem_cons_self
      | 1, h => simp at h
      | j + 2, h =>
        simp at h
        have := loA_map (B := B) (b := b) (sa := sa) t (i + 2) j v h
        rw [show i + (j + 2) = i + 2 + j by omega]
        exact List.mem_cons_of_mem _ this
    · have hc1 : u.category = 1 := by cases u <;> first | rfl | exact absurd rfl hc
      rw [if_neg hc] at h
      rw [List.map_cons, lv_args]
      rw [cvv_cat, hc1]
      match j, h with
      | 0, h =>
        simp at h
        subst h
        exact List.mem_cons_self
      | j + 1, h =>
        simp at h
        have := loA_map (B := B) (b := b) (sa := sa) t (i + 1) j v h
        rw [show i + (j + 1) = i + 1 + j by omega]
        exact List.mem_cons_of_mem _ this
theorem lg_sl_len {B b : Nat} {sa : Nat → Option Nat} : ∀ (as : List Value), (lg_sl (as.map (cvv B b sa))).length = (loA as).length
  | [] => rfl
  | u :: t => by
    have ih := lg_sl_len (B := B) (b := b) (sa := sa) t
    unfold lg_sl at ih ⊢
    rw [List.map_cons, List.flatMap_cons, List.length_append, ih, cvv_cat]
    conv => rhs; unfold loA
    by_cases hc : u.category = 2
    · rw [if_pos hc, if_pos hc]
      simp
      omega
    · rw [if_neg hc, if_neg hc]
      simp
      omega
set_option maxRecDepth 100000 in
theorem cdT_lt : ∀ {a : Nat} {T : List Ent}, cdT a = some T → a < 280
  | z + 280, _, h => by cases h
  | 0, _, _ => by decide
  | 1, _, _ => by decide
  | 2, _, _ => by decide
  | 3, _, _ => by decide
  | 4, _, _ => by decide
  | 5, _, _ => by decide
  | 6, _, _ => by decide
  | 7, _, _ => by decide
  | 8, _, _ => by decide
  | 9, _, _ => by decide
  | 10, _, _ => by decide
  | 11, _, _ => by decide
  | 12, _, _ => by decide
  | 13, _, _ => by decide
  | 14, _, _ => by decide
  | 15, _, _ => by decide
  | 16, _, _ => by decide
  | 17, _, _ => by decide
  | 18, _, _ => by decide
  | 19, _, _ => by decide
  | 20, _, _ => by decide
  | 21, _, _ => by decide
  | 22, _, _ => by decide
  | 23, _, _ => by decide
  | 24, _, _ => by decide
  | 25, _, _ => by decide
  | 26, _, _ => by decide
  | 27, _, _ => by decide
  | 28, _, _ => by decide
  | 29, _, _ => by decide
  | 30, _, _ => by decide
  | 31, _, _ => by decide
  | 32, _, _ => by decide
  | 33, _, _ => by decide
  | 34, _, _ => by decide
  | 35, _, _ => by decide
  | 36, _, _ => by decide
  | 37, _, _ => by decide
  | 38, _, _ => by decide
  | 39, _, _ => by decide
  | 40, _, _ => by decide
  | 41, _, _ => by decide
  | 42, _, _ => by decide
  | 43, _, _ => by decide
  | 44, _, _ => by decide
  | 45, _, _ => by decide
  | 46, _, _ => by decide
  | 47, _, _ => by decide
  | 48, _, _ => by decide
  | 49, _, _ => by decide
  | 50, _, _ => by decide
  | 51, _, _ => by decide
  | 52, _, _ => by decide
  | 53, _, _ => by decide
  | 54, _, _ => by decide
  | 55, _, _ => by decide
  | 56, _, _ => by decide
  | 57, _, _ => by decide
  | 58, _, _ => by decide
  | 59, _, _ => by decide
  | 60, _, _ => by decide
  | 61, _, _ => by decide
  | 62, _, _ => by decide
  | 63, _, _ => by decide
  | 64, _, _ => by decide
  | 65, _, _ => by decide
  | 66, _, _ => by decide
  | 67, _, _ => by decide
  | 68, _, _ => by decide
  | 69, _, _ => by decide
  | 70, _, _ => by decide
  | 71, _, _ => by decide
  | 72, _, _ => by decide
  | 73, _, _ => by decide
  | 74, _, _ => by decide
  | 75, _, _ => by decide
  | 76, _, _ => by decide
  | 77, _, _ => by decide
  | 78, _, _ => by decide
  | 79, _, _ => by decide
  | 80, _, _ => by decide
  | 81, _, _ => by decide
  | 82, _, _ => by decide
  | 83, _, _ => by decide
  | 84, _, _ => by decide
  | 85, _, _ => by decide
  | 86, _, _ => by decide
  | 87, _, _ => by decide
  | 88, _, _ => by decide
  | 89, _, _ => by decide
  | 90, _, _ => by decide
  | 91, _, _ => by decide
  | 92, _, _ => by decide
  | 93, _, _ => by decide
  | 94, _, _ => by decide
  | 95, _, _ => by decide
  | 96, _, _ => by decide
  | 97, _, _ => by decide
  | 98, _, _ => by decide
  | 99, _, _ => by decide
  | 100, _, _ => by decide
  | 101, _, _ => by decide
  | 102, _, _ => by decide
  | 103, _, _ => by decide
  | 104, _, _ => by decide
  | 105, _, _ => by decide
  | 106, _, _ => by decide
  | 107, _, _ => by decide
  | 108, _, _ => by decide
  | 109, _, _ => by decide
  | 110, _, _ => by decide
  | 111, _, _ => by decide
  | 112, _, _ => by decide
  | 113, _, _ => by decide
  | 114, _, _ => by decide
  | 115, _, _ => by decide
  | 116, _, _ => by decide
  | 117, _, _ => by decide
  | 118, _, _ => by decide
  | 119, _, _ => by decide
  | 120, _, _ => by decide
  | 121, _, _ => by decide
  | 122, _, _ => by decide
  | 123, _, _ => by decide
  | 124, _, _ => by decide
  | 125, _, _ => by decide
  | 126, _, _ => by decide
  | 127, _, _ => by decide
  | 128, _, _ => by decide
  | 129, _, _ => by decide
  | 130, _, _ => by decide
  | 131, _, _ => by decide
  | 132, _, _ => by decide
  | 133, _, _ => by decide
  | 134, _, _ => by decide
  | 135, _, _ => by decide
  | 136, _, _ => by decide
  | 137, _, _ => by decide
  | 138, _, _ => by decide
  | 139, _, _ => by decide
  | 140, _, _ => by decide
  | 141, _, _ => by decide
  | 142, _, _ => by decide
  | 143, _, _ => by decide
  | 144, _, _ => by decide
  | 145, _, _ => by decide
  | 146, _, _ => by decide
  | 147, _, _ => by decide
  | 148, _, _ => by decide
  | 149, _, _ => by decide
  | 150, _, _ => by decide
  | 151, _, _ => by decide
  | 152, _, _ => by decide
  | 153, _, _ => by decide
  | 154, _, _ => by decide
  | 155, _, _ => by decide
  | 156, _, _ => by decide
  | 157, _, _ => by decide
  | 158, _, _ => by decide
  | 159, _, _ => by decide
  | 160, _, _ => by decide
  | 161, _, _ => by decide
  | 162, _, _ => by decide
  | 163, _, _ => by decide
  | 164, _, _ => by decide
  | 165, _, _ => by decide
  | 166, _, _ => by decide
  | 167, _, _ => by decide
  | 168, _, _ => by decide
  | 169, _, _ => by decide
  | 170, _, _ => by decide
  | 171, _, _ => by decide
  | 172, _, _ => by decide
  | 173, _, _ => by decide
  | 174, _, _ => by decide
  | 175, _, _ => by decide
  | 176, _, _ => by decide
  | 177, _, _ => by decide
  | 178, _, _ => by decide
  | 179, _, _ => by decide
  | 180, _, _ => by decide
  | 181, _, _ => by decide
  | 182, _, _ => by decide
  | 183, _, _ => by decide
  | 184, _, _ => by decide
  | 185, _, _ => by decide
  | 186, _, _ => by decide
  | 187, _, _ => by decide
  | 188, _, _ => by decide
  | 189, _, _ => by decide
  | 190, _, _ => by decide
  | 191, _, _ => by decide
  | 192, _, _ => by decide
  | 193, _, _ => by decide
  | 194, _, _ => by decide
  | 195, _, _ => by decide
  | 196, _, _ => by decide
  | 197, _, _ => by decide
  | 198, _, _ => by decide
  | 199, _, _ => by decide
  | 200, _, _ => by decide
  | 201, _, _ => by decide
  | 202, _, _ => by decide
  | 203, _, _ => by decide
  | 204, _, _ => by decide
  | 205, _, _ => by decide
  | 206, _, _ => by decide
  | 207, _, _ => by decide
  | 208, _, _ => by decide
  | 209, _, _ => by decide
  | 210, _, _ => by decide
  | 211, _, _ => by decide
  | 212, _, _ => by decide
  | 213, _, _ => by decide
  | 214, _, _ => by decide
  | 215, _, _ => by decide
  | 216, _, _ => by decide
  | 217, _, _ => by decide
  | 218, _, _ => by decide
  | 219, _, _ => by decide
  | 220, _, _ => by decide
  | 221, _, _ => by decide
  | 222, _, _ => by decide
  | 223, _, _ => by decide
  | 224, _, _ => by decide
  | 225, _, _ => by decide
  | 226, _, _ => by decide
  | 227, _, _ => by decide
  | 228, _, _ => by decide
  | 229, _, _ => by decide
  | 230, _, _ => by decide
  | 231, _, _ => by decide
  | 232, _, _ => by decide
  | 233, _, _ => by decide
  | 234, _, _ => by decide
  | 235, _, _ => by decide
  | 236, _, _ => by decide
  | 237, _, _ => by decide
  | 238, _, _ => by decide
  | 239, _, _ => by decide
  | 240, _, _ => by decide
  | 241, _, _ => by decide
  | 242, _, _ => by decide
  | 243, _, _ => by decide
  | 244, _, _ => by decide
  | 245, _, _ => by decide
  | 246, _, _ => by decide
  | 247, _, _ => by decide
  | 248, _, _ => by decide
  | 249, _, _ => by decide
  | 250, _, _ => by decide
  | 251, _, _ => by decide
  | 252, _, _ => by decide
  | 253, _, _ => by decide
  | 254, _, _ => by decide
  | 255, _, _ => by decide
  | 256, _, _ => by decide
  | 257, _, _ => by decide
  | 258, _, _ => by decide
  | 259, _, _ => by decide
  | 260, _, _ => by decide
  | 261, _, _ => by decide
  | 262, _, _ => by decide
  | 263, _, _ => by decide
  | 264, _, _ => by decide
  | 265, _, _ => by decide
  | 266, _, _ => by decide
  | 267, _, _ => by decide
  | 268, _, _ => by decide
  | 269, _, _ => by decide
  | 270, _, _ => by decide
  | 271, _, _ => by decide
  | 272, _, _ => by decide
  | 273, _, _ => by decide
  | 274, _, _ => by decide
  | 275, _, _ => by decide
  | 276, _, _ => by decide
  | 277, _, _ => by decide
  | 278, _, _ => by decide
  | 279, _, _ => by decide
theorem callD_ok {l : Launch} {H0 : Heap} {b : Nat} {sa : Nat → Option Nat} {Ln : Nat} {xs : Nat → Int32} {D : va_G} {cT : FieldType → ClassId} : ∀ d, CallOK l H0 b sa Ln xs D cT d (callD xs Ln d)
  | 0 => fun a as w r h => by cases h
  | d + 1 => fun a as w r h => by
    have hs := callD_iff.mp h
    unfold Sem at hs
    split at hs
    · rename_i q T hq hT
      obtain ⟨h1, n, h2⟩ := hs
      obtain ⟨co, ini, c1, c2, c3⟩ := chkA hq hT
      have ha : a < 280 := cdT_lt hT
      obtain ⟨y, bytes, nL, rt, kd⟩ := q
      have := met_of_run (l := l) (H0 := H0) (b := b) (sa := sa) (D := D) (cT := cT) (as := as) ha hq c1 c2 (callD_ok d) c3 ⟨?_, ?_, ?_⟩ h2
      · exact ⟨this.1.1, this.1.2, this.2⟩
      · unfold loOf
        rw [List.length_append, List.length_replicate]
        have h9 : (loA as).length ≤ nL := h1
        show (loA as).length + (nL - (loA as).length) = nL
        omega
      · rw [lg_sl_len]; exact h1
      · intro j v hj
        have h3 : (loA as)[j]? = some (some v) := by
          unfold loOf at hj
          rcases Nat.lt_or_ge j (loA as).length with h9 | h9
          · rw [List.getElem?_append_left h9] at hj
            exact hj
          · rw [List.getElem?_append_right h9] at hj
            have := List.mem_of_getElem? hj
            rw [List.mem_replicate] at this
            cases this.2
        have := loA_map (B := H0.size) (b := b) (sa := sa) as 0 j v h3
        rwa [Nat.zero_add] at this
    · cases hs
