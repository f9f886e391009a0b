section P86
variable {xs : Nat → Int32} {Ln d : Nat} {D : Dyn} {I : Nat → Nat → Int32} {L : Nat → Nat → Int64} {w : Om}
theorem RC_g2 {A : As} {nn num : Nat} {as : List Value} {x : Int32} {J0 J : Nat → Nat → Int32} {a' : Nat → Nat} (h : RI J0 A nn) (h0 : RFr I J0) (hn : nn < 99999) (hf : CF J0 J) (hK : RK J a') (hA : AW a') (hc : callD xs Ln d num as (mkW D I L) = some (mkW D (grR J) L, some (.int x))) : RCall xs Ln d num as D I L (aGr A a') nn x :=
  Ok.of hc ⟨_, _, rfl, RI_gr h hn hf hK hA, h0.tr (RFr_gr hf)⟩
-- image
def aIm (A : As) (k : Nat) : As := (sa A, up1 (sim A) k (some (sa A)), sst A, srf A, ssy A, sfl A, stB A, stn A, shn A)
theorem RI_im {A : As} {nn k : Nat} (h : RI I A nn) (hk : k < 2) : RI (up2 (upr I 85 (cpy (I 84) (I 85) 0 (9134 * k) 9134)) 86 k 1) (aIm A k) nn := by
  obtain ⟨h1, h2, ⟨v, hc, hv⟩, h4, h5, h6, h7, h8, h9, h10, h11⟩ := h
  have hr : ∀ i, i ≠ 85 → i ≠ 86 → up2 (upr I 85 (cpy (I 84) (I 85) 0 (9134 * k) 9134)) 86 k 1 i = I i := fun i q1 q2 => by
    rw [up2_ro _ _ _ q2]
    unfold upr
    rw [if_neg q1]
  have h85 : up2 (upr I 85 (cpy (I 84) (I 85) 0 (9134 * k) 9134)) 86 k 1 85 = cpy (I 84) (I 85) 0 (9134 * k) 9134 := by
    rw [up2_ro _ _ _ (by decide)]
    unfold upr
    rw [if_pos rfl]
  generalize hJ : up2 (upr I 85 (cpy (I 84) (I 85) 0 (9134 * k) 9134)) 86 k 1 = J at hr h85 ⊢
  refine ⟨?_, h2, ⟨v, ?_, hv⟩, ?_, ?_, ?_, ?_, ?_, ?_, ?_, ?_⟩
  · unfold RK; rw [hr 84 (by decide) (by decide)]; exact h1
  · unfold RIc RLk LKb LKg RSi
    rw [hr 94 (by decide) (by decide), hr 95 (by decide) (by decide), hr 101 (by decide) (by decide), hr 82 (by decide) (by decide)]
    exact hc
  · intro i hi
    rw [h85]
    show J 86 i = b2i (up1 (sim A) k (some (sa A)) i).isSome ∧ ∀ b, up1 (sim A) k (some (sa A)) i = some b → _
    by_cases e : i = k
    · rw [e, up1_s]
      refine ⟨by rw [← hJ, up2_s]; rfl, fun b hb => ?_⟩
      cases hb
      refine ⟨?_, h2⟩
      have hcp : ∀ j, j < 9134 → cpy (I 84) (I 85) 0 (9134 * k) 9134 (9134 * k + j) = I 84 j := fun j hj => by
        unfold cpy
        rw [if_pos (by omega)]
        congr 1
        omega
      obtain ⟨k1, k2, k3, k4⟩ := h1
      exact ⟨fun j hj => (hcp j (by omega)).trans (k1 j hj), fun j hj => (hcp (124 + j) (by omega)).trans (k2 j hj), fun j q1 q2 q3 => (hcp j q2).trans (k3 j q1 q2 q3), (hcp 4326 (by decide)).trans k4⟩
    · rw [up1_n _ _ e]
      have hcp : ∀ j, j < 9134 → cpy (I 84) (I 85) 0 (9134 * k) 9134 (9134 * i + j) = I 85 (9134 * i + j) := fun j hj => by
        unfold cpy
        rw [if_neg (by omega)]
      refine ⟨by rw [← hJ, up2_j _ _ _ e]; unfold upr; rw [if_neg (by decide)]; exact (h4 i hi).1, fun b hb => ?_⟩
      obtain ⟨⟨k1, k2, k3, k4⟩, hb2⟩ := (h4 i hi).2 b hb
      exact ⟨⟨fun j hj => (hcp j (by omega)).trans (k1 j hj), fun j hj => (hcp (124 + j) (by omega)).trans (k2 j hj), fun j q1 q2 q3 => (hcp j q2).trans (k3 j q1 q2 q3), (hcp 4326 (by decide)).trans k4⟩, hb2⟩
  · rw [hr 82 (by decide) (by decide)]; exact h5
  · rw [hr 83 (by decide) (by decide)]; exact h6
  · rw [hr 82 (by decide) (by decide)]; exact h7
  · rw [hr 82 (by decide) (by decide)]; exact h8
  · rw [hr 82 (by decide) (by decide), hr 88 (by decide) (by decide)]; exact h9
  · show HnR _ (shn A)
    unfold HnR
    rw [hr 82 (by decide) (by decide), hr 102 (by decide) (by decide)]
    exact h10
  · rw [hr 87 (by decide) (by decide)]; exact h11
def nImage (A : As) (v : Int32) : As × Int32 := if inN v (nI 2) = false then (aRf A (-1), -1) else (aGr (aIm A v.toNatClampNeg) (sa A), 0)
theorem R_image {A : As} {nn : Nat} {v : Int32} (h : RI I A nn) (hn : nn < 99999) : RCall xs Ln (d + 2) 160 [.ref 82, .int v] D I L (nImage A v).1 nn (nImage A v).2 := by
  unfold nImage
  cases h0 : inN v (nI 2) with
  | false => exact RC_rf rc1 h (r_image1 (by rw [iR2, h0]))
  | true =>
    rw [if_neg (by decide)]
    obtain ⟨v, hv, rfl⟩ := inN_t (by decide) h0
    have hc := r_image (xs := xs) (Ln := Ln) (d := d) (D := D) (I := I) (L := L) (v := v) (by rw [iR2, h0]) hv
    rw [n_cl (by omega)]
    have hi := RI_im h hv
    refine RC_g2 hi (fun k hk => ?_) hn (CF.rf _) hi.1 hi.2.1 hc
    rw [up2_ro _ _ _ (by omega)]
    unfold upr
    rw [if_neg (by omega)]
-- back
def nBack (A : As) (v : Int32) : As × Int32 := if inN v (nI 2) = false then (aRf A (-1), -1) else match sim A v.toNatClampNeg with
  | none => (aRf A (-2), -2)
  | some b => (aGr A b, 0)
theorem R_back {A : As} {nn : Nat} {v : Int32} (h : RI I A nn) (hn : nn < 99999) : RCall xs Ln (d + 2) 161 [.ref 82, .int v] D I L (nBack A v).1 nn (nBack A v).2 := by
  unfold nBack
  cases h0 : inN v (nI 2) with
  | false => exact RC_rf rc1 h (r_back1 (by rw [iR2, h0]))
  | true =>
    rw [if_neg (by decide)]
    obtain ⟨v, hv, rfl⟩ := inN_t (by decide) h0
    rw [n_cl (by omega)]
    obtain ⟨e1, e2⟩ := h.2.2.2.1 v hv
    cases hb : sim A v with
    | none =>
      rw [hb] at e1
      exact RC_rf rc2 h (r_back2 (by rw [iR2, h0]) hv e1)
    | some b =>
      rw [hb] at e1
      have hc := r_back (xs := xs) (Ln := Ln) (d := d) (D := D) (I := I) (L := L) (v := v) (by rw [iR2, h0]) hv (by rw [e1]; exact (by decide : ¬ b2i true = 0))
      obtain ⟨⟨k1, k2, k3, k4⟩, hAb⟩ := e2 b hb
      have hcp : ∀ j, j < 9134 → upr I 84 (cpy (I 85) (I 84) (9134 * v) 0 9134) 84 j = I 85 (9134 * v + j) := fun j hj => by
        unfold upr
        rw [if_pos rfl]
        unfold cpy
        rw [if_pos (by omega)]
        congr 1
      have hro : ∀ k, k ≠ 84 → upr I 84 (cpy (I 85) (I 84) (9134 * v) 0 9134) k = I k := fun k hk => by
        unfold upr
        rw [if_neg hk]
      exact RC_gr h hn ⟨fun k hk => hro k (by omega), fun j _ => by rw [hro 82 (by decide)]⟩ ⟨fun j hj => (hcp j (by omega)).trans (k1 j hj), fun j hj => (hcp (124 + j) (by omega)).trans (k2 j hj), fun j q1 q2 q3 => (hcp j q2).trans (k3 j q1 q2 q3), (hcp 4326 (by decide)).trans k4⟩ hAb hc
-- the tape
def aTp (A : As) (m : Nat) : As := (sa A, sim A, sst A, srf A, ssy A, sfl A, stB A, m, shn A)
def aSy (A : As) (s : Nat) : As := (sa A, sim A, sst A, srf A, s, sfl A, stB A, stn A, shn A)
theorem RI_tp {A : As} {nn m : Nat} (h : RI I A nn) (hm : m ≤ 400) : RI (up2 I 82 10 (nI m)) (aTp A m) nn := by
  obtain ⟨h1, h2, ⟨v, hc, hv⟩, h4, h5, h6, h7, h8, h9, h10, h11⟩ := h
  have hr : ∀ i, i ≠ 82 → up2 I 82 10 (nI m) i = I i := fun i q1 => up2_ro _ _ _ q1
  have hj : ∀ j, j ≠ 10 → up2 I 82 10 (nI m) 82 j = I 82 j := fun j q1 => up2_j _ _ _ q1
  refine ⟨?_, h2, ⟨v, ?_, hv⟩, ?_, ?_, ?_, ?_, ?_, ?_, ?_, ?_⟩
  · unfold RK; rw [hr 84 (by decide)]; exact h1
  · unfold RIc RLk LKb LKg RSi
    rw [hr 94 (by decide), hr 95 (by decide), hr 101 (by decide), hj 1 (by decide), hj 27 (by decide), hj 39 (by decide)]
    exact hc
  · rw [hr 85 (by decide), hr 86 (by decide)]; exact h4
  · rw [hj 0 (by decide)]; exact h5
  · rw [hr 83 (by decide)]; exact h6
  · rw [hj 6 (by decide)]; exact h7
  · rw [hj 11 (by decide)]; exact h8
  · rw [up2_s, hr 88 (by decide)]; exact ⟨rfl, hm, h9.2.2⟩
  · show HnR _ (shn A)
    unfold HnR
    rw [hj 41 (by decide), hj 42 (by decide), hr 102 (by decide)]
    exact h10
  · rw [hr 87 (by decide)]; exact h11
theorem RI_sy {A : As} {nn s : Nat} (h : RI I A nn) : RI (up2 I 82 6 (nI s)) (aSy A s) nn := by
  obtain ⟨h1, h2, ⟨v, hc, hv⟩, h4, h5, h6, h7, h8, h9, h10, h11⟩ := h
  have hr : ∀ i, i ≠ 82 → up2 I 82 6 (nI s) i = I i := fun i q1 => up2_ro _ _ _ q1
  have hj : ∀ j, j ≠ 6 → up2 I 82 6 (nI s) 82 j = I 82 j := fun j q1 => up2_j _ _ _ q1
  refine ⟨?_, h2, ⟨v, ?_, hv⟩, ?_, ?_, ?_, ?_, ?_, ?_, ?_, ?_⟩
  · unfold RK; rw [hr 84 (by decide)]; exact h1
  · unfold RIc RLk LKb LKg RSi
    rw [hr 94 (by decide), hr 95 (by decide), hr 101 (by decide), hj 1 (by decide), hj 27 (by decide), hj 39 (by decide)]
    exact hc
  · rw [hr 85 (by decide), hr 86 (by decide)]; exact h4
  · rw [hj 0 (by decide)]; exact h5
  · rw [hr 83 (by decide)]; exact h6
  · rw [up2_s]; rfl
  · rw [hj 11 (by decide)]; exact h8
  · rw [hj 10 (by decide), hr 88 (by decide)]; exact h9
  · show HnR _ (shn A)
    unfold HnR
    rw [hj 41 (by decide), hj 42 (by decide), hr 102 (by decide)]
    exact h10
  · rw [hr 87 (by decide)]; exact h11
-- end
theorem inR_le {v : Int32} {n : Nat} (hn : n ≤ 400) : inR v 0 (nI n) = inN v (nI (n + 1)) := inR_N (by omega)
def nEnd (A : As) (v : Int32) : As × Int32 := if inN v (nI (stn A + 1)) = true then (aTp A v.toNatClampNeg, v) else (A, -1)
theorem R_end {A : As} {nn : Nat} {v : Int32} (h : RI I A nn) : RCall xs Ln (d + 3) 177 [.ref 82, .int v] D I L (nEnd A v).1 nn (nEnd A v).2 := by
  have h9 := h.2.2.2.2.2.2.2.2.1
  have e : inR v 0 (I 82 10) = inN v (nI (stn A + 1)) := by rw [h9.1]; exact inR_le h9.2.1
  unfold nEnd
  cases h0 : inN v (nI (stn A + 1)) with
  | false => exact RC_id h (r_endN (by rw [e, h0]))
  | true =>
    rw [if_pos rfl]
    have hst := h9.2.1
    obtain ⟨v, hv, rfl⟩ := inN_t (by omega) h0
    rw [n_cl (by omega)]
    exact Ok.of (r_end (by rw [e, h0])) ⟨_, _, rfl, (RI_tp h (by omega)).up, fun k hk => up2_ro _ _ _ (by omega)⟩
-- feed
def aFd (A : As) (b : Nat → Nat) (m : Nat) : As := (sa A, sim A, sst A, srf A, ssy A, sfl A, b, m, shn A)
def fdA (b : Nat → Nat) (n : Nat) (x1 x2 x3 x4 x5 : Int32) (k : Nat) : Nat → Nat := itr (fun k b => up1 b (n + k) (byV (fv x1 x2 x3 x4 x5 (k / 4)) (k % 4))) k b
theorem fd_b {b : Nat → Nat} {n : Nat} {x1 x2 x3 x4 x5 : Int32} {J : Nat → Nat → Int32} (h : ∀ j, j < 400 → J 88 j = tb (b j) ∧ b j < 256) : ∀ k, ∀ j, j < 400 → itr (fun k J => up2 J 88 (n + k) (tb (byV (fv x1 x2 x3 x4 x5 (k / 4)) (k % 4)))) k J 88 j = tb (fdA b n x1 x2 x3 x4 x5 k j) ∧ fdA b n x1 x2 x3 x4 x5 k j < 256
  | 0, j, hj => h j hj
  | k + 1, j, hj => by
    have ih := fd_b (b := b) (n := n) (x1 := x1) (x2 := x2) (x3 := x3) (x4 := x4) (x5 := x5) (J := J) h k j hj
    unfold fdA at ih ⊢
    rw [itr_s, itr_s]
    by_cases e : j = n + k
    · rw [e, up2_s, up1_s]
      exact ⟨rfl, byV_lt _ _⟩
    · rw [up2_j _ _ _ e, up1_n _ _ e]
      exact ih
theorem RI_fd {A : As} {nn m : Nat} {b : Nat → Nat} {J : Nat → Nat → Int32} (h : RI I A nn) (hm : m ≤ 400) (hJ : ∀ k, k ≠ 88 → k ≠ 89 → J k = I k) (hb : ∀ j, j < 400 → J 88 j = tb (b j) ∧ b j < 256) : RI (up2 J 82 10 (nI m)) (aFd A b m) nn := by
  obtain ⟨h1, h2, ⟨v, hc, hv⟩, h4, h5, h6, h7, h8, h9, h10, h11⟩ := h
  have hr : ∀ i, i ≠ 82 → i ≠ 88 → i ≠ 89 → up2 J 82 10 (nI m) i = I i := fun i q1 q2 q3 => by rw [up2_ro _ _ _ q1]; exact hJ i q2 q3
  have hj : ∀ j, j ≠ 10 → up2 J 82 10 (nI m) 82 j = I 82 j := fun j q1 => by rw [up2_j _ _ _ q1, hJ 82 (by decide) (by decide)]
  refine ⟨?_, h2, ⟨v, ?_, hv⟩, ?_, ?_, ?_, ?_, ?_, ?_, ?_, ?_⟩
  · unfold RK; rw [hr 84 (by decide) (by decide) (by decide)]; exact h1
  · unfold RIc RLk LKb LKg RSi
    rw [hr 94 (by decide) (by decide) (by decide), hr 95 (by decide) (by decide) (by decide), hr 101 (by decide) (by decide) (by decide), hj 1 (by decide), hj 27 (by decide), hj 39 (by decide)]
    exact hc
  · rw [hr 85 (by decide) (by decide) (by decide), hr 86 (by decide) (by decide) (by decide)]; exact h4
  · rw [hj 0 (by decide)]; exact h5
  · rw [hr 83 (by decide) (by decide) (by decide)]; exact h6
  · rw [hj 6 (by decide)]; exact h7
  · rw [hj 11 (by decide)]; exact h8
  · rw [up2_s, up2_ro _ _ _ (by decide)]; exact ⟨rfl, hm, hb⟩
  · show HnR _ (shn A)
    unfold HnR
    rw [hj 41 (by decide), hj 42 (by decide), hr 102 (by decide) (by decide) (by decide)]
    exact h10
  · rw [hr 87 (by decide) (by decide) (by decide)]; exact h11
def nFeed (A : As) (x1 x2 x3 x4 x5 : Int32) : As × Int32 := if stn A ≤ 380 then (aFd A (fdA (stB A) (stn A) x1 x2 x3 x4 x5 20) (stn A + 20), nI (stn A + 20)) else (A, -1)
theorem R_feed {A : As} {nn : Nat} {x1 x2 x3 x4 x5 : Int32} (h : RI I A nn) : RCall xs Ln (d + 1) 176 [.ref 82, .int x1, .int x2, .int x3, .int x4, .int x5] D I L (nFeed A x1 x2 x3 x4 x5).1 nn (nFeed A x1 x2 x3 x4 x5).2 := by
  have h9 := h.2.2.2.2.2.2.2.2.1
  unfold nFeed
  by_cases h0 : stn A ≤ 380
  · rw [if_pos h0]
    have hro : ∀ k, k ≠ 88 → k ≠ 89 → fdR I (stn A) x1 x2 x3 x4 x5 k = I k := fun k q1 q2 => by
      unfold fdR
      rw [itr_ro (fun i J _ => up2_ro _ _ _ q1), up2_ro _ _ _ q2, up2_ro _ _ _ q2, up2_ro _ _ _ q2, up2_ro _ _ _ q2, up2_ro _ _ _ q2]
    refine Ok.of (r_feed h9.1 h0) ⟨_, _, rfl, (RI_fd h (by omega) hro ?_).up, fun k hk => by rw [up2_ro _ _ _ (by omega)]; exact hro k (by omega) (by omega)⟩
    unfold fdR
    refine fd_b ?_ 20
    rw [up2_ro _ _ _ (by decide), up2_ro _ _ _ (by decide), up2_ro _ _ _ (by decide), up2_ro _ _ _ (by decide), up2_ro _ _ _ (by decide)]
    exact h9.2.2
  · rw [if_neg h0]
    exact RC_id h (r_feedN h9.1 (by omega) h9.2.1)
end P86
