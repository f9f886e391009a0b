section Pi0
variable {xs : Nat → Int32} {Ln d : Nat} {D D' D'' : Dyn} {I I' I'' J : Nat → Nat → Int32} {L : Nat → Nat → Int64} {w : Om} {Q : Res → Prop} {ow ow' ow'' ky ky' ky'' ln ln' ln'' a a' : Nat → Nat} {o be sr : Nat} {A A' : As} {nn : Nat}
/-! a law is made -/
theorem dn_sh {sh : Sh} {n k : Nat} : shF (dNew D sh n) k = if k = 103 + D.1 then sh else shF D k := by
  unfold shF dNew
  by_cases h : k < 103
  · rw [if_pos h, if_neg (by omega), if_pos h]
  · rw [if_neg h, if_neg h]
    unfold up1
    rfl
theorem dn_p {sh : Sh} {n k j : Nat} : pF (dNew D sh n) k j = if k = 103 + D.1 then none else pF D k j := by
  have := congrFun (congrFun (pF_new D sh n) k) j
  rw [← this]
  unfold upr
  by_cases h : k = 103 + D.1
  · rw [if_pos h, if_pos h]
  · rw [if_neg h, if_neg h]
theorem dp_sh {k j q k' : Nat} : shF (dPut D k j q) k' = shF D k' := id rfl
theorem dp_p {k j q k' j' : Nat} (h : 103 ≤ k) : pF (dPut D k j q) k' j' = if k' = k ∧ j' = j then some q else pF D k' j' := pF_pn (p0_hi h j) k' j'
theorem ob_sh {k c : Nat} (h : shF D k = .inr c) (hc : c < 12) : isObj (mkW D I L) k c = true := by
  unfold isObj
  show (Nat.blt c 12 && (match shF D k with
    | .inr c' => Nat.beq c' c
    | _ => false)) = true
  rw [h]
  show (Nat.blt c 12 && Nat.beq c c) = true
  rw [Nat.beq_refl, Bool.and_true, Nat.blt_eq]
  exact hc
def lwD (D : Dyn) (q a b : Nat) : Dyn := dPut (dPut (dPut (dNew D (.inl (.long, 64)) 64) q 2 (103 + D.1)) q 0 a) q 1 b
theorem c_lwInit {q a b : Nat} (hq : shF D q = .inr 1) (h1 : 103 ≤ q) (h2 : q < 103 + D.1) : callD xs Ln (d + 1) 3 [.ref q, .ref a, .ref b] (mkW D I L) = some (mkW (lwD D q a b) (upr I (103 + D.1) (fun _ => 0)) (upr L (103 + D.1) (fun _ => 0)), none) := by
  refine Ok.eq ?_
  refine semG (lo := [some (.ref q), some (.ref a), some (.ref b)]) rfl rfl (Nat.le_of_ble_eq_true rfl) rfl ?_
  have e1 : shF (dNew D (.inl (.long, 64)) 64) q = .inr 1 := by rw [dn_sh, if_neg (by omega)]; exact hq
  show Gv T_X1_init none xs Ln (callD xs Ln d) 0 [some (.ref q), some (.ref a), some (.ref b)] [] (mkW D I L) _
  rw [Gv.nxt (pc' := 1) (l' := [some (.ref q), some (.ref a), some (.ref b)]) (st' := [.ref q]) (w' := mkW D I L) rfl rfl]
  rw [Gv.nxt (pc' := 4) (l' := [some (.ref q), some (.ref a), some (.ref b)]) (st' := []) (w' := mkW D I L) rfl (by exact (X_obj (by simp [catS, Value.category])))]
  rw [Gv.nxt (pc' := 5) (l' := [some (.ref q), some (.ref a), some (.ref b)]) (st' := [.ref q]) (w' := mkW D I L) rfl rfl]
  rw [Gv.nxt (pc' := 7) (l' := [some (.ref q), some (.ref a), some (.ref b)]) (st' := [.int (nI 64), .ref q]) (w' := mkW D I L) rfl rfl]
  rw [Gv.nxt (pc' := 9) (l' := [some (.ref q), some (.ref a), some (.ref b)]) (st' := [.ref (103 + D.1), .ref q]) (w' := mkW (dNew D (.inl (.long, 64)) 64) (upr I (103 + D.1) (fun _ => 0)) (upr L (103 + D.1) (fun _ => 0))) rfl (by exact (Y_newa (by decide) rfl))]
  rw [Gv.nxt (pc' := 12) (l' := [some (.ref q), some (.ref a), some (.ref b)]) (st' := []) (w' := mkW (dPut (dNew D (.inl (.long, 64)) 64) q 2 (103 + D.1)) (upr I (103 + D.1) (fun _ => 0)) (upr L (103 + D.1) (fun _ => 0))) rfl (by exact (Y_putP (ob_sh e1 (by decide)) rfl (p0_hi h1 _)))]
  rw [Gv.nxt (pc' := 13) (l' := [some (.ref q), some (.ref a), some (.ref b)]) (st' := [.ref q]) (w' := mkW (dPut (dNew D (.inl (.long, 64)) 64) q 2 (103 + D.1)) (upr I (103 + D.1) (fun _ => 0)) (upr L (103 + D.1) (fun _ => 0))) rfl rfl]
  rw [Gv.nxt (pc' := 14) (l' := [some (.ref q), some (.ref a), some (.ref b)]) (st' := [.ref a, .ref q]) (w' := mkW (dPut (dNew D (.inl (.long, 64)) 64) q 2 (103 + D.1)) (upr I (103 + D.1) (fun _ => 0)) (upr L (103 + D.1) (fun _ => 0))) rfl rfl]
  rw [Gv.nxt (pc' := 17) (l' := [some (.ref q), some (.ref a), some (.ref b)]) (st' := []) (w' := mkW (dPut (dPut (dNew D (.inl (.long, 64)) 64) q 2 (103 + D.1)) q 0 a) (upr I (103 + D.1) (fun _ => 0)) (upr L (103 + D.1) (fun _ => 0))) rfl (by exact (Y_putP (ob_sh e1 (by decide)) rfl (p0_hi h1 _)))]
  rw [Gv.nxt (pc' := 18) (l' := [some (.ref q), some (.ref a), some (.ref b)]) (st' := [.ref q]) (w' := mkW (dPut (dPut (dNew D (.inl (.long, 64)) 64) q 2 (103 + D.1)) q 0 a) (upr I (103 + D.1) (fun _ => 0)) (upr L (103 + D.1) (fun _ => 0))) rfl rfl]
  rw [Gv.nxt (pc' := 19) (l' := [some (.ref q), some (.ref a), some (.ref b)]) (st' := [.ref b, .ref q]) (w' := mkW (dPut (dPut (dNew D (.inl (.long, 64)) 64) q 2 (103 + D.1)) q 0 a) (upr I (103 + D.1) (fun _ => 0)) (upr L (103 + D.1) (fun _ => 0))) rfl rfl]
  rw [Gv.nxt (pc' := 22) (l' := [some (.ref q), some (.ref a), some (.ref b)]) (st' := []) (w' := mkW (lwD D q a b) (upr I (103 + D.1) (fun _ => 0)) (upr L (103 + D.1) (fun _ => 0))) rfl (by exact (Y_putP (ob_sh e1 (by decide)) rfl (p0_hi h1 _)))]
  rw [Gv.ret rfl (by exact X_vret)]
/-- what a law's making changes -/
def LwG (D D' : Dyn) (n m : Nat) : Prop := D'.1 = D.1 + 4 ∧ D'.2.1 = D.2.1 + 3 + n + 4 * m + 64 ∧ (∀ k, k < 103 + D.1 → shF D' k = shF D k ∧ ∀ j, pF D' k j = pF D k j) ∧ LwS D' (103 + D.1) n m
theorem lwG_of {n m : Nat} (hn : n ≤ 400) (hm : m ≤ 12) : LwG D (lwD (dNew (dNew (dNew D (.inr 1) (nF 1)) (.inl (.int, n)) n) (.inl (.int, 4 * m)) (4 * m)) (103 + D.1) (103 + D.1 + 1) (103 + D.1 + 2)) n m := by
  have q1 : ∀ (E : Dyn) (sh : Sh) (x : Nat), (dNew E sh x).1 = E.1 + 1 := fun _ _ _ => rfl
  have hsh : ∀ k, shF (lwD (dNew (dNew (dNew D (.inr 1) (nF 1)) (.inl (.int, n)) n) (.inl (.int, 4 * m)) (4 * m)) (103 + D.1) (103 + D.1 + 1) (103 + D.1 + 2)) k = if k = 103 + D.1 + 3 then .inl (.long, 64) else if k = 103 + D.1 + 2 then .inl (.int, 4 * m) else if k = 103 + D.1 + 1 then .inl (.int, n) else if k = 103 + D.1 then .inr 1 else shF D k := fun k => by
    unfold lwD
    rw [dp_sh, dp_sh, dp_sh, dn_sh, dn_sh, dn_sh, dn_sh, q1, q1, q1]
    rfl
  have hp : ∀ k j, pF (lwD (dNew (dNew (dNew D (.inr 1) (nF 1)) (.inl (.int, n)) n) (.inl (.int, 4 * m)) (4 * m)) (103 + D.1) (103 + D.1 + 1) (103 + D.1 + 2)) k j = if k = 103 + D.1 ∧ j = 1 then some (103 + D.1 + 2) else if k = 103 + D.1 ∧ j = 0 then some (103 + D.1 + 1) else if k = 103 + D.1 ∧ j = 2 then some (103 + D.1 + 3) else if k = 103 + D.1 + 3 then none else if k = 103 + D.1 + 2 then none else if k = 103 + D.1 + 1 then none else if k = 103 + D.1 then none else pF D k j := fun k j => by
    unfold lwD
    rw [dp_p (by omega), dp_p (by omega), dp_p (by omega), dn_p, dn_p, dn_p, dn_p, q1, q1, q1]
    rfl
  refine ⟨rfl, ?_, fun k hk => ⟨?_, fun j => ?_⟩, ?_⟩
  · show D.2.1 + nF 1 + n + 4 * m + 64 = _
    rfl
  · rw [hsh, if_neg (by omega), if_neg (by omega), if_neg (by omega), if_neg (by omega)]
  · rw [hp, if_neg (by omega), if_neg (by omega), if_neg (by omega), if_neg (by omega), if_neg (by omega), if_neg (by omega), if_neg (by omega)]
  · refine ⟨by omega, by show 103 + D.1 + 3 < 103 + (D.1 + 4); omega, ?_, ?_, ?_, ?_, ?_, ?_, ?_, hn, hm⟩
    · rw [hsh, if_neg (by omega), if_neg (by omega), if_neg (by omega), if_pos rfl]
    · rw [hp, if_neg (by omega), if_pos ⟨rfl, rfl⟩]
    · rw [hp, if_pos ⟨rfl, rfl⟩]
    · rw [hp, if_neg (by omega), if_neg (by omega), if_pos ⟨rfl, rfl⟩]
    · rw [hsh, if_neg (by omega), if_neg (by omega), if_pos rfl]
    · rw [hsh, if_neg (by omega), if_pos rfl]
    · rw [hsh, if_pos rfl]
end Pi0
