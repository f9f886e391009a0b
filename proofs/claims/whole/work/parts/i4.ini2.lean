section Pi4
theorem chB_5 : chB (fun w => pL0.all (fun x => decide (oP w x.1 x.2.1 = some x.2.2))) = true := by decide +kernel
theorem chB_6 : chB (fun w => allB (fun i => decide (oP w (ob (i + 1)) (fl (i + 1)) = some (ky0 (i + 1))) && decide (sh0 (ky0 (i + 1)) = .inl (.int, ln0 (i + 1)))) 16) = true := by decide +kernel
theorem chB_7 : chB (fun w => allB (fun t => decide (oP w 10 t = none)) 6) = true := by decide +kernel
theorem chB_8 : chB (fun w => allB (fun j => decide (oI w 87 j = nmB j)) 66) = true := by decide +kernel
theorem p0_in {k j q : Nat} : p0 k j = some q → (k, j, q) ∈ pL0 := by
  unfold p0
  split
  all_goals (intro h; first | (cases h; decide) | cases h)
end Pi4
