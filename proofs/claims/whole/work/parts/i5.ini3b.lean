theorem chC_1 : chB (fun w => allB (fun c => allB (fun i => decide (oI w 84 (2000 + 50 * c + i) = if 2000 + 50 * c + i = 4326 then -1 else 0)) 50) 40) = true := by decide +kernel
