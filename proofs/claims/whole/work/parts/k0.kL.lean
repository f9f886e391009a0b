set_option maxRecDepth 100000 in
theorem KL_0 : chkM 15 false cL_law TL_0 = true := by decide +kernel
set_option maxRecDepth 100000 in
theorem KL_1 : chkM 15 false cL_law TL_1 = true := by decide +kernel
set_option maxRecDepth 100000 in
theorem KL_2 : chkM 15 false cL_law TL_2 = true := by decide +kernel
set_option maxRecDepth 100000 in
theorem KL_3 : chkM 15 false cL_law TL_3 = true := by decide +kernel
set_option maxRecDepth 100000 in
theorem KL_4 : chkM 15 false cL_law TL_4 = true := by decide +kernel
set_option maxRecDepth 100000 in
theorem KL_5 : chkM 15 false cL_law TL_5 = true := by decide +kernel
set_option maxRecDepth 100000 in
theorem KL_6 : chkM 15 false cL_law TL_6 = true := by decide +kernel
set_option maxRecDepth 100000 in
theorem KL_7 : chkM 15 false cL_law TL_7 = true := by decide +kernel
set_option maxRecDepth 100000 in
theorem KL_8 : chkM 15 false cL_law TL_8 = true := by decide +kernel
set_option maxRecDepth 100000 in
theorem KL_9 : chkM 15 false cL_law TL_9 = true := by decide +kernel
set_option maxRecDepth 100000 in
theorem KL_10 : chkM 15 false cL_law TL_10 = true := by decide +kernel
set_option maxRecDepth 100000 in
theorem KL_11 : chkM 15 false cL_law TL_11 = true := by decide +kernel
set_option maxRecDepth 100000 in
theorem KL_12 : chkM 15 false cL_law TL_12 = true := by decide +kernel
set_option maxRecDepth 100000 in
theorem KL_13 : chkM 15 false cL_law TL_13 = true := by decide +kernel
set_option maxRecDepth 100000 in
theorem KL_14 : chkM 15 false cL_law TL_14 = true := by decide +kernel
set_option maxRecDepth 100000 in
theorem KL_15 : chkM 15 false cL_law TL_15 = true := by decide +kernel
set_option maxRecDepth 100000 in
theorem KL_16 : chkM 15 false cL_law TL_16 = true := by decide +kernel
set_option maxRecDepth 100000 in
theorem KL_17 : chkM 15 false cL_law TL_17 = true := by decide +kernel
set_option maxRecDepth 100000 in
theorem KL_18 : chkM 15 false cL_law TL_18 = true := by decide +kernel
set_option maxRecDepth 100000 in
theorem KL_19 : chkM 15 false cL_law TL_19 = true := by decide +kernel
set_option maxRecDepth 100000 in
theorem KL_20 : chkM 15 false cL_law TL_20 = true := by decide +kernel
theorem chkM_app {co : Nat} {ini : Bool} {bs : ByteArray} {a b : List Ent} (h : chkM co ini bs a = true) (h2 : chkM co ini bs b = true) : chkM co ini bs (a ++ b) = true := by
  unfold chkM at h h2 ⊢
  rw [List.all_append, h, h2]
  rfl
set_option maxRecDepth 100000 in
theorem chkL : chkM 15 false cL_law T_L_law = true := chkM_app KL_0 (chkM_app KL_1 (chkM_app KL_2 (chkM_app KL_3 (chkM_app KL_4 (chkM_app KL_5 (chkM_app KL_6 (chkM_app KL_7 (chkM_app KL_8 (chkM_app KL_9 (chkM_app KL_10 (chkM_app KL_11 (chkM_app KL_12 (chkM_app KL_13 (chkM_app KL_14 (chkM_app KL_15 (chkM_app KL_16 (chkM_app KL_17 (chkM_app KL_18 (chkM_app KL_19 (KL_20))))))))))))))))))))
