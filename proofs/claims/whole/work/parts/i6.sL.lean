section SL
variable {xs : Nat → Int32} {Ln : Nat} {call : Call} {r : Res} {w : Om} {u0 u1 u2 u3 u4 u5 u6 u7 u8 u9 u10 u11 u12 u13 u14 u15 : Option Value} {i0 i1 i2 i3 i4 i5 i6 i7 i8 i9 x : Int32} {j0 j1 j2 j3 j4 j5 j6 j7 j8 j9 y : Int64} {k0 k1 k2 k3 k4 k5 k6 k7 k8 k9 n n0 n1 : Nat} {v0 v1 v2 v3 v4 v5 v6 v7 v8 v9 z : Value} {ty : FieldType}
set_option maxRecDepth 20000 in
theorem S_L_law_0 : Ev T_L_law (some .boolean) xs Ln call 0 [u0, u1, u2, u3] [] w r = Ev T_L_law (some .boolean) xs Ln call 3 [u0, u1, u2, u3] [.ref (oN w)] (mk w (.inr 10) (nF 10)) r := Ev.nxt rfl rfl
set_option maxRecDepth 20000 in
theorem S_L_law_3 : Ev T_L_law (some .boolean) xs Ln call 3 [u0, u1, u2, u3] [.ref k0] w r = Ev T_L_law (some .boolean) xs Ln call 4 [u0, u1, u2, u3] [.ref k0, .ref k0] w r := Ev.nxt rfl rfl
set_option maxRecDepth 20000 in
theorem S_L_law_4 (h : isObj w k0 10 = true) : Ev T_L_law (some .boolean) xs Ln call 4 [u0, u1, u2, u3] [.ref k0, .ref k1] w r = aft T_L_law (some .boolean) xs Ln call 7 [u0, u1, u2, u3] [.ref k1] r (call 85 [.ref k0] w) := Ev.cl (vv := true) (k := 85) (n := 1) (nx := 7) rfl rfl (Nat.le_of_ble_eq_true rfl) (by simp [catS, Value.category]) rfl (Or.inr h)
set_option maxRecDepth 20000 in
theorem S_L_law_7 (h9 : isRf v0 = true) (h : c1 u0 = true) : Ev T_L_law (some .boolean) xs Ln call 7 [u0, u1, u2, u3] [v0] w r = Ev T_L_law (some .boolean) xs Ln call 8 [u0, some v0, u2, u3] [] w r := Ev.nxt rfl (by exact (X_astn h9 (Nat.le_of_ble_eq_true rfl) (lset_c1 (i := 0) (u := u0) rfl h)))
set_option maxRecDepth 20000 in
theorem S_L_law_8 : Ev T_L_law (some .boolean) xs Ln call 8 [u0, u1, u2, u3] [] w r = Ev T_L_law (some .boolean) xs Ln call 11 [u0, u1, u2, u3] [.ref (oN w)] (mk w (.inr 11) (nF 11)) r := Ev.nxt rfl rfl
set_option maxRecDepth 20000 in
theorem S_L_law_11 : Ev T_L_law (some .boolean) xs Ln call 11 [u0, u1, u2, u3] [.ref k0] w r = Ev T_L_law (some .boolean) xs Ln call 12 [u0, u1, u2, u3] [.ref k0, .ref k0] w r := Ev.nxt rfl rfl
set_option maxRecDepth 20000 in
theorem S_L_law_12 (h : isObj w k0 11 = true) : Ev T_L_law (some .boolean) xs Ln call 12 [u0, u1, u2, u3] [.ref k0, .ref k1] w r = aft T_L_law (some .boolean) xs Ln call 15 [u0, u1, u2, u3] [.ref k1] r (call 159 [.ref k0] w) := Ev.cl (vv := true) (k := 159) (n := 1) (nx := 15) rfl rfl (Nat.le_of_ble_eq_true rfl) (by simp [catS, Value.category]) rfl (Or.inr h)
set_option maxRecDepth 20000 in
theorem S_L_law_15 (h9 : isRf v0 = true) (h : c1 u1 = true) : Ev T_L_law (some .boolean) xs Ln call 15 [u0, u1, u2, u3] [v0] w r = Ev T_L_law (some .boolean) xs Ln call 16 [u0, u1, some v0, u3] [] w r := Ev.nxt rfl (by exact (X_astn h9 (Nat.le_of_ble_eq_true rfl) (lset_c1 (i := 1) (u := u1) rfl h)))
set_option maxRecDepth 20000 in
theorem S_L_law_16 : Ev T_L_law (some .boolean) xs Ln call 16 [u0, u1, u2, u3] [] w r = Ev T_L_law (some .boolean) xs Ln call 17 [u0, u1, u2, u3] [.int 0] w r := Ev.nxt rfl rfl
set_option maxRecDepth 20000 in
theorem S_L_law_17 (h : c1 u2 = true) : Ev T_L_law (some .boolean) xs Ln call 17 [u0, u1, u2, u3] [.int i0] w r = Ev T_L_law (some .boolean) xs Ln call 18 [u0, u1, u2, some (.int i0)] [] w r := Ev.nxt rfl (by exact (X_istn (Nat.le_of_ble_eq_true rfl) (lset_c1 (i := 2) (u := u2) rfl h)))
set_option maxRecDepth 20000 in
theorem S_L_law_18 : Ev T_L_law (some .boolean) xs Ln call 18 [u0, u1, u2, some (.int x)] [] w r = Ev T_L_law (some .boolean) xs Ln call 19 [u0, u1, u2, some (.int x)] [.int x] w r := Ev.nxt rfl rfl
set_option maxRecDepth 20000 in
theorem S_L_law_19 (h : isRf z = true) : Ev T_L_law (some .boolean) xs Ln call 19 [some z, u1, u2, u3] [.int i0] w r = Ev T_L_law (some .boolean) xs Ln call 20 [some z, u1, u2, u3] [z, .int i0] w r := Ev.nxt rfl (by exact (if_pos h))
set_option maxRecDepth 20000 in
theorem S_L_law_20 : Ev T_L_law (some .boolean) xs Ln call 20 [u0, u1, u2, u3] [.retAddr 0, .int i1] w r = Ev T_L_law (some .boolean) xs Ln call 21 [u0, u1, u2, u3] [.int (Int32.ofNat Ln), .int i1] w r := Ev.nxt rfl rfl
set_option maxRecDepth 20000 in
theorem S_L_law_21 : Ev T_L_law (some .boolean) xs Ln call 21 [u0, u1, u2, u3] [.int i0, .int i1] w r = Ev T_L_law (some .boolean) xs Ln call 23 [u0, u1, u2, u3] [.int 6, .int i0, .int i1] w r := Ev.nxt rfl rfl
set_option maxRecDepth 20000 in
theorem S_L_law_23 : Ev T_L_law (some .boolean) xs Ln call 23 [u0, u1, u2, u3] [.int i0, .int i1, .int i2] w r = Ev T_L_law (some .boolean) xs Ln call 24 [u0, u1, u2, u3] [.int (i1 - i0), .int i2] w r := Ev.nxt rfl rfl
set_option maxRecDepth 20000 in
theorem S_L_law_24 : Ev T_L_law (some .boolean) xs Ln call 24 [u0, u1, u2, u3] [.int i0, .int i1] w r = if i0 < i1 then Ev T_L_law (some .boolean) xs Ln call 1791 [u0, u1, u2, u3] [] w r else Ev T_L_law (some .boolean) xs Ln call 27 [u0, u1, u2, u3] [] w r := Ev.ifc rfl (by exact iteB)
set_option maxRecDepth 20000 in
theorem S_L_law_27 (h : isRf z = true) : Ev T_L_law (some .boolean) xs Ln call 27 [some z, u1, u2, u3] [] w r = Ev T_L_law (some .boolean) xs Ln call 28 [some z, u1, u2, u3] [z] w r := Ev.nxt rfl (by exact (if_pos h))
set_option maxRecDepth 20000 in
theorem S_L_law_28 : Ev T_L_law (some .boolean) xs Ln call 28 [u0, u1, u2, some (.int x)] [v0] w r = Ev T_L_law (some .boolean) xs Ln call 29 [u0, u1, u2, some (.int x)] [.int x, v0] w r := Ev.nxt rfl rfl
set_option maxRecDepth 20000 in
theorem S_L_law_29 (hi : ¬ (i0 < 0 ∨ Ln ≤ i0.toNatClampNeg)) : Ev T_L_law (some .boolean) xs Ln call 29 [u0, u1, u2, u3] [.int i0, .retAddr 0] w r = Ev T_L_law (some .boolean) xs Ln call 30 [u0, u1, u2, u3] [.int (xs i0.toNatClampNeg)] w r := Ev.nxt rfl (by exact (X_sld hi))
set_option maxRecDepth 20000 in
theorem S_L_law_30 : Ev T_L_law (some .boolean) xs Ln call 30 [u0, u1, u2, u3] [.int i0] w r = Ev T_L_law (some .boolean) xs Ln call 32 [u0, u1, u2, u3] [.int 63, .int i0] w r := Ev.nxt rfl rfl
set_option maxRecDepth 20000 in
theorem S_L_law_32 : Ev T_L_law (some .boolean) xs Ln call 32 [u0, u1, u2, u3] [.int i0, .int i1] w r = Ev T_L_law (some .boolean) xs Ln call 33 [u0, u1, u2, u3] [.int (i1 &&& i0)] w r := Ev.nxt rfl rfl
set_option maxRecDepth 20000 in
theorem S_L_law_33_0 : Ev T_L_law (some .boolean) xs Ln call 33 [u0, u1, u2, u3] [.int 0] w r = Ev T_L_law (some .boolean) xs Ln call 252 [u0, u1, u2, u3] [] w r := Ev.nxt rfl rfl
set_option maxRecDepth 20000 in
theorem S_L_law_33_1 : Ev T_L_law (some .boolean) xs Ln call 33 [u0, u1, u2, u3] [.int 1] w r = Ev T_L_law (some .boolean) xs Ln call 275 [u0, u1, u2, u3] [] w r := Ev.nxt rfl rfl
set_option maxRecDepth 20000 in
theorem S_L_law_33_2 : Ev T_L_law (some .boolean) xs Ln call 33 [u0, u1, u2, u3] [.int 2] w r = Ev T_L_law (some .boolean) xs Ln call 308 [u0, u1, u2, u3] [] w r := Ev.nxt rfl rfl
set_option maxRecDepth 20000 in
theorem S_L_law_33_3 : Ev T_L_law (some .boolean) xs Ln call 33 [u0, u1, u2, u3] [.int 3] w r = Ev T_L_law (some .boolean) xs Ln call 341 [u0, u1, u2, u3] [] w r := Ev.nxt rfl rfl
set_option maxRecDepth 20000 in
theorem S_L_law_33_4 : Ev T_L_law (some .boolean) xs Ln call 33 [u0, u1, u2, u3] [.int 4] w r = Ev T_L_law (some .boolean) xs Ln call 384 [u0, u1, u2, u3] [] w r := Ev.nxt rfl rfl
set_option maxRecDepth 20000 in
theorem S_L_law_33_5 : Ev T_L_law (some .boolean) xs Ln call 33 [u0, u1, u2, u3] [.int 5] w r = Ev T_L_law (some .boolean) xs Ln call 427 [u0, u1, u2, u3] [] w r := Ev.nxt rfl rfl
set_option maxRecDepth 20000 in
theorem S_L_law_33_6 : Ev T_L_law (some .boolean) xs Ln call 33 [u0, u1, u2, u3] [.int 6] w r = Ev T_L_law (some .boolean) xs Ln call 450 [u0, u1, u2, u3] [] w r := Ev.nxt rfl rfl
set_option maxRecDepth 20000 in
theorem S_L_law_33_7 : Ev T_L_law (some .boolean) xs Ln call 33 [u0, u1, u2, u3] [.int 7] w r = Ev T_L_law (some .boolean) xs Ln call 513 [u0, u1, u2, u3] [] w r := Ev.nxt rfl rfl
set_option maxRecDepth 20000 in
theorem S_L_law_33_8 : Ev T_L_law (some .boolean) xs Ln call 33 [u0, u1, u2, u3] [.int 8] w r = Ev T_L_law (some .boolean) xs Ln call 536 [u0, u1, u2, u3] [] w r := Ev.nxt rfl rfl
set_option maxRecDepth 20000 in
theorem S_L_law_33_9 : Ev T_L_law (some .boolean) xs Ln call 33 [u0, u1, u2, u3] [.int 9] w r = Ev T_L_law (some .boolean) xs Ln call 559 [u0, u1, u2, u3] [] w r := Ev.nxt rfl rfl
set_option maxRecDepth 20000 in
theorem S_L_law_33_10 : Ev T_L_law (some .boolean) xs Ln call 33 [u0, u1, u2, u3] [.int 10] w r = Ev T_L_law (some .boolean) xs Ln call 572 [u0, u1, u2, u3] [] w r := Ev.nxt rfl rfl
set_option maxRecDepth 20000 in
theorem S_L_law_33_11 : Ev T_L_law (some .boolean) xs Ln call 33 [u0, u1, u2, u3] [.int 11] w r = Ev T_L_law (some .boolean) xs Ln call 585 [u0, u1, u2, u3] [] w r := Ev.nxt rfl rfl
set_option maxRecDepth 20000 in
theorem S_L_law_33_12 : Ev T_L_law (some .boolean) xs Ln call 33 [u0, u1, u2, u3] [.int 12] w r = Ev T_L_law (some .boolean) xs Ln call 598 [u0, u1, u2, u3] [] w r := Ev.nxt rfl rfl
set_option maxRecDepth 20000 in
theorem S_L_law_33_13 : Ev T_L_law (some .boolean) xs Ln call 33 [u0, u1, u2, u3] [.int 13] w r = Ev T_L_law (some .boolean) xs Ln call 621 [u0, u1, u2, u3] [] w r := Ev.nxt rfl rfl
set_option maxRecDepth 20000 in
theorem S_L_law_33_14 : Ev T_L_law (some .boolean) xs Ln call 33 [u0, u1, u2, u3] [.int 14] w r = Ev T_L_law (some .boolean) xs Ln call 674 [u0, u1, u2, u3] [] w r := Ev.nxt rfl rfl
set_option maxRecDepth 20000 in
theorem S_L_law_33_15 : Ev T_L_law (some .boolean) xs Ln call 33 [u0, u1, u2, u3] [.int 15] w r = Ev T_L_law (some .boolean) xs Ln call 707 [u0, u1, u2, u3] [] w r := Ev.nxt rfl rfl
set_option maxRecDepth 20000 in
theorem S_L_law_33_16 : Ev T_L_law (some .boolean) xs Ln call 33 [u0, u1, u2, u3] [.int 16] w r = Ev T_L_law (some .boolean) xs Ln call 730 [u0, u1, u2, u3] [] w r := Ev.nxt rfl rfl
set_option maxRecDepth 20000 in
theorem S_L_law_33_17 : Ev T_L_law (some .boolean) xs Ln call 33 [u0, u1, u2, u3] [.int 17] w r = Ev T_L_law (some .boolean) xs Ln call 743 [u0, u1, u2, u3] [] w r := Ev.nxt rfl rfl
set_option maxRecDepth 20000 in
theorem S_L_law_33_18 : Ev T_L_law (some .boolean) xs Ln call 33 [u0, u1, u2, u3] [.int 18] w r = Ev T_L_law (some .boolean) xs Ln call 786 [u0, u1, u2, u3] [] w r := Ev.nxt rfl rfl
set_option maxRecDepth 20000 in
theorem S_L_law_33_19 : Ev T_L_law (some .boolean) xs Ln call 33 [u0, u1, u2, u3] [.int 19] w r = Ev T_L_law (some .boolean) xs Ln call 809 [u0, u1, u2, u3] [] w r := Ev.nxt rfl rfl
set_option maxRecDepth 20000 in
theorem S_L_law_33_20 : Ev T_L_law (some .boolean) xs Ln call 33 [u0, u1, u2, u3] [.int 20] w r = Ev T_L_law (some .boolean) xs Ln call 852 [u0, u1, u2, u3] [] w r := Ev.nxt rfl rfl
set_option maxRecDepth 20000 in
theorem S_L_law_33_21 : Ev T_L_law (some .boolean) xs Ln call 33 [u0, u1, u2, u3] [.int 21] w r = Ev T_L_law (some .boolean) xs Ln call 895 [u0, u1, u2, u3] [] w r := Ev.nxt rfl rfl
set_option maxRecDepth 20000 in
theorem S_L_law_33_22 : Ev T_L_law (some .boolean) xs Ln call 33 [u0, u1, u2, u3] [.int 22] w r = Ev T_L_law (some .boolean) xs Ln call 948 [u0, u1, u2, u3] [] w r := Ev.nxt rfl rfl
set_option maxRecDepth 20000 in
theorem S_L_law_33_23 : Ev T_L_law (some .boolean) xs Ln call 33 [u0, u1, u2, u3] [.int 23] w r = Ev T_L_law (some .boolean) xs Ln call 991 [u0, u1, u2, u3] [] w r := Ev.nxt rfl rfl
set_option maxRecDepth 20000 in
theorem S_L_law_33_24 : Ev T_L_law (some .boolean) xs Ln call 33 [u0, u1, u2, u3] [.int 24] w r = Ev T_L_law (some .boolean) xs Ln call 1024 [u0, u1, u2, u3] [] w r := Ev.nxt rfl rfl
set_option maxRecDepth 20000 in
theorem S_L_law_33_25 : Ev T_L_law (some .boolean) xs Ln call 33 [u0, u1, u2, u3] [.int 25] w r = Ev T_L_law (some .boolean) xs Ln call 1067 [u0, u1, u2, u3] [] w r := Ev.nxt rfl rfl
set_option maxRecDepth 20000 in
theorem S_L_law_33_26 : Ev T_L_law (some .boolean) xs Ln call 33 [u0, u1, u2, u3] [.int 26] w r = Ev T_L_law (some .boolean) xs Ln call 1110 [u0, u1, u2, u3] [] w r := Ev.nxt rfl rfl
set_option maxRecDepth 20000 in
theorem S_L_law_33_27 : Ev T_L_law (some .boolean) xs Ln call 33 [u0, u1, u2, u3] [.int 27] w r = Ev T_L_law (some .boolean) xs Ln call 1143 [u0, u1, u2, u3] [] w r := Ev.nxt rfl rfl
set_option maxRecDepth 20000 in
theorem S_L_law_33_28 : Ev T_L_law (some .boolean) xs Ln call 33 [u0, u1, u2, u3] [.int 28] w r = Ev T_L_law (some .boolean) xs Ln call 1186 [u0, u1, u2, u3] [] w r := Ev.nxt rfl rfl
set_option maxRecDepth 20000 in
theorem S_L_law_33_29 : Ev T_L_law (some .boolean) xs Ln call 33 [u0, u1, u2, u3] [.int 29] w r = Ev T_L_law (some .boolean) xs Ln call 1229 [u0, u1, u2, u3] [] w r := Ev.nxt rfl rfl
set_option maxRecDepth 20000 in
theorem S_L_law_33_30 : Ev T_L_law (some .boolean) xs Ln call 33 [u0, u1, u2, u3] [.int 30] w r = Ev T_L_law (some .boolean) xs Ln call 1252 [u0, u1, u2, u3] [] w r := Ev.nxt rfl rfl
set_option maxRecDepth 20000 in
theorem S_L_law_33_31 : Ev T_L_law (some .boolean) xs Ln call 33 [u0, u1, u2, u3] [.int 31] w r = Ev T_L_law (some .boolean) xs Ln call 1275 [u0, u1, u2, u3] [] w r := Ev.nxt rfl rfl
set_option maxRecDepth 20000 in
theorem S_L_law_33_32 : Ev T_L_law (some .boolean) xs Ln call 33 [u0, u1, u2, u3] [.int 32] w r = Ev T_L_law (some .boolean) xs Ln call 1308 [u0, u1, u2, u3] [] w r := Ev.nxt rfl rfl
set_option maxRecDepth 20000 in
theorem S_L_law_33_33 : Ev T_L_law (some .boolean) xs Ln call 33 [u0, u1, u2, u3] [.int 33] w r = Ev T_L_law (some .boolean) xs Ln call 1331 [u0, u1, u2, u3] [] w r := Ev.nxt rfl rfl
set_option maxRecDepth 20000 in
theorem S_L_law_33_34 : Ev T_L_law (some .boolean) xs Ln call 33 [u0, u1, u2, u3] [.int 34] w r = Ev T_L_law (some .boolean) xs Ln call 1354 [u0, u1, u2, u3] [] w r := Ev.nxt rfl rfl
set_option maxRecDepth 20000 in
theorem S_L_law_33_35 : Ev T_L_law (some .boolean) xs Ln call 33 [u0, u1, u2, u3] [.int 35] w r = Ev T_L_law (some .boolean) xs Ln call 1377 [u0, u1, u2, u3] [] w r := Ev.nxt rfl rfl
set_option maxRecDepth 20000 in
theorem S_L_law_33_36 : Ev T_L_law (some .boolean) xs Ln call 33 [u0, u1, u2, u3] [.int 36] w r = Ev T_L_law (some .boolean) xs Ln call 1400 [u0, u1, u2, u3] [] w r := Ev.nxt rfl rfl
set_option maxRecDepth 20000 in
theorem S_L_law_33_37 : Ev T_L_law (some .boolean) xs Ln call 33 [u0, u1, u2, u3] [.int 37] w r = Ev T_L_law (some .boolean) xs Ln call 1423 [u0, u1, u2, u3] [] w r := Ev.nxt rfl rfl
set_option maxRecDepth 20000 in
theorem S_L_law_33_38 : Ev T_L_law (some .boolean) xs Ln call 33 [u0, u1, u2, u3] [.int 38] w r = Ev T_L_law (some .boolean) xs Ln call 1446 [u0, u1, u2, u3] [] w r := Ev.nxt rfl rfl
set_option maxRecDepth 20000 in
theorem S_L_law_33_39 : Ev T_L_law (some .boolean) xs Ln call 33 [u0, u1, u2, u3] [.int 39] w r = Ev T_L_law (some .boolean) xs Ln call 1469 [u0, u1, u2, u3] [] w r := Ev.nxt rfl rfl
set_option maxRecDepth 20000 in
theorem S_L_law_33_40 : Ev T_L_law (some .boolean) xs Ln call 33 [u0, u1, u2, u3] [.int 40] w r = Ev T_L_law (some .boolean) xs Ln call 1502 [u0, u1, u2, u3] [] w r := Ev.nxt rfl rfl
set_option maxRecDepth 20000 in
theorem S_L_law_33_41 : Ev T_L_law (some .boolean) xs Ln call 33 [u0, u1, u2, u3] [.int 41] w r = Ev T_L_law (some .boolean) xs Ln call 1535 [u0, u1, u2, u3] [] w r := Ev.nxt rfl rfl
set_option maxRecDepth 20000 in
theorem S_L_law_33_42 : Ev T_L_law (some .boolean) xs Ln call 33 [u0, u1, u2, u3] [.int 42] w r = Ev T_L_law (some .boolean) xs Ln call 1568 [u0, u1, u2, u3] [] w r := Ev.nxt rfl rfl
set_option maxRecDepth 20000 in
theorem S_L_law_33_43 : Ev T_L_law (some .boolean) xs Ln call 33 [u0, u1, u2, u3] [.int 43] w r = Ev T_L_law (some .boolean) xs Ln call 1601 [u0, u1, u2, u3] [] w r := Ev.nxt rfl rfl
set_option maxRecDepth 20000 in
theorem S_L_law_33_44 : Ev T_L_law (some .boolean) xs Ln call 33 [u0, u1, u2, u3] [.int 44] w r = Ev T_L_law (some .boolean) xs Ln call 1624 [u0, u1, u2, u3] [] w r := Ev.nxt rfl rfl
set_option maxRecDepth 20000 in
theorem S_L_law_33_45 : Ev T_L_law (some .boolean) xs Ln call 33 [u0, u1, u2, u3] [.int 45] w r = Ev T_L_law (some .boolean) xs Ln call 1647 [u0, u1, u2, u3] [] w r := Ev.nxt rfl rfl
set_option maxRecDepth 20000 in
theorem S_L_law_33_46 : Ev T_L_law (some .boolean) xs Ln call 33 [u0, u1, u2, u3] [.int 46] w r = Ev T_L_law (some .boolean) xs Ln call 1680 [u0, u1, u2, u3] [] w r := Ev.nxt rfl rfl
set_option maxRecDepth 20000 in
theorem S_L_law_33_47 : Ev T_L_law (some .boolean) xs Ln call 33 [u0, u1, u2, u3] [.int 47] w r = Ev T_L_law (some .boolean) xs Ln call 1703 [u0, u1, u2, u3] [] w r := Ev.nxt rfl rfl
set_option maxRecDepth 20000 in
theorem S_L_law_33_48 : Ev T_L_law (some .boolean) xs Ln call 33 [u0, u1, u2, u3] [.int 48] w r = Ev T_L_law (some .boolean) xs Ln call 1726 [u0, u1, u2, u3] [] w r := Ev.nxt rfl rfl
set_option maxRecDepth 20000 in
theorem S_L_law_33_49 : Ev T_L_law (some .boolean) xs Ln call 33 [u0, u1, u2, u3] [.int 49] w r = Ev T_L_law (some .boolean) xs Ln call 1749 [u0, u1, u2, u3] [] w r := Ev.nxt rfl rfl
set_option maxRecDepth 20000 in
theorem S_L_law_33_50 : Ev T_L_law (some .boolean) xs Ln call 33 [u0, u1, u2, u3] [.int 50] w r = Ev T_L_law (some .boolean) xs Ln call 1772 [u0, u1, u2, u3] [] w r := Ev.nxt rfl rfl
set_option maxRecDepth 20000 in
theorem S_L_law_33 (h : i0.toInt < 0 ∨ 50 < i0.toInt) : Ev T_L_law (some .boolean) xs Ln call 33 [u0, u1, u2, u3] [.int i0] w r = Ev T_L_law (some .boolean) xs Ln call 1785 [u0, u1, u2, u3] [] w r := Ev.nxt rfl (by exact if_pos h)
set_option maxRecDepth 20000 in
theorem S_L_law_252 (h : isRf z = true) : Ev T_L_law (some .boolean) xs Ln call 252 [u0, some z, u2, u3] [] w r = Ev T_L_law (some .boolean) xs Ln call 253 [u0, some z, u2, u3] [z] w r := Ev.nxt rfl (by exact (if_pos h))
set_option maxRecDepth 20000 in
theorem S_L_law_253 (h : isRf z = true) : Ev T_L_law (some .boolean) xs Ln call 253 [some z, u1, u2, u3] [v0] w r = Ev T_L_law (some .boolean) xs Ln call 254 [some z, u1, u2, u3] [z, v0] w r := Ev.nxt rfl (by exact (if_pos h))
set_option maxRecDepth 20000 in
theorem S_L_law_254 : Ev T_L_law (some .boolean) xs Ln call 254 [u0, u1, u2, some (.int x)] [v0, v1] w r = Ev T_L_law (some .boolean) xs Ln call 255 [u0, u1, u2, some (.int x)] [.int x, v0, v1] w r := Ev.nxt rfl rfl
set_option maxRecDepth 20000 in
theorem S_L_law_255 : Ev T_L_law (some .boolean) xs Ln call 255 [u0, u1, u2, u3] [.int i0, v1, v2] w r = Ev T_L_law (some .boolean) xs Ln call 256 [u0, u1, u2, u3] [.int 1, .int i0, v1, v2] w r := Ev.nxt rfl rfl
set_option maxRecDepth 20000 in
theorem S_L_law_256 : Ev T_L_law (some .boolean) xs Ln call 256 [u0, u1, u2, u3] [.int i0, .int i1, v2, v3] w r = Ev T_L_law (some .boolean) xs Ln call 257 [u0, u1, u2, u3] [.int (i1 + i0), v2, v3] w r := Ev.nxt rfl rfl
set_option maxRecDepth 20000 in
theorem S_L_law_257 (hi : ¬ (i0 < 0 ∨ Ln ≤ i0.toNatClampNeg)) : Ev T_L_law (some .boolean) xs Ln call 257 [u0, u1, u2, u3] [.int i0, .retAddr 0, v2] w r = Ev T_L_law (some .boolean) xs Ln call 258 [u0, u1, u2, u3] [.int (xs i0.toNatClampNeg), v2] w r := Ev.nxt rfl (by exact (X_sld hi))
set_option maxRecDepth 20000 in
theorem S_L_law_258 (h : isObj w k1 10 = true) : Ev T_L_law (some .boolean) xs Ln call 258 [u0, u1, u2, u3] [.int i0, .ref k1] w r = aft T_L_law (some .boolean) xs Ln call 261 [u0, u1, u2, u3] [] r (call 86 [.ref k1, .int i0] w) := Ev.cl (vv := true) (k := 86) (n := 2) (nx := 261) rfl rfl (Nat.le_of_ble_eq_true rfl) (by simp [catS, Value.category]) rfl (Or.inr h)
set_option maxRecDepth 20000 in
theorem S_L_law_261 (h : isRf z = true) : Ev T_L_law (some .boolean) xs Ln call 261 [u0, u1, some z, u3] [.int i0] w r = Ev T_L_law (some .boolean) xs Ln call 262 [u0, u1, some z, u3] [z, .int i0] w r := Ev.nxt rfl (by exact (if_pos h))
set_option maxRecDepth 20000 in
theorem S_L_law_262 (h : isRf z = true) : Ev T_L_law (some .boolean) xs Ln call 262 [some z, u1, u2, u3] [v0, .int i1] w r = Ev T_L_law (some .boolean) xs Ln call 263 [some z, u1, u2, u3] [z, v0, .int i1] w r := Ev.nxt rfl (by exact (if_pos h))
set_option maxRecDepth 20000 in
theorem S_L_law_263 : Ev T_L_law (some .boolean) xs Ln call 263 [u0, u1, u2, some (.int x)] [v0, v1, .int i2] w r = Ev T_L_law (some .boolean) xs Ln call 264 [u0, u1, u2, some (.int x)] [.int x, v0, v1, .int i2] w r := Ev.nxt rfl rfl
set_option maxRecDepth 20000 in
theorem S_L_law_264 : Ev T_L_law (some .boolean) xs Ln call 264 [u0, u1, u2, u3] [.int i0, v1, v2, .int i3] w r = Ev T_L_law (some .boolean) xs Ln call 265 [u0, u1, u2, u3] [.int 1, .int i0, v1, v2, .int i3] w r := Ev.nxt rfl rfl
set_option maxRecDepth 20000 in
theorem S_L_law_265 : Ev T_L_law (some .boolean) xs Ln call 265 [u0, u1, u2, u3] [.int i0, .int i1, v2, v3, .int i4] w r = Ev T_L_law (some .boolean) xs Ln call 266 [u0, u1, u2, u3] [.int (i1 + i0), v2, v3, .int i4] w r := Ev.nxt rfl rfl
set_option maxRecDepth 20000 in
theorem S_L_law_266 (hi : ¬ (i0 < 0 ∨ Ln ≤ i0.toNatClampNeg)) : Ev T_L_law (some .boolean) xs Ln call 266 [u0, u1, u2, u3] [.int i0, .retAddr 0, v2, .int i3] w r = Ev T_L_law (some .boolean) xs Ln call 267 [u0, u1, u2, u3] [.int (xs i0.toNatClampNeg), v2, .int i3] w r := Ev.nxt rfl (by exact (X_sld hi))
set_option maxRecDepth 20000 in
theorem S_L_law_267 (h : isObj w k1 11 = true) : Ev T_L_law (some .boolean) xs Ln call 267 [u0, u1, u2, u3] [.int i0, .ref k1, .int i2] w r = aft T_L_law (some .boolean) xs Ln call 270 [u0, u1, u2, u3] [.int i2] r (call 168 [.ref k1, .int i0] w) := Ev.cl (vv := true) (k := 168) (n := 2) (nx := 270) rfl rfl (Nat.le_of_ble_eq_true rfl) (by simp [catS, Value.category]) rfl (Or.inr h)
set_option maxRecDepth 20000 in
theorem S_L_law_270 : Ev T_L_law (some .boolean) xs Ln call 270 [u0, u1, u2, u3] [.int i0, .int i1] w r = if i1 = i0 then Ev T_L_law (some .boolean) xs Ln call 1785 [u0, u1, u2, u3] [] w r else Ev T_L_law (some .boolean) xs Ln call 273 [u0, u1, u2, u3] [] w r := Ev.ifc rfl (by exact iteB)
set_option maxRecDepth 20000 in
theorem S_L_law_273 : Ev T_L_law (some .boolean) xs Ln call 273 [u0, u1, u2, u3] [] w r = Ev T_L_law (some .boolean) xs Ln call 274 [u0, u1, u2, u3] [.int 0] w r := Ev.nxt rfl rfl
set_option maxRecDepth 20000 in
theorem S_L_law_274 (h : okR (some .boolean) (.int i0) = true) : Ev T_L_law (some .boolean) xs Ln call 274 [u0, u1, u2, u3] [.int i0] w r = (r = (w, some (.int i0))) := Ev.rt rfl (by exact if_pos h)
set_option maxRecDepth 20000 in
theorem S_L_law_275 (h : isRf z = true) : Ev T_L_law (some .boolean) xs Ln call 275 [u0, some z, u2, u3] [] w r = Ev T_L_law (some .boolean) xs Ln call 276 [u0, some z, u2, u3] [z] w r := Ev.nxt rfl (by exact (if_pos h))
set_option maxRecDepth 20000 in
theorem S_L_law_276 (h : isRf z = true) : Ev T_L_law (some .boolean) xs Ln call 276 [some z, u1, u2, u3] [v0] w r = Ev T_L_law (some .boolean) xs Ln call 277 [some z, u1, u2, u3] [z, v0] w r := Ev.nxt rfl (by exact (if_pos h))
set_option maxRecDepth 20000 in
theorem S_L_law_277 : Ev T_L_law (some .boolean) xs Ln call 277 [u0, u1, u2, some (.int x)] [v0, v1] w r = Ev T_L_law (some .boolean) xs Ln call 278 [u0, u1, u2, some (.int x)] [.int x, v0, v1] w r := Ev.nxt rfl rfl
set_option maxRecDepth 20000 in
theorem S_L_law_278 : Ev T_L_law (some .boolean) xs Ln call 278 [u0, u1, u2, u3] [.int i0, v1, v2] w r = Ev T_L_law (some .boolean) xs Ln call 279 [u0, u1, u2, u3] [.int 1, .int i0, v1, v2] w r := Ev.nxt rfl rfl
set_option maxRecDepth 20000 in
theorem S_L_law_279 : Ev T_L_law (some .boolean) xs Ln call 279 [u0, u1, u2, u3] [.int i0, .int i1, v2, v3] w r = Ev T_L_law (some .boolean) xs Ln call 280 [u0, u1, u2, u3] [.int (i1 + i0), v2, v3] w r := Ev.nxt rfl rfl
set_option maxRecDepth 20000 in
theorem S_L_law_280 (hi : ¬ (i0 < 0 ∨ Ln ≤ i0.toNatClampNeg)) : Ev T_L_law (some .boolean) xs Ln call 280 [u0, u1, u2, u3] [.int i0, .retAddr 0, v2] w r = Ev T_L_law (some .boolean) xs Ln call 281 [u0, u1, u2, u3] [.int (xs i0.toNatClampNeg), v2] w r := Ev.nxt rfl (by exact (X_sld hi))
set_option maxRecDepth 20000 in
theorem S_L_law_281 (h : isRf z = true) : Ev T_L_law (some .boolean) xs Ln call 281 [some z, u1, u2, u3] [.int i0, v1] w r = Ev T_L_law (some .boolean) xs Ln call 282 [some z, u1, u2, u3] [z, .int i0, v1] w r := Ev.nxt rfl (by exact (if_pos h))
set_option maxRecDepth 20000 in
theorem S_L_law_282 : Ev T_L_law (some .boolean) xs Ln call 282 [u0, u1, u2, some (.int x)] [v0, .int i1, v2] w r = Ev T_L_law (some .boolean) xs Ln call 283 [u0, u1, u2, some (.int x)] [.int x, v0, .int i1, v2] w r := Ev.nxt rfl rfl
set_option maxRecDepth 20000 in
theorem S_L_law_283 : Ev T_L_law (some .boolean) xs Ln call 283 [u0, u1, u2, u3] [.int i0, v1, .int i2, v3] w r = Ev T_L_law (some .boolean) xs Ln call 284 [u0, u1, u2, u3] [.int 2, .int i0, v1, .int i2, v3] w r := Ev.nxt rfl rfl
set_option maxRecDepth 20000 in
theorem S_L_law_284 : Ev T_L_law (some .boolean) xs Ln call 284 [u0, u1, u2, u3] [.int i0, .int i1, v2, .int i3, v4] w r = Ev T_L_law (some .boolean) xs Ln call 285 [u0, u1, u2, u3] [.int (i1 + i0), v2, .int i3, v4] w r := Ev.nxt rfl rfl
set_option maxRecDepth 20000 in
theorem S_L_law_285 (hi : ¬ (i0 < 0 ∨ Ln ≤ i0.toNatClampNeg)) : Ev T_L_law (some .boolean) xs Ln call 285 [u0, u1, u2, u3] [.int i0, .retAddr 0, .int i2, v3] w r = Ev T_L_law (some .boolean) xs Ln call 286 [u0, u1, u2, u3] [.int (xs i0.toNatClampNeg), .int i2, v3] w r := Ev.nxt rfl (by exact (X_sld hi))
set_option maxRecDepth 20000 in
theorem S_L_law_286 (h : isObj w k2 10 = true) : Ev T_L_law (some .boolean) xs Ln call 286 [u0, u1, u2, u3] [.int i0, .int i1, .ref k2] w r = aft T_L_law (some .boolean) xs Ln call 289 [u0, u1, u2, u3] [] r (call 87 [.ref k2, .int i1, .int i0] w) := Ev.cl (vv := true) (k := 87) (n := 3) (nx := 289) rfl rfl (Nat.le_of_ble_eq_true rfl) (by simp [catS, Value.category]) rfl (Or.inr h)
set_option maxRecDepth 20000 in
theorem S_L_law_289 (h : isRf z = true) : Ev T_L_law (some .boolean) xs Ln call 289 [u0, u1, some z, u3] [.int i0] w r = Ev T_L_law (some .boolean) xs Ln call 290 [u0, u1, some z, u3] [z, .int i0] w r := Ev.nxt rfl (by exact (if_pos h))
set_option maxRecDepth 20000 in
theorem S_L_law_290 (h : isRf z = true) : Ev T_L_law (some .boolean) xs Ln call 290 [some z, u1, u2, u3] [v0, .int i1] w r = Ev T_L_law (some .boolean) xs Ln call 291 [some z, u1, u2, u3] [z, v0, .int i1] w r := Ev.nxt rfl (by exact (if_pos h))
set_option maxRecDepth 20000 in
theorem S_L_law_291 : Ev T_L_law (some .boolean) xs Ln call 291 [u0, u1, u2, some (.int x)] [v0, v1, .int i2] w r = Ev T_L_law (some .boolean) xs Ln call 292 [u0, u1, u2, some (.int x)] [.int x, v0, v1, .int i2] w r := Ev.nxt rfl rfl
set_option maxRecDepth 20000 in
theorem S_L_law_292 : Ev T_L_law (some .boolean) xs Ln call 292 [u0, u1, u2, u3] [.int i0, v1, v2, .int i3] w r = Ev T_L_law (some .boolean) xs Ln call 293 [u0, u1, u2, u3] [.int 1, .int i0, v1, v2, .int i3] w r := Ev.nxt rfl rfl
set_option maxRecDepth 20000 in
theorem S_L_law_293 : Ev T_L_law (some .boolean) xs Ln call 293 [u0, u1, u2, u3] [.int i0, .int i1, v2, v3, .int i4] w r = Ev T_L_law (some .boolean) xs Ln call 294 [u0, u1, u2, u3] [.int (i1 + i0), v2, v3, .int i4] w r := Ev.nxt rfl rfl
set_option maxRecDepth 20000 in
theorem S_L_law_294 (hi : ¬ (i0 < 0 ∨ Ln ≤ i0.toNatClampNeg)) : Ev T_L_law (some .boolean) xs Ln call 294 [u0, u1, u2, u3] [.int i0, .retAddr 0, v2, .int i3] w r = Ev T_L_law (some .boolean) xs Ln call 295 [u0, u1, u2, u3] [.int (xs i0.toNatClampNeg), v2, .int i3] w r := Ev.nxt rfl (by exact (X_sld hi))
set_option maxRecDepth 20000 in
theorem S_L_law_295 (h : isRf z = true) : Ev T_L_law (some .boolean) xs Ln call 295 [some z, u1, u2, u3] [.int i0, v1, .int i2] w r = Ev T_L_law (some .boolean) xs Ln call 296 [some z, u1, u2, u3] [z, .int i0, v1, .int i2] w r := Ev.nxt rfl (by exact (if_pos h))
set_option maxRecDepth 20000 in
theorem S_L_law_296 : Ev T_L_law (some .boolean) xs Ln call 296 [u0, u1, u2, some (.int x)] [v0, .int i1, v2, .int i3] w r = Ev T_L_law (some .boolean) xs Ln call 297 [u0, u1, u2, some (.int x)] [.int x, v0, .int i1, v2, .int i3] w r := Ev.nxt rfl rfl
set_option maxRecDepth 20000 in
theorem S_L_law_297 : Ev T_L_law (some .boolean) xs Ln call 297 [u0, u1, u2, u3] [.int i0, v1, .int i2, v3, .int i4] w r = Ev T_L_law (some .boolean) xs Ln call 298 [u0, u1, u2, u3] [.int 2, .int i0, v1, .int i2, v3, .int i4] w r := Ev.nxt rfl rfl
set_option maxRecDepth 20000 in
theorem S_L_law_298 : Ev T_L_law (some .boolean) xs Ln call 298 [u0, u1, u2, u3] [.int i0, .int i1, v2, .int i3, v4, .int i5] w r = Ev T_L_law (some .boolean) xs Ln call 299 [u0, u1, u2, u3] [.int (i1 + i0), v2, .int i3, v4, .int i5] w r := Ev.nxt rfl rfl
set_option maxRecDepth 20000 in
theorem S_L_law_299 (hi : ¬ (i0 < 0 ∨ Ln ≤ i0.toNatClampNeg)) : Ev T_L_law (some .boolean) xs Ln call 299 [u0, u1, u2, u3] [.int i0, .retAddr 0, .int i2, v3, .int i4] w r = Ev T_L_law (some .boolean) xs Ln call 300 [u0, u1, u2, u3] [.int (xs i0.toNatClampNeg), .int i2, v3, .int i4] w r := Ev.nxt rfl (by exact (X_sld hi))
set_option maxRecDepth 20000 in
theorem S_L_law_300 (h : isObj w k2 11 = true) : Ev T_L_law (some .boolean) xs Ln call 300 [u0, u1, u2, u3] [.int i0, .int i1, .ref k2, .int i3] w r = aft T_L_law (some .boolean) xs Ln call 303 [u0, u1, u2, u3] [.int i3] r (call 169 [.ref k2, .int i1, .int i0] w) := Ev.cl (vv := true) (k := 169) (n := 3) (nx := 303) rfl rfl (Nat.le_of_ble_eq_true rfl) (by simp [catS, Value.category]) rfl (Or.inr h)
set_option maxRecDepth 20000 in
theorem S_L_law_303 : Ev T_L_law (some .boolean) xs Ln call 303 [u0, u1, u2, u3] [.int i0, .int i1] w r = if i1 = i0 then Ev T_L_law (some .boolean) xs Ln call 1785 [u0, u1, u2, u3] [] w r else Ev T_L_law (some .boolean) xs Ln call 306 [u0, u1, u2, u3] [] w r := Ev.ifc rfl (by exact iteB)
set_option maxRecDepth 20000 in
theorem S_L_law_306 : Ev T_L_law (some .boolean) xs Ln call 306 [u0, u1, u2, u3] [] w r = Ev T_L_law (some .boolean) xs Ln call 307 [u0, u1, u2, u3] [.int 0] w r := Ev.nxt rfl rfl
set_option maxRecDepth 20000 in
theorem S_L_law_307 (h : okR (some .boolean) (.int i0) = true) : Ev T_L_law (some .boolean) xs Ln call 307 [u0, u1, u2, u3] [.int i0] w r = (r = (w, some (.int i0))) := Ev.rt rfl (by exact if_pos h)
set_option maxRecDepth 20000 in
theorem S_L_law_308 (h : isRf z = true) : Ev T_L_law (some .boolean) xs Ln call 308 [u0, some z, u2, u3] [] w r = Ev T_L_law (some .boolean) xs Ln call 309 [u0, some z, u2, u3] [z] w r := Ev.nxt rfl (by exact (if_pos h))
set_option maxRecDepth 20000 in
theorem S_L_law_309 (h : isRf z = true) : Ev T_L_law (some .boolean) xs Ln call 309 [some z, u1, u2, u3] [v0] w r = Ev T_L_law (some .boolean) xs Ln call 310 [some z, u1, u2, u3] [z, v0] w r := Ev.nxt rfl (by exact (if_pos h))
set_option maxRecDepth 20000 in
theorem S_L_law_310 : Ev T_L_law (some .boolean) xs Ln call 310 [u0, u1, u2, some (.int x)] [v0, v1] w r = Ev T_L_law (some .boolean) xs Ln call 311 [u0, u1, u2, some (.int x)] [.int x, v0, v1] w r := Ev.nxt rfl rfl
set_option maxRecDepth 20000 in
theorem S_L_law_311 : Ev T_L_law (some .boolean) xs Ln call 311 [u0, u1, u2, u3] [.int i0, v1, v2] w r = Ev T_L_law (some .boolean) xs Ln call 312 [u0, u1, u2, u3] [.int 1, .int i0, v1, v2] w r := Ev.nxt rfl rfl
set_option maxRecDepth 20000 in
theorem S_L_law_312 : Ev T_L_law (some .boolean) xs Ln call 312 [u0, u1, u2, u3] [.int i0, .int i1, v2, v3] w r = Ev T_L_law (some .boolean) xs Ln call 313 [u0, u1, u2, u3] [.int (i1 + i0), v2, v3] w r := Ev.nxt rfl rfl
set_option maxRecDepth 20000 in
theorem S_L_law_313 (hi : ¬ (i0 < 0 ∨ Ln ≤ i0.toNatClampNeg)) : Ev T_L_law (some .boolean) xs Ln call 313 [u0, u1, u2, u3] [.int i0, .retAddr 0, v2] w r = Ev T_L_law (some .boolean) xs Ln call 314 [u0, u1, u2, u3] [.int (xs i0.toNatClampNeg), v2] w r := Ev.nxt rfl (by exact (X_sld hi))
set_option maxRecDepth 20000 in
theorem S_L_law_314 (h : isRf z = true) : Ev T_L_law (some .boolean) xs Ln call 314 [some z, u1, u2, u3] [.int i0, v1] w r = Ev T_L_law (some .boolean) xs Ln call 315 [some z, u1, u2, u3] [z, .int i0, v1] w r := Ev.nxt rfl (by exact (if_pos h))
set_option maxRecDepth 20000 in
theorem S_L_law_315 : Ev T_L_law (some .boolean) xs Ln call 315 [u0, u1, u2, some (.int x)] [v0, .int i1, v2] w r = Ev T_L_law (some .boolean) xs Ln call 316 [u0, u1, u2, some (.int x)] [.int x, v0, .int i1, v2] w r := Ev.nxt rfl rfl
set_option maxRecDepth 20000 in
theorem S_L_law_316 : Ev T_L_law (some .boolean) xs Ln call 316 [u0, u1, u2, u3] [.int i0, v1, .int i2, v3] w r = Ev T_L_law (some .boolean) xs Ln call 317 [u0, u1, u2, u3] [.int 2, .int i0, v1, .int i2, v3] w r := Ev.nxt rfl rfl
set_option maxRecDepth 20000 in
theorem S_L_law_317 : Ev T_L_law (some .boolean) xs Ln call 317 [u0, u1, u2, u3] [.int i0, .int i1, v2, .int i3, v4] w r = Ev T_L_law (some .boolean) xs Ln call 318 [u0, u1, u2, u3] [.int (i1 + i0), v2, .int i3, v4] w r := Ev.nxt rfl rfl
set_option maxRecDepth 20000 in
theorem S_L_law_318 (hi : ¬ (i0 < 0 ∨ Ln ≤ i0.toNatClampNeg)) : Ev T_L_law (some .boolean) xs Ln call 318 [u0, u1, u2, u3] [.int i0, .retAddr 0, .int i2, v3] w r = Ev T_L_law (some .boolean) xs Ln call 319 [u0, u1, u2, u3] [.int (xs i0.toNatClampNeg), .int i2, v3] w r := Ev.nxt rfl (by exact (X_sld hi))
set_option maxRecDepth 20000 in
theorem S_L_law_319 (h : isObj w k2 10 = true) : Ev T_L_law (some .boolean) xs Ln call 319 [u0, u1, u2, u3] [.int i0, .int i1, .ref k2] w r = aft T_L_law (some .boolean) xs Ln call 322 [u0, u1, u2, u3] [] r (call 88 [.ref k2, .int i1, .int i0] w) := Ev.cl (vv := true) (k := 88) (n := 3) (nx := 322) rfl rfl (Nat.le_of_ble_eq_true rfl) (by simp [catS, Value.category]) rfl (Or.inr h)
set_option maxRecDepth 20000 in
theorem S_L_law_322 (h : isRf z = true) : Ev T_L_law (some .boolean) xs Ln call 322 [u0, u1, some z, u3] [.int i0] w r = Ev T_L_law (some .boolean) xs Ln call 323 [u0, u1, some z, u3] [z, .int i0] w r := Ev.nxt rfl (by exact (if_pos h))
set_option maxRecDepth 20000 in
theorem S_L_law_323 (h : isRf z = true) : Ev T_L_law (some .boolean) xs Ln call 323 [some z, u1, u2, u3] [v0, .int i1] w r = Ev T_L_law (some .boolean) xs Ln call 324 [some z, u1, u2, u3] [z, v0, .int i1] w r := Ev.nxt rfl (by exact (if_pos h))
set_option maxRecDepth 20000 in
theorem S_L_law_324 : Ev T_L_law (some .boolean) xs Ln call 324 [u0, u1, u2, some (.int x)] [v0, v1, .int i2] w r = Ev T_L_law (some .boolean) xs Ln call 325 [u0, u1, u2, some (.int x)] [.int x, v0, v1, .int i2] w r := Ev.nxt rfl rfl
set_option maxRecDepth 20000 in
theorem S_L_law_325 : Ev T_L_law (some .boolean) xs Ln call 325 [u0, u1, u2, u3] [.int i0, v1, v2, .int i3] w r = Ev T_L_law (some .boolean) xs Ln call 326 [u0, u1, u2, u3] [.int 1, .int i0, v1, v2, .int i3] w r := Ev.nxt rfl rfl
set_option maxRecDepth 20000 in
theorem S_L_law_326 : Ev T_L_law (some .boolean) xs Ln call 326 [u0, u1, u2, u3] [.int i0, .int i1, v2, v3, .int i4] w r = Ev T_L_law (some .boolean) xs Ln call 327 [u0, u1, u2, u3] [.int (i1 + i0), v2, v3, .int i4] w r := Ev.nxt rfl rfl
set_option maxRecDepth 20000 in
theorem S_L_law_327 (hi : ¬ (i0 < 0 ∨ Ln ≤ i0.toNatClampNeg)) : Ev T_L_law (some .boolean) xs Ln call 327 [u0, u1, u2, u3] [.int i0, .retAddr 0, v2, .int i3] w r = Ev T_L_law (some .boolean) xs Ln call 328 [u0, u1, u2, u3] [.int (xs i0.toNatClampNeg), v2, .int i3] w r := Ev.nxt rfl (by exact (X_sld hi))
set_option maxRecDepth 20000 in
theorem S_L_law_328 (h : isRf z = true) : Ev T_L_law (some .boolean) xs Ln call 328 [some z, u1, u2, u3] [.int i0, v1, .int i2] w r = Ev T_L_law (some .boolean) xs Ln call 329 [some z, u1, u2, u3] [z, .int i0, v1, .int i2] w r := Ev.nxt rfl (by exact (if_pos h))
set_option maxRecDepth 20000 in
theorem S_L_law_329 : Ev T_L_law (some .boolean) xs Ln call 329 [u0, u1, u2, some (.int x)] [v0, .int i1, v2, .int i3] w r = Ev T_L_law (some .boolean) xs Ln call 330 [u0, u1, u2, some (.int x)] [.int x, v0, .int i1, v2, .int i3] w r := Ev.nxt rfl rfl
set_option maxRecDepth 20000 in
theorem S_L_law_330 : Ev T_L_law (some .boolean) xs Ln call 330 [u0, u1, u2, u3] [.int i0, v1, .int i2, v3, .int i4] w r = Ev T_L_law (some .boolean) xs Ln call 331 [u0, u1, u2, u3] [.int 2, .int i0, v1, .int i2, v3, .int i4] w r := Ev.nxt rfl rfl
set_option maxRecDepth 20000 in
theorem S_L_law_331 : Ev T_L_law (some .boolean) xs Ln call 331 [u0, u1, u2, u3] [.int i0, .int i1, v2, .int i3, v4, .int i5] w r = Ev T_L_law (some .boolean) xs Ln call 332 [u0, u1, u2, u3] [.int (i1 + i0), v2, .int i3, v4, .int i5] w r := Ev.nxt rfl rfl
set_option maxRecDepth 20000 in
theorem S_L_law_332 (hi : ¬ (i0 < 0 ∨ Ln ≤ i0.toNatClampNeg)) : Ev T_L_law (some .boolean) xs Ln call 332 [u0, u1, u2, u3] [.int i0, .retAddr 0, .int i2, v3, .int i4] w r = Ev T_L_law (some .boolean) xs Ln call 333 [u0, u1, u2, u3] [.int (xs i0.toNatClampNeg), .int i2, v3, .int i4] w r := Ev.nxt rfl (by exact (X_sld hi))
set_option maxRecDepth 20000 in
theorem S_L_law_333 (h : isObj w k2 11 = true) : Ev T_L_law (some .boolean) xs Ln call 333 [u0, u1, u2, u3] [.int i0, .int i1, .ref k2, .int i3] w r = aft T_L_law (some .boolean) xs Ln call 336 [u0, u1, u2, u3] [.int i3] r (call 170 [.ref k2, .int i1, .int i0] w) := Ev.cl (vv := true) (k := 170) (n := 3) (nx := 336) rfl rfl (Nat.le_of_ble_eq_true rfl) (by simp [catS, Value.category]) rfl (Or.inr h)
set_option maxRecDepth 20000 in
theorem S_L_law_336 : Ev T_L_law (some .boolean) xs Ln call 336 [u0, u1, u2, u3] [.int i0, .int i1] w r = if i1 = i0 then Ev T_L_law (some .boolean) xs Ln call 1785 [u0, u1, u2, u3] [] w r else Ev T_L_law (some .boolean) xs Ln call 339 [u0, u1, u2, u3] [] w r := Ev.ifc rfl (by exact iteB)
set_option maxRecDepth 20000 in
theorem S_L_law_339 : Ev T_L_law (some .boolean) xs Ln call 339 [u0, u1, u2, u3] [] w r = Ev T_L_law (some .boolean) xs Ln call 340 [u0, u1, u2, u3] [.int 0] w r := Ev.nxt rfl rfl
set_option maxRecDepth 20000 in
theorem S_L_law_340 (h : okR (some .boolean) (.int i0) = true) : Ev T_L_law (some .boolean) xs Ln call 340 [u0, u1, u2, u3] [.int i0] w r = (r = (w, some (.int i0))) := Ev.rt rfl (by exact if_pos h)
set_option maxRecDepth 20000 in
theorem S_L_law_341 (h : isRf z = true) : Ev T_L_law (some .boolean) xs Ln call 341 [u0, some z, u2, u3] [] w r = Ev T_L_law (some .boolean) xs Ln call 342 [u0, some z, u2, u3] [z] w r := Ev.nxt rfl (by exact (if_pos h))
set_option maxRecDepth 20000 in
theorem S_L_law_342 (h : isRf z = true) : Ev T_L_law (some .boolean) xs Ln call 342 [some z, u1, u2, u3] [v0] w r = Ev T_L_law (some .boolean) xs Ln call 343 [some z, u1, u2, u3] [z, v0] w r := Ev.nxt rfl (by exact (if_pos h))
set_option maxRecDepth 20000 in
theorem S_L_law_343 : Ev T_L_law (some .boolean) xs Ln call 343 [u0, u1, u2, some (.int x)] [v0, v1] w r = Ev T_L_law (some .boolean) xs Ln call 344 [u0, u1, u2, some (.int x)] [.int x, v0, v1] w r := Ev.nxt rfl rfl
set_option maxRecDepth 20000 in
theorem S_L_law_344 : Ev T_L_law (some .boolean) xs Ln call 344 [u0, u1, u2, u3] [.int i0, v1, v2] w r = Ev T_L_law (some .boolean) xs Ln call 345 [u0, u1, u2, u3] [.int 1, .int i0, v1, v2] w r := Ev.nxt rfl rfl
set_option maxRecDepth 20000 in
theorem S_L_law_345 : Ev T_L_law (some .boolean) xs Ln call 345 [u0, u1, u2, u3] [.int i0, .int i1, v2, v3] w r = Ev T_L_law (some .boolean) xs Ln call 346 [u0, u1, u2, u3] [.int (i1 + i0), v2, v3] w r := Ev.nxt rfl rfl
set_option maxRecDepth 20000 in
theorem S_L_law_346 (hi : ¬ (i0 < 0 ∨ Ln ≤ i0.toNatClampNeg)) : Ev T_L_law (some .boolean) xs Ln call 346 [u0, u1, u2, u3] [.int i0, .retAddr 0, v2] w r = Ev T_L_law (some .boolean) xs Ln call 347 [u0, u1, u2, u3] [.int (xs i0.toNatClampNeg), v2] w r := Ev.nxt rfl (by exact (X_sld hi))
set_option maxRecDepth 20000 in
theorem S_L_law_347 (h : isRf z = true) : Ev T_L_law (some .boolean) xs Ln call 347 [some z, u1, u2, u3] [.int i0, v1] w r = Ev T_L_law (some .boolean) xs Ln call 348 [some z, u1, u2, u3] [z, .int i0, v1] w r := Ev.nxt rfl (by exact (if_pos h))
set_option maxRecDepth 20000 in
theorem S_L_law_348 : Ev T_L_law (some .boolean) xs Ln call 348 [u0, u1, u2, some (.int x)] [v0, .int i1, v2] w r = Ev T_L_law (some .boolean) xs Ln call 349 [u0, u1, u2, some (.int x)] [.int x, v0, .int i1, v2] w r := Ev.nxt rfl rfl
set_option maxRecDepth 20000 in
theorem S_L_law_349 : Ev T_L_law (some .boolean) xs Ln call 349 [u0, u1, u2, u3] [.int i0, v1, .int i2, v3] w r = Ev T_L_law (some .boolean) xs Ln call 350 [u0, u1, u2, u3] [.int 2, .int i0, v1, .int i2, v3] w r := Ev.nxt rfl rfl
set_option maxRecDepth 20000 in
theorem S_L_law_350 : Ev T_L_law (some .boolean) xs Ln call 350 [u0, u1, u2, u3] [.int i0, .int i1, v2, .int i3, v4] w r = Ev T_L_law (some .boolean) xs Ln call 351 [u0, u1, u2, u3] [.int (i1 + i0), v2, .int i3, v4] w r := Ev.nxt rfl rfl
set_option maxRecDepth 20000 in
theorem S_L_law_351 (hi : ¬ (i0 < 0 ∨ Ln ≤ i0.toNatClampNeg)) : Ev T_L_law (some .boolean) xs Ln call 351 [u0, u1, u2, u3] [.int i0, .retAddr 0, .int i2, v3] w r = Ev T_L_law (some .boolean) xs Ln call 352 [u0, u1, u2, u3] [.int (xs i0.toNatClampNeg), .int i2, v3] w r := Ev.nxt rfl (by exact (X_sld hi))
set_option maxRecDepth 20000 in
theorem S_L_law_352 (h : isRf z = true) : Ev T_L_law (some .boolean) xs Ln call 352 [some z, u1, u2, u3] [.int i0, .int i1, v2] w r = Ev T_L_law (some .boolean) xs Ln call 353 [some z, u1, u2, u3] [z, .int i0, .int i1, v2] w r := Ev.nxt rfl (by exact (if_pos h))
set_option maxRecDepth 20000 in
theorem S_L_law_353 : Ev T_L_law (some .boolean) xs Ln call 353 [u0, u1, u2, some (.int x)] [v0, .int i1, .int i2, v3] w r = Ev T_L_law (some .boolean) xs Ln call 354 [u0, u1, u2, some (.int x)] [.int x, v0, .int i1, .int i2, v3] w r := Ev.nxt rfl rfl
set_option maxRecDepth 20000 in
theorem S_L_law_354 : Ev T_L_law (some .boolean) xs Ln call 354 [u0, u1, u2, u3] [.int i0, v1, .int i2, .int i3, v4] w r = Ev T_L_law (some .boolean) xs Ln call 355 [u0, u1, u2, u3] [.int 3, .int i0, v1, .int i2, .int i3, v4] w r := Ev.nxt rfl rfl
set_option maxRecDepth 20000 in
theorem S_L_law_355 : Ev T_L_law (some .boolean) xs Ln call 355 [u0, u1, u2, u3] [.int i0, .int i1, v2, .int i3, .int i4, v5] w r = Ev T_L_law (some .boolean) xs Ln call 356 [u0, u1, u2, u3] [.int (i1 + i0), v2, .int i3, .int i4, v5] w r := Ev.nxt rfl rfl
set_option maxRecDepth 20000 in
theorem S_L_law_356 (hi : ¬ (i0 < 0 ∨ Ln ≤ i0.toNatClampNeg)) : Ev T_L_law (some .boolean) xs Ln call 356 [u0, u1, u2, u3] [.int i0, .retAddr 0, .int i2, .int i3, v4] w r = Ev T_L_law (some .boolean) xs Ln call 357 [u0, u1, u2, u3] [.int (xs i0.toNatClampNeg), .int i2, .int i3, v4] w r := Ev.nxt rfl (by exact (X_sld hi))
set_option maxRecDepth 20000 in
theorem S_L_law_357 (h : isObj w k3 10 = true) : Ev T_L_law (some .boolean) xs Ln call 357 [u0, u1, u2, u3] [.int i0, .int i1, .int i2, .ref k3] w r = aft T_L_law (some .boolean) xs Ln call 360 [u0, u1, u2, u3] [] r (call 89 [.ref k3, .int i2, .int i1, .int i0] w) := Ev.cl (vv := true) (k := 89) (n := 4) (nx := 360) rfl rfl (Nat.le_of_ble_eq_true rfl) (by simp [catS, Value.category]) rfl (Or.inr h)
set_option maxRecDepth 20000 in
theorem S_L_law_360 (h : isRf z = true) : Ev T_L_law (some .boolean) xs Ln call 360 [u0, u1, some z, u3] [.int i0] w r = Ev T_L_law (some .boolean) xs Ln call 361 [u0, u1, some z, u3] [z, .int i0] w r := Ev.nxt rfl (by exact (if_pos h))
set_option maxRecDepth 20000 in
theorem S_L_law_361 (h : isRf z = true) : Ev T_L_law (some .boolean) xs Ln call 361 [some z, u1, u2, u3] [v0, .int i1] w r = Ev T_L_law (some .boolean) xs Ln call 362 [some z, u1, u2, u3] [z, v0, .int i1] w r := Ev.nxt rfl (by exact (if_pos h))
set_option maxRecDepth 20000 in
theorem S_L_law_362 : Ev T_L_law (some .boolean) xs Ln call 362 [u0, u1, u2, some (.int x)] [v0, v1, .int i2] w r = Ev T_L_law (some .boolean) xs Ln call 363 [u0, u1, u2, some (.int x)] [.int x, v0, v1, .int i2] w r := Ev.nxt rfl rfl
set_option maxRecDepth 20000 in
theorem S_L_law_363 : Ev T_L_law (some .boolean) xs Ln call 363 [u0, u1, u2, u3] [.int i0, v1, v2, .int i3] w r = Ev T_L_law (some .boolean) xs Ln call 364 [u0, u1, u2, u3] [.int 1, .int i0, v1, v2, .int i3] w r := Ev.nxt rfl rfl
set_option maxRecDepth 20000 in
theorem S_L_law_364 : Ev T_L_law (some .boolean) xs Ln call 364 [u0, u1, u2, u3] [.int i0, .int i1, v2, v3, .int i4] w r = Ev T_L_law (some .boolean) xs Ln call 365 [u0, u1, u2, u3] [.int (i1 + i0), v2, v3, .int i4] w r := Ev.nxt rfl rfl
set_option maxRecDepth 20000 in
theorem S_L_law_365 (hi : ¬ (i0 < 0 ∨ Ln ≤ i0.toNatClampNeg)) : Ev T_L_law (some .boolean) xs Ln call 365 [u0, u1, u2, u3] [.int i0, .retAddr 0, v2, .int i3] w r = Ev T_L_law (some .boolean) xs Ln call 366 [u0, u1, u2, u3] [.int (xs i0.toNatClampNeg), v2, .int i3] w r := Ev.nxt rfl (by exact (X_sld hi))
set_option maxRecDepth 20000 in
theorem S_L_law_366 (h : isRf z = true) : Ev T_L_law (some .boolean) xs Ln call 366 [some z, u1, u2, u3] [.int i0, v1, .int i2] w r = Ev T_L_law (some .boolean) xs Ln call 367 [some z, u1, u2, u3] [z, .int i0, v1, .int i2] w r := Ev.nxt rfl (by exact (if_pos h))
set_option maxRecDepth 20000 in
theorem S_L_law_367 : Ev T_L_law (some .boolean) xs Ln call 367 [u0, u1, u2, some (.int x)] [v0, .int i1, v2, .int i3] w r = Ev T_L_law (some .boolean) xs Ln call 368 [u0, u1, u2, some (.int x)] [.int x, v0, .int i1, v2, .int i3] w r := Ev.nxt rfl rfl
set_option maxRecDepth 20000 in
theorem S_L_law_368 : Ev T_L_law (some .boolean) xs Ln call 368 [u0, u1, u2, u3] [.int i0, v1, .int i2, v3, .int i4] w r = Ev T_L_law (some .boolean) xs Ln call 369 [u0, u1, u2, u3] [.int 2, .int i0, v1, .int i2, v3, .int i4] w r := Ev.nxt rfl rfl
set_option maxRecDepth 20000 in
theorem S_L_law_369 : Ev T_L_law (some .boolean) xs Ln call 369 [u0, u1, u2, u3] [.int i0, .int i1, v2, .int i3, v4, .int i5] w r = Ev T_L_law (some .boolean) xs Ln call 370 [u0, u1, u2, u3] [.int (i1 + i0), v2, .int i3, v4, .int i5] w r := Ev.nxt rfl rfl
set_option maxRecDepth 20000 in
theorem S_L_law_370 (hi : ¬ (i0 < 0 ∨ Ln ≤ i0.toNatClampNeg)) : Ev T_L_law (some .boolean) xs Ln call 370 [u0, u1, u2, u3] [.int i0, .retAddr 0, .int i2, v3, .int i4] w r = Ev T_L_law (some .boolean) xs Ln call 371 [u0, u1, u2, u3] [.int (xs i0.toNatClampNeg), .int i2, v3, .int i4] w r := Ev.nxt rfl (by exact (X_sld hi))
set_option maxRecDepth 20000 in
theorem S_L_law_371 (h : isRf z = true) : Ev T_L_law (some .boolean) xs Ln call 371 [some z, u1, u2, u3] [.int i0, .int i1, v2, .int i3] w r = Ev T_L_law (some .boolean) xs Ln call 372 [some z, u1, u2, u3] [z, .int i0, .int i1, v2, .int i3] w r := Ev.nxt rfl (by exact (if_pos h))
set_option maxRecDepth 20000 in
theorem S_L_law_372 : Ev T_L_law (some .boolean) xs Ln call 372 [u0, u1, u2, some (.int x)] [v0, .int i1, .int i2, v3, .int i4] w r = Ev T_L_law (some .boolean) xs Ln call 373 [u0, u1, u2, some (.int x)] [.int x, v0, .int i1, .int i2, v3, .int i4] w r := Ev.nxt rfl rfl
set_option maxRecDepth 20000 in
theorem S_L_law_373 : Ev T_L_law (some .boolean) xs Ln call 373 [u0, u1, u2, u3] [.int i0, v1, .int i2, .int i3, v4, .int i5] w r = Ev T_L_law (some .boolean) xs Ln call 374 [u0, u1, u2, u3] [.int 3, .int i0, v1, .int i2, .int i3, v4, .int i5] w r := Ev.nxt rfl rfl
set_option maxRecDepth 20000 in
theorem S_L_law_374 : Ev T_L_law (some .boolean) xs Ln call 374 [u0, u1, u2, u3] [.int i0, .int i1, v2, .int i3, .int i4, v5, .int i6] w r = Ev T_L_law (some .boolean) xs Ln call 375 [u0, u1, u2, u3] [.int (i1 + i0), v2, .int i3, .int i4, v5, .int i6] w r := Ev.nxt rfl rfl
set_option maxRecDepth 20000 in
theorem S_L_law_375 (hi : ¬ (i0 < 0 ∨ Ln ≤ i0.toNatClampNeg)) : Ev T_L_law (some .boolean) xs Ln call 375 [u0, u1, u2, u3] [.int i0, .retAddr 0, .int i2, .int i3, v4, .int i5] w r = Ev T_L_law (some .boolean) xs Ln call 376 [u0, u1, u2, u3] [.int (xs i0.toNatClampNeg), .int i2, .int i3, v4, .int i5] w r := Ev.nxt rfl (by exact (X_sld hi))
set_option maxRecDepth 20000 in
theorem S_L_law_376 (h : isObj w k3 11 = true) : Ev T_L_law (some .boolean) xs Ln call 376 [u0, u1, u2, u3] [.int i0, .int i1, .int i2, .ref k3, .int i4] w r = aft T_L_law (some .boolean) xs Ln call 379 [u0, u1, u2, u3] [.int i4] r (call 171 [.ref k3, .int i2, .int i1, .int i0] w) := Ev.cl (vv := true) (k := 171) (n := 4) (nx := 379) rfl rfl (Nat.le_of_ble_eq_true rfl) (by simp [catS, Value.category]) rfl (Or.inr h)
set_option maxRecDepth 20000 in
theorem S_L_law_379 : Ev T_L_law (some .boolean) xs Ln call 379 [u0, u1, u2, u3] [.int i0, .int i1] w r = if i1 = i0 then Ev T_L_law (some .boolean) xs Ln call 1785 [u0, u1, u2, u3] [] w r else Ev T_L_law (some .boolean) xs Ln call 382 [u0, u1, u2, u3] [] w r := Ev.ifc rfl (by exact iteB)
set_option maxRecDepth 20000 in
theorem S_L_law_382 : Ev T_L_law (some .boolean) xs Ln call 382 [u0, u1, u2, u3] [] w r = Ev T_L_law (some .boolean) xs Ln call 383 [u0, u1, u2, u3] [.int 0] w r := Ev.nxt rfl rfl
set_option maxRecDepth 20000 in
theorem S_L_law_383 (h : okR (some .boolean) (.int i0) = true) : Ev T_L_law (some .boolean) xs Ln call 383 [u0, u1, u2, u3] [.int i0] w r = (r = (w, some (.int i0))) := Ev.rt rfl (by exact if_pos h)
set_option maxRecDepth 20000 in
theorem S_L_law_384 (h : isRf z = true) : Ev T_L_law (some .boolean) xs Ln call 384 [u0, some z, u2, u3] [] w r = Ev T_L_law (some .boolean) xs Ln call 385 [u0, some z, u2, u3] [z] w r := Ev.nxt rfl (by exact (if_pos h))
set_option maxRecDepth 20000 in
theorem S_L_law_385 (h : isRf z = true) : Ev T_L_law (some .boolean) xs Ln call 385 [some z, u1, u2, u3] [v0] w r = Ev T_L_law (some .boolean) xs Ln call 386 [some z, u1, u2, u3] [z, v0] w r := Ev.nxt rfl (by exact (if_pos h))
set_option maxRecDepth 20000 in
theorem S_L_law_386 : Ev T_L_law (some .boolean) xs Ln call 386 [u0, u1, u2, some (.int x)] [v0, v1] w r = Ev T_L_law (some .boolean) xs Ln call 387 [u0, u1, u2, some (.int x)] [.int x, v0, v1] w r := Ev.nxt rfl rfl
set_option maxRecDepth 20000 in
theorem S_L_law_387 : Ev T_L_law (some .boolean) xs Ln call 387 [u0, u1, u2, u3] [.int i0, v1, v2] w r = Ev T_L_law (some .boolean) xs Ln call 388 [u0, u1, u2, u3] [.int 1, .int i0, v1, v2] w r := Ev.nxt rfl rfl
set_option maxRecDepth 20000 in
theorem S_L_law_388 : Ev T_L_law (some .boolean) xs Ln call 388 [u0, u1, u2, u3] [.int i0, .int i1, v2, v3] w r = Ev T_L_law (some .boolean) xs Ln call 389 [u0, u1, u2, u3] [.int (i1 + i0), v2, v3] w r := Ev.nxt rfl rfl
set_option maxRecDepth 20000 in
theorem S_L_law_389 (hi : ¬ (i0 < 0 ∨ Ln ≤ i0.toNatClampNeg)) : Ev T_L_law (some .boolean) xs Ln call 389 [u0, u1, u2, u3] [.int i0, .retAddr 0, v2] w r = Ev T_L_law (some .boolean) xs Ln call 390 [u0, u1, u2, u3] [.int (xs i0.toNatClampNeg), v2] w r := Ev.nxt rfl (by exact (X_sld hi))
set_option maxRecDepth 20000 in
theorem S_L_law_390 (h : isRf z = true) : Ev T_L_law (some .boolean) xs Ln call 390 [some z, u1, u2, u3] [.int i0, v1] w r = Ev T_L_law (some .boolean) xs Ln call 391 [some z, u1, u2, u3] [z, .int i0, v1] w r := Ev.nxt rfl (by exact (if_pos h))
set_option maxRecDepth 20000 in
theorem S_L_law_391 : Ev T_L_law (some .boolean) xs Ln call 391 [u0, u1, u2, some (.int x)] [v0, .int i1, v2] w r = Ev T_L_law (some .boolean) xs Ln call 392 [u0, u1, u2, some (.int x)] [.int x, v0, .int i1, v2] w r := Ev.nxt rfl rfl
set_option maxRecDepth 20000 in
theorem S_L_law_392 : Ev T_L_law (some .boolean) xs Ln call 392 [u0, u1, u2, u3] [.int i0, v1, .int i2, v3] w r = Ev T_L_law (some .boolean) xs Ln call 393 [u0, u1, u2, u3] [.int 2, .int i0, v1, .int i2, v3] w r := Ev.nxt rfl rfl
set_option maxRecDepth 20000 in
theorem S_L_law_393 : Ev T_L_law (some .boolean) xs Ln call 393 [u0, u1, u2, u3] [.int i0, .int i1, v2, .int i3, v4] w r = Ev T_L_law (some .boolean) xs Ln call 394 [u0, u1, u2, u3] [.int (i1 + i0), v2, .int i3, v4] w r := Ev.nxt rfl rfl
set_option maxRecDepth 20000 in
theorem S_L_law_394 (hi : ¬ (i0 < 0 ∨ Ln ≤ i0.toNatClampNeg)) : Ev T_L_law (some .boolean) xs Ln call 394 [u0, u1, u2, u3] [.int i0, .retAddr 0, .int i2, v3] w r = Ev T_L_law (some .boolean) xs Ln call 395 [u0, u1, u2, u3] [.int (xs i0.toNatClampNeg), .int i2, v3] w r := Ev.nxt rfl (by exact (X_sld hi))
set_option maxRecDepth 20000 in
theorem S_L_law_395 (h : isRf z = true) : Ev T_L_law (some .boolean) xs Ln call 395 [some z, u1, u2, u3] [.int i0, .int i1, v2] w r = Ev T_L_law (some .boolean) xs Ln call 396 [some z, u1, u2, u3] [z, .int i0, .int i1, v2] w r := Ev.nxt rfl (by exact (if_pos h))
set_option maxRecDepth 20000 in
theorem S_L_law_396 : Ev T_L_law (some .boolean) xs Ln call 396 [u0, u1, u2, some (.int x)] [v0, .int i1, .int i2, v3] w r = Ev T_L_law (some .boolean) xs Ln call 397 [u0, u1, u2, some (.int x)] [.int x, v0, .int i1, .int i2, v3] w r := Ev.nxt rfl rfl
set_option maxRecDepth 20000 in
theorem S_L_law_397 : Ev T_L_law (some .boolean) xs Ln call 397 [u0, u1, u2, u3] [.int i0, v1, .int i2, .int i3, v4] w r = Ev T_L_law (some .boolean) xs Ln call 398 [u0, u1, u2, u3] [.int 3, .int i0, v1, .int i2, .int i3, v4] w r := Ev.nxt rfl rfl
set_option maxRecDepth 20000 in
theorem S_L_law_398 : Ev T_L_law (some .boolean) xs Ln call 398 [u0, u1, u2, u3] [.int i0, .int i1, v2, .int i3, .int i4, v5] w r = Ev T_L_law (some .boolean) xs Ln call 399 [u0, u1, u2, u3] [.int (i1 + i0), v2, .int i3, .int i4, v5] w r := Ev.nxt rfl rfl
set_option maxRecDepth 20000 in
theorem S_L_law_399 (hi : ¬ (i0 < 0 ∨ Ln ≤ i0.toNatClampNeg)) : Ev T_L_law (some .boolean) xs Ln call 399 [u0, u1, u2, u3] [.int i0, .retAddr 0, .int i2, .int i3, v4] w r = Ev T_L_law (some .boolean) xs Ln call 400 [u0, u1, u2, u3] [.int (xs i0.toNatClampNeg), .int i2, .int i3, v4] w r := Ev.nxt rfl (by exact (X_sld hi))
set_option maxRecDepth 20000 in
theorem S_L_law_400 (h : isObj w k3 10 = true) : Ev T_L_law (some .boolean) xs Ln call 400 [u0, u1, u2, u3] [.int i0, .int i1, .int i2, .ref k3] w r = aft T_L_law (some .boolean) xs Ln call 403 [u0, u1, u2, u3] [] r (call 90 [.ref k3, .int i2, .int i1, .int i0] w) := Ev.cl (vv := true) (k := 90) (n := 4) (nx := 403) rfl rfl (Nat.le_of_ble_eq_true rfl) (by simp [catS, Value.category]) rfl (Or.inr h)
set_option maxRecDepth 20000 in
theorem S_L_law_403 (h : isRf z = true) : Ev T_L_law (some .boolean) xs Ln call 403 [u0, u1, some z, u3] [.int i0] w r = Ev T_L_law (some .boolean) xs Ln call 404 [u0, u1, some z, u3] [z, .int i0] w r := Ev.nxt rfl (by exact (if_pos h))
set_option maxRecDepth 20000 in
theorem S_L_law_404 (h : isRf z = true) : Ev T_L_law (some .boolean) xs Ln call 404 [some z, u1, u2, u3] [v0, .int i1] w r = Ev T_L_law (some .boolean) xs Ln call 405 [some z, u1, u2, u3] [z, v0, .int i1] w r := Ev.nxt rfl (by exact (if_pos h))
set_option maxRecDepth 20000 in
theorem S_L_law_405 : Ev T_L_law (some .boolean) xs Ln call 405 [u0, u1, u2, some (.int x)] [v0, v1, .int i2] w r = Ev T_L_law (some .boolean) xs Ln call 406 [u0, u1, u2, some (.int x)] [.int x, v0, v1, .int i2] w r := Ev.nxt rfl rfl
set_option maxRecDepth 20000 in
theorem S_L_law_406 : Ev T_L_law (some .boolean) xs Ln call 406 [u0, u1, u2, u3] [.int i0, v1, v2, .int i3] w r = Ev T_L_law (some .boolean) xs Ln call 407 [u0, u1, u2, u3] [.int 1, .int i0, v1, v2, .int i3] w r := Ev.nxt rfl rfl
set_option maxRecDepth 20000 in
theorem S_L_law_407 : Ev T_L_law (some .boolean) xs Ln call 407 [u0, u1, u2, u3] [.int i0, .int i1, v2, v3, .int i4] w r = Ev T_L_law (some .boolean) xs Ln call 408 [u0, u1, u2, u3] [.int (i1 + i0), v2, v3, .int i4] w r := Ev.nxt rfl rfl
set_option maxRecDepth 20000 in
theorem S_L_law_408 (hi : ¬ (i0 < 0 ∨ Ln ≤ i0.toNatClampNeg)) : Ev T_L_law (some .boolean) xs Ln call 408 [u0, u1, u2, u3] [.int i0, .retAddr 0, v2, .int i3] w r = Ev T_L_law (some .boolean) xs Ln call 409 [u0, u1, u2, u3] [.int (xs i0.toNatClampNeg), v2, .int i3] w r := Ev.nxt rfl (by exact (X_sld hi))
set_option maxRecDepth 20000 in
theorem S_L_law_409 (h : isRf z = true) : Ev T_L_law (some .boolean) xs Ln call 409 [some z, u1, u2, u3] [.int i0, v1, .int i2] w r = Ev T_L_law (some .boolean) xs Ln call 410 [some z, u1, u2, u3] [z, .int i0, v1, .int i2] w r := Ev.nxt rfl (by exact (if_pos h))
set_option maxRecDepth 20000 in
theorem S_L_law_410 : Ev T_L_law (some .boolean) xs Ln call 410 [u0, u1, u2, some (.int x)] [v0, .int i1, v2, .int i3] w r = Ev T_L_law (some .boolean) xs Ln call 411 [u0, u1, u2, some (.int x)] [.int x, v0, .int i1, v2, .int i3] w r := Ev.nxt rfl rfl
set_option maxRecDepth 20000 in
theorem S_L_law_411 : Ev T_L_law (some .boolean) xs Ln call 411 [u0, u1, u2, u3] [.int i0, v1, .int i2, v3, .int i4] w r = Ev T_L_law (some .boolean) xs Ln call 412 [u0, u1, u2, u3] [.int 2, .int i0, v1, .int i2, v3, .int i4] w r := Ev.nxt rfl rfl
set_option maxRecDepth 20000 in
theorem S_L_law_412 : Ev T_L_law (some .boolean) xs Ln call 412 [u0, u1, u2, u3] [.int i0, .int i1, v2, .int i3, v4, .int i5] w r = Ev T_L_law (some .boolean) xs Ln call 413 [u0, u1, u2, u3] [.int (i1 + i0), v2, .int i3, v4, .int i5] w r := Ev.nxt rfl rfl
set_option maxRecDepth 20000 in
theorem S_L_law_413 (hi : ¬ (i0 < 0 ∨ Ln ≤ i0.toNatClampNeg)) : Ev T_L_law (some .boolean) xs Ln call 413 [u0, u1, u2, u3] [.int i0, .retAddr 0, .int i2, v3, .int i4] w r = Ev T_L_law (some .boolean) xs Ln call 414 [u0, u1, u2, u3] [.int (xs i0.toNatClampNeg), .int i2, v3, .int i4] w r := Ev.nxt rfl (by exact (X_sld hi))
set_option maxRecDepth 20000 in
theorem S_L_law_414 (h : isRf z = true) : Ev T_L_law (some .boolean) xs Ln call 414 [some z, u1, u2, u3] [.int i0, .int i1, v2, .int i3] w r = Ev T_L_law (some .boolean) xs Ln call 415 [some z, u1, u2, u3] [z, .int i0, .int i1, v2, .int i3] w r := Ev.nxt rfl (by exact (if_pos h))
set_option maxRecDepth 20000 in
theorem S_L_law_415 : Ev T_L_law (some .boolean) xs Ln call 415 [u0, u1, u2, some (.int x)] [v0, .int i1, .int i2, v3, .int i4] w r = Ev T_L_law (some .boolean) xs Ln call 416 [u0, u1, u2, some (.int x)] [.int x, v0, .int i1, .int i2, v3, .int i4] w r := Ev.nxt rfl rfl
set_option maxRecDepth 20000 in
theorem S_L_law_416 : Ev T_L_law (some .boolean) xs Ln call 416 [u0, u1, u2, u3] [.int i0, v1, .int i2, .int i3, v4, .int i5] w r = Ev T_L_law (some .boolean) xs Ln call 417 [u0, u1, u2, u3] [.int 3, .int i0, v1, .int i2, .int i3, v4, .int i5] w r := Ev.nxt rfl rfl
set_option maxRecDepth 20000 in
theorem S_L_law_417 : Ev T_L_law (some .boolean) xs Ln call 417 [u0, u1, u2, u3] [.int i0, .int i1, v2, .int i3, .int i4, v5, .int i6] w r = Ev T_L_law (some .boolean) xs Ln call 418 [u0, u1, u2, u3] [.int (i1 + i0), v2, .int i3, .int i4, v5, .int i6] w r := Ev.nxt rfl rfl
set_option maxRecDepth 20000 in
theorem S_L_law_418 (hi : ¬ (i0 < 0 ∨ Ln ≤ i0.toNatClampNeg)) : Ev T_L_law (some .boolean) xs Ln call 418 [u0, u1, u2, u3] [.int i0, .retAddr 0, .int i2, .int i3, v4, .int i5] w r = Ev T_L_law (some .boolean) xs Ln call 419 [u0, u1, u2, u3] [.int (xs i0.toNatClampNeg), .int i2, .int i3, v4, .int i5] w r := Ev.nxt rfl (by exact (X_sld hi))
set_option maxRecDepth 20000 in
theorem S_L_law_419 (h : isObj w k3 11 = true) : Ev T_L_law (some .boolean) xs Ln call 419 [u0, u1, u2, u3] [.int i0, .int i1, .int i2, .ref k3, .int i4] w r = aft T_L_law (some .boolean) xs Ln call 422 [u0, u1, u2, u3] [.int i4] r (call 172 [.ref k3, .int i2, .int i1, .int i0] w) := Ev.cl (vv := true) (k := 172) (n := 4) (nx := 422) rfl rfl (Nat.le_of_ble_eq_true rfl) (by simp [catS, Value.category]) rfl (Or.inr h)
set_option maxRecDepth 20000 in
theorem S_L_law_422 : Ev T_L_law (some .boolean) xs Ln call 422 [u0, u1, u2, u3] [.int i0, .int i1] w r = if i1 = i0 then Ev T_L_law (some .boolean) xs Ln call 1785 [u0, u1, u2, u3] [] w r else Ev T_L_law (some .boolean) xs Ln call 425 [u0, u1, u2, u3] [] w r := Ev.ifc rfl (by exact iteB)
set_option maxRecDepth 20000 in
theorem S_L_law_425 : Ev T_L_law (some .boolean) xs Ln call 425 [u0, u1, u2, u3] [] w r = Ev T_L_law (some .boolean) xs Ln call 426 [u0, u1, u2, u3] [.int 0] w r := Ev.nxt rfl rfl
set_option maxRecDepth 20000 in
theorem S_L_law_426 (h : okR (some .boolean) (.int i0) = true) : Ev T_L_law (some .boolean) xs Ln call 426 [u0, u1, u2, u3] [.int i0] w r = (r = (w, some (.int i0))) := Ev.rt rfl (by exact if_pos h)
set_option maxRecDepth 20000 in
theorem S_L_law_427 (h : isRf z = true) : Ev T_L_law (some .boolean) xs Ln call 427 [u0, some z, u2, u3] [] w r = Ev T_L_law (some .boolean) xs Ln call 428 [u0, some z, u2, u3] [z] w r := Ev.nxt rfl (by exact (if_pos h))
set_option maxRecDepth 20000 in
theorem S_L_law_428 (h : isRf z = true) : Ev T_L_law (some .boolean) xs Ln call 428 [some z, u1, u2, u3] [v0] w r = Ev T_L_law (some .boolean) xs Ln call 429 [some z, u1, u2, u3] [z, v0] w r := Ev.nxt rfl (by exact (if_pos h))
set_option maxRecDepth 20000 in
theorem S_L_law_429 : Ev T_L_law (some .boolean) xs Ln call 429 [u0, u1, u2, some (.int x)] [v0, v1] w r = Ev T_L_law (some .boolean) xs Ln call 430 [u0, u1, u2, some (.int x)] [.int x, v0, v1] w r := Ev.nxt rfl rfl
set_option maxRecDepth 20000 in
theorem S_L_law_430 : Ev T_L_law (some .boolean) xs Ln call 430 [u0, u1, u2, u3] [.int i0, v1, v2] w r = Ev T_L_law (some .boolean) xs Ln call 431 [u0, u1, u2, u3] [.int 1, .int i0, v1, v2] w r := Ev.nxt rfl rfl
set_option maxRecDepth 20000 in
theorem S_L_law_431 : Ev T_L_law (some .boolean) xs Ln call 431 [u0, u1, u2, u3] [.int i0, .int i1, v2, v3] w r = Ev T_L_law (some .boolean) xs Ln call 432 [u0, u1, u2, u3] [.int (i1 + i0), v2, v3] w r := Ev.nxt rfl rfl
set_option maxRecDepth 20000 in
theorem S_L_law_432 (hi : ¬ (i0 < 0 ∨ Ln ≤ i0.toNatClampNeg)) : Ev T_L_law (some .boolean) xs Ln call 432 [u0, u1, u2, u3] [.int i0, .retAddr 0, v2] w r = Ev T_L_law (some .boolean) xs Ln call 433 [u0, u1, u2, u3] [.int (xs i0.toNatClampNeg), v2] w r := Ev.nxt rfl (by exact (X_sld hi))
set_option maxRecDepth 20000 in
theorem S_L_law_433 (h : isObj w k1 10 = true) : Ev T_L_law (some .boolean) xs Ln call 433 [u0, u1, u2, u3] [.int i0, .ref k1] w r = aft T_L_law (some .boolean) xs Ln call 436 [u0, u1, u2, u3] [] r (call 91 [.ref k1, .int i0] w) := Ev.cl (vv := true) (k := 91) (n := 2) (nx := 436) rfl rfl (Nat.le_of_ble_eq_true rfl) (by simp [catS, Value.category]) rfl (Or.inr h)
set_option maxRecDepth 20000 in
theorem S_L_law_436 (h : isRf z = true) : Ev T_L_law (some .boolean) xs Ln call 436 [u0, u1, some z, u3] [.int i0] w r = Ev T_L_law (some .boolean) xs Ln call 437 [u0, u1, some z, u3] [z, .int i0] w r := Ev.nxt rfl (by exact (if_pos h))
set_option maxRecDepth 20000 in
theorem S_L_law_437 (h : isRf z = true) : Ev T_L_law (some .boolean) xs Ln call 437 [some z, u1, u2, u3] [v0, .int i1] w r = Ev T_L_law (some .boolean) xs Ln call 438 [some z, u1, u2, u3] [z, v0, .int i1] w r := Ev.nxt rfl (by exact (if_pos h))
set_option maxRecDepth 20000 in
theorem S_L_law_438 : Ev T_L_law (some .boolean) xs Ln call 438 [u0, u1, u2, some (.int x)] [v0, v1, .int i2] w r = Ev T_L_law (some .boolean) xs Ln call 439 [u0, u1, u2, some (.int x)] [.int x, v0, v1, .int i2] w r := Ev.nxt rfl rfl
set_option maxRecDepth 20000 in
theorem S_L_law_439 : Ev T_L_law (some .boolean) xs Ln call 439 [u0, u1, u2, u3] [.int i0, v1, v2, .int i3] w r = Ev T_L_law (some .boolean) xs Ln call 440 [u0, u1, u2, u3] [.int 1, .int i0, v1, v2, .int i3] w r := Ev.nxt rfl rfl
set_option maxRecDepth 20000 in
theorem S_L_law_440 : Ev T_L_law (some .boolean) xs Ln call 440 [u0, u1, u2, u3] [.int i0, .int i1, v2, v3, .int i4] w r = Ev T_L_law (some .boolean) xs Ln call 441 [u0, u1, u2, u3] [.int (i1 + i0), v2, v3, .int i4] w r := Ev.nxt rfl rfl
set_option maxRecDepth 20000 in
theorem S_L_law_441 (hi : ¬ (i0 < 0 ∨ Ln ≤ i0.toNatClampNeg)) : Ev T_L_law (some .boolean) xs Ln call 441 [u0, u1, u2, u3] [.int i0, .retAddr 0, v2, .int i3] w r = Ev T_L_law (some .boolean) xs Ln call 442 [u0, u1, u2, u3] [.int (xs i0.toNatClampNeg), v2, .int i3] w r := Ev.nxt rfl (by exact (X_sld hi))
set_option maxRecDepth 20000 in
theorem S_L_law_442 (h : isObj w k1 11 = true) : Ev T_L_law (some .boolean) xs Ln call 442 [u0, u1, u2, u3] [.int i0, .ref k1, .int i2] w r = aft T_L_law (some .boolean) xs Ln call 445 [u0, u1, u2, u3] [.int i2] r (call 173 [.ref k1, .int i0] w) := Ev.cl (vv := true) (k := 173) (n := 2) (nx := 445) rfl rfl (Nat.le_of_ble_eq_true rfl) (by simp [catS, Value.category]) rfl (Or.inr h)
set_option maxRecDepth 20000 in
theorem S_L_law_445 : Ev T_L_law (some .boolean) xs Ln call 445 [u0, u1, u2, u3] [.int i0, .int i1] w r = if i1 = i0 then Ev T_L_law (some .boolean) xs Ln call 1785 [u0, u1, u2, u3] [] w r else Ev T_L_law (some .boolean) xs Ln call 448 [u0, u1, u2, u3] [] w r := Ev.ifc rfl (by exact iteB)
set_option maxRecDepth 20000 in
theorem S_L_law_448 : Ev T_L_law (some .boolean) xs Ln call 448 [u0, u1, u2, u3] [] w r = Ev T_L_law (some .boolean) xs Ln call 449 [u0, u1, u2, u3] [.int 0] w r := Ev.nxt rfl rfl
set_option maxRecDepth 20000 in
theorem S_L_law_449 (h : okR (some .boolean) (.int i0) = true) : Ev T_L_law (some .boolean) xs Ln call 449 [u0, u1, u2, u3] [.int i0] w r = (r = (w, some (.int i0))) := Ev.rt rfl (by exact if_pos h)
set_option maxRecDepth 20000 in
theorem S_L_law_450 (h : isRf z = true) : Ev T_L_law (some .boolean) xs Ln call 450 [u0, some z, u2, u3] [] w r = Ev T_L_law (some .boolean) xs Ln call 451 [u0, some z, u2, u3] [z] w r := Ev.nxt rfl (by exact (if_pos h))
set_option maxRecDepth 20000 in
theorem S_L_law_451 (h : isRf z = true) : Ev T_L_law (some .boolean) xs Ln call 451 [some z, u1, u2, u3] [v0] w r = Ev T_L_law (some .boolean) xs Ln call 452 [some z, u1, u2, u3] [z, v0] w r := Ev.nxt rfl (by exact (if_pos h))
set_option maxRecDepth 20000 in
theorem S_L_law_452 : Ev T_L_law (some .boolean) xs Ln call 452 [u0, u1, u2, some (.int x)] [v0, v1] w r = Ev T_L_law (some .boolean) xs Ln call 453 [u0, u1, u2, some (.int x)] [.int x, v0, v1] w r := Ev.nxt rfl rfl
set_option maxRecDepth 20000 in
theorem S_L_law_453 : Ev T_L_law (some .boolean) xs Ln call 453 [u0, u1, u2, u3] [.int i0, v1, v2] w r = Ev T_L_law (some .boolean) xs Ln call 454 [u0, u1, u2, u3] [.int 1, .int i0, v1, v2] w r := Ev.nxt rfl rfl
set_option maxRecDepth 20000 in
theorem S_L_law_454 : Ev T_L_law (some .boolean) xs Ln call 454 [u0, u1, u2, u3] [.int i0, .int i1, v2, v3] w r = Ev T_L_law (some .boolean) xs Ln call 455 [u0, u1, u2, u3] [.int (i1 + i0), v2, v3] w r := Ev.nxt rfl rfl
set_option maxRecDepth 20000 in
theorem S_L_law_455 (hi : ¬ (i0 < 0 ∨ Ln ≤ i0.toNatClampNeg)) : Ev T_L_law (some .boolean) xs Ln call 455 [u0, u1, u2, u3] [.int i0, .retAddr 0, v2] w r = Ev T_L_law (some .boolean) xs Ln call 456 [u0, u1, u2, u3] [.int (xs i0.toNatClampNeg), v2] w r := Ev.nxt rfl (by exact (X_sld hi))
set_option maxRecDepth 20000 in
theorem S_L_law_456 (h : isRf z = true) : Ev T_L_law (some .boolean) xs Ln call 456 [some z, u1, u2, u3] [.int i0, v1] w r = Ev T_L_law (some .boolean) xs Ln call 457 [some z, u1, u2, u3] [z, .int i0, v1] w r := Ev.nxt rfl (by exact (if_pos h))
set_option maxRecDepth 20000 in
theorem S_L_law_457 : Ev T_L_law (some .boolean) xs Ln call 457 [u0, u1, u2, some (.int x)] [v0, .int i1, v2] w r = Ev T_L_law (some .boolean) xs Ln call 458 [u0, u1, u2, some (.int x)] [.int x, v0, .int i1, v2] w r := Ev.nxt rfl rfl
set_option maxRecDepth 20000 in
theorem S_L_law_458 : Ev T_L_law (some .boolean) xs Ln call 458 [u0, u1, u2, u3] [.int i0, v1, .int i2, v3] w r = Ev T_L_law (some .boolean) xs Ln call 459 [u0, u1, u2, u3] [.int 2, .int i0, v1, .int i2, v3] w r := Ev.nxt rfl rfl
set_option maxRecDepth 20000 in
theorem S_L_law_459 : Ev T_L_law (some .boolean) xs Ln call 459 [u0, u1, u2, u3] [.int i0, .int i1, v2, .int i3, v4] w r = Ev T_L_law (some .boolean) xs Ln call 460 [u0, u1, u2, u3] [.int (i1 + i0), v2, .int i3, v4] w r := Ev.nxt rfl rfl
set_option maxRecDepth 20000 in
theorem S_L_law_460 (hi : ¬ (i0 < 0 ∨ Ln ≤ i0.toNatClampNeg)) : Ev T_L_law (some .boolean) xs Ln call 460 [u0, u1, u2, u3] [.int i0, .retAddr 0, .int i2, v3] w r = Ev T_L_law (some .boolean) xs Ln call 461 [u0, u1, u2, u3] [.int (xs i0.toNatClampNeg), .int i2, v3] w r := Ev.nxt rfl (by exact (X_sld hi))
set_option maxRecDepth 20000 in
theorem S_L_law_461 (h : isRf z = true) : Ev T_L_law (some .boolean) xs Ln call 461 [some z, u1, u2, u3] [.int i0, .int i1, v2] w r = Ev T_L_law (some .boolean) xs Ln call 462 [some z, u1, u2, u3] [z, .int i0, .int i1, v2] w r := Ev.nxt rfl (by exact (if_pos h))
set_option maxRecDepth 20000 in
theorem S_L_law_462 : Ev T_L_law (some .boolean) xs Ln call 462 [u0, u1, u2, some (.int x)] [v0, .int i1, .int i2, v3] w r = Ev T_L_law (some .boolean) xs Ln call 463 [u0, u1, u2, some (.int x)] [.int x, v0, .int i1, .int i2, v3] w r := Ev.nxt rfl rfl
set_option maxRecDepth 20000 in
theorem S_L_law_463 : Ev T_L_law (some .boolean) xs Ln call 463 [u0, u1, u2, u3] [.int i0, v1, .int i2, .int i3, v4] w r = Ev T_L_law (some .boolean) xs Ln call 464 [u0, u1, u2, u3] [.int 3, .int i0, v1, .int i2, .int i3, v4] w r := Ev.nxt rfl rfl
set_option maxRecDepth 20000 in
theorem S_L_law_464 : Ev T_L_law (some .boolean) xs Ln call 464 [u0, u1, u2, u3] [.int i0, .int i1, v2, .int i3, .int i4, v5] w r = Ev T_L_law (some .boolean) xs Ln call 465 [u0, u1, u2, u3] [.int (i1 + i0), v2, .int i3, .int i4, v5] w r := Ev.nxt rfl rfl
set_option maxRecDepth 20000 in
theorem S_L_law_465 (hi : ¬ (i0 < 0 ∨ Ln ≤ i0.toNatClampNeg)) : Ev T_L_law (some .boolean) xs Ln call 465 [u0, u1, u2, u3] [.int i0, .retAddr 0, .int i2, .int i3, v4] w r = Ev T_L_law (some .boolean) xs Ln call 466 [u0, u1, u2, u3] [.int (xs i0.toNatClampNeg), .int i2, .int i3, v4] w r := Ev.nxt rfl (by exact (X_sld hi))
set_option maxRecDepth 20000 in
theorem S_L_law_466 (h : isRf z = true) : Ev T_L_law (some .boolean) xs Ln call 466 [some z, u1, u2, u3] [.int i0, .int i1, .int i2, v3] w r = Ev T_L_law (some .boolean) xs Ln call 467 [some z, u1, u2, u3] [z, .int i0, .int i1, .int i2, v3] w r := Ev.nxt rfl (by exact (if_pos h))
set_option maxRecDepth 20000 in
theorem S_L_law_467 : Ev T_L_law (some .boolean) xs Ln call 467 [u0, u1, u2, some (.int x)] [v0, .int i1, .int i2, .int i3, v4] w r = Ev T_L_law (some .boolean) xs Ln call 468 [u0, u1, u2, some (.int x)] [.int x, v0, .int i1, .int i2, .int i3, v4] w r := Ev.nxt rfl rfl
set_option maxRecDepth 20000 in
theorem S_L_law_468 : Ev T_L_law (some .boolean) xs Ln call 468 [u0, u1, u2, u3] [.int i0, v1, .int i2, .int i3, .int i4, v5] w r = Ev T_L_law (some .boolean) xs Ln call 469 [u0, u1, u2, u3] [.int 4, .int i0, v1, .int i2, .int i3, .int i4, v5] w r := Ev.nxt rfl rfl
set_option maxRecDepth 20000 in
theorem S_L_law_469 : Ev T_L_law (some .boolean) xs Ln call 469 [u0, u1, u2, u3] [.int i0, .int i1, v2, .int i3, .int i4, .int i5, v6] w r = Ev T_L_law (some .boolean) xs Ln call 470 [u0, u1, u2, u3] [.int (i1 + i0), v2, .int i3, .int i4, .int i5, v6] w r := Ev.nxt rfl rfl
set_option maxRecDepth 20000 in
theorem S_L_law_470 (hi : ¬ (i0 < 0 ∨ Ln ≤ i0.toNatClampNeg)) : Ev T_L_law (some .boolean) xs Ln call 470 [u0, u1, u2, u3] [.int i0, .retAddr 0, .int i2, .int i3, .int i4, v5] w r = Ev T_L_law (some .boolean) xs Ln call 471 [u0, u1, u2, u3] [.int (xs i0.toNatClampNeg), .int i2, .int i3, .int i4, v5] w r := Ev.nxt rfl (by exact (X_sld hi))
set_option maxRecDepth 20000 in
theorem S_L_law_471 (h : isRf z = true) : Ev T_L_law (some .boolean) xs Ln call 471 [some z, u1, u2, u3] [.int i0, .int i1, .int i2, .int i3, v4] w r = Ev T_L_law (some .boolean) xs Ln call 472 [some z, u1, u2, u3] [z, .int i0, .int i1, .int i2, .int i3, v4] w r := Ev.nxt rfl (by exact (if_pos h))
set_option maxRecDepth 20000 in
theorem S_L_law_472 : Ev T_L_law (some .boolean) xs Ln call 472 [u0, u1, u2, some (.int x)] [v0, .int i1, .int i2, .int i3, .int i4, v5] w r = Ev T_L_law (some .boolean) xs Ln call 473 [u0, u1, u2, some (.int x)] [.int x, v0, .int i1, .int i2, .int i3, .int i4, v5] w r := Ev.nxt rfl rfl
set_option maxRecDepth 20000 in
theorem S_L_law_473 : Ev T_L_law (some .boolean) xs Ln call 473 [u0, u1, u2, u3] [.int i0, v1, .int i2, .int i3, .int i4, .int i5, v6] w r = Ev T_L_law (some .boolean) xs Ln call 474 [u0, u1, u2, u3] [.int 5, .int i0, v1, .int i2, .int i3, .int i4, .int i5, v6] w r := Ev.nxt rfl rfl
set_option maxRecDepth 20000 in
theorem S_L_law_474 : Ev T_L_law (some .boolean) xs Ln call 474 [u0, u1, u2, u3] [.int i0, .int i1, v2, .int i3, .int i4, .int i5, .int i6, v7] w r = Ev T_L_law (some .boolean) xs Ln call 475 [u0, u1, u2, u3] [.int (i1 + i0), v2, .int i3, .int i4, .int i5, .int i6, v7] w r := Ev.nxt rfl rfl
set_option maxRecDepth 20000 in
theorem S_L_law_475 (hi : ¬ (i0 < 0 ∨ Ln ≤ i0.toNatClampNeg)) : Ev T_L_law (some .boolean) xs Ln call 475 [u0, u1, u2, u3] [.int i0, .retAddr 0, .int i2, .int i3, .int i4, .int i5, v6] w r = Ev T_L_law (some .boolean) xs Ln call 476 [u0, u1, u2, u3] [.int (xs i0.toNatClampNeg), .int i2, .int i3, .int i4, .int i5, v6] w r := Ev.nxt rfl (by exact (X_sld hi))
set_option maxRecDepth 20000 in
theorem S_L_law_476 (h : isObj w k5 10 = true) : Ev T_L_law (some .boolean) xs Ln call 476 [u0, u1, u2, u3] [.int i0, .int i1, .int i2, .int i3, .int i4, .ref k5] w r = aft T_L_law (some .boolean) xs Ln call 479 [u0, u1, u2, u3] [] r (call 92 [.ref k5, .int i4, .int i3, .int i2, .int i1, .int i0] w) := Ev.cl (vv := true) (k := 92) (n := 6) (nx := 479) rfl rfl (Nat.le_of_ble_eq_true rfl) (by simp [catS, Value.category]) rfl (Or.inr h)
set_option maxRecDepth 20000 in
theorem S_L_law_479 (h : isRf z = true) : Ev T_L_law (some .boolean) xs Ln call 479 [u0, u1, some z, u3] [.int i0] w r = Ev T_L_law (some .boolean) xs Ln call 480 [u0, u1, some z, u3] [z, .int i0] w r := Ev.nxt rfl (by exact (if_pos h))
set_option maxRecDepth 20000 in
theorem S_L_law_480 (h : isRf z = true) : Ev T_L_law (some .boolean) xs Ln call 480 [some z, u1, u2, u3] [v0, .int i1] w r = Ev T_L_law (some .boolean) xs Ln call 481 [some z, u1, u2, u3] [z, v0, .int i1] w r := Ev.nxt rfl (by exact (if_pos h))
set_option maxRecDepth 20000 in
theorem S_L_law_481 : Ev T_L_law (some .boolean) xs Ln call 481 [u0, u1, u2, some (.int x)] [v0, v1, .int i2] w r = Ev T_L_law (some .boolean) xs Ln call 482 [u0, u1, u2, some (.int x)] [.int x, v0, v1, .int i2] w r := Ev.nxt rfl rfl
set_option maxRecDepth 20000 in
theorem S_L_law_482 : Ev T_L_law (some .boolean) xs Ln call 482 [u0, u1, u2, u3] [.int i0, v1, v2, .int i3] w r = Ev T_L_law (some .boolean) xs Ln call 483 [u0, u1, u2, u3] [.int 1, .int i0, v1, v2, .int i3] w r := Ev.nxt rfl rfl
set_option maxRecDepth 20000 in
theorem S_L_law_483 : Ev T_L_law (some .boolean) xs Ln call 483 [u0, u1, u2, u3] [.int i0, .int i1, v2, v3, .int i4] w r = Ev T_L_law (some .boolean) xs Ln call 484 [u0, u1, u2, u3] [.int (i1 + i0), v2, v3, .int i4] w r := Ev.nxt rfl rfl
set_option maxRecDepth 20000 in
theorem S_L_law_484 (hi : ¬ (i0 < 0 ∨ Ln ≤ i0.toNatClampNeg)) : Ev T_L_law (some .boolean) xs Ln call 484 [u0, u1, u2, u3] [.int i0, .retAddr 0, v2, .int i3] w r = Ev T_L_law (some .boolean) xs Ln call 485 [u0, u1, u2, u3] [.int (xs i0.toNatClampNeg), v2, .int i3] w r := Ev.nxt rfl (by exact (X_sld hi))
set_option maxRecDepth 20000 in
theorem S_L_law_485 (h : isRf z = true) : Ev T_L_law (some .boolean) xs Ln call 485 [some z, u1, u2, u3] [.int i0, v1, .int i2] w r = Ev T_L_law (some .boolean) xs Ln call 486 [some z, u1, u2, u3] [z, .int i0, v1, .int i2] w r := Ev.nxt rfl (by exact (if_pos h))
set_option maxRecDepth 20000 in
theorem S_L_law_486 : Ev T_L_law (some .boolean) xs Ln call 486 [u0, u1, u2, some (.int x)] [v0, .int i1, v2, .int i3] w r = Ev T_L_law (some .boolean) xs Ln call 487 [u0, u1, u2, some (.int x)] [.int x, v0, .int i1, v2, .int i3] w r := Ev.nxt rfl rfl
set_option maxRecDepth 20000 in
theorem S_L_law_487 : Ev T_L_law (some .boolean) xs Ln call 487 [u0, u1, u2, u3] [.int i0, v1, .int i2, v3, .int i4] w r = Ev T_L_law (some .boolean) xs Ln call 488 [u0, u1, u2, u3] [.int 2, .int i0, v1, .int i2, v3, .int i4] w r := Ev.nxt rfl rfl
set_option maxRecDepth 20000 in
theorem S_L_law_488 : Ev T_L_law (some .boolean) xs Ln call 488 [u0, u1, u2, u3] [.int i0, .int i1, v2, .int i3, v4, .int i5] w r = Ev T_L_law (some .boolean) xs Ln call 489 [u0, u1, u2, u3] [.int (i1 + i0), v2, .int i3, v4, .int i5] w r := Ev.nxt rfl rfl
set_option maxRecDepth 20000 in
theorem S_L_law_489 (hi : ¬ (i0 < 0 ∨ Ln ≤ i0.toNatClampNeg)) : Ev T_L_law (some .boolean) xs Ln call 489 [u0, u1, u2, u3] [.int i0, .retAddr 0, .int i2, v3, .int i4] w r = Ev T_L_law (some .boolean) xs Ln call 490 [u0, u1, u2, u3] [.int (xs i0.toNatClampNeg), .int i2, v3, .int i4] w r := Ev.nxt rfl (by exact (X_sld hi))
set_option maxRecDepth 20000 in
theorem S_L_law_490 (h : isRf z = true) : Ev T_L_law (some .boolean) xs Ln call 490 [some z, u1, u2, u3] [.int i0, .int i1, v2, .int i3] w r = Ev T_L_law (some .boolean) xs Ln call 491 [some z, u1, u2, u3] [z, .int i0, .int i1, v2, .int i3] w r := Ev.nxt rfl (by exact (if_pos h))
set_option maxRecDepth 20000 in
theorem S_L_law_491 : Ev T_L_law (some .boolean) xs Ln call 491 [u0, u1, u2, some (.int x)] [v0, .int i1, .int i2, v3, .int i4] w r = Ev T_L_law (some .boolean) xs Ln call 492 [u0, u1, u2, some (.int x)] [.int x, v0, .int i1, .int i2, v3, .int i4] w r := Ev.nxt rfl rfl
set_option maxRecDepth 20000 in
theorem S_L_law_492 : Ev T_L_law (some .boolean) xs Ln call 492 [u0, u1, u2, u3] [.int i0, v1, .int i2, .int i3, v4, .int i5] w r = Ev T_L_law (some .boolean) xs Ln call 493 [u0, u1, u2, u3] [.int 3, .int i0, v1, .int i2, .int i3, v4, .int i5] w r := Ev.nxt rfl rfl
set_option maxRecDepth 20000 in
theorem S_L_law_493 : Ev T_L_law (some .boolean) xs Ln call 493 [u0, u1, u2, u3] [.int i0, .int i1, v2, .int i3, .int i4, v5, .int i6] w r = Ev T_L_law (some .boolean) xs Ln call 494 [u0, u1, u2, u3] [.int (i1 + i0), v2, .int i3, .int i4, v5, .int i6] w r := Ev.nxt rfl rfl
set_option maxRecDepth 20000 in
theorem S_L_law_494 (hi : ¬ (i0 < 0 ∨ Ln ≤ i0.toNatClampNeg)) : Ev T_L_law (some .boolean) xs Ln call 494 [u0, u1, u2, u3] [.int i0, .retAddr 0, .int i2, .int i3, v4, .int i5] w r = Ev T_L_law (some .boolean) xs Ln call 495 [u0, u1, u2, u3] [.int (xs i0.toNatClampNeg), .int i2, .int i3, v4, .int i5] w r := Ev.nxt rfl (by exact (X_sld hi))
set_option maxRecDepth 20000 in
theorem S_L_law_495 (h : isRf z = true) : Ev T_L_law (some .boolean) xs Ln call 495 [some z, u1, u2, u3] [.int i0, .int i1, .int i2, v3, .int i4] w r = Ev T_L_law (some .boolean) xs Ln call 496 [some z, u1, u2, u3] [z, .int i0, .int i1, .int i2, v3, .int i4] w r := Ev.nxt rfl (by exact (if_pos h))
set_option maxRecDepth 20000 in
theorem S_L_law_496 : Ev T_L_law (some .boolean) xs Ln call 496 [u0, u1, u2, some (.int x)] [v0, .int i1, .int i2, .int i3, v4, .int i5] w r = Ev T_L_law (some .boolean) xs Ln call 497 [u0, u1, u2, some (.int x)] [.int x, v0, .int i1, .int i2, .int i3, v4, .int i5] w r := Ev.nxt rfl rfl
set_option maxRecDepth 20000 in
theorem S_L_law_497 : Ev T_L_law (some .boolean) xs Ln call 497 [u0, u1, u2, u3] [.int i0, v1, .int i2, .int i3, .int i4, v5, .int i6] w r = Ev T_L_law (some .boolean) xs Ln call 498 [u0, u1, u2, u3] [.int 4, .int i0, v1, .int i2, .int i3, .int i4, v5, .int i6] w r := Ev.nxt rfl rfl
set_option maxRecDepth 20000 in
theorem S_L_law_498 : Ev T_L_law (some .boolean) xs Ln call 498 [u0, u1, u2, u3] [.int i0, .int i1, v2, .int i3, .int i4, .int i5, v6, .int i7] w r = Ev T_L_law (some .boolean) xs Ln call 499 [u0, u1, u2, u3] [.int (i1 + i0), v2, .int i3, .int i4, .int i5, v6, .int i7] w r := Ev.nxt rfl rfl
set_option maxRecDepth 20000 in
theorem S_L_law_499 (hi : ¬ (i0 < 0 ∨ Ln ≤ i0.toNatClampNeg)) : Ev T_L_law (some .boolean) xs Ln call 499 [u0, u1, u2, u3] [.int i0, .retAddr 0, .int i2, .int i3, .int i4, v5, .int i6] w r = Ev T_L_law (some .boolean) xs Ln call 500 [u0, u1, u2, u3] [.int (xs i0.toNatClampNeg), .int i2, .int i3, .int i4, v5, .int i6] w r := Ev.nxt rfl (by exact (X_sld hi))
set_option maxRecDepth 20000 in
theorem S_L_law_500 (h : isRf z = true) : Ev T_L_law (some .boolean) xs Ln call 500 [some z, u1, u2, u3] [.int i0, .int i1, .int i2, .int i3, v4, .int i5] w r = Ev T_L_law (some .boolean) xs Ln call 501 [some z, u1, u2, u3] [z, .int i0, .int i1, .int i2, .int i3, v4, .int i5] w r := Ev.nxt rfl (by exact (if_pos h))
set_option maxRecDepth 20000 in
theorem S_L_law_501 : Ev T_L_law (some .boolean) xs Ln call 501 [u0, u1, u2, some (.int x)] [v0, .int i1, .int i2, .int i3, .int i4, v5, .int i6] w r = Ev T_L_law (some .boolean) xs Ln call 502 [u0, u1, u2, some (.int x)] [.int x, v0, .int i1, .int i2, .int i3, .int i4, v5, .int i6] w r := Ev.nxt rfl rfl
set_option maxRecDepth 20000 in
theorem S_L_law_502 : Ev T_L_law (some .boolean) xs Ln call 502 [u0, u1, u2, u3] [.int i0, v1, .int i2, .int i3, .int i4, .int i5, v6, .int i7] w r = Ev T_L_law (some .boolean) xs Ln call 503 [u0, u1, u2, u3] [.int 5, .int i0, v1, .int i2, .int i3, .int i4, .int i5, v6, .int i7] w r := Ev.nxt rfl rfl
set_option maxRecDepth 20000 in
theorem S_L_law_503 : Ev T_L_law (some .boolean) xs Ln call 503 [u0, u1, u2, u3] [.int i0, .int i1, v2, .int i3, .int i4, .int i5, .int i6, v7, .int i8] w r = Ev T_L_law (some .boolean) xs Ln call 504 [u0, u1, u2, u3] [.int (i1 + i0), v2, .int i3, .int i4, .int i5, .int i6, v7, .int i8] w r := Ev.nxt rfl rfl
set_option maxRecDepth 20000 in
theorem S_L_law_504 (hi : ¬ (i0 < 0 ∨ Ln ≤ i0.toNatClampNeg)) : Ev T_L_law (some .boolean) xs Ln call 504 [u0, u1, u2, u3] [.int i0, .retAddr 0, .int i2, .int i3, .int i4, .int i5, v6, .int i7] w r = Ev T_L_law (some .boolean) xs Ln call 505 [u0, u1, u2, u3] [.int (xs i0.toNatClampNeg), .int i2, .int i3, .int i4, .int i5, v6, .int i7] w r := Ev.nxt rfl (by exact (X_sld hi))
set_option maxRecDepth 20000 in
theorem S_L_law_505 (h : isObj w k5 11 = true) : Ev T_L_law (some .boolean) xs Ln call 505 [u0, u1, u2, u3] [.int i0, .int i1, .int i2, .int i3, .int i4, .ref k5, .int i6] w r = aft T_L_law (some .boolean) xs Ln call 508 [u0, u1, u2, u3] [.int i6] r (call 176 [.ref k5, .int i4, .int i3, .int i2, .int i1, .int i0] w) := Ev.cl (vv := true) (k := 176) (n := 6) (nx := 508) rfl rfl (Nat.le_of_ble_eq_true rfl) (by simp [catS, Value.category]) rfl (Or.inr h)
set_option maxRecDepth 20000 in
theorem S_L_law_508 : Ev T_L_law (some .boolean) xs Ln call 508 [u0, u1, u2, u3] [.int i0, .int i1] w r = if i1 = i0 then Ev T_L_law (some .boolean) xs Ln call 1785 [u0, u1, u2, u3] [] w r else Ev T_L_law (some .boolean) xs Ln call 511 [u0, u1, u2, u3] [] w r := Ev.ifc rfl (by exact iteB)
set_option maxRecDepth 20000 in
theorem S_L_law_511 : Ev T_L_law (some .boolean) xs Ln call 511 [u0, u1, u2, u3] [] w r = Ev T_L_law (some .boolean) xs Ln call 512 [u0, u1, u2, u3] [.int 0] w r := Ev.nxt rfl rfl
set_option maxRecDepth 20000 in
theorem S_L_law_512 (h : okR (some .boolean) (.int i0) = true) : Ev T_L_law (some .boolean) xs Ln call 512 [u0, u1, u2, u3] [.int i0] w r = (r = (w, some (.int i0))) := Ev.rt rfl (by exact if_pos h)
set_option maxRecDepth 20000 in
theorem S_L_law_513 (h : isRf z = true) : Ev T_L_law (some .boolean) xs Ln call 513 [u0, some z, u2, u3] [] w r = Ev T_L_law (some .boolean) xs Ln call 514 [u0, some z, u2, u3] [z] w r := Ev.nxt rfl (by exact (if_pos h))
set_option maxRecDepth 20000 in
theorem S_L_law_514 (h : isRf z = true) : Ev T_L_law (some .boolean) xs Ln call 514 [some z, u1, u2, u3] [v0] w r = Ev T_L_law (some .boolean) xs Ln call 515 [some z, u1, u2, u3] [z, v0] w r := Ev.nxt rfl (by exact (if_pos h))
set_option maxRecDepth 20000 in
theorem S_L_law_515 : Ev T_L_law (some .boolean) xs Ln call 515 [u0, u1, u2, some (.int x)] [v0, v1] w r = Ev T_L_law (some .boolean) xs Ln call 516 [u0, u1, u2, some (.int x)] [.int x, v0, v1] w r := Ev.nxt rfl rfl
set_option maxRecDepth 20000 in
theorem S_L_law_516 : Ev T_L_law (some .boolean) xs Ln call 516 [u0, u1, u2, u3] [.int i0, v1, v2] w r = Ev T_L_law (some .boolean) xs Ln call 517 [u0, u1, u2, u3] [.int 1, .int i0, v1, v2] w r := Ev.nxt rfl rfl
set_option maxRecDepth 20000 in
theorem S_L_law_517 : Ev T_L_law (some .boolean) xs Ln call 517 [u0, u1, u2, u3] [.int i0, .int i1, v2, v3] w r = Ev T_L_law (some .boolean) xs Ln call 518 [u0, u1, u2, u3] [.int (i1 + i0), v2, v3] w r := Ev.nxt rfl rfl
set_option maxRecDepth 20000 in
theorem S_L_law_518 (hi : ¬ (i0 < 0 ∨ Ln ≤ i0.toNatClampNeg)) : Ev T_L_law (some .boolean) xs Ln call 518 [u0, u1, u2, u3] [.int i0, .retAddr 0, v2] w r = Ev T_L_law (some .boolean) xs Ln call 519 [u0, u1, u2, u3] [.int (xs i0.toNatClampNeg), v2] w r := Ev.nxt rfl (by exact (X_sld hi))
set_option maxRecDepth 20000 in
theorem S_L_law_519 (h : isObj w k1 10 = true) : Ev T_L_law (some .boolean) xs Ln call 519 [u0, u1, u2, u3] [.int i0, .ref k1] w r = aft T_L_law (some .boolean) xs Ln call 522 [u0, u1, u2, u3] [] r (call 93 [.ref k1, .int i0] w) := Ev.cl (vv := true) (k := 93) (n := 2) (nx := 522) rfl rfl (Nat.le_of_ble_eq_true rfl) (by simp [catS, Value.category]) rfl (Or.inr h)
set_option maxRecDepth 20000 in
theorem S_L_law_522 (h : isRf z = true) : Ev T_L_law (some .boolean) xs Ln call 522 [u0, u1, some z, u3] [.int i0] w r = Ev T_L_law (some .boolean) xs Ln call 523 [u0, u1, some z, u3] [z, .int i0] w r := Ev.nxt rfl (by exact (if_pos h))
set_option maxRecDepth 20000 in
theorem S_L_law_523 (h : isRf z = true) : Ev T_L_law (some .boolean) xs Ln call 523 [some z, u1, u2, u3] [v0, .int i1] w r = Ev T_L_law (some .boolean) xs Ln call 524 [some z, u1, u2, u3] [z, v0, .int i1] w r := Ev.nxt rfl (by exact (if_pos h))
set_option maxRecDepth 20000 in
theorem S_L_law_524 : Ev T_L_law (some .boolean) xs Ln call 524 [u0, u1, u2, some (.int x)] [v0, v1, .int i2] w r = Ev T_L_law (some .boolean) xs Ln call 525 [u0, u1, u2, some (.int x)] [.int x, v0, v1, .int i2] w r := Ev.nxt rfl rfl
set_option maxRecDepth 20000 in
theorem S_L_law_525 : Ev T_L_law (some .boolean) xs Ln call 525 [u0, u1, u2, u3] [.int i0, v1, v2, .int i3] w r = Ev T_L_law (some .boolean) xs Ln call 526 [u0, u1, u2, u3] [.int 1, .int i0, v1, v2, .int i3] w r := Ev.nxt rfl rfl
set_option maxRecDepth 20000 in
theorem S_L_law_526 : Ev T_L_law (some .boolean) xs Ln call 526 [u0, u1, u2, u3] [.int i0, .int i1, v2, v3, .int i4] w r = Ev T_L_law (some .boolean) xs Ln call 527 [u0, u1, u2, u3] [.int (i1 + i0), v2, v3, .int i4] w r := Ev.nxt rfl rfl
set_option maxRecDepth 20000 in
theorem S_L_law_527 (hi : ¬ (i0 < 0 ∨ Ln ≤ i0.toNatClampNeg)) : Ev T_L_law (some .boolean) xs Ln call 527 [u0, u1, u2, u3] [.int i0, .retAddr 0, v2, .int i3] w r = Ev T_L_law (some .boolean) xs Ln call 528 [u0, u1, u2, u3] [.int (xs i0.toNatClampNeg), v2, .int i3] w r := Ev.nxt rfl (by exact (X_sld hi))
set_option maxRecDepth 20000 in
theorem S_L_law_528 (h : isObj w k1 11 = true) : Ev T_L_law (some .boolean) xs Ln call 528 [u0, u1, u2, u3] [.int i0, .ref k1, .int i2] w r = aft T_L_law (some .boolean) xs Ln call 531 [u0, u1, u2, u3] [.int i2] r (call 177 [.ref k1, .int i0] w) := Ev.cl (vv := true) (k := 177) (n := 2) (nx := 531) rfl rfl (Nat.le_of_ble_eq_true rfl) (by simp [catS, Value.category]) rfl (Or.inr h)
set_option maxRecDepth 20000 in
theorem S_L_law_531 : Ev T_L_law (some .boolean) xs Ln call 531 [u0, u1, u2, u3] [.int i0, .int i1] w r = if i1 = i0 then Ev T_L_law (some .boolean) xs Ln call 1785 [u0, u1, u2, u3] [] w r else Ev T_L_law (some .boolean) xs Ln call 534 [u0, u1, u2, u3] [] w r := Ev.ifc rfl (by exact iteB)
set_option maxRecDepth 20000 in
theorem S_L_law_534 : Ev T_L_law (some .boolean) xs Ln call 534 [u0, u1, u2, u3] [] w r = Ev T_L_law (some .boolean) xs Ln call 535 [u0, u1, u2, u3] [.int 0] w r := Ev.nxt rfl rfl
set_option maxRecDepth 20000 in
theorem S_L_law_535 (h : okR (some .boolean) (.int i0) = true) : Ev T_L_law (some .boolean) xs Ln call 535 [u0, u1, u2, u3] [.int i0] w r = (r = (w, some (.int i0))) := Ev.rt rfl (by exact if_pos h)
set_option maxRecDepth 20000 in
theorem S_L_law_536 (h : isRf z = true) : Ev T_L_law (some .boolean) xs Ln call 536 [u0, some z, u2, u3] [] w r = Ev T_L_law (some .boolean) xs Ln call 537 [u0, some z, u2, u3] [z] w r := Ev.nxt rfl (by exact (if_pos h))
set_option maxRecDepth 20000 in
theorem S_L_law_537 (h : isRf z = true) : Ev T_L_law (some .boolean) xs Ln call 537 [some z, u1, u2, u3] [v0] w r = Ev T_L_law (some .boolean) xs Ln call 538 [some z, u1, u2, u3] [z, v0] w r := Ev.nxt rfl (by exact (if_pos h))
set_option maxRecDepth 20000 in
theorem S_L_law_538 : Ev T_L_law (some .boolean) xs Ln call 538 [u0, u1, u2, some (.int x)] [v0, v1] w r = Ev T_L_law (some .boolean) xs Ln call 539 [u0, u1, u2, some (.int x)] [.int x, v0, v1] w r := Ev.nxt rfl rfl
set_option maxRecDepth 20000 in
theorem S_L_law_539 : Ev T_L_law (some .boolean) xs Ln call 539 [u0, u1, u2, u3] [.int i0, v1, v2] w r = Ev T_L_law (some .boolean) xs Ln call 540 [u0, u1, u2, u3] [.int 1, .int i0, v1, v2] w r := Ev.nxt rfl rfl
set_option maxRecDepth 20000 in
theorem S_L_law_540 : Ev T_L_law (some .boolean) xs Ln call 540 [u0, u1, u2, u3] [.int i0, .int i1, v2, v3] w r = Ev T_L_law (some .boolean) xs Ln call 541 [u0, u1, u2, u3] [.int (i1 + i0), v2, v3] w r := Ev.nxt rfl rfl
set_option maxRecDepth 20000 in
theorem S_L_law_541 (hi : ¬ (i0 < 0 ∨ Ln ≤ i0.toNatClampNeg)) : Ev T_L_law (some .boolean) xs Ln call 541 [u0, u1, u2, u3] [.int i0, .retAddr 0, v2] w r = Ev T_L_law (some .boolean) xs Ln call 542 [u0, u1, u2, u3] [.int (xs i0.toNatClampNeg), v2] w r := Ev.nxt rfl (by exact (X_sld hi))
set_option maxRecDepth 20000 in
theorem S_L_law_542 (h : isObj w k1 10 = true) : Ev T_L_law (some .boolean) xs Ln call 542 [u0, u1, u2, u3] [.int i0, .ref k1] w r = aft T_L_law (some .boolean) xs Ln call 545 [u0, u1, u2, u3] [] r (call 94 [.ref k1, .int i0] w) := Ev.cl (vv := true) (k := 94) (n := 2) (nx := 545) rfl rfl (Nat.le_of_ble_eq_true rfl) (by simp [catS, Value.category]) rfl (Or.inr h)
set_option maxRecDepth 20000 in
theorem S_L_law_545 (h : isRf z = true) : Ev T_L_law (some .boolean) xs Ln call 545 [u0, u1, some z, u3] [.int i0] w r = Ev T_L_law (some .boolean) xs Ln call 546 [u0, u1, some z, u3] [z, .int i0] w r := Ev.nxt rfl (by exact (if_pos h))
set_option maxRecDepth 20000 in
theorem S_L_law_546 (h : isRf z = true) : Ev T_L_law (some .boolean) xs Ln call 546 [some z, u1, u2, u3] [v0, .int i1] w r = Ev T_L_law (some .boolean) xs Ln call 547 [some z, u1, u2, u3] [z, v0, .int i1] w r := Ev.nxt rfl (by exact (if_pos h))
set_option maxRecDepth 20000 in
theorem S_L_law_547 : Ev T_L_law (some .boolean) xs Ln call 547 [u0, u1, u2, some (.int x)] [v0, v1, .int i2] w r = Ev T_L_law (some .boolean) xs Ln call 548 [u0, u1, u2, some (.int x)] [.int x, v0, v1, .int i2] w r := Ev.nxt rfl rfl
set_option maxRecDepth 20000 in
theorem S_L_law_548 : Ev T_L_law (some .boolean) xs Ln call 548 [u0, u1, u2, u3] [.int i0, v1, v2, .int i3] w r = Ev T_L_law (some .boolean) xs Ln call 549 [u0, u1, u2, u3] [.int 1, .int i0, v1, v2, .int i3] w r := Ev.nxt rfl rfl
set_option maxRecDepth 20000 in
theorem S_L_law_549 : Ev T_L_law (some .boolean) xs Ln call 549 [u0, u1, u2, u3] [.int i0, .int i1, v2, v3, .int i4] w r = Ev T_L_law (some .boolean) xs Ln call 550 [u0, u1, u2, u3] [.int (i1 + i0), v2, v3, .int i4] w r := Ev.nxt rfl rfl
set_option maxRecDepth 20000 in
theorem S_L_law_550 (hi : ¬ (i0 < 0 ∨ Ln ≤ i0.toNatClampNeg)) : Ev T_L_law (some .boolean) xs Ln call 550 [u0, u1, u2, u3] [.int i0, .retAddr 0, v2, .int i3] w r = Ev T_L_law (some .boolean) xs Ln call 551 [u0, u1, u2, u3] [.int (xs i0.toNatClampNeg), v2, .int i3] w r := Ev.nxt rfl (by exact (X_sld hi))
set_option maxRecDepth 20000 in
theorem S_L_law_551 (h : isObj w k1 11 = true) : Ev T_L_law (some .boolean) xs Ln call 551 [u0, u1, u2, u3] [.int i0, .ref k1, .int i2] w r = aft T_L_law (some .boolean) xs Ln call 554 [u0, u1, u2, u3] [.int i2] r (call 174 [.ref k1, .int i0] w) := Ev.cl (vv := true) (k := 174) (n := 2) (nx := 554) rfl rfl (Nat.le_of_ble_eq_true rfl) (by simp [catS, Value.category]) rfl (Or.inr h)
set_option maxRecDepth 20000 in
theorem S_L_law_554 : Ev T_L_law (some .boolean) xs Ln call 554 [u0, u1, u2, u3] [.int i0, .int i1] w r = if i1 = i0 then Ev T_L_law (some .boolean) xs Ln call 1785 [u0, u1, u2, u3] [] w r else Ev T_L_law (some .boolean) xs Ln call 557 [u0, u1, u2, u3] [] w r := Ev.ifc rfl (by exact iteB)
set_option maxRecDepth 20000 in
theorem S_L_law_557 : Ev T_L_law (some .boolean) xs Ln call 557 [u0, u1, u2, u3] [] w r = Ev T_L_law (some .boolean) xs Ln call 558 [u0, u1, u2, u3] [.int 0] w r := Ev.nxt rfl rfl
set_option maxRecDepth 20000 in
theorem S_L_law_558 (h : okR (some .boolean) (.int i0) = true) : Ev T_L_law (some .boolean) xs Ln call 558 [u0, u1, u2, u3] [.int i0] w r = (r = (w, some (.int i0))) := Ev.rt rfl (by exact if_pos h)
set_option maxRecDepth 20000 in
theorem S_L_law_559 (h : isRf z = true) : Ev T_L_law (some .boolean) xs Ln call 559 [u0, some z, u2, u3] [] w r = Ev T_L_law (some .boolean) xs Ln call 560 [u0, some z, u2, u3] [z] w r := Ev.nxt rfl (by exact (if_pos h))
set_option maxRecDepth 20000 in
theorem S_L_law_560 (h : isObj w k0 10 = true) : Ev T_L_law (some .boolean) xs Ln call 560 [u0, u1, u2, u3] [.ref k0] w r = aft T_L_law (some .boolean) xs Ln call 563 [u0, u1, u2, u3] [] r (call 95 [.ref k0] w) := Ev.cl (vv := true) (k := 95) (n := 1) (nx := 563) rfl rfl (Nat.le_of_ble_eq_true rfl) (by simp [catS, Value.category]) rfl (Or.inr h)
set_option maxRecDepth 20000 in
theorem S_L_law_563 (h : isRf z = true) : Ev T_L_law (some .boolean) xs Ln call 563 [u0, u1, some z, u3] [.int i0] w r = Ev T_L_law (some .boolean) xs Ln call 564 [u0, u1, some z, u3] [z, .int i0] w r := Ev.nxt rfl (by exact (if_pos h))
set_option maxRecDepth 20000 in
theorem S_L_law_564 (h : isObj w k0 11 = true) : Ev T_L_law (some .boolean) xs Ln call 564 [u0, u1, u2, u3] [.ref k0, .int i1] w r = aft T_L_law (some .boolean) xs Ln call 567 [u0, u1, u2, u3] [.int i1] r (call 175 [.ref k0] w) := Ev.cl (vv := true) (k := 175) (n := 1) (nx := 567) rfl rfl (Nat.le_of_ble_eq_true rfl) (by simp [catS, Value.category]) rfl (Or.inr h)
set_option maxRecDepth 20000 in
theorem S_L_law_567 : Ev T_L_law (some .boolean) xs Ln call 567 [u0, u1, u2, u3] [.int i0, .int i1] w r = if i1 = i0 then Ev T_L_law (some .boolean) xs Ln call 1785 [u0, u1, u2, u3] [] w r else Ev T_L_law (some .boolean) xs Ln call 570 [u0, u1, u2, u3] [] w r := Ev.ifc rfl (by exact iteB)
set_option maxRecDepth 20000 in
theorem S_L_law_570 : Ev T_L_law (some .boolean) xs Ln call 570 [u0, u1, u2, u3] [] w r = Ev T_L_law (some .boolean) xs Ln call 571 [u0, u1, u2, u3] [.int 0] w r := Ev.nxt rfl rfl
set_option maxRecDepth 20000 in
theorem S_L_law_571 (h : okR (some .boolean) (.int i0) = true) : Ev T_L_law (some .boolean) xs Ln call 571 [u0, u1, u2, u3] [.int i0] w r = (r = (w, some (.int i0))) := Ev.rt rfl (by exact if_pos h)
set_option maxRecDepth 20000 in
theorem S_L_law_572 (h : isRf z = true) : Ev T_L_law (some .boolean) xs Ln call 572 [u0, some z, u2, u3] [] w r = Ev T_L_law (some .boolean) xs Ln call 573 [u0, some z, u2, u3] [z] w r := Ev.nxt rfl (by exact (if_pos h))
set_option maxRecDepth 20000 in
theorem S_L_law_573 (h : isObj w k0 10 = true) : Ev T_L_law (some .boolean) xs Ln call 573 [u0, u1, u2, u3] [.ref k0] w r = aft T_L_law (some .boolean) xs Ln call 576 [u0, u1, u2, u3] [] r (call 96 [.ref k0] w) := Ev.cl (vv := true) (k := 96) (n := 1) (nx := 576) rfl rfl (Nat.le_of_ble_eq_true rfl) (by simp [catS, Value.category]) rfl (Or.inr h)
set_option maxRecDepth 20000 in
theorem S_L_law_576 (h : isRf z = true) : Ev T_L_law (some .boolean) xs Ln call 576 [u0, u1, some z, u3] [.int i0] w r = Ev T_L_law (some .boolean) xs Ln call 577 [u0, u1, some z, u3] [z, .int i0] w r := Ev.nxt rfl (by exact (if_pos h))
set_option maxRecDepth 20000 in
theorem S_L_law_577 (h : isObj w k0 11 = true) : Ev T_L_law (some .boolean) xs Ln call 577 [u0, u1, u2, u3] [.ref k0, .int i1] w r = aft T_L_law (some .boolean) xs Ln call 580 [u0, u1, u2, u3] [.int i1] r (call 196 [.ref k0] w) := Ev.cl (vv := true) (k := 196) (n := 1) (nx := 580) rfl rfl (Nat.le_of_ble_eq_true rfl) (by simp [catS, Value.category]) rfl (Or.inr h)
set_option maxRecDepth 20000 in
theorem S_L_law_580 : Ev T_L_law (some .boolean) xs Ln call 580 [u0, u1, u2, u3] [.int i0, .int i1] w r = if i1 = i0 then Ev T_L_law (some .boolean) xs Ln call 1785 [u0, u1, u2, u3] [] w r else Ev T_L_law (some .boolean) xs Ln call 583 [u0, u1, u2, u3] [] w r := Ev.ifc rfl (by exact iteB)
set_option maxRecDepth 20000 in
theorem S_L_law_583 : Ev T_L_law (some .boolean) xs Ln call 583 [u0, u1, u2, u3] [] w r = Ev T_L_law (some .boolean) xs Ln call 584 [u0, u1, u2, u3] [.int 0] w r := Ev.nxt rfl rfl
set_option maxRecDepth 20000 in
theorem S_L_law_584 (h : okR (some .boolean) (.int i0) = true) : Ev T_L_law (some .boolean) xs Ln call 584 [u0, u1, u2, u3] [.int i0] w r = (r = (w, some (.int i0))) := Ev.rt rfl (by exact if_pos h)
set_option maxRecDepth 20000 in
theorem S_L_law_585 (h : isRf z = true) : Ev T_L_law (some .boolean) xs Ln call 585 [u0, some z, u2, u3] [] w r = Ev T_L_law (some .boolean) xs Ln call 586 [u0, some z, u2, u3] [z] w r := Ev.nxt rfl (by exact (if_pos h))
set_option maxRecDepth 20000 in
theorem S_L_law_586 (h : isObj w k0 10 = true) : Ev T_L_law (some .boolean) xs Ln call 586 [u0, u1, u2, u3] [.ref k0] w r = aft T_L_law (some .boolean) xs Ln call 589 [u0, u1, u2, u3] [] r (call 97 [.ref k0] w) := Ev.cl (vv := true) (k := 97) (n := 1) (nx := 589) rfl rfl (Nat.le_of_ble_eq_true rfl) (by simp [catS, Value.category]) rfl (Or.inr h)
set_option maxRecDepth 20000 in
theorem S_L_law_589 (h : isRf z = true) : Ev T_L_law (some .boolean) xs Ln call 589 [u0, u1, some z, u3] [.int i0] w r = Ev T_L_law (some .boolean) xs Ln call 590 [u0, u1, some z, u3] [z, .int i0] w r := Ev.nxt rfl (by exact (if_pos h))
set_option maxRecDepth 20000 in
theorem S_L_law_590 (h : isObj w k0 11 = true) : Ev T_L_law (some .boolean) xs Ln call 590 [u0, u1, u2, u3] [.ref k0, .int i1] w r = aft T_L_law (some .boolean) xs Ln call 593 [u0, u1, u2, u3] [.int i1] r (call 197 [.ref k0] w) := Ev.cl (vv := true) (k := 197) (n := 1) (nx := 593) rfl rfl (Nat.le_of_ble_eq_true rfl) (by simp [catS, Value.category]) rfl (Or.inr h)
set_option maxRecDepth 20000 in
theorem S_L_law_593 : Ev T_L_law (some .boolean) xs Ln call 593 [u0, u1, u2, u3] [.int i0, .int i1] w r = if i1 = i0 then Ev T_L_law (some .boolean) xs Ln call 1785 [u0, u1, u2, u3] [] w r else Ev T_L_law (some .boolean) xs Ln call 596 [u0, u1, u2, u3] [] w r := Ev.ifc rfl (by exact iteB)
set_option maxRecDepth 20000 in
theorem S_L_law_596 : Ev T_L_law (some .boolean) xs Ln call 596 [u0, u1, u2, u3] [] w r = Ev T_L_law (some .boolean) xs Ln call 597 [u0, u1, u2, u3] [.int 0] w r := Ev.nxt rfl rfl
set_option maxRecDepth 20000 in
theorem S_L_law_597 (h : okR (some .boolean) (.int i0) = true) : Ev T_L_law (some .boolean) xs Ln call 597 [u0, u1, u2, u3] [.int i0] w r = (r = (w, some (.int i0))) := Ev.rt rfl (by exact if_pos h)
set_option maxRecDepth 20000 in
theorem S_L_law_598 (h : isRf z = true) : Ev T_L_law (some .boolean) xs Ln call 598 [u0, some z, u2, u3] [] w r = Ev T_L_law (some .boolean) xs Ln call 599 [u0, some z, u2, u3] [z] w r := Ev.nxt rfl (by exact (if_pos h))
set_option maxRecDepth 20000 in
theorem S_L_law_599 (h : isRf z = true) : Ev T_L_law (some .boolean) xs Ln call 599 [some z, u1, u2, u3] [v0] w r = Ev T_L_law (some .boolean) xs Ln call 600 [some z, u1, u2, u3] [z, v0] w r := Ev.nxt rfl (by exact (if_pos h))
set_option maxRecDepth 20000 in
theorem S_L_law_600 : Ev T_L_law (some .boolean) xs Ln call 600 [u0, u1, u2, some (.int x)] [v0, v1] w r = Ev T_L_law (some .boolean) xs Ln call 601 [u0, u1, u2, some (.int x)] [.int x, v0, v1] w r := Ev.nxt rfl rfl
set_option maxRecDepth 20000 in
theorem S_L_law_601 : Ev T_L_law (some .boolean) xs Ln call 601 [u0, u1, u2, u3] [.int i0, v1, v2] w r = Ev T_L_law (some .boolean) xs Ln call 602 [u0, u1, u2, u3] [.int 1, .int i0, v1, v2] w r := Ev.nxt rfl rfl
set_option maxRecDepth 20000 in
theorem S_L_law_602 : Ev T_L_law (some .boolean) xs Ln call 602 [u0, u1, u2, u3] [.int i0, .int i1, v2, v3] w r = Ev T_L_law (some .boolean) xs Ln call 603 [u0, u1, u2, u3] [.int (i1 + i0), v2, v3] w r := Ev.nxt rfl rfl
set_option maxRecDepth 20000 in
theorem S_L_law_603 (hi : ¬ (i0 < 0 ∨ Ln ≤ i0.toNatClampNeg)) : Ev T_L_law (some .boolean) xs Ln call 603 [u0, u1, u2, u3] [.int i0, .retAddr 0, v2] w r = Ev T_L_law (some .boolean) xs Ln call 604 [u0, u1, u2, u3] [.int (xs i0.toNatClampNeg), v2] w r := Ev.nxt rfl (by exact (X_sld hi))
set_option maxRecDepth 20000 in
theorem S_L_law_604 (h : isObj w k1 10 = true) : Ev T_L_law (some .boolean) xs Ln call 604 [u0, u1, u2, u3] [.int i0, .ref k1] w r = aft T_L_law (some .boolean) xs Ln call 607 [u0, u1, u2, u3] [] r (call 98 [.ref k1, .int i0] w) := Ev.cl (vv := true) (k := 98) (n := 2) (nx := 607) rfl rfl (Nat.le_of_ble_eq_true rfl) (by simp [catS, Value.category]) rfl (Or.inr h)
set_option maxRecDepth 20000 in
theorem S_L_law_607 (h : isRf z = true) : Ev T_L_law (some .boolean) xs Ln call 607 [u0, u1, some z, u3] [.int i0] w r = Ev T_L_law (some .boolean) xs Ln call 608 [u0, u1, some z, u3] [z, .int i0] w r := Ev.nxt rfl (by exact (if_pos h))
set_option maxRecDepth 20000 in
theorem S_L_law_608 (h : isRf z = true) : Ev T_L_law (some .boolean) xs Ln call 608 [some z, u1, u2, u3] [v0, .int i1] w r = Ev T_L_law (some .boolean) xs Ln call 609 [some z, u1, u2, u3] [z, v0, .int i1] w r := Ev.nxt rfl (by exact (if_pos h))
set_option maxRecDepth 20000 in
theorem S_L_law_609 : Ev T_L_law (some .boolean) xs Ln call 609 [u0, u1, u2, some (.int x)] [v0, v1, .int i2] w r = Ev T_L_law (some .boolean) xs Ln call 610 [u0, u1, u2, some (.int x)] [.int x, v0, v1, .int i2] w r := Ev.nxt rfl rfl
set_option maxRecDepth 20000 in
theorem S_L_law_610 : Ev T_L_law (some .boolean) xs Ln call 610 [u0, u1, u2, u3] [.int i0, v1, v2, .int i3] w r = Ev T_L_law (some .boolean) xs Ln call 611 [u0, u1, u2, u3] [.int 1, .int i0, v1, v2, .int i3] w r := Ev.nxt rfl rfl
set_option maxRecDepth 20000 in
theorem S_L_law_611 : Ev T_L_law (some .boolean) xs Ln call 611 [u0, u1, u2, u3] [.int i0, .int i1, v2, v3, .int i4] w r = Ev T_L_law (some .boolean) xs Ln call 612 [u0, u1, u2, u3] [.int (i1 + i0), v2, v3, .int i4] w r := Ev.nxt rfl rfl
set_option maxRecDepth 20000 in
theorem S_L_law_612 (hi : ¬ (i0 < 0 ∨ Ln ≤ i0.toNatClampNeg)) : Ev T_L_law (some .boolean) xs Ln call 612 [u0, u1, u2, u3] [.int i0, .retAddr 0, v2, .int i3] w r = Ev T_L_law (some .boolean) xs Ln call 613 [u0, u1, u2, u3] [.int (xs i0.toNatClampNeg), v2, .int i3] w r := Ev.nxt rfl (by exact (X_sld hi))
set_option maxRecDepth 20000 in
theorem S_L_law_613 (h : isObj w k1 11 = true) : Ev T_L_law (some .boolean) xs Ln call 613 [u0, u1, u2, u3] [.int i0, .ref k1, .int i2] w r = aft T_L_law (some .boolean) xs Ln call 616 [u0, u1, u2, u3] [.int i2] r (call 198 [.ref k1, .int i0] w) := Ev.cl (vv := true) (k := 198) (n := 2) (nx := 616) rfl rfl (Nat.le_of_ble_eq_true rfl) (by simp [catS, Value.category]) rfl (Or.inr h)
set_option maxRecDepth 20000 in
theorem S_L_law_616 : Ev T_L_law (some .boolean) xs Ln call 616 [u0, u1, u2, u3] [.int i0, .int i1] w r = if i1 = i0 then Ev T_L_law (some .boolean) xs Ln call 1785 [u0, u1, u2, u3] [] w r else Ev T_L_law (some .boolean) xs Ln call 619 [u0, u1, u2, u3] [] w r := Ev.ifc rfl (by exact iteB)
set_option maxRecDepth 20000 in
theorem S_L_law_619 : Ev T_L_law (some .boolean) xs Ln call 619 [u0, u1, u2, u3] [] w r = Ev T_L_law (some .boolean) xs Ln call 620 [u0, u1, u2, u3] [.int 0] w r := Ev.nxt rfl rfl
set_option maxRecDepth 20000 in
theorem S_L_law_620 (h : okR (some .boolean) (.int i0) = true) : Ev T_L_law (some .boolean) xs Ln call 620 [u0, u1, u2, u3] [.int i0] w r = (r = (w, some (.int i0))) := Ev.rt rfl (by exact if_pos h)
set_option maxRecDepth 20000 in
theorem S_L_law_621 (h : isRf z = true) : Ev T_L_law (some .boolean) xs Ln call 621 [u0, some z, u2, u3] [] w r = Ev T_L_law (some .boolean) xs Ln call 622 [u0, some z, u2, u3] [z] w r := Ev.nxt rfl (by exact (if_pos h))
set_option maxRecDepth 20000 in
theorem S_L_law_622 (h : isRf z = true) : Ev T_L_law (some .boolean) xs Ln call 622 [some z, u1, u2, u3] [v0] w r = Ev T_L_law (some .boolean) xs Ln call 623 [some z, u1, u2, u3] [z, v0] w r := Ev.nxt rfl (by exact (if_pos h))
set_option maxRecDepth 20000 in
theorem S_L_law_623 : Ev T_L_law (some .boolean) xs Ln call 623 [u0, u1, u2, some (.int x)] [v0, v1] w r = Ev T_L_law (some .boolean) xs Ln call 624 [u0, u1, u2, some (.int x)] [.int x, v0, v1] w r := Ev.nxt rfl rfl
set_option maxRecDepth 20000 in
theorem S_L_law_624 : Ev T_L_law (some .boolean) xs Ln call 624 [u0, u1, u2, u3] [.int i0, v1, v2] w r = Ev T_L_law (some .boolean) xs Ln call 625 [u0, u1, u2, u3] [.int 1, .int i0, v1, v2] w r := Ev.nxt rfl rfl
set_option maxRecDepth 20000 in
theorem S_L_law_625 : Ev T_L_law (some .boolean) xs Ln call 625 [u0, u1, u2, u3] [.int i0, .int i1, v2, v3] w r = Ev T_L_law (some .boolean) xs Ln call 626 [u0, u1, u2, u3] [.int (i1 + i0), v2, v3] w r := Ev.nxt rfl rfl
set_option maxRecDepth 20000 in
theorem S_L_law_626 (hi : ¬ (i0 < 0 ∨ Ln ≤ i0.toNatClampNeg)) : Ev T_L_law (some .boolean) xs Ln call 626 [u0, u1, u2, u3] [.int i0, .retAddr 0, v2] w r = Ev T_L_law (some .boolean) xs Ln call 627 [u0, u1, u2, u3] [.int (xs i0.toNatClampNeg), v2] w r := Ev.nxt rfl (by exact (X_sld hi))
set_option maxRecDepth 20000 in
theorem S_L_law_627 (h : isRf z = true) : Ev T_L_law (some .boolean) xs Ln call 627 [some z, u1, u2, u3] [.int i0, v1] w r = Ev T_L_law (some .boolean) xs Ln call 628 [some z, u1, u2, u3] [z, .int i0, v1] w r := Ev.nxt rfl (by exact (if_pos h))
set_option maxRecDepth 20000 in
theorem S_L_law_628 : Ev T_L_law (some .boolean) xs Ln call 628 [u0, u1, u2, some (.int x)] [v0, .int i1, v2] w r = Ev T_L_law (some .boolean) xs Ln call 629 [u0, u1, u2, some (.int x)] [.int x, v0, .int i1, v2] w r := Ev.nxt rfl rfl
set_option maxRecDepth 20000 in
theorem S_L_law_629 : Ev T_L_law (some .boolean) xs Ln call 629 [u0, u1, u2, u3] [.int i0, v1, .int i2, v3] w r = Ev T_L_law (some .boolean) xs Ln call 630 [u0, u1, u2, u3] [.int 2, .int i0, v1, .int i2, v3] w r := Ev.nxt rfl rfl
set_option maxRecDepth 20000 in
theorem S_L_law_630 : Ev T_L_law (some .boolean) xs Ln call 630 [u0, u1, u2, u3] [.int i0, .int i1, v2, .int i3, v4] w r = Ev T_L_law (some .boolean) xs Ln call 631 [u0, u1, u2, u3] [.int (i1 + i0), v2, .int i3, v4] w r := Ev.nxt rfl rfl
set_option maxRecDepth 20000 in
theorem S_L_law_631 (hi : ¬ (i0 < 0 ∨ Ln ≤ i0.toNatClampNeg)) : Ev T_L_law (some .boolean) xs Ln call 631 [u0, u1, u2, u3] [.int i0, .retAddr 0, .int i2, v3] w r = Ev T_L_law (some .boolean) xs Ln call 632 [u0, u1, u2, u3] [.int (xs i0.toNatClampNeg), .int i2, v3] w r := Ev.nxt rfl (by exact (X_sld hi))
set_option maxRecDepth 20000 in
theorem S_L_law_632 (h : isRf z = true) : Ev T_L_law (some .boolean) xs Ln call 632 [some z, u1, u2, u3] [.int i0, .int i1, v2] w r = Ev T_L_law (some .boolean) xs Ln call 633 [some z, u1, u2, u3] [z, .int i0, .int i1, v2] w r := Ev.nxt rfl (by exact (if_pos h))
set_option maxRecDepth 20000 in
theorem S_L_law_633 : Ev T_L_law (some .boolean) xs Ln call 633 [u0, u1, u2, some (.int x)] [v0, .int i1, .int i2, v3] w r = Ev T_L_law (some .boolean) xs Ln call 634 [u0, u1, u2, some (.int x)] [.int x, v0, .int i1, .int i2, v3] w r := Ev.nxt rfl rfl
set_option maxRecDepth 20000 in
theorem S_L_law_634 : Ev T_L_law (some .boolean) xs Ln call 634 [u0, u1, u2, u3] [.int i0, v1, .int i2, .int i3, v4] w r = Ev T_L_law (some .boolean) xs Ln call 635 [u0, u1, u2, u3] [.int 3, .int i0, v1, .int i2, .int i3, v4] w r := Ev.nxt rfl rfl
set_option maxRecDepth 20000 in
theorem S_L_law_635 : Ev T_L_law (some .boolean) xs Ln call 635 [u0, u1, u2, u3] [.int i0, .int i1, v2, .int i3, .int i4, v5] w r = Ev T_L_law (some .boolean) xs Ln call 636 [u0, u1, u2, u3] [.int (i1 + i0), v2, .int i3, .int i4, v5] w r := Ev.nxt rfl rfl
set_option maxRecDepth 20000 in
theorem S_L_law_636 (hi : ¬ (i0 < 0 ∨ Ln ≤ i0.toNatClampNeg)) : Ev T_L_law (some .boolean) xs Ln call 636 [u0, u1, u2, u3] [.int i0, .retAddr 0, .int i2, .int i3, v4] w r = Ev T_L_law (some .boolean) xs Ln call 637 [u0, u1, u2, u3] [.int (xs i0.toNatClampNeg), .int i2, .int i3, v4] w r := Ev.nxt rfl (by exact (X_sld hi))
set_option maxRecDepth 20000 in
theorem S_L_law_637 (h : isRf z = true) : Ev T_L_law (some .boolean) xs Ln call 637 [some z, u1, u2, u3] [.int i0, .int i1, .int i2, v3] w r = Ev T_L_law (some .boolean) xs Ln call 638 [some z, u1, u2, u3] [z, .int i0, .int i1, .int i2, v3] w r := Ev.nxt rfl (by exact (if_pos h))
set_option maxRecDepth 20000 in
theorem S_L_law_638 : Ev T_L_law (some .boolean) xs Ln call 638 [u0, u1, u2, some (.int x)] [v0, .int i1, .int i2, .int i3, v4] w r = Ev T_L_law (some .boolean) xs Ln call 639 [u0, u1, u2, some (.int x)] [.int x, v0, .int i1, .int i2, .int i3, v4] w r := Ev.nxt rfl rfl
set_option maxRecDepth 20000 in
theorem S_L_law_639 : Ev T_L_law (some .boolean) xs Ln call 639 [u0, u1, u2, u3] [.int i0, v1, .int i2, .int i3, .int i4, v5] w r = Ev T_L_law (some .boolean) xs Ln call 640 [u0, u1, u2, u3] [.int 4, .int i0, v1, .int i2, .int i3, .int i4, v5] w r := Ev.nxt rfl rfl
set_option maxRecDepth 20000 in
theorem S_L_law_640 : Ev T_L_law (some .boolean) xs Ln call 640 [u0, u1, u2, u3] [.int i0, .int i1, v2, .int i3, .int i4, .int i5, v6] w r = Ev T_L_law (some .boolean) xs Ln call 641 [u0, u1, u2, u3] [.int (i1 + i0), v2, .int i3, .int i4, .int i5, v6] w r := Ev.nxt rfl rfl
set_option maxRecDepth 20000 in
theorem S_L_law_641 (hi : ¬ (i0 < 0 ∨ Ln ≤ i0.toNatClampNeg)) : Ev T_L_law (some .boolean) xs Ln call 641 [u0, u1, u2, u3] [.int i0, .retAddr 0, .int i2, .int i3, .int i4, v5] w r = Ev T_L_law (some .boolean) xs Ln call 642 [u0, u1, u2, u3] [.int (xs i0.toNatClampNeg), .int i2, .int i3, .int i4, v5] w r := Ev.nxt rfl (by exact (X_sld hi))
set_option maxRecDepth 20000 in
theorem S_L_law_642 (h : isObj w k4 10 = true) : Ev T_L_law (some .boolean) xs Ln call 642 [u0, u1, u2, u3] [.int i0, .int i1, .int i2, .int i3, .ref k4] w r = aft T_L_law (some .boolean) xs Ln call 645 [u0, u1, u2, u3] [] r (call 99 [.ref k4, .int i3, .int i2, .int i1, .int i0] w) := Ev.cl (vv := true) (k := 99) (n := 5) (nx := 645) rfl rfl (Nat.le_of_ble_eq_true rfl) (by simp [catS, Value.category]) rfl (Or.inr h)
set_option maxRecDepth 20000 in
theorem S_L_law_645 (h : isRf z = true) : Ev T_L_law (some .boolean) xs Ln call 645 [u0, u1, some z, u3] [.int i0] w r = Ev T_L_law (some .boolean) xs Ln call 646 [u0, u1, some z, u3] [z, .int i0] w r := Ev.nxt rfl (by exact (if_pos h))
set_option maxRecDepth 20000 in
theorem S_L_law_646 (h : isRf z = true) : Ev T_L_law (some .boolean) xs Ln call 646 [some z, u1, u2, u3] [v0, .int i1] w r = Ev T_L_law (some .boolean) xs Ln call 647 [some z, u1, u2, u3] [z, v0, .int i1] w r := Ev.nxt rfl (by exact (if_pos h))
set_option maxRecDepth 20000 in
theorem S_L_law_647 : Ev T_L_law (some .boolean) xs Ln call 647 [u0, u1, u2, some (.int x)] [v0, v1, .int i2] w r = Ev T_L_law (some .boolean) xs Ln call 648 [u0, u1, u2, some (.int x)] [.int x, v0, v1, .int i2] w r := Ev.nxt rfl rfl
set_option maxRecDepth 20000 in
theorem S_L_law_648 : Ev T_L_law (some .boolean) xs Ln call 648 [u0, u1, u2, u3] [.int i0, v1, v2, .int i3] w r = Ev T_L_law (some .boolean) xs Ln call 649 [u0, u1, u2, u3] [.int 1, .int i0, v1, v2, .int i3] w r := Ev.nxt rfl rfl
set_option maxRecDepth 20000 in
theorem S_L_law_649 : Ev T_L_law (some .boolean) xs Ln call 649 [u0, u1, u2, u3] [.int i0, .int i1, v2, v3, .int i4] w r = Ev T_L_law (some .boolean) xs Ln call 650 [u0, u1, u2, u3] [.int (i1 + i0), v2, v3, .int i4] w r := Ev.nxt rfl rfl
set_option maxRecDepth 20000 in
theorem S_L_law_650 (hi : ¬ (i0 < 0 ∨ Ln ≤ i0.toNatClampNeg)) : Ev T_L_law (some .boolean) xs Ln call 650 [u0, u1, u2, u3] [.int i0, .retAddr 0, v2, .int i3] w r = Ev T_L_law (some .boolean) xs Ln call 651 [u0, u1, u2, u3] [.int (xs i0.toNatClampNeg), v2, .int i3] w r := Ev.nxt rfl (by exact (X_sld hi))
set_option maxRecDepth 20000 in
theorem S_L_law_651 (h : isRf z = true) : Ev T_L_law (some .boolean) xs Ln call 651 [some z, u1, u2, u3] [.int i0, v1, .int i2] w r = Ev T_L_law (some .boolean) xs Ln call 652 [some z, u1, u2, u3] [z, .int i0, v1, .int i2] w r := Ev.nxt rfl (by exact (if_pos h))
set_option maxRecDepth 20000 in
theorem S_L_law_652 : Ev T_L_law (some .boolean) xs Ln call 652 [u0, u1, u2, some (.int x)] [v0, .int i1, v2, .int i3] w r = Ev T_L_law (some .boolean) xs Ln call 653 [u0, u1, u2, some (.int x)] [.int x, v0, .int i1, v2, .int i3] w r := Ev.nxt rfl rfl
set_option maxRecDepth 20000 in
theorem S_L_law_653 : Ev T_L_law (some .boolean) xs Ln call 653 [u0, u1, u2, u3] [.int i0, v1, .int i2, v3, .int i4] w r = Ev T_L_law (some .boolean) xs Ln call 654 [u0, u1, u2, u3] [.int 2, .int i0, v1, .int i2, v3, .int i4] w r := Ev.nxt rfl rfl
set_option maxRecDepth 20000 in
theorem S_L_law_654 : Ev T_L_law (some .boolean) xs Ln call 654 [u0, u1, u2, u3] [.int i0, .int i1, v2, .int i3, v4, .int i5] w r = Ev T_L_law (some .boolean) xs Ln call 655 [u0, u1, u2, u3] [.int (i1 + i0), v2, .int i3, v4, .int i5] w r := Ev.nxt rfl rfl
set_option maxRecDepth 20000 in
theorem S_L_law_655 (hi : ¬ (i0 < 0 ∨ Ln ≤ i0.toNatClampNeg)) : Ev T_L_law (some .boolean) xs Ln call 655 [u0, u1, u2, u3] [.int i0, .retAddr 0, .int i2, v3, .int i4] w r = Ev T_L_law (some .boolean) xs Ln call 656 [u0, u1, u2, u3] [.int (xs i0.toNatClampNeg), .int i2, v3, .int i4] w r := Ev.nxt rfl (by exact (X_sld hi))
set_option maxRecDepth 20000 in
theorem S_L_law_656 (h : isRf z = true) : Ev T_L_law (some .boolean) xs Ln call 656 [some z, u1, u2, u3] [.int i0, .int i1, v2, .int i3] w r = Ev T_L_law (some .boolean) xs Ln call 657 [some z, u1, u2, u3] [z, .int i0, .int i1, v2, .int i3] w r := Ev.nxt rfl (by exact (if_pos h))
set_option maxRecDepth 20000 in
theorem S_L_law_657 : Ev T_L_law (some .boolean) xs Ln call 657 [u0, u1, u2, some (.int x)] [v0, .int i1, .int i2, v3, .int i4] w r = Ev T_L_law (some .boolean) xs Ln call 658 [u0, u1, u2, some (.int x)] [.int x, v0, .int i1, .int i2, v3, .int i4] w r := Ev.nxt rfl rfl
set_option maxRecDepth 20000 in
theorem S_L_law_658 : Ev T_L_law (some .boolean) xs Ln call 658 [u0, u1, u2, u3] [.int i0, v1, .int i2, .int i3, v4, .int i5] w r = Ev T_L_law (some .boolean) xs Ln call 659 [u0, u1, u2, u3] [.int 3, .int i0, v1, .int i2, .int i3, v4, .int i5] w r := Ev.nxt rfl rfl
set_option maxRecDepth 20000 in
theorem S_L_law_659 : Ev T_L_law (some .boolean) xs Ln call 659 [u0, u1, u2, u3] [.int i0, .int i1, v2, .int i3, .int i4, v5, .int i6] w r = Ev T_L_law (some .boolean) xs Ln call 660 [u0, u1, u2, u3] [.int (i1 + i0), v2, .int i3, .int i4, v5, .int i6] w r := Ev.nxt rfl rfl
set_option maxRecDepth 20000 in
theorem S_L_law_660 (hi : ¬ (i0 < 0 ∨ Ln ≤ i0.toNatClampNeg)) : Ev T_L_law (some .boolean) xs Ln call 660 [u0, u1, u2, u3] [.int i0, .retAddr 0, .int i2, .int i3, v4, .int i5] w r = Ev T_L_law (some .boolean) xs Ln call 661 [u0, u1, u2, u3] [.int (xs i0.toNatClampNeg), .int i2, .int i3, v4, .int i5] w r := Ev.nxt rfl (by exact (X_sld hi))
set_option maxRecDepth 20000 in
theorem S_L_law_661 (h : isRf z = true) : Ev T_L_law (some .boolean) xs Ln call 661 [some z, u1, u2, u3] [.int i0, .int i1, .int i2, v3, .int i4] w r = Ev T_L_law (some .boolean) xs Ln call 662 [some z, u1, u2, u3] [z, .int i0, .int i1, .int i2, v3, .int i4] w r := Ev.nxt rfl (by exact (if_pos h))
set_option maxRecDepth 20000 in
theorem S_L_law_662 : Ev T_L_law (some .boolean) xs Ln call 662 [u0, u1, u2, some (.int x)] [v0, .int i1, .int i2, .int i3, v4, .int i5] w r = Ev T_L_law (some .boolean) xs Ln call 663 [u0, u1, u2, some (.int x)] [.int x, v0, .int i1, .int i2, .int i3, v4, .int i5] w r := Ev.nxt rfl rfl
set_option maxRecDepth 20000 in
theorem S_L_law_663 : Ev T_L_law (some .boolean) xs Ln call 663 [u0, u1, u2, u3] [.int i0, v1, .int i2, .int i3, .int i4, v5, .int i6] w r = Ev T_L_law (some .boolean) xs Ln call 664 [u0, u1, u2, u3] [.int 4, .int i0, v1, .int i2, .int i3, .int i4, v5, .int i6] w r := Ev.nxt rfl rfl
set_option maxRecDepth 20000 in
theorem S_L_law_664 : Ev T_L_law (some .boolean) xs Ln call 664 [u0, u1, u2, u3] [.int i0, .int i1, v2, .int i3, .int i4, .int i5, v6, .int i7] w r = Ev T_L_law (some .boolean) xs Ln call 665 [u0, u1, u2, u3] [.int (i1 + i0), v2, .int i3, .int i4, .int i5, v6, .int i7] w r := Ev.nxt rfl rfl
set_option maxRecDepth 20000 in
theorem S_L_law_665 (hi : ¬ (i0 < 0 ∨ Ln ≤ i0.toNatClampNeg)) : Ev T_L_law (some .boolean) xs Ln call 665 [u0, u1, u2, u3] [.int i0, .retAddr 0, .int i2, .int i3, .int i4, v5, .int i6] w r = Ev T_L_law (some .boolean) xs Ln call 666 [u0, u1, u2, u3] [.int (xs i0.toNatClampNeg), .int i2, .int i3, .int i4, v5, .int i6] w r := Ev.nxt rfl (by exact (X_sld hi))
set_option maxRecDepth 20000 in
theorem S_L_law_666 (h : isObj w k4 11 = true) : Ev T_L_law (some .boolean) xs Ln call 666 [u0, u1, u2, u3] [.int i0, .int i1, .int i2, .int i3, .ref k4, .int i5] w r = aft T_L_law (some .boolean) xs Ln call 669 [u0, u1, u2, u3] [.int i5] r (call 215 [.ref k4, .int i3, .int i2, .int i1, .int i0] w) := Ev.cl (vv := true) (k := 215) (n := 5) (nx := 669) rfl rfl (Nat.le_of_ble_eq_true rfl) (by simp [catS, Value.category]) rfl (Or.inr h)
set_option maxRecDepth 20000 in
theorem S_L_law_669 : Ev T_L_law (some .boolean) xs Ln call 669 [u0, u1, u2, u3] [.int i0, .int i1] w r = if i1 = i0 then Ev T_L_law (some .boolean) xs Ln call 1785 [u0, u1, u2, u3] [] w r else Ev T_L_law (some .boolean) xs Ln call 672 [u0, u1, u2, u3] [] w r := Ev.ifc rfl (by exact iteB)
set_option maxRecDepth 20000 in
theorem S_L_law_672 : Ev T_L_law (some .boolean) xs Ln call 672 [u0, u1, u2, u3] [] w r = Ev T_L_law (some .boolean) xs Ln call 673 [u0, u1, u2, u3] [.int 0] w r := Ev.nxt rfl rfl
set_option maxRecDepth 20000 in
theorem S_L_law_673 (h : okR (some .boolean) (.int i0) = true) : Ev T_L_law (some .boolean) xs Ln call 673 [u0, u1, u2, u3] [.int i0] w r = (r = (w, some (.int i0))) := Ev.rt rfl (by exact if_pos h)
set_option maxRecDepth 20000 in
theorem S_L_law_674 (h : isRf z = true) : Ev T_L_law (some .boolean) xs Ln call 674 [u0, some z, u2, u3] [] w r = Ev T_L_law (some .boolean) xs Ln call 675 [u0, some z, u2, u3] [z] w r := Ev.nxt rfl (by exact (if_pos h))
set_option maxRecDepth 20000 in
theorem S_L_law_675 (h : isRf z = true) : Ev T_L_law (some .boolean) xs Ln call 675 [some z, u1, u2, u3] [v0] w r = Ev T_L_law (some .boolean) xs Ln call 676 [some z, u1, u2, u3] [z, v0] w r := Ev.nxt rfl (by exact (if_pos h))
set_option maxRecDepth 20000 in
theorem S_L_law_676 : Ev T_L_law (some .boolean) xs Ln call 676 [u0, u1, u2, some (.int x)] [v0, v1] w r = Ev T_L_law (some .boolean) xs Ln call 677 [u0, u1, u2, some (.int x)] [.int x, v0, v1] w r := Ev.nxt rfl rfl
set_option maxRecDepth 20000 in
theorem S_L_law_677 : Ev T_L_law (some .boolean) xs Ln call 677 [u0, u1, u2, u3] [.int i0, v1, v2] w r = Ev T_L_law (some .boolean) xs Ln call 678 [u0, u1, u2, u3] [.int 1, .int i0, v1, v2] w r := Ev.nxt rfl rfl
set_option maxRecDepth 20000 in
theorem S_L_law_678 : Ev T_L_law (some .boolean) xs Ln call 678 [u0, u1, u2, u3] [.int i0, .int i1, v2, v3] w r = Ev T_L_law (some .boolean) xs Ln call 679 [u0, u1, u2, u3] [.int (i1 + i0), v2, v3] w r := Ev.nxt rfl rfl
set_option maxRecDepth 20000 in
theorem S_L_law_679 (hi : ¬ (i0 < 0 ∨ Ln ≤ i0.toNatClampNeg)) : Ev T_L_law (some .boolean) xs Ln call 679 [u0, u1, u2, u3] [.int i0, .retAddr 0, v2] w r = Ev T_L_law (some .boolean) xs Ln call 680 [u0, u1, u2, u3] [.int (xs i0.toNatClampNeg), v2] w r := Ev.nxt rfl (by exact (X_sld hi))
set_option maxRecDepth 20000 in
theorem S_L_law_680 (h : isRf z = true) : Ev T_L_law (some .boolean) xs Ln call 680 [some z, u1, u2, u3] [.int i0, v1] w r = Ev T_L_law (some .boolean) xs Ln call 681 [some z, u1, u2, u3] [z, .int i0, v1] w r := Ev.nxt rfl (by exact (if_pos h))
set_option maxRecDepth 20000 in
theorem S_L_law_681 : Ev T_L_law (some .boolean) xs Ln call 681 [u0, u1, u2, some (.int x)] [v0, .int i1, v2] w r = Ev T_L_law (some .boolean) xs Ln call 682 [u0, u1, u2, some (.int x)] [.int x, v0, .int i1, v2] w r := Ev.nxt rfl rfl
set_option maxRecDepth 20000 in
theorem S_L_law_682 : Ev T_L_law (some .boolean) xs Ln call 682 [u0, u1, u2, u3] [.int i0, v1, .int i2, v3] w r = Ev T_L_law (some .boolean) xs Ln call 683 [u0, u1, u2, u3] [.int 2, .int i0, v1, .int i2, v3] w r := Ev.nxt rfl rfl
set_option maxRecDepth 20000 in
theorem S_L_law_683 : Ev T_L_law (some .boolean) xs Ln call 683 [u0, u1, u2, u3] [.int i0, .int i1, v2, .int i3, v4] w r = Ev T_L_law (some .boolean) xs Ln call 684 [u0, u1, u2, u3] [.int (i1 + i0), v2, .int i3, v4] w r := Ev.nxt rfl rfl
set_option maxRecDepth 20000 in
theorem S_L_law_684 (hi : ¬ (i0 < 0 ∨ Ln ≤ i0.toNatClampNeg)) : Ev T_L_law (some .boolean) xs Ln call 684 [u0, u1, u2, u3] [.int i0, .retAddr 0, .int i2, v3] w r = Ev T_L_law (some .boolean) xs Ln call 685 [u0, u1, u2, u3] [.int (xs i0.toNatClampNeg), .int i2, v3] w r := Ev.nxt rfl (by exact (X_sld hi))
set_option maxRecDepth 20000 in
theorem S_L_law_685 (h : isObj w k2 10 = true) : Ev T_L_law (some .boolean) xs Ln call 685 [u0, u1, u2, u3] [.int i0, .int i1, .ref k2] w r = aft T_L_law (some .boolean) xs Ln call 688 [u0, u1, u2, u3] [] r (call 100 [.ref k2, .int i1, .int i0] w) := Ev.cl (vv := true) (k := 100) (n := 3) (nx := 688) rfl rfl (Nat.le_of_ble_eq_true rfl) (by simp [catS, Value.category]) rfl (Or.inr h)
set_option maxRecDepth 20000 in
theorem S_L_law_688 (h : isRf z = true) : Ev T_L_law (some .boolean) xs Ln call 688 [u0, u1, some z, u3] [.int i0] w r = Ev T_L_law (some .boolean) xs Ln call 689 [u0, u1, some z, u3] [z, .int i0] w r := Ev.nxt rfl (by exact (if_pos h))
set_option maxRecDepth 20000 in
theorem S_L_law_689 (h : isRf z = true) : Ev T_L_law (some .boolean) xs Ln call 689 [some z, u1, u2, u3] [v0, .int i1] w r = Ev T_L_law (some .boolean) xs Ln call 690 [some z, u1, u2, u3] [z, v0, .int i1] w r := Ev.nxt rfl (by exact (if_pos h))
set_option maxRecDepth 20000 in
theorem S_L_law_690 : Ev T_L_law (some .boolean) xs Ln call 690 [u0, u1, u2, some (.int x)] [v0, v1, .int i2] w r = Ev T_L_law (some .boolean) xs Ln call 691 [u0, u1, u2, some (.int x)] [.int x, v0, v1, .int i2] w r := Ev.nxt rfl rfl
set_option maxRecDepth 20000 in
theorem S_L_law_691 : Ev T_L_law (some .boolean) xs Ln call 691 [u0, u1, u2, u3] [.int i0, v1, v2, .int i3] w r = Ev T_L_law (some .boolean) xs Ln call 692 [u0, u1, u2, u3] [.int 1, .int i0, v1, v2, .int i3] w r := Ev.nxt rfl rfl
set_option maxRecDepth 20000 in
theorem S_L_law_692 : Ev T_L_law (some .boolean) xs Ln call 692 [u0, u1, u2, u3] [.int i0, .int i1, v2, v3, .int i4] w r = Ev T_L_law (some .boolean) xs Ln call 693 [u0, u1, u2, u3] [.int (i1 + i0), v2, v3, .int i4] w r := Ev.nxt rfl rfl
set_option maxRecDepth 20000 in
theorem S_L_law_693 (hi : ¬ (i0 < 0 ∨ Ln ≤ i0.toNatClampNeg)) : Ev T_L_law (some .boolean) xs Ln call 693 [u0, u1, u2, u3] [.int i0, .retAddr 0, v2, .int i3] w r = Ev T_L_law (some .boolean) xs Ln call 694 [u0, u1, u2, u3] [.int (xs i0.toNatClampNeg), v2, .int i3] w r := Ev.nxt rfl (by exact (X_sld hi))
set_option maxRecDepth 20000 in
theorem S_L_law_694 (h : isRf z = true) : Ev T_L_law (some .boolean) xs Ln call 694 [some z, u1, u2, u3] [.int i0, v1, .int i2] w r = Ev T_L_law (some .boolean) xs Ln call 695 [some z, u1, u2, u3] [z, .int i0, v1, .int i2] w r := Ev.nxt rfl (by exact (if_pos h))
set_option maxRecDepth 20000 in
theorem S_L_law_695 : Ev T_L_law (some .boolean) xs Ln call 695 [u0, u1, u2, some (.int x)] [v0, .int i1, v2, .int i3] w r = Ev T_L_law (some .boolean) xs Ln call 696 [u0, u1, u2, some (.int x)] [.int x, v0, .int i1, v2, .int i3] w r := Ev.nxt rfl rfl
set_option maxRecDepth 20000 in
theorem S_L_law_696 : Ev T_L_law (some .boolean) xs Ln call 696 [u0, u1, u2, u3] [.int i0, v1, .int i2, v3, .int i4] w r = Ev T_L_law (some .boolean) xs Ln call 697 [u0, u1, u2, u3] [.int 2, .int i0, v1, .int i2, v3, .int i4] w r := Ev.nxt rfl rfl
set_option maxRecDepth 20000 in
theorem S_L_law_697 : Ev T_L_law (some .boolean) xs Ln call 697 [u0, u1, u2, u3] [.int i0, .int i1, v2, .int i3, v4, .int i5] w r = Ev T_L_law (some .boolean) xs Ln call 698 [u0, u1, u2, u3] [.int (i1 + i0), v2, .int i3, v4, .int i5] w r := Ev.nxt rfl rfl
set_option maxRecDepth 20000 in
theorem S_L_law_698 (hi : ¬ (i0 < 0 ∨ Ln ≤ i0.toNatClampNeg)) : Ev T_L_law (some .boolean) xs Ln call 698 [u0, u1, u2, u3] [.int i0, .retAddr 0, .int i2, v3, .int i4] w r = Ev T_L_law (some .boolean) xs Ln call 699 [u0, u1, u2, u3] [.int (xs i0.toNatClampNeg), .int i2, v3, .int i4] w r := Ev.nxt rfl (by exact (X_sld hi))
set_option maxRecDepth 20000 in
theorem S_L_law_699 (h : isObj w k2 11 = true) : Ev T_L_law (some .boolean) xs Ln call 699 [u0, u1, u2, u3] [.int i0, .int i1, .ref k2, .int i3] w r = aft T_L_law (some .boolean) xs Ln call 702 [u0, u1, u2, u3] [.int i3] r (call 216 [.ref k2, .int i1, .int i0] w) := Ev.cl (vv := true) (k := 216) (n := 3) (nx := 702) rfl rfl (Nat.le_of_ble_eq_true rfl) (by simp [catS, Value.category]) rfl (Or.inr h)
set_option maxRecDepth 20000 in
theorem S_L_law_702 : Ev T_L_law (some .boolean) xs Ln call 702 [u0, u1, u2, u3] [.int i0, .int i1] w r = if i1 = i0 then Ev T_L_law (some .boolean) xs Ln call 1785 [u0, u1, u2, u3] [] w r else Ev T_L_law (some .boolean) xs Ln call 705 [u0, u1, u2, u3] [] w r := Ev.ifc rfl (by exact iteB)
set_option maxRecDepth 20000 in
theorem S_L_law_705 : Ev T_L_law (some .boolean) xs Ln call 705 [u0, u1, u2, u3] [] w r = Ev T_L_law (some .boolean) xs Ln call 706 [u0, u1, u2, u3] [.int 0] w r := Ev.nxt rfl rfl
set_option maxRecDepth 20000 in
theorem S_L_law_706 (h : okR (some .boolean) (.int i0) = true) : Ev T_L_law (some .boolean) xs Ln call 706 [u0, u1, u2, u3] [.int i0] w r = (r = (w, some (.int i0))) := Ev.rt rfl (by exact if_pos h)
set_option maxRecDepth 20000 in
theorem S_L_law_707 (h : isRf z = true) : Ev T_L_law (some .boolean) xs Ln call 707 [u0, some z, u2, u3] [] w r = Ev T_L_law (some .boolean) xs Ln call 708 [u0, some z, u2, u3] [z] w r := Ev.nxt rfl (by exact (if_pos h))
set_option maxRecDepth 20000 in
theorem S_L_law_708 (h : isRf z = true) : Ev T_L_law (some .boolean) xs Ln call 708 [some z, u1, u2, u3] [v0] w r = Ev T_L_law (some .boolean) xs Ln call 709 [some z, u1, u2, u3] [z, v0] w r := Ev.nxt rfl (by exact (if_pos h))
set_option maxRecDepth 20000 in
theorem S_L_law_709 : Ev T_L_law (some .boolean) xs Ln call 709 [u0, u1, u2, some (.int x)] [v0, v1] w r = Ev T_L_law (some .boolean) xs Ln call 710 [u0, u1, u2, some (.int x)] [.int x, v0, v1] w r := Ev.nxt rfl rfl
set_option maxRecDepth 20000 in
theorem S_L_law_710 : Ev T_L_law (some .boolean) xs Ln call 710 [u0, u1, u2, u3] [.int i0, v1, v2] w r = Ev T_L_law (some .boolean) xs Ln call 711 [u0, u1, u2, u3] [.int 1, .int i0, v1, v2] w r := Ev.nxt rfl rfl
set_option maxRecDepth 20000 in
theorem S_L_law_711 : Ev T_L_law (some .boolean) xs Ln call 711 [u0, u1, u2, u3] [.int i0, .int i1, v2, v3] w r = Ev T_L_law (some .boolean) xs Ln call 712 [u0, u1, u2, u3] [.int (i1 + i0), v2, v3] w r := Ev.nxt rfl rfl
set_option maxRecDepth 20000 in
theorem S_L_law_712 (hi : ¬ (i0 < 0 ∨ Ln ≤ i0.toNatClampNeg)) : Ev T_L_law (some .boolean) xs Ln call 712 [u0, u1, u2, u3] [.int i0, .retAddr 0, v2] w r = Ev T_L_law (some .boolean) xs Ln call 713 [u0, u1, u2, u3] [.int (xs i0.toNatClampNeg), v2] w r := Ev.nxt rfl (by exact (X_sld hi))
set_option maxRecDepth 20000 in
theorem S_L_law_713 (h : isObj w k1 10 = true) : Ev T_L_law (some .boolean) xs Ln call 713 [u0, u1, u2, u3] [.int i0, .ref k1] w r = aft T_L_law (some .boolean) xs Ln call 716 [u0, u1, u2, u3] [] r (call 101 [.ref k1, .int i0] w) := Ev.cl (vv := true) (k := 101) (n := 2) (nx := 716) rfl rfl (Nat.le_of_ble_eq_true rfl) (by simp [catS, Value.category]) rfl (Or.inr h)
set_option maxRecDepth 20000 in
theorem S_L_law_716 (h : isRf z = true) : Ev T_L_law (some .boolean) xs Ln call 716 [u0, u1, some z, u3] [.int i0] w r = Ev T_L_law (some .boolean) xs Ln call 717 [u0, u1, some z, u3] [z, .int i0] w r := Ev.nxt rfl (by exact (if_pos h))
set_option maxRecDepth 20000 in
theorem S_L_law_717 (h : isRf z = true) : Ev T_L_law (some .boolean) xs Ln call 717 [some z, u1, u2, u3] [v0, .int i1] w r = Ev T_L_law (some .boolean) xs Ln call 718 [some z, u1, u2, u3] [z, v0, .int i1] w r := Ev.nxt rfl (by exact (if_pos h))
set_option maxRecDepth 20000 in
theorem S_L_law_718 : Ev T_L_law (some .boolean) xs Ln call 718 [u0, u1, u2, some (.int x)] [v0, v1, .int i2] w r = Ev T_L_law (some .boolean) xs Ln call 719 [u0, u1, u2, some (.int x)] [.int x, v0, v1, .int i2] w r := Ev.nxt rfl rfl
set_option maxRecDepth 20000 in
theorem S_L_law_719 : Ev T_L_law (some .boolean) xs Ln call 719 [u0, u1, u2, u3] [.int i0, v1, v2, .int i3] w r = Ev T_L_law (some .boolean) xs Ln call 720 [u0, u1, u2, u3] [.int 1, .int i0, v1, v2, .int i3] w r := Ev.nxt rfl rfl
set_option maxRecDepth 20000 in
theorem S_L_law_720 : Ev T_L_law (some .boolean) xs Ln call 720 [u0, u1, u2, u3] [.int i0, .int i1, v2, v3, .int i4] w r = Ev T_L_law (some .boolean) xs Ln call 721 [u0, u1, u2, u3] [.int (i1 + i0), v2, v3, .int i4] w r := Ev.nxt rfl rfl
set_option maxRecDepth 20000 in
theorem S_L_law_721 (hi : ¬ (i0 < 0 ∨ Ln ≤ i0.toNatClampNeg)) : Ev T_L_law (some .boolean) xs Ln call 721 [u0, u1, u2, u3] [.int i0, .retAddr 0, v2, .int i3] w r = Ev T_L_law (some .boolean) xs Ln call 722 [u0, u1, u2, u3] [.int (xs i0.toNatClampNeg), v2, .int i3] w r := Ev.nxt rfl (by exact (X_sld hi))
set_option maxRecDepth 20000 in
theorem S_L_law_722 (h : isObj w k1 11 = true) : Ev T_L_law (some .boolean) xs Ln call 722 [u0, u1, u2, u3] [.int i0, .ref k1, .int i2] w r = aft T_L_law (some .boolean) xs Ln call 725 [u0, u1, u2, u3] [.int i2] r (call 220 [.ref k1, .int i0] w) := Ev.cl (vv := true) (k := 220) (n := 2) (nx := 725) rfl rfl (Nat.le_of_ble_eq_true rfl) (by simp [catS, Value.category]) rfl (Or.inr h)
set_option maxRecDepth 20000 in
theorem S_L_law_725 : Ev T_L_law (some .boolean) xs Ln call 725 [u0, u1, u2, u3] [.int i0, .int i1] w r = if i1 = i0 then Ev T_L_law (some .boolean) xs Ln call 1785 [u0, u1, u2, u3] [] w r else Ev T_L_law (some .boolean) xs Ln call 728 [u0, u1, u2, u3] [] w r := Ev.ifc rfl (by exact iteB)
set_option maxRecDepth 20000 in
theorem S_L_law_728 : Ev T_L_law (some .boolean) xs Ln call 728 [u0, u1, u2, u3] [] w r = Ev T_L_law (some .boolean) xs Ln call 729 [u0, u1, u2, u3] [.int 0] w r := Ev.nxt rfl rfl
set_option maxRecDepth 20000 in
theorem S_L_law_729 (h : okR (some .boolean) (.int i0) = true) : Ev T_L_law (some .boolean) xs Ln call 729 [u0, u1, u2, u3] [.int i0] w r = (r = (w, some (.int i0))) := Ev.rt rfl (by exact if_pos h)
set_option maxRecDepth 20000 in
theorem S_L_law_730 (h : isRf z = true) : Ev T_L_law (some .boolean) xs Ln call 730 [u0, some z, u2, u3] [] w r = Ev T_L_law (some .boolean) xs Ln call 731 [u0, some z, u2, u3] [z] w r := Ev.nxt rfl (by exact (if_pos h))
set_option maxRecDepth 20000 in
theorem S_L_law_731 (h : isObj w k0 10 = true) : Ev T_L_law (some .boolean) xs Ln call 731 [u0, u1, u2, u3] [.ref k0] w r = aft T_L_law (some .boolean) xs Ln call 734 [u0, u1, u2, u3] [] r (call 102 [.ref k0] w) := Ev.cl (vv := true) (k := 102) (n := 1) (nx := 734) rfl rfl (Nat.le_of_ble_eq_true rfl) (by simp [catS, Value.category]) rfl (Or.inr h)
set_option maxRecDepth 20000 in
theorem S_L_law_734 (h : isRf z = true) : Ev T_L_law (some .boolean) xs Ln call 734 [u0, u1, some z, u3] [.int i0] w r = Ev T_L_law (some .boolean) xs Ln call 735 [u0, u1, some z, u3] [z, .int i0] w r := Ev.nxt rfl (by exact (if_pos h))
set_option maxRecDepth 20000 in
theorem S_L_law_735 (h : isObj w k0 11 = true) : Ev T_L_law (some .boolean) xs Ln call 735 [u0, u1, u2, u3] [.ref k0, .int i1] w r = aft T_L_law (some .boolean) xs Ln call 738 [u0, u1, u2, u3] [.int i1] r (call 221 [.ref k0] w) := Ev.cl (vv := true) (k := 221) (n := 1) (nx := 738) rfl rfl (Nat.le_of_ble_eq_true rfl) (by simp [catS, Value.category]) rfl (Or.inr h)
set_option maxRecDepth 20000 in
theorem S_L_law_738 : Ev T_L_law (some .boolean) xs Ln call 738 [u0, u1, u2, u3] [.int i0, .int i1] w r = if i1 = i0 then Ev T_L_law (some .boolean) xs Ln call 1785 [u0, u1, u2, u3] [] w r else Ev T_L_law (some .boolean) xs Ln call 741 [u0, u1, u2, u3] [] w r := Ev.ifc rfl (by exact iteB)
set_option maxRecDepth 20000 in
theorem S_L_law_741 : Ev T_L_law (some .boolean) xs Ln call 741 [u0, u1, u2, u3] [] w r = Ev T_L_law (some .boolean) xs Ln call 742 [u0, u1, u2, u3] [.int 0] w r := Ev.nxt rfl rfl
set_option maxRecDepth 20000 in
theorem S_L_law_742 (h : okR (some .boolean) (.int i0) = true) : Ev T_L_law (some .boolean) xs Ln call 742 [u0, u1, u2, u3] [.int i0] w r = (r = (w, some (.int i0))) := Ev.rt rfl (by exact if_pos h)
set_option maxRecDepth 20000 in
theorem S_L_law_743 (h : isRf z = true) : Ev T_L_law (some .boolean) xs Ln call 743 [u0, some z, u2, u3] [] w r = Ev T_L_law (some .boolean) xs Ln call 744 [u0, some z, u2, u3] [z] w r := Ev.nxt rfl (by exact (if_pos h))
set_option maxRecDepth 20000 in
theorem S_L_law_744 (h : isRf z = true) : Ev T_L_law (some .boolean) xs Ln call 744 [some z, u1, u2, u3] [v0] w r = Ev T_L_law (some .boolean) xs Ln call 745 [some z, u1, u2, u3] [z, v0] w r := Ev.nxt rfl (by exact (if_pos h))
set_option maxRecDepth 20000 in
theorem S_L_law_745 : Ev T_L_law (some .boolean) xs Ln call 745 [u0, u1, u2, some (.int x)] [v0, v1] w r = Ev T_L_law (some .boolean) xs Ln call 746 [u0, u1, u2, some (.int x)] [.int x, v0, v1] w r := Ev.nxt rfl rfl
set_option maxRecDepth 20000 in
theorem S_L_law_746 : Ev T_L_law (some .boolean) xs Ln call 746 [u0, u1, u2, u3] [.int i0, v1, v2] w r = Ev T_L_law (some .boolean) xs Ln call 747 [u0, u1, u2, u3] [.int 1, .int i0, v1, v2] w r := Ev.nxt rfl rfl
set_option maxRecDepth 20000 in
theorem S_L_law_747 : Ev T_L_law (some .boolean) xs Ln call 747 [u0, u1, u2, u3] [.int i0, .int i1, v2, v3] w r = Ev T_L_law (some .boolean) xs Ln call 748 [u0, u1, u2, u3] [.int (i1 + i0), v2, v3] w r := Ev.nxt rfl rfl
set_option maxRecDepth 20000 in
theorem S_L_law_748 (hi : ¬ (i0 < 0 ∨ Ln ≤ i0.toNatClampNeg)) : Ev T_L_law (some .boolean) xs Ln call 748 [u0, u1, u2, u3] [.int i0, .retAddr 0, v2] w r = Ev T_L_law (some .boolean) xs Ln call 749 [u0, u1, u2, u3] [.int (xs i0.toNatClampNeg), v2] w r := Ev.nxt rfl (by exact (X_sld hi))
set_option maxRecDepth 20000 in
theorem S_L_law_749 (h : isRf z = true) : Ev T_L_law (some .boolean) xs Ln call 749 [some z, u1, u2, u3] [.int i0, v1] w r = Ev T_L_law (some .boolean) xs Ln call 750 [some z, u1, u2, u3] [z, .int i0, v1] w r := Ev.nxt rfl (by exact (if_pos h))
set_option maxRecDepth 20000 in
theorem S_L_law_750 : Ev T_L_law (some .boolean) xs Ln call 750 [u0, u1, u2, some (.int x)] [v0, .int i1, v2] w r = Ev T_L_law (some .boolean) xs Ln call 751 [u0, u1, u2, some (.int x)] [.int x, v0, .int i1, v2] w r := Ev.nxt rfl rfl
set_option maxRecDepth 20000 in
theorem S_L_law_751 : Ev T_L_law (some .boolean) xs Ln call 751 [u0, u1, u2, u3] [.int i0, v1, .int i2, v3] w r = Ev T_L_law (some .boolean) xs Ln call 752 [u0, u1, u2, u3] [.int 2, .int i0, v1, .int i2, v3] w r := Ev.nxt rfl rfl
set_option maxRecDepth 20000 in
theorem S_L_law_752 : Ev T_L_law (some .boolean) xs Ln call 752 [u0, u1, u2, u3] [.int i0, .int i1, v2, .int i3, v4] w r = Ev T_L_law (some .boolean) xs Ln call 753 [u0, u1, u2, u3] [.int (i1 + i0), v2, .int i3, v4] w r := Ev.nxt rfl rfl
set_option maxRecDepth 20000 in
theorem S_L_law_753 (hi : ¬ (i0 < 0 ∨ Ln ≤ i0.toNatClampNeg)) : Ev T_L_law (some .boolean) xs Ln call 753 [u0, u1, u2, u3] [.int i0, .retAddr 0, .int i2, v3] w r = Ev T_L_law (some .boolean) xs Ln call 754 [u0, u1, u2, u3] [.int (xs i0.toNatClampNeg), .int i2, v3] w r := Ev.nxt rfl (by exact (X_sld hi))
set_option maxRecDepth 20000 in
theorem S_L_law_754 (h : isRf z = true) : Ev T_L_law (some .boolean) xs Ln call 754 [some z, u1, u2, u3] [.int i0, .int i1, v2] w r = Ev T_L_law (some .boolean) xs Ln call 755 [some z, u1, u2, u3] [z, .int i0, .int i1, v2] w r := Ev.nxt rfl (by exact (if_pos h))
set_option maxRecDepth 20000 in
theorem S_L_law_755 : Ev T_L_law (some .boolean) xs Ln call 755 [u0, u1, u2, some (.int x)] [v0, .int i1, .int i2, v3] w r = Ev T_L_law (some .boolean) xs Ln call 756 [u0, u1, u2, some (.int x)] [.int x, v0, .int i1, .int i2, v3] w r := Ev.nxt rfl rfl
set_option maxRecDepth 20000 in
theorem S_L_law_756 : Ev T_L_law (some .boolean) xs Ln call 756 [u0, u1, u2, u3] [.int i0, v1, .int i2, .int i3, v4] w r = Ev T_L_law (some .boolean) xs Ln call 757 [u0, u1, u2, u3] [.int 3, .int i0, v1, .int i2, .int i3, v4] w r := Ev.nxt rfl rfl
set_option maxRecDepth 20000 in
theorem S_L_law_757 : Ev T_L_law (some .boolean) xs Ln call 757 [u0, u1, u2, u3] [.int i0, .int i1, v2, .int i3, .int i4, v5] w r = Ev T_L_law (some .boolean) xs Ln call 758 [u0, u1, u2, u3] [.int (i1 + i0), v2, .int i3, .int i4, v5] w r := Ev.nxt rfl rfl
set_option maxRecDepth 20000 in
theorem S_L_law_758 (hi : ¬ (i0 < 0 ∨ Ln ≤ i0.toNatClampNeg)) : Ev T_L_law (some .boolean) xs Ln call 758 [u0, u1, u2, u3] [.int i0, .retAddr 0, .int i2, .int i3, v4] w r = Ev T_L_law (some .boolean) xs Ln call 759 [u0, u1, u2, u3] [.int (xs i0.toNatClampNeg), .int i2, .int i3, v4] w r := Ev.nxt rfl (by exact (X_sld hi))
set_option maxRecDepth 20000 in
theorem S_L_law_759 (h : isObj w k3 10 = true) : Ev T_L_law (some .boolean) xs Ln call 759 [u0, u1, u2, u3] [.int i0, .int i1, .int i2, .ref k3] w r = aft T_L_law (some .boolean) xs Ln call 762 [u0, u1, u2, u3] [] r (call 103 [.ref k3, .int i2, .int i1, .int i0] w) := Ev.cl (vv := true) (k := 103) (n := 4) (nx := 762) rfl rfl (Nat.le_of_ble_eq_true rfl) (by simp [catS, Value.category]) rfl (Or.inr h)
set_option maxRecDepth 20000 in
theorem S_L_law_762 (h : isRf z = true) : Ev T_L_law (some .boolean) xs Ln call 762 [u0, u1, some z, u3] [.int i0] w r = Ev T_L_law (some .boolean) xs Ln call 763 [u0, u1, some z, u3] [z, .int i0] w r := Ev.nxt rfl (by exact (if_pos h))
set_option maxRecDepth 20000 in
theorem S_L_law_763 (h : isRf z = true) : Ev T_L_law (some .boolean) xs Ln call 763 [some z, u1, u2, u3] [v0, .int i1] w r = Ev T_L_law (some .boolean) xs Ln call 764 [some z, u1, u2, u3] [z, v0, .int i1] w r := Ev.nxt rfl (by exact (if_pos h))
set_option maxRecDepth 20000 in
theorem S_L_law_764 : Ev T_L_law (some .boolean) xs Ln call 764 [u0, u1, u2, some (.int x)] [v0, v1, .int i2] w r = Ev T_L_law (some .boolean) xs Ln call 765 [u0, u1, u2, some (.int x)] [.int x, v0, v1, .int i2] w r := Ev.nxt rfl rfl
set_option maxRecDepth 20000 in
theorem S_L_law_765 : Ev T_L_law (some .boolean) xs Ln call 765 [u0, u1, u2, u3] [.int i0, v1, v2, .int i3] w r = Ev T_L_law (some .boolean) xs Ln call 766 [u0, u1, u2, u3] [.int 1, .int i0, v1, v2, .int i3] w r := Ev.nxt rfl rfl
set_option maxRecDepth 20000 in
theorem S_L_law_766 : Ev T_L_law (some .boolean) xs Ln call 766 [u0, u1, u2, u3] [.int i0, .int i1, v2, v3, .int i4] w r = Ev T_L_law (some .boolean) xs Ln call 767 [u0, u1, u2, u3] [.int (i1 + i0), v2, v3, .int i4] w r := Ev.nxt rfl rfl
set_option maxRecDepth 20000 in
theorem S_L_law_767 (hi : ¬ (i0 < 0 ∨ Ln ≤ i0.toNatClampNeg)) : Ev T_L_law (some .boolean) xs Ln call 767 [u0, u1, u2, u3] [.int i0, .retAddr 0, v2, .int i3] w r = Ev T_L_law (some .boolean) xs Ln call 768 [u0, u1, u2, u3] [.int (xs i0.toNatClampNeg), v2, .int i3] w r := Ev.nxt rfl (by exact (X_sld hi))
set_option maxRecDepth 20000 in
theorem S_L_law_768 (h : isRf z = true) : Ev T_L_law (some .boolean) xs Ln call 768 [some z, u1, u2, u3] [.int i0, v1, .int i2] w r = Ev T_L_law (some .boolean) xs Ln call 769 [some z, u1, u2, u3] [z, .int i0, v1, .int i2] w r := Ev.nxt rfl (by exact (if_pos h))
set_option maxRecDepth 20000 in
theorem S_L_law_769 : Ev T_L_law (some .boolean) xs Ln call 769 [u0, u1, u2, some (.int x)] [v0, .int i1, v2, .int i3] w r = Ev T_L_law (some .boolean) xs Ln call 770 [u0, u1, u2, some (.int x)] [.int x, v0, .int i1, v2, .int i3] w r := Ev.nxt rfl rfl
set_option maxRecDepth 20000 in
theorem S_L_law_770 : Ev T_L_law (some .boolean) xs Ln call 770 [u0, u1, u2, u3] [.int i0, v1, .int i2, v3, .int i4] w r = Ev T_L_law (some .boolean) xs Ln call 771 [u0, u1, u2, u3] [.int 2, .int i0, v1, .int i2, v3, .int i4] w r := Ev.nxt rfl rfl
set_option maxRecDepth 20000 in
theorem S_L_law_771 : Ev T_L_law (some .boolean) xs Ln call 771 [u0, u1, u2, u3] [.int i0, .int i1, v2, .int i3, v4, .int i5] w r = Ev T_L_law (some .boolean) xs Ln call 772 [u0, u1, u2, u3] [.int (i1 + i0), v2, .int i3, v4, .int i5] w r := Ev.nxt rfl rfl
set_option maxRecDepth 20000 in
theorem S_L_law_772 (hi : ¬ (i0 < 0 ∨ Ln ≤ i0.toNatClampNeg)) : Ev T_L_law (some .boolean) xs Ln call 772 [u0, u1, u2, u3] [.int i0, .retAddr 0, .int i2, v3, .int i4] w r = Ev T_L_law (some .boolean) xs Ln call 773 [u0, u1, u2, u3] [.int (xs i0.toNatClampNeg), .int i2, v3, .int i4] w r := Ev.nxt rfl (by exact (X_sld hi))
set_option maxRecDepth 20000 in
theorem S_L_law_773 (h : isRf z = true) : Ev T_L_law (some .boolean) xs Ln call 773 [some z, u1, u2, u3] [.int i0, .int i1, v2, .int i3] w r = Ev T_L_law (some .boolean) xs Ln call 774 [some z, u1, u2, u3] [z, .int i0, .int i1, v2, .int i3] w r := Ev.nxt rfl (by exact (if_pos h))
set_option maxRecDepth 20000 in
theorem S_L_law_774 : Ev T_L_law (some .boolean) xs Ln call 774 [u0, u1, u2, some (.int x)] [v0, .int i1, .int i2, v3, .int i4] w r = Ev T_L_law (some .boolean) xs Ln call 775 [u0, u1, u2, some (.int x)] [.int x, v0, .int i1, .int i2, v3, .int i4] w r := Ev.nxt rfl rfl
set_option maxRecDepth 20000 in
theorem S_L_law_775 : Ev T_L_law (some .boolean) xs Ln call 775 [u0, u1, u2, u3] [.int i0, v1, .int i2, .int i3, v4, .int i5] w r = Ev T_L_law (some .boolean) xs Ln call 776 [u0, u1, u2, u3] [.int 3, .int i0, v1, .int i2, .int i3, v4, .int i5] w r := Ev.nxt rfl rfl
set_option maxRecDepth 20000 in
theorem S_L_law_776 : Ev T_L_law (some .boolean) xs Ln call 776 [u0, u1, u2, u3] [.int i0, .int i1, v2, .int i3, .int i4, v5, .int i6] w r = Ev T_L_law (some .boolean) xs Ln call 777 [u0, u1, u2, u3] [.int (i1 + i0), v2, .int i3, .int i4, v5, .int i6] w r := Ev.nxt rfl rfl
set_option maxRecDepth 20000 in
theorem S_L_law_777 (hi : ¬ (i0 < 0 ∨ Ln ≤ i0.toNatClampNeg)) : Ev T_L_law (some .boolean) xs Ln call 777 [u0, u1, u2, u3] [.int i0, .retAddr 0, .int i2, .int i3, v4, .int i5] w r = Ev T_L_law (some .boolean) xs Ln call 778 [u0, u1, u2, u3] [.int (xs i0.toNatClampNeg), .int i2, .int i3, v4, .int i5] w r := Ev.nxt rfl (by exact (X_sld hi))
set_option maxRecDepth 20000 in
theorem S_L_law_778 (h : isObj w k3 11 = true) : Ev T_L_law (some .boolean) xs Ln call 778 [u0, u1, u2, u3] [.int i0, .int i1, .int i2, .ref k3, .int i4] w r = aft T_L_law (some .boolean) xs Ln call 781 [u0, u1, u2, u3] [.int i4] r (call 223 [.ref k3, .int i2, .int i1, .int i0] w) := Ev.cl (vv := true) (k := 223) (n := 4) (nx := 781) rfl rfl (Nat.le_of_ble_eq_true rfl) (by simp [catS, Value.category]) rfl (Or.inr h)
set_option maxRecDepth 20000 in
theorem S_L_law_781 : Ev T_L_law (some .boolean) xs Ln call 781 [u0, u1, u2, u3] [.int i0, .int i1] w r = if i1 = i0 then Ev T_L_law (some .boolean) xs Ln call 1785 [u0, u1, u2, u3] [] w r else Ev T_L_law (some .boolean) xs Ln call 784 [u0, u1, u2, u3] [] w r := Ev.ifc rfl (by exact iteB)
set_option maxRecDepth 20000 in
theorem S_L_law_784 : Ev T_L_law (some .boolean) xs Ln call 784 [u0, u1, u2, u3] [] w r = Ev T_L_law (some .boolean) xs Ln call 785 [u0, u1, u2, u3] [.int 0] w r := Ev.nxt rfl rfl
set_option maxRecDepth 20000 in
theorem S_L_law_785 (h : okR (some .boolean) (.int i0) = true) : Ev T_L_law (some .boolean) xs Ln call 785 [u0, u1, u2, u3] [.int i0] w r = (r = (w, some (.int i0))) := Ev.rt rfl (by exact if_pos h)
set_option maxRecDepth 20000 in
theorem S_L_law_786 (h : isRf z = true) : Ev T_L_law (some .boolean) xs Ln call 786 [u0, some z, u2, u3] [] w r = Ev T_L_law (some .boolean) xs Ln call 787 [u0, some z, u2, u3] [z] w r := Ev.nxt rfl (by exact (if_pos h))
set_option maxRecDepth 20000 in
theorem S_L_law_787 (h : isRf z = true) : Ev T_L_law (some .boolean) xs Ln call 787 [some z, u1, u2, u3] [v0] w r = Ev T_L_law (some .boolean) xs Ln call 788 [some z, u1, u2, u3] [z, v0] w r := Ev.nxt rfl (by exact (if_pos h))
set_option maxRecDepth 20000 in
theorem S_L_law_788 : Ev T_L_law (some .boolean) xs Ln call 788 [u0, u1, u2, some (.int x)] [v0, v1] w r = Ev T_L_law (some .boolean) xs Ln call 789 [u0, u1, u2, some (.int x)] [.int x, v0, v1] w r := Ev.nxt rfl rfl
set_option maxRecDepth 20000 in
theorem S_L_law_789 : Ev T_L_law (some .boolean) xs Ln call 789 [u0, u1, u2, u3] [.int i0, v1, v2] w r = Ev T_L_law (some .boolean) xs Ln call 790 [u0, u1, u2, u3] [.int 1, .int i0, v1, v2] w r := Ev.nxt rfl rfl
set_option maxRecDepth 20000 in
theorem S_L_law_790 : Ev T_L_law (some .boolean) xs Ln call 790 [u0, u1, u2, u3] [.int i0, .int i1, v2, v3] w r = Ev T_L_law (some .boolean) xs Ln call 791 [u0, u1, u2, u3] [.int (i1 + i0), v2, v3] w r := Ev.nxt rfl rfl
set_option maxRecDepth 20000 in
theorem S_L_law_791 (hi : ¬ (i0 < 0 ∨ Ln ≤ i0.toNatClampNeg)) : Ev T_L_law (some .boolean) xs Ln call 791 [u0, u1, u2, u3] [.int i0, .retAddr 0, v2] w r = Ev T_L_law (some .boolean) xs Ln call 792 [u0, u1, u2, u3] [.int (xs i0.toNatClampNeg), v2] w r := Ev.nxt rfl (by exact (X_sld hi))
set_option maxRecDepth 20000 in
theorem S_L_law_792 (h : isObj w k1 10 = true) : Ev T_L_law (some .boolean) xs Ln call 792 [u0, u1, u2, u3] [.int i0, .ref k1] w r = aft T_L_law (some .boolean) xs Ln call 795 [u0, u1, u2, u3] [] r (call 104 [.ref k1, .int i0] w) := Ev.cl (vv := true) (k := 104) (n := 2) (nx := 795) rfl rfl (Nat.le_of_ble_eq_true rfl) (by simp [catS, Value.category]) rfl (Or.inr h)
set_option maxRecDepth 20000 in
theorem S_L_law_795 (h : isRf z = true) : Ev T_L_law (some .boolean) xs Ln call 795 [u0, u1, some z, u3] [.int i0] w r = Ev T_L_law (some .boolean) xs Ln call 796 [u0, u1, some z, u3] [z, .int i0] w r := Ev.nxt rfl (by exact (if_pos h))
set_option maxRecDepth 20000 in
theorem S_L_law_796 (h : isRf z = true) : Ev T_L_law (some .boolean) xs Ln call 796 [some z, u1, u2, u3] [v0, .int i1] w r = Ev T_L_law (some .boolean) xs Ln call 797 [some z, u1, u2, u3] [z, v0, .int i1] w r := Ev.nxt rfl (by exact (if_pos h))
set_option maxRecDepth 20000 in
theorem S_L_law_797 : Ev T_L_law (some .boolean) xs Ln call 797 [u0, u1, u2, some (.int x)] [v0, v1, .int i2] w r = Ev T_L_law (some .boolean) xs Ln call 798 [u0, u1, u2, some (.int x)] [.int x, v0, v1, .int i2] w r := Ev.nxt rfl rfl
set_option maxRecDepth 20000 in
theorem S_L_law_798 : Ev T_L_law (some .boolean) xs Ln call 798 [u0, u1, u2, u3] [.int i0, v1, v2, .int i3] w r = Ev T_L_law (some .boolean) xs Ln call 799 [u0, u1, u2, u3] [.int 1, .int i0, v1, v2, .int i3] w r := Ev.nxt rfl rfl
set_option maxRecDepth 20000 in
theorem S_L_law_799 : Ev T_L_law (some .boolean) xs Ln call 799 [u0, u1, u2, u3] [.int i0, .int i1, v2, v3, .int i4] w r = Ev T_L_law (some .boolean) xs Ln call 800 [u0, u1, u2, u3] [.int (i1 + i0), v2, v3, .int i4] w r := Ev.nxt rfl rfl
set_option maxRecDepth 20000 in
theorem S_L_law_800 (hi : ¬ (i0 < 0 ∨ Ln ≤ i0.toNatClampNeg)) : Ev T_L_law (some .boolean) xs Ln call 800 [u0, u1, u2, u3] [.int i0, .retAddr 0, v2, .int i3] w r = Ev T_L_law (some .boolean) xs Ln call 801 [u0, u1, u2, u3] [.int (xs i0.toNatClampNeg), v2, .int i3] w r := Ev.nxt rfl (by exact (X_sld hi))
set_option maxRecDepth 20000 in
theorem S_L_law_801 (h : isObj w k1 11 = true) : Ev T_L_law (some .boolean) xs Ln call 801 [u0, u1, u2, u3] [.int i0, .ref k1, .int i2] w r = aft T_L_law (some .boolean) xs Ln call 804 [u0, u1, u2, u3] [.int i2] r (call 224 [.ref k1, .int i0] w) := Ev.cl (vv := true) (k := 224) (n := 2) (nx := 804) rfl rfl (Nat.le_of_ble_eq_true rfl) (by simp [catS, Value.category]) rfl (Or.inr h)
set_option maxRecDepth 20000 in
theorem S_L_law_804 : Ev T_L_law (some .boolean) xs Ln call 804 [u0, u1, u2, u3] [.int i0, .int i1] w r = if i1 = i0 then Ev T_L_law (some .boolean) xs Ln call 1785 [u0, u1, u2, u3] [] w r else Ev T_L_law (some .boolean) xs Ln call 807 [u0, u1, u2, u3] [] w r := Ev.ifc rfl (by exact iteB)
set_option maxRecDepth 20000 in
theorem S_L_law_807 : Ev T_L_law (some .boolean) xs Ln call 807 [u0, u1, u2, u3] [] w r = Ev T_L_law (some .boolean) xs Ln call 808 [u0, u1, u2, u3] [.int 0] w r := Ev.nxt rfl rfl
set_option maxRecDepth 20000 in
theorem S_L_law_808 (h : okR (some .boolean) (.int i0) = true) : Ev T_L_law (some .boolean) xs Ln call 808 [u0, u1, u2, u3] [.int i0] w r = (r = (w, some (.int i0))) := Ev.rt rfl (by exact if_pos h)
set_option maxRecDepth 20000 in
theorem S_L_law_809 (h : isRf z = true) : Ev T_L_law (some .boolean) xs Ln call 809 [u0, some z, u2, u3] [] w r = Ev T_L_law (some .boolean) xs Ln call 810 [u0, some z, u2, u3] [z] w r := Ev.nxt rfl (by exact (if_pos h))
set_option maxRecDepth 20000 in
theorem S_L_law_810 (h : isRf z = true) : Ev T_L_law (some .boolean) xs Ln call 810 [some z, u1, u2, u3] [v0] w r = Ev T_L_law (some .boolean) xs Ln call 811 [some z, u1, u2, u3] [z, v0] w r := Ev.nxt rfl (by exact (if_pos h))
set_option maxRecDepth 20000 in
theorem S_L_law_811 : Ev T_L_law (some .boolean) xs Ln call 811 [u0, u1, u2, some (.int x)] [v0, v1] w r = Ev T_L_law (some .boolean) xs Ln call 812 [u0, u1, u2, some (.int x)] [.int x, v0, v1] w r := Ev.nxt rfl rfl
set_option maxRecDepth 20000 in
theorem S_L_law_812 : Ev T_L_law (some .boolean) xs Ln call 812 [u0, u1, u2, u3] [.int i0, v1, v2] w r = Ev T_L_law (some .boolean) xs Ln call 813 [u0, u1, u2, u3] [.int 1, .int i0, v1, v2] w r := Ev.nxt rfl rfl
set_option maxRecDepth 20000 in
theorem S_L_law_813 : Ev T_L_law (some .boolean) xs Ln call 813 [u0, u1, u2, u3] [.int i0, .int i1, v2, v3] w r = Ev T_L_law (some .boolean) xs Ln call 814 [u0, u1, u2, u3] [.int (i1 + i0), v2, v3] w r := Ev.nxt rfl rfl
set_option maxRecDepth 20000 in
theorem S_L_law_814 (hi : ¬ (i0 < 0 ∨ Ln ≤ i0.toNatClampNeg)) : Ev T_L_law (some .boolean) xs Ln call 814 [u0, u1, u2, u3] [.int i0, .retAddr 0, v2] w r = Ev T_L_law (some .boolean) xs Ln call 815 [u0, u1, u2, u3] [.int (xs i0.toNatClampNeg), v2] w r := Ev.nxt rfl (by exact (X_sld hi))
set_option maxRecDepth 20000 in
theorem S_L_law_815 (h : isRf z = true) : Ev T_L_law (some .boolean) xs Ln call 815 [some z, u1, u2, u3] [.int i0, v1] w r = Ev T_L_law (some .boolean) xs Ln call 816 [some z, u1, u2, u3] [z, .int i0, v1] w r := Ev.nxt rfl (by exact (if_pos h))
set_option maxRecDepth 20000 in
theorem S_L_law_816 : Ev T_L_law (some .boolean) xs Ln call 816 [u0, u1, u2, some (.int x)] [v0, .int i1, v2] w r = Ev T_L_law (some .boolean) xs Ln call 817 [u0, u1, u2, some (.int x)] [.int x, v0, .int i1, v2] w r := Ev.nxt rfl rfl
set_option maxRecDepth 20000 in
theorem S_L_law_817 : Ev T_L_law (some .boolean) xs Ln call 817 [u0, u1, u2, u3] [.int i0, v1, .int i2, v3] w r = Ev T_L_law (some .boolean) xs Ln call 818 [u0, u1, u2, u3] [.int 2, .int i0, v1, .int i2, v3] w r := Ev.nxt rfl rfl
set_option maxRecDepth 20000 in
theorem S_L_law_818 : Ev T_L_law (some .boolean) xs Ln call 818 [u0, u1, u2, u3] [.int i0, .int i1, v2, .int i3, v4] w r = Ev T_L_law (some .boolean) xs Ln call 819 [u0, u1, u2, u3] [.int (i1 + i0), v2, .int i3, v4] w r := Ev.nxt rfl rfl
set_option maxRecDepth 20000 in
theorem S_L_law_819 (hi : ¬ (i0 < 0 ∨ Ln ≤ i0.toNatClampNeg)) : Ev T_L_law (some .boolean) xs Ln call 819 [u0, u1, u2, u3] [.int i0, .retAddr 0, .int i2, v3] w r = Ev T_L_law (some .boolean) xs Ln call 820 [u0, u1, u2, u3] [.int (xs i0.toNatClampNeg), .int i2, v3] w r := Ev.nxt rfl (by exact (X_sld hi))
set_option maxRecDepth 20000 in
theorem S_L_law_820 (h : isRf z = true) : Ev T_L_law (some .boolean) xs Ln call 820 [some z, u1, u2, u3] [.int i0, .int i1, v2] w r = Ev T_L_law (some .boolean) xs Ln call 821 [some z, u1, u2, u3] [z, .int i0, .int i1, v2] w r := Ev.nxt rfl (by exact (if_pos h))
set_option maxRecDepth 20000 in
theorem S_L_law_821 : Ev T_L_law (some .boolean) xs Ln call 821 [u0, u1, u2, some (.int x)] [v0, .int i1, .int i2, v3] w r = Ev T_L_law (some .boolean) xs Ln call 822 [u0, u1, u2, some (.int x)] [.int x, v0, .int i1, .int i2, v3] w r := Ev.nxt rfl rfl
set_option maxRecDepth 20000 in
theorem S_L_law_822 : Ev T_L_law (some .boolean) xs Ln call 822 [u0, u1, u2, u3] [.int i0, v1, .int i2, .int i3, v4] w r = Ev T_L_law (some .boolean) xs Ln call 823 [u0, u1, u2, u3] [.int 3, .int i0, v1, .int i2, .int i3, v4] w r := Ev.nxt rfl rfl
set_option maxRecDepth 20000 in
theorem S_L_law_823 : Ev T_L_law (some .boolean) xs Ln call 823 [u0, u1, u2, u3] [.int i0, .int i1, v2, .int i3, .int i4, v5] w r = Ev T_L_law (some .boolean) xs Ln call 824 [u0, u1, u2, u3] [.int (i1 + i0), v2, .int i3, .int i4, v5] w r := Ev.nxt rfl rfl
set_option maxRecDepth 20000 in
theorem S_L_law_824 (hi : ¬ (i0 < 0 ∨ Ln ≤ i0.toNatClampNeg)) : Ev T_L_law (some .boolean) xs Ln call 824 [u0, u1, u2, u3] [.int i0, .retAddr 0, .int i2, .int i3, v4] w r = Ev T_L_law (some .boolean) xs Ln call 825 [u0, u1, u2, u3] [.int (xs i0.toNatClampNeg), .int i2, .int i3, v4] w r := Ev.nxt rfl (by exact (X_sld hi))
set_option maxRecDepth 20000 in
theorem S_L_law_825 (h : isObj w k3 10 = true) : Ev T_L_law (some .boolean) xs Ln call 825 [u0, u1, u2, u3] [.int i0, .int i1, .int i2, .ref k3] w r = aft T_L_law (some .boolean) xs Ln call 828 [u0, u1, u2, u3] [] r (call 107 [.ref k3, .int i2, .int i1, .int i0] w) := Ev.cl (vv := true) (k := 107) (n := 4) (nx := 828) rfl rfl (Nat.le_of_ble_eq_true rfl) (by simp [catS, Value.category]) rfl (Or.inr h)
set_option maxRecDepth 20000 in
theorem S_L_law_828 (h : isRf z = true) : Ev T_L_law (some .boolean) xs Ln call 828 [u0, u1, some z, u3] [.int i0] w r = Ev T_L_law (some .boolean) xs Ln call 829 [u0, u1, some z, u3] [z, .int i0] w r := Ev.nxt rfl (by exact (if_pos h))
set_option maxRecDepth 20000 in
theorem S_L_law_829 (h : isRf z = true) : Ev T_L_law (some .boolean) xs Ln call 829 [some z, u1, u2, u3] [v0, .int i1] w r = Ev T_L_law (some .boolean) xs Ln call 830 [some z, u1, u2, u3] [z, v0, .int i1] w r := Ev.nxt rfl (by exact (if_pos h))
set_option maxRecDepth 20000 in
theorem S_L_law_830 : Ev T_L_law (some .boolean) xs Ln call 830 [u0, u1, u2, some (.int x)] [v0, v1, .int i2] w r = Ev T_L_law (some .boolean) xs Ln call 831 [u0, u1, u2, some (.int x)] [.int x, v0, v1, .int i2] w r := Ev.nxt rfl rfl
set_option maxRecDepth 20000 in
theorem S_L_law_831 : Ev T_L_law (some .boolean) xs Ln call 831 [u0, u1, u2, u3] [.int i0, v1, v2, .int i3] w r = Ev T_L_law (some .boolean) xs Ln call 832 [u0, u1, u2, u3] [.int 1, .int i0, v1, v2, .int i3] w r := Ev.nxt rfl rfl
set_option maxRecDepth 20000 in
theorem S_L_law_832 : Ev T_L_law (some .boolean) xs Ln call 832 [u0, u1, u2, u3] [.int i0, .int i1, v2, v3, .int i4] w r = Ev T_L_law (some .boolean) xs Ln call 833 [u0, u1, u2, u3] [.int (i1 + i0), v2, v3, .int i4] w r := Ev.nxt rfl rfl
set_option maxRecDepth 20000 in
theorem S_L_law_833 (hi : ¬ (i0 < 0 ∨ Ln ≤ i0.toNatClampNeg)) : Ev T_L_law (some .boolean) xs Ln call 833 [u0, u1, u2, u3] [.int i0, .retAddr 0, v2, .int i3] w r = Ev T_L_law (some .boolean) xs Ln call 834 [u0, u1, u2, u3] [.int (xs i0.toNatClampNeg), v2, .int i3] w r := Ev.nxt rfl (by exact (X_sld hi))
set_option maxRecDepth 20000 in
theorem S_L_law_834 (h : isRf z = true) : Ev T_L_law (some .boolean) xs Ln call 834 [some z, u1, u2, u3] [.int i0, v1, .int i2] w r = Ev T_L_law (some .boolean) xs Ln call 835 [some z, u1, u2, u3] [z, .int i0, v1, .int i2] w r := Ev.nxt rfl (by exact (if_pos h))
set_option maxRecDepth 20000 in
theorem S_L_law_835 : Ev T_L_law (some .boolean) xs Ln call 835 [u0, u1, u2, some (.int x)] [v0, .int i1, v2, .int i3] w r = Ev T_L_law (some .boolean) xs Ln call 836 [u0, u1, u2, some (.int x)] [.int x, v0, .int i1, v2, .int i3] w r := Ev.nxt rfl rfl
set_option maxRecDepth 20000 in
theorem S_L_law_836 : Ev T_L_law (some .boolean) xs Ln call 836 [u0, u1, u2, u3] [.int i0, v1, .int i2, v3, .int i4] w r = Ev T_L_law (some .boolean) xs Ln call 837 [u0, u1, u2, u3] [.int 2, .int i0, v1, .int i2, v3, .int i4] w r := Ev.nxt rfl rfl
set_option maxRecDepth 20000 in
theorem S_L_law_837 : Ev T_L_law (some .boolean) xs Ln call 837 [u0, u1, u2, u3] [.int i0, .int i1, v2, .int i3, v4, .int i5] w r = Ev T_L_law (some .boolean) xs Ln call 838 [u0, u1, u2, u3] [.int (i1 + i0), v2, .int i3, v4, .int i5] w r := Ev.nxt rfl rfl
set_option maxRecDepth 20000 in
theorem S_L_law_838 (hi : ¬ (i0 < 0 ∨ Ln ≤ i0.toNatClampNeg)) : Ev T_L_law (some .boolean) xs Ln call 838 [u0, u1, u2, u3] [.int i0, .retAddr 0, .int i2, v3, .int i4] w r = Ev T_L_law (some .boolean) xs Ln call 839 [u0, u1, u2, u3] [.int (xs i0.toNatClampNeg), .int i2, v3, .int i4] w r := Ev.nxt rfl (by exact (X_sld hi))
set_option maxRecDepth 20000 in
theorem S_L_law_839 (h : isRf z = true) : Ev T_L_law (some .boolean) xs Ln call 839 [some z, u1, u2, u3] [.int i0, .int i1, v2, .int i3] w r = Ev T_L_law (some .boolean) xs Ln call 840 [some z, u1, u2, u3] [z, .int i0, .int i1, v2, .int i3] w r := Ev.nxt rfl (by exact (if_pos h))
set_option maxRecDepth 20000 in
theorem S_L_law_840 : Ev T_L_law (some .boolean) xs Ln call 840 [u0, u1, u2, some (.int x)] [v0, .int i1, .int i2, v3, .int i4] w r = Ev T_L_law (some .boolean) xs Ln call 841 [u0, u1, u2, some (.int x)] [.int x, v0, .int i1, .int i2, v3, .int i4] w r := Ev.nxt rfl rfl
set_option maxRecDepth 20000 in
theorem S_L_law_841 : Ev T_L_law (some .boolean) xs Ln call 841 [u0, u1, u2, u3] [.int i0, v1, .int i2, .int i3, v4, .int i5] w r = Ev T_L_law (some .boolean) xs Ln call 842 [u0, u1, u2, u3] [.int 3, .int i0, v1, .int i2, .int i3, v4, .int i5] w r := Ev.nxt rfl rfl
set_option maxRecDepth 20000 in
theorem S_L_law_842 : Ev T_L_law (some .boolean) xs Ln call 842 [u0, u1, u2, u3] [.int i0, .int i1, v2, .int i3, .int i4, v5, .int i6] w r = Ev T_L_law (some .boolean) xs Ln call 843 [u0, u1, u2, u3] [.int (i1 + i0), v2, .int i3, .int i4, v5, .int i6] w r := Ev.nxt rfl rfl
set_option maxRecDepth 20000 in
theorem S_L_law_843 (hi : ¬ (i0 < 0 ∨ Ln ≤ i0.toNatClampNeg)) : Ev T_L_law (some .boolean) xs Ln call 843 [u0, u1, u2, u3] [.int i0, .retAddr 0, .int i2, .int i3, v4, .int i5] w r = Ev T_L_law (some .boolean) xs Ln call 844 [u0, u1, u2, u3] [.int (xs i0.toNatClampNeg), .int i2, .int i3, v4, .int i5] w r := Ev.nxt rfl (by exact (X_sld hi))
set_option maxRecDepth 20000 in
theorem S_L_law_844 (h : isObj w k3 11 = true) : Ev T_L_law (some .boolean) xs Ln call 844 [u0, u1, u2, u3] [.int i0, .int i1, .int i2, .ref k3, .int i4] w r = aft T_L_law (some .boolean) xs Ln call 847 [u0, u1, u2, u3] [.int i4] r (call 230 [.ref k3, .int i2, .int i1, .int i0] w) := Ev.cl (vv := true) (k := 230) (n := 4) (nx := 847) rfl rfl (Nat.le_of_ble_eq_true rfl) (by simp [catS, Value.category]) rfl (Or.inr h)
set_option maxRecDepth 20000 in
theorem S_L_law_847 : Ev T_L_law (some .boolean) xs Ln call 847 [u0, u1, u2, u3] [.int i0, .int i1] w r = if i1 = i0 then Ev T_L_law (some .boolean) xs Ln call 1785 [u0, u1, u2, u3] [] w r else Ev T_L_law (some .boolean) xs Ln call 850 [u0, u1, u2, u3] [] w r := Ev.ifc rfl (by exact iteB)
set_option maxRecDepth 20000 in
theorem S_L_law_850 : Ev T_L_law (some .boolean) xs Ln call 850 [u0, u1, u2, u3] [] w r = Ev T_L_law (some .boolean) xs Ln call 851 [u0, u1, u2, u3] [.int 0] w r := Ev.nxt rfl rfl
set_option maxRecDepth 20000 in
theorem S_L_law_851 (h : okR (some .boolean) (.int i0) = true) : Ev T_L_law (some .boolean) xs Ln call 851 [u0, u1, u2, u3] [.int i0] w r = (r = (w, some (.int i0))) := Ev.rt rfl (by exact if_pos h)
set_option maxRecDepth 20000 in
theorem S_L_law_852 (h : isRf z = true) : Ev T_L_law (some .boolean) xs Ln call 852 [u0, some z, u2, u3] [] w r = Ev T_L_law (some .boolean) xs Ln call 853 [u0, some z, u2, u3] [z] w r := Ev.nxt rfl (by exact (if_pos h))
set_option maxRecDepth 20000 in
theorem S_L_law_853 (h : isRf z = true) : Ev T_L_law (some .boolean) xs Ln call 853 [some z, u1, u2, u3] [v0] w r = Ev T_L_law (some .boolean) xs Ln call 854 [some z, u1, u2, u3] [z, v0] w r := Ev.nxt rfl (by exact (if_pos h))
set_option maxRecDepth 20000 in
theorem S_L_law_854 : Ev T_L_law (some .boolean) xs Ln call 854 [u0, u1, u2, some (.int x)] [v0, v1] w r = Ev T_L_law (some .boolean) xs Ln call 855 [u0, u1, u2, some (.int x)] [.int x, v0, v1] w r := Ev.nxt rfl rfl
set_option maxRecDepth 20000 in
theorem S_L_law_855 : Ev T_L_law (some .boolean) xs Ln call 855 [u0, u1, u2, u3] [.int i0, v1, v2] w r = Ev T_L_law (some .boolean) xs Ln call 856 [u0, u1, u2, u3] [.int 1, .int i0, v1, v2] w r := Ev.nxt rfl rfl
set_option maxRecDepth 20000 in
theorem S_L_law_856 : Ev T_L_law (some .boolean) xs Ln call 856 [u0, u1, u2, u3] [.int i0, .int i1, v2, v3] w r = Ev T_L_law (some .boolean) xs Ln call 857 [u0, u1, u2, u3] [.int (i1 + i0), v2, v3] w r := Ev.nxt rfl rfl
set_option maxRecDepth 20000 in
theorem S_L_law_857 (hi : ¬ (i0 < 0 ∨ Ln ≤ i0.toNatClampNeg)) : Ev T_L_law (some .boolean) xs Ln call 857 [u0, u1, u2, u3] [.int i0, .retAddr 0, v2] w r = Ev T_L_law (some .boolean) xs Ln call 858 [u0, u1, u2, u3] [.int (xs i0.toNatClampNeg), v2] w r := Ev.nxt rfl (by exact (X_sld hi))
set_option maxRecDepth 20000 in
theorem S_L_law_858 (h : isRf z = true) : Ev T_L_law (some .boolean) xs Ln call 858 [some z, u1, u2, u3] [.int i0, v1] w r = Ev T_L_law (some .boolean) xs Ln call 859 [some z, u1, u2, u3] [z, .int i0, v1] w r := Ev.nxt rfl (by exact (if_pos h))
set_option maxRecDepth 20000 in
theorem S_L_law_859 : Ev T_L_law (some .boolean) xs Ln call 859 [u0, u1, u2, some (.int x)] [v0, .int i1, v2] w r = Ev T_L_law (some .boolean) xs Ln call 860 [u0, u1, u2, some (.int x)] [.int x, v0, .int i1, v2] w r := Ev.nxt rfl rfl
set_option maxRecDepth 20000 in
theorem S_L_law_860 : Ev T_L_law (some .boolean) xs Ln call 860 [u0, u1, u2, u3] [.int i0, v1, .int i2, v3] w r = Ev T_L_law (some .boolean) xs Ln call 861 [u0, u1, u2, u3] [.int 2, .int i0, v1, .int i2, v3] w r := Ev.nxt rfl rfl
set_option maxRecDepth 20000 in
theorem S_L_law_861 : Ev T_L_law (some .boolean) xs Ln call 861 [u0, u1, u2, u3] [.int i0, .int i1, v2, .int i3, v4] w r = Ev T_L_law (some .boolean) xs Ln call 862 [u0, u1, u2, u3] [.int (i1 + i0), v2, .int i3, v4] w r := Ev.nxt rfl rfl
set_option maxRecDepth 20000 in
theorem S_L_law_862 (hi : ¬ (i0 < 0 ∨ Ln ≤ i0.toNatClampNeg)) : Ev T_L_law (some .boolean) xs Ln call 862 [u0, u1, u2, u3] [.int i0, .retAddr 0, .int i2, v3] w r = Ev T_L_law (some .boolean) xs Ln call 863 [u0, u1, u2, u3] [.int (xs i0.toNatClampNeg), .int i2, v3] w r := Ev.nxt rfl (by exact (X_sld hi))
set_option maxRecDepth 20000 in
theorem S_L_law_863 (h : isRf z = true) : Ev T_L_law (some .boolean) xs Ln call 863 [some z, u1, u2, u3] [.int i0, .int i1, v2] w r = Ev T_L_law (some .boolean) xs Ln call 864 [some z, u1, u2, u3] [z, .int i0, .int i1, v2] w r := Ev.nxt rfl (by exact (if_pos h))
set_option maxRecDepth 20000 in
theorem S_L_law_864 : Ev T_L_law (some .boolean) xs Ln call 864 [u0, u1, u2, some (.int x)] [v0, .int i1, .int i2, v3] w r = Ev T_L_law (some .boolean) xs Ln call 865 [u0, u1, u2, some (.int x)] [.int x, v0, .int i1, .int i2, v3] w r := Ev.nxt rfl rfl
set_option maxRecDepth 20000 in
theorem S_L_law_865 : Ev T_L_law (some .boolean) xs Ln call 865 [u0, u1, u2, u3] [.int i0, v1, .int i2, .int i3, v4] w r = Ev T_L_law (some .boolean) xs Ln call 866 [u0, u1, u2, u3] [.int 3, .int i0, v1, .int i2, .int i3, v4] w r := Ev.nxt rfl rfl
set_option maxRecDepth 20000 in
theorem S_L_law_866 : Ev T_L_law (some .boolean) xs Ln call 866 [u0, u1, u2, u3] [.int i0, .int i1, v2, .int i3, .int i4, v5] w r = Ev T_L_law (some .boolean) xs Ln call 867 [u0, u1, u2, u3] [.int (i1 + i0), v2, .int i3, .int i4, v5] w r := Ev.nxt rfl rfl
set_option maxRecDepth 20000 in
theorem S_L_law_867 (hi : ¬ (i0 < 0 ∨ Ln ≤ i0.toNatClampNeg)) : Ev T_L_law (some .boolean) xs Ln call 867 [u0, u1, u2, u3] [.int i0, .retAddr 0, .int i2, .int i3, v4] w r = Ev T_L_law (some .boolean) xs Ln call 868 [u0, u1, u2, u3] [.int (xs i0.toNatClampNeg), .int i2, .int i3, v4] w r := Ev.nxt rfl (by exact (X_sld hi))
set_option maxRecDepth 20000 in
theorem S_L_law_868 (h : isObj w k3 10 = true) : Ev T_L_law (some .boolean) xs Ln call 868 [u0, u1, u2, u3] [.int i0, .int i1, .int i2, .ref k3] w r = aft T_L_law (some .boolean) xs Ln call 871 [u0, u1, u2, u3] [] r (call 108 [.ref k3, .int i2, .int i1, .int i0] w) := Ev.cl (vv := true) (k := 108) (n := 4) (nx := 871) rfl rfl (Nat.le_of_ble_eq_true rfl) (by simp [catS, Value.category]) rfl (Or.inr h)
set_option maxRecDepth 20000 in
theorem S_L_law_871 (h : isRf z = true) : Ev T_L_law (some .boolean) xs Ln call 871 [u0, u1, some z, u3] [.int i0] w r = Ev T_L_law (some .boolean) xs Ln call 872 [u0, u1, some z, u3] [z, .int i0] w r := Ev.nxt rfl (by exact (if_pos h))
set_option maxRecDepth 20000 in
theorem S_L_law_872 (h : isRf z = true) : Ev T_L_law (some .boolean) xs Ln call 872 [some z, u1, u2, u3] [v0, .int i1] w r = Ev T_L_law (some .boolean) xs Ln call 873 [some z, u1, u2, u3] [z, v0, .int i1] w r := Ev.nxt rfl (by exact (if_pos h))
set_option maxRecDepth 20000 in
theorem S_L_law_873 : Ev T_L_law (some .boolean) xs Ln call 873 [u0, u1, u2, some (.int x)] [v0, v1, .int i2] w r = Ev T_L_law (some .boolean) xs Ln call 874 [u0, u1, u2, some (.int x)] [.int x, v0, v1, .int i2] w r := Ev.nxt rfl rfl
set_option maxRecDepth 20000 in
theorem S_L_law_874 : Ev T_L_law (some .boolean) xs Ln call 874 [u0, u1, u2, u3] [.int i0, v1, v2, .int i3] w r = Ev T_L_law (some .boolean) xs Ln call 875 [u0, u1, u2, u3] [.int 1, .int i0, v1, v2, .int i3] w r := Ev.nxt rfl rfl
set_option maxRecDepth 20000 in
theorem S_L_law_875 : Ev T_L_law (some .boolean) xs Ln call 875 [u0, u1, u2, u3] [.int i0, .int i1, v2, v3, .int i4] w r = Ev T_L_law (some .boolean) xs Ln call 876 [u0, u1, u2, u3] [.int (i1 + i0), v2, v3, .int i4] w r := Ev.nxt rfl rfl
set_option maxRecDepth 20000 in
theorem S_L_law_876 (hi : ¬ (i0 < 0 ∨ Ln ≤ i0.toNatClampNeg)) : Ev T_L_law (some .boolean) xs Ln call 876 [u0, u1, u2, u3] [.int i0, .retAddr 0, v2, .int i3] w r = Ev T_L_law (some .boolean) xs Ln call 877 [u0, u1, u2, u3] [.int (xs i0.toNatClampNeg), v2, .int i3] w r := Ev.nxt rfl (by exact (X_sld hi))
set_option maxRecDepth 20000 in
theorem S_L_law_877 (h : isRf z = true) : Ev T_L_law (some .boolean) xs Ln call 877 [some z, u1, u2, u3] [.int i0, v1, .int i2] w r = Ev T_L_law (some .boolean) xs Ln call 878 [some z, u1, u2, u3] [z, .int i0, v1, .int i2] w r := Ev.nxt rfl (by exact (if_pos h))
set_option maxRecDepth 20000 in
theorem S_L_law_878 : Ev T_L_law (some .boolean) xs Ln call 878 [u0, u1, u2, some (.int x)] [v0, .int i1, v2, .int i3] w r = Ev T_L_law (some .boolean) xs Ln call 879 [u0, u1, u2, some (.int x)] [.int x, v0, .int i1, v2, .int i3] w r := Ev.nxt rfl rfl
set_option maxRecDepth 20000 in
theorem S_L_law_879 : Ev T_L_law (some .boolean) xs Ln call 879 [u0, u1, u2, u3] [.int i0, v1, .int i2, v3, .int i4] w r = Ev T_L_law (some .boolean) xs Ln call 880 [u0, u1, u2, u3] [.int 2, .int i0, v1, .int i2, v3, .int i4] w r := Ev.nxt rfl rfl
set_option maxRecDepth 20000 in
theorem S_L_law_880 : Ev T_L_law (some .boolean) xs Ln call 880 [u0, u1, u2, u3] [.int i0, .int i1, v2, .int i3, v4, .int i5] w r = Ev T_L_law (some .boolean) xs Ln call 881 [u0, u1, u2, u3] [.int (i1 + i0), v2, .int i3, v4, .int i5] w r := Ev.nxt rfl rfl
set_option maxRecDepth 20000 in
theorem S_L_law_881 (hi : ¬ (i0 < 0 ∨ Ln ≤ i0.toNatClampNeg)) : Ev T_L_law (some .boolean) xs Ln call 881 [u0, u1, u2, u3] [.int i0, .retAddr 0, .int i2, v3, .int i4] w r = Ev T_L_law (some .boolean) xs Ln call 882 [u0, u1, u2, u3] [.int (xs i0.toNatClampNeg), .int i2, v3, .int i4] w r := Ev.nxt rfl (by exact (X_sld hi))
set_option maxRecDepth 20000 in
theorem S_L_law_882 (h : isRf z = true) : Ev T_L_law (some .boolean) xs Ln call 882 [some z, u1, u2, u3] [.int i0, .int i1, v2, .int i3] w r = Ev T_L_law (some .boolean) xs Ln call 883 [some z, u1, u2, u3] [z, .int i0, .int i1, v2, .int i3] w r := Ev.nxt rfl (by exact (if_pos h))
set_option maxRecDepth 20000 in
theorem S_L_law_883 : Ev T_L_law (some .boolean) xs Ln call 883 [u0, u1, u2, some (.int x)] [v0, .int i1, .int i2, v3, .int i4] w r = Ev T_L_law (some .boolean) xs Ln call 884 [u0, u1, u2, some (.int x)] [.int x, v0, .int i1, .int i2, v3, .int i4] w r := Ev.nxt rfl rfl
set_option maxRecDepth 20000 in
theorem S_L_law_884 : Ev T_L_law (some .boolean) xs Ln call 884 [u0, u1, u2, u3] [.int i0, v1, .int i2, .int i3, v4, .int i5] w r = Ev T_L_law (some .boolean) xs Ln call 885 [u0, u1, u2, u3] [.int 3, .int i0, v1, .int i2, .int i3, v4, .int i5] w r := Ev.nxt rfl rfl
set_option maxRecDepth 20000 in
theorem S_L_law_885 : Ev T_L_law (some .boolean) xs Ln call 885 [u0, u1, u2, u3] [.int i0, .int i1, v2, .int i3, .int i4, v5, .int i6] w r = Ev T_L_law (some .boolean) xs Ln call 886 [u0, u1, u2, u3] [.int (i1 + i0), v2, .int i3, .int i4, v5, .int i6] w r := Ev.nxt rfl rfl
set_option maxRecDepth 20000 in
theorem S_L_law_886 (hi : ¬ (i0 < 0 ∨ Ln ≤ i0.toNatClampNeg)) : Ev T_L_law (some .boolean) xs Ln call 886 [u0, u1, u2, u3] [.int i0, .retAddr 0, .int i2, .int i3, v4, .int i5] w r = Ev T_L_law (some .boolean) xs Ln call 887 [u0, u1, u2, u3] [.int (xs i0.toNatClampNeg), .int i2, .int i3, v4, .int i5] w r := Ev.nxt rfl (by exact (X_sld hi))
set_option maxRecDepth 20000 in
theorem S_L_law_887 (h : isObj w k3 11 = true) : Ev T_L_law (some .boolean) xs Ln call 887 [u0, u1, u2, u3] [.int i0, .int i1, .int i2, .ref k3, .int i4] w r = aft T_L_law (some .boolean) xs Ln call 890 [u0, u1, u2, u3] [.int i4] r (call 231 [.ref k3, .int i2, .int i1, .int i0] w) := Ev.cl (vv := true) (k := 231) (n := 4) (nx := 890) rfl rfl (Nat.le_of_ble_eq_true rfl) (by simp [catS, Value.category]) rfl (Or.inr h)
set_option maxRecDepth 20000 in
theorem S_L_law_890 : Ev T_L_law (some .boolean) xs Ln call 890 [u0, u1, u2, u3] [.int i0, .int i1] w r = if i1 = i0 then Ev T_L_law (some .boolean) xs Ln call 1785 [u0, u1, u2, u3] [] w r else Ev T_L_law (some .boolean) xs Ln call 893 [u0, u1, u2, u3] [] w r := Ev.ifc rfl (by exact iteB)
set_option maxRecDepth 20000 in
theorem S_L_law_893 : Ev T_L_law (some .boolean) xs Ln call 893 [u0, u1, u2, u3] [] w r = Ev T_L_law (some .boolean) xs Ln call 894 [u0, u1, u2, u3] [.int 0] w r := Ev.nxt rfl rfl
set_option maxRecDepth 20000 in
theorem S_L_law_894 (h : okR (some .boolean) (.int i0) = true) : Ev T_L_law (some .boolean) xs Ln call 894 [u0, u1, u2, u3] [.int i0] w r = (r = (w, some (.int i0))) := Ev.rt rfl (by exact if_pos h)
set_option maxRecDepth 20000 in
theorem S_L_law_895 (h : isRf z = true) : Ev T_L_law (some .boolean) xs Ln call 895 [u0, some z, u2, u3] [] w r = Ev T_L_law (some .boolean) xs Ln call 896 [u0, some z, u2, u3] [z] w r := Ev.nxt rfl (by exact (if_pos h))
set_option maxRecDepth 20000 in
theorem S_L_law_896 (h : isRf z = true) : Ev T_L_law (some .boolean) xs Ln call 896 [some z, u1, u2, u3] [v0] w r = Ev T_L_law (some .boolean) xs Ln call 897 [some z, u1, u2, u3] [z, v0] w r := Ev.nxt rfl (by exact (if_pos h))
set_option maxRecDepth 20000 in
theorem S_L_law_897 : Ev T_L_law (some .boolean) xs Ln call 897 [u0, u1, u2, some (.int x)] [v0, v1] w r = Ev T_L_law (some .boolean) xs Ln call 898 [u0, u1, u2, some (.int x)] [.int x, v0, v1] w r := Ev.nxt rfl rfl
set_option maxRecDepth 20000 in
theorem S_L_law_898 : Ev T_L_law (some .boolean) xs Ln call 898 [u0, u1, u2, u3] [.int i0, v1, v2] w r = Ev T_L_law (some .boolean) xs Ln call 899 [u0, u1, u2, u3] [.int 1, .int i0, v1, v2] w r := Ev.nxt rfl rfl
set_option maxRecDepth 20000 in
theorem S_L_law_899 : Ev T_L_law (some .boolean) xs Ln call 899 [u0, u1, u2, u3] [.int i0, .int i1, v2, v3] w r = Ev T_L_law (some .boolean) xs Ln call 900 [u0, u1, u2, u3] [.int (i1 + i0), v2, v3] w r := Ev.nxt rfl rfl
set_option maxRecDepth 20000 in
theorem S_L_law_900 (hi : ¬ (i0 < 0 ∨ Ln ≤ i0.toNatClampNeg)) : Ev T_L_law (some .boolean) xs Ln call 900 [u0, u1, u2, u3] [.int i0, .retAddr 0, v2] w r = Ev T_L_law (some .boolean) xs Ln call 901 [u0, u1, u2, u3] [.int (xs i0.toNatClampNeg), v2] w r := Ev.nxt rfl (by exact (X_sld hi))
set_option maxRecDepth 20000 in
theorem S_L_law_901 (h : isRf z = true) : Ev T_L_law (some .boolean) xs Ln call 901 [some z, u1, u2, u3] [.int i0, v1] w r = Ev T_L_law (some .boolean) xs Ln call 902 [some z, u1, u2, u3] [z, .int i0, v1] w r := Ev.nxt rfl (by exact (if_pos h))
set_option maxRecDepth 20000 in
theorem S_L_law_902 : Ev T_L_law (some .boolean) xs Ln call 902 [u0, u1, u2, some (.int x)] [v0, .int i1, v2] w r = Ev T_L_law (some .boolean) xs Ln call 903 [u0, u1, u2, some (.int x)] [.int x, v0, .int i1, v2] w r := Ev.nxt rfl rfl
set_option maxRecDepth 20000 in
theorem S_L_law_903 : Ev T_L_law (some .boolean) xs Ln call 903 [u0, u1, u2, u3] [.int i0, v1, .int i2, v3] w r = Ev T_L_law (some .boolean) xs Ln call 904 [u0, u1, u2, u3] [.int 2, .int i0, v1, .int i2, v3] w r := Ev.nxt rfl rfl
set_option maxRecDepth 20000 in
theorem S_L_law_904 : Ev T_L_law (some .boolean) xs Ln call 904 [u0, u1, u2, u3] [.int i0, .int i1, v2, .int i3, v4] w r = Ev T_L_law (some .boolean) xs Ln call 905 [u0, u1, u2, u3] [.int (i1 + i0), v2, .int i3, v4] w r := Ev.nxt rfl rfl
set_option maxRecDepth 20000 in
theorem S_L_law_905 (hi : ¬ (i0 < 0 ∨ Ln ≤ i0.toNatClampNeg)) : Ev T_L_law (some .boolean) xs Ln call 905 [u0, u1, u2, u3] [.int i0, .retAddr 0, .int i2, v3] w r = Ev T_L_law (some .boolean) xs Ln call 906 [u0, u1, u2, u3] [.int (xs i0.toNatClampNeg), .int i2, v3] w r := Ev.nxt rfl (by exact (X_sld hi))
set_option maxRecDepth 20000 in
theorem S_L_law_906 (h : isRf z = true) : Ev T_L_law (some .boolean) xs Ln call 906 [some z, u1, u2, u3] [.int i0, .int i1, v2] w r = Ev T_L_law (some .boolean) xs Ln call 907 [some z, u1, u2, u3] [z, .int i0, .int i1, v2] w r := Ev.nxt rfl (by exact (if_pos h))
set_option maxRecDepth 20000 in
theorem S_L_law_907 : Ev T_L_law (some .boolean) xs Ln call 907 [u0, u1, u2, some (.int x)] [v0, .int i1, .int i2, v3] w r = Ev T_L_law (some .boolean) xs Ln call 908 [u0, u1, u2, some (.int x)] [.int x, v0, .int i1, .int i2, v3] w r := Ev.nxt rfl rfl
set_option maxRecDepth 20000 in
theorem S_L_law_908 : Ev T_L_law (some .boolean) xs Ln call 908 [u0, u1, u2, u3] [.int i0, v1, .int i2, .int i3, v4] w r = Ev T_L_law (some .boolean) xs Ln call 909 [u0, u1, u2, u3] [.int 3, .int i0, v1, .int i2, .int i3, v4] w r := Ev.nxt rfl rfl
set_option maxRecDepth 20000 in
theorem S_L_law_909 : Ev T_L_law (some .boolean) xs Ln call 909 [u0, u1, u2, u3] [.int i0, .int i1, v2, .int i3, .int i4, v5] w r = Ev T_L_law (some .boolean) xs Ln call 910 [u0, u1, u2, u3] [.int (i1 + i0), v2, .int i3, .int i4, v5] w r := Ev.nxt rfl rfl
set_option maxRecDepth 20000 in
theorem S_L_law_910 (hi : ¬ (i0 < 0 ∨ Ln ≤ i0.toNatClampNeg)) : Ev T_L_law (some .boolean) xs Ln call 910 [u0, u1, u2, u3] [.int i0, .retAddr 0, .int i2, .int i3, v4] w r = Ev T_L_law (some .boolean) xs Ln call 911 [u0, u1, u2, u3] [.int (xs i0.toNatClampNeg), .int i2, .int i3, v4] w r := Ev.nxt rfl (by exact (X_sld hi))
set_option maxRecDepth 20000 in
theorem S_L_law_911 (h : isRf z = true) : Ev T_L_law (some .boolean) xs Ln call 911 [some z, u1, u2, u3] [.int i0, .int i1, .int i2, v3] w r = Ev T_L_law (some .boolean) xs Ln call 912 [some z, u1, u2, u3] [z, .int i0, .int i1, .int i2, v3] w r := Ev.nxt rfl (by exact (if_pos h))
set_option maxRecDepth 20000 in
theorem S_L_law_912 : Ev T_L_law (some .boolean) xs Ln call 912 [u0, u1, u2, some (.int x)] [v0, .int i1, .int i2, .int i3, v4] w r = Ev T_L_law (some .boolean) xs Ln call 913 [u0, u1, u2, some (.int x)] [.int x, v0, .int i1, .int i2, .int i3, v4] w r := Ev.nxt rfl rfl
set_option maxRecDepth 20000 in
theorem S_L_law_913 : Ev T_L_law (some .boolean) xs Ln call 913 [u0, u1, u2, u3] [.int i0, v1, .int i2, .int i3, .int i4, v5] w r = Ev T_L_law (some .boolean) xs Ln call 914 [u0, u1, u2, u3] [.int 4, .int i0, v1, .int i2, .int i3, .int i4, v5] w r := Ev.nxt rfl rfl
set_option maxRecDepth 20000 in
theorem S_L_law_914 : Ev T_L_law (some .boolean) xs Ln call 914 [u0, u1, u2, u3] [.int i0, .int i1, v2, .int i3, .int i4, .int i5, v6] w r = Ev T_L_law (some .boolean) xs Ln call 915 [u0, u1, u2, u3] [.int (i1 + i0), v2, .int i3, .int i4, .int i5, v6] w r := Ev.nxt rfl rfl
set_option maxRecDepth 20000 in
theorem S_L_law_915 (hi : ¬ (i0 < 0 ∨ Ln ≤ i0.toNatClampNeg)) : Ev T_L_law (some .boolean) xs Ln call 915 [u0, u1, u2, u3] [.int i0, .retAddr 0, .int i2, .int i3, .int i4, v5] w r = Ev T_L_law (some .boolean) xs Ln call 916 [u0, u1, u2, u3] [.int (xs i0.toNatClampNeg), .int i2, .int i3, .int i4, v5] w r := Ev.nxt rfl (by exact (X_sld hi))
set_option maxRecDepth 20000 in
theorem S_L_law_916 (h : isObj w k4 10 = true) : Ev T_L_law (some .boolean) xs Ln call 916 [u0, u1, u2, u3] [.int i0, .int i1, .int i2, .int i3, .ref k4] w r = aft T_L_law (some .boolean) xs Ln call 919 [u0, u1, u2, u3] [] r (call 109 [.ref k4, .int i3, .int i2, .int i1, .int i0] w) := Ev.cl (vv := true) (k := 109) (n := 5) (nx := 919) rfl rfl (Nat.le_of_ble_eq_true rfl) (by simp [catS, Value.category]) rfl (Or.inr h)
set_option maxRecDepth 20000 in
theorem S_L_law_919 (h : isRf z = true) : Ev T_L_law (some .boolean) xs Ln call 919 [u0, u1, some z, u3] [.int i0] w r = Ev T_L_law (some .boolean) xs Ln call 920 [u0, u1, some z, u3] [z, .int i0] w r := Ev.nxt rfl (by exact (if_pos h))
set_option maxRecDepth 20000 in
theorem S_L_law_920 (h : isRf z = true) : Ev T_L_law (some .boolean) xs Ln call 920 [some z, u1, u2, u3] [v0, .int i1] w r = Ev T_L_law (some .boolean) xs Ln call 921 [some z, u1, u2, u3] [z, v0, .int i1] w r := Ev.nxt rfl (by exact (if_pos h))
set_option maxRecDepth 20000 in
theorem S_L_law_921 : Ev T_L_law (some .boolean) xs Ln call 921 [u0, u1, u2, some (.int x)] [v0, v1, .int i2] w r = Ev T_L_law (some .boolean) xs Ln call 922 [u0, u1, u2, some (.int x)] [.int x, v0, v1, .int i2] w r := Ev.nxt rfl rfl
set_option maxRecDepth 20000 in
theorem S_L_law_922 : Ev T_L_law (some .boolean) xs Ln call 922 [u0, u1, u2, u3] [.int i0, v1, v2, .int i3] w r = Ev T_L_law (some .boolean) xs Ln call 923 [u0, u1, u2, u3] [.int 1, .int i0, v1, v2, .int i3] w r := Ev.nxt rfl rfl
set_option maxRecDepth 20000 in
theorem S_L_law_923 : Ev T_L_law (some .boolean) xs Ln call 923 [u0, u1, u2, u3] [.int i0, .int i1, v2, v3, .int i4] w r = Ev T_L_law (some .boolean) xs Ln call 924 [u0, u1, u2, u3] [.int (i1 + i0), v2, v3, .int i4] w r := Ev.nxt rfl rfl
set_option maxRecDepth 20000 in
theorem S_L_law_924 (hi : ¬ (i0 < 0 ∨ Ln ≤ i0.toNatClampNeg)) : Ev T_L_law (some .boolean) xs Ln call 924 [u0, u1, u2, u3] [.int i0, .retAddr 0, v2, .int i3] w r = Ev T_L_law (some .boolean) xs Ln call 925 [u0, u1, u2, u3] [.int (xs i0.toNatClampNeg), v2, .int i3] w r := Ev.nxt rfl (by exact (X_sld hi))
set_option maxRecDepth 20000 in
theorem S_L_law_925 (h : isRf z = true) : Ev T_L_law (some .boolean) xs Ln call 925 [some z, u1, u2, u3] [.int i0, v1, .int i2] w r = Ev T_L_law (some .boolean) xs Ln call 926 [some z, u1, u2, u3] [z, .int i0, v1, .int i2] w r := Ev.nxt rfl (by exact (if_pos h))
set_option maxRecDepth 20000 in
theorem S_L_law_926 : Ev T_L_law (some .boolean) xs Ln call 926 [u0, u1, u2, some (.int x)] [v0, .int i1, v2, .int i3] w r = Ev T_L_law (some .boolean) xs Ln call 927 [u0, u1, u2, some (.int x)] [.int x, v0, .int i1, v2, .int i3] w r := Ev.nxt rfl rfl
set_option maxRecDepth 20000 in
theorem S_L_law_927 : Ev T_L_law (some .boolean) xs Ln call 927 [u0, u1, u2, u3] [.int i0, v1, .int i2, v3, .int i4] w r = Ev T_L_law (some .boolean) xs Ln call 928 [u0, u1, u2, u3] [.int 2, .int i0, v1, .int i2, v3, .int i4] w r := Ev.nxt rfl rfl
set_option maxRecDepth 20000 in
theorem S_L_law_928 : Ev T_L_law (some .boolean) xs Ln call 928 [u0, u1, u2, u3] [.int i0, .int i1, v2, .int i3, v4, .int i5] w r = Ev T_L_law (some .boolean) xs Ln call 929 [u0, u1, u2, u3] [.int (i1 + i0), v2, .int i3, v4, .int i5] w r := Ev.nxt rfl rfl
set_option maxRecDepth 20000 in
theorem S_L_law_929 (hi : ¬ (i0 < 0 ∨ Ln ≤ i0.toNatClampNeg)) : Ev T_L_law (some .boolean) xs Ln call 929 [u0, u1, u2, u3] [.int i0, .retAddr 0, .int i2, v3, .int i4] w r = Ev T_L_law (some .boolean) xs Ln call 930 [u0, u1, u2, u3] [.int (xs i0.toNatClampNeg), .int i2, v3, .int i4] w r := Ev.nxt rfl (by exact (X_sld hi))
set_option maxRecDepth 20000 in
theorem S_L_law_930 (h : isRf z = true) : Ev T_L_law (some .boolean) xs Ln call 930 [some z, u1, u2, u3] [.int i0, .int i1, v2, .int i3] w r = Ev T_L_law (some .boolean) xs Ln call 931 [some z, u1, u2, u3] [z, .int i0, .int i1, v2, .int i3] w r := Ev.nxt rfl (by exact (if_pos h))
set_option maxRecDepth 20000 in
theorem S_L_law_931 : Ev T_L_law (some .boolean) xs Ln call 931 [u0, u1, u2, some (.int x)] [v0, .int i1, .int i2, v3, .int i4] w r = Ev T_L_law (some .boolean) xs Ln call 932 [u0, u1, u2, some (.int x)] [.int x, v0, .int i1, .int i2, v3, .int i4] w r := Ev.nxt rfl rfl
set_option maxRecDepth 20000 in
theorem S_L_law_932 : Ev T_L_law (some .boolean) xs Ln call 932 [u0, u1, u2, u3] [.int i0, v1, .int i2, .int i3, v4, .int i5] w r = Ev T_L_law (some .boolean) xs Ln call 933 [u0, u1, u2, u3] [.int 3, .int i0, v1, .int i2, .int i3, v4, .int i5] w r := Ev.nxt rfl rfl
set_option maxRecDepth 20000 in
theorem S_L_law_933 : Ev T_L_law (some .boolean) xs Ln call 933 [u0, u1, u2, u3] [.int i0, .int i1, v2, .int i3, .int i4, v5, .int i6] w r = Ev T_L_law (some .boolean) xs Ln call 934 [u0, u1, u2, u3] [.int (i1 + i0), v2, .int i3, .int i4, v5, .int i6] w r := Ev.nxt rfl rfl
set_option maxRecDepth 20000 in
theorem S_L_law_934 (hi : ¬ (i0 < 0 ∨ Ln ≤ i0.toNatClampNeg)) : Ev T_L_law (some .boolean) xs Ln call 934 [u0, u1, u2, u3] [.int i0, .retAddr 0, .int i2, .int i3, v4, .int i5] w r = Ev T_L_law (some .boolean) xs Ln call 935 [u0, u1, u2, u3] [.int (xs i0.toNatClampNeg), .int i2, .int i3, v4, .int i5] w r := Ev.nxt rfl (by exact (X_sld hi))
set_option maxRecDepth 20000 in
theorem S_L_law_935 (h : isRf z = true) : Ev T_L_law (some .boolean) xs Ln call 935 [some z, u1, u2, u3] [.int i0, .int i1, .int i2, v3, .int i4] w r = Ev T_L_law (some .boolean) xs Ln call 936 [some z, u1, u2, u3] [z, .int i0, .int i1, .int i2, v3, .int i4] w r := Ev.nxt rfl (by exact (if_pos h))
set_option maxRecDepth 20000 in
theorem S_L_law_936 : Ev T_L_law (some .boolean) xs Ln call 936 [u0, u1, u2, some (.int x)] [v0, .int i1, .int i2, .int i3, v4, .int i5] w r = Ev T_L_law (some .boolean) xs Ln call 937 [u0, u1, u2, some (.int x)] [.int x, v0, .int i1, .int i2, .int i3, v4, .int i5] w r := Ev.nxt rfl rfl
set_option maxRecDepth 20000 in
theorem S_L_law_937 : Ev T_L_law (some .boolean) xs Ln call 937 [u0, u1, u2, u3] [.int i0, v1, .int i2, .int i3, .int i4, v5, .int i6] w r = Ev T_L_law (some .boolean) xs Ln call 938 [u0, u1, u2, u3] [.int 4, .int i0, v1, .int i2, .int i3, .int i4, v5, .int i6] w r := Ev.nxt rfl rfl
set_option maxRecDepth 20000 in
theorem S_L_law_938 : Ev T_L_law (some .boolean) xs Ln call 938 [u0, u1, u2, u3] [.int i0, .int i1, v2, .int i3, .int i4, .int i5, v6, .int i7] w r = Ev T_L_law (some .boolean) xs Ln call 939 [u0, u1, u2, u3] [.int (i1 + i0), v2, .int i3, .int i4, .int i5, v6, .int i7] w r := Ev.nxt rfl rfl
set_option maxRecDepth 20000 in
theorem S_L_law_939 (hi : ¬ (i0 < 0 ∨ Ln ≤ i0.toNatClampNeg)) : Ev T_L_law (some .boolean) xs Ln call 939 [u0, u1, u2, u3] [.int i0, .retAddr 0, .int i2, .int i3, .int i4, v5, .int i6] w r = Ev T_L_law (some .boolean) xs Ln call 940 [u0, u1, u2, u3] [.int (xs i0.toNatClampNeg), .int i2, .int i3, .int i4, v5, .int i6] w r := Ev.nxt rfl (by exact (X_sld hi))
set_option maxRecDepth 20000 in
theorem S_L_law_940 (h : isObj w k4 11 = true) : Ev T_L_law (some .boolean) xs Ln call 940 [u0, u1, u2, u3] [.int i0, .int i1, .int i2, .int i3, .ref k4, .int i5] w r = aft T_L_law (some .boolean) xs Ln call 943 [u0, u1, u2, u3] [.int i5] r (call 232 [.ref k4, .int i3, .int i2, .int i1, .int i0] w) := Ev.cl (vv := true) (k := 232) (n := 5) (nx := 943) rfl rfl (Nat.le_of_ble_eq_true rfl) (by simp [catS, Value.category]) rfl (Or.inr h)
set_option maxRecDepth 20000 in
theorem S_L_law_943 : Ev T_L_law (some .boolean) xs Ln call 943 [u0, u1, u2, u3] [.int i0, .int i1] w r = if i1 = i0 then Ev T_L_law (some .boolean) xs Ln call 1785 [u0, u1, u2, u3] [] w r else Ev T_L_law (some .boolean) xs Ln call 946 [u0, u1, u2, u3] [] w r := Ev.ifc rfl (by exact iteB)
set_option maxRecDepth 20000 in
theorem S_L_law_946 : Ev T_L_law (some .boolean) xs Ln call 946 [u0, u1, u2, u3] [] w r = Ev T_L_law (some .boolean) xs Ln call 947 [u0, u1, u2, u3] [.int 0] w r := Ev.nxt rfl rfl
set_option maxRecDepth 20000 in
theorem S_L_law_947 (h : okR (some .boolean) (.int i0) = true) : Ev T_L_law (some .boolean) xs Ln call 947 [u0, u1, u2, u3] [.int i0] w r = (r = (w, some (.int i0))) := Ev.rt rfl (by exact if_pos h)
set_option maxRecDepth 20000 in
theorem S_L_law_948 (h : isRf z = true) : Ev T_L_law (some .boolean) xs Ln call 948 [u0, some z, u2, u3] [] w r = Ev T_L_law (some .boolean) xs Ln call 949 [u0, some z, u2, u3] [z] w r := Ev.nxt rfl (by exact (if_pos h))
set_option maxRecDepth 20000 in
theorem S_L_law_949 (h : isRf z = true) : Ev T_L_law (some .boolean) xs Ln call 949 [some z, u1, u2, u3] [v0] w r = Ev T_L_law (some .boolean) xs Ln call 950 [some z, u1, u2, u3] [z, v0] w r := Ev.nxt rfl (by exact (if_pos h))
set_option maxRecDepth 20000 in
theorem S_L_law_950 : Ev T_L_law (some .boolean) xs Ln call 950 [u0, u1, u2, some (.int x)] [v0, v1] w r = Ev T_L_law (some .boolean) xs Ln call 951 [u0, u1, u2, some (.int x)] [.int x, v0, v1] w r := Ev.nxt rfl rfl
set_option maxRecDepth 20000 in
theorem S_L_law_951 : Ev T_L_law (some .boolean) xs Ln call 951 [u0, u1, u2, u3] [.int i0, v1, v2] w r = Ev T_L_law (some .boolean) xs Ln call 952 [u0, u1, u2, u3] [.int 1, .int i0, v1, v2] w r := Ev.nxt rfl rfl
set_option maxRecDepth 20000 in
theorem S_L_law_952 : Ev T_L_law (some .boolean) xs Ln call 952 [u0, u1, u2, u3] [.int i0, .int i1, v2, v3] w r = Ev T_L_law (some .boolean) xs Ln call 953 [u0, u1, u2, u3] [.int (i1 + i0), v2, v3] w r := Ev.nxt rfl rfl
set_option maxRecDepth 20000 in
theorem S_L_law_953 (hi : ¬ (i0 < 0 ∨ Ln ≤ i0.toNatClampNeg)) : Ev T_L_law (some .boolean) xs Ln call 953 [u0, u1, u2, u3] [.int i0, .retAddr 0, v2] w r = Ev T_L_law (some .boolean) xs Ln call 954 [u0, u1, u2, u3] [.int (xs i0.toNatClampNeg), v2] w r := Ev.nxt rfl (by exact (X_sld hi))
set_option maxRecDepth 20000 in
theorem S_L_law_954 (h : isRf z = true) : Ev T_L_law (some .boolean) xs Ln call 954 [some z, u1, u2, u3] [.int i0, v1] w r = Ev T_L_law (some .boolean) xs Ln call 955 [some z, u1, u2, u3] [z, .int i0, v1] w r := Ev.nxt rfl (by exact (if_pos h))
set_option maxRecDepth 20000 in
theorem S_L_law_955 : Ev T_L_law (some .boolean) xs Ln call 955 [u0, u1, u2, some (.int x)] [v0, .int i1, v2] w r = Ev T_L_law (some .boolean) xs Ln call 956 [u0, u1, u2, some (.int x)] [.int x, v0, .int i1, v2] w r := Ev.nxt rfl rfl
set_option maxRecDepth 20000 in
theorem S_L_law_956 : Ev T_L_law (some .boolean) xs Ln call 956 [u0, u1, u2, u3] [.int i0, v1, .int i2, v3] w r = Ev T_L_law (some .boolean) xs Ln call 957 [u0, u1, u2, u3] [.int 2, .int i0, v1, .int i2, v3] w r := Ev.nxt rfl rfl
set_option maxRecDepth 20000 in
theorem S_L_law_957 : Ev T_L_law (some .boolean) xs Ln call 957 [u0, u1, u2, u3] [.int i0, .int i1, v2, .int i3, v4] w r = Ev T_L_law (some .boolean) xs Ln call 958 [u0, u1, u2, u3] [.int (i1 + i0), v2, .int i3, v4] w r := Ev.nxt rfl rfl
set_option maxRecDepth 20000 in
theorem S_L_law_958 (hi : ¬ (i0 < 0 ∨ Ln ≤ i0.toNatClampNeg)) : Ev T_L_law (some .boolean) xs Ln call 958 [u0, u1, u2, u3] [.int i0, .retAddr 0, .int i2, v3] w r = Ev T_L_law (some .boolean) xs Ln call 959 [u0, u1, u2, u3] [.int (xs i0.toNatClampNeg), .int i2, v3] w r := Ev.nxt rfl (by exact (X_sld hi))
set_option maxRecDepth 20000 in
theorem S_L_law_959 (h : isRf z = true) : Ev T_L_law (some .boolean) xs Ln call 959 [some z, u1, u2, u3] [.int i0, .int i1, v2] w r = Ev T_L_law (some .boolean) xs Ln call 960 [some z, u1, u2, u3] [z, .int i0, .int i1, v2] w r := Ev.nxt rfl (by exact (if_pos h))
set_option maxRecDepth 20000 in
theorem S_L_law_960 : Ev T_L_law (some .boolean) xs Ln call 960 [u0, u1, u2, some (.int x)] [v0, .int i1, .int i2, v3] w r = Ev T_L_law (some .boolean) xs Ln call 961 [u0, u1, u2, some (.int x)] [.int x, v0, .int i1, .int i2, v3] w r := Ev.nxt rfl rfl
set_option maxRecDepth 20000 in
theorem S_L_law_961 : Ev T_L_law (some .boolean) xs Ln call 961 [u0, u1, u2, u3] [.int i0, v1, .int i2, .int i3, v4] w r = Ev T_L_law (some .boolean) xs Ln call 962 [u0, u1, u2, u3] [.int 3, .int i0, v1, .int i2, .int i3, v4] w r := Ev.nxt rfl rfl
set_option maxRecDepth 20000 in
theorem S_L_law_962 : Ev T_L_law (some .boolean) xs Ln call 962 [u0, u1, u2, u3] [.int i0, .int i1, v2, .int i3, .int i4, v5] w r = Ev T_L_law (some .boolean) xs Ln call 963 [u0, u1, u2, u3] [.int (i1 + i0), v2, .int i3, .int i4, v5] w r := Ev.nxt rfl rfl
set_option maxRecDepth 20000 in
theorem S_L_law_963 (hi : ¬ (i0 < 0 ∨ Ln ≤ i0.toNatClampNeg)) : Ev T_L_law (some .boolean) xs Ln call 963 [u0, u1, u2, u3] [.int i0, .retAddr 0, .int i2, .int i3, v4] w r = Ev T_L_law (some .boolean) xs Ln call 964 [u0, u1, u2, u3] [.int (xs i0.toNatClampNeg), .int i2, .int i3, v4] w r := Ev.nxt rfl (by exact (X_sld hi))
set_option maxRecDepth 20000 in
theorem S_L_law_964 (h : isObj w k3 10 = true) : Ev T_L_law (some .boolean) xs Ln call 964 [u0, u1, u2, u3] [.int i0, .int i1, .int i2, .ref k3] w r = aft T_L_law (some .boolean) xs Ln call 967 [u0, u1, u2, u3] [] r (call 110 [.ref k3, .int i2, .int i1, .int i0] w) := Ev.cl (vv := true) (k := 110) (n := 4) (nx := 967) rfl rfl (Nat.le_of_ble_eq_true rfl) (by simp [catS, Value.category]) rfl (Or.inr h)
set_option maxRecDepth 20000 in
theorem S_L_law_967 (h : isRf z = true) : Ev T_L_law (some .boolean) xs Ln call 967 [u0, u1, some z, u3] [.int i0] w r = Ev T_L_law (some .boolean) xs Ln call 968 [u0, u1, some z, u3] [z, .int i0] w r := Ev.nxt rfl (by exact (if_pos h))
set_option maxRecDepth 20000 in
theorem S_L_law_968 (h : isRf z = true) : Ev T_L_law (some .boolean) xs Ln call 968 [some z, u1, u2, u3] [v0, .int i1] w r = Ev T_L_law (some .boolean) xs Ln call 969 [some z, u1, u2, u3] [z, v0, .int i1] w r := Ev.nxt rfl (by exact (if_pos h))
set_option maxRecDepth 20000 in
theorem S_L_law_969 : Ev T_L_law (some .boolean) xs Ln call 969 [u0, u1, u2, some (.int x)] [v0, v1, .int i2] w r = Ev T_L_law (some .boolean) xs Ln call 970 [u0, u1, u2, some (.int x)] [.int x, v0, v1, .int i2] w r := Ev.nxt rfl rfl
set_option maxRecDepth 20000 in
theorem S_L_law_970 : Ev T_L_law (some .boolean) xs Ln call 970 [u0, u1, u2, u3] [.int i0, v1, v2, .int i3] w r = Ev T_L_law (some .boolean) xs Ln call 971 [u0, u1, u2, u3] [.int 1, .int i0, v1, v2, .int i3] w r := Ev.nxt rfl rfl
set_option maxRecDepth 20000 in
theorem S_L_law_971 : Ev T_L_law (some .boolean) xs Ln call 971 [u0, u1, u2, u3] [.int i0, .int i1, v2, v3, .int i4] w r = Ev T_L_law (some .boolean) xs Ln call 972 [u0, u1, u2, u3] [.int (i1 + i0), v2, v3, .int i4] w r := Ev.nxt rfl rfl
set_option maxRecDepth 20000 in
theorem S_L_law_972 (hi : ¬ (i0 < 0 ∨ Ln ≤ i0.toNatClampNeg)) : Ev T_L_law (some .boolean) xs Ln call 972 [u0, u1, u2, u3] [.int i0, .retAddr 0, v2, .int i3] w r = Ev T_L_law (some .boolean) xs Ln call 973 [u0, u1, u2, u3] [.int (xs i0.toNatClampNeg), v2, .int i3] w r := Ev.nxt rfl (by exact (X_sld hi))
set_option maxRecDepth 20000 in
theorem S_L_law_973 (h : isRf z = true) : Ev T_L_law (some .boolean) xs Ln call 973 [some z, u1, u2, u3] [.int i0, v1, .int i2] w r = Ev T_L_law (some .boolean) xs Ln call 974 [some z, u1, u2, u3] [z, .int i0, v1, .int i2] w r := Ev.nxt rfl (by exact (if_pos h))
set_option maxRecDepth 20000 in
theorem S_L_law_974 : Ev T_L_law (some .boolean) xs Ln call 974 [u0, u1, u2, some (.int x)] [v0, .int i1, v2, .int i3] w r = Ev T_L_law (some .boolean) xs Ln call 975 [u0, u1, u2, some (.int x)] [.int x, v0, .int i1, v2, .int i3] w r := Ev.nxt rfl rfl
set_option maxRecDepth 20000 in
theorem S_L_law_975 : Ev T_L_law (some .boolean) xs Ln call 975 [u0, u1, u2, u3] [.int i0, v1, .int i2, v3, .int i4] w r = Ev T_L_law (some .boolean) xs Ln call 976 [u0, u1, u2, u3] [.int 2, .int i0, v1, .int i2, v3, .int i4] w r := Ev.nxt rfl rfl
set_option maxRecDepth 20000 in
theorem S_L_law_976 : Ev T_L_law (some .boolean) xs Ln call 976 [u0, u1, u2, u3] [.int i0, .int i1, v2, .int i3, v4, .int i5] w r = Ev T_L_law (some .boolean) xs Ln call 977 [u0, u1, u2, u3] [.int (i1 + i0), v2, .int i3, v4, .int i5] w r := Ev.nxt rfl rfl
set_option maxRecDepth 20000 in
theorem S_L_law_977 (hi : ¬ (i0 < 0 ∨ Ln ≤ i0.toNatClampNeg)) : Ev T_L_law (some .boolean) xs Ln call 977 [u0, u1, u2, u3] [.int i0, .retAddr 0, .int i2, v3, .int i4] w r = Ev T_L_law (some .boolean) xs Ln call 978 [u0, u1, u2, u3] [.int (xs i0.toNatClampNeg), .int i2, v3, .int i4] w r := Ev.nxt rfl (by exact (X_sld hi))
set_option maxRecDepth 20000 in
theorem S_L_law_978 (h : isRf z = true) : Ev T_L_law (some .boolean) xs Ln call 978 [some z, u1, u2, u3] [.int i0, .int i1, v2, .int i3] w r = Ev T_L_law (some .boolean) xs Ln call 979 [some z, u1, u2, u3] [z, .int i0, .int i1, v2, .int i3] w r := Ev.nxt rfl (by exact (if_pos h))
set_option maxRecDepth 20000 in
theorem S_L_law_979 : Ev T_L_law (some .boolean) xs Ln call 979 [u0, u1, u2, some (.int x)] [v0, .int i1, .int i2, v3, .int i4] w r = Ev T_L_law (some .boolean) xs Ln call 980 [u0, u1, u2, some (.int x)] [.int x, v0, .int i1, .int i2, v3, .int i4] w r := Ev.nxt rfl rfl
set_option maxRecDepth 20000 in
theorem S_L_law_980 : Ev T_L_law (some .boolean) xs Ln call 980 [u0, u1, u2, u3] [.int i0, v1, .int i2, .int i3, v4, .int i5] w r = Ev T_L_law (some .boolean) xs Ln call 981 [u0, u1, u2, u3] [.int 3, .int i0, v1, .int i2, .int i3, v4, .int i5] w r := Ev.nxt rfl rfl
set_option maxRecDepth 20000 in
theorem S_L_law_981 : Ev T_L_law (some .boolean) xs Ln call 981 [u0, u1, u2, u3] [.int i0, .int i1, v2, .int i3, .int i4, v5, .int i6] w r = Ev T_L_law (some .boolean) xs Ln call 982 [u0, u1, u2, u3] [.int (i1 + i0), v2, .int i3, .int i4, v5, .int i6] w r := Ev.nxt rfl rfl
set_option maxRecDepth 20000 in
theorem S_L_law_982 (hi : ¬ (i0 < 0 ∨ Ln ≤ i0.toNatClampNeg)) : Ev T_L_law (some .boolean) xs Ln call 982 [u0, u1, u2, u3] [.int i0, .retAddr 0, .int i2, .int i3, v4, .int i5] w r = Ev T_L_law (some .boolean) xs Ln call 983 [u0, u1, u2, u3] [.int (xs i0.toNatClampNeg), .int i2, .int i3, v4, .int i5] w r := Ev.nxt rfl (by exact (X_sld hi))
set_option maxRecDepth 20000 in
theorem S_L_law_983 (h : isObj w k3 11 = true) : Ev T_L_law (some .boolean) xs Ln call 983 [u0, u1, u2, u3] [.int i0, .int i1, .int i2, .ref k3, .int i4] w r = aft T_L_law (some .boolean) xs Ln call 986 [u0, u1, u2, u3] [.int i4] r (call 235 [.ref k3, .int i2, .int i1, .int i0] w) := Ev.cl (vv := true) (k := 235) (n := 4) (nx := 986) rfl rfl (Nat.le_of_ble_eq_true rfl) (by simp [catS, Value.category]) rfl (Or.inr h)
set_option maxRecDepth 20000 in
theorem S_L_law_986 : Ev T_L_law (some .boolean) xs Ln call 986 [u0, u1, u2, u3] [.int i0, .int i1] w r = if i1 = i0 then Ev T_L_law (some .boolean) xs Ln call 1785 [u0, u1, u2, u3] [] w r else Ev T_L_law (some .boolean) xs Ln call 989 [u0, u1, u2, u3] [] w r := Ev.ifc rfl (by exact iteB)
set_option maxRecDepth 20000 in
theorem S_L_law_989 : Ev T_L_law (some .boolean) xs Ln call 989 [u0, u1, u2, u3] [] w r = Ev T_L_law (some .boolean) xs Ln call 990 [u0, u1, u2, u3] [.int 0] w r := Ev.nxt rfl rfl
set_option maxRecDepth 20000 in
theorem S_L_law_990 (h : okR (some .boolean) (.int i0) = true) : Ev T_L_law (some .boolean) xs Ln call 990 [u0, u1, u2, u3] [.int i0] w r = (r = (w, some (.int i0))) := Ev.rt rfl (by exact if_pos h)
set_option maxRecDepth 20000 in
theorem S_L_law_991 (h : isRf z = true) : Ev T_L_law (some .boolean) xs Ln call 991 [u0, some z, u2, u3] [] w r = Ev T_L_law (some .boolean) xs Ln call 992 [u0, some z, u2, u3] [z] w r := Ev.nxt rfl (by exact (if_pos h))
set_option maxRecDepth 20000 in
theorem S_L_law_992 (h : isRf z = true) : Ev T_L_law (some .boolean) xs Ln call 992 [some z, u1, u2, u3] [v0] w r = Ev T_L_law (some .boolean) xs Ln call 993 [some z, u1, u2, u3] [z, v0] w r := Ev.nxt rfl (by exact (if_pos h))
set_option maxRecDepth 20000 in
theorem S_L_law_993 : Ev T_L_law (some .boolean) xs Ln call 993 [u0, u1, u2, some (.int x)] [v0, v1] w r = Ev T_L_law (some .boolean) xs Ln call 994 [u0, u1, u2, some (.int x)] [.int x, v0, v1] w r := Ev.nxt rfl rfl
set_option maxRecDepth 20000 in
theorem S_L_law_994 : Ev T_L_law (some .boolean) xs Ln call 994 [u0, u1, u2, u3] [.int i0, v1, v2] w r = Ev T_L_law (some .boolean) xs Ln call 995 [u0, u1, u2, u3] [.int 1, .int i0, v1, v2] w r := Ev.nxt rfl rfl
set_option maxRecDepth 20000 in
theorem S_L_law_995 : Ev T_L_law (some .boolean) xs Ln call 995 [u0, u1, u2, u3] [.int i0, .int i1, v2, v3] w r = Ev T_L_law (some .boolean) xs Ln call 996 [u0, u1, u2, u3] [.int (i1 + i0), v2, v3] w r := Ev.nxt rfl rfl
set_option maxRecDepth 20000 in
theorem S_L_law_996 (hi : ¬ (i0 < 0 ∨ Ln ≤ i0.toNatClampNeg)) : Ev T_L_law (some .boolean) xs Ln call 996 [u0, u1, u2, u3] [.int i0, .retAddr 0, v2] w r = Ev T_L_law (some .boolean) xs Ln call 997 [u0, u1, u2, u3] [.int (xs i0.toNatClampNeg), v2] w r := Ev.nxt rfl (by exact (X_sld hi))
set_option maxRecDepth 20000 in
theorem S_L_law_997 (h : isRf z = true) : Ev T_L_law (some .boolean) xs Ln call 997 [some z, u1, u2, u3] [.int i0, v1] w r = Ev T_L_law (some .boolean) xs Ln call 998 [some z, u1, u2, u3] [z, .int i0, v1] w r := Ev.nxt rfl (by exact (if_pos h))
set_option maxRecDepth 20000 in
theorem S_L_law_998 : Ev T_L_law (some .boolean) xs Ln call 998 [u0, u1, u2, some (.int x)] [v0, .int i1, v2] w r = Ev T_L_law (some .boolean) xs Ln call 999 [u0, u1, u2, some (.int x)] [.int x, v0, .int i1, v2] w r := Ev.nxt rfl rfl
set_option maxRecDepth 20000 in
theorem S_L_law_999 : Ev T_L_law (some .boolean) xs Ln call 999 [u0, u1, u2, u3] [.int i0, v1, .int i2, v3] w r = Ev T_L_law (some .boolean) xs Ln call 1000 [u0, u1, u2, u3] [.int 2, .int i0, v1, .int i2, v3] w r := Ev.nxt rfl rfl
set_option maxRecDepth 20000 in
theorem S_L_law_1000 : Ev T_L_law (some .boolean) xs Ln call 1000 [u0, u1, u2, u3] [.int i0, .int i1, v2, .int i3, v4] w r = Ev T_L_law (some .boolean) xs Ln call 1001 [u0, u1, u2, u3] [.int (i1 + i0), v2, .int i3, v4] w r := Ev.nxt rfl rfl
set_option maxRecDepth 20000 in
theorem S_L_law_1001 (hi : ¬ (i0 < 0 ∨ Ln ≤ i0.toNatClampNeg)) : Ev T_L_law (some .boolean) xs Ln call 1001 [u0, u1, u2, u3] [.int i0, .retAddr 0, .int i2, v3] w r = Ev T_L_law (some .boolean) xs Ln call 1002 [u0, u1, u2, u3] [.int (xs i0.toNatClampNeg), .int i2, v3] w r := Ev.nxt rfl (by exact (X_sld hi))
set_option maxRecDepth 20000 in
theorem S_L_law_1002 (h : isObj w k2 10 = true) : Ev T_L_law (some .boolean) xs Ln call 1002 [u0, u1, u2, u3] [.int i0, .int i1, .ref k2] w r = aft T_L_law (some .boolean) xs Ln call 1005 [u0, u1, u2, u3] [] r (call 111 [.ref k2, .int i1, .int i0] w) := Ev.cl (vv := true) (k := 111) (n := 3) (nx := 1005) rfl rfl (Nat.le_of_ble_eq_true rfl) (by simp [catS, Value.category]) rfl (Or.inr h)
set_option maxRecDepth 20000 in
theorem S_L_law_1005 (h : isRf z = true) : Ev T_L_law (some .boolean) xs Ln call 1005 [u0, u1, some z, u3] [.int i0] w r = Ev T_L_law (some .boolean) xs Ln call 1006 [u0, u1, some z, u3] [z, .int i0] w r := Ev.nxt rfl (by exact (if_pos h))
set_option maxRecDepth 20000 in
theorem S_L_law_1006 (h : isRf z = true) : Ev T_L_law (some .boolean) xs Ln call 1006 [some z, u1, u2, u3] [v0, .int i1] w r = Ev T_L_law (some .boolean) xs Ln call 1007 [some z, u1, u2, u3] [z, v0, .int i1] w r := Ev.nxt rfl (by exact (if_pos h))
set_option maxRecDepth 20000 in
theorem S_L_law_1007 : Ev T_L_law (some .boolean) xs Ln call 1007 [u0, u1, u2, some (.int x)] [v0, v1, .int i2] w r = Ev T_L_law (some .boolean) xs Ln call 1008 [u0, u1, u2, some (.int x)] [.int x, v0, v1, .int i2] w r := Ev.nxt rfl rfl
set_option maxRecDepth 20000 in
theorem S_L_law_1008 : Ev T_L_law (some .boolean) xs Ln call 1008 [u0, u1, u2, u3] [.int i0, v1, v2, .int i3] w r = Ev T_L_law (some .boolean) xs Ln call 1009 [u0, u1, u2, u3] [.int 1, .int i0, v1, v2, .int i3] w r := Ev.nxt rfl rfl
set_option maxRecDepth 20000 in
theorem S_L_law_1009 : Ev T_L_law (some .boolean) xs Ln call 1009 [u0, u1, u2, u3] [.int i0, .int i1, v2, v3, .int i4] w r = Ev T_L_law (some .boolean) xs Ln call 1010 [u0, u1, u2, u3] [.int (i1 + i0), v2, v3, .int i4] w r := Ev.nxt rfl rfl
set_option maxRecDepth 20000 in
theorem S_L_law_1010 (hi : ¬ (i0 < 0 ∨ Ln ≤ i0.toNatClampNeg)) : Ev T_L_law (some .boolean) xs Ln call 1010 [u0, u1, u2, u3] [.int i0, .retAddr 0, v2, .int i3] w r = Ev T_L_law (some .boolean) xs Ln call 1011 [u0, u1, u2, u3] [.int (xs i0.toNatClampNeg), v2, .int i3] w r := Ev.nxt rfl (by exact (X_sld hi))
set_option maxRecDepth 20000 in
theorem S_L_law_1011 (h : isRf z = true) : Ev T_L_law (some .boolean) xs Ln call 1011 [some z, u1, u2, u3] [.int i0, v1, .int i2] w r = Ev T_L_law (some .boolean) xs Ln call 1012 [some z, u1, u2, u3] [z, .int i0, v1, .int i2] w r := Ev.nxt rfl (by exact (if_pos h))
set_option maxRecDepth 20000 in
theorem S_L_law_1012 : Ev T_L_law (some .boolean) xs Ln call 1012 [u0, u1, u2, some (.int x)] [v0, .int i1, v2, .int i3] w r = Ev T_L_law (some .boolean) xs Ln call 1013 [u0, u1, u2, some (.int x)] [.int x, v0, .int i1, v2, .int i3] w r := Ev.nxt rfl rfl
set_option maxRecDepth 20000 in
theorem S_L_law_1013 : Ev T_L_law (some .boolean) xs Ln call 1013 [u0, u1, u2, u3] [.int i0, v1, .int i2, v3, .int i4] w r = Ev T_L_law (some .boolean) xs Ln call 1014 [u0, u1, u2, u3] [.int 2, .int i0, v1, .int i2, v3, .int i4] w r := Ev.nxt rfl rfl
set_option maxRecDepth 20000 in
theorem S_L_law_1014 : Ev T_L_law (some .boolean) xs Ln call 1014 [u0, u1, u2, u3] [.int i0, .int i1, v2, .int i3, v4, .int i5] w r = Ev T_L_law (some .boolean) xs Ln call 1015 [u0, u1, u2, u3] [.int (i1 + i0), v2, .int i3, v4, .int i5] w r := Ev.nxt rfl rfl
set_option maxRecDepth 20000 in
theorem S_L_law_1015 (hi : ¬ (i0 < 0 ∨ Ln ≤ i0.toNatClampNeg)) : Ev T_L_law (some .boolean) xs Ln call 1015 [u0, u1, u2, u3] [.int i0, .retAddr 0, .int i2, v3, .int i4] w r = Ev T_L_law (some .boolean) xs Ln call 1016 [u0, u1, u2, u3] [.int (xs i0.toNatClampNeg), .int i2, v3, .int i4] w r := Ev.nxt rfl (by exact (X_sld hi))
set_option maxRecDepth 20000 in
theorem S_L_law_1016 (h : isObj w k2 11 = true) : Ev T_L_law (some .boolean) xs Ln call 1016 [u0, u1, u2, u3] [.int i0, .int i1, .ref k2, .int i3] w r = aft T_L_law (some .boolean) xs Ln call 1019 [u0, u1, u2, u3] [.int i3] r (call 236 [.ref k2, .int i1, .int i0] w) := Ev.cl (vv := true) (k := 236) (n := 3) (nx := 1019) rfl rfl (Nat.le_of_ble_eq_true rfl) (by simp [catS, Value.category]) rfl (Or.inr h)
set_option maxRecDepth 20000 in
theorem S_L_law_1019 : Ev T_L_law (some .boolean) xs Ln call 1019 [u0, u1, u2, u3] [.int i0, .int i1] w r = if i1 = i0 then Ev T_L_law (some .boolean) xs Ln call 1785 [u0, u1, u2, u3] [] w r else Ev T_L_law (some .boolean) xs Ln call 1022 [u0, u1, u2, u3] [] w r := Ev.ifc rfl (by exact iteB)
set_option maxRecDepth 20000 in
theorem S_L_law_1022 : Ev T_L_law (some .boolean) xs Ln call 1022 [u0, u1, u2, u3] [] w r = Ev T_L_law (some .boolean) xs Ln call 1023 [u0, u1, u2, u3] [.int 0] w r := Ev.nxt rfl rfl
set_option maxRecDepth 20000 in
theorem S_L_law_1023 (h : okR (some .boolean) (.int i0) = true) : Ev T_L_law (some .boolean) xs Ln call 1023 [u0, u1, u2, u3] [.int i0] w r = (r = (w, some (.int i0))) := Ev.rt rfl (by exact if_pos h)
set_option maxRecDepth 20000 in
theorem S_L_law_1024 (h : isRf z = true) : Ev T_L_law (some .boolean) xs Ln call 1024 [u0, some z, u2, u3] [] w r = Ev T_L_law (some .boolean) xs Ln call 1025 [u0, some z, u2, u3] [z] w r := Ev.nxt rfl (by exact (if_pos h))
set_option maxRecDepth 20000 in
theorem S_L_law_1025 (h : isRf z = true) : Ev T_L_law (some .boolean) xs Ln call 1025 [some z, u1, u2, u3] [v0] w r = Ev T_L_law (some .boolean) xs Ln call 1026 [some z, u1, u2, u3] [z, v0] w r := Ev.nxt rfl (by exact (if_pos h))
set_option maxRecDepth 20000 in
theorem S_L_law_1026 : Ev T_L_law (some .boolean) xs Ln call 1026 [u0, u1, u2, some (.int x)] [v0, v1] w r = Ev T_L_law (some .boolean) xs Ln call 1027 [u0, u1, u2, some (.int x)] [.int x, v0, v1] w r := Ev.nxt rfl rfl
set_option maxRecDepth 20000 in
theorem S_L_law_1027 : Ev T_L_law (some .boolean) xs Ln call 1027 [u0, u1, u2, u3] [.int i0, v1, v2] w r = Ev T_L_law (some .boolean) xs Ln call 1028 [u0, u1, u2, u3] [.int 1, .int i0, v1, v2] w r := Ev.nxt rfl rfl
set_option maxRecDepth 20000 in
theorem S_L_law_1028 : Ev T_L_law (some .boolean) xs Ln call 1028 [u0, u1, u2, u3] [.int i0, .int i1, v2, v3] w r = Ev T_L_law (some .boolean) xs Ln call 1029 [u0, u1, u2, u3] [.int (i1 + i0), v2, v3] w r := Ev.nxt rfl rfl
set_option maxRecDepth 20000 in
theorem S_L_law_1029 (hi : ¬ (i0 < 0 ∨ Ln ≤ i0.toNatClampNeg)) : Ev T_L_law (some .boolean) xs Ln call 1029 [u0, u1, u2, u3] [.int i0, .retAddr 0, v2] w r = Ev T_L_law (some .boolean) xs Ln call 1030 [u0, u1, u2, u3] [.int (xs i0.toNatClampNeg), v2] w r := Ev.nxt rfl (by exact (X_sld hi))
set_option maxRecDepth 20000 in
theorem S_L_law_1030 (h : isRf z = true) : Ev T_L_law (some .boolean) xs Ln call 1030 [some z, u1, u2, u3] [.int i0, v1] w r = Ev T_L_law (some .boolean) xs Ln call 1031 [some z, u1, u2, u3] [z, .int i0, v1] w r := Ev.nxt rfl (by exact (if_pos h))
set_option maxRecDepth 20000 in
theorem S_L_law_1031 : Ev T_L_law (some .boolean) xs Ln call 1031 [u0, u1, u2, some (.int x)] [v0, .int i1, v2] w r = Ev T_L_law (some .boolean) xs Ln call 1032 [u0, u1, u2, some (.int x)] [.int x, v0, .int i1, v2] w r := Ev.nxt rfl rfl
set_option maxRecDepth 20000 in
theorem S_L_law_1032 : Ev T_L_law (some .boolean) xs Ln call 1032 [u0, u1, u2, u3] [.int i0, v1, .int i2, v3] w r = Ev T_L_law (some .boolean) xs Ln call 1033 [u0, u1, u2, u3] [.int 2, .int i0, v1, .int i2, v3] w r := Ev.nxt rfl rfl
set_option maxRecDepth 20000 in
theorem S_L_law_1033 : Ev T_L_law (some .boolean) xs Ln call 1033 [u0, u1, u2, u3] [.int i0, .int i1, v2, .int i3, v4] w r = Ev T_L_law (some .boolean) xs Ln call 1034 [u0, u1, u2, u3] [.int (i1 + i0), v2, .int i3, v4] w r := Ev.nxt rfl rfl
set_option maxRecDepth 20000 in
theorem S_L_law_1034 (hi : ¬ (i0 < 0 ∨ Ln ≤ i0.toNatClampNeg)) : Ev T_L_law (some .boolean) xs Ln call 1034 [u0, u1, u2, u3] [.int i0, .retAddr 0, .int i2, v3] w r = Ev T_L_law (some .boolean) xs Ln call 1035 [u0, u1, u2, u3] [.int (xs i0.toNatClampNeg), .int i2, v3] w r := Ev.nxt rfl (by exact (X_sld hi))
set_option maxRecDepth 20000 in
theorem S_L_law_1035 (h : isRf z = true) : Ev T_L_law (some .boolean) xs Ln call 1035 [some z, u1, u2, u3] [.int i0, .int i1, v2] w r = Ev T_L_law (some .boolean) xs Ln call 1036 [some z, u1, u2, u3] [z, .int i0, .int i1, v2] w r := Ev.nxt rfl (by exact (if_pos h))
set_option maxRecDepth 20000 in
theorem S_L_law_1036 : Ev T_L_law (some .boolean) xs Ln call 1036 [u0, u1, u2, some (.int x)] [v0, .int i1, .int i2, v3] w r = Ev T_L_law (some .boolean) xs Ln call 1037 [u0, u1, u2, some (.int x)] [.int x, v0, .int i1, .int i2, v3] w r := Ev.nxt rfl rfl
set_option maxRecDepth 20000 in
theorem S_L_law_1037 : Ev T_L_law (some .boolean) xs Ln call 1037 [u0, u1, u2, u3] [.int i0, v1, .int i2, .int i3, v4] w r = Ev T_L_law (some .boolean) xs Ln call 1038 [u0, u1, u2, u3] [.int 3, .int i0, v1, .int i2, .int i3, v4] w r := Ev.nxt rfl rfl
set_option maxRecDepth 20000 in
theorem S_L_law_1038 : Ev T_L_law (some .boolean) xs Ln call 1038 [u0, u1, u2, u3] [.int i0, .int i1, v2, .int i3, .int i4, v5] w r = Ev T_L_law (some .boolean) xs Ln call 1039 [u0, u1, u2, u3] [.int (i1 + i0), v2, .int i3, .int i4, v5] w r := Ev.nxt rfl rfl
set_option maxRecDepth 20000 in
theorem S_L_law_1039 (hi : ¬ (i0 < 0 ∨ Ln ≤ i0.toNatClampNeg)) : Ev T_L_law (some .boolean) xs Ln call 1039 [u0, u1, u2, u3] [.int i0, .retAddr 0, .int i2, .int i3, v4] w r = Ev T_L_law (some .boolean) xs Ln call 1040 [u0, u1, u2, u3] [.int (xs i0.toNatClampNeg), .int i2, .int i3, v4] w r := Ev.nxt rfl (by exact (X_sld hi))
set_option maxRecDepth 20000 in
theorem S_L_law_1040 (h : isObj w k3 10 = true) : Ev T_L_law (some .boolean) xs Ln call 1040 [u0, u1, u2, u3] [.int i0, .int i1, .int i2, .ref k3] w r = aft T_L_law (some .boolean) xs Ln call 1043 [u0, u1, u2, u3] [] r (call 105 [.ref k3, .int i2, .int i1, .int i0] w) := Ev.cl (vv := true) (k := 105) (n := 4) (nx := 1043) rfl rfl (Nat.le_of_ble_eq_true rfl) (by simp [catS, Value.category]) rfl (Or.inr h)
set_option maxRecDepth 20000 in
theorem S_L_law_1043 (h : isRf z = true) : Ev T_L_law (some .boolean) xs Ln call 1043 [u0, u1, some z, u3] [.int i0] w r = Ev T_L_law (some .boolean) xs Ln call 1044 [u0, u1, some z, u3] [z, .int i0] w r := Ev.nxt rfl (by exact (if_pos h))
set_option maxRecDepth 20000 in
theorem S_L_law_1044 (h : isRf z = true) : Ev T_L_law (some .boolean) xs Ln call 1044 [some z, u1, u2, u3] [v0, .int i1] w r = Ev T_L_law (some .boolean) xs Ln call 1045 [some z, u1, u2, u3] [z, v0, .int i1] w r := Ev.nxt rfl (by exact (if_pos h))
set_option maxRecDepth 20000 in
theorem S_L_law_1045 : Ev T_L_law (some .boolean) xs Ln call 1045 [u0, u1, u2, some (.int x)] [v0, v1, .int i2] w r = Ev T_L_law (some .boolean) xs Ln call 1046 [u0, u1, u2, some (.int x)] [.int x, v0, v1, .int i2] w r := Ev.nxt rfl rfl
set_option maxRecDepth 20000 in
theorem S_L_law_1046 : Ev T_L_law (some .boolean) xs Ln call 1046 [u0, u1, u2, u3] [.int i0, v1, v2, .int i3] w r = Ev T_L_law (some .boolean) xs Ln call 1047 [u0, u1, u2, u3] [.int 1, .int i0, v1, v2, .int i3] w r := Ev.nxt rfl rfl
set_option maxRecDepth 20000 in
theorem S_L_law_1047 : Ev T_L_law (some .boolean) xs Ln call 1047 [u0, u1, u2, u3] [.int i0, .int i1, v2, v3, .int i4] w r = Ev T_L_law (some .boolean) xs Ln call 1048 [u0, u1, u2, u3] [.int (i1 + i0), v2, v3, .int i4] w r := Ev.nxt rfl rfl
set_option maxRecDepth 20000 in
theorem S_L_law_1048 (hi : ¬ (i0 < 0 ∨ Ln ≤ i0.toNatClampNeg)) : Ev T_L_law (some .boolean) xs Ln call 1048 [u0, u1, u2, u3] [.int i0, .retAddr 0, v2, .int i3] w r = Ev T_L_law (some .boolean) xs Ln call 1049 [u0, u1, u2, u3] [.int (xs i0.toNatClampNeg), v2, .int i3] w r := Ev.nxt rfl (by exact (X_sld hi))
set_option maxRecDepth 20000 in
theorem S_L_law_1049 (h : isRf z = true) : Ev T_L_law (some .boolean) xs Ln call 1049 [some z, u1, u2, u3] [.int i0, v1, .int i2] w r = Ev T_L_law (some .boolean) xs Ln call 1050 [some z, u1, u2, u3] [z, .int i0, v1, .int i2] w r := Ev.nxt rfl (by exact (if_pos h))
set_option maxRecDepth 20000 in
theorem S_L_law_1050 : Ev T_L_law (some .boolean) xs Ln call 1050 [u0, u1, u2, some (.int x)] [v0, .int i1, v2, .int i3] w r = Ev T_L_law (some .boolean) xs Ln call 1051 [u0, u1, u2, some (.int x)] [.int x, v0, .int i1, v2, .int i3] w r := Ev.nxt rfl rfl
set_option maxRecDepth 20000 in
theorem S_L_law_1051 : Ev T_L_law (some .boolean) xs Ln call 1051 [u0, u1, u2, u3] [.int i0, v1, .int i2, v3, .int i4] w r = Ev T_L_law (some .boolean) xs Ln call 1052 [u0, u1, u2, u3] [.int 2, .int i0, v1, .int i2, v3, .int i4] w r := Ev.nxt rfl rfl
set_option maxRecDepth 20000 in
theorem S_L_law_1052 : Ev T_L_law (some .boolean) xs Ln call 1052 [u0, u1, u2, u3] [.int i0, .int i1, v2, .int i3, v4, .int i5] w r = Ev T_L_law (some .boolean) xs Ln call 1053 [u0, u1, u2, u3] [.int (i1 + i0), v2, .int i3, v4, .int i5] w r := Ev.nxt rfl rfl
set_option maxRecDepth 20000 in
theorem S_L_law_1053 (hi : ¬ (i0 < 0 ∨ Ln ≤ i0.toNatClampNeg)) : Ev T_L_law (some .boolean) xs Ln call 1053 [u0, u1, u2, u3] [.int i0, .retAddr 0, .int i2, v3, .int i4] w r = Ev T_L_law (some .boolean) xs Ln call 1054 [u0, u1, u2, u3] [.int (xs i0.toNatClampNeg), .int i2, v3, .int i4] w r := Ev.nxt rfl (by exact (X_sld hi))
set_option maxRecDepth 20000 in
theorem S_L_law_1054 (h : isRf z = true) : Ev T_L_law (some .boolean) xs Ln call 1054 [some z, u1, u2, u3] [.int i0, .int i1, v2, .int i3] w r = Ev T_L_law (some .boolean) xs Ln call 1055 [some z, u1, u2, u3] [z, .int i0, .int i1, v2, .int i3] w r := Ev.nxt rfl (by exact (if_pos h))
set_option maxRecDepth 20000 in
theorem S_L_law_1055 : Ev T_L_law (some .boolean) xs Ln call 1055 [u0, u1, u2, some (.int x)] [v0, .int i1, .int i2, v3, .int i4] w r = Ev T_L_law (some .boolean) xs Ln call 1056 [u0, u1, u2, some (.int x)] [.int x, v0, .int i1, .int i2, v3, .int i4] w r := Ev.nxt rfl rfl
set_option maxRecDepth 20000 in
theorem S_L_law_1056 : Ev T_L_law (some .boolean) xs Ln call 1056 [u0, u1, u2, u3] [.int i0, v1, .int i2, .int i3, v4, .int i5] w r = Ev T_L_law (some .boolean) xs Ln call 1057 [u0, u1, u2, u3] [.int 3, .int i0, v1, .int i2, .int i3, v4, .int i5] w r := Ev.nxt rfl rfl
set_option maxRecDepth 20000 in
theorem S_L_law_1057 : Ev T_L_law (some .boolean) xs Ln call 1057 [u0, u1, u2, u3] [.int i0, .int i1, v2, .int i3, .int i4, v5, .int i6] w r = Ev T_L_law (some .boolean) xs Ln call 1058 [u0, u1, u2, u3] [.int (i1 + i0), v2, .int i3, .int i4, v5, .int i6] w r := Ev.nxt rfl rfl
set_option maxRecDepth 20000 in
theorem S_L_law_1058 (hi : ¬ (i0 < 0 ∨ Ln ≤ i0.toNatClampNeg)) : Ev T_L_law (some .boolean) xs Ln call 1058 [u0, u1, u2, u3] [.int i0, .retAddr 0, .int i2, .int i3, v4, .int i5] w r = Ev T_L_law (some .boolean) xs Ln call 1059 [u0, u1, u2, u3] [.int (xs i0.toNatClampNeg), .int i2, .int i3, v4, .int i5] w r := Ev.nxt rfl (by exact (X_sld hi))
set_option maxRecDepth 20000 in
theorem S_L_law_1059 (h : isObj w k3 11 = true) : Ev T_L_law (some .boolean) xs Ln call 1059 [u0, u1, u2, u3] [.int i0, .int i1, .int i2, .ref k3, .int i4] w r = aft T_L_law (some .boolean) xs Ln call 1062 [u0, u1, u2, u3] [.int i4] r (call 237 [.ref k3, .int i2, .int i1, .int i0] w) := Ev.cl (vv := true) (k := 237) (n := 4) (nx := 1062) rfl rfl (Nat.le_of_ble_eq_true rfl) (by simp [catS, Value.category]) rfl (Or.inr h)
set_option maxRecDepth 20000 in
theorem S_L_law_1062 : Ev T_L_law (some .boolean) xs Ln call 1062 [u0, u1, u2, u3] [.int i0, .int i1] w r = if i1 = i0 then Ev T_L_law (some .boolean) xs Ln call 1785 [u0, u1, u2, u3] [] w r else Ev T_L_law (some .boolean) xs Ln call 1065 [u0, u1, u2, u3] [] w r := Ev.ifc rfl (by exact iteB)
set_option maxRecDepth 20000 in
theorem S_L_law_1065 : Ev T_L_law (some .boolean) xs Ln call 1065 [u0, u1, u2, u3] [] w r = Ev T_L_law (some .boolean) xs Ln call 1066 [u0, u1, u2, u3] [.int 0] w r := Ev.nxt rfl rfl
set_option maxRecDepth 20000 in
theorem S_L_law_1066 (h : okR (some .boolean) (.int i0) = true) : Ev T_L_law (some .boolean) xs Ln call 1066 [u0, u1, u2, u3] [.int i0] w r = (r = (w, some (.int i0))) := Ev.rt rfl (by exact if_pos h)
set_option maxRecDepth 20000 in
theorem S_L_law_1067 (h : isRf z = true) : Ev T_L_law (some .boolean) xs Ln call 1067 [u0, some z, u2, u3] [] w r = Ev T_L_law (some .boolean) xs Ln call 1068 [u0, some z, u2, u3] [z] w r := Ev.nxt rfl (by exact (if_pos h))
set_option maxRecDepth 20000 in
theorem S_L_law_1068 (h : isRf z = true) : Ev T_L_law (some .boolean) xs Ln call 1068 [some z, u1, u2, u3] [v0] w r = Ev T_L_law (some .boolean) xs Ln call 1069 [some z, u1, u2, u3] [z, v0] w r := Ev.nxt rfl (by exact (if_pos h))
set_option maxRecDepth 20000 in
theorem S_L_law_1069 : Ev T_L_law (some .boolean) xs Ln call 1069 [u0, u1, u2, some (.int x)] [v0, v1] w r = Ev T_L_law (some .boolean) xs Ln call 1070 [u0, u1, u2, some (.int x)] [.int x, v0, v1] w r := Ev.nxt rfl rfl
set_option maxRecDepth 20000 in
theorem S_L_law_1070 : Ev T_L_law (some .boolean) xs Ln call 1070 [u0, u1, u2, u3] [.int i0, v1, v2] w r = Ev T_L_law (some .boolean) xs Ln call 1071 [u0, u1, u2, u3] [.int 1, .int i0, v1, v2] w r := Ev.nxt rfl rfl
set_option maxRecDepth 20000 in
theorem S_L_law_1071 : Ev T_L_law (some .boolean) xs Ln call 1071 [u0, u1, u2, u3] [.int i0, .int i1, v2, v3] w r = Ev T_L_law (some .boolean) xs Ln call 1072 [u0, u1, u2, u3] [.int (i1 + i0), v2, v3] w r := Ev.nxt rfl rfl
set_option maxRecDepth 20000 in
theorem S_L_law_1072 (hi : ¬ (i0 < 0 ∨ Ln ≤ i0.toNatClampNeg)) : Ev T_L_law (some .boolean) xs Ln call 1072 [u0, u1, u2, u3] [.int i0, .retAddr 0, v2] w r = Ev T_L_law (some .boolean) xs Ln call 1073 [u0, u1, u2, u3] [.int (xs i0.toNatClampNeg), v2] w r := Ev.nxt rfl (by exact (X_sld hi))
set_option maxRecDepth 20000 in
theorem S_L_law_1073 (h : isRf z = true) : Ev T_L_law (some .boolean) xs Ln call 1073 [some z, u1, u2, u3] [.int i0, v1] w r = Ev T_L_law (some .boolean) xs Ln call 1074 [some z, u1, u2, u3] [z, .int i0, v1] w r := Ev.nxt rfl (by exact (if_pos h))
set_option maxRecDepth 20000 in
theorem S_L_law_1074 : Ev T_L_law (some .boolean) xs Ln call 1074 [u0, u1, u2, some (.int x)] [v0, .int i1, v2] w r = Ev T_L_law (some .boolean) xs Ln call 1075 [u0, u1, u2, some (.int x)] [.int x, v0, .int i1, v2] w r := Ev.nxt rfl rfl
set_option maxRecDepth 20000 in
theorem S_L_law_1075 : Ev T_L_law (some .boolean) xs Ln call 1075 [u0, u1, u2, u3] [.int i0, v1, .int i2, v3] w r = Ev T_L_law (some .boolean) xs Ln call 1076 [u0, u1, u2, u3] [.int 2, .int i0, v1, .int i2, v3] w r := Ev.nxt rfl rfl
set_option maxRecDepth 20000 in
theorem S_L_law_1076 : Ev T_L_law (some .boolean) xs Ln call 1076 [u0, u1, u2, u3] [.int i0, .int i1, v2, .int i3, v4] w r = Ev T_L_law (some .boolean) xs Ln call 1077 [u0, u1, u2, u3] [.int (i1 + i0), v2, .int i3, v4] w r := Ev.nxt rfl rfl
set_option maxRecDepth 20000 in
theorem S_L_law_1077 (hi : ¬ (i0 < 0 ∨ Ln ≤ i0.toNatClampNeg)) : Ev T_L_law (some .boolean) xs Ln call 1077 [u0, u1, u2, u3] [.int i0, .retAddr 0, .int i2, v3] w r = Ev T_L_law (some .boolean) xs Ln call 1078 [u0, u1, u2, u3] [.int (xs i0.toNatClampNeg), .int i2, v3] w r := Ev.nxt rfl (by exact (X_sld hi))
set_option maxRecDepth 20000 in
theorem S_L_law_1078 (h : isRf z = true) : Ev T_L_law (some .boolean) xs Ln call 1078 [some z, u1, u2, u3] [.int i0, .int i1, v2] w r = Ev T_L_law (some .boolean) xs Ln call 1079 [some z, u1, u2, u3] [z, .int i0, .int i1, v2] w r := Ev.nxt rfl (by exact (if_pos h))
set_option maxRecDepth 20000 in
theorem S_L_law_1079 : Ev T_L_law (some .boolean) xs Ln call 1079 [u0, u1, u2, some (.int x)] [v0, .int i1, .int i2, v3] w r = Ev T_L_law (some .boolean) xs Ln call 1080 [u0, u1, u2, some (.int x)] [.int x, v0, .int i1, .int i2, v3] w r := Ev.nxt rfl rfl
set_option maxRecDepth 20000 in
theorem S_L_law_1080 : Ev T_L_law (some .boolean) xs Ln call 1080 [u0, u1, u2, u3] [.int i0, v1, .int i2, .int i3, v4] w r = Ev T_L_law (some .boolean) xs Ln call 1081 [u0, u1, u2, u3] [.int 3, .int i0, v1, .int i2, .int i3, v4] w r := Ev.nxt rfl rfl
set_option maxRecDepth 20000 in
theorem S_L_law_1081 : Ev T_L_law (some .boolean) xs Ln call 1081 [u0, u1, u2, u3] [.int i0, .int i1, v2, .int i3, .int i4, v5] w r = Ev T_L_law (some .boolean) xs Ln call 1082 [u0, u1, u2, u3] [.int (i1 + i0), v2, .int i3, .int i4, v5] w r := Ev.nxt rfl rfl
set_option maxRecDepth 20000 in
theorem S_L_law_1082 (hi : ¬ (i0 < 0 ∨ Ln ≤ i0.toNatClampNeg)) : Ev T_L_law (some .boolean) xs Ln call 1082 [u0, u1, u2, u3] [.int i0, .retAddr 0, .int i2, .int i3, v4] w r = Ev T_L_law (some .boolean) xs Ln call 1083 [u0, u1, u2, u3] [.int (xs i0.toNatClampNeg), .int i2, .int i3, v4] w r := Ev.nxt rfl (by exact (X_sld hi))
set_option maxRecDepth 20000 in
theorem S_L_law_1083 (h : isObj w k3 10 = true) : Ev T_L_law (some .boolean) xs Ln call 1083 [u0, u1, u2, u3] [.int i0, .int i1, .int i2, .ref k3] w r = aft T_L_law (some .boolean) xs Ln call 1086 [u0, u1, u2, u3] [] r (call 106 [.ref k3, .int i2, .int i1, .int i0] w) := Ev.cl (vv := true) (k := 106) (n := 4) (nx := 1086) rfl rfl (Nat.le_of_ble_eq_true rfl) (by simp [catS, Value.category]) rfl (Or.inr h)
set_option maxRecDepth 20000 in
theorem S_L_law_1086 (h : isRf z = true) : Ev T_L_law (some .boolean) xs Ln call 1086 [u0, u1, some z, u3] [.int i0] w r = Ev T_L_law (some .boolean) xs Ln call 1087 [u0, u1, some z, u3] [z, .int i0] w r := Ev.nxt rfl (by exact (if_pos h))
set_option maxRecDepth 20000 in
theorem S_L_law_1087 (h : isRf z = true) : Ev T_L_law (some .boolean) xs Ln call 1087 [some z, u1, u2, u3] [v0, .int i1] w r = Ev T_L_law (some .boolean) xs Ln call 1088 [some z, u1, u2, u3] [z, v0, .int i1] w r := Ev.nxt rfl (by exact (if_pos h))
set_option maxRecDepth 20000 in
theorem S_L_law_1088 : Ev T_L_law (some .boolean) xs Ln call 1088 [u0, u1, u2, some (.int x)] [v0, v1, .int i2] w r = Ev T_L_law (some .boolean) xs Ln call 1089 [u0, u1, u2, some (.int x)] [.int x, v0, v1, .int i2] w r := Ev.nxt rfl rfl
set_option maxRecDepth 20000 in
theorem S_L_law_1089 : Ev T_L_law (some .boolean) xs Ln call 1089 [u0, u1, u2, u3] [.int i0, v1, v2, .int i3] w r = Ev T_L_law (some .boolean) xs Ln call 1090 [u0, u1, u2, u3] [.int 1, .int i0, v1, v2, .int i3] w r := Ev.nxt rfl rfl
set_option maxRecDepth 20000 in
theorem S_L_law_1090 : Ev T_L_law (some .boolean) xs Ln call 1090 [u0, u1, u2, u3] [.int i0, .int i1, v2, v3, .int i4] w r = Ev T_L_law (some .boolean) xs Ln call 1091 [u0, u1, u2, u3] [.int (i1 + i0), v2, v3, .int i4] w r := Ev.nxt rfl rfl
set_option maxRecDepth 20000 in
theorem S_L_law_1091 (hi : ¬ (i0 < 0 ∨ Ln ≤ i0.toNatClampNeg)) : Ev T_L_law (some .boolean) xs Ln call 1091 [u0, u1, u2, u3] [.int i0, .retAddr 0, v2, .int i3] w r = Ev T_L_law (some .boolean) xs Ln call 1092 [u0, u1, u2, u3] [.int (xs i0.toNatClampNeg), v2, .int i3] w r := Ev.nxt rfl (by exact (X_sld hi))
set_option maxRecDepth 20000 in
theorem S_L_law_1092 (h : isRf z = true) : Ev T_L_law (some .boolean) xs Ln call 1092 [some z, u1, u2, u3] [.int i0, v1, .int i2] w r = Ev T_L_law (some .boolean) xs Ln call 1093 [some z, u1, u2, u3] [z, .int i0, v1, .int i2] w r := Ev.nxt rfl (by exact (if_pos h))
set_option maxRecDepth 20000 in
theorem S_L_law_1093 : Ev T_L_law (some .boolean) xs Ln call 1093 [u0, u1, u2, some (.int x)] [v0, .int i1, v2, .int i3] w r = Ev T_L_law (some .boolean) xs Ln call 1094 [u0, u1, u2, some (.int x)] [.int x, v0, .int i1, v2, .int i3] w r := Ev.nxt rfl rfl
set_option maxRecDepth 20000 in
theorem S_L_law_1094 : Ev T_L_law (some .boolean) xs Ln call 1094 [u0, u1, u2, u3] [.int i0, v1, .int i2, v3, .int i4] w r = Ev T_L_law (some .boolean) xs Ln call 1095 [u0, u1, u2, u3] [.int 2, .int i0, v1, .int i2, v3, .int i4] w r := Ev.nxt rfl rfl
set_option maxRecDepth 20000 in
theorem S_L_law_1095 : Ev T_L_law (some .boolean) xs Ln call 1095 [u0, u1, u2, u3] [.int i0, .int i1, v2, .int i3, v4, .int i5] w r = Ev T_L_law (some .boolean) xs Ln call 1096 [u0, u1, u2, u3] [.int (i1 + i0), v2, .int i3, v4, .int i5] w r := Ev.nxt rfl rfl
set_option maxRecDepth 20000 in
theorem S_L_law_1096 (hi : ¬ (i0 < 0 ∨ Ln ≤ i0.toNatClampNeg)) : Ev T_L_law (some .boolean) xs Ln call 1096 [u0, u1, u2, u3] [.int i0, .retAddr 0, .int i2, v3, .int i4] w r = Ev T_L_law (some .boolean) xs Ln call 1097 [u0, u1, u2, u3] [.int (xs i0.toNatClampNeg), .int i2, v3, .int i4] w r := Ev.nxt rfl (by exact (X_sld hi))
set_option maxRecDepth 20000 in
theorem S_L_law_1097 (h : isRf z = true) : Ev T_L_law (some .boolean) xs Ln call 1097 [some z, u1, u2, u3] [.int i0, .int i1, v2, .int i3] w r = Ev T_L_law (some .boolean) xs Ln call 1098 [some z, u1, u2, u3] [z, .int i0, .int i1, v2, .int i3] w r := Ev.nxt rfl (by exact (if_pos h))
set_option maxRecDepth 20000 in
theorem S_L_law_1098 : Ev T_L_law (some .boolean) xs Ln call 1098 [u0, u1, u2, some (.int x)] [v0, .int i1, .int i2, v3, .int i4] w r = Ev T_L_law (some .boolean) xs Ln call 1099 [u0, u1, u2, some (.int x)] [.int x, v0, .int i1, .int i2, v3, .int i4] w r := Ev.nxt rfl rfl
set_option maxRecDepth 20000 in
theorem S_L_law_1099 : Ev T_L_law (some .boolean) xs Ln call 1099 [u0, u1, u2, u3] [.int i0, v1, .int i2, .int i3, v4, .int i5] w r = Ev T_L_law (some .boolean) xs Ln call 1100 [u0, u1, u2, u3] [.int 3, .int i0, v1, .int i2, .int i3, v4, .int i5] w r := Ev.nxt rfl rfl
set_option maxRecDepth 20000 in
theorem S_L_law_1100 : Ev T_L_law (some .boolean) xs Ln call 1100 [u0, u1, u2, u3] [.int i0, .int i1, v2, .int i3, .int i4, v5, .int i6] w r = Ev T_L_law (some .boolean) xs Ln call 1101 [u0, u1, u2, u3] [.int (i1 + i0), v2, .int i3, .int i4, v5, .int i6] w r := Ev.nxt rfl rfl
set_option maxRecDepth 20000 in
theorem S_L_law_1101 (hi : ¬ (i0 < 0 ∨ Ln ≤ i0.toNatClampNeg)) : Ev T_L_law (some .boolean) xs Ln call 1101 [u0, u1, u2, u3] [.int i0, .retAddr 0, .int i2, .int i3, v4, .int i5] w r = Ev T_L_law (some .boolean) xs Ln call 1102 [u0, u1, u2, u3] [.int (xs i0.toNatClampNeg), .int i2, .int i3, v4, .int i5] w r := Ev.nxt rfl (by exact (X_sld hi))
set_option maxRecDepth 20000 in
theorem S_L_law_1102 (h : isObj w k3 11 = true) : Ev T_L_law (some .boolean) xs Ln call 1102 [u0, u1, u2, u3] [.int i0, .int i1, .int i2, .ref k3, .int i4] w r = aft T_L_law (some .boolean) xs Ln call 1105 [u0, u1, u2, u3] [.int i4] r (call 238 [.ref k3, .int i2, .int i1, .int i0] w) := Ev.cl (vv := true) (k := 238) (n := 4) (nx := 1105) rfl rfl (Nat.le_of_ble_eq_true rfl) (by simp [catS, Value.category]) rfl (Or.inr h)
set_option maxRecDepth 20000 in
theorem S_L_law_1105 : Ev T_L_law (some .boolean) xs Ln call 1105 [u0, u1, u2, u3] [.int i0, .int i1] w r = if i1 = i0 then Ev T_L_law (some .boolean) xs Ln call 1785 [u0, u1, u2, u3] [] w r else Ev T_L_law (some .boolean) xs Ln call 1108 [u0, u1, u2, u3] [] w r := Ev.ifc rfl (by exact iteB)
set_option maxRecDepth 20000 in
theorem S_L_law_1108 : Ev T_L_law (some .boolean) xs Ln call 1108 [u0, u1, u2, u3] [] w r = Ev T_L_law (some .boolean) xs Ln call 1109 [u0, u1, u2, u3] [.int 0] w r := Ev.nxt rfl rfl
set_option maxRecDepth 20000 in
theorem S_L_law_1109 (h : okR (some .boolean) (.int i0) = true) : Ev T_L_law (some .boolean) xs Ln call 1109 [u0, u1, u2, u3] [.int i0] w r = (r = (w, some (.int i0))) := Ev.rt rfl (by exact if_pos h)
set_option maxRecDepth 20000 in
theorem S_L_law_1110 (h : isRf z = true) : Ev T_L_law (some .boolean) xs Ln call 1110 [u0, some z, u2, u3] [] w r = Ev T_L_law (some .boolean) xs Ln call 1111 [u0, some z, u2, u3] [z] w r := Ev.nxt rfl (by exact (if_pos h))
set_option maxRecDepth 20000 in
theorem S_L_law_1111 (h : isRf z = true) : Ev T_L_law (some .boolean) xs Ln call 1111 [some z, u1, u2, u3] [v0] w r = Ev T_L_law (some .boolean) xs Ln call 1112 [some z, u1, u2, u3] [z, v0] w r := Ev.nxt rfl (by exact (if_pos h))
set_option maxRecDepth 20000 in
theorem S_L_law_1112 : Ev T_L_law (some .boolean) xs Ln call 1112 [u0, u1, u2, some (.int x)] [v0, v1] w r = Ev T_L_law (some .boolean) xs Ln call 1113 [u0, u1, u2, some (.int x)] [.int x, v0, v1] w r := Ev.nxt rfl rfl
set_option maxRecDepth 20000 in
theorem S_L_law_1113 : Ev T_L_law (some .boolean) xs Ln call 1113 [u0, u1, u2, u3] [.int i0, v1, v2] w r = Ev T_L_law (some .boolean) xs Ln call 1114 [u0, u1, u2, u3] [.int 1, .int i0, v1, v2] w r := Ev.nxt rfl rfl
set_option maxRecDepth 20000 in
theorem S_L_law_1114 : Ev T_L_law (some .boolean) xs Ln call 1114 [u0, u1, u2, u3] [.int i0, .int i1, v2, v3] w r = Ev T_L_law (some .boolean) xs Ln call 1115 [u0, u1, u2, u3] [.int (i1 + i0), v2, v3] w r := Ev.nxt rfl rfl
set_option maxRecDepth 20000 in
theorem S_L_law_1115 (hi : ¬ (i0 < 0 ∨ Ln ≤ i0.toNatClampNeg)) : Ev T_L_law (some .boolean) xs Ln call 1115 [u0, u1, u2, u3] [.int i0, .retAddr 0, v2] w r = Ev T_L_law (some .boolean) xs Ln call 1116 [u0, u1, u2, u3] [.int (xs i0.toNatClampNeg), v2] w r := Ev.nxt rfl (by exact (X_sld hi))
set_option maxRecDepth 20000 in
theorem S_L_law_1116 (h : isRf z = true) : Ev T_L_law (some .boolean) xs Ln call 1116 [some z, u1, u2, u3] [.int i0, v1] w r = Ev T_L_law (some .boolean) xs Ln call 1117 [some z, u1, u2, u3] [z, .int i0, v1] w r := Ev.nxt rfl (by exact (if_pos h))
set_option maxRecDepth 20000 in
theorem S_L_law_1117 : Ev T_L_law (some .boolean) xs Ln call 1117 [u0, u1, u2, some (.int x)] [v0, .int i1, v2] w r = Ev T_L_law (some .boolean) xs Ln call 1118 [u0, u1, u2, some (.int x)] [.int x, v0, .int i1, v2] w r := Ev.nxt rfl rfl
set_option maxRecDepth 20000 in
theorem S_L_law_1118 : Ev T_L_law (some .boolean) xs Ln call 1118 [u0, u1, u2, u3] [.int i0, v1, .int i2, v3] w r = Ev T_L_law (some .boolean) xs Ln call 1119 [u0, u1, u2, u3] [.int 2, .int i0, v1, .int i2, v3] w r := Ev.nxt rfl rfl
set_option maxRecDepth 20000 in
theorem S_L_law_1119 : Ev T_L_law (some .boolean) xs Ln call 1119 [u0, u1, u2, u3] [.int i0, .int i1, v2, .int i3, v4] w r = Ev T_L_law (some .boolean) xs Ln call 1120 [u0, u1, u2, u3] [.int (i1 + i0), v2, .int i3, v4] w r := Ev.nxt rfl rfl
set_option maxRecDepth 20000 in
theorem S_L_law_1120 (hi : ¬ (i0 < 0 ∨ Ln ≤ i0.toNatClampNeg)) : Ev T_L_law (some .boolean) xs Ln call 1120 [u0, u1, u2, u3] [.int i0, .retAddr 0, .int i2, v3] w r = Ev T_L_law (some .boolean) xs Ln call 1121 [u0, u1, u2, u3] [.int (xs i0.toNatClampNeg), .int i2, v3] w r := Ev.nxt rfl (by exact (X_sld hi))
set_option maxRecDepth 20000 in
theorem S_L_law_1121 (h : isObj w k2 10 = true) : Ev T_L_law (some .boolean) xs Ln call 1121 [u0, u1, u2, u3] [.int i0, .int i1, .ref k2] w r = aft T_L_law (some .boolean) xs Ln call 1124 [u0, u1, u2, u3] [] r (call 112 [.ref k2, .int i1, .int i0] w) := Ev.cl (vv := true) (k := 112) (n := 3) (nx := 1124) rfl rfl (Nat.le_of_ble_eq_true rfl) (by simp [catS, Value.category]) rfl (Or.inr h)
set_option maxRecDepth 20000 in
theorem S_L_law_1124 (h : isRf z = true) : Ev T_L_law (some .boolean) xs Ln call 1124 [u0, u1, some z, u3] [.int i0] w r = Ev T_L_law (some .boolean) xs Ln call 1125 [u0, u1, some z, u3] [z, .int i0] w r := Ev.nxt rfl (by exact (if_pos h))
set_option maxRecDepth 20000 in
theorem S_L_law_1125 (h : isRf z = true) : Ev T_L_law (some .boolean) xs Ln call 1125 [some z, u1, u2, u3] [v0, .int i1] w r = Ev T_L_law (some .boolean) xs Ln call 1126 [some z, u1, u2, u3] [z, v0, .int i1] w r := Ev.nxt rfl (by exact (if_pos h))
set_option maxRecDepth 20000 in
theorem S_L_law_1126 : Ev T_L_law (some .boolean) xs Ln call 1126 [u0, u1, u2, some (.int x)] [v0, v1, .int i2] w r = Ev T_L_law (some .boolean) xs Ln call 1127 [u0, u1, u2, some (.int x)] [.int x, v0, v1, .int i2] w r := Ev.nxt rfl rfl
set_option maxRecDepth 20000 in
theorem S_L_law_1127 : Ev T_L_law (some .boolean) xs Ln call 1127 [u0, u1, u2, u3] [.int i0, v1, v2, .int i3] w r = Ev T_L_law (some .boolean) xs Ln call 1128 [u0, u1, u2, u3] [.int 1, .int i0, v1, v2, .int i3] w r := Ev.nxt rfl rfl
set_option maxRecDepth 20000 in
theorem S_L_law_1128 : Ev T_L_law (some .boolean) xs Ln call 1128 [u0, u1, u2, u3] [.int i0, .int i1, v2, v3, .int i4] w r = Ev T_L_law (some .boolean) xs Ln call 1129 [u0, u1, u2, u3] [.int (i1 + i0), v2, v3, .int i4] w r := Ev.nxt rfl rfl
set_option maxRecDepth 20000 in
theorem S_L_law_1129 (hi : ¬ (i0 < 0 ∨ Ln ≤ i0.toNatClampNeg)) : Ev T_L_law (some .boolean) xs Ln call 1129 [u0, u1, u2, u3] [.int i0, .retAddr 0, v2, .int i3] w r = Ev T_L_law (some .boolean) xs Ln call 1130 [u0, u1, u2, u3] [.int (xs i0.toNatClampNeg), v2, .int i3] w r := Ev.nxt rfl (by exact (X_sld hi))
set_option maxRecDepth 20000 in
theorem S_L_law_1130 (h : isRf z = true) : Ev T_L_law (some .boolean) xs Ln call 1130 [some z, u1, u2, u3] [.int i0, v1, .int i2] w r = Ev T_L_law (some .boolean) xs Ln call 1131 [some z, u1, u2, u3] [z, .int i0, v1, .int i2] w r := Ev.nxt rfl (by exact (if_pos h))
set_option maxRecDepth 20000 in
theorem S_L_law_1131 : Ev T_L_law (some .boolean) xs Ln call 1131 [u0, u1, u2, some (.int x)] [v0, .int i1, v2, .int i3] w r = Ev T_L_law (some .boolean) xs Ln call 1132 [u0, u1, u2, some (.int x)] [.int x, v0, .int i1, v2, .int i3] w r := Ev.nxt rfl rfl
set_option maxRecDepth 20000 in
theorem S_L_law_1132 : Ev T_L_law (some .boolean) xs Ln call 1132 [u0, u1, u2, u3] [.int i0, v1, .int i2, v3, .int i4] w r = Ev T_L_law (some .boolean) xs Ln call 1133 [u0, u1, u2, u3] [.int 2, .int i0, v1, .int i2, v3, .int i4] w r := Ev.nxt rfl rfl
set_option maxRecDepth 20000 in
theorem S_L_law_1133 : Ev T_L_law (some .boolean) xs Ln call 1133 [u0, u1, u2, u3] [.int i0, .int i1, v2, .int i3, v4, .int i5] w r = Ev T_L_law (some .boolean) xs Ln call 1134 [u0, u1, u2, u3] [.int (i1 + i0), v2, .int i3, v4, .int i5] w r := Ev.nxt rfl rfl
set_option maxRecDepth 20000 in
theorem S_L_law_1134 (hi : ¬ (i0 < 0 ∨ Ln ≤ i0.toNatClampNeg)) : Ev T_L_law (some .boolean) xs Ln call 1134 [u0, u1, u2, u3] [.int i0, .retAddr 0, .int i2, v3, .int i4] w r = Ev T_L_law (some .boolean) xs Ln call 1135 [u0, u1, u2, u3] [.int (xs i0.toNatClampNeg), .int i2, v3, .int i4] w r := Ev.nxt rfl (by exact (X_sld hi))
set_option maxRecDepth 20000 in
theorem S_L_law_1135 (h : isObj w k2 11 = true) : Ev T_L_law (some .boolean) xs Ln call 1135 [u0, u1, u2, u3] [.int i0, .int i1, .ref k2, .int i3] w r = aft T_L_law (some .boolean) xs Ln call 1138 [u0, u1, u2, u3] [.int i3] r (call 239 [.ref k2, .int i1, .int i0] w) := Ev.cl (vv := true) (k := 239) (n := 3) (nx := 1138) rfl rfl (Nat.le_of_ble_eq_true rfl) (by simp [catS, Value.category]) rfl (Or.inr h)
set_option maxRecDepth 20000 in
theorem S_L_law_1138 : Ev T_L_law (some .boolean) xs Ln call 1138 [u0, u1, u2, u3] [.int i0, .int i1] w r = if i1 = i0 then Ev T_L_law (some .boolean) xs Ln call 1785 [u0, u1, u2, u3] [] w r else Ev T_L_law (some .boolean) xs Ln call 1141 [u0, u1, u2, u3] [] w r := Ev.ifc rfl (by exact iteB)
set_option maxRecDepth 20000 in
theorem S_L_law_1141 : Ev T_L_law (some .boolean) xs Ln call 1141 [u0, u1, u2, u3] [] w r = Ev T_L_law (some .boolean) xs Ln call 1142 [u0, u1, u2, u3] [.int 0] w r := Ev.nxt rfl rfl
set_option maxRecDepth 20000 in
theorem S_L_law_1142 (h : okR (some .boolean) (.int i0) = true) : Ev T_L_law (some .boolean) xs Ln call 1142 [u0, u1, u2, u3] [.int i0] w r = (r = (w, some (.int i0))) := Ev.rt rfl (by exact if_pos h)
set_option maxRecDepth 20000 in
theorem S_L_law_1143 (h : isRf z = true) : Ev T_L_law (some .boolean) xs Ln call 1143 [u0, some z, u2, u3] [] w r = Ev T_L_law (some .boolean) xs Ln call 1144 [u0, some z, u2, u3] [z] w r := Ev.nxt rfl (by exact (if_pos h))
set_option maxRecDepth 20000 in
theorem S_L_law_1144 (h : isRf z = true) : Ev T_L_law (some .boolean) xs Ln call 1144 [some z, u1, u2, u3] [v0] w r = Ev T_L_law (some .boolean) xs Ln call 1145 [some z, u1, u2, u3] [z, v0] w r := Ev.nxt rfl (by exact (if_pos h))
set_option maxRecDepth 20000 in
theorem S_L_law_1145 : Ev T_L_law (some .boolean) xs Ln call 1145 [u0, u1, u2, some (.int x)] [v0, v1] w r = Ev T_L_law (some .boolean) xs Ln call 1146 [u0, u1, u2, some (.int x)] [.int x, v0, v1] w r := Ev.nxt rfl rfl
set_option maxRecDepth 20000 in
theorem S_L_law_1146 : Ev T_L_law (some .boolean) xs Ln call 1146 [u0, u1, u2, u3] [.int i0, v1, v2] w r = Ev T_L_law (some .boolean) xs Ln call 1147 [u0, u1, u2, u3] [.int 1, .int i0, v1, v2] w r := Ev.nxt rfl rfl
set_option maxRecDepth 20000 in
theorem S_L_law_1147 : Ev T_L_law (some .boolean) xs Ln call 1147 [u0, u1, u2, u3] [.int i0, .int i1, v2, v3] w r = Ev T_L_law (some .boolean) xs Ln call 1148 [u0, u1, u2, u3] [.int (i1 + i0), v2, v3] w r := Ev.nxt rfl rfl
set_option maxRecDepth 20000 in
theorem S_L_law_1148 (hi : ¬ (i0 < 0 ∨ Ln ≤ i0.toNatClampNeg)) : Ev T_L_law (some .boolean) xs Ln call 1148 [u0, u1, u2, u3] [.int i0, .retAddr 0, v2] w r = Ev T_L_law (some .boolean) xs Ln call 1149 [u0, u1, u2, u3] [.int (xs i0.toNatClampNeg), v2] w r := Ev.nxt rfl (by exact (X_sld hi))
set_option maxRecDepth 20000 in
theorem S_L_law_1149 (h : isRf z = true) : Ev T_L_law (some .boolean) xs Ln call 1149 [some z, u1, u2, u3] [.int i0, v1] w r = Ev T_L_law (some .boolean) xs Ln call 1150 [some z, u1, u2, u3] [z, .int i0, v1] w r := Ev.nxt rfl (by exact (if_pos h))
set_option maxRecDepth 20000 in
theorem S_L_law_1150 : Ev T_L_law (some .boolean) xs Ln call 1150 [u0, u1, u2, some (.int x)] [v0, .int i1, v2] w r = Ev T_L_law (some .boolean) xs Ln call 1151 [u0, u1, u2, some (.int x)] [.int x, v0, .int i1, v2] w r := Ev.nxt rfl rfl
set_option maxRecDepth 20000 in
theorem S_L_law_1151 : Ev T_L_law (some .boolean) xs Ln call 1151 [u0, u1, u2, u3] [.int i0, v1, .int i2, v3] w r = Ev T_L_law (some .boolean) xs Ln call 1152 [u0, u1, u2, u3] [.int 2, .int i0, v1, .int i2, v3] w r := Ev.nxt rfl rfl
set_option maxRecDepth 20000 in
theorem S_L_law_1152 : Ev T_L_law (some .boolean) xs Ln call 1152 [u0, u1, u2, u3] [.int i0, .int i1, v2, .int i3, v4] w r = Ev T_L_law (some .boolean) xs Ln call 1153 [u0, u1, u2, u3] [.int (i1 + i0), v2, .int i3, v4] w r := Ev.nxt rfl rfl
set_option maxRecDepth 20000 in
theorem S_L_law_1153 (hi : ¬ (i0 < 0 ∨ Ln ≤ i0.toNatClampNeg)) : Ev T_L_law (some .boolean) xs Ln call 1153 [u0, u1, u2, u3] [.int i0, .retAddr 0, .int i2, v3] w r = Ev T_L_law (some .boolean) xs Ln call 1154 [u0, u1, u2, u3] [.int (xs i0.toNatClampNeg), .int i2, v3] w r := Ev.nxt rfl (by exact (X_sld hi))
set_option maxRecDepth 20000 in
theorem S_L_law_1154 (h : isRf z = true) : Ev T_L_law (some .boolean) xs Ln call 1154 [some z, u1, u2, u3] [.int i0, .int i1, v2] w r = Ev T_L_law (some .boolean) xs Ln call 1155 [some z, u1, u2, u3] [z, .int i0, .int i1, v2] w r := Ev.nxt rfl (by exact (if_pos h))
set_option maxRecDepth 20000 in
theorem S_L_law_1155 : Ev T_L_law (some .boolean) xs Ln call 1155 [u0, u1, u2, some (.int x)] [v0, .int i1, .int i2, v3] w r = Ev T_L_law (some .boolean) xs Ln call 1156 [u0, u1, u2, some (.int x)] [.int x, v0, .int i1, .int i2, v3] w r := Ev.nxt rfl rfl
set_option maxRecDepth 20000 in
theorem S_L_law_1156 : Ev T_L_law (some .boolean) xs Ln call 1156 [u0, u1, u2, u3] [.int i0, v1, .int i2, .int i3, v4] w r = Ev T_L_law (some .boolean) xs Ln call 1157 [u0, u1, u2, u3] [.int 3, .int i0, v1, .int i2, .int i3, v4] w r := Ev.nxt rfl rfl
set_option maxRecDepth 20000 in
theorem S_L_law_1157 : Ev T_L_law (some .boolean) xs Ln call 1157 [u0, u1, u2, u3] [.int i0, .int i1, v2, .int i3, .int i4, v5] w r = Ev T_L_law (some .boolean) xs Ln call 1158 [u0, u1, u2, u3] [.int (i1 + i0), v2, .int i3, .int i4, v5] w r := Ev.nxt rfl rfl
set_option maxRecDepth 20000 in
theorem S_L_law_1158 (hi : ¬ (i0 < 0 ∨ Ln ≤ i0.toNatClampNeg)) : Ev T_L_law (some .boolean) xs Ln call 1158 [u0, u1, u2, u3] [.int i0, .retAddr 0, .int i2, .int i3, v4] w r = Ev T_L_law (some .boolean) xs Ln call 1159 [u0, u1, u2, u3] [.int (xs i0.toNatClampNeg), .int i2, .int i3, v4] w r := Ev.nxt rfl (by exact (X_sld hi))
set_option maxRecDepth 20000 in
theorem S_L_law_1159 (h : isObj w k3 10 = true) : Ev T_L_law (some .boolean) xs Ln call 1159 [u0, u1, u2, u3] [.int i0, .int i1, .int i2, .ref k3] w r = aft T_L_law (some .boolean) xs Ln call 1162 [u0, u1, u2, u3] [] r (call 113 [.ref k3, .int i2, .int i1, .int i0] w) := Ev.cl (vv := true) (k := 113) (n := 4) (nx := 1162) rfl rfl (Nat.le_of_ble_eq_true rfl) (by simp [catS, Value.category]) rfl (Or.inr h)
set_option maxRecDepth 20000 in
theorem S_L_law_1162 (h : isRf z = true) : Ev T_L_law (some .boolean) xs Ln call 1162 [u0, u1, some z, u3] [.int i0] w r = Ev T_L_law (some .boolean) xs Ln call 1163 [u0, u1, some z, u3] [z, .int i0] w r := Ev.nxt rfl (by exact (if_pos h))
set_option maxRecDepth 20000 in
theorem S_L_law_1163 (h : isRf z = true) : Ev T_L_law (some .boolean) xs Ln call 1163 [some z, u1, u2, u3] [v0, .int i1] w r = Ev T_L_law (some .boolean) xs Ln call 1164 [some z, u1, u2, u3] [z, v0, .int i1] w r := Ev.nxt rfl (by exact (if_pos h))
set_option maxRecDepth 20000 in
theorem S_L_law_1164 : Ev T_L_law (some .boolean) xs Ln call 1164 [u0, u1, u2, some (.int x)] [v0, v1, .int i2] w r = Ev T_L_law (some .boolean) xs Ln call 1165 [u0, u1, u2, some (.int x)] [.int x, v0, v1, .int i2] w r := Ev.nxt rfl rfl
set_option maxRecDepth 20000 in
theorem S_L_law_1165 : Ev T_L_law (some .boolean) xs Ln call 1165 [u0, u1, u2, u3] [.int i0, v1, v2, .int i3] w r = Ev T_L_law (some .boolean) xs Ln call 1166 [u0, u1, u2, u3] [.int 1, .int i0, v1, v2, .int i3] w r := Ev.nxt rfl rfl
set_option maxRecDepth 20000 in
theorem S_L_law_1166 : Ev T_L_law (some .boolean) xs Ln call 1166 [u0, u1, u2, u3] [.int i0, .int i1, v2, v3, .int i4] w r = Ev T_L_law (some .boolean) xs Ln call 1167 [u0, u1, u2, u3] [.int (i1 + i0), v2, v3, .int i4] w r := Ev.nxt rfl rfl
set_option maxRecDepth 20000 in
theorem S_L_law_1167 (hi : ¬ (i0 < 0 ∨ Ln ≤ i0.toNatClampNeg)) : Ev T_L_law (some .boolean) xs Ln call 1167 [u0, u1, u2, u3] [.int i0, .retAddr 0, v2, .int i3] w r = Ev T_L_law (some .boolean) xs Ln call 1168 [u0, u1, u2, u3] [.int (xs i0.toNatClampNeg), v2, .int i3] w r := Ev.nxt rfl (by exact (X_sld hi))
set_option maxRecDepth 20000 in
theorem S_L_law_1168 (h : isRf z = true) : Ev T_L_law (some .boolean) xs Ln call 1168 [some z, u1, u2, u3] [.int i0, v1, .int i2] w r = Ev T_L_law (some .boolean) xs Ln call 1169 [some z, u1, u2, u3] [z, .int i0, v1, .int i2] w r := Ev.nxt rfl (by exact (if_pos h))
set_option maxRecDepth 20000 in
theorem S_L_law_1169 : Ev T_L_law (some .boolean) xs Ln call 1169 [u0, u1, u2, some (.int x)] [v0, .int i1, v2, .int i3] w r = Ev T_L_law (some .boolean) xs Ln call 1170 [u0, u1, u2, some (.int x)] [.int x, v0, .int i1, v2, .int i3] w r := Ev.nxt rfl rfl
set_option maxRecDepth 20000 in
theorem S_L_law_1170 : Ev T_L_law (some .boolean) xs Ln call 1170 [u0, u1, u2, u3] [.int i0, v1, .int i2, v3, .int i4] w r = Ev T_L_law (some .boolean) xs Ln call 1171 [u0, u1, u2, u3] [.int 2, .int i0, v1, .int i2, v3, .int i4] w r := Ev.nxt rfl rfl
set_option maxRecDepth 20000 in
theorem S_L_law_1171 : Ev T_L_law (some .boolean) xs Ln call 1171 [u0, u1, u2, u3] [.int i0, .int i1, v2, .int i3, v4, .int i5] w r = Ev T_L_law (some .boolean) xs Ln call 1172 [u0, u1, u2, u3] [.int (i1 + i0), v2, .int i3, v4, .int i5] w r := Ev.nxt rfl rfl
set_option maxRecDepth 20000 in
theorem S_L_law_1172 (hi : ¬ (i0 < 0 ∨ Ln ≤ i0.toNatClampNeg)) : Ev T_L_law (some .boolean) xs Ln call 1172 [u0, u1, u2, u3] [.int i0, .retAddr 0, .int i2, v3, .int i4] w r = Ev T_L_law (some .boolean) xs Ln call 1173 [u0, u1, u2, u3] [.int (xs i0.toNatClampNeg), .int i2, v3, .int i4] w r := Ev.nxt rfl (by exact (X_sld hi))
set_option maxRecDepth 20000 in
theorem S_L_law_1173 (h : isRf z = true) : Ev T_L_law (some .boolean) xs Ln call 1173 [some z, u1, u2, u3] [.int i0, .int i1, v2, .int i3] w r = Ev T_L_law (some .boolean) xs Ln call 1174 [some z, u1, u2, u3] [z, .int i0, .int i1, v2, .int i3] w r := Ev.nxt rfl (by exact (if_pos h))
set_option maxRecDepth 20000 in
theorem S_L_law_1174 : Ev T_L_law (some .boolean) xs Ln call 1174 [u0, u1, u2, some (.int x)] [v0, .int i1, .int i2, v3, .int i4] w r = Ev T_L_law (some .boolean) xs Ln call 1175 [u0, u1, u2, some (.int x)] [.int x, v0, .int i1, .int i2, v3, .int i4] w r := Ev.nxt rfl rfl
set_option maxRecDepth 20000 in
theorem S_L_law_1175 : Ev T_L_law (some .boolean) xs Ln call 1175 [u0, u1, u2, u3] [.int i0, v1, .int i2, .int i3, v4, .int i5] w r = Ev T_L_law (some .boolean) xs Ln call 1176 [u0, u1, u2, u3] [.int 3, .int i0, v1, .int i2, .int i3, v4, .int i5] w r := Ev.nxt rfl rfl
set_option maxRecDepth 20000 in
theorem S_L_law_1176 : Ev T_L_law (some .boolean) xs Ln call 1176 [u0, u1, u2, u3] [.int i0, .int i1, v2, .int i3, .int i4, v5, .int i6] w r = Ev T_L_law (some .boolean) xs Ln call 1177 [u0, u1, u2, u3] [.int (i1 + i0), v2, .int i3, .int i4, v5, .int i6] w r := Ev.nxt rfl rfl
set_option maxRecDepth 20000 in
theorem S_L_law_1177 (hi : ¬ (i0 < 0 ∨ Ln ≤ i0.toNatClampNeg)) : Ev T_L_law (some .boolean) xs Ln call 1177 [u0, u1, u2, u3] [.int i0, .retAddr 0, .int i2, .int i3, v4, .int i5] w r = Ev T_L_law (some .boolean) xs Ln call 1178 [u0, u1, u2, u3] [.int (xs i0.toNatClampNeg), .int i2, .int i3, v4, .int i5] w r := Ev.nxt rfl (by exact (X_sld hi))
set_option maxRecDepth 20000 in
theorem S_L_law_1178 (h : isObj w k3 11 = true) : Ev T_L_law (some .boolean) xs Ln call 1178 [u0, u1, u2, u3] [.int i0, .int i1, .int i2, .ref k3, .int i4] w r = aft T_L_law (some .boolean) xs Ln call 1181 [u0, u1, u2, u3] [.int i4] r (call 241 [.ref k3, .int i2, .int i1, .int i0] w) := Ev.cl (vv := true) (k := 241) (n := 4) (nx := 1181) rfl rfl (Nat.le_of_ble_eq_true rfl) (by simp [catS, Value.category]) rfl (Or.inr h)
set_option maxRecDepth 20000 in
theorem S_L_law_1181 : Ev T_L_law (some .boolean) xs Ln call 1181 [u0, u1, u2, u3] [.int i0, .int i1] w r = if i1 = i0 then Ev T_L_law (some .boolean) xs Ln call 1785 [u0, u1, u2, u3] [] w r else Ev T_L_law (some .boolean) xs Ln call 1184 [u0, u1, u2, u3] [] w r := Ev.ifc rfl (by exact iteB)
set_option maxRecDepth 20000 in
theorem S_L_law_1184 : Ev T_L_law (some .boolean) xs Ln call 1184 [u0, u1, u2, u3] [] w r = Ev T_L_law (some .boolean) xs Ln call 1185 [u0, u1, u2, u3] [.int 0] w r := Ev.nxt rfl rfl
set_option maxRecDepth 20000 in
theorem S_L_law_1185 (h : okR (some .boolean) (.int i0) = true) : Ev T_L_law (some .boolean) xs Ln call 1185 [u0, u1, u2, u3] [.int i0] w r = (r = (w, some (.int i0))) := Ev.rt rfl (by exact if_pos h)
set_option maxRecDepth 20000 in
theorem S_L_law_1186 (h : isRf z = true) : Ev T_L_law (some .boolean) xs Ln call 1186 [u0, some z, u2, u3] [] w r = Ev T_L_law (some .boolean) xs Ln call 1187 [u0, some z, u2, u3] [z] w r := Ev.nxt rfl (by exact (if_pos h))
set_option maxRecDepth 20000 in
theorem S_L_law_1187 (h : isRf z = true) : Ev T_L_law (some .boolean) xs Ln call 1187 [some z, u1, u2, u3] [v0] w r = Ev T_L_law (some .boolean) xs Ln call 1188 [some z, u1, u2, u3] [z, v0] w r := Ev.nxt rfl (by exact (if_pos h))
set_option maxRecDepth 20000 in
theorem S_L_law_1188 : Ev T_L_law (some .boolean) xs Ln call 1188 [u0, u1, u2, some (.int x)] [v0, v1] w r = Ev T_L_law (some .boolean) xs Ln call 1189 [u0, u1, u2, some (.int x)] [.int x, v0, v1] w r := Ev.nxt rfl rfl
set_option maxRecDepth 20000 in
theorem S_L_law_1189 : Ev T_L_law (some .boolean) xs Ln call 1189 [u0, u1, u2, u3] [.int i0, v1, v2] w r = Ev T_L_law (some .boolean) xs Ln call 1190 [u0, u1, u2, u3] [.int 1, .int i0, v1, v2] w r := Ev.nxt rfl rfl
set_option maxRecDepth 20000 in
theorem S_L_law_1190 : Ev T_L_law (some .boolean) xs Ln call 1190 [u0, u1, u2, u3] [.int i0, .int i1, v2, v3] w r = Ev T_L_law (some .boolean) xs Ln call 1191 [u0, u1, u2, u3] [.int (i1 + i0), v2, v3] w r := Ev.nxt rfl rfl
set_option maxRecDepth 20000 in
theorem S_L_law_1191 (hi : ¬ (i0 < 0 ∨ Ln ≤ i0.toNatClampNeg)) : Ev T_L_law (some .boolean) xs Ln call 1191 [u0, u1, u2, u3] [.int i0, .retAddr 0, v2] w r = Ev T_L_law (some .boolean) xs Ln call 1192 [u0, u1, u2, u3] [.int (xs i0.toNatClampNeg), v2] w r := Ev.nxt rfl (by exact (X_sld hi))
set_option maxRecDepth 20000 in
theorem S_L_law_1192 (h : isRf z = true) : Ev T_L_law (some .boolean) xs Ln call 1192 [some z, u1, u2, u3] [.int i0, v1] w r = Ev T_L_law (some .boolean) xs Ln call 1193 [some z, u1, u2, u3] [z, .int i0, v1] w r := Ev.nxt rfl (by exact (if_pos h))
set_option maxRecDepth 20000 in
theorem S_L_law_1193 : Ev T_L_law (some .boolean) xs Ln call 1193 [u0, u1, u2, some (.int x)] [v0, .int i1, v2] w r = Ev T_L_law (some .boolean) xs Ln call 1194 [u0, u1, u2, some (.int x)] [.int x, v0, .int i1, v2] w r := Ev.nxt rfl rfl
set_option maxRecDepth 20000 in
theorem S_L_law_1194 : Ev T_L_law (some .boolean) xs Ln call 1194 [u0, u1, u2, u3] [.int i0, v1, .int i2, v3] w r = Ev T_L_law (some .boolean) xs Ln call 1195 [u0, u1, u2, u3] [.int 2, .int i0, v1, .int i2, v3] w r := Ev.nxt rfl rfl
set_option maxRecDepth 20000 in
theorem S_L_law_1195 : Ev T_L_law (some .boolean) xs Ln call 1195 [u0, u1, u2, u3] [.int i0, .int i1, v2, .int i3, v4] w r = Ev T_L_law (some .boolean) xs Ln call 1196 [u0, u1, u2, u3] [.int (i1 + i0), v2, .int i3, v4] w r := Ev.nxt rfl rfl
set_option maxRecDepth 20000 in
theorem S_L_law_1196 (hi : ¬ (i0 < 0 ∨ Ln ≤ i0.toNatClampNeg)) : Ev T_L_law (some .boolean) xs Ln call 1196 [u0, u1, u2, u3] [.int i0, .retAddr 0, .int i2, v3] w r = Ev T_L_law (some .boolean) xs Ln call 1197 [u0, u1, u2, u3] [.int (xs i0.toNatClampNeg), .int i2, v3] w r := Ev.nxt rfl (by exact (X_sld hi))
set_option maxRecDepth 20000 in
theorem S_L_law_1197 (h : isRf z = true) : Ev T_L_law (some .boolean) xs Ln call 1197 [some z, u1, u2, u3] [.int i0, .int i1, v2] w r = Ev T_L_law (some .boolean) xs Ln call 1198 [some z, u1, u2, u3] [z, .int i0, .int i1, v2] w r := Ev.nxt rfl (by exact (if_pos h))
set_option maxRecDepth 20000 in
theorem S_L_law_1198 : Ev T_L_law (some .boolean) xs Ln call 1198 [u0, u1, u2, some (.int x)] [v0, .int i1, .int i2, v3] w r = Ev T_L_law (some .boolean) xs Ln call 1199 [u0, u1, u2, some (.int x)] [.int x, v0, .int i1, .int i2, v3] w r := Ev.nxt rfl rfl
set_option maxRecDepth 20000 in
theorem S_L_law_1199 : Ev T_L_law (some .boolean) xs Ln call 1199 [u0, u1, u2, u3] [.int i0, v1, .int i2, .int i3, v4] w r = Ev T_L_law (some .boolean) xs Ln call 1200 [u0, u1, u2, u3] [.int 3, .int i0, v1, .int i2, .int i3, v4] w r := Ev.nxt rfl rfl
set_option maxRecDepth 20000 in
theorem S_L_law_1200 : Ev T_L_law (some .boolean) xs Ln call 1200 [u0, u1, u2, u3] [.int i0, .int i1, v2, .int i3, .int i4, v5] w r = Ev T_L_law (some .boolean) xs Ln call 1201 [u0, u1, u2, u3] [.int (i1 + i0), v2, .int i3, .int i4, v5] w r := Ev.nxt rfl rfl
set_option maxRecDepth 20000 in
theorem S_L_law_1201 (hi : ¬ (i0 < 0 ∨ Ln ≤ i0.toNatClampNeg)) : Ev T_L_law (some .boolean) xs Ln call 1201 [u0, u1, u2, u3] [.int i0, .retAddr 0, .int i2, .int i3, v4] w r = Ev T_L_law (some .boolean) xs Ln call 1202 [u0, u1, u2, u3] [.int (xs i0.toNatClampNeg), .int i2, .int i3, v4] w r := Ev.nxt rfl (by exact (X_sld hi))
set_option maxRecDepth 20000 in
theorem S_L_law_1202 (h : isObj w k3 10 = true) : Ev T_L_law (some .boolean) xs Ln call 1202 [u0, u1, u2, u3] [.int i0, .int i1, .int i2, .ref k3] w r = aft T_L_law (some .boolean) xs Ln call 1205 [u0, u1, u2, u3] [] r (call 114 [.ref k3, .int i2, .int i1, .int i0] w) := Ev.cl (vv := true) (k := 114) (n := 4) (nx := 1205) rfl rfl (Nat.le_of_ble_eq_true rfl) (by simp [catS, Value.category]) rfl (Or.inr h)
set_option maxRecDepth 20000 in
theorem S_L_law_1205 (h : isRf z = true) : Ev T_L_law (some .boolean) xs Ln call 1205 [u0, u1, some z, u3] [.int i0] w r = Ev T_L_law (some .boolean) xs Ln call 1206 [u0, u1, some z, u3] [z, .int i0] w r := Ev.nxt rfl (by exact (if_pos h))
set_option maxRecDepth 20000 in
theorem S_L_law_1206 (h : isRf z = true) : Ev T_L_law (some .boolean) xs Ln call 1206 [some z, u1, u2, u3] [v0, .int i1] w r = Ev T_L_law (some .boolean) xs Ln call 1207 [some z, u1, u2, u3] [z, v0, .int i1] w r := Ev.nxt rfl (by exact (if_pos h))
set_option maxRecDepth 20000 in
theorem S_L_law_1207 : Ev T_L_law (some .boolean) xs Ln call 1207 [u0, u1, u2, some (.int x)] [v0, v1, .int i2] w r = Ev T_L_law (some .boolean) xs Ln call 1208 [u0, u1, u2, some (.int x)] [.int x, v0, v1, .int i2] w r := Ev.nxt rfl rfl
set_option maxRecDepth 20000 in
theorem S_L_law_1208 : Ev T_L_law (some .boolean) xs Ln call 1208 [u0, u1, u2, u3] [.int i0, v1, v2, .int i3] w r = Ev T_L_law (some .boolean) xs Ln call 1209 [u0, u1, u2, u3] [.int 1, .int i0, v1, v2, .int i3] w r := Ev.nxt rfl rfl
set_option maxRecDepth 20000 in
theorem S_L_law_1209 : Ev T_L_law (some .boolean) xs Ln call 1209 [u0, u1, u2, u3] [.int i0, .int i1, v2, v3, .int i4] w r = Ev T_L_law (some .boolean) xs Ln call 1210 [u0, u1, u2, u3] [.int (i1 + i0), v2, v3, .int i4] w r := Ev.nxt rfl rfl
set_option maxRecDepth 20000 in
theorem S_L_law_1210 (hi : ¬ (i0 < 0 ∨ Ln ≤ i0.toNatClampNeg)) : Ev T_L_law (some .boolean) xs Ln call 1210 [u0, u1, u2, u3] [.int i0, .retAddr 0, v2, .int i3] w r = Ev T_L_law (some .boolean) xs Ln call 1211 [u0, u1, u2, u3] [.int (xs i0.toNatClampNeg), v2, .int i3] w r := Ev.nxt rfl (by exact (X_sld hi))
set_option maxRecDepth 20000 in
theorem S_L_law_1211 (h : isRf z = true) : Ev T_L_law (some .boolean) xs Ln call 1211 [some z, u1, u2, u3] [.int i0, v1, .int i2] w r = Ev T_L_law (some .boolean) xs Ln call 1212 [some z, u1, u2, u3] [z, .int i0, v1, .int i2] w r := Ev.nxt rfl (by exact (if_pos h))
set_option maxRecDepth 20000 in
theorem S_L_law_1212 : Ev T_L_law (some .boolean) xs Ln call 1212 [u0, u1, u2, some (.int x)] [v0, .int i1, v2, .int i3] w r = Ev T_L_law (some .boolean) xs Ln call 1213 [u0, u1, u2, some (.int x)] [.int x, v0, .int i1, v2, .int i3] w r := Ev.nxt rfl rfl
set_option maxRecDepth 20000 in
theorem S_L_law_1213 : Ev T_L_law (some .boolean) xs Ln call 1213 [u0, u1, u2, u3] [.int i0, v1, .int i2, v3, .int i4] w r = Ev T_L_law (some .boolean) xs Ln call 1214 [u0, u1, u2, u3] [.int 2, .int i0, v1, .int i2, v3, .int i4] w r := Ev.nxt rfl rfl
set_option maxRecDepth 20000 in
theorem S_L_law_1214 : Ev T_L_law (some .boolean) xs Ln call 1214 [u0, u1, u2, u3] [.int i0, .int i1, v2, .int i3, v4, .int i5] w r = Ev T_L_law (some .boolean) xs Ln call 1215 [u0, u1, u2, u3] [.int (i1 + i0), v2, .int i3, v4, .int i5] w r := Ev.nxt rfl rfl
set_option maxRecDepth 20000 in
theorem S_L_law_1215 (hi : ¬ (i0 < 0 ∨ Ln ≤ i0.toNatClampNeg)) : Ev T_L_law (some .boolean) xs Ln call 1215 [u0, u1, u2, u3] [.int i0, .retAddr 0, .int i2, v3, .int i4] w r = Ev T_L_law (some .boolean) xs Ln call 1216 [u0, u1, u2, u3] [.int (xs i0.toNatClampNeg), .int i2, v3, .int i4] w r := Ev.nxt rfl (by exact (X_sld hi))
set_option maxRecDepth 20000 in
theorem S_L_law_1216 (h : isRf z = true) : Ev T_L_law (some .boolean) xs Ln call 1216 [some z, u1, u2, u3] [.int i0, .int i1, v2, .int i3] w r = Ev T_L_law (some .boolean) xs Ln call 1217 [some z, u1, u2, u3] [z, .int i0, .int i1, v2, .int i3] w r := Ev.nxt rfl (by exact (if_pos h))
set_option maxRecDepth 20000 in
theorem S_L_law_1217 : Ev T_L_law (some .boolean) xs Ln call 1217 [u0, u1, u2, some (.int x)] [v0, .int i1, .int i2, v3, .int i4] w r = Ev T_L_law (some .boolean) xs Ln call 1218 [u0, u1, u2, some (.int x)] [.int x, v0, .int i1, .int i2, v3, .int i4] w r := Ev.nxt rfl rfl
set_option maxRecDepth 20000 in
theorem S_L_law_1218 : Ev T_L_law (some .boolean) xs Ln call 1218 [u0, u1, u2, u3] [.int i0, v1, .int i2, .int i3, v4, .int i5] w r = Ev T_L_law (some .boolean) xs Ln call 1219 [u0, u1, u2, u3] [.int 3, .int i0, v1, .int i2, .int i3, v4, .int i5] w r := Ev.nxt rfl rfl
set_option maxRecDepth 20000 in
theorem S_L_law_1219 : Ev T_L_law (some .boolean) xs Ln call 1219 [u0, u1, u2, u3] [.int i0, .int i1, v2, .int i3, .int i4, v5, .int i6] w r = Ev T_L_law (some .boolean) xs Ln call 1220 [u0, u1, u2, u3] [.int (i1 + i0), v2, .int i3, .int i4, v5, .int i6] w r := Ev.nxt rfl rfl
set_option maxRecDepth 20000 in
theorem S_L_law_1220 (hi : ¬ (i0 < 0 ∨ Ln ≤ i0.toNatClampNeg)) : Ev T_L_law (some .boolean) xs Ln call 1220 [u0, u1, u2, u3] [.int i0, .retAddr 0, .int i2, .int i3, v4, .int i5] w r = Ev T_L_law (some .boolean) xs Ln call 1221 [u0, u1, u2, u3] [.int (xs i0.toNatClampNeg), .int i2, .int i3, v4, .int i5] w r := Ev.nxt rfl (by exact (X_sld hi))
set_option maxRecDepth 20000 in
theorem S_L_law_1221 (h : isObj w k3 11 = true) : Ev T_L_law (some .boolean) xs Ln call 1221 [u0, u1, u2, u3] [.int i0, .int i1, .int i2, .ref k3, .int i4] w r = aft T_L_law (some .boolean) xs Ln call 1224 [u0, u1, u2, u3] [.int i4] r (call 242 [.ref k3, .int i2, .int i1, .int i0] w) := Ev.cl (vv := true) (k := 242) (n := 4) (nx := 1224) rfl rfl (Nat.le_of_ble_eq_true rfl) (by simp [catS, Value.category]) rfl (Or.inr h)
set_option maxRecDepth 20000 in
theorem S_L_law_1224 : Ev T_L_law (some .boolean) xs Ln call 1224 [u0, u1, u2, u3] [.int i0, .int i1] w r = if i1 = i0 then Ev T_L_law (some .boolean) xs Ln call 1785 [u0, u1, u2, u3] [] w r else Ev T_L_law (some .boolean) xs Ln call 1227 [u0, u1, u2, u3] [] w r := Ev.ifc rfl (by exact iteB)
set_option maxRecDepth 20000 in
theorem S_L_law_1227 : Ev T_L_law (some .boolean) xs Ln call 1227 [u0, u1, u2, u3] [] w r = Ev T_L_law (some .boolean) xs Ln call 1228 [u0, u1, u2, u3] [.int 0] w r := Ev.nxt rfl rfl
set_option maxRecDepth 20000 in
theorem S_L_law_1228 (h : okR (some .boolean) (.int i0) = true) : Ev T_L_law (some .boolean) xs Ln call 1228 [u0, u1, u2, u3] [.int i0] w r = (r = (w, some (.int i0))) := Ev.rt rfl (by exact if_pos h)
set_option maxRecDepth 20000 in
theorem S_L_law_1229 (h : isRf z = true) : Ev T_L_law (some .boolean) xs Ln call 1229 [u0, some z, u2, u3] [] w r = Ev T_L_law (some .boolean) xs Ln call 1230 [u0, some z, u2, u3] [z] w r := Ev.nxt rfl (by exact (if_pos h))
set_option maxRecDepth 20000 in
theorem S_L_law_1230 (h : isRf z = true) : Ev T_L_law (some .boolean) xs Ln call 1230 [some z, u1, u2, u3] [v0] w r = Ev T_L_law (some .boolean) xs Ln call 1231 [some z, u1, u2, u3] [z, v0] w r := Ev.nxt rfl (by exact (if_pos h))
set_option maxRecDepth 20000 in
theorem S_L_law_1231 : Ev T_L_law (some .boolean) xs Ln call 1231 [u0, u1, u2, some (.int x)] [v0, v1] w r = Ev T_L_law (some .boolean) xs Ln call 1232 [u0, u1, u2, some (.int x)] [.int x, v0, v1] w r := Ev.nxt rfl rfl
set_option maxRecDepth 20000 in
theorem S_L_law_1232 : Ev T_L_law (some .boolean) xs Ln call 1232 [u0, u1, u2, u3] [.int i0, v1, v2] w r = Ev T_L_law (some .boolean) xs Ln call 1233 [u0, u1, u2, u3] [.int 1, .int i0, v1, v2] w r := Ev.nxt rfl rfl
set_option maxRecDepth 20000 in
theorem S_L_law_1233 : Ev T_L_law (some .boolean) xs Ln call 1233 [u0, u1, u2, u3] [.int i0, .int i1, v2, v3] w r = Ev T_L_law (some .boolean) xs Ln call 1234 [u0, u1, u2, u3] [.int (i1 + i0), v2, v3] w r := Ev.nxt rfl rfl
set_option maxRecDepth 20000 in
theorem S_L_law_1234 (hi : ¬ (i0 < 0 ∨ Ln ≤ i0.toNatClampNeg)) : Ev T_L_law (some .boolean) xs Ln call 1234 [u0, u1, u2, u3] [.int i0, .retAddr 0, v2] w r = Ev T_L_law (some .boolean) xs Ln call 1235 [u0, u1, u2, u3] [.int (xs i0.toNatClampNeg), v2] w r := Ev.nxt rfl (by exact (X_sld hi))
set_option maxRecDepth 20000 in
theorem S_L_law_1235 (h : isObj w k1 10 = true) : Ev T_L_law (some .boolean) xs Ln call 1235 [u0, u1, u2, u3] [.int i0, .ref k1] w r = aft T_L_law (some .boolean) xs Ln call 1238 [u0, u1, u2, u3] [] r (call 115 [.ref k1, .int i0] w) := Ev.cl (vv := true) (k := 115) (n := 2) (nx := 1238) rfl rfl (Nat.le_of_ble_eq_true rfl) (by simp [catS, Value.category]) rfl (Or.inr h)
set_option maxRecDepth 20000 in
theorem S_L_law_1238 (h : isRf z = true) : Ev T_L_law (some .boolean) xs Ln call 1238 [u0, u1, some z, u3] [.int i0] w r = Ev T_L_law (some .boolean) xs Ln call 1239 [u0, u1, some z, u3] [z, .int i0] w r := Ev.nxt rfl (by exact (if_pos h))
set_option maxRecDepth 20000 in
theorem S_L_law_1239 (h : isRf z = true) : Ev T_L_law (some .boolean) xs Ln call 1239 [some z, u1, u2, u3] [v0, .int i1] w r = Ev T_L_law (some .boolean) xs Ln call 1240 [some z, u1, u2, u3] [z, v0, .int i1] w r := Ev.nxt rfl (by exact (if_pos h))
set_option maxRecDepth 20000 in
theorem S_L_law_1240 : Ev T_L_law (some .boolean) xs Ln call 1240 [u0, u1, u2, some (.int x)] [v0, v1, .int i2] w r = Ev T_L_law (some .boolean) xs Ln call 1241 [u0, u1, u2, some (.int x)] [.int x, v0, v1, .int i2] w r := Ev.nxt rfl rfl
set_option maxRecDepth 20000 in
theorem S_L_law_1241 : Ev T_L_law (some .boolean) xs Ln call 1241 [u0, u1, u2, u3] [.int i0, v1, v2, .int i3] w r = Ev T_L_law (some .boolean) xs Ln call 1242 [u0, u1, u2, u3] [.int 1, .int i0, v1, v2, .int i3] w r := Ev.nxt rfl rfl
set_option maxRecDepth 20000 in
theorem S_L_law_1242 : Ev T_L_law (some .boolean) xs Ln call 1242 [u0, u1, u2, u3] [.int i0, .int i1, v2, v3, .int i4] w r = Ev T_L_law (some .boolean) xs Ln call 1243 [u0, u1, u2, u3] [.int (i1 + i0), v2, v3, .int i4] w r := Ev.nxt rfl rfl
set_option maxRecDepth 20000 in
theorem S_L_law_1243 (hi : ¬ (i0 < 0 ∨ Ln ≤ i0.toNatClampNeg)) : Ev T_L_law (some .boolean) xs Ln call 1243 [u0, u1, u2, u3] [.int i0, .retAddr 0, v2, .int i3] w r = Ev T_L_law (some .boolean) xs Ln call 1244 [u0, u1, u2, u3] [.int (xs i0.toNatClampNeg), v2, .int i3] w r := Ev.nxt rfl (by exact (X_sld hi))
set_option maxRecDepth 20000 in
theorem S_L_law_1244 (h : isObj w k1 11 = true) : Ev T_L_law (some .boolean) xs Ln call 1244 [u0, u1, u2, u3] [.int i0, .ref k1, .int i2] w r = aft T_L_law (some .boolean) xs Ln call 1247 [u0, u1, u2, u3] [.int i2] r (call 243 [.ref k1, .int i0] w) := Ev.cl (vv := true) (k := 243) (n := 2) (nx := 1247) rfl rfl (Nat.le_of_ble_eq_true rfl) (by simp [catS, Value.category]) rfl (Or.inr h)
set_option maxRecDepth 20000 in
theorem S_L_law_1247 : Ev T_L_law (some .boolean) xs Ln call 1247 [u0, u1, u2, u3] [.int i0, .int i1] w r = if i1 = i0 then Ev T_L_law (some .boolean) xs Ln call 1785 [u0, u1, u2, u3] [] w r else Ev T_L_law (some .boolean) xs Ln call 1250 [u0, u1, u2, u3] [] w r := Ev.ifc rfl (by exact iteB)
set_option maxRecDepth 20000 in
theorem S_L_law_1250 : Ev T_L_law (some .boolean) xs Ln call 1250 [u0, u1, u2, u3] [] w r = Ev T_L_law (some .boolean) xs Ln call 1251 [u0, u1, u2, u3] [.int 0] w r := Ev.nxt rfl rfl
set_option maxRecDepth 20000 in
theorem S_L_law_1251 (h : okR (some .boolean) (.int i0) = true) : Ev T_L_law (some .boolean) xs Ln call 1251 [u0, u1, u2, u3] [.int i0] w r = (r = (w, some (.int i0))) := Ev.rt rfl (by exact if_pos h)
set_option maxRecDepth 20000 in
theorem S_L_law_1252 (h : isRf z = true) : Ev T_L_law (some .boolean) xs Ln call 1252 [u0, some z, u2, u3] [] w r = Ev T_L_law (some .boolean) xs Ln call 1253 [u0, some z, u2, u3] [z] w r := Ev.nxt rfl (by exact (if_pos h))
set_option maxRecDepth 20000 in
theorem S_L_law_1253 (h : isRf z = true) : Ev T_L_law (some .boolean) xs Ln call 1253 [some z, u1, u2, u3] [v0] w r = Ev T_L_law (some .boolean) xs Ln call 1254 [some z, u1, u2, u3] [z, v0] w r := Ev.nxt rfl (by exact (if_pos h))
set_option maxRecDepth 20000 in
theorem S_L_law_1254 : Ev T_L_law (some .boolean) xs Ln call 1254 [u0, u1, u2, some (.int x)] [v0, v1] w r = Ev T_L_law (some .boolean) xs Ln call 1255 [u0, u1, u2, some (.int x)] [.int x, v0, v1] w r := Ev.nxt rfl rfl
set_option maxRecDepth 20000 in
theorem S_L_law_1255 : Ev T_L_law (some .boolean) xs Ln call 1255 [u0, u1, u2, u3] [.int i0, v1, v2] w r = Ev T_L_law (some .boolean) xs Ln call 1256 [u0, u1, u2, u3] [.int 1, .int i0, v1, v2] w r := Ev.nxt rfl rfl
set_option maxRecDepth 20000 in
theorem S_L_law_1256 : Ev T_L_law (some .boolean) xs Ln call 1256 [u0, u1, u2, u3] [.int i0, .int i1, v2, v3] w r = Ev T_L_law (some .boolean) xs Ln call 1257 [u0, u1, u2, u3] [.int (i1 + i0), v2, v3] w r := Ev.nxt rfl rfl
set_option maxRecDepth 20000 in
theorem S_L_law_1257 (hi : ¬ (i0 < 0 ∨ Ln ≤ i0.toNatClampNeg)) : Ev T_L_law (some .boolean) xs Ln call 1257 [u0, u1, u2, u3] [.int i0, .retAddr 0, v2] w r = Ev T_L_law (some .boolean) xs Ln call 1258 [u0, u1, u2, u3] [.int (xs i0.toNatClampNeg), v2] w r := Ev.nxt rfl (by exact (X_sld hi))
set_option maxRecDepth 20000 in
theorem S_L_law_1258 (h : isObj w k1 10 = true) : Ev T_L_law (some .boolean) xs Ln call 1258 [u0, u1, u2, u3] [.int i0, .ref k1] w r = aft T_L_law (some .boolean) xs Ln call 1261 [u0, u1, u2, u3] [] r (call 116 [.ref k1, .int i0] w) := Ev.cl (vv := true) (k := 116) (n := 2) (nx := 1261) rfl rfl (Nat.le_of_ble_eq_true rfl) (by simp [catS, Value.category]) rfl (Or.inr h)
set_option maxRecDepth 20000 in
theorem S_L_law_1261 (h : isRf z = true) : Ev T_L_law (some .boolean) xs Ln call 1261 [u0, u1, some z, u3] [.int i0] w r = Ev T_L_law (some .boolean) xs Ln call 1262 [u0, u1, some z, u3] [z, .int i0] w r := Ev.nxt rfl (by exact (if_pos h))
set_option maxRecDepth 20000 in
theorem S_L_law_1262 (h : isRf z = true) : Ev T_L_law (some .boolean) xs Ln call 1262 [some z, u1, u2, u3] [v0, .int i1] w r = Ev T_L_law (some .boolean) xs Ln call 1263 [some z, u1, u2, u3] [z, v0, .int i1] w r := Ev.nxt rfl (by exact (if_pos h))
set_option maxRecDepth 20000 in
theorem S_L_law_1263 : Ev T_L_law (some .boolean) xs Ln call 1263 [u0, u1, u2, some (.int x)] [v0, v1, .int i2] w r = Ev T_L_law (some .boolean) xs Ln call 1264 [u0, u1, u2, some (.int x)] [.int x, v0, v1, .int i2] w r := Ev.nxt rfl rfl
set_option maxRecDepth 20000 in
theorem S_L_law_1264 : Ev T_L_law (some .boolean) xs Ln call 1264 [u0, u1, u2, u3] [.int i0, v1, v2, .int i3] w r = Ev T_L_law (some .boolean) xs Ln call 1265 [u0, u1, u2, u3] [.int 1, .int i0, v1, v2, .int i3] w r := Ev.nxt rfl rfl
set_option maxRecDepth 20000 in
theorem S_L_law_1265 : Ev T_L_law (some .boolean) xs Ln call 1265 [u0, u1, u2, u3] [.int i0, .int i1, v2, v3, .int i4] w r = Ev T_L_law (some .boolean) xs Ln call 1266 [u0, u1, u2, u3] [.int (i1 + i0), v2, v3, .int i4] w r := Ev.nxt rfl rfl
set_option maxRecDepth 20000 in
theorem S_L_law_1266 (hi : ¬ (i0 < 0 ∨ Ln ≤ i0.toNatClampNeg)) : Ev T_L_law (some .boolean) xs Ln call 1266 [u0, u1, u2, u3] [.int i0, .retAddr 0, v2, .int i3] w r = Ev T_L_law (some .boolean) xs Ln call 1267 [u0, u1, u2, u3] [.int (xs i0.toNatClampNeg), v2, .int i3] w r := Ev.nxt rfl (by exact (X_sld hi))
set_option maxRecDepth 20000 in
theorem S_L_law_1267 (h : isObj w k1 11 = true) : Ev T_L_law (some .boolean) xs Ln call 1267 [u0, u1, u2, u3] [.int i0, .ref k1, .int i2] w r = aft T_L_law (some .boolean) xs Ln call 1270 [u0, u1, u2, u3] [.int i2] r (call 244 [.ref k1, .int i0] w) := Ev.cl (vv := true) (k := 244) (n := 2) (nx := 1270) rfl rfl (Nat.le_of_ble_eq_true rfl) (by simp [catS, Value.category]) rfl (Or.inr h)
set_option maxRecDepth 20000 in
theorem S_L_law_1270 : Ev T_L_law (some .boolean) xs Ln call 1270 [u0, u1, u2, u3] [.int i0, .int i1] w r = if i1 = i0 then Ev T_L_law (some .boolean) xs Ln call 1785 [u0, u1, u2, u3] [] w r else Ev T_L_law (some .boolean) xs Ln call 1273 [u0, u1, u2, u3] [] w r := Ev.ifc rfl (by exact iteB)
set_option maxRecDepth 20000 in
theorem S_L_law_1273 : Ev T_L_law (some .boolean) xs Ln call 1273 [u0, u1, u2, u3] [] w r = Ev T_L_law (some .boolean) xs Ln call 1274 [u0, u1, u2, u3] [.int 0] w r := Ev.nxt rfl rfl
set_option maxRecDepth 20000 in
theorem S_L_law_1274 (h : okR (some .boolean) (.int i0) = true) : Ev T_L_law (some .boolean) xs Ln call 1274 [u0, u1, u2, u3] [.int i0] w r = (r = (w, some (.int i0))) := Ev.rt rfl (by exact if_pos h)
set_option maxRecDepth 20000 in
theorem S_L_law_1275 (h : isRf z = true) : Ev T_L_law (some .boolean) xs Ln call 1275 [u0, some z, u2, u3] [] w r = Ev T_L_law (some .boolean) xs Ln call 1276 [u0, some z, u2, u3] [z] w r := Ev.nxt rfl (by exact (if_pos h))
set_option maxRecDepth 20000 in
theorem S_L_law_1276 (h : isRf z = true) : Ev T_L_law (some .boolean) xs Ln call 1276 [some z, u1, u2, u3] [v0] w r = Ev T_L_law (some .boolean) xs Ln call 1277 [some z, u1, u2, u3] [z, v0] w r := Ev.nxt rfl (by exact (if_pos h))
set_option maxRecDepth 20000 in
theorem S_L_law_1277 : Ev T_L_law (some .boolean) xs Ln call 1277 [u0, u1, u2, some (.int x)] [v0, v1] w r = Ev T_L_law (some .boolean) xs Ln call 1278 [u0, u1, u2, some (.int x)] [.int x, v0, v1] w r := Ev.nxt rfl rfl
set_option maxRecDepth 20000 in
theorem S_L_law_1278 : Ev T_L_law (some .boolean) xs Ln call 1278 [u0, u1, u2, u3] [.int i0, v1, v2] w r = Ev T_L_law (some .boolean) xs Ln call 1279 [u0, u1, u2, u3] [.int 1, .int i0, v1, v2] w r := Ev.nxt rfl rfl
set_option maxRecDepth 20000 in
theorem S_L_law_1279 : Ev T_L_law (some .boolean) xs Ln call 1279 [u0, u1, u2, u3] [.int i0, .int i1, v2, v3] w r = Ev T_L_law (some .boolean) xs Ln call 1280 [u0, u1, u2, u3] [.int (i1 + i0), v2, v3] w r := Ev.nxt rfl rfl
set_option maxRecDepth 20000 in
theorem S_L_law_1280 (hi : ¬ (i0 < 0 ∨ Ln ≤ i0.toNatClampNeg)) : Ev T_L_law (some .boolean) xs Ln call 1280 [u0, u1, u2, u3] [.int i0, .retAddr 0, v2] w r = Ev T_L_law (some .boolean) xs Ln call 1281 [u0, u1, u2, u3] [.int (xs i0.toNatClampNeg), v2] w r := Ev.nxt rfl (by exact (X_sld hi))
set_option maxRecDepth 20000 in
theorem S_L_law_1281 (h : isRf z = true) : Ev T_L_law (some .boolean) xs Ln call 1281 [some z, u1, u2, u3] [.int i0, v1] w r = Ev T_L_law (some .boolean) xs Ln call 1282 [some z, u1, u2, u3] [z, .int i0, v1] w r := Ev.nxt rfl (by exact (if_pos h))
set_option maxRecDepth 20000 in
theorem S_L_law_1282 : Ev T_L_law (some .boolean) xs Ln call 1282 [u0, u1, u2, some (.int x)] [v0, .int i1, v2] w r = Ev T_L_law (some .boolean) xs Ln call 1283 [u0, u1, u2, some (.int x)] [.int x, v0, .int i1, v2] w r := Ev.nxt rfl rfl
set_option maxRecDepth 20000 in
theorem S_L_law_1283 : Ev T_L_law (some .boolean) xs Ln call 1283 [u0, u1, u2, u3] [.int i0, v1, .int i2, v3] w r = Ev T_L_law (some .boolean) xs Ln call 1284 [u0, u1, u2, u3] [.int 2, .int i0, v1, .int i2, v3] w r := Ev.nxt rfl rfl
set_option maxRecDepth 20000 in
theorem S_L_law_1284 : Ev T_L_law (some .boolean) xs Ln call 1284 [u0, u1, u2, u3] [.int i0, .int i1, v2, .int i3, v4] w r = Ev T_L_law (some .boolean) xs Ln call 1285 [u0, u1, u2, u3] [.int (i1 + i0), v2, .int i3, v4] w r := Ev.nxt rfl rfl
set_option maxRecDepth 20000 in
theorem S_L_law_1285 (hi : ¬ (i0 < 0 ∨ Ln ≤ i0.toNatClampNeg)) : Ev T_L_law (some .boolean) xs Ln call 1285 [u0, u1, u2, u3] [.int i0, .retAddr 0, .int i2, v3] w r = Ev T_L_law (some .boolean) xs Ln call 1286 [u0, u1, u2, u3] [.int (xs i0.toNatClampNeg), .int i2, v3] w r := Ev.nxt rfl (by exact (X_sld hi))
set_option maxRecDepth 20000 in
theorem S_L_law_1286 (h : isObj w k2 10 = true) : Ev T_L_law (some .boolean) xs Ln call 1286 [u0, u1, u2, u3] [.int i0, .int i1, .ref k2] w r = aft T_L_law (some .boolean) xs Ln call 1289 [u0, u1, u2, u3] [] r (call 117 [.ref k2, .int i1, .int i0] w) := Ev.cl (vv := true) (k := 117) (n := 3) (nx := 1289) rfl rfl (Nat.le_of_ble_eq_true rfl) (by simp [catS, Value.category]) rfl (Or.inr h)
set_option maxRecDepth 20000 in
theorem S_L_law_1289 (h : isRf z = true) : Ev T_L_law (some .boolean) xs Ln call 1289 [u0, u1, some z, u3] [.int i0] w r = Ev T_L_law (some .boolean) xs Ln call 1290 [u0, u1, some z, u3] [z, .int i0] w r := Ev.nxt rfl (by exact (if_pos h))
set_option maxRecDepth 20000 in
theorem S_L_law_1290 (h : isRf z = true) : Ev T_L_law (some .boolean) xs Ln call 1290 [some z, u1, u2, u3] [v0, .int i1] w r = Ev T_L_law (some .boolean) xs Ln call 1291 [some z, u1, u2, u3] [z, v0, .int i1] w r := Ev.nxt rfl (by exact (if_pos h))
set_option maxRecDepth 20000 in
theorem S_L_law_1291 : Ev T_L_law (some .boolean) xs Ln call 1291 [u0, u1, u2, some (.int x)] [v0, v1, .int i2] w r = Ev T_L_law (some .boolean) xs Ln call 1292 [u0, u1, u2, some (.int x)] [.int x, v0, v1, .int i2] w r := Ev.nxt rfl rfl
set_option maxRecDepth 20000 in
theorem S_L_law_1292 : Ev T_L_law (some .boolean) xs Ln call 1292 [u0, u1, u2, u3] [.int i0, v1, v2, .int i3] w r = Ev T_L_law (some .boolean) xs Ln call 1293 [u0, u1, u2, u3] [.int 1, .int i0, v1, v2, .int i3] w r := Ev.nxt rfl rfl
set_option maxRecDepth 20000 in
theorem S_L_law_1293 : Ev T_L_law (some .boolean) xs Ln call 1293 [u0, u1, u2, u3] [.int i0, .int i1, v2, v3, .int i4] w r = Ev T_L_law (some .boolean) xs Ln call 1294 [u0, u1, u2, u3] [.int (i1 + i0), v2, v3, .int i4] w r := Ev.nxt rfl rfl
set_option maxRecDepth 20000 in
theorem S_L_law_1294 (hi : ¬ (i0 < 0 ∨ Ln ≤ i0.toNatClampNeg)) : Ev T_L_law (some .boolean) xs Ln call 1294 [u0, u1, u2, u3] [.int i0, .retAddr 0, v2, .int i3] w r = Ev T_L_law (some .boolean) xs Ln call 1295 [u0, u1, u2, u3] [.int (xs i0.toNatClampNeg), v2, .int i3] w r := Ev.nxt rfl (by exact (X_sld hi))
set_option maxRecDepth 20000 in
theorem S_L_law_1295 (h : isRf z = true) : Ev T_L_law (some .boolean) xs Ln call 1295 [some z, u1, u2, u3] [.int i0, v1, .int i2] w r = Ev T_L_law (some .boolean) xs Ln call 1296 [some z, u1, u2, u3] [z, .int i0, v1, .int i2] w r := Ev.nxt rfl (by exact (if_pos h))
set_option maxRecDepth 20000 in
theorem S_L_law_1296 : Ev T_L_law (some .boolean) xs Ln call 1296 [u0, u1, u2, some (.int x)] [v0, .int i1, v2, .int i3] w r = Ev T_L_law (some .boolean) xs Ln call 1297 [u0, u1, u2, some (.int x)] [.int x, v0, .int i1, v2, .int i3] w r := Ev.nxt rfl rfl
set_option maxRecDepth 20000 in
theorem S_L_law_1297 : Ev T_L_law (some .boolean) xs Ln call 1297 [u0, u1, u2, u3] [.int i0, v1, .int i2, v3, .int i4] w r = Ev T_L_law (some .boolean) xs Ln call 1298 [u0, u1, u2, u3] [.int 2, .int i0, v1, .int i2, v3, .int i4] w r := Ev.nxt rfl rfl
set_option maxRecDepth 20000 in
theorem S_L_law_1298 : Ev T_L_law (some .boolean) xs Ln call 1298 [u0, u1, u2, u3] [.int i0, .int i1, v2, .int i3, v4, .int i5] w r = Ev T_L_law (some .boolean) xs Ln call 1299 [u0, u1, u2, u3] [.int (i1 + i0), v2, .int i3, v4, .int i5] w r := Ev.nxt rfl rfl
set_option maxRecDepth 20000 in
theorem S_L_law_1299 (hi : ¬ (i0 < 0 ∨ Ln ≤ i0.toNatClampNeg)) : Ev T_L_law (some .boolean) xs Ln call 1299 [u0, u1, u2, u3] [.int i0, .retAddr 0, .int i2, v3, .int i4] w r = Ev T_L_law (some .boolean) xs Ln call 1300 [u0, u1, u2, u3] [.int (xs i0.toNatClampNeg), .int i2, v3, .int i4] w r := Ev.nxt rfl (by exact (X_sld hi))
set_option maxRecDepth 20000 in
theorem S_L_law_1300 (h : isObj w k2 11 = true) : Ev T_L_law (some .boolean) xs Ln call 1300 [u0, u1, u2, u3] [.int i0, .int i1, .ref k2, .int i3] w r = aft T_L_law (some .boolean) xs Ln call 1303 [u0, u1, u2, u3] [.int i3] r (call 245 [.ref k2, .int i1, .int i0] w) := Ev.cl (vv := true) (k := 245) (n := 3) (nx := 1303) rfl rfl (Nat.le_of_ble_eq_true rfl) (by simp [catS, Value.category]) rfl (Or.inr h)
set_option maxRecDepth 20000 in
theorem S_L_law_1303 : Ev T_L_law (some .boolean) xs Ln call 1303 [u0, u1, u2, u3] [.int i0, .int i1] w r = if i1 = i0 then Ev T_L_law (some .boolean) xs Ln call 1785 [u0, u1, u2, u3] [] w r else Ev T_L_law (some .boolean) xs Ln call 1306 [u0, u1, u2, u3] [] w r := Ev.ifc rfl (by exact iteB)
set_option maxRecDepth 20000 in
theorem S_L_law_1306 : Ev T_L_law (some .boolean) xs Ln call 1306 [u0, u1, u2, u3] [] w r = Ev T_L_law (some .boolean) xs Ln call 1307 [u0, u1, u2, u3] [.int 0] w r := Ev.nxt rfl rfl
set_option maxRecDepth 20000 in
theorem S_L_law_1307 (h : okR (some .boolean) (.int i0) = true) : Ev T_L_law (some .boolean) xs Ln call 1307 [u0, u1, u2, u3] [.int i0] w r = (r = (w, some (.int i0))) := Ev.rt rfl (by exact if_pos h)
set_option maxRecDepth 20000 in
theorem S_L_law_1308 (h : isRf z = true) : Ev T_L_law (some .boolean) xs Ln call 1308 [u0, some z, u2, u3] [] w r = Ev T_L_law (some .boolean) xs Ln call 1309 [u0, some z, u2, u3] [z] w r := Ev.nxt rfl (by exact (if_pos h))
set_option maxRecDepth 20000 in
theorem S_L_law_1309 (h : isRf z = true) : Ev T_L_law (some .boolean) xs Ln call 1309 [some z, u1, u2, u3] [v0] w r = Ev T_L_law (some .boolean) xs Ln call 1310 [some z, u1, u2, u3] [z, v0] w r := Ev.nxt rfl (by exact (if_pos h))
set_option maxRecDepth 20000 in
theorem S_L_law_1310 : Ev T_L_law (some .boolean) xs Ln call 1310 [u0, u1, u2, some (.int x)] [v0, v1] w r = Ev T_L_law (some .boolean) xs Ln call 1311 [u0, u1, u2, some (.int x)] [.int x, v0, v1] w r := Ev.nxt rfl rfl
set_option maxRecDepth 20000 in
theorem S_L_law_1311 : Ev T_L_law (some .boolean) xs Ln call 1311 [u0, u1, u2, u3] [.int i0, v1, v2] w r = Ev T_L_law (some .boolean) xs Ln call 1312 [u0, u1, u2, u3] [.int 1, .int i0, v1, v2] w r := Ev.nxt rfl rfl
set_option maxRecDepth 20000 in
theorem S_L_law_1312 : Ev T_L_law (some .boolean) xs Ln call 1312 [u0, u1, u2, u3] [.int i0, .int i1, v2, v3] w r = Ev T_L_law (some .boolean) xs Ln call 1313 [u0, u1, u2, u3] [.int (i1 + i0), v2, v3] w r := Ev.nxt rfl rfl
set_option maxRecDepth 20000 in
theorem S_L_law_1313 (hi : ¬ (i0 < 0 ∨ Ln ≤ i0.toNatClampNeg)) : Ev T_L_law (some .boolean) xs Ln call 1313 [u0, u1, u2, u3] [.int i0, .retAddr 0, v2] w r = Ev T_L_law (some .boolean) xs Ln call 1314 [u0, u1, u2, u3] [.int (xs i0.toNatClampNeg), v2] w r := Ev.nxt rfl (by exact (X_sld hi))
set_option maxRecDepth 20000 in
theorem S_L_law_1314 (h : isObj w k1 10 = true) : Ev T_L_law (some .boolean) xs Ln call 1314 [u0, u1, u2, u3] [.int i0, .ref k1] w r = aft T_L_law (some .boolean) xs Ln call 1317 [u0, u1, u2, u3] [] r (call 118 [.ref k1, .int i0] w) := Ev.cl (vv := true) (k := 118) (n := 2) (nx := 1317) rfl rfl (Nat.le_of_ble_eq_true rfl) (by simp [catS, Value.category]) rfl (Or.inr h)
set_option maxRecDepth 20000 in
theorem S_L_law_1317 (h : isRf z = true) : Ev T_L_law (some .boolean) xs Ln call 1317 [u0, u1, some z, u3] [.int i0] w r = Ev T_L_law (some .boolean) xs Ln call 1318 [u0, u1, some z, u3] [z, .int i0] w r := Ev.nxt rfl (by exact (if_pos h))
set_option maxRecDepth 20000 in
theorem S_L_law_1318 (h : isRf z = true) : Ev T_L_law (some .boolean) xs Ln call 1318 [some z, u1, u2, u3] [v0, .int i1] w r = Ev T_L_law (some .boolean) xs Ln call 1319 [some z, u1, u2, u3] [z, v0, .int i1] w r := Ev.nxt rfl (by exact (if_pos h))
set_option maxRecDepth 20000 in
theorem S_L_law_1319 : Ev T_L_law (some .boolean) xs Ln call 1319 [u0, u1, u2, some (.int x)] [v0, v1, .int i2] w r = Ev T_L_law (some .boolean) xs Ln call 1320 [u0, u1, u2, some (.int x)] [.int x, v0, v1, .int i2] w r := Ev.nxt rfl rfl
set_option maxRecDepth 20000 in
theorem S_L_law_1320 : Ev T_L_law (some .boolean) xs Ln call 1320 [u0, u1, u2, u3] [.int i0, v1, v2, .int i3] w r = Ev T_L_law (some .boolean) xs Ln call 1321 [u0, u1, u2, u3] [.int 1, .int i0, v1, v2, .int i3] w r := Ev.nxt rfl rfl
set_option maxRecDepth 20000 in
theorem S_L_law_1321 : Ev T_L_law (some .boolean) xs Ln call 1321 [u0, u1, u2, u3] [.int i0, .int i1, v2, v3, .int i4] w r = Ev T_L_law (some .boolean) xs Ln call 1322 [u0, u1, u2, u3] [.int (i1 + i0), v2, v3, .int i4] w r := Ev.nxt rfl rfl
set_option maxRecDepth 20000 in
theorem S_L_law_1322 (hi : ¬ (i0 < 0 ∨ Ln ≤ i0.toNatClampNeg)) : Ev T_L_law (some .boolean) xs Ln call 1322 [u0, u1, u2, u3] [.int i0, .retAddr 0, v2, .int i3] w r = Ev T_L_law (some .boolean) xs Ln call 1323 [u0, u1, u2, u3] [.int (xs i0.toNatClampNeg), v2, .int i3] w r := Ev.nxt rfl (by exact (X_sld hi))
set_option maxRecDepth 20000 in
theorem S_L_law_1323 (h : isObj w k1 11 = true) : Ev T_L_law (some .boolean) xs Ln call 1323 [u0, u1, u2, u3] [.int i0, .ref k1, .int i2] w r = aft T_L_law (some .boolean) xs Ln call 1326 [u0, u1, u2, u3] [.int i2] r (call 248 [.ref k1, .int i0] w) := Ev.cl (vv := true) (k := 248) (n := 2) (nx := 1326) rfl rfl (Nat.le_of_ble_eq_true rfl) (by simp [catS, Value.category]) rfl (Or.inr h)
set_option maxRecDepth 20000 in
theorem S_L_law_1326 : Ev T_L_law (some .boolean) xs Ln call 1326 [u0, u1, u2, u3] [.int i0, .int i1] w r = if i1 = i0 then Ev T_L_law (some .boolean) xs Ln call 1785 [u0, u1, u2, u3] [] w r else Ev T_L_law (some .boolean) xs Ln call 1329 [u0, u1, u2, u3] [] w r := Ev.ifc rfl (by exact iteB)
set_option maxRecDepth 20000 in
theorem S_L_law_1329 : Ev T_L_law (some .boolean) xs Ln call 1329 [u0, u1, u2, u3] [] w r = Ev T_L_law (some .boolean) xs Ln call 1330 [u0, u1, u2, u3] [.int 0] w r := Ev.nxt rfl rfl
set_option maxRecDepth 20000 in
theorem S_L_law_1330 (h : okR (some .boolean) (.int i0) = true) : Ev T_L_law (some .boolean) xs Ln call 1330 [u0, u1, u2, u3] [.int i0] w r = (r = (w, some (.int i0))) := Ev.rt rfl (by exact if_pos h)
set_option maxRecDepth 20000 in
theorem S_L_law_1331 (h : isRf z = true) : Ev T_L_law (some .boolean) xs Ln call 1331 [u0, some z, u2, u3] [] w r = Ev T_L_law (some .boolean) xs Ln call 1332 [u0, some z, u2, u3] [z] w r := Ev.nxt rfl (by exact (if_pos h))
set_option maxRecDepth 20000 in
theorem S_L_law_1332 (h : isRf z = true) : Ev T_L_law (some .boolean) xs Ln call 1332 [some z, u1, u2, u3] [v0] w r = Ev T_L_law (some .boolean) xs Ln call 1333 [some z, u1, u2, u3] [z, v0] w r := Ev.nxt rfl (by exact (if_pos h))
set_option maxRecDepth 20000 in
theorem S_L_law_1333 : Ev T_L_law (some .boolean) xs Ln call 1333 [u0, u1, u2, some (.int x)] [v0, v1] w r = Ev T_L_law (some .boolean) xs Ln call 1334 [u0, u1, u2, some (.int x)] [.int x, v0, v1] w r := Ev.nxt rfl rfl
set_option maxRecDepth 20000 in
theorem S_L_law_1334 : Ev T_L_law (some .boolean) xs Ln call 1334 [u0, u1, u2, u3] [.int i0, v1, v2] w r = Ev T_L_law (some .boolean) xs Ln call 1335 [u0, u1, u2, u3] [.int 1, .int i0, v1, v2] w r := Ev.nxt rfl rfl
set_option maxRecDepth 20000 in
theorem S_L_law_1335 : Ev T_L_law (some .boolean) xs Ln call 1335 [u0, u1, u2, u3] [.int i0, .int i1, v2, v3] w r = Ev T_L_law (some .boolean) xs Ln call 1336 [u0, u1, u2, u3] [.int (i1 + i0), v2, v3] w r := Ev.nxt rfl rfl
set_option maxRecDepth 20000 in
theorem S_L_law_1336 (hi : ¬ (i0 < 0 ∨ Ln ≤ i0.toNatClampNeg)) : Ev T_L_law (some .boolean) xs Ln call 1336 [u0, u1, u2, u3] [.int i0, .retAddr 0, v2] w r = Ev T_L_law (some .boolean) xs Ln call 1337 [u0, u1, u2, u3] [.int (xs i0.toNatClampNeg), v2] w r := Ev.nxt rfl (by exact (X_sld hi))
set_option maxRecDepth 20000 in
theorem S_L_law_1337 (h : isObj w k1 10 = true) : Ev T_L_law (some .boolean) xs Ln call 1337 [u0, u1, u2, u3] [.int i0, .ref k1] w r = aft T_L_law (some .boolean) xs Ln call 1340 [u0, u1, u2, u3] [] r (call 119 [.ref k1, .int i0] w) := Ev.cl (vv := true) (k := 119) (n := 2) (nx := 1340) rfl rfl (Nat.le_of_ble_eq_true rfl) (by simp [catS, Value.category]) rfl (Or.inr h)
set_option maxRecDepth 20000 in
theorem S_L_law_1340 (h : isRf z = true) : Ev T_L_law (some .boolean) xs Ln call 1340 [u0, u1, some z, u3] [.int i0] w r = Ev T_L_law (some .boolean) xs Ln call 1341 [u0, u1, some z, u3] [z, .int i0] w r := Ev.nxt rfl (by exact (if_pos h))
set_option maxRecDepth 20000 in
theorem S_L_law_1341 (h : isRf z = true) : Ev T_L_law (some .boolean) xs Ln call 1341 [some z, u1, u2, u3] [v0, .int i1] w r = Ev T_L_law (some .boolean) xs Ln call 1342 [some z, u1, u2, u3] [z, v0, .int i1] w r := Ev.nxt rfl (by exact (if_pos h))
set_option maxRecDepth 20000 in
theorem S_L_law_1342 : Ev T_L_law (some .boolean) xs Ln call 1342 [u0, u1, u2, some (.int x)] [v0, v1, .int i2] w r = Ev T_L_law (some .boolean) xs Ln call 1343 [u0, u1, u2, some (.int x)] [.int x, v0, v1, .int i2] w r := Ev.nxt rfl rfl
set_option maxRecDepth 20000 in
theorem S_L_law_1343 : Ev T_L_law (some .boolean) xs Ln call 1343 [u0, u1, u2, u3] [.int i0, v1, v2, .int i3] w r = Ev T_L_law (some .boolean) xs Ln call 1344 [u0, u1, u2, u3] [.int 1, .int i0, v1, v2, .int i3] w r := Ev.nxt rfl rfl
set_option maxRecDepth 20000 in
theorem S_L_law_1344 : Ev T_L_law (some .boolean) xs Ln call 1344 [u0, u1, u2, u3] [.int i0, .int i1, v2, v3, .int i4] w r = Ev T_L_law (some .boolean) xs Ln call 1345 [u0, u1, u2, u3] [.int (i1 + i0), v2, v3, .int i4] w r := Ev.nxt rfl rfl
set_option maxRecDepth 20000 in
theorem S_L_law_1345 (hi : ¬ (i0 < 0 ∨ Ln ≤ i0.toNatClampNeg)) : Ev T_L_law (some .boolean) xs Ln call 1345 [u0, u1, u2, u3] [.int i0, .retAddr 0, v2, .int i3] w r = Ev T_L_law (some .boolean) xs Ln call 1346 [u0, u1, u2, u3] [.int (xs i0.toNatClampNeg), v2, .int i3] w r := Ev.nxt rfl (by exact (X_sld hi))
set_option maxRecDepth 20000 in
theorem S_L_law_1346 (h : isObj w k1 11 = true) : Ev T_L_law (some .boolean) xs Ln call 1346 [u0, u1, u2, u3] [.int i0, .ref k1, .int i2] w r = aft T_L_law (some .boolean) xs Ln call 1349 [u0, u1, u2, u3] [.int i2] r (call 249 [.ref k1, .int i0] w) := Ev.cl (vv := true) (k := 249) (n := 2) (nx := 1349) rfl rfl (Nat.le_of_ble_eq_true rfl) (by simp [catS, Value.category]) rfl (Or.inr h)
set_option maxRecDepth 20000 in
theorem S_L_law_1349 : Ev T_L_law (some .boolean) xs Ln call 1349 [u0, u1, u2, u3] [.int i0, .int i1] w r = if i1 = i0 then Ev T_L_law (some .boolean) xs Ln call 1785 [u0, u1, u2, u3] [] w r else Ev T_L_law (some .boolean) xs Ln call 1352 [u0, u1, u2, u3] [] w r := Ev.ifc rfl (by exact iteB)
set_option maxRecDepth 20000 in
theorem S_L_law_1352 : Ev T_L_law (some .boolean) xs Ln call 1352 [u0, u1, u2, u3] [] w r = Ev T_L_law (some .boolean) xs Ln call 1353 [u0, u1, u2, u3] [.int 0] w r := Ev.nxt rfl rfl
set_option maxRecDepth 20000 in
theorem S_L_law_1353 (h : okR (some .boolean) (.int i0) = true) : Ev T_L_law (some .boolean) xs Ln call 1353 [u0, u1, u2, u3] [.int i0] w r = (r = (w, some (.int i0))) := Ev.rt rfl (by exact if_pos h)
set_option maxRecDepth 20000 in
theorem S_L_law_1354 (h : isRf z = true) : Ev T_L_law (some .boolean) xs Ln call 1354 [u0, some z, u2, u3] [] w r = Ev T_L_law (some .boolean) xs Ln call 1355 [u0, some z, u2, u3] [z] w r := Ev.nxt rfl (by exact (if_pos h))
set_option maxRecDepth 20000 in
theorem S_L_law_1355 (h : isRf z = true) : Ev T_L_law (some .boolean) xs Ln call 1355 [some z, u1, u2, u3] [v0] w r = Ev T_L_law (some .boolean) xs Ln call 1356 [some z, u1, u2, u3] [z, v0] w r := Ev.nxt rfl (by exact (if_pos h))
set_option maxRecDepth 20000 in
theorem S_L_law_1356 : Ev T_L_law (some .boolean) xs Ln call 1356 [u0, u1, u2, some (.int x)] [v0, v1] w r = Ev T_L_law (some .boolean) xs Ln call 1357 [u0, u1, u2, some (.int x)] [.int x, v0, v1] w r := Ev.nxt rfl rfl
set_option maxRecDepth 20000 in
theorem S_L_law_1357 : Ev T_L_law (some .boolean) xs Ln call 1357 [u0, u1, u2, u3] [.int i0, v1, v2] w r = Ev T_L_law (some .boolean) xs Ln call 1358 [u0, u1, u2, u3] [.int 1, .int i0, v1, v2] w r := Ev.nxt rfl rfl
set_option maxRecDepth 20000 in
theorem S_L_law_1358 : Ev T_L_law (some .boolean) xs Ln call 1358 [u0, u1, u2, u3] [.int i0, .int i1, v2, v3] w r = Ev T_L_law (some .boolean) xs Ln call 1359 [u0, u1, u2, u3] [.int (i1 + i0), v2, v3] w r := Ev.nxt rfl rfl
set_option maxRecDepth 20000 in
theorem S_L_law_1359 (hi : ¬ (i0 < 0 ∨ Ln ≤ i0.toNatClampNeg)) : Ev T_L_law (some .boolean) xs Ln call 1359 [u0, u1, u2, u3] [.int i0, .retAddr 0, v2] w r = Ev T_L_law (some .boolean) xs Ln call 1360 [u0, u1, u2, u3] [.int (xs i0.toNatClampNeg), v2] w r := Ev.nxt rfl (by exact (X_sld hi))
set_option maxRecDepth 20000 in
theorem S_L_law_1360 (h : isObj w k1 10 = true) : Ev T_L_law (some .boolean) xs Ln call 1360 [u0, u1, u2, u3] [.int i0, .ref k1] w r = aft T_L_law (some .boolean) xs Ln call 1363 [u0, u1, u2, u3] [] r (call 120 [.ref k1, .int i0] w) := Ev.cl (vv := true) (k := 120) (n := 2) (nx := 1363) rfl rfl (Nat.le_of_ble_eq_true rfl) (by simp [catS, Value.category]) rfl (Or.inr h)
set_option maxRecDepth 20000 in
theorem S_L_law_1363 (h : isRf z = true) : Ev T_L_law (some .boolean) xs Ln call 1363 [u0, u1, some z, u3] [.int i0] w r = Ev T_L_law (some .boolean) xs Ln call 1364 [u0, u1, some z, u3] [z, .int i0] w r := Ev.nxt rfl (by exact (if_pos h))
set_option maxRecDepth 20000 in
theorem S_L_law_1364 (h : isRf z = true) : Ev T_L_law (some .boolean) xs Ln call 1364 [some z, u1, u2, u3] [v0, .int i1] w r = Ev T_L_law (some .boolean) xs Ln call 1365 [some z, u1, u2, u3] [z, v0, .int i1] w r := Ev.nxt rfl (by exact (if_pos h))
set_option maxRecDepth 20000 in
theorem S_L_law_1365 : Ev T_L_law (some .boolean) xs Ln call 1365 [u0, u1, u2, some (.int x)] [v0, v1, .int i2] w r = Ev T_L_law (some .boolean) xs Ln call 1366 [u0, u1, u2, some (.int x)] [.int x, v0, v1, .int i2] w r := Ev.nxt rfl rfl
set_option maxRecDepth 20000 in
theorem S_L_law_1366 : Ev T_L_law (some .boolean) xs Ln call 1366 [u0, u1, u2, u3] [.int i0, v1, v2, .int i3] w r = Ev T_L_law (some .boolean) xs Ln call 1367 [u0, u1, u2, u3] [.int 1, .int i0, v1, v2, .int i3] w r := Ev.nxt rfl rfl
set_option maxRecDepth 20000 in
theorem S_L_law_1367 : Ev T_L_law (some .boolean) xs Ln call 1367 [u0, u1, u2, u3] [.int i0, .int i1, v2, v3, .int i4] w r = Ev T_L_law (some .boolean) xs Ln call 1368 [u0, u1, u2, u3] [.int (i1 + i0), v2, v3, .int i4] w r := Ev.nxt rfl rfl
set_option maxRecDepth 20000 in
theorem S_L_law_1368 (hi : ¬ (i0 < 0 ∨ Ln ≤ i0.toNatClampNeg)) : Ev T_L_law (some .boolean) xs Ln call 1368 [u0, u1, u2, u3] [.int i0, .retAddr 0, v2, .int i3] w r = Ev T_L_law (some .boolean) xs Ln call 1369 [u0, u1, u2, u3] [.int (xs i0.toNatClampNeg), v2, .int i3] w r := Ev.nxt rfl (by exact (X_sld hi))
set_option maxRecDepth 20000 in
theorem S_L_law_1369 (h : isObj w k1 11 = true) : Ev T_L_law (some .boolean) xs Ln call 1369 [u0, u1, u2, u3] [.int i0, .ref k1, .int i2] w r = aft T_L_law (some .boolean) xs Ln call 1372 [u0, u1, u2, u3] [.int i2] r (call 251 [.ref k1, .int i0] w) := Ev.cl (vv := true) (k := 251) (n := 2) (nx := 1372) rfl rfl (Nat.le_of_ble_eq_true rfl) (by simp [catS, Value.category]) rfl (Or.inr h)
set_option maxRecDepth 20000 in
theorem S_L_law_1372 : Ev T_L_law (some .boolean) xs Ln call 1372 [u0, u1, u2, u3] [.int i0, .int i1] w r = if i1 = i0 then Ev T_L_law (some .boolean) xs Ln call 1785 [u0, u1, u2, u3] [] w r else Ev T_L_law (some .boolean) xs Ln call 1375 [u0, u1, u2, u3] [] w r := Ev.ifc rfl (by exact iteB)
set_option maxRecDepth 20000 in
theorem S_L_law_1375 : Ev T_L_law (some .boolean) xs Ln call 1375 [u0, u1, u2, u3] [] w r = Ev T_L_law (some .boolean) xs Ln call 1376 [u0, u1, u2, u3] [.int 0] w r := Ev.nxt rfl rfl
set_option maxRecDepth 20000 in
theorem S_L_law_1376 (h : okR (some .boolean) (.int i0) = true) : Ev T_L_law (some .boolean) xs Ln call 1376 [u0, u1, u2, u3] [.int i0] w r = (r = (w, some (.int i0))) := Ev.rt rfl (by exact if_pos h)
set_option maxRecDepth 20000 in
theorem S_L_law_1377 (h : isRf z = true) : Ev T_L_law (some .boolean) xs Ln call 1377 [u0, some z, u2, u3] [] w r = Ev T_L_law (some .boolean) xs Ln call 1378 [u0, some z, u2, u3] [z] w r := Ev.nxt rfl (by exact (if_pos h))
set_option maxRecDepth 20000 in
theorem S_L_law_1378 (h : isRf z = true) : Ev T_L_law (some .boolean) xs Ln call 1378 [some z, u1, u2, u3] [v0] w r = Ev T_L_law (some .boolean) xs Ln call 1379 [some z, u1, u2, u3] [z, v0] w r := Ev.nxt rfl (by exact (if_pos h))
set_option maxRecDepth 20000 in
theorem S_L_law_1379 : Ev T_L_law (some .boolean) xs Ln call 1379 [u0, u1, u2, some (.int x)] [v0, v1] w r = Ev T_L_law (some .boolean) xs Ln call 1380 [u0, u1, u2, some (.int x)] [.int x, v0, v1] w r := Ev.nxt rfl rfl
set_option maxRecDepth 20000 in
theorem S_L_law_1380 : Ev T_L_law (some .boolean) xs Ln call 1380 [u0, u1, u2, u3] [.int i0, v1, v2] w r = Ev T_L_law (some .boolean) xs Ln call 1381 [u0, u1, u2, u3] [.int 1, .int i0, v1, v2] w r := Ev.nxt rfl rfl
set_option maxRecDepth 20000 in
theorem S_L_law_1381 : Ev T_L_law (some .boolean) xs Ln call 1381 [u0, u1, u2, u3] [.int i0, .int i1, v2, v3] w r = Ev T_L_law (some .boolean) xs Ln call 1382 [u0, u1, u2, u3] [.int (i1 + i0), v2, v3] w r := Ev.nxt rfl rfl
set_option maxRecDepth 20000 in
theorem S_L_law_1382 (hi : ¬ (i0 < 0 ∨ Ln ≤ i0.toNatClampNeg)) : Ev T_L_law (some .boolean) xs Ln call 1382 [u0, u1, u2, u3] [.int i0, .retAddr 0, v2] w r = Ev T_L_law (some .boolean) xs Ln call 1383 [u0, u1, u2, u3] [.int (xs i0.toNatClampNeg), v2] w r := Ev.nxt rfl (by exact (X_sld hi))
set_option maxRecDepth 20000 in
theorem S_L_law_1383 (h : isObj w k1 10 = true) : Ev T_L_law (some .boolean) xs Ln call 1383 [u0, u1, u2, u3] [.int i0, .ref k1] w r = aft T_L_law (some .boolean) xs Ln call 1386 [u0, u1, u2, u3] [] r (call 121 [.ref k1, .int i0] w) := Ev.cl (vv := true) (k := 121) (n := 2) (nx := 1386) rfl rfl (Nat.le_of_ble_eq_true rfl) (by simp [catS, Value.category]) rfl (Or.inr h)
set_option maxRecDepth 20000 in
theorem S_L_law_1386 (h : isRf z = true) : Ev T_L_law (some .boolean) xs Ln call 1386 [u0, u1, some z, u3] [.int i0] w r = Ev T_L_law (some .boolean) xs Ln call 1387 [u0, u1, some z, u3] [z, .int i0] w r := Ev.nxt rfl (by exact (if_pos h))
set_option maxRecDepth 20000 in
theorem S_L_law_1387 (h : isRf z = true) : Ev T_L_law (some .boolean) xs Ln call 1387 [some z, u1, u2, u3] [v0, .int i1] w r = Ev T_L_law (some .boolean) xs Ln call 1388 [some z, u1, u2, u3] [z, v0, .int i1] w r := Ev.nxt rfl (by exact (if_pos h))
set_option maxRecDepth 20000 in
theorem S_L_law_1388 : Ev T_L_law (some .boolean) xs Ln call 1388 [u0, u1, u2, some (.int x)] [v0, v1, .int i2] w r = Ev T_L_law (some .boolean) xs Ln call 1389 [u0, u1, u2, some (.int x)] [.int x, v0, v1, .int i2] w r := Ev.nxt rfl rfl
set_option maxRecDepth 20000 in
theorem S_L_law_1389 : Ev T_L_law (some .boolean) xs Ln call 1389 [u0, u1, u2, u3] [.int i0, v1, v2, .int i3] w r = Ev T_L_law (some .boolean) xs Ln call 1390 [u0, u1, u2, u3] [.int 1, .int i0, v1, v2, .int i3] w r := Ev.nxt rfl rfl
set_option maxRecDepth 20000 in
theorem S_L_law_1390 : Ev T_L_law (some .boolean) xs Ln call 1390 [u0, u1, u2, u3] [.int i0, .int i1, v2, v3, .int i4] w r = Ev T_L_law (some .boolean) xs Ln call 1391 [u0, u1, u2, u3] [.int (i1 + i0), v2, v3, .int i4] w r := Ev.nxt rfl rfl
set_option maxRecDepth 20000 in
theorem S_L_law_1391 (hi : ¬ (i0 < 0 ∨ Ln ≤ i0.toNatClampNeg)) : Ev T_L_law (some .boolean) xs Ln call 1391 [u0, u1, u2, u3] [.int i0, .retAddr 0, v2, .int i3] w r = Ev T_L_law (some .boolean) xs Ln call 1392 [u0, u1, u2, u3] [.int (xs i0.toNatClampNeg), v2, .int i3] w r := Ev.nxt rfl (by exact (X_sld hi))
set_option maxRecDepth 20000 in
theorem S_L_law_1392 (h : isObj w k1 11 = true) : Ev T_L_law (some .boolean) xs Ln call 1392 [u0, u1, u2, u3] [.int i0, .ref k1, .int i2] w r = aft T_L_law (some .boolean) xs Ln call 1395 [u0, u1, u2, u3] [.int i2] r (call 252 [.ref k1, .int i0] w) := Ev.cl (vv := true) (k := 252) (n := 2) (nx := 1395) rfl rfl (Nat.le_of_ble_eq_true rfl) (by simp [catS, Value.category]) rfl (Or.inr h)
set_option maxRecDepth 20000 in
theorem S_L_law_1395 : Ev T_L_law (some .boolean) xs Ln call 1395 [u0, u1, u2, u3] [.int i0, .int i1] w r = if i1 = i0 then Ev T_L_law (some .boolean) xs Ln call 1785 [u0, u1, u2, u3] [] w r else Ev T_L_law (some .boolean) xs Ln call 1398 [u0, u1, u2, u3] [] w r := Ev.ifc rfl (by exact iteB)
set_option maxRecDepth 20000 in
theorem S_L_law_1398 : Ev T_L_law (some .boolean) xs Ln call 1398 [u0, u1, u2, u3] [] w r = Ev T_L_law (some .boolean) xs Ln call 1399 [u0, u1, u2, u3] [.int 0] w r := Ev.nxt rfl rfl
set_option maxRecDepth 20000 in
theorem S_L_law_1399 (h : okR (some .boolean) (.int i0) = true) : Ev T_L_law (some .boolean) xs Ln call 1399 [u0, u1, u2, u3] [.int i0] w r = (r = (w, some (.int i0))) := Ev.rt rfl (by exact if_pos h)
set_option maxRecDepth 20000 in
theorem S_L_law_1400 (h : isRf z = true) : Ev T_L_law (some .boolean) xs Ln call 1400 [u0, some z, u2, u3] [] w r = Ev T_L_law (some .boolean) xs Ln call 1401 [u0, some z, u2, u3] [z] w r := Ev.nxt rfl (by exact (if_pos h))
set_option maxRecDepth 20000 in
theorem S_L_law_1401 (h : isRf z = true) : Ev T_L_law (some .boolean) xs Ln call 1401 [some z, u1, u2, u3] [v0] w r = Ev T_L_law (some .boolean) xs Ln call 1402 [some z, u1, u2, u3] [z, v0] w r := Ev.nxt rfl (by exact (if_pos h))
set_option maxRecDepth 20000 in
theorem S_L_law_1402 : Ev T_L_law (some .boolean) xs Ln call 1402 [u0, u1, u2, some (.int x)] [v0, v1] w r = Ev T_L_law (some .boolean) xs Ln call 1403 [u0, u1, u2, some (.int x)] [.int x, v0, v1] w r := Ev.nxt rfl rfl
set_option maxRecDepth 20000 in
theorem S_L_law_1403 : Ev T_L_law (some .boolean) xs Ln call 1403 [u0, u1, u2, u3] [.int i0, v1, v2] w r = Ev T_L_law (some .boolean) xs Ln call 1404 [u0, u1, u2, u3] [.int 1, .int i0, v1, v2] w r := Ev.nxt rfl rfl
set_option maxRecDepth 20000 in
theorem S_L_law_1404 : Ev T_L_law (some .boolean) xs Ln call 1404 [u0, u1, u2, u3] [.int i0, .int i1, v2, v3] w r = Ev T_L_law (some .boolean) xs Ln call 1405 [u0, u1, u2, u3] [.int (i1 + i0), v2, v3] w r := Ev.nxt rfl rfl
set_option maxRecDepth 20000 in
theorem S_L_law_1405 (hi : ¬ (i0 < 0 ∨ Ln ≤ i0.toNatClampNeg)) : Ev T_L_law (some .boolean) xs Ln call 1405 [u0, u1, u2, u3] [.int i0, .retAddr 0, v2] w r = Ev T_L_law (some .boolean) xs Ln call 1406 [u0, u1, u2, u3] [.int (xs i0.toNatClampNeg), v2] w r := Ev.nxt rfl (by exact (X_sld hi))
set_option maxRecDepth 20000 in
theorem S_L_law_1406 (h : isObj w k1 10 = true) : Ev T_L_law (some .boolean) xs Ln call 1406 [u0, u1, u2, u3] [.int i0, .ref k1] w r = aft T_L_law (some .boolean) xs Ln call 1409 [u0, u1, u2, u3] [] r (call 122 [.ref k1, .int i0] w) := Ev.cl (vv := true) (k := 122) (n := 2) (nx := 1409) rfl rfl (Nat.le_of_ble_eq_true rfl) (by simp [catS, Value.category]) rfl (Or.inr h)
set_option maxRecDepth 20000 in
theorem S_L_law_1409 (h : isRf z = true) : Ev T_L_law (some .boolean) xs Ln call 1409 [u0, u1, some z, u3] [.int i0] w r = Ev T_L_law (some .boolean) xs Ln call 1410 [u0, u1, some z, u3] [z, .int i0] w r := Ev.nxt rfl (by exact (if_pos h))
set_option maxRecDepth 20000 in
theorem S_L_law_1410 (h : isRf z = true) : Ev T_L_law (some .boolean) xs Ln call 1410 [some z, u1, u2, u3] [v0, .int i1] w r = Ev T_L_law (some .boolean) xs Ln call 1411 [some z, u1, u2, u3] [z, v0, .int i1] w r := Ev.nxt rfl (by exact (if_pos h))
set_option maxRecDepth 20000 in
theorem S_L_law_1411 : Ev T_L_law (some .boolean) xs Ln call 1411 [u0, u1, u2, some (.int x)] [v0, v1, .int i2] w r = Ev T_L_law (some .boolean) xs Ln call 1412 [u0, u1, u2, some (.int x)] [.int x, v0, v1, .int i2] w r := Ev.nxt rfl rfl
set_option maxRecDepth 20000 in
theorem S_L_law_1412 : Ev T_L_law (some .boolean) xs Ln call 1412 [u0, u1, u2, u3] [.int i0, v1, v2, .int i3] w r = Ev T_L_law (some .boolean) xs Ln call 1413 [u0, u1, u2, u3] [.int 1, .int i0, v1, v2, .int i3] w r := Ev.nxt rfl rfl
set_option maxRecDepth 20000 in
theorem S_L_law_1413 : Ev T_L_law (some .boolean) xs Ln call 1413 [u0, u1, u2, u3] [.int i0, .int i1, v2, v3, .int i4] w r = Ev T_L_law (some .boolean) xs Ln call 1414 [u0, u1, u2, u3] [.int (i1 + i0), v2, v3, .int i4] w r := Ev.nxt rfl rfl
set_option maxRecDepth 20000 in
theorem S_L_law_1414 (hi : ¬ (i0 < 0 ∨ Ln ≤ i0.toNatClampNeg)) : Ev T_L_law (some .boolean) xs Ln call 1414 [u0, u1, u2, u3] [.int i0, .retAddr 0, v2, .int i3] w r = Ev T_L_law (some .boolean) xs Ln call 1415 [u0, u1, u2, u3] [.int (xs i0.toNatClampNeg), v2, .int i3] w r := Ev.nxt rfl (by exact (X_sld hi))
set_option maxRecDepth 20000 in
theorem S_L_law_1415 (h : isObj w k1 11 = true) : Ev T_L_law (some .boolean) xs Ln call 1415 [u0, u1, u2, u3] [.int i0, .ref k1, .int i2] w r = aft T_L_law (some .boolean) xs Ln call 1418 [u0, u1, u2, u3] [.int i2] r (call 253 [.ref k1, .int i0] w) := Ev.cl (vv := true) (k := 253) (n := 2) (nx := 1418) rfl rfl (Nat.le_of_ble_eq_true rfl) (by simp [catS, Value.category]) rfl (Or.inr h)
set_option maxRecDepth 20000 in
theorem S_L_law_1418 : Ev T_L_law (some .boolean) xs Ln call 1418 [u0, u1, u2, u3] [.int i0, .int i1] w r = if i1 = i0 then Ev T_L_law (some .boolean) xs Ln call 1785 [u0, u1, u2, u3] [] w r else Ev T_L_law (some .boolean) xs Ln call 1421 [u0, u1, u2, u3] [] w r := Ev.ifc rfl (by exact iteB)
set_option maxRecDepth 20000 in
theorem S_L_law_1421 : Ev T_L_law (some .boolean) xs Ln call 1421 [u0, u1, u2, u3] [] w r = Ev T_L_law (some .boolean) xs Ln call 1422 [u0, u1, u2, u3] [.int 0] w r := Ev.nxt rfl rfl
set_option maxRecDepth 20000 in
theorem S_L_law_1422 (h : okR (some .boolean) (.int i0) = true) : Ev T_L_law (some .boolean) xs Ln call 1422 [u0, u1, u2, u3] [.int i0] w r = (r = (w, some (.int i0))) := Ev.rt rfl (by exact if_pos h)
set_option maxRecDepth 20000 in
theorem S_L_law_1423 (h : isRf z = true) : Ev T_L_law (some .boolean) xs Ln call 1423 [u0, some z, u2, u3] [] w r = Ev T_L_law (some .boolean) xs Ln call 1424 [u0, some z, u2, u3] [z] w r := Ev.nxt rfl (by exact (if_pos h))
set_option maxRecDepth 20000 in
theorem S_L_law_1424 (h : isRf z = true) : Ev T_L_law (some .boolean) xs Ln call 1424 [some z, u1, u2, u3] [v0] w r = Ev T_L_law (some .boolean) xs Ln call 1425 [some z, u1, u2, u3] [z, v0] w r := Ev.nxt rfl (by exact (if_pos h))
set_option maxRecDepth 20000 in
theorem S_L_law_1425 : Ev T_L_law (some .boolean) xs Ln call 1425 [u0, u1, u2, some (.int x)] [v0, v1] w r = Ev T_L_law (some .boolean) xs Ln call 1426 [u0, u1, u2, some (.int x)] [.int x, v0, v1] w r := Ev.nxt rfl rfl
set_option maxRecDepth 20000 in
theorem S_L_law_1426 : Ev T_L_law (some .boolean) xs Ln call 1426 [u0, u1, u2, u3] [.int i0, v1, v2] w r = Ev T_L_law (some .boolean) xs Ln call 1427 [u0, u1, u2, u3] [.int 1, .int i0, v1, v2] w r := Ev.nxt rfl rfl
set_option maxRecDepth 20000 in
theorem S_L_law_1427 : Ev T_L_law (some .boolean) xs Ln call 1427 [u0, u1, u2, u3] [.int i0, .int i1, v2, v3] w r = Ev T_L_law (some .boolean) xs Ln call 1428 [u0, u1, u2, u3] [.int (i1 + i0), v2, v3] w r := Ev.nxt rfl rfl
set_option maxRecDepth 20000 in
theorem S_L_law_1428 (hi : ¬ (i0 < 0 ∨ Ln ≤ i0.toNatClampNeg)) : Ev T_L_law (some .boolean) xs Ln call 1428 [u0, u1, u2, u3] [.int i0, .retAddr 0, v2] w r = Ev T_L_law (some .boolean) xs Ln call 1429 [u0, u1, u2, u3] [.int (xs i0.toNatClampNeg), v2] w r := Ev.nxt rfl (by exact (X_sld hi))
set_option maxRecDepth 20000 in
theorem S_L_law_1429 (h : isObj w k1 10 = true) : Ev T_L_law (some .boolean) xs Ln call 1429 [u0, u1, u2, u3] [.int i0, .ref k1] w r = aft T_L_law (some .boolean) xs Ln call 1432 [u0, u1, u2, u3] [] r (call 123 [.ref k1, .int i0] w) := Ev.cl (vv := true) (k := 123) (n := 2) (nx := 1432) rfl rfl (Nat.le_of_ble_eq_true rfl) (by simp [catS, Value.category]) rfl (Or.inr h)
set_option maxRecDepth 20000 in
theorem S_L_law_1432 (h : isRf z = true) : Ev T_L_law (some .boolean) xs Ln call 1432 [u0, u1, some z, u3] [.int i0] w r = Ev T_L_law (some .boolean) xs Ln call 1433 [u0, u1, some z, u3] [z, .int i0] w r := Ev.nxt rfl (by exact (if_pos h))
set_option maxRecDepth 20000 in
theorem S_L_law_1433 (h : isRf z = true) : Ev T_L_law (some .boolean) xs Ln call 1433 [some z, u1, u2, u3] [v0, .int i1] w r = Ev T_L_law (some .boolean) xs Ln call 1434 [some z, u1, u2, u3] [z, v0, .int i1] w r := Ev.nxt rfl (by exact (if_pos h))
set_option maxRecDepth 20000 in
theorem S_L_law_1434 : Ev T_L_law (some .boolean) xs Ln call 1434 [u0, u1, u2, some (.int x)] [v0, v1, .int i2] w r = Ev T_L_law (some .boolean) xs Ln call 1435 [u0, u1, u2, some (.int x)] [.int x, v0, v1, .int i2] w r := Ev.nxt rfl rfl
set_option maxRecDepth 20000 in
theorem S_L_law_1435 : Ev T_L_law (some .boolean) xs Ln call 1435 [u0, u1, u2, u3] [.int i0, v1, v2, .int i3] w r = Ev T_L_law (some .boolean) xs Ln call 1436 [u0, u1, u2, u3] [.int 1, .int i0, v1, v2, .int i3] w r := Ev.nxt rfl rfl
set_option maxRecDepth 20000 in
theorem S_L_law_1436 : Ev T_L_law (some .boolean) xs Ln call 1436 [u0, u1, u2, u3] [.int i0, .int i1, v2, v3, .int i4] w r = Ev T_L_law (some .boolean) xs Ln call 1437 [u0, u1, u2, u3] [.int (i1 + i0), v2, v3, .int i4] w r := Ev.nxt rfl rfl
set_option maxRecDepth 20000 in
theorem S_L_law_1437 (hi : ¬ (i0 < 0 ∨ Ln ≤ i0.toNatClampNeg)) : Ev T_L_law (some .boolean) xs Ln call 1437 [u0, u1, u2, u3] [.int i0, .retAddr 0, v2, .int i3] w r = Ev T_L_law (some .boolean) xs Ln call 1438 [u0, u1, u2, u3] [.int (xs i0.toNatClampNeg), v2, .int i3] w r := Ev.nxt rfl (by exact (X_sld hi))
set_option maxRecDepth 20000 in
theorem S_L_law_1438 (h : isObj w k1 11 = true) : Ev T_L_law (some .boolean) xs Ln call 1438 [u0, u1, u2, u3] [.int i0, .ref k1, .int i2] w r = aft T_L_law (some .boolean) xs Ln call 1441 [u0, u1, u2, u3] [.int i2] r (call 255 [.ref k1, .int i0] w) := Ev.cl (vv := true) (k := 255) (n := 2) (nx := 1441) rfl rfl (Nat.le_of_ble_eq_true rfl) (by simp [catS, Value.category]) rfl (Or.inr h)
set_option maxRecDepth 20000 in
theorem S_L_law_1441 : Ev T_L_law (some .boolean) xs Ln call 1441 [u0, u1, u2, u3] [.int i0, .int i1] w r = if i1 = i0 then Ev T_L_law (some .boolean) xs Ln call 1785 [u0, u1, u2, u3] [] w r else Ev T_L_law (some .boolean) xs Ln call 1444 [u0, u1, u2, u3] [] w r := Ev.ifc rfl (by exact iteB)
set_option maxRecDepth 20000 in
theorem S_L_law_1444 : Ev T_L_law (some .boolean) xs Ln call 1444 [u0, u1, u2, u3] [] w r = Ev T_L_law (some .boolean) xs Ln call 1445 [u0, u1, u2, u3] [.int 0] w r := Ev.nxt rfl rfl
set_option maxRecDepth 20000 in
theorem S_L_law_1445 (h : okR (some .boolean) (.int i0) = true) : Ev T_L_law (some .boolean) xs Ln call 1445 [u0, u1, u2, u3] [.int i0] w r = (r = (w, some (.int i0))) := Ev.rt rfl (by exact if_pos h)
set_option maxRecDepth 20000 in
theorem S_L_law_1446 (h : isRf z = true) : Ev T_L_law (some .boolean) xs Ln call 1446 [u0, some z, u2, u3] [] w r = Ev T_L_law (some .boolean) xs Ln call 1447 [u0, some z, u2, u3] [z] w r := Ev.nxt rfl (by exact (if_pos h))
set_option maxRecDepth 20000 in
theorem S_L_law_1447 (h : isRf z = true) : Ev T_L_law (some .boolean) xs Ln call 1447 [some z, u1, u2, u3] [v0] w r = Ev T_L_law (some .boolean) xs Ln call 1448 [some z, u1, u2, u3] [z, v0] w r := Ev.nxt rfl (by exact (if_pos h))
set_option maxRecDepth 20000 in
theorem S_L_law_1448 : Ev T_L_law (some .boolean) xs Ln call 1448 [u0, u1, u2, some (.int x)] [v0, v1] w r = Ev T_L_law (some .boolean) xs Ln call 1449 [u0, u1, u2, some (.int x)] [.int x, v0, v1] w r := Ev.nxt rfl rfl
set_option maxRecDepth 20000 in
theorem S_L_law_1449 : Ev T_L_law (some .boolean) xs Ln call 1449 [u0, u1, u2, u3] [.int i0, v1, v2] w r = Ev T_L_law (some .boolean) xs Ln call 1450 [u0, u1, u2, u3] [.int 1, .int i0, v1, v2] w r := Ev.nxt rfl rfl
set_option maxRecDepth 20000 in
theorem S_L_law_1450 : Ev T_L_law (some .boolean) xs Ln call 1450 [u0, u1, u2, u3] [.int i0, .int i1, v2, v3] w r = Ev T_L_law (some .boolean) xs Ln call 1451 [u0, u1, u2, u3] [.int (i1 + i0), v2, v3] w r := Ev.nxt rfl rfl
set_option maxRecDepth 20000 in
theorem S_L_law_1451 (hi : ¬ (i0 < 0 ∨ Ln ≤ i0.toNatClampNeg)) : Ev T_L_law (some .boolean) xs Ln call 1451 [u0, u1, u2, u3] [.int i0, .retAddr 0, v2] w r = Ev T_L_law (some .boolean) xs Ln call 1452 [u0, u1, u2, u3] [.int (xs i0.toNatClampNeg), v2] w r := Ev.nxt rfl (by exact (X_sld hi))
set_option maxRecDepth 20000 in
theorem S_L_law_1452 (h : isObj w k1 10 = true) : Ev T_L_law (some .boolean) xs Ln call 1452 [u0, u1, u2, u3] [.int i0, .ref k1] w r = aft T_L_law (some .boolean) xs Ln call 1455 [u0, u1, u2, u3] [] r (call 124 [.ref k1, .int i0] w) := Ev.cl (vv := true) (k := 124) (n := 2) (nx := 1455) rfl rfl (Nat.le_of_ble_eq_true rfl) (by simp [catS, Value.category]) rfl (Or.inr h)
set_option maxRecDepth 20000 in
theorem S_L_law_1455 (h : isRf z = true) : Ev T_L_law (some .boolean) xs Ln call 1455 [u0, u1, some z, u3] [.int i0] w r = Ev T_L_law (some .boolean) xs Ln call 1456 [u0, u1, some z, u3] [z, .int i0] w r := Ev.nxt rfl (by exact (if_pos h))
set_option maxRecDepth 20000 in
theorem S_L_law_1456 (h : isRf z = true) : Ev T_L_law (some .boolean) xs Ln call 1456 [some z, u1, u2, u3] [v0, .int i1] w r = Ev T_L_law (some .boolean) xs Ln call 1457 [some z, u1, u2, u3] [z, v0, .int i1] w r := Ev.nxt rfl (by exact (if_pos h))
set_option maxRecDepth 20000 in
theorem S_L_law_1457 : Ev T_L_law (some .boolean) xs Ln call 1457 [u0, u1, u2, some (.int x)] [v0, v1, .int i2] w r = Ev T_L_law (some .boolean) xs Ln call 1458 [u0, u1, u2, some (.int x)] [.int x, v0, v1, .int i2] w r := Ev.nxt rfl rfl
set_option maxRecDepth 20000 in
theorem S_L_law_1458 : Ev T_L_law (some .boolean) xs Ln call 1458 [u0, u1, u2, u3] [.int i0, v1, v2, .int i3] w r = Ev T_L_law (some .boolean) xs Ln call 1459 [u0, u1, u2, u3] [.int 1, .int i0, v1, v2, .int i3] w r := Ev.nxt rfl rfl
set_option maxRecDepth 20000 in
theorem S_L_law_1459 : Ev T_L_law (some .boolean) xs Ln call 1459 [u0, u1, u2, u3] [.int i0, .int i1, v2, v3, .int i4] w r = Ev T_L_law (some .boolean) xs Ln call 1460 [u0, u1, u2, u3] [.int (i1 + i0), v2, v3, .int i4] w r := Ev.nxt rfl rfl
set_option maxRecDepth 20000 in
theorem S_L_law_1460 (hi : ¬ (i0 < 0 ∨ Ln ≤ i0.toNatClampNeg)) : Ev T_L_law (some .boolean) xs Ln call 1460 [u0, u1, u2, u3] [.int i0, .retAddr 0, v2, .int i3] w r = Ev T_L_law (some .boolean) xs Ln call 1461 [u0, u1, u2, u3] [.int (xs i0.toNatClampNeg), v2, .int i3] w r := Ev.nxt rfl (by exact (X_sld hi))
set_option maxRecDepth 20000 in
theorem S_L_law_1461 (h : isObj w k1 11 = true) : Ev T_L_law (some .boolean) xs Ln call 1461 [u0, u1, u2, u3] [.int i0, .ref k1, .int i2] w r = aft T_L_law (some .boolean) xs Ln call 1464 [u0, u1, u2, u3] [.int i2] r (call 256 [.ref k1, .int i0] w) := Ev.cl (vv := true) (k := 256) (n := 2) (nx := 1464) rfl rfl (Nat.le_of_ble_eq_true rfl) (by simp [catS, Value.category]) rfl (Or.inr h)
set_option maxRecDepth 20000 in
theorem S_L_law_1464 : Ev T_L_law (some .boolean) xs Ln call 1464 [u0, u1, u2, u3] [.int i0, .int i1] w r = if i1 = i0 then Ev T_L_law (some .boolean) xs Ln call 1785 [u0, u1, u2, u3] [] w r else Ev T_L_law (some .boolean) xs Ln call 1467 [u0, u1, u2, u3] [] w r := Ev.ifc rfl (by exact iteB)
set_option maxRecDepth 20000 in
theorem S_L_law_1467 : Ev T_L_law (some .boolean) xs Ln call 1467 [u0, u1, u2, u3] [] w r = Ev T_L_law (some .boolean) xs Ln call 1468 [u0, u1, u2, u3] [.int 0] w r := Ev.nxt rfl rfl
set_option maxRecDepth 20000 in
theorem S_L_law_1468 (h : okR (some .boolean) (.int i0) = true) : Ev T_L_law (some .boolean) xs Ln call 1468 [u0, u1, u2, u3] [.int i0] w r = (r = (w, some (.int i0))) := Ev.rt rfl (by exact if_pos h)
set_option maxRecDepth 20000 in
theorem S_L_law_1469 (h : isRf z = true) : Ev T_L_law (some .boolean) xs Ln call 1469 [u0, some z, u2, u3] [] w r = Ev T_L_law (some .boolean) xs Ln call 1470 [u0, some z, u2, u3] [z] w r := Ev.nxt rfl (by exact (if_pos h))
set_option maxRecDepth 20000 in
theorem S_L_law_1470 (h : isRf z = true) : Ev T_L_law (some .boolean) xs Ln call 1470 [some z, u1, u2, u3] [v0] w r = Ev T_L_law (some .boolean) xs Ln call 1471 [some z, u1, u2, u3] [z, v0] w r := Ev.nxt rfl (by exact (if_pos h))
set_option maxRecDepth 20000 in
theorem S_L_law_1471 : Ev T_L_law (some .boolean) xs Ln call 1471 [u0, u1, u2, some (.int x)] [v0, v1] w r = Ev T_L_law (some .boolean) xs Ln call 1472 [u0, u1, u2, some (.int x)] [.int x, v0, v1] w r := Ev.nxt rfl rfl
set_option maxRecDepth 20000 in
theorem S_L_law_1472 : Ev T_L_law (some .boolean) xs Ln call 1472 [u0, u1, u2, u3] [.int i0, v1, v2] w r = Ev T_L_law (some .boolean) xs Ln call 1473 [u0, u1, u2, u3] [.int 1, .int i0, v1, v2] w r := Ev.nxt rfl rfl
set_option maxRecDepth 20000 in
theorem S_L_law_1473 : Ev T_L_law (some .boolean) xs Ln call 1473 [u0, u1, u2, u3] [.int i0, .int i1, v2, v3] w r = Ev T_L_law (some .boolean) xs Ln call 1474 [u0, u1, u2, u3] [.int (i1 + i0), v2, v3] w r := Ev.nxt rfl rfl
set_option maxRecDepth 20000 in
theorem S_L_law_1474 (hi : ¬ (i0 < 0 ∨ Ln ≤ i0.toNatClampNeg)) : Ev T_L_law (some .boolean) xs Ln call 1474 [u0, u1, u2, u3] [.int i0, .retAddr 0, v2] w r = Ev T_L_law (some .boolean) xs Ln call 1475 [u0, u1, u2, u3] [.int (xs i0.toNatClampNeg), v2] w r := Ev.nxt rfl (by exact (X_sld hi))
set_option maxRecDepth 20000 in
theorem S_L_law_1475 (h : isRf z = true) : Ev T_L_law (some .boolean) xs Ln call 1475 [some z, u1, u2, u3] [.int i0, v1] w r = Ev T_L_law (some .boolean) xs Ln call 1476 [some z, u1, u2, u3] [z, .int i0, v1] w r := Ev.nxt rfl (by exact (if_pos h))
set_option maxRecDepth 20000 in
theorem S_L_law_1476 : Ev T_L_law (some .boolean) xs Ln call 1476 [u0, u1, u2, some (.int x)] [v0, .int i1, v2] w r = Ev T_L_law (some .boolean) xs Ln call 1477 [u0, u1, u2, some (.int x)] [.int x, v0, .int i1, v2] w r := Ev.nxt rfl rfl
set_option maxRecDepth 20000 in
theorem S_L_law_1477 : Ev T_L_law (some .boolean) xs Ln call 1477 [u0, u1, u2, u3] [.int i0, v1, .int i2, v3] w r = Ev T_L_law (some .boolean) xs Ln call 1478 [u0, u1, u2, u3] [.int 2, .int i0, v1, .int i2, v3] w r := Ev.nxt rfl rfl
set_option maxRecDepth 20000 in
theorem S_L_law_1478 : Ev T_L_law (some .boolean) xs Ln call 1478 [u0, u1, u2, u3] [.int i0, .int i1, v2, .int i3, v4] w r = Ev T_L_law (some .boolean) xs Ln call 1479 [u0, u1, u2, u3] [.int (i1 + i0), v2, .int i3, v4] w r := Ev.nxt rfl rfl
set_option maxRecDepth 20000 in
theorem S_L_law_1479 (hi : ¬ (i0 < 0 ∨ Ln ≤ i0.toNatClampNeg)) : Ev T_L_law (some .boolean) xs Ln call 1479 [u0, u1, u2, u3] [.int i0, .retAddr 0, .int i2, v3] w r = Ev T_L_law (some .boolean) xs Ln call 1480 [u0, u1, u2, u3] [.int (xs i0.toNatClampNeg), .int i2, v3] w r := Ev.nxt rfl (by exact (X_sld hi))
set_option maxRecDepth 20000 in
theorem S_L_law_1480 (h : isObj w k2 10 = true) : Ev T_L_law (some .boolean) xs Ln call 1480 [u0, u1, u2, u3] [.int i0, .int i1, .ref k2] w r = aft T_L_law (some .boolean) xs Ln call 1483 [u0, u1, u2, u3] [] r (call 125 [.ref k2, .int i1, .int i0] w) := Ev.cl (vv := true) (k := 125) (n := 3) (nx := 1483) rfl rfl (Nat.le_of_ble_eq_true rfl) (by simp [catS, Value.category]) rfl (Or.inr h)
set_option maxRecDepth 20000 in
theorem S_L_law_1483 (h : isRf z = true) : Ev T_L_law (some .boolean) xs Ln call 1483 [u0, u1, some z, u3] [.int i0] w r = Ev T_L_law (some .boolean) xs Ln call 1484 [u0, u1, some z, u3] [z, .int i0] w r := Ev.nxt rfl (by exact (if_pos h))
set_option maxRecDepth 20000 in
theorem S_L_law_1484 (h : isRf z = true) : Ev T_L_law (some .boolean) xs Ln call 1484 [some z, u1, u2, u3] [v0, .int i1] w r = Ev T_L_law (some .boolean) xs Ln call 1485 [some z, u1, u2, u3] [z, v0, .int i1] w r := Ev.nxt rfl (by exact (if_pos h))
set_option maxRecDepth 20000 in
theorem S_L_law_1485 : Ev T_L_law (some .boolean) xs Ln call 1485 [u0, u1, u2, some (.int x)] [v0, v1, .int i2] w r = Ev T_L_law (some .boolean) xs Ln call 1486 [u0, u1, u2, some (.int x)] [.int x, v0, v1, .int i2] w r := Ev.nxt rfl rfl
set_option maxRecDepth 20000 in
theorem S_L_law_1486 : Ev T_L_law (some .boolean) xs Ln call 1486 [u0, u1, u2, u3] [.int i0, v1, v2, .int i3] w r = Ev T_L_law (some .boolean) xs Ln call 1487 [u0, u1, u2, u3] [.int 1, .int i0, v1, v2, .int i3] w r := Ev.nxt rfl rfl
set_option maxRecDepth 20000 in
theorem S_L_law_1487 : Ev T_L_law (some .boolean) xs Ln call 1487 [u0, u1, u2, u3] [.int i0, .int i1, v2, v3, .int i4] w r = Ev T_L_law (some .boolean) xs Ln call 1488 [u0, u1, u2, u3] [.int (i1 + i0), v2, v3, .int i4] w r := Ev.nxt rfl rfl
set_option maxRecDepth 20000 in
theorem S_L_law_1488 (hi : ¬ (i0 < 0 ∨ Ln ≤ i0.toNatClampNeg)) : Ev T_L_law (some .boolean) xs Ln call 1488 [u0, u1, u2, u3] [.int i0, .retAddr 0, v2, .int i3] w r = Ev T_L_law (some .boolean) xs Ln call 1489 [u0, u1, u2, u3] [.int (xs i0.toNatClampNeg), v2, .int i3] w r := Ev.nxt rfl (by exact (X_sld hi))
set_option maxRecDepth 20000 in
theorem S_L_law_1489 (h : isRf z = true) : Ev T_L_law (some .boolean) xs Ln call 1489 [some z, u1, u2, u3] [.int i0, v1, .int i2] w r = Ev T_L_law (some .boolean) xs Ln call 1490 [some z, u1, u2, u3] [z, .int i0, v1, .int i2] w r := Ev.nxt rfl (by exact (if_pos h))
set_option maxRecDepth 20000 in
theorem S_L_law_1490 : Ev T_L_law (some .boolean) xs Ln call 1490 [u0, u1, u2, some (.int x)] [v0, .int i1, v2, .int i3] w r = Ev T_L_law (some .boolean) xs Ln call 1491 [u0, u1, u2, some (.int x)] [.int x, v0, .int i1, v2, .int i3] w r := Ev.nxt rfl rfl
set_option maxRecDepth 20000 in
theorem S_L_law_1491 : Ev T_L_law (some .boolean) xs Ln call 1491 [u0, u1, u2, u3] [.int i0, v1, .int i2, v3, .int i4] w r = Ev T_L_law (some .boolean) xs Ln call 1492 [u0, u1, u2, u3] [.int 2, .int i0, v1, .int i2, v3, .int i4] w r := Ev.nxt rfl rfl
set_option maxRecDepth 20000 in
theorem S_L_law_1492 : Ev T_L_law (some .boolean) xs Ln call 1492 [u0, u1, u2, u3] [.int i0, .int i1, v2, .int i3, v4, .int i5] w r = Ev T_L_law (some .boolean) xs Ln call 1493 [u0, u1, u2, u3] [.int (i1 + i0), v2, .int i3, v4, .int i5] w r := Ev.nxt rfl rfl
set_option maxRecDepth 20000 in
theorem S_L_law_1493 (hi : ¬ (i0 < 0 ∨ Ln ≤ i0.toNatClampNeg)) : Ev T_L_law (some .boolean) xs Ln call 1493 [u0, u1, u2, u3] [.int i0, .retAddr 0, .int i2, v3, .int i4] w r = Ev T_L_law (some .boolean) xs Ln call 1494 [u0, u1, u2, u3] [.int (xs i0.toNatClampNeg), .int i2, v3, .int i4] w r := Ev.nxt rfl (by exact (X_sld hi))
set_option maxRecDepth 20000 in
theorem S_L_law_1494 (h : isObj w k2 11 = true) : Ev T_L_law (some .boolean) xs Ln call 1494 [u0, u1, u2, u3] [.int i0, .int i1, .ref k2, .int i3] w r = aft T_L_law (some .boolean) xs Ln call 1497 [u0, u1, u2, u3] [.int i3] r (call 257 [.ref k2, .int i1, .int i0] w) := Ev.cl (vv := true) (k := 257) (n := 3) (nx := 1497) rfl rfl (Nat.le_of_ble_eq_true rfl) (by simp [catS, Value.category]) rfl (Or.inr h)
set_option maxRecDepth 20000 in
theorem S_L_law_1497 : Ev T_L_law (some .boolean) xs Ln call 1497 [u0, u1, u2, u3] [.int i0, .int i1] w r = if i1 = i0 then Ev T_L_law (some .boolean) xs Ln call 1785 [u0, u1, u2, u3] [] w r else Ev T_L_law (some .boolean) xs Ln call 1500 [u0, u1, u2, u3] [] w r := Ev.ifc rfl (by exact iteB)
set_option maxRecDepth 20000 in
theorem S_L_law_1500 : Ev T_L_law (some .boolean) xs Ln call 1500 [u0, u1, u2, u3] [] w r = Ev T_L_law (some .boolean) xs Ln call 1501 [u0, u1, u2, u3] [.int 0] w r := Ev.nxt rfl rfl
set_option maxRecDepth 20000 in
theorem S_L_law_1501 (h : okR (some .boolean) (.int i0) = true) : Ev T_L_law (some .boolean) xs Ln call 1501 [u0, u1, u2, u3] [.int i0] w r = (r = (w, some (.int i0))) := Ev.rt rfl (by exact if_pos h)
set_option maxRecDepth 20000 in
theorem S_L_law_1502 (h : isRf z = true) : Ev T_L_law (some .boolean) xs Ln call 1502 [u0, some z, u2, u3] [] w r = Ev T_L_law (some .boolean) xs Ln call 1503 [u0, some z, u2, u3] [z] w r := Ev.nxt rfl (by exact (if_pos h))
set_option maxRecDepth 20000 in
theorem S_L_law_1503 (h : isRf z = true) : Ev T_L_law (some .boolean) xs Ln call 1503 [some z, u1, u2, u3] [v0] w r = Ev T_L_law (some .boolean) xs Ln call 1504 [some z, u1, u2, u3] [z, v0] w r := Ev.nxt rfl (by exact (if_pos h))
set_option maxRecDepth 20000 in
theorem S_L_law_1504 : Ev T_L_law (some .boolean) xs Ln call 1504 [u0, u1, u2, some (.int x)] [v0, v1] w r = Ev T_L_law (some .boolean) xs Ln call 1505 [u0, u1, u2, some (.int x)] [.int x, v0, v1] w r := Ev.nxt rfl rfl
set_option maxRecDepth 20000 in
theorem S_L_law_1505 : Ev T_L_law (some .boolean) xs Ln call 1505 [u0, u1, u2, u3] [.int i0, v1, v2] w r = Ev T_L_law (some .boolean) xs Ln call 1506 [u0, u1, u2, u3] [.int 1, .int i0, v1, v2] w r := Ev.nxt rfl rfl
set_option maxRecDepth 20000 in
theorem S_L_law_1506 : Ev T_L_law (some .boolean) xs Ln call 1506 [u0, u1, u2, u3] [.int i0, .int i1, v2, v3] w r = Ev T_L_law (some .boolean) xs Ln call 1507 [u0, u1, u2, u3] [.int (i1 + i0), v2, v3] w r := Ev.nxt rfl rfl
set_option maxRecDepth 20000 in
theorem S_L_law_1507 (hi : ¬ (i0 < 0 ∨ Ln ≤ i0.toNatClampNeg)) : Ev T_L_law (some .boolean) xs Ln call 1507 [u0, u1, u2, u3] [.int i0, .retAddr 0, v2] w r = Ev T_L_law (some .boolean) xs Ln call 1508 [u0, u1, u2, u3] [.int (xs i0.toNatClampNeg), v2] w r := Ev.nxt rfl (by exact (X_sld hi))
set_option maxRecDepth 20000 in
theorem S_L_law_1508 (h : isRf z = true) : Ev T_L_law (some .boolean) xs Ln call 1508 [some z, u1, u2, u3] [.int i0, v1] w r = Ev T_L_law (some .boolean) xs Ln call 1509 [some z, u1, u2, u3] [z, .int i0, v1] w r := Ev.nxt rfl (by exact (if_pos h))
set_option maxRecDepth 20000 in
theorem S_L_law_1509 : Ev T_L_law (some .boolean) xs Ln call 1509 [u0, u1, u2, some (.int x)] [v0, .int i1, v2] w r = Ev T_L_law (some .boolean) xs Ln call 1510 [u0, u1, u2, some (.int x)] [.int x, v0, .int i1, v2] w r := Ev.nxt rfl rfl
set_option maxRecDepth 20000 in
theorem S_L_law_1510 : Ev T_L_law (some .boolean) xs Ln call 1510 [u0, u1, u2, u3] [.int i0, v1, .int i2, v3] w r = Ev T_L_law (some .boolean) xs Ln call 1511 [u0, u1, u2, u3] [.int 2, .int i0, v1, .int i2, v3] w r := Ev.nxt rfl rfl
set_option maxRecDepth 20000 in
theorem S_L_law_1511 : Ev T_L_law (some .boolean) xs Ln call 1511 [u0, u1, u2, u3] [.int i0, .int i1, v2, .int i3, v4] w r = Ev T_L_law (some .boolean) xs Ln call 1512 [u0, u1, u2, u3] [.int (i1 + i0), v2, .int i3, v4] w r := Ev.nxt rfl rfl
set_option maxRecDepth 20000 in
theorem S_L_law_1512 (hi : ¬ (i0 < 0 ∨ Ln ≤ i0.toNatClampNeg)) : Ev T_L_law (some .boolean) xs Ln call 1512 [u0, u1, u2, u3] [.int i0, .retAddr 0, .int i2, v3] w r = Ev T_L_law (some .boolean) xs Ln call 1513 [u0, u1, u2, u3] [.int (xs i0.toNatClampNeg), .int i2, v3] w r := Ev.nxt rfl (by exact (X_sld hi))
set_option maxRecDepth 20000 in
theorem S_L_law_1513 (h : isObj w k2 10 = true) : Ev T_L_law (some .boolean) xs Ln call 1513 [u0, u1, u2, u3] [.int i0, .int i1, .ref k2] w r = aft T_L_law (some .boolean) xs Ln call 1516 [u0, u1, u2, u3] [] r (call 126 [.ref k2, .int i1, .int i0] w) := Ev.cl (vv := true) (k := 126) (n := 3) (nx := 1516) rfl rfl (Nat.le_of_ble_eq_true rfl) (by simp [catS, Value.category]) rfl (Or.inr h)
set_option maxRecDepth 20000 in
theorem S_L_law_1516 (h : isRf z = true) : Ev T_L_law (some .boolean) xs Ln call 1516 [u0, u1, some z, u3] [.int i0] w r = Ev T_L_law (some .boolean) xs Ln call 1517 [u0, u1, some z, u3] [z, .int i0] w r := Ev.nxt rfl (by exact (if_pos h))
set_option maxRecDepth 20000 in
theorem S_L_law_1517 (h : isRf z = true) : Ev T_L_law (some .boolean) xs Ln call 1517 [some z, u1, u2, u3] [v0, .int i1] w r = Ev T_L_law (some .boolean) xs Ln call 1518 [some z, u1, u2, u3] [z, v0, .int i1] w r := Ev.nxt rfl (by exact (if_pos h))
set_option maxRecDepth 20000 in
theorem S_L_law_1518 : Ev T_L_law (some .boolean) xs Ln call 1518 [u0, u1, u2, some (.int x)] [v0, v1, .int i2] w r = Ev T_L_law (some .boolean) xs Ln call 1519 [u0, u1, u2, some (.int x)] [.int x, v0, v1, .int i2] w r := Ev.nxt rfl rfl
set_option maxRecDepth 20000 in
theorem S_L_law_1519 : Ev T_L_law (some .boolean) xs Ln call 1519 [u0, u1, u2, u3] [.int i0, v1, v2, .int i3] w r = Ev T_L_law (some .boolean) xs Ln call 1520 [u0, u1, u2, u3] [.int 1, .int i0, v1, v2, .int i3] w r := Ev.nxt rfl rfl
set_option maxRecDepth 20000 in
theorem S_L_law_1520 : Ev T_L_law (some .boolean) xs Ln call 1520 [u0, u1, u2, u3] [.int i0, .int i1, v2, v3, .int i4] w r = Ev T_L_law (some .boolean) xs Ln call 1521 [u0, u1, u2, u3] [.int (i1 + i0), v2, v3, .int i4] w r := Ev.nxt rfl rfl
set_option maxRecDepth 20000 in
theorem S_L_law_1521 (hi : ¬ (i0 < 0 ∨ Ln ≤ i0.toNatClampNeg)) : Ev T_L_law (some .boolean) xs Ln call 1521 [u0, u1, u2, u3] [.int i0, .retAddr 0, v2, .int i3] w r = Ev T_L_law (some .boolean) xs Ln call 1522 [u0, u1, u2, u3] [.int (xs i0.toNatClampNeg), v2, .int i3] w r := Ev.nxt rfl (by exact (X_sld hi))
set_option maxRecDepth 20000 in
theorem S_L_law_1522 (h : isRf z = true) : Ev T_L_law (some .boolean) xs Ln call 1522 [some z, u1, u2, u3] [.int i0, v1, .int i2] w r = Ev T_L_law (some .boolean) xs Ln call 1523 [some z, u1, u2, u3] [z, .int i0, v1, .int i2] w r := Ev.nxt rfl (by exact (if_pos h))
set_option maxRecDepth 20000 in
theorem S_L_law_1523 : Ev T_L_law (some .boolean) xs Ln call 1523 [u0, u1, u2, some (.int x)] [v0, .int i1, v2, .int i3] w r = Ev T_L_law (some .boolean) xs Ln call 1524 [u0, u1, u2, some (.int x)] [.int x, v0, .int i1, v2, .int i3] w r := Ev.nxt rfl rfl
set_option maxRecDepth 20000 in
theorem S_L_law_1524 : Ev T_L_law (some .boolean) xs Ln call 1524 [u0, u1, u2, u3] [.int i0, v1, .int i2, v3, .int i4] w r = Ev T_L_law (some .boolean) xs Ln call 1525 [u0, u1, u2, u3] [.int 2, .int i0, v1, .int i2, v3, .int i4] w r := Ev.nxt rfl rfl
set_option maxRecDepth 20000 in
theorem S_L_law_1525 : Ev T_L_law (some .boolean) xs Ln call 1525 [u0, u1, u2, u3] [.int i0, .int i1, v2, .int i3, v4, .int i5] w r = Ev T_L_law (some .boolean) xs Ln call 1526 [u0, u1, u2, u3] [.int (i1 + i0), v2, .int i3, v4, .int i5] w r := Ev.nxt rfl rfl
set_option maxRecDepth 20000 in
theorem S_L_law_1526 (hi : ¬ (i0 < 0 ∨ Ln ≤ i0.toNatClampNeg)) : Ev T_L_law (some .boolean) xs Ln call 1526 [u0, u1, u2, u3] [.int i0, .retAddr 0, .int i2, v3, .int i4] w r = Ev T_L_law (some .boolean) xs Ln call 1527 [u0, u1, u2, u3] [.int (xs i0.toNatClampNeg), .int i2, v3, .int i4] w r := Ev.nxt rfl (by exact (X_sld hi))
set_option maxRecDepth 20000 in
theorem S_L_law_1527 (h : isObj w k2 11 = true) : Ev T_L_law (some .boolean) xs Ln call 1527 [u0, u1, u2, u3] [.int i0, .int i1, .ref k2, .int i3] w r = aft T_L_law (some .boolean) xs Ln call 1530 [u0, u1, u2, u3] [.int i3] r (call 258 [.ref k2, .int i1, .int i0] w) := Ev.cl (vv := true) (k := 258) (n := 3) (nx := 1530) rfl rfl (Nat.le_of_ble_eq_true rfl) (by simp [catS, Value.category]) rfl (Or.inr h)
set_option maxRecDepth 20000 in
theorem S_L_law_1530 : Ev T_L_law (some .boolean) xs Ln call 1530 [u0, u1, u2, u3] [.int i0, .int i1] w r = if i1 = i0 then Ev T_L_law (some .boolean) xs Ln call 1785 [u0, u1, u2, u3] [] w r else Ev T_L_law (some .boolean) xs Ln call 1533 [u0, u1, u2, u3] [] w r := Ev.ifc rfl (by exact iteB)
set_option maxRecDepth 20000 in
theorem S_L_law_1533 : Ev T_L_law (some .boolean) xs Ln call 1533 [u0, u1, u2, u3] [] w r = Ev T_L_law (some .boolean) xs Ln call 1534 [u0, u1, u2, u3] [.int 0] w r := Ev.nxt rfl rfl
set_option maxRecDepth 20000 in
theorem S_L_law_1534 (h : okR (some .boolean) (.int i0) = true) : Ev T_L_law (some .boolean) xs Ln call 1534 [u0, u1, u2, u3] [.int i0] w r = (r = (w, some (.int i0))) := Ev.rt rfl (by exact if_pos h)
set_option maxRecDepth 20000 in
theorem S_L_law_1535 (h : isRf z = true) : Ev T_L_law (some .boolean) xs Ln call 1535 [u0, some z, u2, u3] [] w r = Ev T_L_law (some .boolean) xs Ln call 1536 [u0, some z, u2, u3] [z] w r := Ev.nxt rfl (by exact (if_pos h))
set_option maxRecDepth 20000 in
theorem S_L_law_1536 (h : isRf z = true) : Ev T_L_law (some .boolean) xs Ln call 1536 [some z, u1, u2, u3] [v0] w r = Ev T_L_law (some .boolean) xs Ln call 1537 [some z, u1, u2, u3] [z, v0] w r := Ev.nxt rfl (by exact (if_pos h))
set_option maxRecDepth 20000 in
theorem S_L_law_1537 : Ev T_L_law (some .boolean) xs Ln call 1537 [u0, u1, u2, some (.int x)] [v0, v1] w r = Ev T_L_law (some .boolean) xs Ln call 1538 [u0, u1, u2, some (.int x)] [.int x, v0, v1] w r := Ev.nxt rfl rfl
set_option maxRecDepth 20000 in
theorem S_L_law_1538 : Ev T_L_law (some .boolean) xs Ln call 1538 [u0, u1, u2, u3] [.int i0, v1, v2] w r = Ev T_L_law (some .boolean) xs Ln call 1539 [u0, u1, u2, u3] [.int 1, .int i0, v1, v2] w r := Ev.nxt rfl rfl
set_option maxRecDepth 20000 in
theorem S_L_law_1539 : Ev T_L_law (some .boolean) xs Ln call 1539 [u0, u1, u2, u3] [.int i0, .int i1, v2, v3] w r = Ev T_L_law (some .boolean) xs Ln call 1540 [u0, u1, u2, u3] [.int (i1 + i0), v2, v3] w r := Ev.nxt rfl rfl
set_option maxRecDepth 20000 in
theorem S_L_law_1540 (hi : ¬ (i0 < 0 ∨ Ln ≤ i0.toNatClampNeg)) : Ev T_L_law (some .boolean) xs Ln call 1540 [u0, u1, u2, u3] [.int i0, .retAddr 0, v2] w r = Ev T_L_law (some .boolean) xs Ln call 1541 [u0, u1, u2, u3] [.int (xs i0.toNatClampNeg), v2] w r := Ev.nxt rfl (by exact (X_sld hi))
set_option maxRecDepth 20000 in
theorem S_L_law_1541 (h : isRf z = true) : Ev T_L_law (some .boolean) xs Ln call 1541 [some z, u1, u2, u3] [.int i0, v1] w r = Ev T_L_law (some .boolean) xs Ln call 1542 [some z, u1, u2, u3] [z, .int i0, v1] w r := Ev.nxt rfl (by exact (if_pos h))
set_option maxRecDepth 20000 in
theorem S_L_law_1542 : Ev T_L_law (some .boolean) xs Ln call 1542 [u0, u1, u2, some (.int x)] [v0, .int i1, v2] w r = Ev T_L_law (some .boolean) xs Ln call 1543 [u0, u1, u2, some (.int x)] [.int x, v0, .int i1, v2] w r := Ev.nxt rfl rfl
set_option maxRecDepth 20000 in
theorem S_L_law_1543 : Ev T_L_law (some .boolean) xs Ln call 1543 [u0, u1, u2, u3] [.int i0, v1, .int i2, v3] w r = Ev T_L_law (some .boolean) xs Ln call 1544 [u0, u1, u2, u3] [.int 2, .int i0, v1, .int i2, v3] w r := Ev.nxt rfl rfl
set_option maxRecDepth 20000 in
theorem S_L_law_1544 : Ev T_L_law (some .boolean) xs Ln call 1544 [u0, u1, u2, u3] [.int i0, .int i1, v2, .int i3, v4] w r = Ev T_L_law (some .boolean) xs Ln call 1545 [u0, u1, u2, u3] [.int (i1 + i0), v2, .int i3, v4] w r := Ev.nxt rfl rfl
set_option maxRecDepth 20000 in
theorem S_L_law_1545 (hi : ¬ (i0 < 0 ∨ Ln ≤ i0.toNatClampNeg)) : Ev T_L_law (some .boolean) xs Ln call 1545 [u0, u1, u2, u3] [.int i0, .retAddr 0, .int i2, v3] w r = Ev T_L_law (some .boolean) xs Ln call 1546 [u0, u1, u2, u3] [.int (xs i0.toNatClampNeg), .int i2, v3] w r := Ev.nxt rfl (by exact (X_sld hi))
set_option maxRecDepth 20000 in
theorem S_L_law_1546 (h : isObj w k2 10 = true) : Ev T_L_law (some .boolean) xs Ln call 1546 [u0, u1, u2, u3] [.int i0, .int i1, .ref k2] w r = aft T_L_law (some .boolean) xs Ln call 1549 [u0, u1, u2, u3] [] r (call 127 [.ref k2, .int i1, .int i0] w) := Ev.cl (vv := true) (k := 127) (n := 3) (nx := 1549) rfl rfl (Nat.le_of_ble_eq_true rfl) (by simp [catS, Value.category]) rfl (Or.inr h)
set_option maxRecDepth 20000 in
theorem S_L_law_1549 (h : isRf z = true) : Ev T_L_law (some .boolean) xs Ln call 1549 [u0, u1, some z, u3] [.int i0] w r = Ev T_L_law (some .boolean) xs Ln call 1550 [u0, u1, some z, u3] [z, .int i0] w r := Ev.nxt rfl (by exact (if_pos h))
set_option maxRecDepth 20000 in
theorem S_L_law_1550 (h : isRf z = true) : Ev T_L_law (some .boolean) xs Ln call 1550 [some z, u1, u2, u3] [v0, .int i1] w r = Ev T_L_law (some .boolean) xs Ln call 1551 [some z, u1, u2, u3] [z, v0, .int i1] w r := Ev.nxt rfl (by exact (if_pos h))
set_option maxRecDepth 20000 in
theorem S_L_law_1551 : Ev T_L_law (some .boolean) xs Ln call 1551 [u0, u1, u2, some (.int x)] [v0, v1, .int i2] w r = Ev T_L_law (some .boolean) xs Ln call 1552 [u0, u1, u2, some (.int x)] [.int x, v0, v1, .int i2] w r := Ev.nxt rfl rfl
set_option maxRecDepth 20000 in
theorem S_L_law_1552 : Ev T_L_law (some .boolean) xs Ln call 1552 [u0, u1, u2, u3] [.int i0, v1, v2, .int i3] w r = Ev T_L_law (some .boolean) xs Ln call 1553 [u0, u1, u2, u3] [.int 1, .int i0, v1, v2, .int i3] w r := Ev.nxt rfl rfl
set_option maxRecDepth 20000 in
theorem S_L_law_1553 : Ev T_L_law (some .boolean) xs Ln call 1553 [u0, u1, u2, u3] [.int i0, .int i1, v2, v3, .int i4] w r = Ev T_L_law (some .boolean) xs Ln call 1554 [u0, u1, u2, u3] [.int (i1 + i0), v2, v3, .int i4] w r := Ev.nxt rfl rfl
set_option maxRecDepth 20000 in
theorem S_L_law_1554 (hi : ¬ (i0 < 0 ∨ Ln ≤ i0.toNatClampNeg)) : Ev T_L_law (some .boolean) xs Ln call 1554 [u0, u1, u2, u3] [.int i0, .retAddr 0, v2, .int i3] w r = Ev T_L_law (some .boolean) xs Ln call 1555 [u0, u1, u2, u3] [.int (xs i0.toNatClampNeg), v2, .int i3] w r := Ev.nxt rfl (by exact (X_sld hi))
set_option maxRecDepth 20000 in
theorem S_L_law_1555 (h : isRf z = true) : Ev T_L_law (some .boolean) xs Ln call 1555 [some z, u1, u2, u3] [.int i0, v1, .int i2] w r = Ev T_L_law (some .boolean) xs Ln call 1556 [some z, u1, u2, u3] [z, .int i0, v1, .int i2] w r := Ev.nxt rfl (by exact (if_pos h))
set_option maxRecDepth 20000 in
theorem S_L_law_1556 : Ev T_L_law (some .boolean) xs Ln call 1556 [u0, u1, u2, some (.int x)] [v0, .int i1, v2, .int i3] w r = Ev T_L_law (some .boolean) xs Ln call 1557 [u0, u1, u2, some (.int x)] [.int x, v0, .int i1, v2, .int i3] w r := Ev.nxt rfl rfl
set_option maxRecDepth 20000 in
theorem S_L_law_1557 : Ev T_L_law (some .boolean) xs Ln call 1557 [u0, u1, u2, u3] [.int i0, v1, .int i2, v3, .int i4] w r = Ev T_L_law (some .boolean) xs Ln call 1558 [u0, u1, u2, u3] [.int 2, .int i0, v1, .int i2, v3, .int i4] w r := Ev.nxt rfl rfl
set_option maxRecDepth 20000 in
theorem S_L_law_1558 : Ev T_L_law (some .boolean) xs Ln call 1558 [u0, u1, u2, u3] [.int i0, .int i1, v2, .int i3, v4, .int i5] w r = Ev T_L_law (some .boolean) xs Ln call 1559 [u0, u1, u2, u3] [.int (i1 + i0), v2, .int i3, v4, .int i5] w r := Ev.nxt rfl rfl
set_option maxRecDepth 20000 in
theorem S_L_law_1559 (hi : ¬ (i0 < 0 ∨ Ln ≤ i0.toNatClampNeg)) : Ev T_L_law (some .boolean) xs Ln call 1559 [u0, u1, u2, u3] [.int i0, .retAddr 0, .int i2, v3, .int i4] w r = Ev T_L_law (some .boolean) xs Ln call 1560 [u0, u1, u2, u3] [.int (xs i0.toNatClampNeg), .int i2, v3, .int i4] w r := Ev.nxt rfl (by exact (X_sld hi))
set_option maxRecDepth 20000 in
theorem S_L_law_1560 (h : isObj w k2 11 = true) : Ev T_L_law (some .boolean) xs Ln call 1560 [u0, u1, u2, u3] [.int i0, .int i1, .ref k2, .int i3] w r = aft T_L_law (some .boolean) xs Ln call 1563 [u0, u1, u2, u3] [.int i3] r (call 259 [.ref k2, .int i1, .int i0] w) := Ev.cl (vv := true) (k := 259) (n := 3) (nx := 1563) rfl rfl (Nat.le_of_ble_eq_true rfl) (by simp [catS, Value.category]) rfl (Or.inr h)
set_option maxRecDepth 20000 in
theorem S_L_law_1563 : Ev T_L_law (some .boolean) xs Ln call 1563 [u0, u1, u2, u3] [.int i0, .int i1] w r = if i1 = i0 then Ev T_L_law (some .boolean) xs Ln call 1785 [u0, u1, u2, u3] [] w r else Ev T_L_law (some .boolean) xs Ln call 1566 [u0, u1, u2, u3] [] w r := Ev.ifc rfl (by exact iteB)
set_option maxRecDepth 20000 in
theorem S_L_law_1566 : Ev T_L_law (some .boolean) xs Ln call 1566 [u0, u1, u2, u3] [] w r = Ev T_L_law (some .boolean) xs Ln call 1567 [u0, u1, u2, u3] [.int 0] w r := Ev.nxt rfl rfl
set_option maxRecDepth 20000 in
theorem S_L_law_1567 (h : okR (some .boolean) (.int i0) = true) : Ev T_L_law (some .boolean) xs Ln call 1567 [u0, u1, u2, u3] [.int i0] w r = (r = (w, some (.int i0))) := Ev.rt rfl (by exact if_pos h)
set_option maxRecDepth 20000 in
theorem S_L_law_1568 (h : isRf z = true) : Ev T_L_law (some .boolean) xs Ln call 1568 [u0, some z, u2, u3] [] w r = Ev T_L_law (some .boolean) xs Ln call 1569 [u0, some z, u2, u3] [z] w r := Ev.nxt rfl (by exact (if_pos h))
set_option maxRecDepth 20000 in
theorem S_L_law_1569 (h : isRf z = true) : Ev T_L_law (some .boolean) xs Ln call 1569 [some z, u1, u2, u3] [v0] w r = Ev T_L_law (some .boolean) xs Ln call 1570 [some z, u1, u2, u3] [z, v0] w r := Ev.nxt rfl (by exact (if_pos h))
set_option maxRecDepth 20000 in
theorem S_L_law_1570 : Ev T_L_law (some .boolean) xs Ln call 1570 [u0, u1, u2, some (.int x)] [v0, v1] w r = Ev T_L_law (some .boolean) xs Ln call 1571 [u0, u1, u2, some (.int x)] [.int x, v0, v1] w r := Ev.nxt rfl rfl
set_option maxRecDepth 20000 in
theorem S_L_law_1571 : Ev T_L_law (some .boolean) xs Ln call 1571 [u0, u1, u2, u3] [.int i0, v1, v2] w r = Ev T_L_law (some .boolean) xs Ln call 1572 [u0, u1, u2, u3] [.int 1, .int i0, v1, v2] w r := Ev.nxt rfl rfl
set_option maxRecDepth 20000 in
theorem S_L_law_1572 : Ev T_L_law (some .boolean) xs Ln call 1572 [u0, u1, u2, u3] [.int i0, .int i1, v2, v3] w r = Ev T_L_law (some .boolean) xs Ln call 1573 [u0, u1, u2, u3] [.int (i1 + i0), v2, v3] w r := Ev.nxt rfl rfl
set_option maxRecDepth 20000 in
theorem S_L_law_1573 (hi : ¬ (i0 < 0 ∨ Ln ≤ i0.toNatClampNeg)) : Ev T_L_law (some .boolean) xs Ln call 1573 [u0, u1, u2, u3] [.int i0, .retAddr 0, v2] w r = Ev T_L_law (some .boolean) xs Ln call 1574 [u0, u1, u2, u3] [.int (xs i0.toNatClampNeg), v2] w r := Ev.nxt rfl (by exact (X_sld hi))
set_option maxRecDepth 20000 in
theorem S_L_law_1574 (h : isRf z = true) : Ev T_L_law (some .boolean) xs Ln call 1574 [some z, u1, u2, u3] [.int i0, v1] w r = Ev T_L_law (some .boolean) xs Ln call 1575 [some z, u1, u2, u3] [z, .int i0, v1] w r := Ev.nxt rfl (by exact (if_pos h))
set_option maxRecDepth 20000 in
theorem S_L_law_1575 : Ev T_L_law (some .boolean) xs Ln call 1575 [u0, u1, u2, some (.int x)] [v0, .int i1, v2] w r = Ev T_L_law (some .boolean) xs Ln call 1576 [u0, u1, u2, some (.int x)] [.int x, v0, .int i1, v2] w r := Ev.nxt rfl rfl
set_option maxRecDepth 20000 in
theorem S_L_law_1576 : Ev T_L_law (some .boolean) xs Ln call 1576 [u0, u1, u2, u3] [.int i0, v1, .int i2, v3] w r = Ev T_L_law (some .boolean) xs Ln call 1577 [u0, u1, u2, u3] [.int 2, .int i0, v1, .int i2, v3] w r := Ev.nxt rfl rfl
set_option maxRecDepth 20000 in
theorem S_L_law_1577 : Ev T_L_law (some .boolean) xs Ln call 1577 [u0, u1, u2, u3] [.int i0, .int i1, v2, .int i3, v4] w r = Ev T_L_law (some .boolean) xs Ln call 1578 [u0, u1, u2, u3] [.int (i1 + i0), v2, .int i3, v4] w r := Ev.nxt rfl rfl
set_option maxRecDepth 20000 in
theorem S_L_law_1578 (hi : ¬ (i0 < 0 ∨ Ln ≤ i0.toNatClampNeg)) : Ev T_L_law (some .boolean) xs Ln call 1578 [u0, u1, u2, u3] [.int i0, .retAddr 0, .int i2, v3] w r = Ev T_L_law (some .boolean) xs Ln call 1579 [u0, u1, u2, u3] [.int (xs i0.toNatClampNeg), .int i2, v3] w r := Ev.nxt rfl (by exact (X_sld hi))
set_option maxRecDepth 20000 in
theorem S_L_law_1579 (h : isObj w k2 10 = true) : Ev T_L_law (some .boolean) xs Ln call 1579 [u0, u1, u2, u3] [.int i0, .int i1, .ref k2] w r = aft T_L_law (some .boolean) xs Ln call 1582 [u0, u1, u2, u3] [] r (call 128 [.ref k2, .int i1, .int i0] w) := Ev.cl (vv := true) (k := 128) (n := 3) (nx := 1582) rfl rfl (Nat.le_of_ble_eq_true rfl) (by simp [catS, Value.category]) rfl (Or.inr h)
set_option maxRecDepth 20000 in
theorem S_L_law_1582 (h : isRf z = true) : Ev T_L_law (some .boolean) xs Ln call 1582 [u0, u1, some z, u3] [.int i0] w r = Ev T_L_law (some .boolean) xs Ln call 1583 [u0, u1, some z, u3] [z, .int i0] w r := Ev.nxt rfl (by exact (if_pos h))
set_option maxRecDepth 20000 in
theorem S_L_law_1583 (h : isRf z = true) : Ev T_L_law (some .boolean) xs Ln call 1583 [some z, u1, u2, u3] [v0, .int i1] w r = Ev T_L_law (some .boolean) xs Ln call 1584 [some z, u1, u2, u3] [z, v0, .int i1] w r := Ev.nxt rfl (by exact (if_pos h))
set_option maxRecDepth 20000 in
theorem S_L_law_1584 : Ev T_L_law (some .boolean) xs Ln call 1584 [u0, u1, u2, some (.int x)] [v0, v1, .int i2] w r = Ev T_L_law (some .boolean) xs Ln call 1585 [u0, u1, u2, some (.int x)] [.int x, v0, v1, .int i2] w r := Ev.nxt rfl rfl
set_option maxRecDepth 20000 in
theorem S_L_law_1585 : Ev T_L_law (some .boolean) xs Ln call 1585 [u0, u1, u2, u3] [.int i0, v1, v2, .int i3] w r = Ev T_L_law (some .boolean) xs Ln call 1586 [u0, u1, u2, u3] [.int 1, .int i0, v1, v2, .int i3] w r := Ev.nxt rfl rfl
set_option maxRecDepth 20000 in
theorem S_L_law_1586 : Ev T_L_law (some .boolean) xs Ln call 1586 [u0, u1, u2, u3] [.int i0, .int i1, v2, v3, .int i4] w r = Ev T_L_law (some .boolean) xs Ln call 1587 [u0, u1, u2, u3] [.int (i1 + i0), v2, v3, .int i4] w r := Ev.nxt rfl rfl
set_option maxRecDepth 20000 in
theorem S_L_law_1587 (hi : ¬ (i0 < 0 ∨ Ln ≤ i0.toNatClampNeg)) : Ev T_L_law (some .boolean) xs Ln call 1587 [u0, u1, u2, u3] [.int i0, .retAddr 0, v2, .int i3] w r = Ev T_L_law (some .boolean) xs Ln call 1588 [u0, u1, u2, u3] [.int (xs i0.toNatClampNeg), v2, .int i3] w r := Ev.nxt rfl (by exact (X_sld hi))
set_option maxRecDepth 20000 in
theorem S_L_law_1588 (h : isRf z = true) : Ev T_L_law (some .boolean) xs Ln call 1588 [some z, u1, u2, u3] [.int i0, v1, .int i2] w r = Ev T_L_law (some .boolean) xs Ln call 1589 [some z, u1, u2, u3] [z, .int i0, v1, .int i2] w r := Ev.nxt rfl (by exact (if_pos h))
set_option maxRecDepth 20000 in
theorem S_L_law_1589 : Ev T_L_law (some .boolean) xs Ln call 1589 [u0, u1, u2, some (.int x)] [v0, .int i1, v2, .int i3] w r = Ev T_L_law (some .boolean) xs Ln call 1590 [u0, u1, u2, some (.int x)] [.int x, v0, .int i1, v2, .int i3] w r := Ev.nxt rfl rfl
set_option maxRecDepth 20000 in
theorem S_L_law_1590 : Ev T_L_law (some .boolean) xs Ln call 1590 [u0, u1, u2, u3] [.int i0, v1, .int i2, v3, .int i4] w r = Ev T_L_law (some .boolean) xs Ln call 1591 [u0, u1, u2, u3] [.int 2, .int i0, v1, .int i2, v3, .int i4] w r := Ev.nxt rfl rfl
set_option maxRecDepth 20000 in
theorem S_L_law_1591 : Ev T_L_law (some .boolean) xs Ln call 1591 [u0, u1, u2, u3] [.int i0, .int i1, v2, .int i3, v4, .int i5] w r = Ev T_L_law (some .boolean) xs Ln call 1592 [u0, u1, u2, u3] [.int (i1 + i0), v2, .int i3, v4, .int i5] w r := Ev.nxt rfl rfl
set_option maxRecDepth 20000 in
theorem S_L_law_1592 (hi : ¬ (i0 < 0 ∨ Ln ≤ i0.toNatClampNeg)) : Ev T_L_law (some .boolean) xs Ln call 1592 [u0, u1, u2, u3] [.int i0, .retAddr 0, .int i2, v3, .int i4] w r = Ev T_L_law (some .boolean) xs Ln call 1593 [u0, u1, u2, u3] [.int (xs i0.toNatClampNeg), .int i2, v3, .int i4] w r := Ev.nxt rfl (by exact (X_sld hi))
set_option maxRecDepth 20000 in
theorem S_L_law_1593 (h : isObj w k2 11 = true) : Ev T_L_law (some .boolean) xs Ln call 1593 [u0, u1, u2, u3] [.int i0, .int i1, .ref k2, .int i3] w r = aft T_L_law (some .boolean) xs Ln call 1596 [u0, u1, u2, u3] [.int i3] r (call 260 [.ref k2, .int i1, .int i0] w) := Ev.cl (vv := true) (k := 260) (n := 3) (nx := 1596) rfl rfl (Nat.le_of_ble_eq_true rfl) (by simp [catS, Value.category]) rfl (Or.inr h)
set_option maxRecDepth 20000 in
theorem S_L_law_1596 : Ev T_L_law (some .boolean) xs Ln call 1596 [u0, u1, u2, u3] [.int i0, .int i1] w r = if i1 = i0 then Ev T_L_law (some .boolean) xs Ln call 1785 [u0, u1, u2, u3] [] w r else Ev T_L_law (some .boolean) xs Ln call 1599 [u0, u1, u2, u3] [] w r := Ev.ifc rfl (by exact iteB)
set_option maxRecDepth 20000 in
theorem S_L_law_1599 : Ev T_L_law (some .boolean) xs Ln call 1599 [u0, u1, u2, u3] [] w r = Ev T_L_law (some .boolean) xs Ln call 1600 [u0, u1, u2, u3] [.int 0] w r := Ev.nxt rfl rfl
set_option maxRecDepth 20000 in
theorem S_L_law_1600 (h : okR (some .boolean) (.int i0) = true) : Ev T_L_law (some .boolean) xs Ln call 1600 [u0, u1, u2, u3] [.int i0] w r = (r = (w, some (.int i0))) := Ev.rt rfl (by exact if_pos h)
set_option maxRecDepth 20000 in
theorem S_L_law_1601 (h : isRf z = true) : Ev T_L_law (some .boolean) xs Ln call 1601 [u0, some z, u2, u3] [] w r = Ev T_L_law (some .boolean) xs Ln call 1602 [u0, some z, u2, u3] [z] w r := Ev.nxt rfl (by exact (if_pos h))
set_option maxRecDepth 20000 in
theorem S_L_law_1602 (h : isRf z = true) : Ev T_L_law (some .boolean) xs Ln call 1602 [some z, u1, u2, u3] [v0] w r = Ev T_L_law (some .boolean) xs Ln call 1603 [some z, u1, u2, u3] [z, v0] w r := Ev.nxt rfl (by exact (if_pos h))
set_option maxRecDepth 20000 in
theorem S_L_law_1603 : Ev T_L_law (some .boolean) xs Ln call 1603 [u0, u1, u2, some (.int x)] [v0, v1] w r = Ev T_L_law (some .boolean) xs Ln call 1604 [u0, u1, u2, some (.int x)] [.int x, v0, v1] w r := Ev.nxt rfl rfl
set_option maxRecDepth 20000 in
theorem S_L_law_1604 : Ev T_L_law (some .boolean) xs Ln call 1604 [u0, u1, u2, u3] [.int i0, v1, v2] w r = Ev T_L_law (some .boolean) xs Ln call 1605 [u0, u1, u2, u3] [.int 1, .int i0, v1, v2] w r := Ev.nxt rfl rfl
set_option maxRecDepth 20000 in
theorem S_L_law_1605 : Ev T_L_law (some .boolean) xs Ln call 1605 [u0, u1, u2, u3] [.int i0, .int i1, v2, v3] w r = Ev T_L_law (some .boolean) xs Ln call 1606 [u0, u1, u2, u3] [.int (i1 + i0), v2, v3] w r := Ev.nxt rfl rfl
set_option maxRecDepth 20000 in
theorem S_L_law_1606 (hi : ¬ (i0 < 0 ∨ Ln ≤ i0.toNatClampNeg)) : Ev T_L_law (some .boolean) xs Ln call 1606 [u0, u1, u2, u3] [.int i0, .retAddr 0, v2] w r = Ev T_L_law (some .boolean) xs Ln call 1607 [u0, u1, u2, u3] [.int (xs i0.toNatClampNeg), v2] w r := Ev.nxt rfl (by exact (X_sld hi))
set_option maxRecDepth 20000 in
theorem S_L_law_1607 (h : isObj w k1 10 = true) : Ev T_L_law (some .boolean) xs Ln call 1607 [u0, u1, u2, u3] [.int i0, .ref k1] w r = aft T_L_law (some .boolean) xs Ln call 1610 [u0, u1, u2, u3] [] r (call 129 [.ref k1, .int i0] w) := Ev.cl (vv := true) (k := 129) (n := 2) (nx := 1610) rfl rfl (Nat.le_of_ble_eq_true rfl) (by simp [catS, Value.category]) rfl (Or.inr h)
set_option maxRecDepth 20000 in
theorem S_L_law_1610 (h : isRf z = true) : Ev T_L_law (some .boolean) xs Ln call 1610 [u0, u1, some z, u3] [.int i0] w r = Ev T_L_law (some .boolean) xs Ln call 1611 [u0, u1, some z, u3] [z, .int i0] w r := Ev.nxt rfl (by exact (if_pos h))
set_option maxRecDepth 20000 in
theorem S_L_law_1611 (h : isRf z = true) : Ev T_L_law (some .boolean) xs Ln call 1611 [some z, u1, u2, u3] [v0, .int i1] w r = Ev T_L_law (some .boolean) xs Ln call 1612 [some z, u1, u2, u3] [z, v0, .int i1] w r := Ev.nxt rfl (by exact (if_pos h))
set_option maxRecDepth 20000 in
theorem S_L_law_1612 : Ev T_L_law (some .boolean) xs Ln call 1612 [u0, u1, u2, some (.int x)] [v0, v1, .int i2] w r = Ev T_L_law (some .boolean) xs Ln call 1613 [u0, u1, u2, some (.int x)] [.int x, v0, v1, .int i2] w r := Ev.nxt rfl rfl
set_option maxRecDepth 20000 in
theorem S_L_law_1613 : Ev T_L_law (some .boolean) xs Ln call 1613 [u0, u1, u2, u3] [.int i0, v1, v2, .int i3] w r = Ev T_L_law (some .boolean) xs Ln call 1614 [u0, u1, u2, u3] [.int 1, .int i0, v1, v2, .int i3] w r := Ev.nxt rfl rfl
set_option maxRecDepth 20000 in
theorem S_L_law_1614 : Ev T_L_law (some .boolean) xs Ln call 1614 [u0, u1, u2, u3] [.int i0, .int i1, v2, v3, .int i4] w r = Ev T_L_law (some .boolean) xs Ln call 1615 [u0, u1, u2, u3] [.int (i1 + i0), v2, v3, .int i4] w r := Ev.nxt rfl rfl
set_option maxRecDepth 20000 in
theorem S_L_law_1615 (hi : ¬ (i0 < 0 ∨ Ln ≤ i0.toNatClampNeg)) : Ev T_L_law (some .boolean) xs Ln call 1615 [u0, u1, u2, u3] [.int i0, .retAddr 0, v2, .int i3] w r = Ev T_L_law (some .boolean) xs Ln call 1616 [u0, u1, u2, u3] [.int (xs i0.toNatClampNeg), v2, .int i3] w r := Ev.nxt rfl (by exact (X_sld hi))
set_option maxRecDepth 20000 in
theorem S_L_law_1616 (h : isObj w k1 11 = true) : Ev T_L_law (some .boolean) xs Ln call 1616 [u0, u1, u2, u3] [.int i0, .ref k1, .int i2] w r = aft T_L_law (some .boolean) xs Ln call 1619 [u0, u1, u2, u3] [.int i2] r (call 261 [.ref k1, .int i0] w) := Ev.cl (vv := true) (k := 261) (n := 2) (nx := 1619) rfl rfl (Nat.le_of_ble_eq_true rfl) (by simp [catS, Value.category]) rfl (Or.inr h)
set_option maxRecDepth 20000 in
theorem S_L_law_1619 : Ev T_L_law (some .boolean) xs Ln call 1619 [u0, u1, u2, u3] [.int i0, .int i1] w r = if i1 = i0 then Ev T_L_law (some .boolean) xs Ln call 1785 [u0, u1, u2, u3] [] w r else Ev T_L_law (some .boolean) xs Ln call 1622 [u0, u1, u2, u3] [] w r := Ev.ifc rfl (by exact iteB)
set_option maxRecDepth 20000 in
theorem S_L_law_1622 : Ev T_L_law (some .boolean) xs Ln call 1622 [u0, u1, u2, u3] [] w r = Ev T_L_law (some .boolean) xs Ln call 1623 [u0, u1, u2, u3] [.int 0] w r := Ev.nxt rfl rfl
set_option maxRecDepth 20000 in
theorem S_L_law_1623 (h : okR (some .boolean) (.int i0) = true) : Ev T_L_law (some .boolean) xs Ln call 1623 [u0, u1, u2, u3] [.int i0] w r = (r = (w, some (.int i0))) := Ev.rt rfl (by exact if_pos h)
set_option maxRecDepth 20000 in
theorem S_L_law_1624 (h : isRf z = true) : Ev T_L_law (some .boolean) xs Ln call 1624 [u0, some z, u2, u3] [] w r = Ev T_L_law (some .boolean) xs Ln call 1625 [u0, some z, u2, u3] [z] w r := Ev.nxt rfl (by exact (if_pos h))
set_option maxRecDepth 20000 in
theorem S_L_law_1625 (h : isRf z = true) : Ev T_L_law (some .boolean) xs Ln call 1625 [some z, u1, u2, u3] [v0] w r = Ev T_L_law (some .boolean) xs Ln call 1626 [some z, u1, u2, u3] [z, v0] w r := Ev.nxt rfl (by exact (if_pos h))
set_option maxRecDepth 20000 in
theorem S_L_law_1626 : Ev T_L_law (some .boolean) xs Ln call 1626 [u0, u1, u2, some (.int x)] [v0, v1] w r = Ev T_L_law (some .boolean) xs Ln call 1627 [u0, u1, u2, some (.int x)] [.int x, v0, v1] w r := Ev.nxt rfl rfl
set_option maxRecDepth 20000 in
theorem S_L_law_1627 : Ev T_L_law (some .boolean) xs Ln call 1627 [u0, u1, u2, u3] [.int i0, v1, v2] w r = Ev T_L_law (some .boolean) xs Ln call 1628 [u0, u1, u2, u3] [.int 1, .int i0, v1, v2] w r := Ev.nxt rfl rfl
set_option maxRecDepth 20000 in
theorem S_L_law_1628 : Ev T_L_law (some .boolean) xs Ln call 1628 [u0, u1, u2, u3] [.int i0, .int i1, v2, v3] w r = Ev T_L_law (some .boolean) xs Ln call 1629 [u0, u1, u2, u3] [.int (i1 + i0), v2, v3] w r := Ev.nxt rfl rfl
set_option maxRecDepth 20000 in
theorem S_L_law_1629 (hi : ¬ (i0 < 0 ∨ Ln ≤ i0.toNatClampNeg)) : Ev T_L_law (some .boolean) xs Ln call 1629 [u0, u1, u2, u3] [.int i0, .retAddr 0, v2] w r = Ev T_L_law (some .boolean) xs Ln call 1630 [u0, u1, u2, u3] [.int (xs i0.toNatClampNeg), v2] w r := Ev.nxt rfl (by exact (X_sld hi))
set_option maxRecDepth 20000 in
theorem S_L_law_1630 (h : isObj w k1 10 = true) : Ev T_L_law (some .boolean) xs Ln call 1630 [u0, u1, u2, u3] [.int i0, .ref k1] w r = aft T_L_law (some .boolean) xs Ln call 1633 [u0, u1, u2, u3] [] r (call 130 [.ref k1, .int i0] w) := Ev.cl (vv := true) (k := 130) (n := 2) (nx := 1633) rfl rfl (Nat.le_of_ble_eq_true rfl) (by simp [catS, Value.category]) rfl (Or.inr h)
set_option maxRecDepth 20000 in
theorem S_L_law_1633 (h : isRf z = true) : Ev T_L_law (some .boolean) xs Ln call 1633 [u0, u1, some z, u3] [.int i0] w r = Ev T_L_law (some .boolean) xs Ln call 1634 [u0, u1, some z, u3] [z, .int i0] w r := Ev.nxt rfl (by exact (if_pos h))
set_option maxRecDepth 20000 in
theorem S_L_law_1634 (h : isRf z = true) : Ev T_L_law (some .boolean) xs Ln call 1634 [some z, u1, u2, u3] [v0, .int i1] w r = Ev T_L_law (some .boolean) xs Ln call 1635 [some z, u1, u2, u3] [z, v0, .int i1] w r := Ev.nxt rfl (by exact (if_pos h))
set_option maxRecDepth 20000 in
theorem S_L_law_1635 : Ev T_L_law (some .boolean) xs Ln call 1635 [u0, u1, u2, some (.int x)] [v0, v1, .int i2] w r = Ev T_L_law (some .boolean) xs Ln call 1636 [u0, u1, u2, some (.int x)] [.int x, v0, v1, .int i2] w r := Ev.nxt rfl rfl
set_option maxRecDepth 20000 in
theorem S_L_law_1636 : Ev T_L_law (some .boolean) xs Ln call 1636 [u0, u1, u2, u3] [.int i0, v1, v2, .int i3] w r = Ev T_L_law (some .boolean) xs Ln call 1637 [u0, u1, u2, u3] [.int 1, .int i0, v1, v2, .int i3] w r := Ev.nxt rfl rfl
set_option maxRecDepth 20000 in
theorem S_L_law_1637 : Ev T_L_law (some .boolean) xs Ln call 1637 [u0, u1, u2, u3] [.int i0, .int i1, v2, v3, .int i4] w r = Ev T_L_law (some .boolean) xs Ln call 1638 [u0, u1, u2, u3] [.int (i1 + i0), v2, v3, .int i4] w r := Ev.nxt rfl rfl
set_option maxRecDepth 20000 in
theorem S_L_law_1638 (hi : ¬ (i0 < 0 ∨ Ln ≤ i0.toNatClampNeg)) : Ev T_L_law (some .boolean) xs Ln call 1638 [u0, u1, u2, u3] [.int i0, .retAddr 0, v2, .int i3] w r = Ev T_L_law (some .boolean) xs Ln call 1639 [u0, u1, u2, u3] [.int (xs i0.toNatClampNeg), v2, .int i3] w r := Ev.nxt rfl (by exact (X_sld hi))
set_option maxRecDepth 20000 in
theorem S_L_law_1639 (h : isObj w k1 11 = true) : Ev T_L_law (some .boolean) xs Ln call 1639 [u0, u1, u2, u3] [.int i0, .ref k1, .int i2] w r = aft T_L_law (some .boolean) xs Ln call 1642 [u0, u1, u2, u3] [.int i2] r (call 262 [.ref k1, .int i0] w) := Ev.cl (vv := true) (k := 262) (n := 2) (nx := 1642) rfl rfl (Nat.le_of_ble_eq_true rfl) (by simp [catS, Value.category]) rfl (Or.inr h)
set_option maxRecDepth 20000 in
theorem S_L_law_1642 : Ev T_L_law (some .boolean) xs Ln call 1642 [u0, u1, u2, u3] [.int i0, .int i1] w r = if i1 = i0 then Ev T_L_law (some .boolean) xs Ln call 1785 [u0, u1, u2, u3] [] w r else Ev T_L_law (some .boolean) xs Ln call 1645 [u0, u1, u2, u3] [] w r := Ev.ifc rfl (by exact iteB)
set_option maxRecDepth 20000 in
theorem S_L_law_1645 : Ev T_L_law (some .boolean) xs Ln call 1645 [u0, u1, u2, u3] [] w r = Ev T_L_law (some .boolean) xs Ln call 1646 [u0, u1, u2, u3] [.int 0] w r := Ev.nxt rfl rfl
set_option maxRecDepth 20000 in
theorem S_L_law_1646 (h : okR (some .boolean) (.int i0) = true) : Ev T_L_law (some .boolean) xs Ln call 1646 [u0, u1, u2, u3] [.int i0] w r = (r = (w, some (.int i0))) := Ev.rt rfl (by exact if_pos h)
set_option maxRecDepth 20000 in
theorem S_L_law_1647 (h : isRf z = true) : Ev T_L_law (some .boolean) xs Ln call 1647 [u0, some z, u2, u3] [] w r = Ev T_L_law (some .boolean) xs Ln call 1648 [u0, some z, u2, u3] [z] w r := Ev.nxt rfl (by exact (if_pos h))
set_option maxRecDepth 20000 in
theorem S_L_law_1648 (h : isRf z = true) : Ev T_L_law (some .boolean) xs Ln call 1648 [some z, u1, u2, u3] [v0] w r = Ev T_L_law (some .boolean) xs Ln call 1649 [some z, u1, u2, u3] [z, v0] w r := Ev.nxt rfl (by exact (if_pos h))
set_option maxRecDepth 20000 in
theorem S_L_law_1649 : Ev T_L_law (some .boolean) xs Ln call 1649 [u0, u1, u2, some (.int x)] [v0, v1] w r = Ev T_L_law (some .boolean) xs Ln call 1650 [u0, u1, u2, some (.int x)] [.int x, v0, v1] w r := Ev.nxt rfl rfl
set_option maxRecDepth 20000 in
theorem S_L_law_1650 : Ev T_L_law (some .boolean) xs Ln call 1650 [u0, u1, u2, u3] [.int i0, v1, v2] w r = Ev T_L_law (some .boolean) xs Ln call 1651 [u0, u1, u2, u3] [.int 1, .int i0, v1, v2] w r := Ev.nxt rfl rfl
set_option maxRecDepth 20000 in
theorem S_L_law_1651 : Ev T_L_law (some .boolean) xs Ln call 1651 [u0, u1, u2, u3] [.int i0, .int i1, v2, v3] w r = Ev T_L_law (some .boolean) xs Ln call 1652 [u0, u1, u2, u3] [.int (i1 + i0), v2, v3] w r := Ev.nxt rfl rfl
set_option maxRecDepth 20000 in
theorem S_L_law_1652 (hi : ¬ (i0 < 0 ∨ Ln ≤ i0.toNatClampNeg)) : Ev T_L_law (some .boolean) xs Ln call 1652 [u0, u1, u2, u3] [.int i0, .retAddr 0, v2] w r = Ev T_L_law (some .boolean) xs Ln call 1653 [u0, u1, u2, u3] [.int (xs i0.toNatClampNeg), v2] w r := Ev.nxt rfl (by exact (X_sld hi))
set_option maxRecDepth 20000 in
theorem S_L_law_1653 (h : isRf z = true) : Ev T_L_law (some .boolean) xs Ln call 1653 [some z, u1, u2, u3] [.int i0, v1] w r = Ev T_L_law (some .boolean) xs Ln call 1654 [some z, u1, u2, u3] [z, .int i0, v1] w r := Ev.nxt rfl (by exact (if_pos h))
set_option maxRecDepth 20000 in
theorem S_L_law_1654 : Ev T_L_law (some .boolean) xs Ln call 1654 [u0, u1, u2, some (.int x)] [v0, .int i1, v2] w r = Ev T_L_law (some .boolean) xs Ln call 1655 [u0, u1, u2, some (.int x)] [.int x, v0, .int i1, v2] w r := Ev.nxt rfl rfl
set_option maxRecDepth 20000 in
theorem S_L_law_1655 : Ev T_L_law (some .boolean) xs Ln call 1655 [u0, u1, u2, u3] [.int i0, v1, .int i2, v3] w r = Ev T_L_law (some .boolean) xs Ln call 1656 [u0, u1, u2, u3] [.int 2, .int i0, v1, .int i2, v3] w r := Ev.nxt rfl rfl
set_option maxRecDepth 20000 in
theorem S_L_law_1656 : Ev T_L_law (some .boolean) xs Ln call 1656 [u0, u1, u2, u3] [.int i0, .int i1, v2, .int i3, v4] w r = Ev T_L_law (some .boolean) xs Ln call 1657 [u0, u1, u2, u3] [.int (i1 + i0), v2, .int i3, v4] w r := Ev.nxt rfl rfl
set_option maxRecDepth 20000 in
theorem S_L_law_1657 (hi : ¬ (i0 < 0 ∨ Ln ≤ i0.toNatClampNeg)) : Ev T_L_law (some .boolean) xs Ln call 1657 [u0, u1, u2, u3] [.int i0, .retAddr 0, .int i2, v3] w r = Ev T_L_law (some .boolean) xs Ln call 1658 [u0, u1, u2, u3] [.int (xs i0.toNatClampNeg), .int i2, v3] w r := Ev.nxt rfl (by exact (X_sld hi))
set_option maxRecDepth 20000 in
theorem S_L_law_1658 (h : isObj w k2 10 = true) : Ev T_L_law (some .boolean) xs Ln call 1658 [u0, u1, u2, u3] [.int i0, .int i1, .ref k2] w r = aft T_L_law (some .boolean) xs Ln call 1661 [u0, u1, u2, u3] [] r (call 131 [.ref k2, .int i1, .int i0] w) := Ev.cl (vv := true) (k := 131) (n := 3) (nx := 1661) rfl rfl (Nat.le_of_ble_eq_true rfl) (by simp [catS, Value.category]) rfl (Or.inr h)
set_option maxRecDepth 20000 in
theorem S_L_law_1661 (h : isRf z = true) : Ev T_L_law (some .boolean) xs Ln call 1661 [u0, u1, some z, u3] [.int i0] w r = Ev T_L_law (some .boolean) xs Ln call 1662 [u0, u1, some z, u3] [z, .int i0] w r := Ev.nxt rfl (by exact (if_pos h))
set_option maxRecDepth 20000 in
theorem S_L_law_1662 (h : isRf z = true) : Ev T_L_law (some .boolean) xs Ln call 1662 [some z, u1, u2, u3] [v0, .int i1] w r = Ev T_L_law (some .boolean) xs Ln call 1663 [some z, u1, u2, u3] [z, v0, .int i1] w r := Ev.nxt rfl (by exact (if_pos h))
set_option maxRecDepth 20000 in
theorem S_L_law_1663 : Ev T_L_law (some .boolean) xs Ln call 1663 [u0, u1, u2, some (.int x)] [v0, v1, .int i2] w r = Ev T_L_law (some .boolean) xs Ln call 1664 [u0, u1, u2, some (.int x)] [.int x, v0, v1, .int i2] w r := Ev.nxt rfl rfl
set_option maxRecDepth 20000 in
theorem S_L_law_1664 : Ev T_L_law (some .boolean) xs Ln call 1664 [u0, u1, u2, u3] [.int i0, v1, v2, .int i3] w r = Ev T_L_law (some .boolean) xs Ln call 1665 [u0, u1, u2, u3] [.int 1, .int i0, v1, v2, .int i3] w r := Ev.nxt rfl rfl
set_option maxRecDepth 20000 in
theorem S_L_law_1665 : Ev T_L_law (some .boolean) xs Ln call 1665 [u0, u1, u2, u3] [.int i0, .int i1, v2, v3, .int i4] w r = Ev T_L_law (some .boolean) xs Ln call 1666 [u0, u1, u2, u3] [.int (i1 + i0), v2, v3, .int i4] w r := Ev.nxt rfl rfl
set_option maxRecDepth 20000 in
theorem S_L_law_1666 (hi : ¬ (i0 < 0 ∨ Ln ≤ i0.toNatClampNeg)) : Ev T_L_law (some .boolean) xs Ln call 1666 [u0, u1, u2, u3] [.int i0, .retAddr 0, v2, .int i3] w r = Ev T_L_law (some .boolean) xs Ln call 1667 [u0, u1, u2, u3] [.int (xs i0.toNatClampNeg), v2, .int i3] w r := Ev.nxt rfl (by exact (X_sld hi))
set_option maxRecDepth 20000 in
theorem S_L_law_1667 (h : isRf z = true) : Ev T_L_law (some .boolean) xs Ln call 1667 [some z, u1, u2, u3] [.int i0, v1, .int i2] w r = Ev T_L_law (some .boolean) xs Ln call 1668 [some z, u1, u2, u3] [z, .int i0, v1, .int i2] w r := Ev.nxt rfl (by exact (if_pos h))
set_option maxRecDepth 20000 in
theorem S_L_law_1668 : Ev T_L_law (some .boolean) xs Ln call 1668 [u0, u1, u2, some (.int x)] [v0, .int i1, v2, .int i3] w r = Ev T_L_law (some .boolean) xs Ln call 1669 [u0, u1, u2, some (.int x)] [.int x, v0, .int i1, v2, .int i3] w r := Ev.nxt rfl rfl
set_option maxRecDepth 20000 in
theorem S_L_law_1669 : Ev T_L_law (some .boolean) xs Ln call 1669 [u0, u1, u2, u3] [.int i0, v1, .int i2, v3, .int i4] w r = Ev T_L_law (some .boolean) xs Ln call 1670 [u0, u1, u2, u3] [.int 2, .int i0, v1, .int i2, v3, .int i4] w r := Ev.nxt rfl rfl
set_option maxRecDepth 20000 in
theorem S_L_law_1670 : Ev T_L_law (some .boolean) xs Ln call 1670 [u0, u1, u2, u3] [.int i0, .int i1, v2, .int i3, v4, .int i5] w r = Ev T_L_law (some .boolean) xs Ln call 1671 [u0, u1, u2, u3] [.int (i1 + i0), v2, .int i3, v4, .int i5] w r := Ev.nxt rfl rfl
set_option maxRecDepth 20000 in
theorem S_L_law_1671 (hi : ¬ (i0 < 0 ∨ Ln ≤ i0.toNatClampNeg)) : Ev T_L_law (some .boolean) xs Ln call 1671 [u0, u1, u2, u3] [.int i0, .retAddr 0, .int i2, v3, .int i4] w r = Ev T_L_law (some .boolean) xs Ln call 1672 [u0, u1, u2, u3] [.int (xs i0.toNatClampNeg), .int i2, v3, .int i4] w r := Ev.nxt rfl (by exact (X_sld hi))
set_option maxRecDepth 20000 in
theorem S_L_law_1672 (h : isObj w k2 11 = true) : Ev T_L_law (some .boolean) xs Ln call 1672 [u0, u1, u2, u3] [.int i0, .int i1, .ref k2, .int i3] w r = aft T_L_law (some .boolean) xs Ln call 1675 [u0, u1, u2, u3] [.int i3] r (call 263 [.ref k2, .int i1, .int i0] w) := Ev.cl (vv := true) (k := 263) (n := 3) (nx := 1675) rfl rfl (Nat.le_of_ble_eq_true rfl) (by simp [catS, Value.category]) rfl (Or.inr h)
set_option maxRecDepth 20000 in
theorem S_L_law_1675 : Ev T_L_law (some .boolean) xs Ln call 1675 [u0, u1, u2, u3] [.int i0, .int i1] w r = if i1 = i0 then Ev T_L_law (some .boolean) xs Ln call 1785 [u0, u1, u2, u3] [] w r else Ev T_L_law (some .boolean) xs Ln call 1678 [u0, u1, u2, u3] [] w r := Ev.ifc rfl (by exact iteB)
set_option maxRecDepth 20000 in
theorem S_L_law_1678 : Ev T_L_law (some .boolean) xs Ln call 1678 [u0, u1, u2, u3] [] w r = Ev T_L_law (some .boolean) xs Ln call 1679 [u0, u1, u2, u3] [.int 0] w r := Ev.nxt rfl rfl
set_option maxRecDepth 20000 in
theorem S_L_law_1679 (h : okR (some .boolean) (.int i0) = true) : Ev T_L_law (some .boolean) xs Ln call 1679 [u0, u1, u2, u3] [.int i0] w r = (r = (w, some (.int i0))) := Ev.rt rfl (by exact if_pos h)
set_option maxRecDepth 20000 in
theorem S_L_law_1680 (h : isRf z = true) : Ev T_L_law (some .boolean) xs Ln call 1680 [u0, some z, u2, u3] [] w r = Ev T_L_law (some .boolean) xs Ln call 1681 [u0, some z, u2, u3] [z] w r := Ev.nxt rfl (by exact (if_pos h))
set_option maxRecDepth 20000 in
theorem S_L_law_1681 (h : isRf z = true) : Ev T_L_law (some .boolean) xs Ln call 1681 [some z, u1, u2, u3] [v0] w r = Ev T_L_law (some .boolean) xs Ln call 1682 [some z, u1, u2, u3] [z, v0] w r := Ev.nxt rfl (by exact (if_pos h))
set_option maxRecDepth 20000 in
theorem S_L_law_1682 : Ev T_L_law (some .boolean) xs Ln call 1682 [u0, u1, u2, some (.int x)] [v0, v1] w r = Ev T_L_law (some .boolean) xs Ln call 1683 [u0, u1, u2, some (.int x)] [.int x, v0, v1] w r := Ev.nxt rfl rfl
set_option maxRecDepth 20000 in
theorem S_L_law_1683 : Ev T_L_law (some .boolean) xs Ln call 1683 [u0, u1, u2, u3] [.int i0, v1, v2] w r = Ev T_L_law (some .boolean) xs Ln call 1684 [u0, u1, u2, u3] [.int 1, .int i0, v1, v2] w r := Ev.nxt rfl rfl
set_option maxRecDepth 20000 in
theorem S_L_law_1684 : Ev T_L_law (some .boolean) xs Ln call 1684 [u0, u1, u2, u3] [.int i0, .int i1, v2, v3] w r = Ev T_L_law (some .boolean) xs Ln call 1685 [u0, u1, u2, u3] [.int (i1 + i0), v2, v3] w r := Ev.nxt rfl rfl
set_option maxRecDepth 20000 in
theorem S_L_law_1685 (hi : ¬ (i0 < 0 ∨ Ln ≤ i0.toNatClampNeg)) : Ev T_L_law (some .boolean) xs Ln call 1685 [u0, u1, u2, u3] [.int i0, .retAddr 0, v2] w r = Ev T_L_law (some .boolean) xs Ln call 1686 [u0, u1, u2, u3] [.int (xs i0.toNatClampNeg), v2] w r := Ev.nxt rfl (by exact (X_sld hi))
set_option maxRecDepth 20000 in
theorem S_L_law_1686 (h : isObj w k1 10 = true) : Ev T_L_law (some .boolean) xs Ln call 1686 [u0, u1, u2, u3] [.int i0, .ref k1] w r = aft T_L_law (some .boolean) xs Ln call 1689 [u0, u1, u2, u3] [] r (call 132 [.ref k1, .int i0] w) := Ev.cl (vv := true) (k := 132) (n := 2) (nx := 1689) rfl rfl (Nat.le_of_ble_eq_true rfl) (by simp [catS, Value.category]) rfl (Or.inr h)
set_option maxRecDepth 20000 in
theorem S_L_law_1689 (h : isRf z = true) : Ev T_L_law (some .boolean) xs Ln call 1689 [u0, u1, some z, u3] [.int i0] w r = Ev T_L_law (some .boolean) xs Ln call 1690 [u0, u1, some z, u3] [z, .int i0] w r := Ev.nxt rfl (by exact (if_pos h))
set_option maxRecDepth 20000 in
theorem S_L_law_1690 (h : isRf z = true) : Ev T_L_law (some .boolean) xs Ln call 1690 [some z, u1, u2, u3] [v0, .int i1] w r = Ev T_L_law (some .boolean) xs Ln call 1691 [some z, u1, u2, u3] [z, v0, .int i1] w r := Ev.nxt rfl (by exact (if_pos h))
set_option maxRecDepth 20000 in
theorem S_L_law_1691 : Ev T_L_law (some .boolean) xs Ln call 1691 [u0, u1, u2, some (.int x)] [v0, v1, .int i2] w r = Ev T_L_law (some .boolean) xs Ln call 1692 [u0, u1, u2, some (.int x)] [.int x, v0, v1, .int i2] w r := Ev.nxt rfl rfl
set_option maxRecDepth 20000 in
theorem S_L_law_1692 : Ev T_L_law (some .boolean) xs Ln call 1692 [u0, u1, u2, u3] [.int i0, v1, v2, .int i3] w r = Ev T_L_law (some .boolean) xs Ln call 1693 [u0, u1, u2, u3] [.int 1, .int i0, v1, v2, .int i3] w r := Ev.nxt rfl rfl
set_option maxRecDepth 20000 in
theorem S_L_law_1693 : Ev T_L_law (some .boolean) xs Ln call 1693 [u0, u1, u2, u3] [.int i0, .int i1, v2, v3, .int i4] w r = Ev T_L_law (some .boolean) xs Ln call 1694 [u0, u1, u2, u3] [.int (i1 + i0), v2, v3, .int i4] w r := Ev.nxt rfl rfl
set_option maxRecDepth 20000 in
theorem S_L_law_1694 (hi : ¬ (i0 < 0 ∨ Ln ≤ i0.toNatClampNeg)) : Ev T_L_law (some .boolean) xs Ln call 1694 [u0, u1, u2, u3] [.int i0, .retAddr 0, v2, .int i3] w r = Ev T_L_law (some .boolean) xs Ln call 1695 [u0, u1, u2, u3] [.int (xs i0.toNatClampNeg), v2, .int i3] w r := Ev.nxt rfl (by exact (X_sld hi))
set_option maxRecDepth 20000 in
theorem S_L_law_1695 (h : isObj w k1 11 = true) : Ev T_L_law (some .boolean) xs Ln call 1695 [u0, u1, u2, u3] [.int i0, .ref k1, .int i2] w r = aft T_L_law (some .boolean) xs Ln call 1698 [u0, u1, u2, u3] [.int i2] r (call 264 [.ref k1, .int i0] w) := Ev.cl (vv := true) (k := 264) (n := 2) (nx := 1698) rfl rfl (Nat.le_of_ble_eq_true rfl) (by simp [catS, Value.category]) rfl (Or.inr h)
set_option maxRecDepth 20000 in
theorem S_L_law_1698 : Ev T_L_law (some .boolean) xs Ln call 1698 [u0, u1, u2, u3] [.int i0, .int i1] w r = if i1 = i0 then Ev T_L_law (some .boolean) xs Ln call 1785 [u0, u1, u2, u3] [] w r else Ev T_L_law (some .boolean) xs Ln call 1701 [u0, u1, u2, u3] [] w r := Ev.ifc rfl (by exact iteB)
set_option maxRecDepth 20000 in
theorem S_L_law_1701 : Ev T_L_law (some .boolean) xs Ln call 1701 [u0, u1, u2, u3] [] w r = Ev T_L_law (some .boolean) xs Ln call 1702 [u0, u1, u2, u3] [.int 0] w r := Ev.nxt rfl rfl
set_option maxRecDepth 20000 in
theorem S_L_law_1702 (h : okR (some .boolean) (.int i0) = true) : Ev T_L_law (some .boolean) xs Ln call 1702 [u0, u1, u2, u3] [.int i0] w r = (r = (w, some (.int i0))) := Ev.rt rfl (by exact if_pos h)
set_option maxRecDepth 20000 in
theorem S_L_law_1703 (h : isRf z = true) : Ev T_L_law (some .boolean) xs Ln call 1703 [u0, some z, u2, u3] [] w r = Ev T_L_law (some .boolean) xs Ln call 1704 [u0, some z, u2, u3] [z] w r := Ev.nxt rfl (by exact (if_pos h))
set_option maxRecDepth 20000 in
theorem S_L_law_1704 (h : isRf z = true) : Ev T_L_law (some .boolean) xs Ln call 1704 [some z, u1, u2, u3] [v0] w r = Ev T_L_law (some .boolean) xs Ln call 1705 [some z, u1, u2, u3] [z, v0] w r := Ev.nxt rfl (by exact (if_pos h))
set_option maxRecDepth 20000 in
theorem S_L_law_1705 : Ev T_L_law (some .boolean) xs Ln call 1705 [u0, u1, u2, some (.int x)] [v0, v1] w r = Ev T_L_law (some .boolean) xs Ln call 1706 [u0, u1, u2, some (.int x)] [.int x, v0, v1] w r := Ev.nxt rfl rfl
set_option maxRecDepth 20000 in
theorem S_L_law_1706 : Ev T_L_law (some .boolean) xs Ln call 1706 [u0, u1, u2, u3] [.int i0, v1, v2] w r = Ev T_L_law (some .boolean) xs Ln call 1707 [u0, u1, u2, u3] [.int 1, .int i0, v1, v2] w r := Ev.nxt rfl rfl
set_option maxRecDepth 20000 in
theorem S_L_law_1707 : Ev T_L_law (some .boolean) xs Ln call 1707 [u0, u1, u2, u3] [.int i0, .int i1, v2, v3] w r = Ev T_L_law (some .boolean) xs Ln call 1708 [u0, u1, u2, u3] [.int (i1 + i0), v2, v3] w r := Ev.nxt rfl rfl
set_option maxRecDepth 20000 in
theorem S_L_law_1708 (hi : ¬ (i0 < 0 ∨ Ln ≤ i0.toNatClampNeg)) : Ev T_L_law (some .boolean) xs Ln call 1708 [u0, u1, u2, u3] [.int i0, .retAddr 0, v2] w r = Ev T_L_law (some .boolean) xs Ln call 1709 [u0, u1, u2, u3] [.int (xs i0.toNatClampNeg), v2] w r := Ev.nxt rfl (by exact (X_sld hi))
set_option maxRecDepth 20000 in
theorem S_L_law_1709 (h : isObj w k1 10 = true) : Ev T_L_law (some .boolean) xs Ln call 1709 [u0, u1, u2, u3] [.int i0, .ref k1] w r = aft T_L_law (some .boolean) xs Ln call 1712 [u0, u1, u2, u3] [] r (call 133 [.ref k1, .int i0] w) := Ev.cl (vv := true) (k := 133) (n := 2) (nx := 1712) rfl rfl (Nat.le_of_ble_eq_true rfl) (by simp [catS, Value.category]) rfl (Or.inr h)
set_option maxRecDepth 20000 in
theorem S_L_law_1712 (h : isRf z = true) : Ev T_L_law (some .boolean) xs Ln call 1712 [u0, u1, some z, u3] [.int i0] w r = Ev T_L_law (some .boolean) xs Ln call 1713 [u0, u1, some z, u3] [z, .int i0] w r := Ev.nxt rfl (by exact (if_pos h))
set_option maxRecDepth 20000 in
theorem S_L_law_1713 (h : isRf z = true) : Ev T_L_law (some .boolean) xs Ln call 1713 [some z, u1, u2, u3] [v0, .int i1] w r = Ev T_L_law (some .boolean) xs Ln call 1714 [some z, u1, u2, u3] [z, v0, .int i1] w r := Ev.nxt rfl (by exact (if_pos h))
set_option maxRecDepth 20000 in
theorem S_L_law_1714 : Ev T_L_law (some .boolean) xs Ln call 1714 [u0, u1, u2, some (.int x)] [v0, v1, .int i2] w r = Ev T_L_law (some .boolean) xs Ln call 1715 [u0, u1, u2, some (.int x)] [.int x, v0, v1, .int i2] w r := Ev.nxt rfl rfl
set_option maxRecDepth 20000 in
theorem S_L_law_1715 : Ev T_L_law (some .boolean) xs Ln call 1715 [u0, u1, u2, u3] [.int i0, v1, v2, .int i3] w r = Ev T_L_law (some .boolean) xs Ln call 1716 [u0, u1, u2, u3] [.int 1, .int i0, v1, v2, .int i3] w r := Ev.nxt rfl rfl
set_option maxRecDepth 20000 in
theorem S_L_law_1716 : Ev T_L_law (some .boolean) xs Ln call 1716 [u0, u1, u2, u3] [.int i0, .int i1, v2, v3, .int i4] w r = Ev T_L_law (some .boolean) xs Ln call 1717 [u0, u1, u2, u3] [.int (i1 + i0), v2, v3, .int i4] w r := Ev.nxt rfl rfl
set_option maxRecDepth 20000 in
theorem S_L_law_1717 (hi : ¬ (i0 < 0 ∨ Ln ≤ i0.toNatClampNeg)) : Ev T_L_law (some .boolean) xs Ln call 1717 [u0, u1, u2, u3] [.int i0, .retAddr 0, v2, .int i3] w r = Ev T_L_law (some .boolean) xs Ln call 1718 [u0, u1, u2, u3] [.int (xs i0.toNatClampNeg), v2, .int i3] w r := Ev.nxt rfl (by exact (X_sld hi))
set_option maxRecDepth 20000 in
theorem S_L_law_1718 (h : isObj w k1 11 = true) : Ev T_L_law (some .boolean) xs Ln call 1718 [u0, u1, u2, u3] [.int i0, .ref k1, .int i2] w r = aft T_L_law (some .boolean) xs Ln call 1721 [u0, u1, u2, u3] [.int i2] r (call 160 [.ref k1, .int i0] w) := Ev.cl (vv := true) (k := 160) (n := 2) (nx := 1721) rfl rfl (Nat.le_of_ble_eq_true rfl) (by simp [catS, Value.category]) rfl (Or.inr h)
set_option maxRecDepth 20000 in
theorem S_L_law_1721 : Ev T_L_law (some .boolean) xs Ln call 1721 [u0, u1, u2, u3] [.int i0, .int i1] w r = if i1 = i0 then Ev T_L_law (some .boolean) xs Ln call 1785 [u0, u1, u2, u3] [] w r else Ev T_L_law (some .boolean) xs Ln call 1724 [u0, u1, u2, u3] [] w r := Ev.ifc rfl (by exact iteB)
set_option maxRecDepth 20000 in
theorem S_L_law_1724 : Ev T_L_law (some .boolean) xs Ln call 1724 [u0, u1, u2, u3] [] w r = Ev T_L_law (some .boolean) xs Ln call 1725 [u0, u1, u2, u3] [.int 0] w r := Ev.nxt rfl rfl
set_option maxRecDepth 20000 in
theorem S_L_law_1725 (h : okR (some .boolean) (.int i0) = true) : Ev T_L_law (some .boolean) xs Ln call 1725 [u0, u1, u2, u3] [.int i0] w r = (r = (w, some (.int i0))) := Ev.rt rfl (by exact if_pos h)
set_option maxRecDepth 20000 in
theorem S_L_law_1726 (h : isRf z = true) : Ev T_L_law (some .boolean) xs Ln call 1726 [u0, some z, u2, u3] [] w r = Ev T_L_law (some .boolean) xs Ln call 1727 [u0, some z, u2, u3] [z] w r := Ev.nxt rfl (by exact (if_pos h))
set_option maxRecDepth 20000 in
theorem S_L_law_1727 (h : isRf z = true) : Ev T_L_law (some .boolean) xs Ln call 1727 [some z, u1, u2, u3] [v0] w r = Ev T_L_law (some .boolean) xs Ln call 1728 [some z, u1, u2, u3] [z, v0] w r := Ev.nxt rfl (by exact (if_pos h))
set_option maxRecDepth 20000 in
theorem S_L_law_1728 : Ev T_L_law (some .boolean) xs Ln call 1728 [u0, u1, u2, some (.int x)] [v0, v1] w r = Ev T_L_law (some .boolean) xs Ln call 1729 [u0, u1, u2, some (.int x)] [.int x, v0, v1] w r := Ev.nxt rfl rfl
set_option maxRecDepth 20000 in
theorem S_L_law_1729 : Ev T_L_law (some .boolean) xs Ln call 1729 [u0, u1, u2, u3] [.int i0, v1, v2] w r = Ev T_L_law (some .boolean) xs Ln call 1730 [u0, u1, u2, u3] [.int 1, .int i0, v1, v2] w r := Ev.nxt rfl rfl
set_option maxRecDepth 20000 in
theorem S_L_law_1730 : Ev T_L_law (some .boolean) xs Ln call 1730 [u0, u1, u2, u3] [.int i0, .int i1, v2, v3] w r = Ev T_L_law (some .boolean) xs Ln call 1731 [u0, u1, u2, u3] [.int (i1 + i0), v2, v3] w r := Ev.nxt rfl rfl
set_option maxRecDepth 20000 in
theorem S_L_law_1731 (hi : ¬ (i0 < 0 ∨ Ln ≤ i0.toNatClampNeg)) : Ev T_L_law (some .boolean) xs Ln call 1731 [u0, u1, u2, u3] [.int i0, .retAddr 0, v2] w r = Ev T_L_law (some .boolean) xs Ln call 1732 [u0, u1, u2, u3] [.int (xs i0.toNatClampNeg), v2] w r := Ev.nxt rfl (by exact (X_sld hi))
set_option maxRecDepth 20000 in
theorem S_L_law_1732 (h : isObj w k1 10 = true) : Ev T_L_law (some .boolean) xs Ln call 1732 [u0, u1, u2, u3] [.int i0, .ref k1] w r = aft T_L_law (some .boolean) xs Ln call 1735 [u0, u1, u2, u3] [] r (call 134 [.ref k1, .int i0] w) := Ev.cl (vv := true) (k := 134) (n := 2) (nx := 1735) rfl rfl (Nat.le_of_ble_eq_true rfl) (by simp [catS, Value.category]) rfl (Or.inr h)
set_option maxRecDepth 20000 in
theorem S_L_law_1735 (h : isRf z = true) : Ev T_L_law (some .boolean) xs Ln call 1735 [u0, u1, some z, u3] [.int i0] w r = Ev T_L_law (some .boolean) xs Ln call 1736 [u0, u1, some z, u3] [z, .int i0] w r := Ev.nxt rfl (by exact (if_pos h))
set_option maxRecDepth 20000 in
theorem S_L_law_1736 (h : isRf z = true) : Ev T_L_law (some .boolean) xs Ln call 1736 [some z, u1, u2, u3] [v0, .int i1] w r = Ev T_L_law (some .boolean) xs Ln call 1737 [some z, u1, u2, u3] [z, v0, .int i1] w r := Ev.nxt rfl (by exact (if_pos h))
set_option maxRecDepth 20000 in
theorem S_L_law_1737 : Ev T_L_law (some .boolean) xs Ln call 1737 [u0, u1, u2, some (.int x)] [v0, v1, .int i2] w r = Ev T_L_law (some .boolean) xs Ln call 1738 [u0, u1, u2, some (.int x)] [.int x, v0, v1, .int i2] w r := Ev.nxt rfl rfl
set_option maxRecDepth 20000 in
theorem S_L_law_1738 : Ev T_L_law (some .boolean) xs Ln call 1738 [u0, u1, u2, u3] [.int i0, v1, v2, .int i3] w r = Ev T_L_law (some .boolean) xs Ln call 1739 [u0, u1, u2, u3] [.int 1, .int i0, v1, v2, .int i3] w r := Ev.nxt rfl rfl
set_option maxRecDepth 20000 in
theorem S_L_law_1739 : Ev T_L_law (some .boolean) xs Ln call 1739 [u0, u1, u2, u3] [.int i0, .int i1, v2, v3, .int i4] w r = Ev T_L_law (some .boolean) xs Ln call 1740 [u0, u1, u2, u3] [.int (i1 + i0), v2, v3, .int i4] w r := Ev.nxt rfl rfl
set_option maxRecDepth 20000 in
theorem S_L_law_1740 (hi : ¬ (i0 < 0 ∨ Ln ≤ i0.toNatClampNeg)) : Ev T_L_law (some .boolean) xs Ln call 1740 [u0, u1, u2, u3] [.int i0, .retAddr 0, v2, .int i3] w r = Ev T_L_law (some .boolean) xs Ln call 1741 [u0, u1, u2, u3] [.int (xs i0.toNatClampNeg), v2, .int i3] w r := Ev.nxt rfl (by exact (X_sld hi))
set_option maxRecDepth 20000 in
theorem S_L_law_1741 (h : isObj w k1 11 = true) : Ev T_L_law (some .boolean) xs Ln call 1741 [u0, u1, u2, u3] [.int i0, .ref k1, .int i2] w r = aft T_L_law (some .boolean) xs Ln call 1744 [u0, u1, u2, u3] [.int i2] r (call 161 [.ref k1, .int i0] w) := Ev.cl (vv := true) (k := 161) (n := 2) (nx := 1744) rfl rfl (Nat.le_of_ble_eq_true rfl) (by simp [catS, Value.category]) rfl (Or.inr h)
set_option maxRecDepth 20000 in
theorem S_L_law_1744 : Ev T_L_law (some .boolean) xs Ln call 1744 [u0, u1, u2, u3] [.int i0, .int i1] w r = if i1 = i0 then Ev T_L_law (some .boolean) xs Ln call 1785 [u0, u1, u2, u3] [] w r else Ev T_L_law (some .boolean) xs Ln call 1747 [u0, u1, u2, u3] [] w r := Ev.ifc rfl (by exact iteB)
set_option maxRecDepth 20000 in
theorem S_L_law_1747 : Ev T_L_law (some .boolean) xs Ln call 1747 [u0, u1, u2, u3] [] w r = Ev T_L_law (some .boolean) xs Ln call 1748 [u0, u1, u2, u3] [.int 0] w r := Ev.nxt rfl rfl
set_option maxRecDepth 20000 in
theorem S_L_law_1748 (h : okR (some .boolean) (.int i0) = true) : Ev T_L_law (some .boolean) xs Ln call 1748 [u0, u1, u2, u3] [.int i0] w r = (r = (w, some (.int i0))) := Ev.rt rfl (by exact if_pos h)
set_option maxRecDepth 20000 in
theorem S_L_law_1749 (h : isRf z = true) : Ev T_L_law (some .boolean) xs Ln call 1749 [u0, some z, u2, u3] [] w r = Ev T_L_law (some .boolean) xs Ln call 1750 [u0, some z, u2, u3] [z] w r := Ev.nxt rfl (by exact (if_pos h))
set_option maxRecDepth 20000 in
theorem S_L_law_1750 (h : isRf z = true) : Ev T_L_law (some .boolean) xs Ln call 1750 [some z, u1, u2, u3] [v0] w r = Ev T_L_law (some .boolean) xs Ln call 1751 [some z, u1, u2, u3] [z, v0] w r := Ev.nxt rfl (by exact (if_pos h))
set_option maxRecDepth 20000 in
theorem S_L_law_1751 : Ev T_L_law (some .boolean) xs Ln call 1751 [u0, u1, u2, some (.int x)] [v0, v1] w r = Ev T_L_law (some .boolean) xs Ln call 1752 [u0, u1, u2, some (.int x)] [.int x, v0, v1] w r := Ev.nxt rfl rfl
set_option maxRecDepth 20000 in
theorem S_L_law_1752 : Ev T_L_law (some .boolean) xs Ln call 1752 [u0, u1, u2, u3] [.int i0, v1, v2] w r = Ev T_L_law (some .boolean) xs Ln call 1753 [u0, u1, u2, u3] [.int 1, .int i0, v1, v2] w r := Ev.nxt rfl rfl
set_option maxRecDepth 20000 in
theorem S_L_law_1753 : Ev T_L_law (some .boolean) xs Ln call 1753 [u0, u1, u2, u3] [.int i0, .int i1, v2, v3] w r = Ev T_L_law (some .boolean) xs Ln call 1754 [u0, u1, u2, u3] [.int (i1 + i0), v2, v3] w r := Ev.nxt rfl rfl
set_option maxRecDepth 20000 in
theorem S_L_law_1754 (hi : ¬ (i0 < 0 ∨ Ln ≤ i0.toNatClampNeg)) : Ev T_L_law (some .boolean) xs Ln call 1754 [u0, u1, u2, u3] [.int i0, .retAddr 0, v2] w r = Ev T_L_law (some .boolean) xs Ln call 1755 [u0, u1, u2, u3] [.int (xs i0.toNatClampNeg), v2] w r := Ev.nxt rfl (by exact (X_sld hi))
set_option maxRecDepth 20000 in
theorem S_L_law_1755 (h : isObj w k1 10 = true) : Ev T_L_law (some .boolean) xs Ln call 1755 [u0, u1, u2, u3] [.int i0, .ref k1] w r = aft T_L_law (some .boolean) xs Ln call 1758 [u0, u1, u2, u3] [] r (call 135 [.ref k1, .int i0] w) := Ev.cl (vv := true) (k := 135) (n := 2) (nx := 1758) rfl rfl (Nat.le_of_ble_eq_true rfl) (by simp [catS, Value.category]) rfl (Or.inr h)
set_option maxRecDepth 20000 in
theorem S_L_law_1758 (h : isRf z = true) : Ev T_L_law (some .boolean) xs Ln call 1758 [u0, u1, some z, u3] [.int i0] w r = Ev T_L_law (some .boolean) xs Ln call 1759 [u0, u1, some z, u3] [z, .int i0] w r := Ev.nxt rfl (by exact (if_pos h))
set_option maxRecDepth 20000 in
theorem S_L_law_1759 (h : isRf z = true) : Ev T_L_law (some .boolean) xs Ln call 1759 [some z, u1, u2, u3] [v0, .int i1] w r = Ev T_L_law (some .boolean) xs Ln call 1760 [some z, u1, u2, u3] [z, v0, .int i1] w r := Ev.nxt rfl (by exact (if_pos h))
set_option maxRecDepth 20000 in
theorem S_L_law_1760 : Ev T_L_law (some .boolean) xs Ln call 1760 [u0, u1, u2, some (.int x)] [v0, v1, .int i2] w r = Ev T_L_law (some .boolean) xs Ln call 1761 [u0, u1, u2, some (.int x)] [.int x, v0, v1, .int i2] w r := Ev.nxt rfl rfl
set_option maxRecDepth 20000 in
theorem S_L_law_1761 : Ev T_L_law (some .boolean) xs Ln call 1761 [u0, u1, u2, u3] [.int i0, v1, v2, .int i3] w r = Ev T_L_law (some .boolean) xs Ln call 1762 [u0, u1, u2, u3] [.int 1, .int i0, v1, v2, .int i3] w r := Ev.nxt rfl rfl
set_option maxRecDepth 20000 in
theorem S_L_law_1762 : Ev T_L_law (some .boolean) xs Ln call 1762 [u0, u1, u2, u3] [.int i0, .int i1, v2, v3, .int i4] w r = Ev T_L_law (some .boolean) xs Ln call 1763 [u0, u1, u2, u3] [.int (i1 + i0), v2, v3, .int i4] w r := Ev.nxt rfl rfl
set_option maxRecDepth 20000 in
theorem S_L_law_1763 (hi : ¬ (i0 < 0 ∨ Ln ≤ i0.toNatClampNeg)) : Ev T_L_law (some .boolean) xs Ln call 1763 [u0, u1, u2, u3] [.int i0, .retAddr 0, v2, .int i3] w r = Ev T_L_law (some .boolean) xs Ln call 1764 [u0, u1, u2, u3] [.int (xs i0.toNatClampNeg), v2, .int i3] w r := Ev.nxt rfl (by exact (X_sld hi))
set_option maxRecDepth 20000 in
theorem S_L_law_1764 (h : isObj w k1 11 = true) : Ev T_L_law (some .boolean) xs Ln call 1764 [u0, u1, u2, u3] [.int i0, .ref k1, .int i2] w r = aft T_L_law (some .boolean) xs Ln call 1767 [u0, u1, u2, u3] [.int i2] r (call 265 [.ref k1, .int i0] w) := Ev.cl (vv := true) (k := 265) (n := 2) (nx := 1767) rfl rfl (Nat.le_of_ble_eq_true rfl) (by simp [catS, Value.category]) rfl (Or.inr h)
set_option maxRecDepth 20000 in
theorem S_L_law_1767 : Ev T_L_law (some .boolean) xs Ln call 1767 [u0, u1, u2, u3] [.int i0, .int i1] w r = if i1 = i0 then Ev T_L_law (some .boolean) xs Ln call 1785 [u0, u1, u2, u3] [] w r else Ev T_L_law (some .boolean) xs Ln call 1770 [u0, u1, u2, u3] [] w r := Ev.ifc rfl (by exact iteB)
set_option maxRecDepth 20000 in
theorem S_L_law_1770 : Ev T_L_law (some .boolean) xs Ln call 1770 [u0, u1, u2, u3] [] w r = Ev T_L_law (some .boolean) xs Ln call 1771 [u0, u1, u2, u3] [.int 0] w r := Ev.nxt rfl rfl
set_option maxRecDepth 20000 in
theorem S_L_law_1771 (h : okR (some .boolean) (.int i0) = true) : Ev T_L_law (some .boolean) xs Ln call 1771 [u0, u1, u2, u3] [.int i0] w r = (r = (w, some (.int i0))) := Ev.rt rfl (by exact if_pos h)
set_option maxRecDepth 20000 in
theorem S_L_law_1772 (h : isRf z = true) : Ev T_L_law (some .boolean) xs Ln call 1772 [u0, some z, u2, u3] [] w r = Ev T_L_law (some .boolean) xs Ln call 1773 [u0, some z, u2, u3] [z] w r := Ev.nxt rfl (by exact (if_pos h))
set_option maxRecDepth 20000 in
theorem S_L_law_1773 (h : isObj w k0 10 = true) : Ev T_L_law (some .boolean) xs Ln call 1773 [u0, u1, u2, u3] [.ref k0] w r = aft T_L_law (some .boolean) xs Ln call 1776 [u0, u1, u2, u3] [] r (call 136 [.ref k0] w) := Ev.cl (vv := true) (k := 136) (n := 1) (nx := 1776) rfl rfl (Nat.le_of_ble_eq_true rfl) (by simp [catS, Value.category]) rfl (Or.inr h)
set_option maxRecDepth 20000 in
theorem S_L_law_1776 (h : isRf z = true) : Ev T_L_law (some .boolean) xs Ln call 1776 [u0, u1, some z, u3] [.int i0] w r = Ev T_L_law (some .boolean) xs Ln call 1777 [u0, u1, some z, u3] [z, .int i0] w r := Ev.nxt rfl (by exact (if_pos h))
set_option maxRecDepth 20000 in
theorem S_L_law_1777 (h : isObj w k0 11 = true) : Ev T_L_law (some .boolean) xs Ln call 1777 [u0, u1, u2, u3] [.ref k0, .int i1] w r = aft T_L_law (some .boolean) xs Ln call 1780 [u0, u1, u2, u3] [.int i1] r (call 266 [.ref k0] w) := Ev.cl (vv := true) (k := 266) (n := 1) (nx := 1780) rfl rfl (Nat.le_of_ble_eq_true rfl) (by simp [catS, Value.category]) rfl (Or.inr h)
set_option maxRecDepth 20000 in
theorem S_L_law_1780 : Ev T_L_law (some .boolean) xs Ln call 1780 [u0, u1, u2, u3] [.int i0, .int i1] w r = if i1 = i0 then Ev T_L_law (some .boolean) xs Ln call 1785 [u0, u1, u2, u3] [] w r else Ev T_L_law (some .boolean) xs Ln call 1783 [u0, u1, u2, u3] [] w r := Ev.ifc rfl (by exact iteB)
set_option maxRecDepth 20000 in
theorem S_L_law_1783 : Ev T_L_law (some .boolean) xs Ln call 1783 [u0, u1, u2, u3] [] w r = Ev T_L_law (some .boolean) xs Ln call 1784 [u0, u1, u2, u3] [.int 0] w r := Ev.nxt rfl rfl
set_option maxRecDepth 20000 in
theorem S_L_law_1784 (h : okR (some .boolean) (.int i0) = true) : Ev T_L_law (some .boolean) xs Ln call 1784 [u0, u1, u2, u3] [.int i0] w r = (r = (w, some (.int i0))) := Ev.rt rfl (by exact if_pos h)
set_option maxRecDepth 20000 in
theorem S_L_law_1785 (h : c1 u2 = true) : Ev T_L_law (some .boolean) xs Ln call 1785 [u0, u1, u2, some (.int x)] [] w r = Ev T_L_law (some .boolean) xs Ln call 1788 [u0, u1, u2, some (.int (x + 6))] [] w r := Ev.nxt rfl (by exact (X_iinc rfl (Nat.le_of_ble_eq_true rfl) (lset_c1 (i := 2) (u := u2) rfl h)))
set_option maxRecDepth 20000 in
theorem S_L_law_1788 : Ev T_L_law (some .boolean) xs Ln call 1788 [u0, u1, u2, u3] [] w r = Ev T_L_law (some .boolean) xs Ln call 18 [u0, u1, u2, u3] [] w r := Ev.nxt rfl rfl
set_option maxRecDepth 20000 in
theorem S_L_law_1791 : Ev T_L_law (some .boolean) xs Ln call 1791 [u0, u1, u2, u3] [] w r = Ev T_L_law (some .boolean) xs Ln call 1792 [u0, u1, u2, u3] [.int 1] w r := Ev.nxt rfl rfl
set_option maxRecDepth 20000 in
theorem S_L_law_1792 (h : okR (some .boolean) (.int i0) = true) : Ev T_L_law (some .boolean) xs Ln call 1792 [u0, u1, u2, u3] [.int i0] w r = (r = (w, some (.int i0))) := Ev.rt rfl (by exact if_pos h)
end SL
