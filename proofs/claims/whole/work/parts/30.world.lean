/-! The world behind the two constructors: 103 cells whose shapes, and whose references (but for those that grow), stay. -/
abbrev Dyn : Type := Nat × Nat × (Nat → Sh) × (Nat → Nat → Option Nat)
def sh0 (k : Nat) : Sh := match k with
  | 0 => .inr 10
  | 1 => .inr 4
  | 2 => .inl (.int, 12)
  | 3 => .inl (.int, 8)
  | 4 => .inl (.int, 8)
  | 5 => .inl (.int, 96)
  | 6 => .inl (.int, 16)
  | 7 => .inl (.int, 60)
  | 8 => .inl (.int, 12)
  | 9 => .inl (.int, 12)
  | 10 => .inl (.object RX1, 6)
  | 11 => .inr 7
  | 12 => .inl (.int, 200)
  | 13 => .inl (.int, 200)
  | 14 => .inr 8
  | 15 => .inl (.int, 400)
  | 16 => .inr 2
  | 17 => .inr 9
  | 18 => .inl (.int, 401)
  | 19 => .inl (.int, 401)
  | 20 => .inl (.int, 401)
  | 21 => .inl (.int, 800)
  | 22 => .inl (.int, 48)
  | 23 => .inr 5
  | 24 => .inl (.int, 7)
  | 25 => .inl (.int, 16384)
  | 26 => .inl (.int, 16)
  | 27 => .inl (.int, 8)
  | 28 => .inl (.int, 8)
  | 29 => .inr 6
  | 30 => .inl (.int, 16)
  | 31 => .inl (.int, 16)
  | 32 => .inl (.int, 16)
  | 33 => .inl (.int, 16)
  | 34 => .inr 3
  | 35 => .inl (.int, 4)
  | 36 => .inl (.int, 16)
  | 37 => .inl (.int, 16)
  | 38 => .inl (.int, 16)
  | 39 => .inl (.int, 16)
  | 40 => .inl (.int, 16)
  | 41 => .inl (.int, 128)
  | 42 => .inr 3
  | 43 => .inl (.int, 4)
  | 44 => .inl (.int, 16)
  | 45 => .inl (.int, 16)
  | 46 => .inl (.int, 16)
  | 47 => .inl (.int, 16)
  | 48 => .inl (.int, 16)
  | 49 => .inl (.int, 128)
  | 50 => .inr 0
  | 51 => .inl (.int, 12)
  | 52 => .inl (.object RX4, 2)
  | 53 => .inr 4
  | 54 => .inl (.int, 12)
  | 55 => .inl (.int, 8)
  | 56 => .inl (.int, 8)
  | 57 => .inl (.int, 96)
  | 58 => .inl (.int, 16)
  | 59 => .inl (.int, 60)
  | 60 => .inl (.int, 12)
  | 61 => .inl (.int, 12)
  | 62 => .inl (.object RX1, 6)
  | 63 => .inr 7
  | 64 => .inl (.int, 200)
  | 65 => .inl (.int, 200)
  | 66 => .inr 4
  | 67 => .inl (.int, 12)
  | 68 => .inl (.int, 8)
  | 69 => .inl (.int, 8)
  | 70 => .inl (.int, 96)
  | 71 => .inl (.int, 16)
  | 72 => .inl (.int, 60)
  | 73 => .inl (.int, 12)
  | 74 => .inl (.int, 12)
  | 75 => .inl (.object RX1, 6)
  | 76 => .inr 7
  | 77 => .inl (.int, 200)
  | 78 => .inl (.int, 200)
  | 79 => .inl (.boolean, 2)
  | 80 => .inl (.int, 7)
  | 81 => .inl (.int, 128)
  | 82 => .inr 11
  | 83 => .inl (.int, 7)
  | 84 => .inl (.int, 9134)
  | 85 => .inl (.int, 18268)
  | 86 => .inl (.boolean, 2)
  | 87 => .inl (.byte, 66)
  | 88 => .inl (.byte, 400)
  | 89 => .inl (.int, 5)
  | 90 => .inl (.int, 401)
  | 91 => .inl (.int, 401)
  | 92 => .inl (.int, 401)
  | 93 => .inl (.int, 7)
  | 94 => .inl (.int, 1536)
  | 95 => .inl (.boolean, 64)
  | 96 => .inl (.int, 32768)
  | 97 => .inl (.int, 32768)
  | 98 => .inl (.int, 32768)
  | 99 => .inl (.boolean, 32768)
  | 100 => .inl (.int, 32768)
  | 101 => .inl (.int, 32768)
  | 102 => .inl (.int, 12)
  | _ => .inr 99
def p0 (k j : Nat) : Option Nat := match k, j with
  | 0, 0 => some 1
  | 0, 1 => some 14
  | 0, 2 => some 16
  | 0, 3 => some 23
  | 0, 4 => some 29
  | 0, 5 => some 34
  | 0, 6 => some 42
  | 0, 7 => some 50
  | 0, 8 => some 52
  | 0, 9 => some 79
  | 0, 10 => some 80
  | 0, 11 => some 81
  | 1, 7 => some 2
  | 1, 8 => some 3
  | 1, 9 => some 4
  | 1, 10 => some 5
  | 1, 11 => some 6
  | 1, 12 => some 7
  | 1, 13 => some 8
  | 1, 14 => some 9
  | 1, 15 => some 10
  | 1, 16 => some 11
  | 11, 2 => some 12
  | 11, 3 => some 13
  | 14, 1 => some 15
  | 16, 0 => some 17
  | 16, 3 => some 21
  | 16, 4 => some 22
  | 17, 2 => some 18
  | 17, 3 => some 19
  | 17, 4 => some 20
  | 23, 1 => some 1
  | 23, 2 => some 24
  | 23, 3 => some 25
  | 23, 4 => some 26
  | 23, 5 => some 27
  | 23, 6 => some 28
  | 29, 9 => some 23
  | 34, 7 => some 23
  | 34, 8 => some 35
  | 42, 7 => some 23
  | 42, 8 => some 43
  | 50, 3 => some 51
  | 52, 0 => some 53
  | 52, 1 => some 66
  | 53, 7 => some 54
  | 53, 8 => some 55
  | 53, 9 => some 56
  | 53, 10 => some 57
  | 53, 11 => some 58
  | 53, 12 => some 59
  | 53, 13 => some 60
  | 53, 14 => some 61
  | 53, 15 => some 62
  | 53, 16 => some 63
  | 63, 2 => some 64
  | 63, 3 => some 65
  | 66, 7 => some 67
  | 66, 8 => some 68
  | 66, 9 => some 69
  | 66, 10 => some 70
  | 66, 11 => some 71
  | 66, 12 => some 72
  | 66, 13 => some 73
  | 66, 14 => some 74
  | 66, 15 => some 75
  | 66, 16 => some 76
  | 76, 2 => some 77
  | 76, 3 => some 78
  | 82, 2 => some 83
  | 82, 3 => some 84
  | 82, 4 => some 85
  | 82, 5 => some 86
  | 82, 7 => some 87
  | 82, 8 => some 88
  | 82, 9 => some 89
  | 82, 12 => some 90
  | 82, 13 => some 91
  | 82, 14 => some 92
  | 82, 22 => some 93
  | 82, 25 => some 94
  | 82, 26 => some 95
  | 82, 30 => some 96
  | 82, 31 => some 97
  | 82, 32 => some 98
  | 82, 33 => some 99
  | 82, 37 => some 100
  | 82, 38 => some 101
  | 82, 40 => some 102
  | _, _ => none
def shF (d : Dyn) (k : Nat) : Sh := if k < 103 then sh0 k else d.2.2.1 k
def pF (d : Dyn) (k j : Nat) : Option Nat := match p0 k j with
  | some q => some q
  | none => d.2.2.2 k j
def mkW (d : Dyn) (I : Nat → Nat → Int32) (L : Nat → Nat → Int64) : Om := (103 + d.1, d.2.1, shF d, I, L, pF d)
section WF
variable {d : Dyn} {I I' : Nat → Nat → Int32} {L L' : Nat → Nat → Int64}
theorem w_I : oI (mkW d I L) = I := id rfl
theorem w_L : oL (mkW d I L) = L := id rfl
theorem w_f : ((oN (mkW d I L), oS (mkW d I L), oH (mkW d I L), I', L', oP (mkW d I L)) : Om) = mkW d I' L' := id rfl
theorem w_o0 : isObj (mkW d I L) 0 10 = true := id rfl
theorem w_p0_0 : oP (mkW d I L) 0 0 = some 1 := id rfl
theorem w_p0_1 : oP (mkW d I L) 0 1 = some 14 := id rfl
theorem w_p0_2 : oP (mkW d I L) 0 2 = some 16 := id rfl
theorem w_p0_3 : oP (mkW d I L) 0 3 = some 23 := id rfl
theorem w_p0_4 : oP (mkW d I L) 0 4 = some 29 := id rfl
theorem w_p0_5 : oP (mkW d I L) 0 5 = some 34 := id rfl
theorem w_p0_6 : oP (mkW d I L) 0 6 = some 42 := id rfl
theorem w_p0_7 : oP (mkW d I L) 0 7 = some 50 := id rfl
theorem w_p0_8 : oP (mkW d I L) 0 8 = some 52 := id rfl
theorem w_p0_9 : oP (mkW d I L) 0 9 = some 79 := id rfl
theorem w_p0_10 : oP (mkW d I L) 0 10 = some 80 := id rfl
theorem w_p0_11 : oP (mkW d I L) 0 11 = some 81 := id rfl
theorem w_o1 : isObj (mkW d I L) 1 4 = true := id rfl
theorem w_p1_7 : oP (mkW d I L) 1 7 = some 2 := id rfl
theorem w_p1_8 : oP (mkW d I L) 1 8 = some 3 := id rfl
theorem w_p1_9 : oP (mkW d I L) 1 9 = some 4 := id rfl
theorem w_p1_10 : oP (mkW d I L) 1 10 = some 5 := id rfl
theorem w_p1_11 : oP (mkW d I L) 1 11 = some 6 := id rfl
theorem w_p1_12 : oP (mkW d I L) 1 12 = some 7 := id rfl
theorem w_p1_13 : oP (mkW d I L) 1 13 = some 8 := id rfl
theorem w_p1_14 : oP (mkW d I L) 1 14 = some 9 := id rfl
theorem w_p1_15 : oP (mkW d I L) 1 15 = some 10 := id rfl
theorem w_p1_16 : oP (mkW d I L) 1 16 = some 11 := id rfl
theorem w_h2 : oH (mkW d I L) 2 = .inl (.int, 12) := id rfl
theorem w_h3 : oH (mkW d I L) 3 = .inl (.int, 8) := id rfl
theorem w_h4 : oH (mkW d I L) 4 = .inl (.int, 8) := id rfl
theorem w_h5 : oH (mkW d I L) 5 = .inl (.int, 96) := id rfl
theorem w_h6 : oH (mkW d I L) 6 = .inl (.int, 16) := id rfl
theorem w_h7 : oH (mkW d I L) 7 = .inl (.int, 60) := id rfl
theorem w_h8 : oH (mkW d I L) 8 = .inl (.int, 12) := id rfl
theorem w_h9 : oH (mkW d I L) 9 = .inl (.int, 12) := id rfl
theorem w_h10 : oH (mkW d I L) 10 = .inl (.object RX1, 6) := id rfl
theorem w_o11 : isObj (mkW d I L) 11 7 = true := id rfl
theorem w_p11_2 : oP (mkW d I L) 11 2 = some 12 := id rfl
theorem w_p11_3 : oP (mkW d I L) 11 3 = some 13 := id rfl
theorem w_h12 : oH (mkW d I L) 12 = .inl (.int, 200) := id rfl
theorem w_h13 : oH (mkW d I L) 13 = .inl (.int, 200) := id rfl
theorem w_o14 : isObj (mkW d I L) 14 8 = true := id rfl
theorem w_p14_1 : oP (mkW d I L) 14 1 = some 15 := id rfl
theorem w_h15 : oH (mkW d I L) 15 = .inl (.int, 400) := id rfl
theorem w_o16 : isObj (mkW d I L) 16 2 = true := id rfl
theorem w_p16_0 : oP (mkW d I L) 16 0 = some 17 := id rfl
theorem w_p16_3 : oP (mkW d I L) 16 3 = some 21 := id rfl
theorem w_p16_4 : oP (mkW d I L) 16 4 = some 22 := id rfl
theorem w_o17 : isObj (mkW d I L) 17 9 = true := id rfl
theorem w_p17_2 : oP (mkW d I L) 17 2 = some 18 := id rfl
theorem w_p17_3 : oP (mkW d I L) 17 3 = some 19 := id rfl
theorem w_p17_4 : oP (mkW d I L) 17 4 = some 20 := id rfl
theorem w_h18 : oH (mkW d I L) 18 = .inl (.int, 401) := id rfl
theorem w_h19 : oH (mkW d I L) 19 = .inl (.int, 401) := id rfl
theorem w_h20 : oH (mkW d I L) 20 = .inl (.int, 401) := id rfl
theorem w_h21 : oH (mkW d I L) 21 = .inl (.int, 800) := id rfl
theorem w_h22 : oH (mkW d I L) 22 = .inl (.int, 48) := id rfl
theorem w_o23 : isObj (mkW d I L) 23 5 = true := id rfl
theorem w_p23_1 : oP (mkW d I L) 23 1 = some 1 := id rfl
theorem w_p23_2 : oP (mkW d I L) 23 2 = some 24 := id rfl
theorem w_p23_3 : oP (mkW d I L) 23 3 = some 25 := id rfl
theorem w_p23_4 : oP (mkW d I L) 23 4 = some 26 := id rfl
theorem w_p23_5 : oP (mkW d I L) 23 5 = some 27 := id rfl
theorem w_p23_6 : oP (mkW d I L) 23 6 = some 28 := id rfl
theorem w_h24 : oH (mkW d I L) 24 = .inl (.int, 7) := id rfl
theorem w_h25 : oH (mkW d I L) 25 = .inl (.int, 16384) := id rfl
theorem w_h26 : oH (mkW d I L) 26 = .inl (.int, 16) := id rfl
theorem w_h27 : oH (mkW d I L) 27 = .inl (.int, 8) := id rfl
theorem w_h28 : oH (mkW d I L) 28 = .inl (.int, 8) := id rfl
theorem w_o29 : isObj (mkW d I L) 29 6 = true := id rfl
theorem w_p29_9 : oP (mkW d I L) 29 9 = some 23 := id rfl
theorem w_h30 : oH (mkW d I L) 30 = .inl (.int, 16) := id rfl
theorem w_h31 : oH (mkW d I L) 31 = .inl (.int, 16) := id rfl
theorem w_h32 : oH (mkW d I L) 32 = .inl (.int, 16) := id rfl
theorem w_h33 : oH (mkW d I L) 33 = .inl (.int, 16) := id rfl
theorem w_o34 : isObj (mkW d I L) 34 3 = true := id rfl
theorem w_p34_7 : oP (mkW d I L) 34 7 = some 23 := id rfl
theorem w_p34_8 : oP (mkW d I L) 34 8 = some 35 := id rfl
theorem w_h35 : oH (mkW d I L) 35 = .inl (.int, 4) := id rfl
theorem w_h36 : oH (mkW d I L) 36 = .inl (.int, 16) := id rfl
theorem w_h37 : oH (mkW d I L) 37 = .inl (.int, 16) := id rfl
theorem w_h38 : oH (mkW d I L) 38 = .inl (.int, 16) := id rfl
theorem w_h39 : oH (mkW d I L) 39 = .inl (.int, 16) := id rfl
theorem w_h40 : oH (mkW d I L) 40 = .inl (.int, 16) := id rfl
theorem w_h41 : oH (mkW d I L) 41 = .inl (.int, 128) := id rfl
theorem w_o42 : isObj (mkW d I L) 42 3 = true := id rfl
theorem w_p42_7 : oP (mkW d I L) 42 7 = some 23 := id rfl
theorem w_p42_8 : oP (mkW d I L) 42 8 = some 43 := id rfl
theorem w_h43 : oH (mkW d I L) 43 = .inl (.int, 4) := id rfl
theorem w_h44 : oH (mkW d I L) 44 = .inl (.int, 16) := id rfl
theorem w_h45 : oH (mkW d I L) 45 = .inl (.int, 16) := id rfl
theorem w_h46 : oH (mkW d I L) 46 = .inl (.int, 16) := id rfl
theorem w_h47 : oH (mkW d I L) 47 = .inl (.int, 16) := id rfl
theorem w_h48 : oH (mkW d I L) 48 = .inl (.int, 16) := id rfl
theorem w_h49 : oH (mkW d I L) 49 = .inl (.int, 128) := id rfl
theorem w_o50 : isObj (mkW d I L) 50 0 = true := id rfl
theorem w_p50_3 : oP (mkW d I L) 50 3 = some 51 := id rfl
theorem w_h51 : oH (mkW d I L) 51 = .inl (.int, 12) := id rfl
theorem w_h52 : oH (mkW d I L) 52 = .inl (.object RX4, 2) := id rfl
theorem w_p52_0 : oP (mkW d I L) 52 0 = some 53 := id rfl
theorem w_p52_1 : oP (mkW d I L) 52 1 = some 66 := id rfl
theorem w_o53 : isObj (mkW d I L) 53 4 = true := id rfl
theorem w_p53_7 : oP (mkW d I L) 53 7 = some 54 := id rfl
theorem w_p53_8 : oP (mkW d I L) 53 8 = some 55 := id rfl
theorem w_p53_9 : oP (mkW d I L) 53 9 = some 56 := id rfl
theorem w_p53_10 : oP (mkW d I L) 53 10 = some 57 := id rfl
theorem w_p53_11 : oP (mkW d I L) 53 11 = some 58 := id rfl
theorem w_p53_12 : oP (mkW d I L) 53 12 = some 59 := id rfl
theorem w_p53_13 : oP (mkW d I L) 53 13 = some 60 := id rfl
theorem w_p53_14 : oP (mkW d I L) 53 14 = some 61 := id rfl
theorem w_p53_15 : oP (mkW d I L) 53 15 = some 62 := id rfl
theorem w_p53_16 : oP (mkW d I L) 53 16 = some 63 := id rfl
theorem w_h54 : oH (mkW d I L) 54 = .inl (.int, 12) := id rfl
theorem w_h55 : oH (mkW d I L) 55 = .inl (.int, 8) := id rfl
theorem w_h56 : oH (mkW d I L) 56 = .inl (.int, 8) := id rfl
theorem w_h57 : oH (mkW d I L) 57 = .inl (.int, 96) := id rfl
theorem w_h58 : oH (mkW d I L) 58 = .inl (.int, 16) := id rfl
theorem w_h59 : oH (mkW d I L) 59 = .inl (.int, 60) := id rfl
theorem w_h60 : oH (mkW d I L) 60 = .inl (.int, 12) := id rfl
theorem w_h61 : oH (mkW d I L) 61 = .inl (.int, 12) := id rfl
theorem w_h62 : oH (mkW d I L) 62 = .inl (.object RX1, 6) := id rfl
theorem w_o63 : isObj (mkW d I L) 63 7 = true := id rfl
theorem w_p63_2 : oP (mkW d I L) 63 2 = some 64 := id rfl
theorem w_p63_3 : oP (mkW d I L) 63 3 = some 65 := id rfl
theorem w_h64 : oH (mkW d I L) 64 = .inl (.int, 200) := id rfl
theorem w_h65 : oH (mkW d I L) 65 = .inl (.int, 200) := id rfl
theorem w_o66 : isObj (mkW d I L) 66 4 = true := id rfl
theorem w_p66_7 : oP (mkW d I L) 66 7 = some 67 := id rfl
theorem w_p66_8 : oP (mkW d I L) 66 8 = some 68 := id rfl
theorem w_p66_9 : oP (mkW d I L) 66 9 = some 69 := id rfl
theorem w_p66_10 : oP (mkW d I L) 66 10 = some 70 := id rfl
theorem w_p66_11 : oP (mkW d I L) 66 11 = some 71 := id rfl
theorem w_p66_12 : oP (mkW d I L) 66 12 = some 72 := id rfl
theorem w_p66_13 : oP (mkW d I L) 66 13 = some 73 := id rfl
theorem w_p66_14 : oP (mkW d I L) 66 14 = some 74 := id rfl
theorem w_p66_15 : oP (mkW d I L) 66 15 = some 75 := id rfl
theorem w_p66_16 : oP (mkW d I L) 66 16 = some 76 := id rfl
theorem w_h67 : oH (mkW d I L) 67 = .inl (.int, 12) := id rfl
theorem w_h68 : oH (mkW d I L) 68 = .inl (.int, 8) := id rfl
theorem w_h69 : oH (mkW d I L) 69 = .inl (.int, 8) := id rfl
theorem w_h70 : oH (mkW d I L) 70 = .inl (.int, 96) := id rfl
theorem w_h71 : oH (mkW d I L) 71 = .inl (.int, 16) := id rfl
theorem w_h72 : oH (mkW d I L) 72 = .inl (.int, 60) := id rfl
theorem w_h73 : oH (mkW d I L) 73 = .inl (.int, 12) := id rfl
theorem w_h74 : oH (mkW d I L) 74 = .inl (.int, 12) := id rfl
theorem w_h75 : oH (mkW d I L) 75 = .inl (.object RX1, 6) := id rfl
theorem w_o76 : isObj (mkW d I L) 76 7 = true := id rfl
theorem w_p76_2 : oP (mkW d I L) 76 2 = some 77 := id rfl
theorem w_p76_3 : oP (mkW d I L) 76 3 = some 78 := id rfl
theorem w_h77 : oH (mkW d I L) 77 = .inl (.int, 200) := id rfl
theorem w_h78 : oH (mkW d I L) 78 = .inl (.int, 200) := id rfl
theorem w_h79 : oH (mkW d I L) 79 = .inl (.boolean, 2) := id rfl
theorem w_h80 : oH (mkW d I L) 80 = .inl (.int, 7) := id rfl
theorem w_h81 : oH (mkW d I L) 81 = .inl (.int, 128) := id rfl
theorem w_o82 : isObj (mkW d I L) 82 11 = true := id rfl
theorem w_p82_2 : oP (mkW d I L) 82 2 = some 83 := id rfl
theorem w_p82_3 : oP (mkW d I L) 82 3 = some 84 := id rfl
theorem w_p82_4 : oP (mkW d I L) 82 4 = some 85 := id rfl
theorem w_p82_5 : oP (mkW d I L) 82 5 = some 86 := id rfl
theorem w_p82_7 : oP (mkW d I L) 82 7 = some 87 := id rfl
theorem w_p82_8 : oP (mkW d I L) 82 8 = some 88 := id rfl
theorem w_p82_9 : oP (mkW d I L) 82 9 = some 89 := id rfl
theorem w_p82_12 : oP (mkW d I L) 82 12 = some 90 := id rfl
theorem w_p82_13 : oP (mkW d I L) 82 13 = some 91 := id rfl
theorem w_p82_14 : oP (mkW d I L) 82 14 = some 92 := id rfl
theorem w_p82_22 : oP (mkW d I L) 82 22 = some 93 := id rfl
theorem w_p82_25 : oP (mkW d I L) 82 25 = some 94 := id rfl
theorem w_p82_26 : oP (mkW d I L) 82 26 = some 95 := id rfl
theorem w_p82_30 : oP (mkW d I L) 82 30 = some 96 := id rfl
theorem w_p82_31 : oP (mkW d I L) 82 31 = some 97 := id rfl
theorem w_p82_32 : oP (mkW d I L) 82 32 = some 98 := id rfl
theorem w_p82_33 : oP (mkW d I L) 82 33 = some 99 := id rfl
theorem w_p82_37 : oP (mkW d I L) 82 37 = some 100 := id rfl
theorem w_p82_38 : oP (mkW d I L) 82 38 = some 101 := id rfl
theorem w_p82_40 : oP (mkW d I L) 82 40 = some 102 := id rfl
theorem w_h83 : oH (mkW d I L) 83 = .inl (.int, 7) := id rfl
theorem w_h84 : oH (mkW d I L) 84 = .inl (.int, 9134) := id rfl
theorem w_h85 : oH (mkW d I L) 85 = .inl (.int, 18268) := id rfl
theorem w_h86 : oH (mkW d I L) 86 = .inl (.boolean, 2) := id rfl
theorem w_h87 : oH (mkW d I L) 87 = .inl (.byte, 66) := id rfl
theorem w_h88 : oH (mkW d I L) 88 = .inl (.byte, 400) := id rfl
theorem w_h89 : oH (mkW d I L) 89 = .inl (.int, 5) := id rfl
theorem w_h90 : oH (mkW d I L) 90 = .inl (.int, 401) := id rfl
theorem w_h91 : oH (mkW d I L) 91 = .inl (.int, 401) := id rfl
theorem w_h92 : oH (mkW d I L) 92 = .inl (.int, 401) := id rfl
theorem w_h93 : oH (mkW d I L) 93 = .inl (.int, 7) := id rfl
theorem w_h94 : oH (mkW d I L) 94 = .inl (.int, 1536) := id rfl
theorem w_h95 : oH (mkW d I L) 95 = .inl (.boolean, 64) := id rfl
theorem w_h96 : oH (mkW d I L) 96 = .inl (.int, 32768) := id rfl
theorem w_h97 : oH (mkW d I L) 97 = .inl (.int, 32768) := id rfl
theorem w_h98 : oH (mkW d I L) 98 = .inl (.int, 32768) := id rfl
theorem w_h99 : oH (mkW d I L) 99 = .inl (.boolean, 32768) := id rfl
theorem w_h100 : oH (mkW d I L) 100 = .inl (.int, 32768) := id rfl
theorem w_h101 : oH (mkW d I L) 101 = .inl (.int, 32768) := id rfl
theorem w_h102 : oH (mkW d I L) 102 = .inl (.int, 12) := id rfl
theorem w_p29_10 : oP (mkW d I L) 29 10 = d.2.2.2 29 10 := id rfl
theorem w_p29_11 : oP (mkW d I L) 29 11 = d.2.2.2 29 11 := id rfl
theorem w_p29_12 : oP (mkW d I L) 29 12 = d.2.2.2 29 12 := id rfl
theorem w_p29_13 : oP (mkW d I L) 29 13 = d.2.2.2 29 13 := id rfl
theorem w_p34_9 : oP (mkW d I L) 34 9 = d.2.2.2 34 9 := id rfl
theorem w_p34_10 : oP (mkW d I L) 34 10 = d.2.2.2 34 10 := id rfl
theorem w_p34_11 : oP (mkW d I L) 34 11 = d.2.2.2 34 11 := id rfl
theorem w_p34_12 : oP (mkW d I L) 34 12 = d.2.2.2 34 12 := id rfl
theorem w_p34_13 : oP (mkW d I L) 34 13 = d.2.2.2 34 13 := id rfl
theorem w_p34_14 : oP (mkW d I L) 34 14 = d.2.2.2 34 14 := id rfl
theorem w_p42_9 : oP (mkW d I L) 42 9 = d.2.2.2 42 9 := id rfl
theorem w_p42_10 : oP (mkW d I L) 42 10 = d.2.2.2 42 10 := id rfl
theorem w_p42_11 : oP (mkW d I L) 42 11 = d.2.2.2 42 11 := id rfl
theorem w_p42_12 : oP (mkW d I L) 42 12 = d.2.2.2 42 12 := id rfl
theorem w_p42_13 : oP (mkW d I L) 42 13 = d.2.2.2 42 13 := id rfl
theorem w_p42_14 : oP (mkW d I L) 42 14 = d.2.2.2 42 14 := id rfl
end WF
theorem semI {xs : Nat → Int32} {Ln d a : Nat} {as : List Value} {w : Om} {r : Res} {q : MInf} {T : List Ent} {lo : List (Option Value)} (hm : mI a = some q) (hT : cdT a = some T) (hl : (loA as).length ≤ q.2.2.1) (hlo : loOf q.2.2.1 as = lo) (h : Ev T q.2.2.2.1 xs Ln (callD xs Ln d) 0 lo [] w r) : callD xs Ln (d + 1) a as w = some r := by
  subst hlo
  refine callD_iff.mpr ?_
  unfold Sem
  rw [hm, hT]
  exact ⟨hl, h⟩
theorem rfv_some (k : Nat) : rfv (some k) = .ref k := id rfl
theorem rfv_none : rfv none = .null := id rfl
theorem isRf_ref (k : Nat) : isRf (.ref k) = true := id rfl
theorem isRf_null : isRf .null = true := id rfl
theorem c1_int (x : Int32) : c1 (some (.int x)) = true := id rfl
theorem c1_ref (x : Nat) : c1 (some (.ref x)) = true := id rfl
theorem c1_null : c1 (some .null) = true := id rfl
theorem c1_none : c1 none = true := id rfl
theorem okRb0 : okR (some .boolean) (.int 0) = true := id rfl
theorem okRb1 : okR (some .boolean) (.int 1) = true := id rfl
theorem tl_some (v : Value) (t : List Value) : (some v).toList ++ t = v :: t := id rfl
theorem tl_none (t : List Value) : (none : Option Value).toList ++ t = t := id rfl
def b2i (b : Bool) : Int32 := if b then 1 else 0
theorem b2i_t : b2i true = 1 := id rfl
theorem b2i_f : b2i false = 0 := id rfl
theorem okRb (b : Bool) : okR (some .boolean) (.int (b2i b)) = true := by cases b <;> rfl
theorem b2i_0 (b : Bool) : b2i b = 0 ↔ b = false := by cases b <;> decide
theorem i10 : ((1 : Int32) = 0) = False := by decide
