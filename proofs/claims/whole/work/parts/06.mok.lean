def mSt (k : Nat) : Bool := match k with
  | 13 => true
  | 48 => true
  | 81 => true
  | 82 => true
  | 83 => true
  | 84 => true
  | 139 => true
  | 140 => true
  | 141 => true
  | 142 => true
  | 155 => true
  | 158 => true
  | 166 => true
  | 178 => true
  | 179 => true
  | 187 => true
  | 219 => true
  | 226 => true
  | 228 => true
  | 250 => true
  | 267 => true
  | 268 => true
  | 269 => true
  | 270 => true
  | 271 => true
  | 272 => true
  | 277 => true
  | 278 => true
  | 279 => true
  | _ => false
def mNp (k : Nat) : Nat := match k with
  | 0 => 0
  | 1 => 2
  | 2 => 1
  | 3 => 2
  | 4 => 1
  | 5 => 1
  | 6 => 3
  | 7 => 0
  | 8 => 2
  | 9 => 1
  | 10 => 2
  | 11 => 1
  | 12 => 1
  | 13 => 1
  | 14 => 1
  | 15 => 3
  | 16 => 2
  | 17 => 1
  | 18 => 3
  | 19 => 3
  | 20 => 1
  | 21 => 2
  | 22 => 1
  | 23 => 0
  | 24 => 1
  | 25 => 1
  | 26 => 2
  | 27 => 2
  | 28 => 2
  | 29 => 2
  | 30 => 0
  | 31 => 1
  | 32 => 1
  | 33 => 1
  | 34 => 2
  | 35 => 2
  | 36 => 1
  | 37 => 0
  | 38 => 1
  | 39 => 1
  | 40 => 0
  | 41 => 4
  | 42 => 2
  | 43 => 2
  | 44 => 1
  | 45 => 3
  | 46 => 2
  | 47 => 3
  | 48 => 3
  | 49 => 3
  | 50 => 4
  | 51 => 1
  | 52 => 4
  | 53 => 0
  | 54 => 2
  | 55 => 1
  | 56 => 2
  | 57 => 3
  | 58 => 1
  | 59 => 0
  | 60 => 0
  | 61 => 0
  | 62 => 1
  | 63 => 1
  | 64 => 1
  | 65 => 1
  | 66 => 1
  | 67 => 1
  | 68 => 1
  | 69 => 1
  | 70 => 1
  | 71 => 0
  | 72 => 1
  | 73 => 1
  | 74 => 0
  | 75 => 2
  | 76 => 0
  | 77 => 0
  | 78 => 0
  | 79 => 0
  | 80 => 3
  | 81 => 3
  | 82 => 3
  | 83 => 1
  | 84 => 1
  | 85 => 0
  | 86 => 1
  | 87 => 2
  | 88 => 2
  | 89 => 3
  | 90 => 3
  | 91 => 1
  | 92 => 5
  | 93 => 1
  | 94 => 1
  | 95 => 0
  | 96 => 0
  | 97 => 0
  | 98 => 1
  | 99 => 4
  | 100 => 2
  | 101 => 1
  | 102 => 0
  | 103 => 3
  | 104 => 1
  | 105 => 3
  | 106 => 3
  | 107 => 3
  | 108 => 3
  | 109 => 4
  | 110 => 3
  | 111 => 2
  | 112 => 2
  | 113 => 3
  | 114 => 3
  | 115 => 1
  | 116 => 1
  | 117 => 2
  | 118 => 1
  | 119 => 1
  | 120 => 1
  | 121 => 1
  | 122 => 1
  | 123 => 1
  | 124 => 1
  | 125 => 2
  | 126 => 2
  | 127 => 2
  | 128 => 2
  | 129 => 1
  | 130 => 1
  | 131 => 2
  | 132 => 1
  | 133 => 1
  | 134 => 1
  | 135 => 1
  | 136 => 0
  | 137 => 1
  | 138 => 1
  | 139 => 1
  | 140 => 1
  | 141 => 1
  | 142 => 1
  | 143 => 1
  | 144 => 2
  | 145 => 1
  | 146 => 3
  | 147 => 3
  | 148 => 2
  | 149 => 4
  | 150 => 1
  | 151 => 1
  | 152 => 1
  | 153 => 3
  | 154 => 1
  | 155 => 3
  | 156 => 1
  | 157 => 1
  | 158 => 2
  | 159 => 0
  | 160 => 1
  | 161 => 1
  | 162 => 0
  | 163 => 0
  | 164 => 1
  | 165 => 1
  | 166 => 1
  | 167 => 2
  | 168 => 1
  | 169 => 2
  | 170 => 2
  | 171 => 3
  | 172 => 3
  | 173 => 1
  | 174 => 1
  | 175 => 0
  | 176 => 5
  | 177 => 1
  | 178 => 1
  | 179 => 1
  | 180 => 2
  | 181 => 1
  | 182 => 0
  | 183 => 0
  | 184 => 1
  | 185 => 1
  | 186 => 0
  | 187 => 1
  | 188 => 0
  | 189 => 1
  | 190 => 1
  | 191 => 1
  | 192 => 1
  | 193 => 1
  | 194 => 1
  | 195 => 0
  | 196 => 0
  | 197 => 0
  | 198 => 1
  | 199 => 1
  | 200 => 1
  | 201 => 2
  | 202 => 1
  | 203 => 1
  | 204 => 1
  | 205 => 1
  | 206 => 1
  | 207 => 1
  | 208 => 1
  | 209 => 1
  | 210 => 5
  | 211 => 4
  | 212 => 4
  | 213 => 0
  | 214 => 2
  | 215 => 4
  | 216 => 2
  | 217 => 2
  | 218 => 4
  | 219 => 2
  | 220 => 1
  | 221 => 0
  | 222 => 3
  | 223 => 3
  | 224 => 1
  | 225 => 3
  | 226 => 3
  | 227 => 4
  | 228 => 2
  | 229 => 1
  | 230 => 3
  | 231 => 3
  | 232 => 4
  | 233 => 2
  | 234 => 3
  | 235 => 3
  | 236 => 2
  | 237 => 3
  | 238 => 3
  | 239 => 2
  | 240 => 4
  | 241 => 3
  | 242 => 3
  | 243 => 1
  | 244 => 1
  | 245 => 2
  | 246 => 2
  | 247 => 0
  | 248 => 1
  | 249 => 1
  | 250 => 1
  | 251 => 1
  | 252 => 1
  | 253 => 1
  | 254 => 1
  | 255 => 1
  | 256 => 1
  | 257 => 2
  | 258 => 2
  | 259 => 2
  | 260 => 2
  | 261 => 1
  | 262 => 1
  | 263 => 2
  | 264 => 1
  | 265 => 1
  | 266 => 0
  | 267 => 1
  | 268 => 1
  | 269 => 1
  | 270 => 1
  | 271 => 2
  | 272 => 2
  | 273 => 0
  | 274 => 1
  | 275 => 0
  | 276 => 0
  | 277 => 2
  | 278 => 2
  | 279 => 3
  | 280 => 1
  | _ => 0
def mIn (k : Nat) : Bool := match k with
  | 0 => true
  | 3 => true
  | 7 => true
  | 17 => true
  | 30 => true
  | 39 => true
  | 51 => true
  | 60 => true
  | 71 => true
  | 74 => true
  | 85 => true
  | 159 => true
  | _ => false
def MOK (k : Nat) (q : MInf) : Prop := Cond.code q.1 q.2.1 q.2.2.1 q.2.2.2.1 ∈ TT ∧ Cond.initialized q.1.cls ∈ TT ∧ (q.1.cls ≠ "java/lang/invoke/MethodHandle" ∧ q.1.cls ≠ "java/lang/invoke/VarHandle" ∧ (parseMethodDescriptor q.1.desc).map (fun d => d.parameters.length) = some (mNp k)) ∧ q.2.2.1 ≤ 45 ∧ plainName q.1.cls = true ∧
  (mSt k = true → Cond.static q.1 ∈ TT) ∧ (mSt k = false → Cond.instanceMethod q.1 ∈ TT ∧ ((q.2.2.2.2 < 12 ∧ q.1.cls = Cn q.2.2.2.2) ∨ (q.2.2.2.2 = 90 ∧ q.1.cls = "java/lang/String"))) ∧ (mIn k = true → q.1.name = "<init>" ∧ q.2.2.2.1 = none) ∧ (mSt k = false → mIn k = false → Cond.selects q.1.cls q.1 q.1 ∈ TT)
theorem mok0 : MOK 0 (yX0_init, cX0_init, 1, none, 0) := ⟨mem_TT (in_t2 (List.mem_of_getElem? (i := 94) rfl)) rfl, mem_TT (in_t1 (List.mem_of_getElem? (i := 10) (by decide +kernel))) rfl, by decide +kernel, by decide, by decide, fun h => absurd h (by decide), fun _ => ⟨mem_TT (in_t2 (List.mem_of_getElem? (i := 93) (by decide +kernel))) rfl, Or.inl ⟨by decide, rfl⟩⟩, fun _ => ⟨rfl, rfl⟩, fun _ h => absurd h (by decide)⟩
theorem mok1 : MOK 1 (yX0_begin, cX0_begin, 3, none, 0) := ⟨mem_TT (in_t5 (List.mem_of_getElem? (i := 107) rfl)) rfl, mem_TT (in_t1 (List.mem_of_getElem? (i := 10) (by decide +kernel))) rfl, by decide +kernel, by decide, by decide, fun h => absurd h (by decide), fun _ => ⟨mem_TT (in_t5 (List.mem_of_getElem? (i := 105) (by decide +kernel))) rfl, Or.inl ⟨by decide, rfl⟩⟩, fun h => absurd h (by decide), fun _ _ => mem_TT (in_t5 (List.mem_of_getElem? (i := 106) (by decide +kernel))) rfl⟩
theorem mok2 : MOK 2 (yX0_draw, cX0_draw, 5, (some .int), 0) := ⟨mem_TT (in_t5 (List.mem_of_getElem? (i := 113) rfl)) rfl, mem_TT (in_t1 (List.mem_of_getElem? (i := 10) (by decide +kernel))) rfl, by decide +kernel, by decide, by decide, fun h => absurd h (by decide), fun _ => ⟨mem_TT (in_t5 (List.mem_of_getElem? (i := 111) (by decide +kernel))) rfl, Or.inl ⟨by decide, rfl⟩⟩, fun h => absurd h (by decide), fun _ _ => mem_TT (in_t5 (List.mem_of_getElem? (i := 112) (by decide +kernel))) rfl⟩
theorem mok3 : MOK 3 (yX1_init, cX1_init, 3, none, 1) := ⟨mem_TT (in_t3 (List.mem_of_getElem? (i := 151) rfl)) rfl, mem_TT (in_t1 (List.mem_of_getElem? (i := 18) (by decide +kernel))) rfl, by decide +kernel, by decide, by decide, fun h => absurd h (by decide), fun _ => ⟨mem_TT (in_t3 (List.mem_of_getElem? (i := 150) (by decide +kernel))) rfl, Or.inl ⟨by decide, rfl⟩⟩, fun _ => ⟨rfl, rfl⟩, fun _ h => absurd h (by decide)⟩
theorem mok4 : MOK 4 (yX1_told, cX1_told, 5, (some .long), 1) := ⟨mem_TT (in_t3 (List.mem_of_getElem? (i := 198) rfl)) rfl, mem_TT (in_t1 (List.mem_of_getElem? (i := 18) (by decide +kernel))) rfl, by decide +kernel, by decide, by decide, fun h => absurd h (by decide), fun _ => ⟨mem_TT (in_t3 (List.mem_of_getElem? (i := 196) (by decide +kernel))) rfl, Or.inl ⟨by decide, rfl⟩⟩, fun h => absurd h (by decide), fun _ _ => mem_TT (in_t3 (List.mem_of_getElem? (i := 197) (by decide +kernel))) rfl⟩
theorem mok5 : MOK 5 (yX1_bars, cX1_bars, 3, (some .boolean), 1) := ⟨mem_TT (in_t3 (List.mem_of_getElem? (i := 217) rfl)) rfl, mem_TT (in_t1 (List.mem_of_getElem? (i := 18) (by decide +kernel))) rfl, by decide +kernel, by decide, by decide, fun h => absurd h (by decide), fun _ => ⟨mem_TT (in_t3 (List.mem_of_getElem? (i := 215) (by decide +kernel))) rfl, Or.inl ⟨by decide, rfl⟩⟩, fun h => absurd h (by decide), fun _ _ => mem_TT (in_t3 (List.mem_of_getElem? (i := 216) (by decide +kernel))) rfl⟩
theorem mok6 : MOK 6 (yX1_valueOf, cX1_valueOf, 15, (some .long), 1) := ⟨mem_TT (in_t3 (List.mem_of_getElem? (i := 202) rfl)) rfl, mem_TT (in_t1 (List.mem_of_getElem? (i := 18) (by decide +kernel))) rfl, by decide +kernel, by decide, by decide, fun h => absurd h (by decide), fun _ => ⟨mem_TT (in_t3 (List.mem_of_getElem? (i := 201) (by decide +kernel))) rfl, Or.inl ⟨by decide, rfl⟩⟩, fun h => absurd h (by decide), fun _ _ => mem_TT (in_t0 (List.mem_of_getElem? (i := 11) (by decide +kernel))) rfl⟩
theorem mok7 : MOK 7 (yX2_init, cX2_init, 1, none, 2) := ⟨mem_TT (in_t1 (List.mem_of_getElem? (i := 155) rfl)) rfl, mem_TT (in_t1 (List.mem_of_getElem? (i := 5) (by decide +kernel))) rfl, by decide +kernel, by decide, by decide, fun h => absurd h (by decide), fun _ => ⟨mem_TT (in_t1 (List.mem_of_getElem? (i := 154) (by decide +kernel))) rfl, Or.inl ⟨by decide, rfl⟩⟩, fun _ => ⟨rfl, rfl⟩, fun _ h => absurd h (by decide)⟩
theorem mok8 : MOK 8 (yX2_read, cX2_read, 4, (some (.object "HornMaze$Law")), 2) := ⟨mem_TT (in_t3 (List.mem_of_getElem? (i := 16) rfl)) rfl, mem_TT (in_t1 (List.mem_of_getElem? (i := 5) (by decide +kernel))) rfl, by decide +kernel, by decide, by decide, fun h => absurd h (by decide), fun _ => ⟨mem_TT (in_t3 (List.mem_of_getElem? (i := 14) (by decide +kernel))) rfl, Or.inl ⟨by decide, rfl⟩⟩, fun h => absurd h (by decide), fun _ _ => mem_TT (in_t3 (List.mem_of_getElem? (i := 15) (by decide +kernel))) rfl⟩
theorem mok9 : MOK 9 (yX2_readClause, cX2_readClause, 3, (some .boolean), 2) := ⟨mem_TT (in_t3 (List.mem_of_getElem? (i := 93) rfl)) rfl, mem_TT (in_t1 (List.mem_of_getElem? (i := 5) (by decide +kernel))) rfl, by decide +kernel, by decide, by decide, fun h => absurd h (by decide), fun _ => ⟨mem_TT (in_t3 (List.mem_of_getElem? (i := 92) (by decide +kernel))) rfl, Or.inl ⟨by decide, rfl⟩⟩, fun h => absurd h (by decide), fun _ _ => mem_TT (in_t0 (List.mem_of_getElem? (i := 3) (by decide +kernel))) rfl⟩
theorem mok10 : MOK 10 (yX2_readJoined, cX2_readJoined, 7, (some .boolean), 2) := ⟨mem_TT (in_t3 (List.mem_of_getElem? (i := 105) rfl)) rfl, mem_TT (in_t1 (List.mem_of_getElem? (i := 5) (by decide +kernel))) rfl, by decide +kernel, by decide, by decide, fun h => absurd h (by decide), fun _ => ⟨mem_TT (in_t3 (List.mem_of_getElem? (i := 104) (by decide +kernel))) rfl, Or.inl ⟨by decide, rfl⟩⟩, fun h => absurd h (by decide), fun _ _ => mem_TT (in_t0 (List.mem_of_getElem? (i := 4) (by decide +kernel))) rfl⟩
theorem mok11 : MOK 11 (yX2_joinerOf, cX2_joinerOf, 3, (some .int), 2) := ⟨mem_TT (in_t3 (List.mem_of_getElem? (i := 132) rfl)) rfl, mem_TT (in_t1 (List.mem_of_getElem? (i := 5) (by decide +kernel))) rfl, by decide +kernel, by decide, by decide, fun h => absurd h (by decide), fun _ => ⟨mem_TT (in_t3 (List.mem_of_getElem? (i := 131) (by decide +kernel))) rfl, Or.inl ⟨by decide, rfl⟩⟩, fun h => absurd h (by decide), fun _ _ => mem_TT (in_t0 (List.mem_of_getElem? (i := 9) (by decide +kernel))) rfl⟩
theorem mok12 : MOK 12 (yX2_readPlain, cX2_readPlain, 4, (some .boolean), 2) := ⟨mem_TT (in_t3 (List.mem_of_getElem? (i := 109) rfl)) rfl, mem_TT (in_t1 (List.mem_of_getElem? (i := 5) (by decide +kernel))) rfl, by decide +kernel, by decide, by decide, fun h => absurd h (by decide), fun _ => ⟨mem_TT (in_t3 (List.mem_of_getElem? (i := 108) (by decide +kernel))) rfl, Or.inl ⟨by decide, rfl⟩⟩, fun h => absurd h (by decide), fun _ _ => mem_TT (in_t0 (List.mem_of_getElem? (i := 5) (by decide +kernel))) rfl⟩
theorem mok13 : MOK 13 (yX2_comparerOf, cX2_comparerOf, 1, (some .int), 2) := ⟨mem_TT (in_t3 (List.mem_of_getElem? (i := 116) rfl)) rfl, mem_TT (in_t1 (List.mem_of_getElem? (i := 5) (by decide +kernel))) rfl, by decide +kernel, by decide, by decide, fun _ => mem_TT (in_t3 (List.mem_of_getElem? (i := 115) (by decide +kernel))) rfl, fun h => absurd h (by decide), fun h => absurd h (by decide), fun h => absurd h (by decide)⟩
theorem mok14 : MOK 14 (yX2_readPart, cX2_readPart, 5, (some .boolean), 2) := ⟨mem_TT (in_t3 (List.mem_of_getElem? (i := 124) rfl)) rfl, mem_TT (in_t1 (List.mem_of_getElem? (i := 5) (by decide +kernel))) rfl, by decide +kernel, by decide, by decide, fun h => absurd h (by decide), fun _ => ⟨mem_TT (in_t3 (List.mem_of_getElem? (i := 123) (by decide +kernel))) rfl, Or.inl ⟨by decide, rfl⟩⟩, fun h => absurd h (by decide), fun _ _ => mem_TT (in_t0 (List.mem_of_getElem? (i := 8) (by decide +kernel))) rfl⟩
theorem mok15 : MOK 15 (yX2_readBracketed, cX2_readBracketed, 4, (some .boolean), 2) := ⟨mem_TT (in_t3 (List.mem_of_getElem? (i := 113) rfl)) rfl, mem_TT (in_t1 (List.mem_of_getElem? (i := 5) (by decide +kernel))) rfl, by decide +kernel, by decide, by decide, fun h => absurd h (by decide), fun _ => ⟨mem_TT (in_t3 (List.mem_of_getElem? (i := 112) (by decide +kernel))) rfl, Or.inl ⟨by decide, rfl⟩⟩, fun h => absurd h (by decide), fun _ _ => mem_TT (in_t0 (List.mem_of_getElem? (i := 6) (by decide +kernel))) rfl⟩
theorem mok16 : MOK 16 (yX2_emit, cX2_emit, 3, none, 2) := ⟨mem_TT (in_t3 (List.mem_of_getElem? (i := 120) rfl)) rfl, mem_TT (in_t1 (List.mem_of_getElem? (i := 5) (by decide +kernel))) rfl, by decide +kernel, by decide, by decide, fun h => absurd h (by decide), fun _ => ⟨mem_TT (in_t3 (List.mem_of_getElem? (i := 119) (by decide +kernel))) rfl, Or.inl ⟨by decide, rfl⟩⟩, fun h => absurd h (by decide), fun _ _ => mem_TT (in_t0 (List.mem_of_getElem? (i := 7) (by decide +kernel))) rfl⟩
theorem mok17 : MOK 17 (yX3_init, cX3_init, 2, none, 3) := ⟨mem_TT (in_t2 (List.mem_of_getElem? (i := 42) rfl)) rfl, mem_TT (in_t1 (List.mem_of_getElem? (i := 9) (by decide +kernel))) rfl, by decide +kernel, by decide, by decide, fun h => absurd h (by decide), fun _ => ⟨mem_TT (in_t2 (List.mem_of_getElem? (i := 41) (by decide +kernel))) rfl, Or.inl ⟨by decide, rfl⟩⟩, fun _ => ⟨rfl, rfl⟩, fun _ h => absurd h (by decide)⟩
theorem mok18 : MOK 18 (yX3_isOf, cX3_isOf, 4, (some .boolean), 3) := ⟨mem_TT (in_t4 (List.mem_of_getElem? (i := 154) rfl)) rfl, mem_TT (in_t1 (List.mem_of_getElem? (i := 9) (by decide +kernel))) rfl, by decide +kernel, by decide, by decide, fun h => absurd h (by decide), fun _ => ⟨mem_TT (in_t4 (List.mem_of_getElem? (i := 152) (by decide +kernel))) rfl, Or.inl ⟨by decide, rfl⟩⟩, fun h => absurd h (by decide), fun _ _ => mem_TT (in_t4 (List.mem_of_getElem? (i := 153) (by decide +kernel))) rfl⟩
theorem mok19 : MOK 19 (yX3_begin, cX3_begin, 5, none, 3) := ⟨mem_TT (in_t4 (List.mem_of_getElem? (i := 158) rfl)) rfl, mem_TT (in_t1 (List.mem_of_getElem? (i := 9) (by decide +kernel))) rfl, by decide +kernel, by decide, by decide, fun h => absurd h (by decide), fun _ => ⟨mem_TT (in_t4 (List.mem_of_getElem? (i := 156) (by decide +kernel))) rfl, Or.inl ⟨by decide, rfl⟩⟩, fun h => absurd h (by decide), fun _ _ => mem_TT (in_t4 (List.mem_of_getElem? (i := 157) (by decide +kernel))) rfl⟩
theorem mok20 : MOK 20 (yX3_addSight, cX3_addSight, 2, none, 3) := ⟨mem_TT (in_t4 (List.mem_of_getElem? (i := 162) rfl)) rfl, mem_TT (in_t1 (List.mem_of_getElem? (i := 9) (by decide +kernel))) rfl, by decide +kernel, by decide, by decide, fun h => absurd h (by decide), fun _ => ⟨mem_TT (in_t4 (List.mem_of_getElem? (i := 160) (by decide +kernel))) rfl, Or.inl ⟨by decide, rfl⟩⟩, fun h => absurd h (by decide), fun _ _ => mem_TT (in_t4 (List.mem_of_getElem? (i := 161) (by decide +kernel))) rfl⟩
theorem mok21 : MOK 21 (yX3_enter, cX3_enter, 4, none, 3) := ⟨mem_TT (in_t4 (List.mem_of_getElem? (i := 166) rfl)) rfl, mem_TT (in_t1 (List.mem_of_getElem? (i := 9) (by decide +kernel))) rfl, by decide +kernel, by decide, by decide, fun h => absurd h (by decide), fun _ => ⟨mem_TT (in_t4 (List.mem_of_getElem? (i := 164) (by decide +kernel))) rfl, Or.inl ⟨by decide, rfl⟩⟩, fun h => absurd h (by decide), fun _ _ => mem_TT (in_t4 (List.mem_of_getElem? (i := 165) (by decide +kernel))) rfl⟩
theorem mok22 : MOK 22 (yX3_positionOf, cX3_positionOf, 2, (some .int), 3) := ⟨mem_TT (in_t4 (List.mem_of_getElem? (i := 172) rfl)) rfl, mem_TT (in_t1 (List.mem_of_getElem? (i := 9) (by decide +kernel))) rfl, by decide +kernel, by decide, by decide, fun h => absurd h (by decide), fun _ => ⟨mem_TT (in_t4 (List.mem_of_getElem? (i := 171) (by decide +kernel))) rfl, Or.inl ⟨by decide, rfl⟩⟩, fun h => absurd h (by decide), fun _ _ => mem_TT (in_t0 (List.mem_of_getElem? (i := 26) (by decide +kernel))) rfl⟩
theorem mok23 : MOK 23 (yX3_solve, cX3_solve, 2, none, 3) := ⟨mem_TT (in_t4 (List.mem_of_getElem? (i := 178) rfl)) rfl, mem_TT (in_t1 (List.mem_of_getElem? (i := 9) (by decide +kernel))) rfl, by decide +kernel, by decide, by decide, fun h => absurd h (by decide), fun _ => ⟨mem_TT (in_t4 (List.mem_of_getElem? (i := 176) (by decide +kernel))) rfl, Or.inl ⟨by decide, rfl⟩⟩, fun h => absurd h (by decide), fun _ _ => mem_TT (in_t4 (List.mem_of_getElem? (i := 177) (by decide +kernel))) rfl⟩
theorem mok24 : MOK 24 (yX3_enterBehind, cX3_enterBehind, 5, none, 3) := ⟨mem_TT (in_t4 (List.mem_of_getElem? (i := 182) rfl)) rfl, mem_TT (in_t1 (List.mem_of_getElem? (i := 9) (by decide +kernel))) rfl, by decide +kernel, by decide, by decide, fun h => absurd h (by decide), fun _ => ⟨mem_TT (in_t4 (List.mem_of_getElem? (i := 181) (by decide +kernel))) rfl, Or.inl ⟨by decide, rfl⟩⟩, fun h => absurd h (by decide), fun _ _ => mem_TT (in_t0 (List.mem_of_getElem? (i := 27) (by decide +kernel))) rfl⟩
theorem mok25 : MOK 25 (yX3_settle, cX3_settle, 5, none, 3) := ⟨mem_TT (in_t4 (List.mem_of_getElem? (i := 192) rfl)) rfl, mem_TT (in_t1 (List.mem_of_getElem? (i := 9) (by decide +kernel))) rfl, by decide +kernel, by decide, by decide, fun h => absurd h (by decide), fun _ => ⟨mem_TT (in_t4 (List.mem_of_getElem? (i := 191) (by decide +kernel))) rfl, Or.inl ⟨by decide, rfl⟩⟩, fun h => absurd h (by decide), fun _ _ => mem_TT (in_t0 (List.mem_of_getElem? (i := 29) (by decide +kernel))) rfl⟩
theorem mok26 : MOK 26 (yX3_arrange, cX3_arrange, 8, none, 3) := ⟨mem_TT (in_t4 (List.mem_of_getElem? (i := 188) rfl)) rfl, mem_TT (in_t1 (List.mem_of_getElem? (i := 9) (by decide +kernel))) rfl, by decide +kernel, by decide, by decide, fun h => absurd h (by decide), fun _ => ⟨mem_TT (in_t4 (List.mem_of_getElem? (i := 187) (by decide +kernel))) rfl, Or.inl ⟨by decide, rfl⟩⟩, fun h => absurd h (by decide), fun _ _ => mem_TT (in_t0 (List.mem_of_getElem? (i := 28) (by decide +kernel))) rfl⟩
theorem mok27 : MOK 27 (yX3_levelOf, cX3_levelOf, 4, (some .int), 3) := ⟨mem_TT (in_t4 (List.mem_of_getElem? (i := 196) rfl)) rfl, mem_TT (in_t1 (List.mem_of_getElem? (i := 9) (by decide +kernel))) rfl, by decide +kernel, by decide, by decide, fun h => absurd h (by decide), fun _ => ⟨mem_TT (in_t4 (List.mem_of_getElem? (i := 194) (by decide +kernel))) rfl, Or.inl ⟨by decide, rfl⟩⟩, fun h => absurd h (by decide), fun _ _ => mem_TT (in_t4 (List.mem_of_getElem? (i := 195) (by decide +kernel))) rfl⟩
theorem mok28 : MOK 28 (yX3_firstWord, cX3_firstWord, 6, (some .int), 3) := ⟨mem_TT (in_t4 (List.mem_of_getElem? (i := 204) rfl)) rfl, mem_TT (in_t1 (List.mem_of_getElem? (i := 9) (by decide +kernel))) rfl, by decide +kernel, by decide, by decide, fun h => absurd h (by decide), fun _ => ⟨mem_TT (in_t4 (List.mem_of_getElem? (i := 202) (by decide +kernel))) rfl, Or.inl ⟨by decide, rfl⟩⟩, fun h => absurd h (by decide), fun _ _ => mem_TT (in_t4 (List.mem_of_getElem? (i := 203) (by decide +kernel))) rfl⟩
theorem mok29 : MOK 29 (yX3_isWithin, cX3_isWithin, 6, (some .boolean), 3) := ⟨mem_TT (in_t4 (List.mem_of_getElem? (i := 209) rfl)) rfl, mem_TT (in_t1 (List.mem_of_getElem? (i := 9) (by decide +kernel))) rfl, by decide +kernel, by decide, by decide, fun h => absurd h (by decide), fun _ => ⟨mem_TT (in_t4 (List.mem_of_getElem? (i := 208) (by decide +kernel))) rfl, Or.inl ⟨by decide, rfl⟩⟩, fun h => absurd h (by decide), fun _ _ => mem_TT (in_t0 (List.mem_of_getElem? (i := 30) (by decide +kernel))) rfl⟩
theorem mok30 : MOK 30 (yX4_init, cX4_init, 1, none, 4) := ⟨mem_TT (in_t1 (List.mem_of_getElem? (i := 34) rfl)) rfl, mem_TT (in_t1 (List.mem_of_getElem? (i := 2) (by decide +kernel))) rfl, by decide +kernel, by decide, by decide, fun h => absurd h (by decide), fun _ => ⟨mem_TT (in_t1 (List.mem_of_getElem? (i := 33) (by decide +kernel))) rfl, Or.inl ⟨by decide, rfl⟩⟩, fun _ => ⟨rfl, rfl⟩, fun _ h => absurd h (by decide)⟩
theorem mok31 : MOK 31 (yX4_hasPlace, cX4_hasPlace, 2, (some .boolean), 4) := ⟨mem_TT (in_t2 (List.mem_of_getElem? (i := 193) rfl)) rfl, mem_TT (in_t1 (List.mem_of_getElem? (i := 2) (by decide +kernel))) rfl, by decide +kernel, by decide, by decide, fun h => absurd h (by decide), fun _ => ⟨mem_TT (in_t2 (List.mem_of_getElem? (i := 191) (by decide +kernel))) rfl, Or.inl ⟨by decide, rfl⟩⟩, fun h => absurd h (by decide), fun _ _ => mem_TT (in_t2 (List.mem_of_getElem? (i := 192) (by decide +kernel))) rfl⟩
theorem mok32 : MOK 32 (yX4_hasWord, cX4_hasWord, 2, (some .boolean), 4) := ⟨mem_TT (in_t2 (List.mem_of_getElem? (i := 212) rfl)) rfl, mem_TT (in_t1 (List.mem_of_getElem? (i := 2) (by decide +kernel))) rfl, by decide +kernel, by decide, by decide, fun h => absurd h (by decide), fun _ => ⟨mem_TT (in_t2 (List.mem_of_getElem? (i := 210) (by decide +kernel))) rfl, Or.inl ⟨by decide, rfl⟩⟩, fun h => absurd h (by decide), fun _ _ => mem_TT (in_t2 (List.mem_of_getElem? (i := 211) (by decide +kernel))) rfl⟩
theorem mok33 : MOK 33 (yX4_hasWalker, cX4_hasWalker, 2, (some .boolean), 4) := ⟨mem_TT (in_t5 (List.mem_of_getElem? (i := 93) rfl)) rfl, mem_TT (in_t1 (List.mem_of_getElem? (i := 2) (by decide +kernel))) rfl, by decide +kernel, by decide, by decide, fun h => absurd h (by decide), fun _ => ⟨mem_TT (in_t5 (List.mem_of_getElem? (i := 91) (by decide +kernel))) rfl, Or.inl ⟨by decide, rfl⟩⟩, fun h => absurd h (by decide), fun _ _ => mem_TT (in_t5 (List.mem_of_getElem? (i := 92) (by decide +kernel))) rfl⟩
theorem mok34 : MOK 34 (yX4_addWord, cX4_addWord, 4, none, 4) := ⟨mem_TT (in_t2 (List.mem_of_getElem? (i := 204) rfl)) rfl, mem_TT (in_t1 (List.mem_of_getElem? (i := 2) (by decide +kernel))) rfl, by decide +kernel, by decide, by decide, fun h => absurd h (by decide), fun _ => ⟨mem_TT (in_t2 (List.mem_of_getElem? (i := 202) (by decide +kernel))) rfl, Or.inl ⟨by decide, rfl⟩⟩, fun h => absurd h (by decide), fun _ _ => mem_TT (in_t2 (List.mem_of_getElem? (i := 203) (by decide +kernel))) rfl⟩
theorem mok35 : MOK 35 (yX4_doorsBehind, cX4_doorsBehind, 3, (some .int), 4) := ⟨mem_TT (in_t4 (List.mem_of_getElem? (i := 34) rfl)) rfl, mem_TT (in_t1 (List.mem_of_getElem? (i := 2) (by decide +kernel))) rfl, by decide +kernel, by decide, by decide, fun h => absurd h (by decide), fun _ => ⟨mem_TT (in_t4 (List.mem_of_getElem? (i := 32) (by decide +kernel))) rfl, Or.inl ⟨by decide, rfl⟩⟩, fun h => absurd h (by decide), fun _ _ => mem_TT (in_t4 (List.mem_of_getElem? (i := 33) (by decide +kernel))) rfl⟩
theorem mok36 : MOK 36 (yX4_placesOf, cX4_placesOf, 4, (some .int), 4) := ⟨mem_TT (in_t4 (List.mem_of_getElem? (i := 55) rfl)) rfl, mem_TT (in_t1 (List.mem_of_getElem? (i := 2) (by decide +kernel))) rfl, by decide +kernel, by decide, by decide, fun h => absurd h (by decide), fun _ => ⟨mem_TT (in_t4 (List.mem_of_getElem? (i := 53) (by decide +kernel))) rfl, Or.inl ⟨by decide, rfl⟩⟩, fun h => absurd h (by decide), fun _ _ => mem_TT (in_t4 (List.mem_of_getElem? (i := 54) (by decide +kernel))) rfl⟩
theorem mok37 : MOK 37 (yX4_lawInForce, cX4_lawInForce, 1, (some (.object "HornMaze$Law")), 4) := ⟨mem_TT (in_t3 (List.mem_of_getElem? (i := 190) rfl)) rfl, mem_TT (in_t1 (List.mem_of_getElem? (i := 2) (by decide +kernel))) rfl, by decide +kernel, by decide, by decide, fun h => absurd h (by decide), fun _ => ⟨mem_TT (in_t3 (List.mem_of_getElem? (i := 188) (by decide +kernel))) rfl, Or.inl ⟨by decide, rfl⟩⟩, fun h => absurd h (by decide), fun _ _ => mem_TT (in_t3 (List.mem_of_getElem? (i := 189) (by decide +kernel))) rfl⟩
theorem mok38 : MOK 38 (yX4_copyFrom, cX4_copyFrom, 3, none, 4) := ⟨mem_TT (in_t5 (List.mem_of_getElem? (i := 135) rfl)) rfl, mem_TT (in_t1 (List.mem_of_getElem? (i := 2) (by decide +kernel))) rfl, by decide +kernel, by decide, by decide, fun h => absurd h (by decide), fun _ => ⟨mem_TT (in_t5 (List.mem_of_getElem? (i := 133) (by decide +kernel))) rfl, Or.inl ⟨by decide, rfl⟩⟩, fun h => absurd h (by decide), fun _ _ => mem_TT (in_t5 (List.mem_of_getElem? (i := 134) (by decide +kernel))) rfl⟩
theorem mok39 : MOK 39 (yX5_init, cX5_init, 2, none, 5) := ⟨mem_TT (in_t1 (List.mem_of_getElem? (i := 200) rfl)) rfl, mem_TT (in_t1 (List.mem_of_getElem? (i := 7) (by decide +kernel))) rfl, by decide +kernel, by decide, by decide, fun h => absurd h (by decide), fun _ => ⟨mem_TT (in_t1 (List.mem_of_getElem? (i := 199) (by decide +kernel))) rfl, Or.inl ⟨by decide, rfl⟩⟩, fun _ => ⟨rfl, rfl⟩, fun _ h => absurd h (by decide)⟩
theorem mok40 : MOK 40 (yX5_forget, cX5_forget, 1, none, 5) := ⟨mem_TT (in_t2 (List.mem_of_getElem? (i := 178) rfl)) rfl, mem_TT (in_t1 (List.mem_of_getElem? (i := 7) (by decide +kernel))) rfl, by decide +kernel, by decide, by decide, fun h => absurd h (by decide), fun _ => ⟨mem_TT (in_t2 (List.mem_of_getElem? (i := 176) (by decide +kernel))) rfl, Or.inl ⟨by decide, rfl⟩⟩, fun h => absurd h (by decide), fun _ _ => mem_TT (in_t2 (List.mem_of_getElem? (i := 177) (by decide +kernel))) rfl⟩
theorem mok41 : MOK 41 (yX5_step, cX5_step, 9, (some .int), 5) := ⟨mem_TT (in_t3 (List.mem_of_getElem? (i := 184) rfl)) rfl, mem_TT (in_t1 (List.mem_of_getElem? (i := 7) (by decide +kernel))) rfl, by decide +kernel, by decide, by decide, fun h => absurd h (by decide), fun _ => ⟨mem_TT (in_t3 (List.mem_of_getElem? (i := 182) (by decide +kernel))) rfl, Or.inl ⟨by decide, rfl⟩⟩, fun h => absurd h (by decide), fun _ _ => mem_TT (in_t3 (List.mem_of_getElem? (i := 183) (by decide +kernel))) rfl⟩
theorem mok42 : MOK 42 (yX5_forbids, cX5_forbids, 4, (some .boolean), 5) := ⟨mem_TT (in_t3 (List.mem_of_getElem? (i := 213) rfl)) rfl, mem_TT (in_t1 (List.mem_of_getElem? (i := 7) (by decide +kernel))) rfl, by decide +kernel, by decide, by decide, fun h => absurd h (by decide), fun _ => ⟨mem_TT (in_t3 (List.mem_of_getElem? (i := 211) (by decide +kernel))) rfl, Or.inl ⟨by decide, rfl⟩⟩, fun h => absurd h (by decide), fun _ _ => mem_TT (in_t3 (List.mem_of_getElem? (i := 212) (by decide +kernel))) rfl⟩
theorem mok43 : MOK 43 (yX5_setFacts, cX5_setFacts, 3, none, 5) := ⟨mem_TT (in_t3 (List.mem_of_getElem? (i := 194) rfl)) rfl, mem_TT (in_t1 (List.mem_of_getElem? (i := 7) (by decide +kernel))) rfl, by decide +kernel, by decide, by decide, fun h => absurd h (by decide), fun _ => ⟨mem_TT (in_t3 (List.mem_of_getElem? (i := 193) (by decide +kernel))) rfl, Or.inl ⟨by decide, rfl⟩⟩, fun h => absurd h (by decide), fun _ _ => mem_TT (in_t0 (List.mem_of_getElem? (i := 10) (by decide +kernel))) rfl⟩
theorem mok44 : MOK 44 (yX5_allowedWords, cX5_allowedWords, 5, (some .int), 5) := ⟨mem_TT (in_t4 (List.mem_of_getElem? (i := 13) rfl)) rfl, mem_TT (in_t1 (List.mem_of_getElem? (i := 7) (by decide +kernel))) rfl, by decide +kernel, by decide, by decide, fun h => absurd h (by decide), fun _ => ⟨mem_TT (in_t4 (List.mem_of_getElem? (i := 11) (by decide +kernel))) rfl, Or.inl ⟨by decide, rfl⟩⟩, fun h => absurd h (by decide), fun _ _ => mem_TT (in_t4 (List.mem_of_getElem? (i := 12) (by decide +kernel))) rfl⟩
theorem mok45 : MOK 45 (yX5_makeReady, cX5_makeReady, 9, none, 5) := ⟨mem_TT (in_t4 (List.mem_of_getElem? (i := 9) rfl)) rfl, mem_TT (in_t1 (List.mem_of_getElem? (i := 7) (by decide +kernel))) rfl, by decide +kernel, by decide, by decide, fun h => absurd h (by decide), fun _ => ⟨mem_TT (in_t4 (List.mem_of_getElem? (i := 7) (by decide +kernel))) rfl, Or.inl ⟨by decide, rfl⟩⟩, fun h => absurd h (by decide), fun _ _ => mem_TT (in_t4 (List.mem_of_getElem? (i := 8) (by decide +kernel))) rfl⟩
theorem mok46 : MOK 46 (yX5_makeAllReady, cX5_makeAllReady, 8, none, 5) := ⟨mem_TT (in_t4 (List.mem_of_getElem? (i := 71) rfl)) rfl, mem_TT (in_t1 (List.mem_of_getElem? (i := 7) (by decide +kernel))) rfl, by decide +kernel, by decide, by decide, fun h => absurd h (by decide), fun _ => ⟨mem_TT (in_t4 (List.mem_of_getElem? (i := 69) (by decide +kernel))) rfl, Or.inl ⟨by decide, rfl⟩⟩, fun h => absurd h (by decide), fun _ _ => mem_TT (in_t4 (List.mem_of_getElem? (i := 70) (by decide +kernel))) rfl⟩
theorem mok47 : MOK 47 (yX5_fillTable, cX5_fillTable, 10, none, 5) := ⟨mem_TT (in_t4 (List.mem_of_getElem? (i := 18) rfl)) rfl, mem_TT (in_t1 (List.mem_of_getElem? (i := 7) (by decide +kernel))) rfl, by decide +kernel, by decide, by decide, fun h => absurd h (by decide), fun _ => ⟨mem_TT (in_t4 (List.mem_of_getElem? (i := 17) (by decide +kernel))) rfl, Or.inl ⟨by decide, rfl⟩⟩, fun h => absurd h (by decide), fun _ _ => mem_TT (in_t0 (List.mem_of_getElem? (i := 16) (by decide +kernel))) rfl⟩
theorem mok48 : MOK 48 (yX5_tableOf, cX5_tableOf, 3, (some .int), 5) := ⟨mem_TT (in_t4 (List.mem_of_getElem? (i := 21) rfl)) rfl, mem_TT (in_t1 (List.mem_of_getElem? (i := 7) (by decide +kernel))) rfl, by decide +kernel, by decide, by decide, fun _ => mem_TT (in_t4 (List.mem_of_getElem? (i := 20) (by decide +kernel))) rfl, fun h => absurd h (by decide), fun h => absurd h (by decide), fun h => absurd h (by decide)⟩
theorem mok49 : MOK 49 (yX5_standBehind, cX5_standBehind, 9, (some .int), 5) := ⟨mem_TT (in_t4 (List.mem_of_getElem? (i := 30) rfl)) rfl, mem_TT (in_t1 (List.mem_of_getElem? (i := 7) (by decide +kernel))) rfl, by decide +kernel, by decide, by decide, fun h => absurd h (by decide), fun _ => ⟨mem_TT (in_t4 (List.mem_of_getElem? (i := 28) (by decide +kernel))) rfl, Or.inl ⟨by decide, rfl⟩⟩, fun h => absurd h (by decide), fun _ _ => mem_TT (in_t4 (List.mem_of_getElem? (i := 29) (by decide +kernel))) rfl⟩
theorem mok50 : MOK 50 (yX5_placeBehind, cX5_placeBehind, 7, (some .int), 5) := ⟨mem_TT (in_t5 (List.mem_of_getElem? (i := 123) rfl)) rfl, mem_TT (in_t1 (List.mem_of_getElem? (i := 7) (by decide +kernel))) rfl, by decide +kernel, by decide, by decide, fun h => absurd h (by decide), fun _ => ⟨mem_TT (in_t5 (List.mem_of_getElem? (i := 121) (by decide +kernel))) rfl, Or.inl ⟨by decide, rfl⟩⟩, fun h => absurd h (by decide), fun _ _ => mem_TT (in_t5 (List.mem_of_getElem? (i := 122) (by decide +kernel))) rfl⟩
theorem mok51 : MOK 51 (yX6_init, cX6_init, 2, none, 6) := ⟨mem_TT (in_t1 (List.mem_of_getElem? (i := 230) rfl)) rfl, mem_TT (in_t1 (List.mem_of_getElem? (i := 8) (by decide +kernel))) rfl, by decide +kernel, by decide, by decide, fun h => absurd h (by decide), fun _ => ⟨mem_TT (in_t1 (List.mem_of_getElem? (i := 229) (by decide +kernel))) rfl, Or.inl ⟨by decide, rfl⟩⟩, fun _ => ⟨rfl, rfl⟩, fun _ h => absurd h (by decide)⟩
theorem mok52 : MOK 52 (yX6_find, cX6_find, 8, none, 6) := ⟨mem_TT (in_t4 (List.mem_of_getElem? (i := 76) rfl)) rfl, mem_TT (in_t1 (List.mem_of_getElem? (i := 8) (by decide +kernel))) rfl, by decide +kernel, by decide, by decide, fun h => absurd h (by decide), fun _ => ⟨mem_TT (in_t4 (List.mem_of_getElem? (i := 74) (by decide +kernel))) rfl, Or.inl ⟨by decide, rfl⟩⟩, fun h => absurd h (by decide), fun _ _ => mem_TT (in_t4 (List.mem_of_getElem? (i := 75) (by decide +kernel))) rfl⟩
theorem mok53 : MOK 53 (yX6_clear, cX6_clear, 2, none, 6) := ⟨mem_TT (in_t4 (List.mem_of_getElem? (i := 80) rfl)) rfl, mem_TT (in_t1 (List.mem_of_getElem? (i := 8) (by decide +kernel))) rfl, by decide +kernel, by decide, by decide, fun h => absurd h (by decide), fun _ => ⟨mem_TT (in_t4 (List.mem_of_getElem? (i := 79) (by decide +kernel))) rfl, Or.inl ⟨by decide, rfl⟩⟩, fun h => absurd h (by decide), fun _ _ => mem_TT (in_t0 (List.mem_of_getElem? (i := 20) (by decide +kernel))) rfl⟩
theorem mok54 : MOK 54 (yX6_gather, cX6_gather, 4, none, 6) := ⟨mem_TT (in_t4 (List.mem_of_getElem? (i := 97) rfl)) rfl, mem_TT (in_t1 (List.mem_of_getElem? (i := 8) (by decide +kernel))) rfl, by decide +kernel, by decide, by decide, fun h => absurd h (by decide), fun _ => ⟨mem_TT (in_t4 (List.mem_of_getElem? (i := 96) (by decide +kernel))) rfl, Or.inl ⟨by decide, rfl⟩⟩, fun h => absurd h (by decide), fun _ _ => mem_TT (in_t0 (List.mem_of_getElem? (i := 22) (by decide +kernel))) rfl⟩
theorem mok55 : MOK 55 (yX6_isTogether, cX6_isTogether, 3, (some .boolean), 6) := ⟨mem_TT (in_t4 (List.mem_of_getElem? (i := 101) rfl)) rfl, mem_TT (in_t1 (List.mem_of_getElem? (i := 8) (by decide +kernel))) rfl, by decide +kernel, by decide, by decide, fun h => absurd h (by decide), fun _ => ⟨mem_TT (in_t4 (List.mem_of_getElem? (i := 100) (by decide +kernel))) rfl, Or.inl ⟨by decide, rfl⟩⟩, fun h => absurd h (by decide), fun _ _ => mem_TT (in_t0 (List.mem_of_getElem? (i := 23) (by decide +kernel))) rfl⟩
theorem mok56 : MOK 56 (yX6_spread, cX6_spread, 7, none, 6) := ⟨mem_TT (in_t4 (List.mem_of_getElem? (i := 113) rfl)) rfl, mem_TT (in_t1 (List.mem_of_getElem? (i := 8) (by decide +kernel))) rfl, by decide +kernel, by decide, by decide, fun h => absurd h (by decide), fun _ => ⟨mem_TT (in_t4 (List.mem_of_getElem? (i := 112) (by decide +kernel))) rfl, Or.inl ⟨by decide, rfl⟩⟩, fun h => absurd h (by decide), fun _ _ => mem_TT (in_t0 (List.mem_of_getElem? (i := 24) (by decide +kernel))) rfl⟩
theorem mok57 : MOK 57 (yX6_add, cX6_add, 4, none, 6) := ⟨mem_TT (in_t4 (List.mem_of_getElem? (i := 84) rfl)) rfl, mem_TT (in_t1 (List.mem_of_getElem? (i := 8) (by decide +kernel))) rfl, by decide +kernel, by decide, by decide, fun h => absurd h (by decide), fun _ => ⟨mem_TT (in_t4 (List.mem_of_getElem? (i := 83) (by decide +kernel))) rfl, Or.inl ⟨by decide, rfl⟩⟩, fun h => absurd h (by decide), fun _ _ => mem_TT (in_t0 (List.mem_of_getElem? (i := 21) (by decide +kernel))) rfl⟩
theorem mok58 : MOK 58 (yX6_wordOfFirst, cX6_wordOfFirst, 4, (some .int), 6) := ⟨mem_TT (in_t4 (List.mem_of_getElem? (i := 126) rfl)) rfl, mem_TT (in_t1 (List.mem_of_getElem? (i := 8) (by decide +kernel))) rfl, by decide +kernel, by decide, by decide, fun h => absurd h (by decide), fun _ => ⟨mem_TT (in_t4 (List.mem_of_getElem? (i := 124) (by decide +kernel))) rfl, Or.inl ⟨by decide, rfl⟩⟩, fun h => absurd h (by decide), fun _ _ => mem_TT (in_t4 (List.mem_of_getElem? (i := 125) (by decide +kernel))) rfl⟩
theorem mok59 : MOK 59 (yX6_wordsOfFirst, cX6_wordsOfFirst, 4, (some .int), 6) := ⟨mem_TT (in_t4 (List.mem_of_getElem? (i := 138) rfl)) rfl, mem_TT (in_t1 (List.mem_of_getElem? (i := 8) (by decide +kernel))) rfl, by decide +kernel, by decide, by decide, fun h => absurd h (by decide), fun _ => ⟨mem_TT (in_t4 (List.mem_of_getElem? (i := 136) (by decide +kernel))) rfl, Or.inl ⟨by decide, rfl⟩⟩, fun h => absurd h (by decide), fun _ _ => mem_TT (in_t4 (List.mem_of_getElem? (i := 137) (by decide +kernel))) rfl⟩
theorem mok60 : MOK 60 (yX7_init, cX7_init, 1, none, 7) := ⟨mem_TT (in_t1 (List.mem_of_getElem? (i := 42) rfl)) rfl, mem_TT (in_t1 (List.mem_of_getElem? (i := 3) (by decide +kernel))) rfl, by decide +kernel, by decide, by decide, fun h => absurd h (by decide), fun _ => ⟨mem_TT (in_t1 (List.mem_of_getElem? (i := 41) (by decide +kernel))) rfl, Or.inl ⟨by decide, rfl⟩⟩, fun _ => ⟨rfl, rfl⟩, fun _ h => absurd h (by decide)⟩
theorem mok61 : MOK 61 (yX7_isFull, cX7_isFull, 1, (some .boolean), 7) := ⟨mem_TT (in_t5 (List.mem_of_getElem? (i := 17) rfl)) rfl, mem_TT (in_t1 (List.mem_of_getElem? (i := 3) (by decide +kernel))) rfl, by decide +kernel, by decide, by decide, fun h => absurd h (by decide), fun _ => ⟨mem_TT (in_t5 (List.mem_of_getElem? (i := 15) (by decide +kernel))) rfl, Or.inl ⟨by decide, rfl⟩⟩, fun h => absurd h (by decide), fun _ _ => mem_TT (in_t5 (List.mem_of_getElem? (i := 16) (by decide +kernel))) rfl⟩
theorem mok62 : MOK 62 (yX7_lowerThan, cX7_lowerThan, 6, (some .int), 7) := ⟨mem_TT (in_t5 (List.mem_of_getElem? (i := 25) rfl)) rfl, mem_TT (in_t1 (List.mem_of_getElem? (i := 3) (by decide +kernel))) rfl, by decide +kernel, by decide, by decide, fun h => absurd h (by decide), fun _ => ⟨mem_TT (in_t5 (List.mem_of_getElem? (i := 23) (by decide +kernel))) rfl, Or.inl ⟨by decide, rfl⟩⟩, fun h => absurd h (by decide), fun _ _ => mem_TT (in_t5 (List.mem_of_getElem? (i := 24) (by decide +kernel))) rfl⟩
theorem mok63 : MOK 63 (yX7_timesOf, cX7_timesOf, 3, (some .int), 7) := ⟨mem_TT (in_t5 (List.mem_of_getElem? (i := 34) rfl)) rfl, mem_TT (in_t1 (List.mem_of_getElem? (i := 3) (by decide +kernel))) rfl, by decide +kernel, by decide, by decide, fun h => absurd h (by decide), fun _ => ⟨mem_TT (in_t5 (List.mem_of_getElem? (i := 32) (by decide +kernel))) rfl, Or.inl ⟨by decide, rfl⟩⟩, fun h => absurd h (by decide), fun _ _ => mem_TT (in_t5 (List.mem_of_getElem? (i := 33) (by decide +kernel))) rfl⟩
theorem mok64 : MOK 64 (yX7_put, cX7_put, 3, (some .int), 7) := ⟨mem_TT (in_t5 (List.mem_of_getElem? (i := 21) rfl)) rfl, mem_TT (in_t1 (List.mem_of_getElem? (i := 3) (by decide +kernel))) rfl, by decide +kernel, by decide, by decide, fun h => absurd h (by decide), fun _ => ⟨mem_TT (in_t5 (List.mem_of_getElem? (i := 19) (by decide +kernel))) rfl, Or.inl ⟨by decide, rfl⟩⟩, fun h => absurd h (by decide), fun _ _ => mem_TT (in_t5 (List.mem_of_getElem? (i := 20) (by decide +kernel))) rfl⟩
theorem mok65 : MOK 65 (yX7_take, cX7_take, 4, (some .int), 7) := ⟨mem_TT (in_t5 (List.mem_of_getElem? (i := 38) rfl)) rfl, mem_TT (in_t1 (List.mem_of_getElem? (i := 3) (by decide +kernel))) rfl, by decide +kernel, by decide, by decide, fun h => absurd h (by decide), fun _ => ⟨mem_TT (in_t5 (List.mem_of_getElem? (i := 36) (by decide +kernel))) rfl, Or.inl ⟨by decide, rfl⟩⟩, fun h => absurd h (by decide), fun _ _ => mem_TT (in_t5 (List.mem_of_getElem? (i := 37) (by decide +kernel))) rfl⟩
theorem mok66 : MOK 66 (yX7_within, cX7_within, 4, (some .int), 7) := ⟨mem_TT (in_t5 (List.mem_of_getElem? (i := 59) rfl)) rfl, mem_TT (in_t1 (List.mem_of_getElem? (i := 3) (by decide +kernel))) rfl, by decide +kernel, by decide, by decide, fun h => absurd h (by decide), fun _ => ⟨mem_TT (in_t5 (List.mem_of_getElem? (i := 57) (by decide +kernel))) rfl, Or.inl ⟨by decide, rfl⟩⟩, fun h => absurd h (by decide), fun _ _ => mem_TT (in_t5 (List.mem_of_getElem? (i := 58) (by decide +kernel))) rfl⟩
theorem mok67 : MOK 67 (yX7_having, cX7_having, 4, (some .int), 7) := ⟨mem_TT (in_t5 (List.mem_of_getElem? (i := 63) rfl)) rfl, mem_TT (in_t1 (List.mem_of_getElem? (i := 3) (by decide +kernel))) rfl, by decide +kernel, by decide, by decide, fun h => absurd h (by decide), fun _ => ⟨mem_TT (in_t5 (List.mem_of_getElem? (i := 61) (by decide +kernel))) rfl, Or.inl ⟨by decide, rfl⟩⟩, fun h => absurd h (by decide), fun _ _ => mem_TT (in_t5 (List.mem_of_getElem? (i := 62) (by decide +kernel))) rfl⟩
theorem mok68 : MOK 68 (yX7_lowestHaving, cX7_lowestHaving, 3, (some .int), 7) := ⟨mem_TT (in_t5 (List.mem_of_getElem? (i := 67) rfl)) rfl, mem_TT (in_t1 (List.mem_of_getElem? (i := 3) (by decide +kernel))) rfl, by decide +kernel, by decide, by decide, fun h => absurd h (by decide), fun _ => ⟨mem_TT (in_t5 (List.mem_of_getElem? (i := 65) (by decide +kernel))) rfl, Or.inl ⟨by decide, rfl⟩⟩, fun h => absurd h (by decide), fun _ _ => mem_TT (in_t5 (List.mem_of_getElem? (i := 66) (by decide +kernel))) rfl⟩
theorem mok69 : MOK 69 (yX7_nearest, cX7_nearest, 6, (some .int), 7) := ⟨mem_TT (in_t5 (List.mem_of_getElem? (i := 75) rfl)) rfl, mem_TT (in_t1 (List.mem_of_getElem? (i := 3) (by decide +kernel))) rfl, by decide +kernel, by decide, by decide, fun h => absurd h (by decide), fun _ => ⟨mem_TT (in_t5 (List.mem_of_getElem? (i := 73) (by decide +kernel))) rfl, Or.inl ⟨by decide, rfl⟩⟩, fun h => absurd h (by decide), fun _ _ => mem_TT (in_t5 (List.mem_of_getElem? (i := 74) (by decide +kernel))) rfl⟩
theorem mok70 : MOK 70 (yX7_copyStore, cX7_copyStore, 2, none, 7) := ⟨mem_TT (in_t5 (List.mem_of_getElem? (i := 140) rfl)) rfl, mem_TT (in_t1 (List.mem_of_getElem? (i := 3) (by decide +kernel))) rfl, by decide +kernel, by decide, by decide, fun h => absurd h (by decide), fun _ => ⟨mem_TT (in_t5 (List.mem_of_getElem? (i := 138) (by decide +kernel))) rfl, Or.inl ⟨by decide, rfl⟩⟩, fun h => absurd h (by decide), fun _ _ => mem_TT (in_t5 (List.mem_of_getElem? (i := 139) (by decide +kernel))) rfl⟩
theorem mok71 : MOK 71 (yX8_init, cX8_init, 1, none, 8) := ⟨mem_TT (in_t1 (List.mem_of_getElem? (i := 140) rfl)) rfl, mem_TT (in_t1 (List.mem_of_getElem? (i := 4) (by decide +kernel))) rfl, by decide +kernel, by decide, by decide, fun h => absurd h (by decide), fun _ => ⟨mem_TT (in_t1 (List.mem_of_getElem? (i := 139) (by decide +kernel))) rfl, Or.inl ⟨by decide, rfl⟩⟩, fun _ => ⟨rfl, rfl⟩, fun _ h => absurd h (by decide)⟩
theorem mok72 : MOK 72 (yX8_hasRoomFor, cX8_hasRoomFor, 2, (some .boolean), 8) := ⟨mem_TT (in_t2 (List.mem_of_getElem? (i := 231) rfl)) rfl, mem_TT (in_t1 (List.mem_of_getElem? (i := 4) (by decide +kernel))) rfl, by decide +kernel, by decide, by decide, fun h => absurd h (by decide), fun _ => ⟨mem_TT (in_t2 (List.mem_of_getElem? (i := 229) (by decide +kernel))) rfl, Or.inl ⟨by decide, rfl⟩⟩, fun h => absurd h (by decide), fun _ _ => mem_TT (in_t2 (List.mem_of_getElem? (i := 230) (by decide +kernel))) rfl⟩
theorem mok73 : MOK 73 (yX8_addFour, cX8_addFour, 3, none, 8) := ⟨mem_TT (in_t2 (List.mem_of_getElem? (i := 235) rfl)) rfl, mem_TT (in_t1 (List.mem_of_getElem? (i := 4) (by decide +kernel))) rfl, by decide +kernel, by decide, by decide, fun h => absurd h (by decide), fun _ => ⟨mem_TT (in_t2 (List.mem_of_getElem? (i := 233) (by decide +kernel))) rfl, Or.inl ⟨by decide, rfl⟩⟩, fun h => absurd h (by decide), fun _ _ => mem_TT (in_t2 (List.mem_of_getElem? (i := 234) (by decide +kernel))) rfl⟩
theorem mok74 : MOK 74 (yX9_init, cX9_init, 1, none, 9) := ⟨mem_TT (in_t1 (List.mem_of_getElem? (i := 161) rfl)) rfl, mem_TT (in_t1 (List.mem_of_getElem? (i := 6) (by decide +kernel))) rfl, by decide +kernel, by decide, by decide, fun h => absurd h (by decide), fun _ => ⟨mem_TT (in_t1 (List.mem_of_getElem? (i := 160) (by decide +kernel))) rfl, Or.inl ⟨by decide, rfl⟩⟩, fun _ => ⟨rfl, rfl⟩, fun _ h => absurd h (by decide)⟩
theorem mok75 : MOK 75 (yX9_scan, cX9_scan, 7, none, 9) := ⟨mem_TT (in_t3 (List.mem_of_getElem? (i := 23) rfl)) rfl, mem_TT (in_t1 (List.mem_of_getElem? (i := 6) (by decide +kernel))) rfl, by decide +kernel, by decide, by decide, fun h => absurd h (by decide), fun _ => ⟨mem_TT (in_t3 (List.mem_of_getElem? (i := 21) (by decide +kernel))) rfl, Or.inl ⟨by decide, rfl⟩⟩, fun h => absurd h (by decide), fun _ _ => mem_TT (in_t3 (List.mem_of_getElem? (i := 22) (by decide +kernel))) rfl⟩
theorem mok76 : MOK 76 (yX9_kind, cX9_kind, 1, (some .int), 9) := ⟨mem_TT (in_t3 (List.mem_of_getElem? (i := 97) rfl)) rfl, mem_TT (in_t1 (List.mem_of_getElem? (i := 6) (by decide +kernel))) rfl, by decide +kernel, by decide, by decide, fun h => absurd h (by decide), fun _ => ⟨mem_TT (in_t3 (List.mem_of_getElem? (i := 95) (by decide +kernel))) rfl, Or.inl ⟨by decide, rfl⟩⟩, fun h => absurd h (by decide), fun _ _ => mem_TT (in_t3 (List.mem_of_getElem? (i := 96) (by decide +kernel))) rfl⟩
theorem mok77 : MOK 77 (yX9_value, cX9_value, 1, (some .int), 9) := ⟨mem_TT (in_t3 (List.mem_of_getElem? (i := 128) rfl)) rfl, mem_TT (in_t1 (List.mem_of_getElem? (i := 6) (by decide +kernel))) rfl, by decide +kernel, by decide, by decide, fun h => absurd h (by decide), fun _ => ⟨mem_TT (in_t3 (List.mem_of_getElem? (i := 126) (by decide +kernel))) rfl, Or.inl ⟨by decide, rfl⟩⟩, fun h => absurd h (by decide), fun _ _ => mem_TT (in_t3 (List.mem_of_getElem? (i := 127) (by decide +kernel))) rfl⟩
theorem mok78 : MOK 78 (yX9_start, cX9_start, 1, (some .int), 9) := ⟨mem_TT (in_t3 (List.mem_of_getElem? (i := 168) rfl)) rfl, mem_TT (in_t1 (List.mem_of_getElem? (i := 6) (by decide +kernel))) rfl, by decide +kernel, by decide, by decide, fun h => absurd h (by decide), fun _ => ⟨mem_TT (in_t3 (List.mem_of_getElem? (i := 166) (by decide +kernel))) rfl, Or.inl ⟨by decide, rfl⟩⟩, fun h => absurd h (by decide), fun _ _ => mem_TT (in_t3 (List.mem_of_getElem? (i := 167) (by decide +kernel))) rfl⟩
theorem mok79 : MOK 79 (yX9_advance, cX9_advance, 1, none, 9) := ⟨mem_TT (in_t3 (List.mem_of_getElem? (i := 101) rfl)) rfl, mem_TT (in_t1 (List.mem_of_getElem? (i := 6) (by decide +kernel))) rfl, by decide +kernel, by decide, by decide, fun h => absurd h (by decide), fun _ => ⟨mem_TT (in_t3 (List.mem_of_getElem? (i := 99) (by decide +kernel))) rfl, Or.inl ⟨by decide, rfl⟩⟩, fun h => absurd h (by decide), fun _ _ => mem_TT (in_t3 (List.mem_of_getElem? (i := 100) (by decide +kernel))) rfl⟩
theorem mok80 : MOK 80 (yX9_add, cX9_add, 4, none, 9) := ⟨mem_TT (in_t3 (List.mem_of_getElem? (i := 82) rfl)) rfl, mem_TT (in_t1 (List.mem_of_getElem? (i := 6) (by decide +kernel))) rfl, by decide +kernel, by decide, by decide, fun h => absurd h (by decide), fun _ => ⟨mem_TT (in_t3 (List.mem_of_getElem? (i := 81) (by decide +kernel))) rfl, Or.inl ⟨by decide, rfl⟩⟩, fun h => absurd h (by decide), fun _ _ => mem_TT (in_t0 (List.mem_of_getElem? (i := 2) (by decide +kernel))) rfl⟩
theorem mok81 : MOK 81 (yX9_numberOf, cX9_numberOf, 5, (some .int), 9) := ⟨mem_TT (in_t3 (List.mem_of_getElem? (i := 88) rfl)) rfl, mem_TT (in_t1 (List.mem_of_getElem? (i := 6) (by decide +kernel))) rfl, by decide +kernel, by decide, by decide, fun _ => mem_TT (in_t3 (List.mem_of_getElem? (i := 87) (by decide +kernel))) rfl, fun h => absurd h (by decide), fun h => absurd h (by decide), fun h => absurd h (by decide)⟩
theorem mok82 : MOK 82 (yX9_nameOf, cX9_nameOf, 8, (some .int), 9) := ⟨mem_TT (in_t3 (List.mem_of_getElem? (i := 29) rfl)) rfl, mem_TT (in_t1 (List.mem_of_getElem? (i := 6) (by decide +kernel))) rfl, by decide +kernel, by decide, by decide, fun _ => mem_TT (in_t3 (List.mem_of_getElem? (i := 28) (by decide +kernel))) rfl, fun h => absurd h (by decide), fun h => absurd h (by decide), fun h => absurd h (by decide)⟩
theorem mok83 : MOK 83 (yX9_isLetter, cX9_isLetter, 1, (some .boolean), 9) := ⟨mem_TT (in_t3 (List.mem_of_getElem? (i := 26) rfl)) rfl, mem_TT (in_t1 (List.mem_of_getElem? (i := 6) (by decide +kernel))) rfl, by decide +kernel, by decide, by decide, fun _ => mem_TT (in_t3 (List.mem_of_getElem? (i := 25) (by decide +kernel))) rfl, fun h => absurd h (by decide), fun h => absurd h (by decide), fun h => absurd h (by decide)⟩
theorem mok84 : MOK 84 (yX9_isDigit, cX9_isDigit, 1, (some .boolean), 9) := ⟨mem_TT (in_t3 (List.mem_of_getElem? (i := 85) rfl)) rfl, mem_TT (in_t1 (List.mem_of_getElem? (i := 6) (by decide +kernel))) rfl, by decide +kernel, by decide, by decide, fun _ => mem_TT (in_t3 (List.mem_of_getElem? (i := 84) (by decide +kernel))) rfl, fun h => absurd h (by decide), fun h => absurd h (by decide), fun h => absurd h (by decide)⟩
theorem mok85 : MOK 85 (yX10_init, cX10_init, 1, none, 10) := ⟨mem_TT (in_t1 (List.mem_of_getElem? (i := 26) rfl)) rfl, mem_TT (in_t1 (List.mem_of_getElem? (i := 1) (by decide +kernel))) rfl, by decide +kernel, by decide, by decide, fun h => absurd h (by decide), fun _ => ⟨mem_TT (in_t1 (List.mem_of_getElem? (i := 25) (by decide +kernel))) rfl, Or.inl ⟨by decide, rfl⟩⟩, fun _ => ⟨rfl, rfl⟩, fun _ h => absurd h (by decide)⟩
theorem mok86 : MOK 86 (yX10_place, cX10_place, 2, (some .int), 10) := ⟨mem_TT (in_t2 (List.mem_of_getElem? (i := 167) rfl)) rfl, mem_TT (in_t1 (List.mem_of_getElem? (i := 1) (by decide +kernel))) rfl, by decide +kernel, by decide, by decide, fun h => absurd h (by decide), fun _ => ⟨mem_TT (in_t2 (List.mem_of_getElem? (i := 165) (by decide +kernel))) rfl, Or.inl ⟨by decide, rfl⟩⟩, fun h => absurd h (by decide), fun _ _ => mem_TT (in_t2 (List.mem_of_getElem? (i := 166) (by decide +kernel))) rfl⟩
theorem mok87 : MOK 87 (yX10_paint, cX10_paint, 4, (some .int), 10) := ⟨mem_TT (in_t2 (List.mem_of_getElem? (i := 189) rfl)) rfl, mem_TT (in_t1 (List.mem_of_getElem? (i := 1) (by decide +kernel))) rfl, by decide +kernel, by decide, by decide, fun h => absurd h (by decide), fun _ => ⟨mem_TT (in_t2 (List.mem_of_getElem? (i := 187) (by decide +kernel))) rfl, Or.inl ⟨by decide, rfl⟩⟩, fun h => absurd h (by decide), fun _ _ => mem_TT (in_t2 (List.mem_of_getElem? (i := 188) (by decide +kernel))) rfl⟩
theorem mok88 : MOK 88 (yX10_word, cX10_word, 3, (some .int), 10) := ⟨mem_TT (in_t2 (List.mem_of_getElem? (i := 197) rfl)) rfl, mem_TT (in_t1 (List.mem_of_getElem? (i := 1) (by decide +kernel))) rfl, by decide +kernel, by decide, by decide, fun h => absurd h (by decide), fun _ => ⟨mem_TT (in_t2 (List.mem_of_getElem? (i := 195) (by decide +kernel))) rfl, Or.inl ⟨by decide, rfl⟩⟩, fun h => absurd h (by decide), fun _ _ => mem_TT (in_t2 (List.mem_of_getElem? (i := 196) (by decide +kernel))) rfl⟩
theorem mok89 : MOK 89 (yX10_lead, cX10_lead, 6, (some .int), 10) := ⟨mem_TT (in_t2 (List.mem_of_getElem? (i := 208) rfl)) rfl, mem_TT (in_t1 (List.mem_of_getElem? (i := 1) (by decide +kernel))) rfl, by decide +kernel, by decide, by decide, fun h => absurd h (by decide), fun _ => ⟨mem_TT (in_t2 (List.mem_of_getElem? (i := 206) (by decide +kernel))) rfl, Or.inl ⟨by decide, rfl⟩⟩, fun h => absurd h (by decide), fun _ _ => mem_TT (in_t2 (List.mem_of_getElem? (i := 207) (by decide +kernel))) rfl⟩
theorem mok90 : MOK 90 (yX10_hear, cX10_hear, 6, (some .int), 10) := ⟨mem_TT (in_t2 (List.mem_of_getElem? (i := 216) rfl)) rfl, mem_TT (in_t1 (List.mem_of_getElem? (i := 1) (by decide +kernel))) rfl, by decide +kernel, by decide, by decide, fun h => absurd h (by decide), fun _ => ⟨mem_TT (in_t2 (List.mem_of_getElem? (i := 214) (by decide +kernel))) rfl, Or.inl ⟨by decide, rfl⟩⟩, fun h => absurd h (by decide), fun _ _ => mem_TT (in_t2 (List.mem_of_getElem? (i := 215) (by decide +kernel))) rfl⟩
theorem mok91 : MOK 91 (yX10_doors, cX10_doors, 3, (some .int), 10) := ⟨mem_TT (in_t2 (List.mem_of_getElem? (i := 223) rfl)) rfl, mem_TT (in_t1 (List.mem_of_getElem? (i := 1) (by decide +kernel))) rfl, by decide +kernel, by decide, by decide, fun h => absurd h (by decide), fun _ => ⟨mem_TT (in_t2 (List.mem_of_getElem? (i := 221) (by decide +kernel))) rfl, Or.inl ⟨by decide, rfl⟩⟩, fun h => absurd h (by decide), fun _ _ => mem_TT (in_t2 (List.mem_of_getElem? (i := 222) (by decide +kernel))) rfl⟩
theorem mok92 : MOK 92 (yX10_feed, cX10_feed, 6, (some .int), 10) := ⟨mem_TT (in_t2 (List.mem_of_getElem? (i := 227) rfl)) rfl, mem_TT (in_t1 (List.mem_of_getElem? (i := 1) (by decide +kernel))) rfl, by decide +kernel, by decide, by decide, fun h => absurd h (by decide), fun _ => ⟨mem_TT (in_t2 (List.mem_of_getElem? (i := 225) (by decide +kernel))) rfl, Or.inl ⟨by decide, rfl⟩⟩, fun h => absurd h (by decide), fun _ _ => mem_TT (in_t2 (List.mem_of_getElem? (i := 226) (by decide +kernel))) rfl⟩
theorem mok93 : MOK 93 (yX10_end, cX10_end, 2, (some .int), 10) := ⟨mem_TT (in_t3 (List.mem_of_getElem? (i := 0) rfl)) rfl, mem_TT (in_t1 (List.mem_of_getElem? (i := 1) (by decide +kernel))) rfl, by decide +kernel, by decide, by decide, fun h => absurd h (by decide), fun _ => ⟨mem_TT (in_t2 (List.mem_of_getElem? (i := 238) (by decide +kernel))) rfl, Or.inl ⟨by decide, rfl⟩⟩, fun h => absurd h (by decide), fun _ _ => mem_TT (in_t2 (List.mem_of_getElem? (i := 239) (by decide +kernel))) rfl⟩
theorem mok94 : MOK 94 (yX10_row, cX10_row, 4, (some .int), 10) := ⟨mem_TT (in_t3 (List.mem_of_getElem? (i := 4) rfl)) rfl, mem_TT (in_t1 (List.mem_of_getElem? (i := 1) (by decide +kernel))) rfl, by decide +kernel, by decide, by decide, fun h => absurd h (by decide), fun _ => ⟨mem_TT (in_t3 (List.mem_of_getElem? (i := 2) (by decide +kernel))) rfl, Or.inl ⟨by decide, rfl⟩⟩, fun h => absurd h (by decide), fun _ _ => mem_TT (in_t3 (List.mem_of_getElem? (i := 3) (by decide +kernel))) rfl⟩
theorem mok95 : MOK 95 (yX10_stray, cX10_stray, 1, (some .int), 10) := ⟨mem_TT (in_t3 (List.mem_of_getElem? (i := 8) rfl)) rfl, mem_TT (in_t1 (List.mem_of_getElem? (i := 1) (by decide +kernel))) rfl, by decide +kernel, by decide, by decide, fun h => absurd h (by decide), fun _ => ⟨mem_TT (in_t3 (List.mem_of_getElem? (i := 6) (by decide +kernel))) rfl, Or.inl ⟨by decide, rfl⟩⟩, fun h => absurd h (by decide), fun _ _ => mem_TT (in_t3 (List.mem_of_getElem? (i := 7) (by decide +kernel))) rfl⟩
theorem mok96 : MOK 96 (yX10_law, cX10_law, 2, (some .int), 10) := ⟨mem_TT (in_t3 (List.mem_of_getElem? (i := 12) rfl)) rfl, mem_TT (in_t1 (List.mem_of_getElem? (i := 1) (by decide +kernel))) rfl, by decide +kernel, by decide, by decide, fun h => absurd h (by decide), fun _ => ⟨mem_TT (in_t3 (List.mem_of_getElem? (i := 10) (by decide +kernel))) rfl, Or.inl ⟨by decide, rfl⟩⟩, fun h => absurd h (by decide), fun _ _ => mem_TT (in_t3 (List.mem_of_getElem? (i := 11) (by decide +kernel))) rfl⟩
theorem mok97 : MOK 97 (yX10_fault, cX10_fault, 1, (some .int), 10) := ⟨mem_TT (in_t3 (List.mem_of_getElem? (i := 172) rfl)) rfl, mem_TT (in_t1 (List.mem_of_getElem? (i := 1) (by decide +kernel))) rfl, by decide +kernel, by decide, by decide, fun h => absurd h (by decide), fun _ => ⟨mem_TT (in_t3 (List.mem_of_getElem? (i := 170) (by decide +kernel))) rfl, Or.inl ⟨by decide, rfl⟩⟩, fun h => absurd h (by decide), fun _ _ => mem_TT (in_t3 (List.mem_of_getElem? (i := 171) (by decide +kernel))) rfl⟩
theorem mok98 : MOK 98 (yX10_force, cX10_force, 3, (some .int), 10) := ⟨mem_TT (in_t3 (List.mem_of_getElem? (i := 176) rfl)) rfl, mem_TT (in_t1 (List.mem_of_getElem? (i := 1) (by decide +kernel))) rfl, by decide +kernel, by decide, by decide, fun h => absurd h (by decide), fun _ => ⟨mem_TT (in_t3 (List.mem_of_getElem? (i := 174) (by decide +kernel))) rfl, Or.inl ⟨by decide, rfl⟩⟩, fun h => absurd h (by decide), fun _ _ => mem_TT (in_t3 (List.mem_of_getElem? (i := 175) (by decide +kernel))) rfl⟩
theorem mok99 : MOK 99 (yX10_goes, cX10_goes, 5, (some .int), 10) := ⟨mem_TT (in_t3 (List.mem_of_getElem? (i := 180) rfl)) rfl, mem_TT (in_t1 (List.mem_of_getElem? (i := 1) (by decide +kernel))) rfl, by decide +kernel, by decide, by decide, fun h => absurd h (by decide), fun _ => ⟨mem_TT (in_t3 (List.mem_of_getElem? (i := 178) (by decide +kernel))) rfl, Or.inl ⟨by decide, rfl⟩⟩, fun h => absurd h (by decide), fun _ _ => mem_TT (in_t3 (List.mem_of_getElem? (i := 179) (by decide +kernel))) rfl⟩
theorem mok100 : MOK 100 (yX10_barred, cX10_barred, 3, (some .int), 10) := ⟨mem_TT (in_t3 (List.mem_of_getElem? (i := 209) rfl)) rfl, mem_TT (in_t1 (List.mem_of_getElem? (i := 1) (by decide +kernel))) rfl, by decide +kernel, by decide, by decide, fun h => absurd h (by decide), fun _ => ⟨mem_TT (in_t3 (List.mem_of_getElem? (i := 207) (by decide +kernel))) rfl, Or.inl ⟨by decide, rfl⟩⟩, fun h => absurd h (by decide), fun _ _ => mem_TT (in_t3 (List.mem_of_getElem? (i := 208) (by decide +kernel))) rfl⟩
theorem mok101 : MOK 101 (yX10_call, cX10_call, 2, (some .int), 10) := ⟨mem_TT (in_t3 (List.mem_of_getElem? (i := 221) rfl)) rfl, mem_TT (in_t1 (List.mem_of_getElem? (i := 1) (by decide +kernel))) rfl, by decide +kernel, by decide, by decide, fun h => absurd h (by decide), fun _ => ⟨mem_TT (in_t3 (List.mem_of_getElem? (i := 219) (by decide +kernel))) rfl, Or.inl ⟨by decide, rfl⟩⟩, fun h => absurd h (by decide), fun _ _ => mem_TT (in_t3 (List.mem_of_getElem? (i := 220) (by decide +kernel))) rfl⟩
theorem mok102 : MOK 102 (yX10_tear, cX10_tear, 2, (some .int), 10) := ⟨mem_TT (in_t3 (List.mem_of_getElem? (i := 225) rfl)) rfl, mem_TT (in_t1 (List.mem_of_getElem? (i := 1) (by decide +kernel))) rfl, by decide +kernel, by decide, by decide, fun h => absurd h (by decide), fun _ => ⟨mem_TT (in_t3 (List.mem_of_getElem? (i := 223) (by decide +kernel))) rfl, Or.inl ⟨by decide, rfl⟩⟩, fun h => absurd h (by decide), fun _ _ => mem_TT (in_t3 (List.mem_of_getElem? (i := 224) (by decide +kernel))) rfl⟩
theorem mok103 : MOK 103 (yX10_after, cX10_after, 5, (some .int), 10) := ⟨mem_TT (in_t3 (List.mem_of_getElem? (i := 229) rfl)) rfl, mem_TT (in_t1 (List.mem_of_getElem? (i := 1) (by decide +kernel))) rfl, by decide +kernel, by decide, by decide, fun h => absurd h (by decide), fun _ => ⟨mem_TT (in_t3 (List.mem_of_getElem? (i := 227) (by decide +kernel))) rfl, Or.inl ⟨by decide, rfl⟩⟩, fun h => absurd h (by decide), fun _ _ => mem_TT (in_t3 (List.mem_of_getElem? (i := 228) (by decide +kernel))) rfl⟩
theorem mok104 : MOK 104 (yX10_open, cX10_open, 3, (some .int), 10) := ⟨mem_TT (in_t4 (List.mem_of_getElem? (i := 38) rfl)) rfl, mem_TT (in_t1 (List.mem_of_getElem? (i := 1) (by decide +kernel))) rfl, by decide +kernel, by decide, by decide, fun h => absurd h (by decide), fun _ => ⟨mem_TT (in_t4 (List.mem_of_getElem? (i := 36) (by decide +kernel))) rfl, Or.inl ⟨by decide, rfl⟩⟩, fun h => absurd h (by decide), fun _ _ => mem_TT (in_t4 (List.mem_of_getElem? (i := 37) (by decide +kernel))) rfl⟩
theorem mok105 : MOK 105 (yX10_cycle, cX10_cycle, 7, (some .int), 10) := ⟨mem_TT (in_t4 (List.mem_of_getElem? (i := 42) rfl)) rfl, mem_TT (in_t1 (List.mem_of_getElem? (i := 1) (by decide +kernel))) rfl, by decide +kernel, by decide, by decide, fun h => absurd h (by decide), fun _ => ⟨mem_TT (in_t4 (List.mem_of_getElem? (i := 40) (by decide +kernel))) rfl, Or.inl ⟨by decide, rfl⟩⟩, fun h => absurd h (by decide), fun _ _ => mem_TT (in_t4 (List.mem_of_getElem? (i := 41) (by decide +kernel))) rfl⟩
theorem mok106 : MOK 106 (yX10_trace, cX10_trace, 7, (some .int), 10) := ⟨mem_TT (in_t4 (List.mem_of_getElem? (i := 50) rfl)) rfl, mem_TT (in_t1 (List.mem_of_getElem? (i := 1) (by decide +kernel))) rfl, by decide +kernel, by decide, by decide, fun h => absurd h (by decide), fun _ => ⟨mem_TT (in_t4 (List.mem_of_getElem? (i := 48) (by decide +kernel))) rfl, Or.inl ⟨by decide, rfl⟩⟩, fun h => absurd h (by decide), fun _ _ => mem_TT (in_t4 (List.mem_of_getElem? (i := 49) (by decide +kernel))) rfl⟩
theorem mok107 : MOK 107 (yX10_fewest, cX10_fewest, 4, (some .int), 10) := ⟨mem_TT (in_t4 (List.mem_of_getElem? (i := 59) rfl)) rfl, mem_TT (in_t1 (List.mem_of_getElem? (i := 1) (by decide +kernel))) rfl, by decide +kernel, by decide, by decide, fun h => absurd h (by decide), fun _ => ⟨mem_TT (in_t4 (List.mem_of_getElem? (i := 57) (by decide +kernel))) rfl, Or.inl ⟨by decide, rfl⟩⟩, fun h => absurd h (by decide), fun _ _ => mem_TT (in_t4 (List.mem_of_getElem? (i := 58) (by decide +kernel))) rfl⟩
theorem mok108 : MOK 108 (yX10_ways, cX10_ways, 4, (some .int), 10) := ⟨mem_TT (in_t4 (List.mem_of_getElem? (i := 118) rfl)) rfl, mem_TT (in_t1 (List.mem_of_getElem? (i := 1) (by decide +kernel))) rfl, by decide +kernel, by decide, by decide, fun h => absurd h (by decide), fun _ => ⟨mem_TT (in_t4 (List.mem_of_getElem? (i := 116) (by decide +kernel))) rfl, Or.inl ⟨by decide, rfl⟩⟩, fun h => absurd h (by decide), fun _ _ => mem_TT (in_t4 (List.mem_of_getElem? (i := 117) (by decide +kernel))) rfl⟩
theorem mok109 : MOK 109 (yX10_spell, cX10_spell, 5, (some .int), 10) := ⟨mem_TT (in_t4 (List.mem_of_getElem? (i := 122) rfl)) rfl, mem_TT (in_t1 (List.mem_of_getElem? (i := 1) (by decide +kernel))) rfl, by decide +kernel, by decide, by decide, fun h => absurd h (by decide), fun _ => ⟨mem_TT (in_t4 (List.mem_of_getElem? (i := 120) (by decide +kernel))) rfl, Or.inl ⟨by decide, rfl⟩⟩, fun h => absurd h (by decide), fun _ _ => mem_TT (in_t4 (List.mem_of_getElem? (i := 121) (by decide +kernel))) rfl⟩
theorem mok110 : MOK 110 (yX10_without, cX10_without, 4, (some .int), 10) := ⟨mem_TT (in_t4 (List.mem_of_getElem? (i := 130) rfl)) rfl, mem_TT (in_t1 (List.mem_of_getElem? (i := 1) (by decide +kernel))) rfl, by decide +kernel, by decide, by decide, fun h => absurd h (by decide), fun _ => ⟨mem_TT (in_t4 (List.mem_of_getElem? (i := 128) (by decide +kernel))) rfl, Or.inl ⟨by decide, rfl⟩⟩, fun h => absurd h (by decide), fun _ _ => mem_TT (in_t4 (List.mem_of_getElem? (i := 129) (by decide +kernel))) rfl⟩
theorem mok111 : MOK 111 (yX10_spare, cX10_spare, 6, (some .int), 10) := ⟨mem_TT (in_t4 (List.mem_of_getElem? (i := 134) rfl)) rfl, mem_TT (in_t1 (List.mem_of_getElem? (i := 1) (by decide +kernel))) rfl, by decide +kernel, by decide, by decide, fun h => absurd h (by decide), fun _ => ⟨mem_TT (in_t4 (List.mem_of_getElem? (i := 132) (by decide +kernel))) rfl, Or.inl ⟨by decide, rfl⟩⟩, fun h => absurd h (by decide), fun _ _ => mem_TT (in_t4 (List.mem_of_getElem? (i := 133) (by decide +kernel))) rfl⟩
theorem mok112 : MOK 112 (yX10_stands, cX10_stands, 3, (some .int), 10) := ⟨mem_TT (in_t4 (List.mem_of_getElem? (i := 142) rfl)) rfl, mem_TT (in_t1 (List.mem_of_getElem? (i := 1) (by decide +kernel))) rfl, by decide +kernel, by decide, by decide, fun h => absurd h (by decide), fun _ => ⟨mem_TT (in_t4 (List.mem_of_getElem? (i := 140) (by decide +kernel))) rfl, Or.inl ⟨by decide, rfl⟩⟩, fun h => absurd h (by decide), fun _ _ => mem_TT (in_t4 (List.mem_of_getElem? (i := 141) (by decide +kernel))) rfl⟩
theorem mok113 : MOK 113 (yX10_pair, cX10_pair, 4, (some .int), 10) := ⟨mem_TT (in_t4 (List.mem_of_getElem? (i := 146) rfl)) rfl, mem_TT (in_t1 (List.mem_of_getElem? (i := 1) (by decide +kernel))) rfl, by decide +kernel, by decide, by decide, fun h => absurd h (by decide), fun _ => ⟨mem_TT (in_t4 (List.mem_of_getElem? (i := 144) (by decide +kernel))) rfl, Or.inl ⟨by decide, rfl⟩⟩, fun h => absurd h (by decide), fun _ _ => mem_TT (in_t4 (List.mem_of_getElem? (i := 145) (by decide +kernel))) rfl⟩
theorem mok114 : MOK 114 (yX10_which, cX10_which, 4, (some .int), 10) := ⟨mem_TT (in_t4 (List.mem_of_getElem? (i := 200) rfl)) rfl, mem_TT (in_t1 (List.mem_of_getElem? (i := 1) (by decide +kernel))) rfl, by decide +kernel, by decide, by decide, fun h => absurd h (by decide), fun _ => ⟨mem_TT (in_t4 (List.mem_of_getElem? (i := 198) (by decide +kernel))) rfl, Or.inl ⟨by decide, rfl⟩⟩, fun h => absurd h (by decide), fun _ _ => mem_TT (in_t4 (List.mem_of_getElem? (i := 199) (by decide +kernel))) rfl⟩
theorem mok115 : MOK 115 (yX10_farthest, cX10_farthest, 6, (some .int), 10) := ⟨mem_TT (in_t4 (List.mem_of_getElem? (i := 213) rfl)) rfl, mem_TT (in_t1 (List.mem_of_getElem? (i := 1) (by decide +kernel))) rfl, by decide +kernel, by decide, by decide, fun h => absurd h (by decide), fun _ => ⟨mem_TT (in_t4 (List.mem_of_getElem? (i := 211) (by decide +kernel))) rfl, Or.inl ⟨by decide, rfl⟩⟩, fun h => absurd h (by decide), fun _ _ => mem_TT (in_t4 (List.mem_of_getElem? (i := 212) (by decide +kernel))) rfl⟩
theorem mok116 : MOK 116 (yX10_bar, cX10_bar, 4, (some .int), 10) := ⟨mem_TT (in_t4 (List.mem_of_getElem? (i := 220) rfl)) rfl, mem_TT (in_t1 (List.mem_of_getElem? (i := 1) (by decide +kernel))) rfl, by decide +kernel, by decide, by decide, fun h => absurd h (by decide), fun _ => ⟨mem_TT (in_t4 (List.mem_of_getElem? (i := 218) (by decide +kernel))) rfl, Or.inl ⟨by decide, rfl⟩⟩, fun h => absurd h (by decide), fun _ _ => mem_TT (in_t4 (List.mem_of_getElem? (i := 219) (by decide +kernel))) rfl⟩
theorem mok117 : MOK 117 (yX10_plod, cX10_plod, 7, (some .int), 10) := ⟨mem_TT (in_t4 (List.mem_of_getElem? (i := 224) rfl)) rfl, mem_TT (in_t1 (List.mem_of_getElem? (i := 1) (by decide +kernel))) rfl, by decide +kernel, by decide, by decide, fun h => absurd h (by decide), fun _ => ⟨mem_TT (in_t4 (List.mem_of_getElem? (i := 222) (by decide +kernel))) rfl, Or.inl ⟨by decide, rfl⟩⟩, fun h => absurd h (by decide), fun _ _ => mem_TT (in_t4 (List.mem_of_getElem? (i := 223) (by decide +kernel))) rfl⟩
theorem mok118 : MOK 118 (yX10_sight, cX10_sight, 2, (some .int), 10) := ⟨mem_TT (in_t4 (List.mem_of_getElem? (i := 238) rfl)) rfl, mem_TT (in_t1 (List.mem_of_getElem? (i := 1) (by decide +kernel))) rfl, by decide +kernel, by decide, by decide, fun h => absurd h (by decide), fun _ => ⟨mem_TT (in_t4 (List.mem_of_getElem? (i := 236) (by decide +kernel))) rfl, Or.inl ⟨by decide, rfl⟩⟩, fun h => absurd h (by decide), fun _ _ => mem_TT (in_t4 (List.mem_of_getElem? (i := 237) (by decide +kernel))) rfl⟩
theorem mok119 : MOK 119 (yX10_ask, cX10_ask, 2, (some .int), 10) := ⟨mem_TT (in_t5 (List.mem_of_getElem? (i := 6) rfl)) rfl, mem_TT (in_t1 (List.mem_of_getElem? (i := 1) (by decide +kernel))) rfl, by decide +kernel, by decide, by decide, fun h => absurd h (by decide), fun _ => ⟨mem_TT (in_t5 (List.mem_of_getElem? (i := 4) (by decide +kernel))) rfl, Or.inl ⟨by decide, rfl⟩⟩, fun h => absurd h (by decide), fun _ _ => mem_TT (in_t5 (List.mem_of_getElem? (i := 5) (by decide +kernel))) rfl⟩
theorem mok120 : MOK 120 (yX10_hold, cX10_hold, 2, (some .int), 10) := ⟨mem_TT (in_t5 (List.mem_of_getElem? (i := 10) rfl)) rfl, mem_TT (in_t1 (List.mem_of_getElem? (i := 1) (by decide +kernel))) rfl, by decide +kernel, by decide, by decide, fun h => absurd h (by decide), fun _ => ⟨mem_TT (in_t5 (List.mem_of_getElem? (i := 8) (by decide +kernel))) rfl, Or.inl ⟨by decide, rfl⟩⟩, fun h => absurd h (by decide), fun _ _ => mem_TT (in_t5 (List.mem_of_getElem? (i := 9) (by decide +kernel))) rfl⟩
theorem mok121 : MOK 121 (yX10_drop, cX10_drop, 2, (some .int), 10) := ⟨mem_TT (in_t5 (List.mem_of_getElem? (i := 30) rfl)) rfl, mem_TT (in_t1 (List.mem_of_getElem? (i := 1) (by decide +kernel))) rfl, by decide +kernel, by decide, by decide, fun h => absurd h (by decide), fun _ => ⟨mem_TT (in_t5 (List.mem_of_getElem? (i := 28) (by decide +kernel))) rfl, Or.inl ⟨by decide, rfl⟩⟩, fun h => absurd h (by decide), fun _ _ => mem_TT (in_t5 (List.mem_of_getElem? (i := 29) (by decide +kernel))) rfl⟩
theorem mok122 : MOK 122 (yX10_held, cX10_held, 2, (some .int), 10) := ⟨mem_TT (in_t5 (List.mem_of_getElem? (i := 42) rfl)) rfl, mem_TT (in_t1 (List.mem_of_getElem? (i := 1) (by decide +kernel))) rfl, by decide +kernel, by decide, by decide, fun h => absurd h (by decide), fun _ => ⟨mem_TT (in_t5 (List.mem_of_getElem? (i := 40) (by decide +kernel))) rfl, Or.inl ⟨by decide, rfl⟩⟩, fun h => absurd h (by decide), fun _ _ => mem_TT (in_t5 (List.mem_of_getElem? (i := 41) (by decide +kernel))) rfl⟩
theorem mok123 : MOK 123 (yX10_kth, cX10_kth, 2, (some .int), 10) := ⟨mem_TT (in_t5 (List.mem_of_getElem? (i := 46) rfl)) rfl, mem_TT (in_t1 (List.mem_of_getElem? (i := 1) (by decide +kernel))) rfl, by decide +kernel, by decide, by decide, fun h => absurd h (by decide), fun _ => ⟨mem_TT (in_t5 (List.mem_of_getElem? (i := 44) (by decide +kernel))) rfl, Or.inl ⟨by decide, rfl⟩⟩, fun h => absurd h (by decide), fun _ _ => mem_TT (in_t5 (List.mem_of_getElem? (i := 45) (by decide +kernel))) rfl⟩
theorem mok124 : MOK 124 (yX10_rank, cX10_rank, 2, (some .int), 10) := ⟨mem_TT (in_t5 (List.mem_of_getElem? (i := 50) rfl)) rfl, mem_TT (in_t1 (List.mem_of_getElem? (i := 1) (by decide +kernel))) rfl, by decide +kernel, by decide, by decide, fun h => absurd h (by decide), fun _ => ⟨mem_TT (in_t5 (List.mem_of_getElem? (i := 48) (by decide +kernel))) rfl, Or.inl ⟨by decide, rfl⟩⟩, fun h => absurd h (by decide), fun _ _ => mem_TT (in_t5 (List.mem_of_getElem? (i := 49) (by decide +kernel))) rfl⟩
theorem mok125 : MOK 125 (yX10_about, cX10_about, 3, (some .int), 10) := ⟨mem_TT (in_t5 (List.mem_of_getElem? (i := 55) rfl)) rfl, mem_TT (in_t1 (List.mem_of_getElem? (i := 1) (by decide +kernel))) rfl, by decide +kernel, by decide, by decide, fun h => absurd h (by decide), fun _ => ⟨mem_TT (in_t5 (List.mem_of_getElem? (i := 53) (by decide +kernel))) rfl, Or.inl ⟨by decide, rfl⟩⟩, fun h => absurd h (by decide), fun _ _ => mem_TT (in_t5 (List.mem_of_getElem? (i := 54) (by decide +kernel))) rfl⟩
theorem mok126 : MOK 126 (yX10_near, cX10_near, 4, (some .int), 10) := ⟨mem_TT (in_t5 (List.mem_of_getElem? (i := 71) rfl)) rfl, mem_TT (in_t1 (List.mem_of_getElem? (i := 1) (by decide +kernel))) rfl, by decide +kernel, by decide, by decide, fun h => absurd h (by decide), fun _ => ⟨mem_TT (in_t5 (List.mem_of_getElem? (i := 69) (by decide +kernel))) rfl, Or.inl ⟨by decide, rfl⟩⟩, fun h => absurd h (by decide), fun _ _ => mem_TT (in_t5 (List.mem_of_getElem? (i := 70) (by decide +kernel))) rfl⟩
theorem mok127 : MOK 127 (yX10_between, cX10_between, 3, (some .int), 10) := ⟨mem_TT (in_t5 (List.mem_of_getElem? (i := 81) rfl)) rfl, mem_TT (in_t1 (List.mem_of_getElem? (i := 1) (by decide +kernel))) rfl, by decide +kernel, by decide, by decide, fun h => absurd h (by decide), fun _ => ⟨mem_TT (in_t5 (List.mem_of_getElem? (i := 79) (by decide +kernel))) rfl, Or.inl ⟨by decide, rfl⟩⟩, fun h => absurd h (by decide), fun _ _ => mem_TT (in_t5 (List.mem_of_getElem? (i := 80) (by decide +kernel))) rfl⟩
theorem mok128 : MOK 128 (yX10_walker, cX10_walker, 3, (some .int), 10) := ⟨mem_TT (in_t5 (List.mem_of_getElem? (i := 85) rfl)) rfl, mem_TT (in_t1 (List.mem_of_getElem? (i := 1) (by decide +kernel))) rfl, by decide +kernel, by decide, by decide, fun h => absurd h (by decide), fun _ => ⟨mem_TT (in_t5 (List.mem_of_getElem? (i := 83) (by decide +kernel))) rfl, Or.inl ⟨by decide, rfl⟩⟩, fun h => absurd h (by decide), fun _ _ => mem_TT (in_t5 (List.mem_of_getElem? (i := 84) (by decide +kernel))) rfl⟩
theorem mok129 : MOK 129 (yX10_where, cX10_where, 2, (some .int), 10) := ⟨mem_TT (in_t5 (List.mem_of_getElem? (i := 89) rfl)) rfl, mem_TT (in_t1 (List.mem_of_getElem? (i := 1) (by decide +kernel))) rfl, by decide +kernel, by decide, by decide, fun h => absurd h (by decide), fun _ => ⟨mem_TT (in_t5 (List.mem_of_getElem? (i := 87) (by decide +kernel))) rfl, Or.inl ⟨by decide, rfl⟩⟩, fun h => absurd h (by decide), fun _ _ => mem_TT (in_t5 (List.mem_of_getElem? (i := 88) (by decide +kernel))) rfl⟩
theorem mok130 : MOK 130 (yX10_say, cX10_say, 4, (some .int), 10) := ⟨mem_TT (in_t5 (List.mem_of_getElem? (i := 97) rfl)) rfl, mem_TT (in_t1 (List.mem_of_getElem? (i := 1) (by decide +kernel))) rfl, by decide +kernel, by decide, by decide, fun h => absurd h (by decide), fun _ => ⟨mem_TT (in_t5 (List.mem_of_getElem? (i := 95) (by decide +kernel))) rfl, Or.inl ⟨by decide, rfl⟩⟩, fun h => absurd h (by decide), fun _ _ => mem_TT (in_t5 (List.mem_of_getElem? (i := 96) (by decide +kernel))) rfl⟩
theorem mok131 : MOK 131 (yX10_horn, cX10_horn, 6, (some .int), 10) := ⟨mem_TT (in_t5 (List.mem_of_getElem? (i := 102) rfl)) rfl, mem_TT (in_t1 (List.mem_of_getElem? (i := 1) (by decide +kernel))) rfl, by decide +kernel, by decide, by decide, fun h => absurd h (by decide), fun _ => ⟨mem_TT (in_t5 (List.mem_of_getElem? (i := 100) (by decide +kernel))) rfl, Or.inl ⟨by decide, rfl⟩⟩, fun h => absurd h (by decide), fun _ _ => mem_TT (in_t5 (List.mem_of_getElem? (i := 101) (by decide +kernel))) rfl⟩
theorem mok132 : MOK 132 (yX10_drawn, cX10_drawn, 2, (some .int), 10) := ⟨mem_TT (in_t5 (List.mem_of_getElem? (i := 127) rfl)) rfl, mem_TT (in_t1 (List.mem_of_getElem? (i := 1) (by decide +kernel))) rfl, by decide +kernel, by decide, by decide, fun h => absurd h (by decide), fun _ => ⟨mem_TT (in_t5 (List.mem_of_getElem? (i := 125) (by decide +kernel))) rfl, Or.inl ⟨by decide, rfl⟩⟩, fun h => absurd h (by decide), fun _ _ => mem_TT (in_t5 (List.mem_of_getElem? (i := 126) (by decide +kernel))) rfl⟩
theorem mok133 : MOK 133 (yX10_image, cX10_image, 2, (some .int), 10) := ⟨mem_TT (in_t5 (List.mem_of_getElem? (i := 131) rfl)) rfl, mem_TT (in_t1 (List.mem_of_getElem? (i := 1) (by decide +kernel))) rfl, by decide +kernel, by decide, by decide, fun h => absurd h (by decide), fun _ => ⟨mem_TT (in_t5 (List.mem_of_getElem? (i := 129) (by decide +kernel))) rfl, Or.inl ⟨by decide, rfl⟩⟩, fun h => absurd h (by decide), fun _ _ => mem_TT (in_t5 (List.mem_of_getElem? (i := 130) (by decide +kernel))) rfl⟩
theorem mok134 : MOK 134 (yX10_back, cX10_back, 2, (some .int), 10) := ⟨mem_TT (in_t5 (List.mem_of_getElem? (i := 144) rfl)) rfl, mem_TT (in_t1 (List.mem_of_getElem? (i := 1) (by decide +kernel))) rfl, by decide +kernel, by decide, by decide, fun h => absurd h (by decide), fun _ => ⟨mem_TT (in_t5 (List.mem_of_getElem? (i := 142) (by decide +kernel))) rfl, Or.inl ⟨by decide, rfl⟩⟩, fun h => absurd h (by decide), fun _ _ => mem_TT (in_t5 (List.mem_of_getElem? (i := 143) (by decide +kernel))) rfl⟩
theorem mok135 : MOK 135 (yX10_count, cX10_count, 2, (some .int), 10) := ⟨mem_TT (in_t5 (List.mem_of_getElem? (i := 148) rfl)) rfl, mem_TT (in_t1 (List.mem_of_getElem? (i := 1) (by decide +kernel))) rfl, by decide +kernel, by decide, by decide, fun h => absurd h (by decide), fun _ => ⟨mem_TT (in_t5 (List.mem_of_getElem? (i := 146) (by decide +kernel))) rfl, Or.inl ⟨by decide, rfl⟩⟩, fun h => absurd h (by decide), fun _ _ => mem_TT (in_t5 (List.mem_of_getElem? (i := 147) (by decide +kernel))) rfl⟩
theorem mok136 : MOK 136 (yX10_status, cX10_status, 1, (some .int), 10) := ⟨mem_TT (in_t5 (List.mem_of_getElem? (i := 152) rfl)) rfl, mem_TT (in_t1 (List.mem_of_getElem? (i := 1) (by decide +kernel))) rfl, by decide +kernel, by decide, by decide, fun h => absurd h (by decide), fun _ => ⟨mem_TT (in_t5 (List.mem_of_getElem? (i := 150) (by decide +kernel))) rfl, Or.inl ⟨by decide, rfl⟩⟩, fun h => absurd h (by decide), fun _ _ => mem_TT (in_t5 (List.mem_of_getElem? (i := 151) (by decide +kernel))) rfl⟩
theorem mok137 : MOK 137 (yX10_refuse, cX10_refuse, 3, (some .int), 10) := ⟨mem_TT (in_t2 (List.mem_of_getElem? (i := 174) rfl)) rfl, mem_TT (in_t1 (List.mem_of_getElem? (i := 1) (by decide +kernel))) rfl, by decide +kernel, by decide, by decide, fun h => absurd h (by decide), fun _ => ⟨mem_TT (in_t2 (List.mem_of_getElem? (i := 173) (by decide +kernel))) rfl, Or.inl ⟨by decide, rfl⟩⟩, fun h => absurd h (by decide), fun _ _ => mem_TT (in_t0 (List.mem_of_getElem? (i := 0) (by decide +kernel))) rfl⟩
theorem mok138 : MOK 138 (yX10_grant, cX10_grant, 2, (some .int), 10) := ⟨mem_TT (in_t2 (List.mem_of_getElem? (i := 185) rfl)) rfl, mem_TT (in_t1 (List.mem_of_getElem? (i := 1) (by decide +kernel))) rfl, by decide +kernel, by decide, by decide, fun h => absurd h (by decide), fun _ => ⟨mem_TT (in_t2 (List.mem_of_getElem? (i := 184) (by decide +kernel))) rfl, Or.inl ⟨by decide, rfl⟩⟩, fun h => absurd h (by decide), fun _ _ => mem_TT (in_t0 (List.mem_of_getElem? (i := 1) (by decide +kernel))) rfl⟩
theorem mok139 : MOK 139 (yX10_isColour, cX10_isColour, 1, (some .boolean), 10) := ⟨mem_TT (in_t2 (List.mem_of_getElem? (i := 170) rfl)) rfl, mem_TT (in_t1 (List.mem_of_getElem? (i := 1) (by decide +kernel))) rfl, by decide +kernel, by decide, by decide, fun _ => mem_TT (in_t2 (List.mem_of_getElem? (i := 169) (by decide +kernel))) rfl, fun h => absurd h (by decide), fun h => absurd h (by decide), fun h => absurd h (by decide)⟩
theorem mok140 : MOK 140 (yX10_isKind, cX10_isKind, 1, (some .boolean), 10) := ⟨mem_TT (in_t2 (List.mem_of_getElem? (i := 219) rfl)) rfl, mem_TT (in_t1 (List.mem_of_getElem? (i := 1) (by decide +kernel))) rfl, by decide +kernel, by decide, by decide, fun _ => mem_TT (in_t2 (List.mem_of_getElem? (i := 218) (by decide +kernel))) rfl, fun h => absurd h (by decide), fun h => absurd h (by decide), fun h => absurd h (by decide)⟩
theorem mok141 : MOK 141 (yX10_isDoors, cX10_isDoors, 1, (some .boolean), 10) := ⟨mem_TT (in_t2 (List.mem_of_getElem? (i := 200) rfl)) rfl, mem_TT (in_t1 (List.mem_of_getElem? (i := 1) (by decide +kernel))) rfl, by decide +kernel, by decide, by decide, fun _ => mem_TT (in_t2 (List.mem_of_getElem? (i := 199) (by decide +kernel))) rfl, fun h => absurd h (by decide), fun h => absurd h (by decide), fun h => absurd h (by decide)⟩
theorem mok142 : MOK 142 (yX10_isStoreSet, cX10_isStoreSet, 1, (some .boolean), 10) := ⟨mem_TT (in_t5 (List.mem_of_getElem? (i := 13) rfl)) rfl, mem_TT (in_t1 (List.mem_of_getElem? (i := 1) (by decide +kernel))) rfl, by decide +kernel, by decide, by decide, fun _ => mem_TT (in_t5 (List.mem_of_getElem? (i := 12) (by decide +kernel))) rfl, fun h => absurd h (by decide), fun h => absurd h (by decide), fun h => absurd h (by decide)⟩
theorem mok143 : MOK 143 (yX10_isAim, cX10_isAim, 2, (some .boolean), 10) := ⟨mem_TT (in_t4 (List.mem_of_getElem? (i := 63) rfl)) rfl, mem_TT (in_t1 (List.mem_of_getElem? (i := 1) (by decide +kernel))) rfl, by decide +kernel, by decide, by decide, fun h => absurd h (by decide), fun _ => ⟨mem_TT (in_t4 (List.mem_of_getElem? (i := 62) (by decide +kernel))) rfl, Or.inl ⟨by decide, rfl⟩⟩, fun h => absurd h (by decide), fun _ _ => mem_TT (in_t0 (List.mem_of_getElem? (i := 18) (by decide +kernel))) rfl⟩
theorem mok144 : MOK 144 (yX10_isSetOf, cX10_isSetOf, 4, (some .boolean), 10) := ⟨mem_TT (in_t3 (List.mem_of_getElem? (i := 233) rfl)) rfl, mem_TT (in_t1 (List.mem_of_getElem? (i := 1) (by decide +kernel))) rfl, by decide +kernel, by decide, by decide, fun h => absurd h (by decide), fun _ => ⟨mem_TT (in_t3 (List.mem_of_getElem? (i := 232) (by decide +kernel))) rfl, Or.inl ⟨by decide, rfl⟩⟩, fun h => absurd h (by decide), fun _ _ => mem_TT (in_t0 (List.mem_of_getElem? (i := 12) (by decide +kernel))) rfl⟩
theorem mok145 : MOK 145 (yX10_standOf, cX10_standOf, 2, (some .int), 10) := ⟨mem_TT (in_t3 (List.mem_of_getElem? (i := 237) rfl)) rfl, mem_TT (in_t1 (List.mem_of_getElem? (i := 1) (by decide +kernel))) rfl, by decide +kernel, by decide, by decide, fun h => absurd h (by decide), fun _ => ⟨mem_TT (in_t3 (List.mem_of_getElem? (i := 236) (by decide +kernel))) rfl, Or.inl ⟨by decide, rfl⟩⟩, fun h => absurd h (by decide), fun _ _ => mem_TT (in_t0 (List.mem_of_getElem? (i := 13) (by decide +kernel))) rfl⟩
theorem mok146 : MOK 146 (yX10_hearAt, cX10_hearAt, 4, (some .int), 10) := ⟨mem_TT (in_t4 (List.mem_of_getElem? (i := 5) rfl)) rfl, mem_TT (in_t1 (List.mem_of_getElem? (i := 1) (by decide +kernel))) rfl, by decide +kernel, by decide, by decide, fun h => absurd h (by decide), fun _ => ⟨mem_TT (in_t4 (List.mem_of_getElem? (i := 4) (by decide +kernel))) rfl, Or.inl ⟨by decide, rfl⟩⟩, fun h => absurd h (by decide), fun _ _ => mem_TT (in_t0 (List.mem_of_getElem? (i := 15) (by decide +kernel))) rfl⟩
theorem mok147 : MOK 147 (yX10_standAfter, cX10_standAfter, 6, (some .int), 10) := ⟨mem_TT (in_t4 (List.mem_of_getElem? (i := 1) rfl)) rfl, mem_TT (in_t1 (List.mem_of_getElem? (i := 1) (by decide +kernel))) rfl, by decide +kernel, by decide, by decide, fun h => absurd h (by decide), fun _ => ⟨mem_TT (in_t4 (List.mem_of_getElem? (i := 0) (by decide +kernel))) rfl, Or.inl ⟨by decide, rfl⟩⟩, fun h => absurd h (by decide), fun _ _ => mem_TT (in_t0 (List.mem_of_getElem? (i := 14) (by decide +kernel))) rfl⟩
theorem mok148 : MOK 148 (yX10_firstLapWith, cX10_firstLapWith, 4, (some .int), 10) := ⟨mem_TT (in_t4 (List.mem_of_getElem? (i := 46) rfl)) rfl, mem_TT (in_t1 (List.mem_of_getElem? (i := 1) (by decide +kernel))) rfl, by decide +kernel, by decide, by decide, fun h => absurd h (by decide), fun _ => ⟨mem_TT (in_t4 (List.mem_of_getElem? (i := 45) (by decide +kernel))) rfl, Or.inl ⟨by decide, rfl⟩⟩, fun h => absurd h (by decide), fun _ _ => mem_TT (in_t0 (List.mem_of_getElem? (i := 17) (by decide +kernel))) rfl⟩
theorem mok149 : MOK 149 (yX10_findFewest, cX10_findFewest, 5, none, 10) := ⟨mem_TT (in_t4 (List.mem_of_getElem? (i := 67) rfl)) rfl, mem_TT (in_t1 (List.mem_of_getElem? (i := 1) (by decide +kernel))) rfl, by decide +kernel, by decide, by decide, fun h => absurd h (by decide), fun _ => ⟨mem_TT (in_t4 (List.mem_of_getElem? (i := 66) (by decide +kernel))) rfl, Or.inl ⟨by decide, rfl⟩⟩, fun h => absurd h (by decide), fun _ _ => mem_TT (in_t0 (List.mem_of_getElem? (i := 19) (by decide +kernel))) rfl⟩
theorem mok150 : MOK 150 (yX10_findPairs, cX10_findPairs, 5, none, 10) := ⟨mem_TT (in_t4 (List.mem_of_getElem? (i := 150) rfl)) rfl, mem_TT (in_t1 (List.mem_of_getElem? (i := 1) (by decide +kernel))) rfl, by decide +kernel, by decide, by decide, fun h => absurd h (by decide), fun _ => ⟨mem_TT (in_t4 (List.mem_of_getElem? (i := 149) (by decide +kernel))) rfl, Or.inl ⟨by decide, rfl⟩⟩, fun h => absurd h (by decide), fun _ _ => mem_TT (in_t0 (List.mem_of_getElem? (i := 25) (by decide +kernel))) rfl⟩
theorem mok151 : MOK 151 (yX10_findSights, cX10_findSights, 3, none, 10) := ⟨mem_TT (in_t5 (List.mem_of_getElem? (i := 2) rfl)) rfl, mem_TT (in_t1 (List.mem_of_getElem? (i := 1) (by decide +kernel))) rfl, by decide +kernel, by decide, by decide, fun h => absurd h (by decide), fun _ => ⟨mem_TT (in_t5 (List.mem_of_getElem? (i := 1) (by decide +kernel))) rfl, Or.inl ⟨by decide, rfl⟩⟩, fun h => absurd h (by decide), fun _ _ => mem_TT (in_t0 (List.mem_of_getElem? (i := 33) (by decide +kernel))) rfl⟩
theorem mok152 : MOK 152 (yX10_soonestPair, cX10_soonestPair, 9, (some .int), 10) := ⟨mem_TT (in_t4 (List.mem_of_getElem? (i := 229) rfl)) rfl, mem_TT (in_t1 (List.mem_of_getElem? (i := 1) (by decide +kernel))) rfl, by decide +kernel, by decide, by decide, fun h => absurd h (by decide), fun _ => ⟨mem_TT (in_t4 (List.mem_of_getElem? (i := 228) (by decide +kernel))) rfl, Or.inl ⟨by decide, rfl⟩⟩, fun h => absurd h (by decide), fun _ _ => mem_TT (in_t0 (List.mem_of_getElem? (i := 31) (by decide +kernel))) rfl⟩
theorem mok153 : MOK 153 (yX10_bringTogether, cX10_bringTogether, 9, (some .int), 10) := ⟨mem_TT (in_t4 (List.mem_of_getElem? (i := 234) rfl)) rfl, mem_TT (in_t1 (List.mem_of_getElem? (i := 1) (by decide +kernel))) rfl, by decide +kernel, by decide, by decide, fun h => absurd h (by decide), fun _ => ⟨mem_TT (in_t4 (List.mem_of_getElem? (i := 233) (by decide +kernel))) rfl, Or.inl ⟨by decide, rfl⟩⟩, fun h => absurd h (by decide), fun _ _ => mem_TT (in_t0 (List.mem_of_getElem? (i := 32) (by decide +kernel))) rfl⟩
theorem mok154 : MOK 154 (yX10_hearOnPaper, cX10_hearOnPaper, 4, none, 10) := ⟨mem_TT (in_t5 (List.mem_of_getElem? (i := 119) rfl)) rfl, mem_TT (in_t1 (List.mem_of_getElem? (i := 1) (by decide +kernel))) rfl, by decide +kernel, by decide, by decide, fun h => absurd h (by decide), fun _ => ⟨mem_TT (in_t5 (List.mem_of_getElem? (i := 118) (by decide +kernel))) rfl, Or.inl ⟨by decide, rfl⟩⟩, fun h => absurd h (by decide), fun _ _ => mem_TT (in_t0 (List.mem_of_getElem? (i := 34) (by decide +kernel))) rfl⟩
theorem mok155 : MOK 155 (yX11_lies, cX11_lies, 3, (some .boolean), 11) := ⟨mem_TT (in_t6 (List.mem_of_getElem? (i := 56) rfl)) rfl, mem_TT (in_t1 (List.mem_of_getElem? (i := 11) (by decide +kernel))) rfl, by decide +kernel, by decide, by decide, fun _ => mem_TT (in_t6 (List.mem_of_getElem? (i := 55) (by decide +kernel))) rfl, fun h => absurd h (by decide), fun h => absurd h (by decide), fun h => absurd h (by decide)⟩
theorem mok156 : MOK 156 (yX11_refuses, cX11_refuses, 2, (some .int), 11) := ⟨mem_TT (in_t6 (List.mem_of_getElem? (i := 60) rfl)) rfl, mem_TT (in_t1 (List.mem_of_getElem? (i := 11) (by decide +kernel))) rfl, by decide +kernel, by decide, by decide, fun h => absurd h (by decide), fun _ => ⟨mem_TT (in_t6 (List.mem_of_getElem? (i := 59) (by decide +kernel))) rfl, Or.inl ⟨by decide, rfl⟩⟩, fun h => absurd h (by decide), fun _ _ => mem_TT (in_t0 (List.mem_of_getElem? (i := 35) (by decide +kernel))) rfl⟩
theorem mok157 : MOK 157 (yX11_good, cX11_good, 2, (some .int), 11) := ⟨mem_TT (in_t6 (List.mem_of_getElem? (i := 64) rfl)) rfl, mem_TT (in_t1 (List.mem_of_getElem? (i := 11) (by decide +kernel))) rfl, by decide +kernel, by decide, by decide, fun h => absurd h (by decide), fun _ => ⟨mem_TT (in_t6 (List.mem_of_getElem? (i := 63) (by decide +kernel))) rfl, Or.inl ⟨by decide, rfl⟩⟩, fun h => absurd h (by decide), fun _ _ => mem_TT (in_t0 (List.mem_of_getElem? (i := 36) (by decide +kernel))) rfl⟩
theorem mok158 : MOK 158 (yX11_isIn, cX11_isIn, 2, (some .boolean), 11) := ⟨mem_TT (in_t7 (List.mem_of_getElem? (i := 70) rfl)) rfl, mem_TT (in_t1 (List.mem_of_getElem? (i := 11) (by decide +kernel))) rfl, by decide +kernel, by decide, by decide, fun _ => mem_TT (in_t7 (List.mem_of_getElem? (i := 69) (by decide +kernel))) rfl, fun h => absurd h (by decide), fun h => absurd h (by decide), fun h => absurd h (by decide)⟩
theorem mok159 : MOK 159 (yX11_init, cX11_init, 1, none, 11) := ⟨mem_TT (in_t5 (List.mem_of_getElem? (i := 157) rfl)) rfl, mem_TT (in_t1 (List.mem_of_getElem? (i := 11) (by decide +kernel))) rfl, by decide +kernel, by decide, by decide, fun h => absurd h (by decide), fun _ => ⟨mem_TT (in_t5 (List.mem_of_getElem? (i := 156) (by decide +kernel))) rfl, Or.inl ⟨by decide, rfl⟩⟩, fun _ => ⟨rfl, rfl⟩, fun _ h => absurd h (by decide)⟩
theorem mok160 : MOK 160 (yX11_image, cX11_image, 3, (some .int), 11) := ⟨mem_TT (in_t6 (List.mem_of_getElem? (i := 53) rfl)) rfl, mem_TT (in_t1 (List.mem_of_getElem? (i := 11) (by decide +kernel))) rfl, by decide +kernel, by decide, by decide, fun h => absurd h (by decide), fun _ => ⟨mem_TT (in_t6 (List.mem_of_getElem? (i := 51) (by decide +kernel))) rfl, Or.inl ⟨by decide, rfl⟩⟩, fun h => absurd h (by decide), fun _ _ => mem_TT (in_t6 (List.mem_of_getElem? (i := 52) (by decide +kernel))) rfl⟩
theorem mok161 : MOK 161 (yX11_back, cX11_back, 3, (some .int), 11) := ⟨mem_TT (in_t6 (List.mem_of_getElem? (i := 68) rfl)) rfl, mem_TT (in_t1 (List.mem_of_getElem? (i := 11) (by decide +kernel))) rfl, by decide +kernel, by decide, by decide, fun h => absurd h (by decide), fun _ => ⟨mem_TT (in_t6 (List.mem_of_getElem? (i := 66) (by decide +kernel))) rfl, Or.inl ⟨by decide, rfl⟩⟩, fun h => absurd h (by decide), fun _ _ => mem_TT (in_t6 (List.mem_of_getElem? (i := 67) (by decide +kernel))) rfl⟩
theorem mok162 : MOK 162 (yX11_places, cX11_places, 1, (some .int), 11) := ⟨mem_TT (in_t6 (List.mem_of_getElem? (i := 76) rfl)) rfl, mem_TT (in_t1 (List.mem_of_getElem? (i := 11) (by decide +kernel))) rfl, by decide +kernel, by decide, by decide, fun h => absurd h (by decide), fun _ => ⟨mem_TT (in_t6 (List.mem_of_getElem? (i := 75) (by decide +kernel))) rfl, Or.inl ⟨by decide, rfl⟩⟩, fun h => absurd h (by decide), fun _ _ => mem_TT (in_t0 (List.mem_of_getElem? (i := 37) (by decide +kernel))) rfl⟩
theorem mok163 : MOK 163 (yX11_words, cX11_words, 1, (some .int), 11) := ⟨mem_TT (in_t6 (List.mem_of_getElem? (i := 96) rfl)) rfl, mem_TT (in_t1 (List.mem_of_getElem? (i := 11) (by decide +kernel))) rfl, by decide +kernel, by decide, by decide, fun h => absurd h (by decide), fun _ => ⟨mem_TT (in_t6 (List.mem_of_getElem? (i := 95) (by decide +kernel))) rfl, Or.inl ⟨by decide, rfl⟩⟩, fun h => absurd h (by decide), fun _ _ => mem_TT (in_t0 (List.mem_of_getElem? (i := 40) (by decide +kernel))) rfl⟩
theorem mok164 : MOK 164 (yX11_isPlace, cX11_isPlace, 2, (some .boolean), 11) := ⟨mem_TT (in_t6 (List.mem_of_getElem? (i := 84) rfl)) rfl, mem_TT (in_t1 (List.mem_of_getElem? (i := 11) (by decide +kernel))) rfl, by decide +kernel, by decide, by decide, fun h => absurd h (by decide), fun _ => ⟨mem_TT (in_t6 (List.mem_of_getElem? (i := 83) (by decide +kernel))) rfl, Or.inl ⟨by decide, rfl⟩⟩, fun h => absurd h (by decide), fun _ _ => mem_TT (in_t0 (List.mem_of_getElem? (i := 38) (by decide +kernel))) rfl⟩
theorem mok165 : MOK 165 (yX11_isWord, cX11_isWord, 2, (some .boolean), 11) := ⟨mem_TT (in_t6 (List.mem_of_getElem? (i := 104) rfl)) rfl, mem_TT (in_t1 (List.mem_of_getElem? (i := 11) (by decide +kernel))) rfl, by decide +kernel, by decide, by decide, fun h => absurd h (by decide), fun _ => ⟨mem_TT (in_t6 (List.mem_of_getElem? (i := 103) (by decide +kernel))) rfl, Or.inl ⟨by decide, rfl⟩⟩, fun h => absurd h (by decide), fun _ _ => mem_TT (in_t0 (List.mem_of_getElem? (i := 41) (by decide +kernel))) rfl⟩
theorem mok166 : MOK 166 (yX11_isKind, cX11_isKind, 1, (some .boolean), 11) := ⟨mem_TT (in_t6 (List.mem_of_getElem? (i := 111) rfl)) rfl, mem_TT (in_t1 (List.mem_of_getElem? (i := 11) (by decide +kernel))) rfl, by decide +kernel, by decide, by decide, fun _ => mem_TT (in_t6 (List.mem_of_getElem? (i := 110) (by decide +kernel))) rfl, fun h => absurd h (by decide), fun h => absurd h (by decide), fun h => absurd h (by decide)⟩
theorem mok167 : MOK 167 (yX11_replaces, cX11_replaces, 4, (some .int), 11) := ⟨mem_TT (in_t6 (List.mem_of_getElem? (i := 88) rfl)) rfl, mem_TT (in_t1 (List.mem_of_getElem? (i := 11) (by decide +kernel))) rfl, by decide +kernel, by decide, by decide, fun h => absurd h (by decide), fun _ => ⟨mem_TT (in_t6 (List.mem_of_getElem? (i := 87) (by decide +kernel))) rfl, Or.inl ⟨by decide, rfl⟩⟩, fun h => absurd h (by decide), fun _ _ => mem_TT (in_t0 (List.mem_of_getElem? (i := 39) (by decide +kernel))) rfl⟩
theorem mok168 : MOK 168 (yX11_place, cX11_place, 4, (some .int), 11) := ⟨mem_TT (in_t6 (List.mem_of_getElem? (i := 72) rfl)) rfl, mem_TT (in_t1 (List.mem_of_getElem? (i := 11) (by decide +kernel))) rfl, by decide +kernel, by decide, by decide, fun h => absurd h (by decide), fun _ => ⟨mem_TT (in_t6 (List.mem_of_getElem? (i := 70) (by decide +kernel))) rfl, Or.inl ⟨by decide, rfl⟩⟩, fun h => absurd h (by decide), fun _ _ => mem_TT (in_t6 (List.mem_of_getElem? (i := 71) (by decide +kernel))) rfl⟩
theorem mok169 : MOK 169 (yX11_paint, cX11_paint, 3, (some .int), 11) := ⟨mem_TT (in_t6 (List.mem_of_getElem? (i := 80) rfl)) rfl, mem_TT (in_t1 (List.mem_of_getElem? (i := 11) (by decide +kernel))) rfl, by decide +kernel, by decide, by decide, fun h => absurd h (by decide), fun _ => ⟨mem_TT (in_t6 (List.mem_of_getElem? (i := 78) (by decide +kernel))) rfl, Or.inl ⟨by decide, rfl⟩⟩, fun h => absurd h (by decide), fun _ _ => mem_TT (in_t6 (List.mem_of_getElem? (i := 79) (by decide +kernel))) rfl⟩
theorem mok170 : MOK 170 (yX11_word, cX11_word, 5, (some .int), 11) := ⟨mem_TT (in_t6 (List.mem_of_getElem? (i := 92) rfl)) rfl, mem_TT (in_t1 (List.mem_of_getElem? (i := 11) (by decide +kernel))) rfl, by decide +kernel, by decide, by decide, fun h => absurd h (by decide), fun _ => ⟨mem_TT (in_t6 (List.mem_of_getElem? (i := 90) (by decide +kernel))) rfl, Or.inl ⟨by decide, rfl⟩⟩, fun h => absurd h (by decide), fun _ _ => mem_TT (in_t6 (List.mem_of_getElem? (i := 91) (by decide +kernel))) rfl⟩
theorem mok171 : MOK 171 (yX11_lead, cX11_lead, 4, (some .int), 11) := ⟨mem_TT (in_t6 (List.mem_of_getElem? (i := 100) rfl)) rfl, mem_TT (in_t1 (List.mem_of_getElem? (i := 11) (by decide +kernel))) rfl, by decide +kernel, by decide, by decide, fun h => absurd h (by decide), fun _ => ⟨mem_TT (in_t6 (List.mem_of_getElem? (i := 98) (by decide +kernel))) rfl, Or.inl ⟨by decide, rfl⟩⟩, fun h => absurd h (by decide), fun _ _ => mem_TT (in_t6 (List.mem_of_getElem? (i := 99) (by decide +kernel))) rfl⟩
theorem mok172 : MOK 172 (yX11_hear, cX11_hear, 4, (some .int), 11) := ⟨mem_TT (in_t6 (List.mem_of_getElem? (i := 108) rfl)) rfl, mem_TT (in_t1 (List.mem_of_getElem? (i := 11) (by decide +kernel))) rfl, by decide +kernel, by decide, by decide, fun h => absurd h (by decide), fun _ => ⟨mem_TT (in_t6 (List.mem_of_getElem? (i := 106) (by decide +kernel))) rfl, Or.inl ⟨by decide, rfl⟩⟩, fun h => absurd h (by decide), fun _ _ => mem_TT (in_t6 (List.mem_of_getElem? (i := 107) (by decide +kernel))) rfl⟩
theorem mok173 : MOK 173 (yX11_doors, cX11_doors, 2, (some .int), 11) := ⟨mem_TT (in_t6 (List.mem_of_getElem? (i := 115) rfl)) rfl, mem_TT (in_t1 (List.mem_of_getElem? (i := 11) (by decide +kernel))) rfl, by decide +kernel, by decide, by decide, fun h => absurd h (by decide), fun _ => ⟨mem_TT (in_t6 (List.mem_of_getElem? (i := 113) (by decide +kernel))) rfl, Or.inl ⟨by decide, rfl⟩⟩, fun h => absurd h (by decide), fun _ _ => mem_TT (in_t6 (List.mem_of_getElem? (i := 114) (by decide +kernel))) rfl⟩
theorem mok174 : MOK 174 (yX11_row, cX11_row, 6, (some .int), 11) := ⟨mem_TT (in_t6 (List.mem_of_getElem? (i := 119) rfl)) rfl, mem_TT (in_t1 (List.mem_of_getElem? (i := 11) (by decide +kernel))) rfl, by decide +kernel, by decide, by decide, fun h => absurd h (by decide), fun _ => ⟨mem_TT (in_t6 (List.mem_of_getElem? (i := 117) (by decide +kernel))) rfl, Or.inl ⟨by decide, rfl⟩⟩, fun h => absurd h (by decide), fun _ _ => mem_TT (in_t6 (List.mem_of_getElem? (i := 118) (by decide +kernel))) rfl⟩
theorem mok175 : MOK 175 (yX11_stray, cX11_stray, 1, (some .int), 11) := ⟨mem_TT (in_t6 (List.mem_of_getElem? (i := 123) rfl)) rfl, mem_TT (in_t1 (List.mem_of_getElem? (i := 11) (by decide +kernel))) rfl, by decide +kernel, by decide, by decide, fun h => absurd h (by decide), fun _ => ⟨mem_TT (in_t6 (List.mem_of_getElem? (i := 121) (by decide +kernel))) rfl, Or.inl ⟨by decide, rfl⟩⟩, fun h => absurd h (by decide), fun _ _ => mem_TT (in_t6 (List.mem_of_getElem? (i := 122) (by decide +kernel))) rfl⟩
theorem mok176 : MOK 176 (yX11_feed, cX11_feed, 7, (some .int), 11) := ⟨mem_TT (in_t6 (List.mem_of_getElem? (i := 127) rfl)) rfl, mem_TT (in_t1 (List.mem_of_getElem? (i := 11) (by decide +kernel))) rfl, by decide +kernel, by decide, by decide, fun h => absurd h (by decide), fun _ => ⟨mem_TT (in_t6 (List.mem_of_getElem? (i := 125) (by decide +kernel))) rfl, Or.inl ⟨by decide, rfl⟩⟩, fun h => absurd h (by decide), fun _ _ => mem_TT (in_t6 (List.mem_of_getElem? (i := 126) (by decide +kernel))) rfl⟩
theorem mok177 : MOK 177 (yX11_end, cX11_end, 2, (some .int), 11) := ⟨mem_TT (in_t6 (List.mem_of_getElem? (i := 131) rfl)) rfl, mem_TT (in_t1 (List.mem_of_getElem? (i := 11) (by decide +kernel))) rfl, by decide +kernel, by decide, by decide, fun h => absurd h (by decide), fun _ => ⟨mem_TT (in_t6 (List.mem_of_getElem? (i := 129) (by decide +kernel))) rfl, Or.inl ⟨by decide, rfl⟩⟩, fun h => absurd h (by decide), fun _ _ => mem_TT (in_t6 (List.mem_of_getElem? (i := 130) (by decide +kernel))) rfl⟩
theorem mok178 : MOK 178 (yX11_isSmall, cX11_isSmall, 1, (some .boolean), 11) := ⟨mem_TT (in_t6 (List.mem_of_getElem? (i := 146) rfl)) rfl, mem_TT (in_t1 (List.mem_of_getElem? (i := 11) (by decide +kernel))) rfl, by decide +kernel, by decide, by decide, fun _ => mem_TT (in_t6 (List.mem_of_getElem? (i := 145) (by decide +kernel))) rfl, fun h => absurd h (by decide), fun h => absurd h (by decide), fun h => absurd h (by decide)⟩
theorem mok179 : MOK 179 (yX11_isDigit, cX11_isDigit, 1, (some .boolean), 11) := ⟨mem_TT (in_t6 (List.mem_of_getElem? (i := 149) rfl)) rfl, mem_TT (in_t1 (List.mem_of_getElem? (i := 11) (by decide +kernel))) rfl, by decide +kernel, by decide, by decide, fun _ => mem_TT (in_t6 (List.mem_of_getElem? (i := 148) (by decide +kernel))) rfl, fun h => absurd h (by decide), fun h => absurd h (by decide), fun h => absurd h (by decide)⟩
theorem mok180 : MOK 180 (yX11_wordOf, cX11_wordOf, 8, (some .int), 11) := ⟨mem_TT (in_t6 (List.mem_of_getElem? (i := 153) rfl)) rfl, mem_TT (in_t1 (List.mem_of_getElem? (i := 11) (by decide +kernel))) rfl, by decide +kernel, by decide, by decide, fun h => absurd h (by decide), fun _ => ⟨mem_TT (in_t6 (List.mem_of_getElem? (i := 152) (by decide +kernel))) rfl, Or.inl ⟨by decide, rfl⟩⟩, fun h => absurd h (by decide), fun _ _ => mem_TT (in_t0 (List.mem_of_getElem? (i := 44) (by decide +kernel))) rfl⟩
theorem mok181 : MOK 181 (yX11_splits, cX11_splits, 6, none, 11) := ⟨mem_TT (in_t6 (List.mem_of_getElem? (i := 143) rfl)) rfl, mem_TT (in_t1 (List.mem_of_getElem? (i := 11) (by decide +kernel))) rfl, by decide +kernel, by decide, by decide, fun h => absurd h (by decide), fun _ => ⟨mem_TT (in_t6 (List.mem_of_getElem? (i := 142) (by decide +kernel))) rfl, Or.inl ⟨by decide, rfl⟩⟩, fun h => absurd h (by decide), fun _ _ => mem_TT (in_t0 (List.mem_of_getElem? (i := 43) (by decide +kernel))) rfl⟩
theorem mok182 : MOK 182 (yX11_fine, cX11_fine, 1, (some .boolean), 11) := ⟨mem_TT (in_t6 (List.mem_of_getElem? (i := 166) rfl)) rfl, mem_TT (in_t1 (List.mem_of_getElem? (i := 11) (by decide +kernel))) rfl, by decide +kernel, by decide, by decide, fun h => absurd h (by decide), fun _ => ⟨mem_TT (in_t6 (List.mem_of_getElem? (i := 165) (by decide +kernel))) rfl, Or.inl ⟨by decide, rfl⟩⟩, fun h => absurd h (by decide), fun _ _ => mem_TT (in_t0 (List.mem_of_getElem? (i := 47) (by decide +kernel))) rfl⟩
theorem mok183 : MOK 183 (yX11_faults, cX11_faults, 1, none, 11) := ⟨mem_TT (in_t6 (List.mem_of_getElem? (i := 185) rfl)) rfl, mem_TT (in_t1 (List.mem_of_getElem? (i := 11) (by decide +kernel))) rfl, by decide +kernel, by decide, by decide, fun h => absurd h (by decide), fun _ => ⟨mem_TT (in_t6 (List.mem_of_getElem? (i := 184) (by decide +kernel))) rfl, Or.inl ⟨by decide, rfl⟩⟩, fun h => absurd h (by decide), fun _ _ => mem_TT (in_t0 (List.mem_of_getElem? (i := 51) (by decide +kernel))) rfl⟩
theorem mok184 : MOK 184 (yX11_takes0, cX11_takes0, 3, (some .boolean), 11) := ⟨mem_TT (in_t6 (List.mem_of_getElem? (i := 162) rfl)) rfl, mem_TT (in_t1 (List.mem_of_getElem? (i := 11) (by decide +kernel))) rfl, by decide +kernel, by decide, by decide, fun h => absurd h (by decide), fun _ => ⟨mem_TT (in_t6 (List.mem_of_getElem? (i := 161) (by decide +kernel))) rfl, Or.inl ⟨by decide, rfl⟩⟩, fun h => absurd h (by decide), fun _ _ => mem_TT (in_t0 (List.mem_of_getElem? (i := 46) (by decide +kernel))) rfl⟩
theorem mok185 : MOK 185 (yX11_must, cX11_must, 2, none, 11) := ⟨mem_TT (in_t6 (List.mem_of_getElem? (i := 189) rfl)) rfl, mem_TT (in_t1 (List.mem_of_getElem? (i := 11) (by decide +kernel))) rfl, by decide +kernel, by decide, by decide, fun h => absurd h (by decide), fun _ => ⟨mem_TT (in_t6 (List.mem_of_getElem? (i := 188) (by decide +kernel))) rfl, Or.inl ⟨by decide, rfl⟩⟩, fun h => absurd h (by decide), fun _ _ => mem_TT (in_t0 (List.mem_of_getElem? (i := 52) (by decide +kernel))) rfl⟩
theorem mok186 : MOK 186 (yX11_leaf, cX11_leaf, 1, none, 11) := ⟨mem_TT (in_t6 (List.mem_of_getElem? (i := 193) rfl)) rfl, mem_TT (in_t1 (List.mem_of_getElem? (i := 11) (by decide +kernel))) rfl, by decide +kernel, by decide, by decide, fun h => absurd h (by decide), fun _ => ⟨mem_TT (in_t6 (List.mem_of_getElem? (i := 192) (by decide +kernel))) rfl, Or.inl ⟨by decide, rfl⟩⟩, fun h => absurd h (by decide), fun _ _ => mem_TT (in_t0 (List.mem_of_getElem? (i := 53) (by decide +kernel))) rfl⟩
theorem mok187 : MOK 187 (yX11_sign, cX11_sign, 1, (some .int), 11) := ⟨mem_TT (in_t6 (List.mem_of_getElem? (i := 181) rfl)) rfl, mem_TT (in_t1 (List.mem_of_getElem? (i := 11) (by decide +kernel))) rfl, by decide +kernel, by decide, by decide, fun _ => mem_TT (in_t6 (List.mem_of_getElem? (i := 180) (by decide +kernel))) rfl, fun h => absurd h (by decide), fun h => absurd h (by decide), fun h => absurd h (by decide)⟩
theorem mok188 : MOK 188 (yX11_readClause, cX11_readClause, 1, none, 11) := ⟨mem_TT (in_t6 (List.mem_of_getElem? (i := 158) rfl)) rfl, mem_TT (in_t1 (List.mem_of_getElem? (i := 11) (by decide +kernel))) rfl, by decide +kernel, by decide, by decide, fun h => absurd h (by decide), fun _ => ⟨mem_TT (in_t6 (List.mem_of_getElem? (i := 157) (by decide +kernel))) rfl, Or.inl ⟨by decide, rfl⟩⟩, fun h => absurd h (by decide), fun _ _ => mem_TT (in_t0 (List.mem_of_getElem? (i := 45) (by decide +kernel))) rfl⟩
theorem mok189 : MOK 189 (yX11_readTest, cX11_readTest, 2, none, 11) := ⟨mem_TT (in_t6 (List.mem_of_getElem? (i := 197) rfl)) rfl, mem_TT (in_t1 (List.mem_of_getElem? (i := 11) (by decide +kernel))) rfl, by decide +kernel, by decide, by decide, fun h => absurd h (by decide), fun _ => ⟨mem_TT (in_t6 (List.mem_of_getElem? (i := 196) (by decide +kernel))) rfl, Or.inl ⟨by decide, rfl⟩⟩, fun h => absurd h (by decide), fun _ _ => mem_TT (in_t0 (List.mem_of_getElem? (i := 54) (by decide +kernel))) rfl⟩
theorem mok190 : MOK 190 (yX11_readBoth, cX11_readBoth, 2, none, 11) := ⟨mem_TT (in_t6 (List.mem_of_getElem? (i := 201) rfl)) rfl, mem_TT (in_t1 (List.mem_of_getElem? (i := 11) (by decide +kernel))) rfl, by decide +kernel, by decide, by decide, fun h => absurd h (by decide), fun _ => ⟨mem_TT (in_t6 (List.mem_of_getElem? (i := 200) (by decide +kernel))) rfl, Or.inl ⟨by decide, rfl⟩⟩, fun h => absurd h (by decide), fun _ _ => mem_TT (in_t0 (List.mem_of_getElem? (i := 55) (by decide +kernel))) rfl⟩
theorem mok191 : MOK 191 (yX11_readPlain, cX11_readPlain, 4, none, 11) := ⟨mem_TT (in_t6 (List.mem_of_getElem? (i := 205) rfl)) rfl, mem_TT (in_t1 (List.mem_of_getElem? (i := 11) (by decide +kernel))) rfl, by decide +kernel, by decide, by decide, fun h => absurd h (by decide), fun _ => ⟨mem_TT (in_t6 (List.mem_of_getElem? (i := 204) (by decide +kernel))) rfl, Or.inl ⟨by decide, rfl⟩⟩, fun h => absurd h (by decide), fun _ _ => mem_TT (in_t0 (List.mem_of_getElem? (i := 56) (by decide +kernel))) rfl⟩
theorem mok192 : MOK 192 (yX11_readSum, cX11_readSum, 2, none, 11) := ⟨mem_TT (in_t6 (List.mem_of_getElem? (i := 170) rfl)) rfl, mem_TT (in_t1 (List.mem_of_getElem? (i := 11) (by decide +kernel))) rfl, by decide +kernel, by decide, by decide, fun h => absurd h (by decide), fun _ => ⟨mem_TT (in_t6 (List.mem_of_getElem? (i := 169) (by decide +kernel))) rfl, Or.inl ⟨by decide, rfl⟩⟩, fun h => absurd h (by decide), fun _ _ => mem_TT (in_t0 (List.mem_of_getElem? (i := 48) (by decide +kernel))) rfl⟩
theorem mok193 : MOK 193 (yX11_readTerm, cX11_readTerm, 2, none, 11) := ⟨mem_TT (in_t6 (List.mem_of_getElem? (i := 174) rfl)) rfl, mem_TT (in_t1 (List.mem_of_getElem? (i := 11) (by decide +kernel))) rfl, by decide +kernel, by decide, by decide, fun h => absurd h (by decide), fun _ => ⟨mem_TT (in_t6 (List.mem_of_getElem? (i := 173) (by decide +kernel))) rfl, Or.inl ⟨by decide, rfl⟩⟩, fun h => absurd h (by decide), fun _ _ => mem_TT (in_t0 (List.mem_of_getElem? (i := 49) (by decide +kernel))) rfl⟩
theorem mok194 : MOK 194 (yX11_readPart, cX11_readPart, 3, none, 11) := ⟨mem_TT (in_t6 (List.mem_of_getElem? (i := 178) rfl)) rfl, mem_TT (in_t1 (List.mem_of_getElem? (i := 11) (by decide +kernel))) rfl, by decide +kernel, by decide, by decide, fun h => absurd h (by decide), fun _ => ⟨mem_TT (in_t6 (List.mem_of_getElem? (i := 177) (by decide +kernel))) rfl, Or.inl ⟨by decide, rfl⟩⟩, fun h => absurd h (by decide), fun _ _ => mem_TT (in_t0 (List.mem_of_getElem? (i := 50) (by decide +kernel))) rfl⟩
theorem mok195 : MOK 195 (yX11_reads, cX11_reads, 2, (some .boolean), 11) := ⟨mem_TT (in_t6 (List.mem_of_getElem? (i := 139) rfl)) rfl, mem_TT (in_t1 (List.mem_of_getElem? (i := 11) (by decide +kernel))) rfl, by decide +kernel, by decide, by decide, fun h => absurd h (by decide), fun _ => ⟨mem_TT (in_t6 (List.mem_of_getElem? (i := 138) (by decide +kernel))) rfl, Or.inl ⟨by decide, rfl⟩⟩, fun h => absurd h (by decide), fun _ _ => mem_TT (in_t0 (List.mem_of_getElem? (i := 42) (by decide +kernel))) rfl⟩
theorem mok196 : MOK 196 (yX11_law, cX11_law, 3, (some .int), 11) := ⟨mem_TT (in_t6 (List.mem_of_getElem? (i := 135) rfl)) rfl, mem_TT (in_t1 (List.mem_of_getElem? (i := 11) (by decide +kernel))) rfl, by decide +kernel, by decide, by decide, fun h => absurd h (by decide), fun _ => ⟨mem_TT (in_t6 (List.mem_of_getElem? (i := 133) (by decide +kernel))) rfl, Or.inl ⟨by decide, rfl⟩⟩, fun h => absurd h (by decide), fun _ _ => mem_TT (in_t6 (List.mem_of_getElem? (i := 134) (by decide +kernel))) rfl⟩
theorem mok197 : MOK 197 (yX11_fault, cX11_fault, 1, (some .int), 11) := ⟨mem_TT (in_t6 (List.mem_of_getElem? (i := 209) rfl)) rfl, mem_TT (in_t1 (List.mem_of_getElem? (i := 11) (by decide +kernel))) rfl, by decide +kernel, by decide, by decide, fun h => absurd h (by decide), fun _ => ⟨mem_TT (in_t6 (List.mem_of_getElem? (i := 207) (by decide +kernel))) rfl, Or.inl ⟨by decide, rfl⟩⟩, fun h => absurd h (by decide), fun _ _ => mem_TT (in_t6 (List.mem_of_getElem? (i := 208) (by decide +kernel))) rfl⟩
theorem mok198 : MOK 198 (yX11_force, cX11_force, 2, (some .int), 11) := ⟨mem_TT (in_t6 (List.mem_of_getElem? (i := 213) rfl)) rfl, mem_TT (in_t1 (List.mem_of_getElem? (i := 11) (by decide +kernel))) rfl, by decide +kernel, by decide, by decide, fun h => absurd h (by decide), fun _ => ⟨mem_TT (in_t6 (List.mem_of_getElem? (i := 211) (by decide +kernel))) rfl, Or.inl ⟨by decide, rfl⟩⟩, fun h => absurd h (by decide), fun _ _ => mem_TT (in_t6 (List.mem_of_getElem? (i := 212) (by decide +kernel))) rfl⟩
theorem mok199 : MOK 199 (yX11_codeAt, cX11_codeAt, 2, (some .int), 11) := ⟨mem_TT (in_t6 (List.mem_of_getElem? (i := 233) rfl)) rfl, mem_TT (in_t1 (List.mem_of_getElem? (i := 11) (by decide +kernel))) rfl, by decide +kernel, by decide, by decide, fun h => absurd h (by decide), fun _ => ⟨mem_TT (in_t6 (List.mem_of_getElem? (i := 232) (by decide +kernel))) rfl, Or.inl ⟨by decide, rfl⟩⟩, fun h => absurd h (by decide), fun _ _ => mem_TT (in_t0 (List.mem_of_getElem? (i := 60) (by decide +kernel))) rfl⟩
theorem mok200 : MOK 200 (yX11_passes0, cX11_passes0, 3, (some .boolean), 11) := ⟨mem_TT (in_t7 (List.mem_of_getElem? (i := 9) rfl)) rfl, mem_TT (in_t1 (List.mem_of_getElem? (i := 11) (by decide +kernel))) rfl, by decide +kernel, by decide, by decide, fun h => absurd h (by decide), fun _ => ⟨mem_TT (in_t7 (List.mem_of_getElem? (i := 8) (by decide +kernel))) rfl, Or.inl ⟨by decide, rfl⟩⟩, fun h => absurd h (by decide), fun _ _ => mem_TT (in_t0 (List.mem_of_getElem? (i := 64) (by decide +kernel))) rfl⟩
theorem mok201 : MOK 201 (yX11_bounded, cX11_bounded, 4, (some .long), 11) := ⟨mem_TT (in_t7 (List.mem_of_getElem? (i := 13) rfl)) rfl, mem_TT (in_t1 (List.mem_of_getElem? (i := 11) (by decide +kernel))) rfl, by decide +kernel, by decide, by decide, fun h => absurd h (by decide), fun _ => ⟨mem_TT (in_t7 (List.mem_of_getElem? (i := 12) (by decide +kernel))) rfl, Or.inl ⟨by decide, rfl⟩⟩, fun h => absurd h (by decide), fun _ _ => mem_TT (in_t0 (List.mem_of_getElem? (i := 65) (by decide +kernel))) rfl⟩
theorem mok202 : MOK 202 (yX11_sumOf, cX11_sumOf, 7, (some .long), 11) := ⟨mem_TT (in_t6 (List.mem_of_getElem? (i := 237) rfl)) rfl, mem_TT (in_t1 (List.mem_of_getElem? (i := 11) (by decide +kernel))) rfl, by decide +kernel, by decide, by decide, fun h => absurd h (by decide), fun _ => ⟨mem_TT (in_t6 (List.mem_of_getElem? (i := 236) (by decide +kernel))) rfl, Or.inl ⟨by decide, rfl⟩⟩, fun h => absurd h (by decide), fun _ _ => mem_TT (in_t0 (List.mem_of_getElem? (i := 61) (by decide +kernel))) rfl⟩
theorem mok203 : MOK 203 (yX11_termOf, cX11_termOf, 7, (some .long), 11) := ⟨mem_TT (in_t7 (List.mem_of_getElem? (i := 1) rfl)) rfl, mem_TT (in_t1 (List.mem_of_getElem? (i := 11) (by decide +kernel))) rfl, by decide +kernel, by decide, by decide, fun h => absurd h (by decide), fun _ => ⟨mem_TT (in_t7 (List.mem_of_getElem? (i := 0) (by decide +kernel))) rfl, Or.inl ⟨by decide, rfl⟩⟩, fun h => absurd h (by decide), fun _ _ => mem_TT (in_t0 (List.mem_of_getElem? (i := 62) (by decide +kernel))) rfl⟩
theorem mok204 : MOK 204 (yX11_partOf, cX11_partOf, 4, (some .long), 11) := ⟨mem_TT (in_t7 (List.mem_of_getElem? (i := 5) rfl)) rfl, mem_TT (in_t1 (List.mem_of_getElem? (i := 11) (by decide +kernel))) rfl, by decide +kernel, by decide, by decide, fun h => absurd h (by decide), fun _ => ⟨mem_TT (in_t7 (List.mem_of_getElem? (i := 4) (by decide +kernel))) rfl, Or.inl ⟨by decide, rfl⟩⟩, fun h => absurd h (by decide), fun _ _ => mem_TT (in_t0 (List.mem_of_getElem? (i := 63) (by decide +kernel))) rfl⟩
theorem mok205 : MOK 205 (yX11_testOf, cX11_testOf, 4, (some .boolean), 11) := ⟨mem_TT (in_t7 (List.mem_of_getElem? (i := 19) rfl)) rfl, mem_TT (in_t1 (List.mem_of_getElem? (i := 11) (by decide +kernel))) rfl, by decide +kernel, by decide, by decide, fun h => absurd h (by decide), fun _ => ⟨mem_TT (in_t7 (List.mem_of_getElem? (i := 18) (by decide +kernel))) rfl, Or.inl ⟨by decide, rfl⟩⟩, fun h => absurd h (by decide), fun _ _ => mem_TT (in_t0 (List.mem_of_getElem? (i := 66) (by decide +kernel))) rfl⟩
theorem mok206 : MOK 206 (yX11_bothOf, cX11_bothOf, 4, (some .boolean), 11) := ⟨mem_TT (in_t7 (List.mem_of_getElem? (i := 23) rfl)) rfl, mem_TT (in_t1 (List.mem_of_getElem? (i := 11) (by decide +kernel))) rfl, by decide +kernel, by decide, by decide, fun h => absurd h (by decide), fun _ => ⟨mem_TT (in_t7 (List.mem_of_getElem? (i := 22) (by decide +kernel))) rfl, Or.inl ⟨by decide, rfl⟩⟩, fun h => absurd h (by decide), fun _ _ => mem_TT (in_t0 (List.mem_of_getElem? (i := 67) (by decide +kernel))) rfl⟩
theorem mok207 : MOK 207 (yX11_plainOf, cX11_plainOf, 3, (some .boolean), 11) := ⟨mem_TT (in_t7 (List.mem_of_getElem? (i := 27) rfl)) rfl, mem_TT (in_t1 (List.mem_of_getElem? (i := 11) (by decide +kernel))) rfl, by decide +kernel, by decide, by decide, fun h => absurd h (by decide), fun _ => ⟨mem_TT (in_t7 (List.mem_of_getElem? (i := 26) (by decide +kernel))) rfl, Or.inl ⟨by decide, rfl⟩⟩, fun h => absurd h (by decide), fun _ _ => mem_TT (in_t0 (List.mem_of_getElem? (i := 68) (by decide +kernel))) rfl⟩
theorem mok208 : MOK 208 (yX11_positiveOf, cX11_positiveOf, 7, (some .boolean), 11) := ⟨mem_TT (in_t7 (List.mem_of_getElem? (i := 31) rfl)) rfl, mem_TT (in_t1 (List.mem_of_getElem? (i := 11) (by decide +kernel))) rfl, by decide +kernel, by decide, by decide, fun h => absurd h (by decide), fun _ => ⟨mem_TT (in_t7 (List.mem_of_getElem? (i := 30) (by decide +kernel))) rfl, Or.inl ⟨by decide, rfl⟩⟩, fun h => absurd h (by decide), fun _ _ => mem_TT (in_t0 (List.mem_of_getElem? (i := 69) (by decide +kernel))) rfl⟩
theorem mok209 : MOK 209 (yX11_asks, cX11_asks, 7, none, 11) := ⟨mem_TT (in_t6 (List.mem_of_getElem? (i := 229) rfl)) rfl, mem_TT (in_t1 (List.mem_of_getElem? (i := 11) (by decide +kernel))) rfl, by decide +kernel, by decide, by decide, fun h => absurd h (by decide), fun _ => ⟨mem_TT (in_t6 (List.mem_of_getElem? (i := 228) (by decide +kernel))) rfl, Or.inl ⟨by decide, rfl⟩⟩, fun h => absurd h (by decide), fun _ _ => mem_TT (in_t0 (List.mem_of_getElem? (i := 59) (by decide +kernel))) rfl⟩
theorem mok210 : MOK 210 (yX11_asksOf, cX11_asksOf, 7, none, 11) := ⟨mem_TT (in_t6 (List.mem_of_getElem? (i := 225) rfl)) rfl, mem_TT (in_t1 (List.mem_of_getElem? (i := 11) (by decide +kernel))) rfl, by decide +kernel, by decide, by decide, fun h => absurd h (by decide), fun _ => ⟨mem_TT (in_t6 (List.mem_of_getElem? (i := 224) (by decide +kernel))) rfl, Or.inl ⟨by decide, rfl⟩⟩, fun h => absurd h (by decide), fun _ _ => mem_TT (in_t0 (List.mem_of_getElem? (i := 58) (by decide +kernel))) rfl⟩
theorem mok211 : MOK 211 (yX11_goOf, cX11_goOf, 6, (some .int), 11) := ⟨mem_TT (in_t7 (List.mem_of_getElem? (i := 39) rfl)) rfl, mem_TT (in_t1 (List.mem_of_getElem? (i := 11) (by decide +kernel))) rfl, by decide +kernel, by decide, by decide, fun h => absurd h (by decide), fun _ => ⟨mem_TT (in_t7 (List.mem_of_getElem? (i := 38) (by decide +kernel))) rfl, Or.inl ⟨by decide, rfl⟩⟩, fun h => absurd h (by decide), fun _ _ => mem_TT (in_t0 (List.mem_of_getElem? (i := 71) (by decide +kernel))) rfl⟩
theorem mok212 : MOK 212 (yX11_at, cX11_at, 5, (some .int), 11) := ⟨mem_TT (in_t7 (List.mem_of_getElem? (i := 35) rfl)) rfl, mem_TT (in_t1 (List.mem_of_getElem? (i := 11) (by decide +kernel))) rfl, by decide +kernel, by decide, by decide, fun h => absurd h (by decide), fun _ => ⟨mem_TT (in_t7 (List.mem_of_getElem? (i := 34) (by decide +kernel))) rfl, Or.inl ⟨by decide, rfl⟩⟩, fun h => absurd h (by decide), fun _ _ => mem_TT (in_t0 (List.mem_of_getElem? (i := 70) (by decide +kernel))) rfl⟩
theorem mok213 : MOK 213 (yX11_looks, cX11_looks, 5, none, 11) := ⟨mem_TT (in_t6 (List.mem_of_getElem? (i := 221) rfl)) rfl, mem_TT (in_t1 (List.mem_of_getElem? (i := 11) (by decide +kernel))) rfl, by decide +kernel, by decide, by decide, fun h => absurd h (by decide), fun _ => ⟨mem_TT (in_t6 (List.mem_of_getElem? (i := 220) (by decide +kernel))) rfl, Or.inl ⟨by decide, rfl⟩⟩, fun h => absurd h (by decide), fun _ _ => mem_TT (in_t0 (List.mem_of_getElem? (i := 57) (by decide +kernel))) rfl⟩
theorem mok214 : MOK 214 (yX11_doorsBehind, cX11_doorsBehind, 3, (some .int), 11) := ⟨mem_TT (in_t7 (List.mem_of_getElem? (i := 74) rfl)) rfl, mem_TT (in_t1 (List.mem_of_getElem? (i := 11) (by decide +kernel))) rfl, by decide +kernel, by decide, by decide, fun h => absurd h (by decide), fun _ => ⟨mem_TT (in_t7 (List.mem_of_getElem? (i := 73) (by decide +kernel))) rfl, Or.inl ⟨by decide, rfl⟩⟩, fun h => absurd h (by decide), fun _ _ => mem_TT (in_t0 (List.mem_of_getElem? (i := 75) (by decide +kernel))) rfl⟩
theorem mok215 : MOK 215 (yX11_goes, cX11_goes, 5, (some .int), 11) := ⟨mem_TT (in_t6 (List.mem_of_getElem? (i := 217) rfl)) rfl, mem_TT (in_t1 (List.mem_of_getElem? (i := 11) (by decide +kernel))) rfl, by decide +kernel, by decide, by decide, fun h => absurd h (by decide), fun _ => ⟨mem_TT (in_t6 (List.mem_of_getElem? (i := 215) (by decide +kernel))) rfl, Or.inl ⟨by decide, rfl⟩⟩, fun h => absurd h (by decide), fun _ _ => mem_TT (in_t6 (List.mem_of_getElem? (i := 216) (by decide +kernel))) rfl⟩
theorem mok216 : MOK 216 (yX11_barred, cX11_barred, 3, (some .int), 11) := ⟨mem_TT (in_t7 (List.mem_of_getElem? (i := 43) rfl)) rfl, mem_TT (in_t1 (List.mem_of_getElem? (i := 11) (by decide +kernel))) rfl, by decide +kernel, by decide, by decide, fun h => absurd h (by decide), fun _ => ⟨mem_TT (in_t7 (List.mem_of_getElem? (i := 41) (by decide +kernel))) rfl, Or.inl ⟨by decide, rfl⟩⟩, fun h => absurd h (by decide), fun _ _ => mem_TT (in_t7 (List.mem_of_getElem? (i := 42) (by decide +kernel))) rfl⟩
theorem mok217 : MOK 217 (yX11_isSet, cX11_isSet, 5, (some .boolean), 11) := ⟨mem_TT (in_t7 (List.mem_of_getElem? (i := 59) rfl)) rfl, mem_TT (in_t1 (List.mem_of_getElem? (i := 11) (by decide +kernel))) rfl, by decide +kernel, by decide, by decide, fun h => absurd h (by decide), fun _ => ⟨mem_TT (in_t7 (List.mem_of_getElem? (i := 58) (by decide +kernel))) rfl, Or.inl ⟨by decide, rfl⟩⟩, fun h => absurd h (by decide), fun _ _ => mem_TT (in_t0 (List.mem_of_getElem? (i := 72) (by decide +kernel))) rfl⟩
theorem mok218 : MOK 218 (yX11_setBehind, cX11_setBehind, 9, (some .int), 11) := ⟨mem_TT (in_t7 (List.mem_of_getElem? (i := 67) rfl)) rfl, mem_TT (in_t1 (List.mem_of_getElem? (i := 11) (by decide +kernel))) rfl, by decide +kernel, by decide, by decide, fun h => absurd h (by decide), fun _ => ⟨mem_TT (in_t7 (List.mem_of_getElem? (i := 66) (by decide +kernel))) rfl, Or.inl ⟨by decide, rfl⟩⟩, fun h => absurd h (by decide), fun _ _ => mem_TT (in_t0 (List.mem_of_getElem? (i := 74) (by decide +kernel))) rfl⟩
theorem mok219 : MOK 219 (yX11_together, cX11_together, 4, (some .int), 11) := ⟨mem_TT (in_t7 (List.mem_of_getElem? (i := 96) rfl)) rfl, mem_TT (in_t1 (List.mem_of_getElem? (i := 11) (by decide +kernel))) rfl, by decide +kernel, by decide, by decide, fun _ => mem_TT (in_t7 (List.mem_of_getElem? (i := 95) (by decide +kernel))) rfl, fun h => absurd h (by decide), fun h => absurd h (by decide), fun h => absurd h (by decide)⟩
theorem mok220 : MOK 220 (yX11_call, cX11_call, 3, (some .int), 11) := ⟨mem_TT (in_t7 (List.mem_of_getElem? (i := 47) rfl)) rfl, mem_TT (in_t1 (List.mem_of_getElem? (i := 11) (by decide +kernel))) rfl, by decide +kernel, by decide, by decide, fun h => absurd h (by decide), fun _ => ⟨mem_TT (in_t7 (List.mem_of_getElem? (i := 45) (by decide +kernel))) rfl, Or.inl ⟨by decide, rfl⟩⟩, fun h => absurd h (by decide), fun _ _ => mem_TT (in_t7 (List.mem_of_getElem? (i := 46) (by decide +kernel))) rfl⟩
theorem mok221 : MOK 221 (yX11_tear, cX11_tear, 2, (some .int), 11) := ⟨mem_TT (in_t7 (List.mem_of_getElem? (i := 51) rfl)) rfl, mem_TT (in_t1 (List.mem_of_getElem? (i := 11) (by decide +kernel))) rfl, by decide +kernel, by decide, by decide, fun h => absurd h (by decide), fun _ => ⟨mem_TT (in_t7 (List.mem_of_getElem? (i := 49) (by decide +kernel))) rfl, Or.inl ⟨by decide, rfl⟩⟩, fun h => absurd h (by decide), fun _ _ => mem_TT (in_t7 (List.mem_of_getElem? (i := 50) (by decide +kernel))) rfl⟩
theorem mok222 : MOK 222 (yX11_calls, cX11_calls, 6, (some .boolean), 11) := ⟨mem_TT (in_t7 (List.mem_of_getElem? (i := 63) rfl)) rfl, mem_TT (in_t1 (List.mem_of_getElem? (i := 11) (by decide +kernel))) rfl, by decide +kernel, by decide, by decide, fun h => absurd h (by decide), fun _ => ⟨mem_TT (in_t7 (List.mem_of_getElem? (i := 62) (by decide +kernel))) rfl, Or.inl ⟨by decide, rfl⟩⟩, fun h => absurd h (by decide), fun _ _ => mem_TT (in_t0 (List.mem_of_getElem? (i := 73) (by decide +kernel))) rfl⟩
theorem mok223 : MOK 223 (yX11_after, cX11_after, 4, (some .int), 11) := ⟨mem_TT (in_t7 (List.mem_of_getElem? (i := 55) rfl)) rfl, mem_TT (in_t1 (List.mem_of_getElem? (i := 11) (by decide +kernel))) rfl, by decide +kernel, by decide, by decide, fun h => absurd h (by decide), fun _ => ⟨mem_TT (in_t7 (List.mem_of_getElem? (i := 53) (by decide +kernel))) rfl, Or.inl ⟨by decide, rfl⟩⟩, fun h => absurd h (by decide), fun _ _ => mem_TT (in_t7 (List.mem_of_getElem? (i := 54) (by decide +kernel))) rfl⟩
theorem mok224 : MOK 224 (yX11_open, cX11_open, 2, (some .int), 11) := ⟨mem_TT (in_t7 (List.mem_of_getElem? (i := 78) rfl)) rfl, mem_TT (in_t1 (List.mem_of_getElem? (i := 11) (by decide +kernel))) rfl, by decide +kernel, by decide, by decide, fun h => absurd h (by decide), fun _ => ⟨mem_TT (in_t7 (List.mem_of_getElem? (i := 76) (by decide +kernel))) rfl, Or.inl ⟨by decide, rfl⟩⟩, fun h => absurd h (by decide), fun _ _ => mem_TT (in_t7 (List.mem_of_getElem? (i := 77) (by decide +kernel))) rfl⟩
theorem mok225 : MOK 225 (yX11_behind, cX11_behind, 6, (some .int), 11) := ⟨mem_TT (in_t7 (List.mem_of_getElem? (i := 104) rfl)) rfl, mem_TT (in_t1 (List.mem_of_getElem? (i := 11) (by decide +kernel))) rfl, by decide +kernel, by decide, by decide, fun h => absurd h (by decide), fun _ => ⟨mem_TT (in_t7 (List.mem_of_getElem? (i := 103) (by decide +kernel))) rfl, Or.inl ⟨by decide, rfl⟩⟩, fun h => absurd h (by decide), fun _ _ => mem_TT (in_t0 (List.mem_of_getElem? (i := 78) (by decide +kernel))) rfl⟩
theorem mok226 : MOK 226 (yX11_isGoal, cX11_isGoal, 4, (some .boolean), 11) := ⟨mem_TT (in_t7 (List.mem_of_getElem? (i := 93) rfl)) rfl, mem_TT (in_t1 (List.mem_of_getElem? (i := 11) (by decide +kernel))) rfl, by decide +kernel, by decide, by decide, fun _ => mem_TT (in_t7 (List.mem_of_getElem? (i := 92) (by decide +kernel))) rfl, fun h => absurd h (by decide), fun h => absurd h (by decide), fun h => absurd h (by decide)⟩
theorem mok227 : MOK 227 (yX11_spreads, cX11_spreads, 10, none, 11) := ⟨mem_TT (in_t7 (List.mem_of_getElem? (i := 90) rfl)) rfl, mem_TT (in_t1 (List.mem_of_getElem? (i := 11) (by decide +kernel))) rfl, by decide +kernel, by decide, by decide, fun h => absurd h (by decide), fun _ => ⟨mem_TT (in_t7 (List.mem_of_getElem? (i := 89) (by decide +kernel))) rfl, Or.inl ⟨by decide, rfl⟩⟩, fun h => absurd h (by decide), fun _ _ => mem_TT (in_t0 (List.mem_of_getElem? (i := 77) (by decide +kernel))) rfl⟩
theorem mok228 : MOK 228 (yX11_added, cX11_added, 2, (some .int), 11) := ⟨mem_TT (in_t7 (List.mem_of_getElem? (i := 99) rfl)) rfl, mem_TT (in_t1 (List.mem_of_getElem? (i := 11) (by decide +kernel))) rfl, by decide +kernel, by decide, by decide, fun _ => mem_TT (in_t7 (List.mem_of_getElem? (i := 98) (by decide +kernel))) rfl, fun h => absurd h (by decide), fun h => absurd h (by decide), fun h => absurd h (by decide)⟩
theorem mok229 : MOK 229 (yX11_isTo, cX11_isTo, 2, (some .boolean), 11) := ⟨mem_TT (in_t7 (List.mem_of_getElem? (i := 86) rfl)) rfl, mem_TT (in_t1 (List.mem_of_getElem? (i := 11) (by decide +kernel))) rfl, by decide +kernel, by decide, by decide, fun h => absurd h (by decide), fun _ => ⟨mem_TT (in_t7 (List.mem_of_getElem? (i := 85) (by decide +kernel))) rfl, Or.inl ⟨by decide, rfl⟩⟩, fun h => absurd h (by decide), fun _ _ => mem_TT (in_t0 (List.mem_of_getElem? (i := 76) (by decide +kernel))) rfl⟩
theorem mok230 : MOK 230 (yX11_fewest, cX11_fewest, 4, (some .int), 11) := ⟨mem_TT (in_t7 (List.mem_of_getElem? (i := 82) rfl)) rfl, mem_TT (in_t1 (List.mem_of_getElem? (i := 11) (by decide +kernel))) rfl, by decide +kernel, by decide, by decide, fun h => absurd h (by decide), fun _ => ⟨mem_TT (in_t7 (List.mem_of_getElem? (i := 80) (by decide +kernel))) rfl, Or.inl ⟨by decide, rfl⟩⟩, fun h => absurd h (by decide), fun _ _ => mem_TT (in_t7 (List.mem_of_getElem? (i := 81) (by decide +kernel))) rfl⟩
theorem mok231 : MOK 231 (yX11_ways, cX11_ways, 4, (some .int), 11) := ⟨mem_TT (in_t7 (List.mem_of_getElem? (i := 108) rfl)) rfl, mem_TT (in_t1 (List.mem_of_getElem? (i := 11) (by decide +kernel))) rfl, by decide +kernel, by decide, by decide, fun h => absurd h (by decide), fun _ => ⟨mem_TT (in_t7 (List.mem_of_getElem? (i := 106) (by decide +kernel))) rfl, Or.inl ⟨by decide, rfl⟩⟩, fun h => absurd h (by decide), fun _ _ => mem_TT (in_t7 (List.mem_of_getElem? (i := 107) (by decide +kernel))) rfl⟩
theorem mok232 : MOK 232 (yX11_spell, cX11_spell, 5, (some .int), 11) := ⟨mem_TT (in_t7 (List.mem_of_getElem? (i := 112) rfl)) rfl, mem_TT (in_t1 (List.mem_of_getElem? (i := 11) (by decide +kernel))) rfl, by decide +kernel, by decide, by decide, fun h => absurd h (by decide), fun _ => ⟨mem_TT (in_t7 (List.mem_of_getElem? (i := 110) (by decide +kernel))) rfl, Or.inl ⟨by decide, rfl⟩⟩, fun h => absurd h (by decide), fun _ _ => mem_TT (in_t7 (List.mem_of_getElem? (i := 111) (by decide +kernel))) rfl⟩
theorem mok233 : MOK 233 (yX11_spells, cX11_spells, 8, none, 11) := ⟨mem_TT (in_t7 (List.mem_of_getElem? (i := 116) rfl)) rfl, mem_TT (in_t1 (List.mem_of_getElem? (i := 11) (by decide +kernel))) rfl, by decide +kernel, by decide, by decide, fun h => absurd h (by decide), fun _ => ⟨mem_TT (in_t7 (List.mem_of_getElem? (i := 115) (by decide +kernel))) rfl, Or.inl ⟨by decide, rfl⟩⟩, fun h => absurd h (by decide), fun _ _ => mem_TT (in_t0 (List.mem_of_getElem? (i := 79) (by decide +kernel))) rfl⟩
theorem mok234 : MOK 234 (yX11_leads, cX11_leads, 5, (some .boolean), 11) := ⟨mem_TT (in_t7 (List.mem_of_getElem? (i := 120) rfl)) rfl, mem_TT (in_t1 (List.mem_of_getElem? (i := 11) (by decide +kernel))) rfl, by decide +kernel, by decide, by decide, fun h => absurd h (by decide), fun _ => ⟨mem_TT (in_t7 (List.mem_of_getElem? (i := 119) (by decide +kernel))) rfl, Or.inl ⟨by decide, rfl⟩⟩, fun h => absurd h (by decide), fun _ _ => mem_TT (in_t0 (List.mem_of_getElem? (i := 80) (by decide +kernel))) rfl⟩
theorem mok235 : MOK 235 (yX11_without, cX11_without, 4, (some .int), 11) := ⟨mem_TT (in_t7 (List.mem_of_getElem? (i := 124) rfl)) rfl, mem_TT (in_t1 (List.mem_of_getElem? (i := 11) (by decide +kernel))) rfl, by decide +kernel, by decide, by decide, fun h => absurd h (by decide), fun _ => ⟨mem_TT (in_t7 (List.mem_of_getElem? (i := 122) (by decide +kernel))) rfl, Or.inl ⟨by decide, rfl⟩⟩, fun h => absurd h (by decide), fun _ _ => mem_TT (in_t7 (List.mem_of_getElem? (i := 123) (by decide +kernel))) rfl⟩
theorem mok236 : MOK 236 (yX11_spare, cX11_spare, 5, (some .int), 11) := ⟨mem_TT (in_t7 (List.mem_of_getElem? (i := 128) rfl)) rfl, mem_TT (in_t1 (List.mem_of_getElem? (i := 11) (by decide +kernel))) rfl, by decide +kernel, by decide, by decide, fun h => absurd h (by decide), fun _ => ⟨mem_TT (in_t7 (List.mem_of_getElem? (i := 126) (by decide +kernel))) rfl, Or.inl ⟨by decide, rfl⟩⟩, fun h => absurd h (by decide), fun _ _ => mem_TT (in_t7 (List.mem_of_getElem? (i := 127) (by decide +kernel))) rfl⟩
theorem mok237 : MOK 237 (yX11_cycle, cX11_cycle, 7, (some .int), 11) := ⟨mem_TT (in_t7 (List.mem_of_getElem? (i := 134) rfl)) rfl, mem_TT (in_t1 (List.mem_of_getElem? (i := 11) (by decide +kernel))) rfl, by decide +kernel, by decide, by decide, fun h => absurd h (by decide), fun _ => ⟨mem_TT (in_t7 (List.mem_of_getElem? (i := 132) (by decide +kernel))) rfl, Or.inl ⟨by decide, rfl⟩⟩, fun h => absurd h (by decide), fun _ _ => mem_TT (in_t7 (List.mem_of_getElem? (i := 133) (by decide +kernel))) rfl⟩
theorem mok238 : MOK 238 (yX11_trace, cX11_trace, 9, (some .int), 11) := ⟨mem_TT (in_t7 (List.mem_of_getElem? (i := 138) rfl)) rfl, mem_TT (in_t1 (List.mem_of_getElem? (i := 11) (by decide +kernel))) rfl, by decide +kernel, by decide, by decide, fun h => absurd h (by decide), fun _ => ⟨mem_TT (in_t7 (List.mem_of_getElem? (i := 136) (by decide +kernel))) rfl, Or.inl ⟨by decide, rfl⟩⟩, fun h => absurd h (by decide), fun _ _ => mem_TT (in_t7 (List.mem_of_getElem? (i := 137) (by decide +kernel))) rfl⟩
theorem mok239 : MOK 239 (yX11_stands, cX11_stands, 3, (some .int), 11) := ⟨mem_TT (in_t7 (List.mem_of_getElem? (i := 143) rfl)) rfl, mem_TT (in_t1 (List.mem_of_getElem? (i := 11) (by decide +kernel))) rfl, by decide +kernel, by decide, by decide, fun h => absurd h (by decide), fun _ => ⟨mem_TT (in_t7 (List.mem_of_getElem? (i := 141) (by decide +kernel))) rfl, Or.inl ⟨by decide, rfl⟩⟩, fun h => absurd h (by decide), fun _ _ => mem_TT (in_t7 (List.mem_of_getElem? (i := 142) (by decide +kernel))) rfl⟩
theorem mok240 : MOK 240 (yX11_pairOf, cX11_pairOf, 6, (some .int), 11) := ⟨mem_TT (in_t7 (List.mem_of_getElem? (i := 151) rfl)) rfl, mem_TT (in_t1 (List.mem_of_getElem? (i := 11) (by decide +kernel))) rfl, by decide +kernel, by decide, by decide, fun h => absurd h (by decide), fun _ => ⟨mem_TT (in_t7 (List.mem_of_getElem? (i := 150) (by decide +kernel))) rfl, Or.inl ⟨by decide, rfl⟩⟩, fun h => absurd h (by decide), fun _ _ => mem_TT (in_t0 (List.mem_of_getElem? (i := 81) (by decide +kernel))) rfl⟩
theorem mok241 : MOK 241 (yX11_pair, cX11_pair, 4, (some .int), 11) := ⟨mem_TT (in_t7 (List.mem_of_getElem? (i := 147) rfl)) rfl, mem_TT (in_t1 (List.mem_of_getElem? (i := 11) (by decide +kernel))) rfl, by decide +kernel, by decide, by decide, fun h => absurd h (by decide), fun _ => ⟨mem_TT (in_t7 (List.mem_of_getElem? (i := 145) (by decide +kernel))) rfl, Or.inl ⟨by decide, rfl⟩⟩, fun h => absurd h (by decide), fun _ _ => mem_TT (in_t7 (List.mem_of_getElem? (i := 146) (by decide +kernel))) rfl⟩
theorem mok242 : MOK 242 (yX11_which, cX11_which, 7, (some .int), 11) := ⟨mem_TT (in_t7 (List.mem_of_getElem? (i := 155) rfl)) rfl, mem_TT (in_t1 (List.mem_of_getElem? (i := 11) (by decide +kernel))) rfl, by decide +kernel, by decide, by decide, fun h => absurd h (by decide), fun _ => ⟨mem_TT (in_t7 (List.mem_of_getElem? (i := 153) (by decide +kernel))) rfl, Or.inl ⟨by decide, rfl⟩⟩, fun h => absurd h (by decide), fun _ _ => mem_TT (in_t7 (List.mem_of_getElem? (i := 154) (by decide +kernel))) rfl⟩
theorem mok243 : MOK 243 (yX11_farthest, cX11_farthest, 6, (some .int), 11) := ⟨mem_TT (in_t7 (List.mem_of_getElem? (i := 160) rfl)) rfl, mem_TT (in_t1 (List.mem_of_getElem? (i := 11) (by decide +kernel))) rfl, by decide +kernel, by decide, by decide, fun h => absurd h (by decide), fun _ => ⟨mem_TT (in_t7 (List.mem_of_getElem? (i := 158) (by decide +kernel))) rfl, Or.inl ⟨by decide, rfl⟩⟩, fun h => absurd h (by decide), fun _ _ => mem_TT (in_t7 (List.mem_of_getElem? (i := 159) (by decide +kernel))) rfl⟩
theorem mok244 : MOK 244 (yX11_bar, cX11_bar, 4, (some .int), 11) := ⟨mem_TT (in_t7 (List.mem_of_getElem? (i := 164) rfl)) rfl, mem_TT (in_t1 (List.mem_of_getElem? (i := 11) (by decide +kernel))) rfl, by decide +kernel, by decide, by decide, fun h => absurd h (by decide), fun _ => ⟨mem_TT (in_t7 (List.mem_of_getElem? (i := 162) (by decide +kernel))) rfl, Or.inl ⟨by decide, rfl⟩⟩, fun h => absurd h (by decide), fun _ _ => mem_TT (in_t7 (List.mem_of_getElem? (i := 163) (by decide +kernel))) rfl⟩
theorem mok245 : MOK 245 (yX11_plod, cX11_plod, 12, (some .int), 11) := ⟨mem_TT (in_t7 (List.mem_of_getElem? (i := 168) rfl)) rfl, mem_TT (in_t1 (List.mem_of_getElem? (i := 11) (by decide +kernel))) rfl, by decide +kernel, by decide, by decide, fun h => absurd h (by decide), fun _ => ⟨mem_TT (in_t7 (List.mem_of_getElem? (i := 166) (by decide +kernel))) rfl, Or.inl ⟨by decide, rfl⟩⟩, fun h => absurd h (by decide), fun _ _ => mem_TT (in_t7 (List.mem_of_getElem? (i := 167) (by decide +kernel))) rfl⟩
theorem mok246 : MOK 246 (yX11_sightBehind, cX11_sightBehind, 11, (some .int), 11) := ⟨mem_TT (in_t7 (List.mem_of_getElem? (i := 180) rfl)) rfl, mem_TT (in_t1 (List.mem_of_getElem? (i := 11) (by decide +kernel))) rfl, by decide +kernel, by decide, by decide, fun h => absurd h (by decide), fun _ => ⟨mem_TT (in_t7 (List.mem_of_getElem? (i := 179) (by decide +kernel))) rfl, Or.inl ⟨by decide, rfl⟩⟩, fun h => absurd h (by decide), fun _ _ => mem_TT (in_t0 (List.mem_of_getElem? (i := 83) (by decide +kernel))) rfl⟩
theorem mok247 : MOK 247 (yX11_sights, cX11_sights, 8, none, 11) := ⟨mem_TT (in_t7 (List.mem_of_getElem? (i := 176) rfl)) rfl, mem_TT (in_t1 (List.mem_of_getElem? (i := 11) (by decide +kernel))) rfl, by decide +kernel, by decide, by decide, fun h => absurd h (by decide), fun _ => ⟨mem_TT (in_t7 (List.mem_of_getElem? (i := 175) (by decide +kernel))) rfl, Or.inl ⟨by decide, rfl⟩⟩, fun h => absurd h (by decide), fun _ _ => mem_TT (in_t0 (List.mem_of_getElem? (i := 82) (by decide +kernel))) rfl⟩
theorem mok248 : MOK 248 (yX11_sight, cX11_sight, 2, (some .int), 11) := ⟨mem_TT (in_t7 (List.mem_of_getElem? (i := 172) rfl)) rfl, mem_TT (in_t1 (List.mem_of_getElem? (i := 11) (by decide +kernel))) rfl, by decide +kernel, by decide, by decide, fun h => absurd h (by decide), fun _ => ⟨mem_TT (in_t7 (List.mem_of_getElem? (i := 170) (by decide +kernel))) rfl, Or.inl ⟨by decide, rfl⟩⟩, fun h => absurd h (by decide), fun _ _ => mem_TT (in_t7 (List.mem_of_getElem? (i := 171) (by decide +kernel))) rfl⟩
theorem mok249 : MOK 249 (yX11_ask, cX11_ask, 4, (some .int), 11) := ⟨mem_TT (in_t7 (List.mem_of_getElem? (i := 184) rfl)) rfl, mem_TT (in_t1 (List.mem_of_getElem? (i := 11) (by decide +kernel))) rfl, by decide +kernel, by decide, by decide, fun h => absurd h (by decide), fun _ => ⟨mem_TT (in_t7 (List.mem_of_getElem? (i := 182) (by decide +kernel))) rfl, Or.inl ⟨by decide, rfl⟩⟩, fun h => absurd h (by decide), fun _ _ => mem_TT (in_t7 (List.mem_of_getElem? (i := 183) (by decide +kernel))) rfl⟩
theorem mok250 : MOK 250 (yX11_isNumber, cX11_isNumber, 1, (some .boolean), 11) := ⟨mem_TT (in_t7 (List.mem_of_getElem? (i := 192) rfl)) rfl, mem_TT (in_t1 (List.mem_of_getElem? (i := 11) (by decide +kernel))) rfl, by decide +kernel, by decide, by decide, fun _ => mem_TT (in_t7 (List.mem_of_getElem? (i := 191) (by decide +kernel))) rfl, fun h => absurd h (by decide), fun h => absurd h (by decide), fun h => absurd h (by decide)⟩
theorem mok251 : MOK 251 (yX11_hold, cX11_hold, 2, (some .int), 11) := ⟨mem_TT (in_t7 (List.mem_of_getElem? (i := 189) rfl)) rfl, mem_TT (in_t1 (List.mem_of_getElem? (i := 11) (by decide +kernel))) rfl, by decide +kernel, by decide, by decide, fun h => absurd h (by decide), fun _ => ⟨mem_TT (in_t7 (List.mem_of_getElem? (i := 187) (by decide +kernel))) rfl, Or.inl ⟨by decide, rfl⟩⟩, fun h => absurd h (by decide), fun _ _ => mem_TT (in_t7 (List.mem_of_getElem? (i := 188) (by decide +kernel))) rfl⟩
theorem mok252 : MOK 252 (yX11_drop, cX11_drop, 2, (some .int), 11) := ⟨mem_TT (in_t7 (List.mem_of_getElem? (i := 196) rfl)) rfl, mem_TT (in_t1 (List.mem_of_getElem? (i := 11) (by decide +kernel))) rfl, by decide +kernel, by decide, by decide, fun h => absurd h (by decide), fun _ => ⟨mem_TT (in_t7 (List.mem_of_getElem? (i := 194) (by decide +kernel))) rfl, Or.inl ⟨by decide, rfl⟩⟩, fun h => absurd h (by decide), fun _ _ => mem_TT (in_t7 (List.mem_of_getElem? (i := 195) (by decide +kernel))) rfl⟩
theorem mok253 : MOK 253 (yX11_held, cX11_held, 2, (some .int), 11) := ⟨mem_TT (in_t7 (List.mem_of_getElem? (i := 200) rfl)) rfl, mem_TT (in_t1 (List.mem_of_getElem? (i := 11) (by decide +kernel))) rfl, by decide +kernel, by decide, by decide, fun h => absurd h (by decide), fun _ => ⟨mem_TT (in_t7 (List.mem_of_getElem? (i := 198) (by decide +kernel))) rfl, Or.inl ⟨by decide, rfl⟩⟩, fun h => absurd h (by decide), fun _ _ => mem_TT (in_t7 (List.mem_of_getElem? (i := 199) (by decide +kernel))) rfl⟩
theorem mok254 : MOK 254 (yX11_below, cX11_below, 4, (some .int), 11) := ⟨mem_TT (in_t7 (List.mem_of_getElem? (i := 208) rfl)) rfl, mem_TT (in_t1 (List.mem_of_getElem? (i := 11) (by decide +kernel))) rfl, by decide +kernel, by decide, by decide, fun h => absurd h (by decide), fun _ => ⟨mem_TT (in_t7 (List.mem_of_getElem? (i := 207) (by decide +kernel))) rfl, Or.inl ⟨by decide, rfl⟩⟩, fun h => absurd h (by decide), fun _ _ => mem_TT (in_t0 (List.mem_of_getElem? (i := 84) (by decide +kernel))) rfl⟩
theorem mok255 : MOK 255 (yX11_kth, cX11_kth, 4, (some .int), 11) := ⟨mem_TT (in_t7 (List.mem_of_getElem? (i := 204) rfl)) rfl, mem_TT (in_t1 (List.mem_of_getElem? (i := 11) (by decide +kernel))) rfl, by decide +kernel, by decide, by decide, fun h => absurd h (by decide), fun _ => ⟨mem_TT (in_t7 (List.mem_of_getElem? (i := 202) (by decide +kernel))) rfl, Or.inl ⟨by decide, rfl⟩⟩, fun h => absurd h (by decide), fun _ _ => mem_TT (in_t7 (List.mem_of_getElem? (i := 203) (by decide +kernel))) rfl⟩
theorem mok256 : MOK 256 (yX11_rank, cX11_rank, 2, (some .int), 11) := ⟨mem_TT (in_t7 (List.mem_of_getElem? (i := 212) rfl)) rfl, mem_TT (in_t1 (List.mem_of_getElem? (i := 11) (by decide +kernel))) rfl, by decide +kernel, by decide, by decide, fun h => absurd h (by decide), fun _ => ⟨mem_TT (in_t7 (List.mem_of_getElem? (i := 210) (by decide +kernel))) rfl, Or.inl ⟨by decide, rfl⟩⟩, fun h => absurd h (by decide), fun _ _ => mem_TT (in_t7 (List.mem_of_getElem? (i := 211) (by decide +kernel))) rfl⟩
theorem mok257 : MOK 257 (yX11_about, cX11_about, 6, (some .int), 11) := ⟨mem_TT (in_t7 (List.mem_of_getElem? (i := 216) rfl)) rfl, mem_TT (in_t1 (List.mem_of_getElem? (i := 11) (by decide +kernel))) rfl, by decide +kernel, by decide, by decide, fun h => absurd h (by decide), fun _ => ⟨mem_TT (in_t7 (List.mem_of_getElem? (i := 214) (by decide +kernel))) rfl, Or.inl ⟨by decide, rfl⟩⟩, fun h => absurd h (by decide), fun _ _ => mem_TT (in_t7 (List.mem_of_getElem? (i := 215) (by decide +kernel))) rfl⟩
theorem mok258 : MOK 258 (yX11_near, cX11_near, 8, (some .int), 11) := ⟨mem_TT (in_t7 (List.mem_of_getElem? (i := 220) rfl)) rfl, mem_TT (in_t1 (List.mem_of_getElem? (i := 11) (by decide +kernel))) rfl, by decide +kernel, by decide, by decide, fun h => absurd h (by decide), fun _ => ⟨mem_TT (in_t7 (List.mem_of_getElem? (i := 218) (by decide +kernel))) rfl, Or.inl ⟨by decide, rfl⟩⟩, fun h => absurd h (by decide), fun _ _ => mem_TT (in_t7 (List.mem_of_getElem? (i := 219) (by decide +kernel))) rfl⟩
theorem mok259 : MOK 259 (yX11_between, cX11_between, 3, (some .int), 11) := ⟨mem_TT (in_t7 (List.mem_of_getElem? (i := 224) rfl)) rfl, mem_TT (in_t1 (List.mem_of_getElem? (i := 11) (by decide +kernel))) rfl, by decide +kernel, by decide, by decide, fun h => absurd h (by decide), fun _ => ⟨mem_TT (in_t7 (List.mem_of_getElem? (i := 222) (by decide +kernel))) rfl, Or.inl ⟨by decide, rfl⟩⟩, fun h => absurd h (by decide), fun _ _ => mem_TT (in_t7 (List.mem_of_getElem? (i := 223) (by decide +kernel))) rfl⟩
theorem mok260 : MOK 260 (yX11_walker, cX11_walker, 4, (some .int), 11) := ⟨mem_TT (in_t7 (List.mem_of_getElem? (i := 228) rfl)) rfl, mem_TT (in_t1 (List.mem_of_getElem? (i := 11) (by decide +kernel))) rfl, by decide +kernel, by decide, by decide, fun h => absurd h (by decide), fun _ => ⟨mem_TT (in_t7 (List.mem_of_getElem? (i := 226) (by decide +kernel))) rfl, Or.inl ⟨by decide, rfl⟩⟩, fun h => absurd h (by decide), fun _ _ => mem_TT (in_t7 (List.mem_of_getElem? (i := 227) (by decide +kernel))) rfl⟩
theorem mok261 : MOK 261 (yX11_where, cX11_where, 2, (some .int), 11) := ⟨mem_TT (in_t7 (List.mem_of_getElem? (i := 232) rfl)) rfl, mem_TT (in_t1 (List.mem_of_getElem? (i := 11) (by decide +kernel))) rfl, by decide +kernel, by decide, by decide, fun h => absurd h (by decide), fun _ => ⟨mem_TT (in_t7 (List.mem_of_getElem? (i := 230) (by decide +kernel))) rfl, Or.inl ⟨by decide, rfl⟩⟩, fun h => absurd h (by decide), fun _ _ => mem_TT (in_t7 (List.mem_of_getElem? (i := 231) (by decide +kernel))) rfl⟩
theorem mok262 : MOK 262 (yX11_say, cX11_say, 6, (some .int), 11) := ⟨mem_TT (in_t7 (List.mem_of_getElem? (i := 236) rfl)) rfl, mem_TT (in_t1 (List.mem_of_getElem? (i := 11) (by decide +kernel))) rfl, by decide +kernel, by decide, by decide, fun h => absurd h (by decide), fun _ => ⟨mem_TT (in_t7 (List.mem_of_getElem? (i := 234) (by decide +kernel))) rfl, Or.inl ⟨by decide, rfl⟩⟩, fun h => absurd h (by decide), fun _ _ => mem_TT (in_t7 (List.mem_of_getElem? (i := 235) (by decide +kernel))) rfl⟩
theorem mok263 : MOK 263 (yX11_horn, cX11_horn, 9, (some .int), 11) := ⟨mem_TT (in_t8 (List.mem_of_getElem? (i := 0) rfl)) rfl, mem_TT (in_t1 (List.mem_of_getElem? (i := 11) (by decide +kernel))) rfl, by decide +kernel, by decide, by decide, fun h => absurd h (by decide), fun _ => ⟨mem_TT (in_t7 (List.mem_of_getElem? (i := 238) (by decide +kernel))) rfl, Or.inl ⟨by decide, rfl⟩⟩, fun h => absurd h (by decide), fun _ _ => mem_TT (in_t7 (List.mem_of_getElem? (i := 239) (by decide +kernel))) rfl⟩
theorem mok264 : MOK 264 (yX11_drawn, cX11_drawn, 2, (some .int), 11) := ⟨mem_TT (in_t8 (List.mem_of_getElem? (i := 7) rfl)) rfl, mem_TT (in_t1 (List.mem_of_getElem? (i := 11) (by decide +kernel))) rfl, by decide +kernel, by decide, by decide, fun h => absurd h (by decide), fun _ => ⟨mem_TT (in_t8 (List.mem_of_getElem? (i := 5) (by decide +kernel))) rfl, Or.inl ⟨by decide, rfl⟩⟩, fun h => absurd h (by decide), fun _ _ => mem_TT (in_t8 (List.mem_of_getElem? (i := 6) (by decide +kernel))) rfl⟩
theorem mok265 : MOK 265 (yX11_count, cX11_count, 2, (some .int), 11) := ⟨mem_TT (in_t8 (List.mem_of_getElem? (i := 11) rfl)) rfl, mem_TT (in_t1 (List.mem_of_getElem? (i := 11) (by decide +kernel))) rfl, by decide +kernel, by decide, by decide, fun h => absurd h (by decide), fun _ => ⟨mem_TT (in_t8 (List.mem_of_getElem? (i := 9) (by decide +kernel))) rfl, Or.inl ⟨by decide, rfl⟩⟩, fun h => absurd h (by decide), fun _ _ => mem_TT (in_t8 (List.mem_of_getElem? (i := 10) (by decide +kernel))) rfl⟩
theorem mok266 : MOK 266 (yX11_status, cX11_status, 1, (some .int), 11) := ⟨mem_TT (in_t8 (List.mem_of_getElem? (i := 15) rfl)) rfl, mem_TT (in_t1 (List.mem_of_getElem? (i := 11) (by decide +kernel))) rfl, by decide +kernel, by decide, by decide, fun h => absurd h (by decide), fun _ => ⟨mem_TT (in_t8 (List.mem_of_getElem? (i := 13) (by decide +kernel))) rfl, Or.inl ⟨by decide, rfl⟩⟩, fun h => absurd h (by decide), fun _ _ => mem_TT (in_t8 (List.mem_of_getElem? (i := 14) (by decide +kernel))) rfl⟩
theorem mok267 : MOK 267 (yJ6_highestOneBit_0f7a4, cJ6_highestOneBit_0f7a4, 1, (some .int), 99) := ⟨mem_TT (in_t4 (List.mem_of_getElem? (i := 88) rfl)) rfl, mem_TT (in_t1 (List.mem_of_getElem? (i := 21) (by decide +kernel))) rfl, by decide +kernel, by decide, by decide, fun _ => mem_TT (in_t4 (List.mem_of_getElem? (i := 87) (by decide +kernel))) rfl, fun h => absurd h (by decide), fun h => absurd h (by decide), fun h => absurd h (by decide)⟩
theorem mok268 : MOK 268 (yJ6_numberOfLeadingZeros_0f7a4, cJ6_numberOfLeadingZeros_0f7a4, 2, (some .int), 99) := ⟨mem_TT (in_t4 (List.mem_of_getElem? (i := 92) rfl)) rfl, mem_TT (in_t1 (List.mem_of_getElem? (i := 21) (by decide +kernel))) rfl, by decide +kernel, by decide, by decide, fun _ => mem_TT (in_t4 (List.mem_of_getElem? (i := 91) (by decide +kernel))) rfl, fun h => absurd h (by decide), fun h => absurd h (by decide), fun h => absurd h (by decide)⟩
theorem mok269 : MOK 269 (yJ6_numberOfTrailingZeros_0f7a4, cJ6_numberOfTrailingZeros_0f7a4, 2, (some .int), 99) := ⟨mem_TT (in_t4 (List.mem_of_getElem? (i := 24) rfl)) rfl, mem_TT (in_t1 (List.mem_of_getElem? (i := 21) (by decide +kernel))) rfl, by decide +kernel, by decide, by decide, fun _ => mem_TT (in_t4 (List.mem_of_getElem? (i := 23) (by decide +kernel))) rfl, fun h => absurd h (by decide), fun h => absurd h (by decide), fun h => absurd h (by decide)⟩
theorem mok270 : MOK 270 (yJ6_bitCount_0f7a4, cJ6_bitCount_0f7a4, 1, (some .int), 99) := ⟨mem_TT (in_t4 (List.mem_of_getElem? (i := 104) rfl)) rfl, mem_TT (in_t1 (List.mem_of_getElem? (i := 21) (by decide +kernel))) rfl, by decide +kernel, by decide, by decide, fun _ => mem_TT (in_t4 (List.mem_of_getElem? (i := 103) (by decide +kernel))) rfl, fun h => absurd h (by decide), fun h => absurd h (by decide), fun h => absurd h (by decide)⟩
theorem mok271 : MOK 271 (yJ7_fill_53178, cJ7_fill_53178, 4, none, 99) := ⟨mem_TT (in_t2 (List.mem_of_getElem? (i := 181) rfl)) rfl, mem_TT (in_t1 (List.mem_of_getElem? (i := 12) (by decide +kernel))) rfl, by decide +kernel, by decide, by decide, fun _ => mem_TT (in_t2 (List.mem_of_getElem? (i := 180) (by decide +kernel))) rfl, fun h => absurd h (by decide), fun h => absurd h (by decide), fun h => absurd h (by decide)⟩
theorem mok272 : MOK 272 (yJ7_copyOf_59c91, cJ7_copyOf_59c91, 3, (some (.array .int)), 99) := ⟨mem_TT (in_t3 (List.mem_of_getElem? (i := 137) rfl)) rfl, mem_TT (in_t1 (List.mem_of_getElem? (i := 12) (by decide +kernel))) rfl, by decide +kernel, by decide, by decide, fun _ => mem_TT (in_t3 (List.mem_of_getElem? (i := 136) (by decide +kernel))) rfl, fun h => absurd h (by decide), fun h => absurd h (by decide), fun h => absurd h (by decide)⟩
theorem mok273 : MOK 273 (yJ0_length_8abf5, cJ0_length_8abf5, 1, (some .int), 90) := ⟨mem_TT (in_t3 (List.mem_of_getElem? (i := 34) rfl)) rfl, mem_TT (in_t1 (List.mem_of_getElem? (i := 14) (by decide +kernel))) rfl, by decide +kernel, by decide, by decide, fun h => absurd h (by decide), fun _ => ⟨mem_TT (in_t3 (List.mem_of_getElem? (i := 32) (by decide +kernel))) rfl, Or.inr ⟨rfl, rfl⟩⟩, fun h => absurd h (by decide), fun _ _ => mem_TT (in_t3 (List.mem_of_getElem? (i := 33) (by decide +kernel))) rfl⟩
theorem mok274 : MOK 274 (yJ0_charAt_5068e, cJ0_charAt_5068e, 2, (some .char), 90) := ⟨mem_TT (in_t3 (List.mem_of_getElem? (i := 44) rfl)) rfl, mem_TT (in_t1 (List.mem_of_getElem? (i := 14) (by decide +kernel))) rfl, by decide +kernel, by decide, by decide, fun h => absurd h (by decide), fun _ => ⟨mem_TT (in_t3 (List.mem_of_getElem? (i := 42) (by decide +kernel))) rfl, Or.inr ⟨rfl, rfl⟩⟩, fun h => absurd h (by decide), fun _ _ => mem_TT (in_t3 (List.mem_of_getElem? (i := 43) (by decide +kernel))) rfl⟩
theorem mok275 : MOK 275 (yJ0_coder_7d493, cJ0_coder_7d493, 1, (some .byte), 90) := ⟨mem_TT (in_t3 (List.mem_of_getElem? (i := 38) rfl)) rfl, mem_TT (in_t1 (List.mem_of_getElem? (i := 14) (by decide +kernel))) rfl, by decide +kernel, by decide, by decide, fun h => absurd h (by decide), fun _ => ⟨mem_TT (in_t3 (List.mem_of_getElem? (i := 36) (by decide +kernel))) rfl, Or.inr ⟨rfl, rfl⟩⟩, fun h => absurd h (by decide), fun _ _ => mem_TT (in_t3 (List.mem_of_getElem? (i := 37) (by decide +kernel))) rfl⟩
theorem mok276 : MOK 276 (yJ0_isLatin1_aae02, cJ0_isLatin1_aae02, 1, (some .boolean), 90) := ⟨mem_TT (in_t3 (List.mem_of_getElem? (i := 48) rfl)) rfl, mem_TT (in_t1 (List.mem_of_getElem? (i := 14) (by decide +kernel))) rfl, by decide +kernel, by decide, by decide, fun h => absurd h (by decide), fun _ => ⟨mem_TT (in_t3 (List.mem_of_getElem? (i := 46) (by decide +kernel))) rfl, Or.inr ⟨rfl, rfl⟩⟩, fun h => absurd h (by decide), fun _ _ => mem_TT (in_t3 (List.mem_of_getElem? (i := 47) (by decide +kernel))) rfl⟩
theorem mok277 : MOK 277 (yJ0_checkIndex_df160, cJ0_checkIndex_df160, 2, none, 90) := ⟨mem_TT (in_t3 (List.mem_of_getElem? (i := 54) rfl)) rfl, mem_TT (in_t1 (List.mem_of_getElem? (i := 14) (by decide +kernel))) rfl, by decide +kernel, by decide, by decide, fun _ => mem_TT (in_t3 (List.mem_of_getElem? (i := 53) (by decide +kernel))) rfl, fun h => absurd h (by decide), fun h => absurd h (by decide), fun h => absurd h (by decide)⟩
theorem mok278 : MOK 278 (yJ1_charAt_3b067, cJ1_charAt_3b067, 2, (some .char), 99) := ⟨mem_TT (in_t3 (List.mem_of_getElem? (i := 51) rfl)) rfl, mem_TT (in_t1 (List.mem_of_getElem? (i := 15) (by decide +kernel))) rfl, by decide +kernel, by decide, by decide, fun _ => mem_TT (in_t3 (List.mem_of_getElem? (i := 50) (by decide +kernel))) rfl, fun h => absurd h (by decide), fun h => absurd h (by decide), fun h => absurd h (by decide)⟩
theorem mok279 : MOK 279 (yJ3_checkIndex_8e157, cJ3_checkIndex_8e157, 3, (some .int), 99) := ⟨mem_TT (in_t3 (List.mem_of_getElem? (i := 59) rfl)) rfl, mem_TT (in_t1 (List.mem_of_getElem? (i := 16) (by decide +kernel))) rfl, by decide +kernel, by decide, by decide, fun _ => mem_TT (in_t3 (List.mem_of_getElem? (i := 58) (by decide +kernel))) rfl, fun h => absurd h (by decide), fun h => absurd h (by decide), fun h => absurd h (by decide)⟩
set_option maxRecDepth 100000 in
theorem mok : ∀ {k : Nat} {q : MInf}, k ≠ 280 → mI k = some q → MOK k q
  | 0, _, h0, h => by cases h; exact mok0
  | 1, _, h0, h => by cases h; exact mok1
  | 2, _, h0, h => by cases h; exact mok2
  | 3, _, h0, h => by cases h; exact mok3
  | 4, _, h0, h => by cases h; exact mok4
  | 5, _, h0, h => by cases h; exact mok5
  | 6, _, h0, h => by cases h; exact mok6
  | 7, _, h0, h => by cases h; exact mok7
  | 8, _, h0, h => by cases h; exact mok8
  | 9, _, h0, h => by cases h; exact mok9
  | 10, _, h0, h => by cases h; exact mok10
  | 11, _, h0, h => by cases h; exact mok11
  | 12, _, h0, h => by cases h; exact mok12
  | 13, _, h0, h => by cases h; exact mok13
  | 14, _, h0, h => by cases h; exact mok14
  | 15, _, h0, h => by cases h; exact mok15
  | 16, _, h0, h => by cases h; exact mok16
  | 17, _, h0, h => by cases h; exact mok17
  | 18, _, h0, h => by cases h; exact mok18
  | 19, _, h0, h => by cases h; exact mok19
  | 20, _, h0, h => by cases h; exact mok20
  | 21, _, h0, h => by cases h; exact mok21
  | 22, _, h0, h => by cases h; exact mok22
  | 23, _, h0, h => by cases h; exact mok23
  | 24, _, h0, h => by cases h; exact mok24
  | 25, _, h0, h => by cases h; exact mok25
  | 26, _, h0, h => by cases h; exact mok26
  | 27, _, h0, h => by cases h; exact mok27
  | 28, _, h0, h => by cases h; exact mok28
  | 29, _, h0, h => by cases h; exact mok29
  | 30, _, h0, h => by cases h; exact mok30
  | 31, _, h0, h => by cases h; exact mok31
  | 32, _, h0, h => by cases h; exact mok32
  | 33, _, h0, h => by cases h; exact mok33
  | 34, _, h0, h => by cases h; exact mok34
  | 35, _, h0, h => by cases h; exact mok35
  | 36, _, h0, h => by cases h; exact mok36
  | 37, _, h0, h => by cases h; exact mok37
  | 38, _, h0, h => by cases h; exact mok38
  | 39, _, h0, h => by cases h; exact mok39
  | 40, _, h0, h => by cases h; exact mok40
  | 41, _, h0, h => by cases h; exact mok41
  | 42, _, h0, h => by cases h; exact mok42
  | 43, _, h0, h => by cases h; exact mok43
  | 44, _, h0, h => by cases h; exact mok44
  | 45, _, h0, h => by cases h; exact mok45
  | 46, _, h0, h => by cases h; exact mok46
  | 47, _, h0, h => by cases h; exact mok47
  | 48, _, h0, h => by cases h; exact mok48
  | 49, _, h0, h => by cases h; exact mok49
  | 50, _, h0, h => by cases h; exact mok50
  | 51, _, h0, h => by cases h; exact mok51
  | 52, _, h0, h => by cases h; exact mok52
  | 53, _, h0, h => by cases h; exact mok53
  | 54, _, h0, h => by cases h; exact mok54
  | 55, _, h0, h => by cases h; exact mok55
  | 56, _, h0, h => by cases h; exact mok56
  | 57, _, h0, h => by cases h; exact mok57
  | 58, _, h0, h => by cases h; exact mok58
  | 59, _, h0, h => by cases h; exact mok59
  | 60, _, h0, h => by cases h; exact mok60
  | 61, _, h0, h => by cases h; exact mok61
  | 62, _, h0, h => by cases h; exact mok62
  | 63, _, h0, h => by cases h; exact mok63
  | 64, _, h0, h => by cases h; exact mok64
  | 65, _, h0, h => by cases h; exact mok65
  | 66, _, h0, h => by cases h; exact mok66
  | 67, _, h0, h => by cases h; exact mok67
  | 68, _, h0, h => by cases h; exact mok68
  | 69, _, h0, h => by cases h; exact mok69
  | 70, _, h0, h => by cases h; exact mok70
  | 71, _, h0, h => by cases h; exact mok71
  | 72, _, h0, h => by cases h; exact mok72
  | 73, _, h0, h => by cases h; exact mok73
  | 74, _, h0, h => by cases h; exact mok74
  | 75, _, h0, h => by cases h; exact mok75
  | 76, _, h0, h => by cases h; exact mok76
  | 77, _, h0, h => by cases h; exact mok77
  | 78, _, h0, h => by cases h; exact mok78
  | 79, _, h0, h => by cases h; exact mok79
  | 80, _, h0, h => by cases h; exact mok80
  | 81, _, h0, h => by cases h; exact mok81
  | 82, _, h0, h => by cases h; exact mok82
  | 83, _, h0, h => by cases h; exact mok83
  | 84, _, h0, h => by cases h; exact mok84
  | 85, _, h0, h => by cases h; exact mok85
  | 86, _, h0, h => by cases h; exact mok86
  | 87, _, h0, h => by cases h; exact mok87
  | 88, _, h0, h => by cases h; exact mok88
  | 89, _, h0, h => by cases h; exact mok89
  | 90, _, h0, h => by cases h; exact mok90
  | 91, _, h0, h => by cases h; exact mok91
  | 92, _, h0, h => by cases h; exact mok92
  | 93, _, h0, h => by cases h; exact mok93
  | 94, _, h0, h => by cases h; exact mok94
  | 95, _, h0, h => by cases h; exact mok95
  | 96, _, h0, h => by cases h; exact mok96
  | 97, _, h0, h => by cases h; exact mok97
  | 98, _, h0, h => by cases h; exact mok98
  | 99, _, h0, h => by cases h; exact mok99
  | 100, _, h0, h => by cases h; exact mok100
  | 101, _, h0, h => by cases h; exact mok101
  | 102, _, h0, h => by cases h; exact mok102
  | 103, _, h0, h => by cases h; exact mok103
  | 104, _, h0, h => by cases h; exact mok104
  | 105, _, h0, h => by cases h; exact mok105
  | 106, _, h0, h => by cases h; exact mok106
  | 107, _, h0, h => by cases h; exact mok107
  | 108, _, h0, h => by cases h; exact mok108
  | 109, _, h0, h => by cases h; exact mok109
  | 110, _, h0, h => by cases h; exact mok110
  | 111, _, h0, h => by cases h; exact mok111
  | 112, _, h0, h => by cases h; exact mok112
  | 113, _, h0, h => by cases h; exact mok113
  | 114, _, h0, h => by cases h; exact mok114
  | 115, _, h0, h => by cases h; exact mok115
  | 116, _, h0, h => by cases h; exact mok116
  | 117, _, h0, h => by cases h; exact mok117
  | 118, _, h0, h => by cases h; exact mok118
  | 119, _, h0, h => by cases h; exact mok119
  | 120, _, h0, h => by cases h; exact mok120
  | 121, _, h0, h => by cases h; exact mok121
  | 122, _, h0, h => by cases h; exact mok122
  | 123, _, h0, h => by cases h; exact mok123
  | 124, _, h0, h => by cases h; exact mok124
  | 125, _, h0, h => by cases h; exact mok125
  | 126, _, h0, h => by cases h; exact mok126
  | 127, _, h0, h => by cases h; exact mok127
  | 128, _, h0, h => by cases h; exact mok128
  | 129, _, h0, h => by cases h; exact mok129
  | 130, _, h0, h => by cases h; exact mok130
  | 131, _, h0, h => by cases h; exact mok131
  | 132, _, h0, h => by cases h; exact mok132
  | 133, _, h0, h => by cases h; exact mok133
  | 134, _, h0, h => by cases h; exact mok134
  | 135, _, h0, h => by cases h; exact mok135
  | 136, _, h0, h => by cases h; exact mok136
  | 137, _, h0, h => by cases h; exact mok137
  | 138, _, h0, h => by cases h; exact mok138
  | 139, _, h0, h => by cases h; exact mok139
  | 140, _, h0, h => by cases h; exact mok140
  | 141, _, h0, h => by cases h; exact mok141
  | 142, _, h0, h => by cases h; exact mok142
  | 143, _, h0, h => by cases h; exact mok143
  | 144, _, h0, h => by cases h; exact mok144
  | 145, _, h0, h => by cases h; exact mok145
  | 146, _, h0, h => by cases h; exact mok146
  | 147, _, h0, h => by cases h; exact mok147
  | 148, _, h0, h => by cases h; exact mok148
  | 149, _, h0, h => by cases h; exact mok149
  | 150, _, h0, h => by cases h; exact mok150
  | 151, _, h0, h => by cases h; exact mok151
  | 152, _, h0, h => by cases h; exact mok152
  | 153, _, h0, h => by cases h; exact mok153
  | 154, _, h0, h => by cases h; exact mok154
  | 155, _, h0, h => by cases h; exact mok155
  | 156, _, h0, h => by cases h; exact mok156
  | 157, _, h0, h => by cases h; exact mok157
  | 158, _, h0, h => by cases h; exact mok158
  | 159, _, h0, h => by cases h; exact mok159
  | 160, _, h0, h => by cases h; exact mok160
  | 161, _, h0, h => by cases h; exact mok161
  | 162, _, h0, h => by cases h; exact mok162
  | 163, _, h0, h => by cases h; exact mok163
  | 164, _, h0, h => by cases h; exact mok164
  | 165, _, h0, h => by cases h; exact mok165
  | 166, _, h0, h => by cases h; exact mok166
  | 167, _, h0, h => by cases h; exact mok167
  | 168, _, h0, h => by cases h; exact mok168
  | 169, _, h0, h => by cases h; exact mok169
  | 170, _, h0, h => by cases h; exact mok170
  | 171, _, h0, h => by cases h; exact mok171
  | 172, _, h0, h => by cases h; exact mok172
  | 173, _, h0, h => by cases h; exact mok173
  | 174, _, h0, h => by cases h; exact mok174
  | 175, _, h0, h => by cases h; exact mok175
  | 176, _, h0, h => by cases h; exact mok176
  | 177, _, h0, h => by cases h; exact mok177
  | 178, _, h0, h => by cases h; exact mok178
  | 179, _, h0, h => by cases h; exact mok179
  | 180, _, h0, h => by cases h; exact mok180
  | 181, _, h0, h => by cases h; exact mok181
  | 182, _, h0, h => by cases h; exact mok182
  | 183, _, h0, h => by cases h; exact mok183
  | 184, _, h0, h => by cases h; exact mok184
  | 185, _, h0, h => by cases h; exact mok185
  | 186, _, h0, h => by cases h; exact mok186
  | 187, _, h0, h => by cases h; exact mok187
  | 188, _, h0, h => by cases h; exact mok188
  | 189, _, h0, h => by cases h; exact mok189
  | 190, _, h0, h => by cases h; exact mok190
  | 191, _, h0, h => by cases h; exact mok191
  | 192, _, h0, h => by cases h; exact mok192
  | 193, _, h0, h => by cases h; exact mok193
  | 194, _, h0, h => by cases h; exact mok194
  | 195, _, h0, h => by cases h; exact mok195
  | 196, _, h0, h => by cases h; exact mok196
  | 197, _, h0, h => by cases h; exact mok197
  | 198, _, h0, h => by cases h; exact mok198
  | 199, _, h0, h => by cases h; exact mok199
  | 200, _, h0, h => by cases h; exact mok200
  | 201, _, h0, h => by cases h; exact mok201
  | 202, _, h0, h => by cases h; exact mok202
  | 203, _, h0, h => by cases h; exact mok203
  | 204, _, h0, h => by cases h; exact mok204
  | 205, _, h0, h => by cases h; exact mok205
  | 206, _, h0, h => by cases h; exact mok206
  | 207, _, h0, h => by cases h; exact mok207
  | 208, _, h0, h => by cases h; exact mok208
  | 209, _, h0, h => by cases h; exact mok209
  | 210, _, h0, h => by cases h; exact mok210
  | 211, _, h0, h => by cases h; exact mok211
  | 212, _, h0, h => by cases h; exact mok212
  | 213, _, h0, h => by cases h; exact mok213
  | 214, _, h0, h => by cases h; exact mok214
  | 215, _, h0, h => by cases h; exact mok215
  | 216, _, h0, h => by cases h; exact mok216
  | 217, _, h0, h => by cases h; exact mok217
  | 218, _, h0, h => by cases h; exact mok218
  | 219, _, h0, h => by cases h; exact mok219
  | 220, _, h0, h => by cases h; exact mok220
  | 221, _, h0, h => by cases h; exact mok221
  | 222, _, h0, h => by cases h; exact mok222
  | 223, _, h0, h => by cases h; exact mok223
  | 224, _, h0, h => by cases h; exact mok224
  | 225, _, h0, h => by cases h; exact mok225
  | 226, _, h0, h => by cases h; exact mok226
  | 227, _, h0, h => by cases h; exact mok227
  | 228, _, h0, h => by cases h; exact mok228
  | 229, _, h0, h => by cases h; exact mok229
  | 230, _, h0, h => by cases h; exact mok230
  | 231, _, h0, h => by cases h; exact mok231
  | 232, _, h0, h => by cases h; exact mok232
  | 233, _, h0, h => by cases h; exact mok233
  | 234, _, h0, h => by cases h; exact mok234
  | 235, _, h0, h => by cases h; exact mok235
  | 236, _, h0, h => by cases h; exact mok236
  | 237, _, h0, h => by cases h; exact mok237
  | 238, _, h0, h => by cases h; exact mok238
  | 239, _, h0, h => by cases h; exact mok239
  | 240, _, h0, h => by cases h; exact mok240
  | 241, _, h0, h => by cases h; exact mok241
  | 242, _, h0, h => by cases h; exact mok242
  | 243, _, h0, h => by cases h; exact mok243
  | 244, _, h0, h => by cases h; exact mok244
  | 245, _, h0, h => by cases h; exact mok245
  | 246, _, h0, h => by cases h; exact mok246
  | 247, _, h0, h => by cases h; exact mok247
  | 248, _, h0, h => by cases h; exact mok248
  | 249, _, h0, h => by cases h; exact mok249
  | 250, _, h0, h => by cases h; exact mok250
  | 251, _, h0, h => by cases h; exact mok251
  | 252, _, h0, h => by cases h; exact mok252
  | 253, _, h0, h => by cases h; exact mok253
  | 254, _, h0, h => by cases h; exact mok254
  | 255, _, h0, h => by cases h; exact mok255
  | 256, _, h0, h => by cases h; exact mok256
  | 257, _, h0, h => by cases h; exact mok257
  | 258, _, h0, h => by cases h; exact mok258
  | 259, _, h0, h => by cases h; exact mok259
  | 260, _, h0, h => by cases h; exact mok260
  | 261, _, h0, h => by cases h; exact mok261
  | 262, _, h0, h => by cases h; exact mok262
  | 263, _, h0, h => by cases h; exact mok263
  | 264, _, h0, h => by cases h; exact mok264
  | 265, _, h0, h => by cases h; exact mok265
  | 266, _, h0, h => by cases h; exact mok266
  | 267, _, h0, h => by cases h; exact mok267
  | 268, _, h0, h => by cases h; exact mok268
  | 269, _, h0, h => by cases h; exact mok269
  | 270, _, h0, h => by cases h; exact mok270
  | 271, _, h0, h => by cases h; exact mok271
  | 272, _, h0, h => by cases h; exact mok272
  | 273, _, h0, h => by cases h; exact mok273
  | 274, _, h0, h => by cases h; exact mok274
  | 275, _, h0, h => by cases h; exact mok275
  | 276, _, h0, h => by cases h; exact mok276
  | 277, _, h0, h => by cases h; exact mok277
  | 278, _, h0, h => by cases h; exact mok278
  | 279, _, h0, h => by cases h; exact mok279
  | 280, _, h0, h => by cases h; exact absurd rfl h0
  | n + 281, _, _, h => by cases h
