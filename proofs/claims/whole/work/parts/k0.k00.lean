set_option maxRecDepth 100000 in
theorem K_X0_init : chkM 0 true cX0_init T_X0_init = true := by decide +kernel
set_option maxRecDepth 100000 in
theorem K_X0_begin : chkM 0 false cX0_begin T_X0_begin = true := by decide +kernel
set_option maxRecDepth 100000 in
theorem K_X0_draw : chkM 0 false cX0_draw T_X0_draw = true := by decide +kernel
set_option maxRecDepth 100000 in
theorem K_X1_init : chkM 1 true cX1_init T_X1_init = true := by decide +kernel
set_option maxRecDepth 100000 in
theorem K_X1_told : chkM 1 false cX1_told T_X1_told = true := by decide +kernel
set_option maxRecDepth 100000 in
theorem K_X1_bars : chkM 1 false cX1_bars T_X1_bars = true := by decide +kernel
set_option maxRecDepth 100000 in
theorem K_X1_valueOf : chkM 1 false cX1_valueOf T_X1_valueOf = true := by decide +kernel
set_option maxRecDepth 100000 in
theorem K_X2_init : chkM 2 true cX2_init T_X2_init = true := by decide +kernel
set_option maxRecDepth 100000 in
theorem K_X2_read : chkM 2 false cX2_read T_X2_read = true := by decide +kernel
set_option maxRecDepth 100000 in
theorem K_X2_readClause : chkM 2 false cX2_readClause T_X2_readClause = true := by decide +kernel
set_option maxRecDepth 100000 in
theorem K_X2_readJoined : chkM 2 false cX2_readJoined T_X2_readJoined = true := by decide +kernel
set_option maxRecDepth 100000 in
theorem K_X2_joinerOf : chkM 2 false cX2_joinerOf T_X2_joinerOf = true := by decide +kernel
set_option maxRecDepth 100000 in
theorem K_X2_readPlain : chkM 2 false cX2_readPlain T_X2_readPlain = true := by decide +kernel
set_option maxRecDepth 100000 in
theorem K_X2_comparerOf : chkM 2 false cX2_comparerOf T_X2_comparerOf = true := by decide +kernel
set_option maxRecDepth 100000 in
theorem K_X2_readPart : chkM 2 false cX2_readPart T_X2_readPart = true := by decide +kernel
set_option maxRecDepth 100000 in
theorem K_X2_readBracketed : chkM 2 false cX2_readBracketed T_X2_readBracketed = true := by decide +kernel
set_option maxRecDepth 100000 in
theorem K_X2_emit : chkM 2 false cX2_emit T_X2_emit = true := by decide +kernel
set_option maxRecDepth 100000 in
theorem K_X3_init : chkM 3 true cX3_init T_X3_init = true := by decide +kernel
set_option maxRecDepth 100000 in
theorem K_X3_isOf : chkM 3 false cX3_isOf T_X3_isOf = true := by decide +kernel
set_option maxRecDepth 100000 in
theorem K_X3_begin : chkM 3 false cX3_begin T_X3_begin = true := by decide +kernel
set_option maxRecDepth 100000 in
theorem K_X3_addSight : chkM 3 false cX3_addSight T_X3_addSight = true := by decide +kernel
set_option maxRecDepth 100000 in
theorem K_X3_enter : chkM 3 false cX3_enter T_X3_enter = true := by decide +kernel
set_option maxRecDepth 100000 in
theorem K_X3_positionOf : chkM 3 false cX3_positionOf T_X3_positionOf = true := by decide +kernel
set_option maxRecDepth 100000 in
theorem K_X3_solve : chkM 3 false cX3_solve T_X3_solve = true := by decide +kernel
set_option maxRecDepth 100000 in
theorem K_X3_enterBehind : chkM 3 false cX3_enterBehind T_X3_enterBehind = true := by decide +kernel
set_option maxRecDepth 100000 in
theorem K_X3_settle : chkM 3 false cX3_settle T_X3_settle = true := by decide +kernel
set_option maxRecDepth 100000 in
theorem K_X3_arrange : chkM 3 false cX3_arrange T_X3_arrange = true := by decide +kernel
set_option maxRecDepth 100000 in
theorem K_X3_levelOf : chkM 3 false cX3_levelOf T_X3_levelOf = true := by decide +kernel
set_option maxRecDepth 100000 in
theorem K_X3_firstWord : chkM 3 false cX3_firstWord T_X3_firstWord = true := by decide +kernel
set_option maxRecDepth 100000 in
theorem K_X3_isWithin : chkM 3 false cX3_isWithin T_X3_isWithin = true := by decide +kernel
set_option maxRecDepth 100000 in
theorem K_X4_init : chkM 4 true cX4_init T_X4_init = true := by decide +kernel
set_option maxRecDepth 100000 in
theorem K_X4_hasPlace : chkM 4 false cX4_hasPlace T_X4_hasPlace = true := by decide +kernel
set_option maxRecDepth 100000 in
theorem K_X4_hasWord : chkM 4 false cX4_hasWord T_X4_hasWord = true := by decide +kernel
set_option maxRecDepth 100000 in
theorem K_X4_hasWalker : chkM 4 false cX4_hasWalker T_X4_hasWalker = true := by decide +kernel
set_option maxRecDepth 100000 in
theorem K_X4_addWord : chkM 4 false cX4_addWord T_X4_addWord = true := by decide +kernel
set_option maxRecDepth 100000 in
theorem K_X4_doorsBehind : chkM 4 false cX4_doorsBehind T_X4_doorsBehind = true := by decide +kernel
set_option maxRecDepth 100000 in
theorem K_X4_placesOf : chkM 4 false cX4_placesOf T_X4_placesOf = true := by decide +kernel
set_option maxRecDepth 100000 in
theorem K_X4_lawInForce : chkM 4 false cX4_lawInForce T_X4_lawInForce = true := by decide +kernel
set_option maxRecDepth 100000 in
theorem K_X4_copyFrom : chkM 4 false cX4_copyFrom T_X4_copyFrom = true := by decide +kernel
set_option maxRecDepth 100000 in
theorem K_X5_init : chkM 5 true cX5_init T_X5_init = true := by decide +kernel
set_option maxRecDepth 100000 in
theorem K_X5_forget : chkM 5 false cX5_forget T_X5_forget = true := by decide +kernel
set_option maxRecDepth 100000 in
theorem K_X5_step : chkM 5 false cX5_step T_X5_step = true := by decide +kernel
set_option maxRecDepth 100000 in
theorem K_X5_forbids : chkM 5 false cX5_forbids T_X5_forbids = true := by decide +kernel
set_option maxRecDepth 100000 in
theorem K_X5_setFacts : chkM 5 false cX5_setFacts T_X5_setFacts = true := by decide +kernel
set_option maxRecDepth 100000 in
theorem K_X5_allowedWords : chkM 5 false cX5_allowedWords T_X5_allowedWords = true := by decide +kernel
set_option maxRecDepth 100000 in
theorem K_X5_makeReady : chkM 5 false cX5_makeReady T_X5_makeReady = true := by decide +kernel
set_option maxRecDepth 100000 in
theorem K_X5_makeAllReady : chkM 5 false cX5_makeAllReady T_X5_makeAllReady = true := by decide +kernel
set_option maxRecDepth 100000 in
theorem K_X5_fillTable : chkM 5 false cX5_fillTable T_X5_fillTable = true := by decide +kernel
set_option maxRecDepth 100000 in
theorem K_X5_tableOf : chkM 5 false cX5_tableOf T_X5_tableOf = true := by decide +kernel
set_option maxRecDepth 100000 in
theorem K_X5_standBehind : chkM 5 false cX5_standBehind T_X5_standBehind = true := by decide +kernel
set_option maxRecDepth 100000 in
theorem K_X5_placeBehind : chkM 5 false cX5_placeBehind T_X5_placeBehind = true := by decide +kernel
set_option maxRecDepth 100000 in
theorem K_X6_init : chkM 6 true cX6_init T_X6_init = true := by decide +kernel
set_option maxRecDepth 100000 in
theorem K_X6_find : chkM 6 false cX6_find T_X6_find = true := by decide +kernel
set_option maxRecDepth 100000 in
theorem K_X6_clear : chkM 6 false cX6_clear T_X6_clear = true := by decide +kernel
set_option maxRecDepth 100000 in
theorem K_X6_gather : chkM 6 false cX6_gather T_X6_gather = true := by decide +kernel
set_option maxRecDepth 100000 in
theorem K_X6_isTogether : chkM 6 false cX6_isTogether T_X6_isTogether = true := by decide +kernel
set_option maxRecDepth 100000 in
theorem K_X6_spread : chkM 6 false cX6_spread T_X6_spread = true := by decide +kernel
set_option maxRecDepth 100000 in
theorem K_X6_add : chkM 6 false cX6_add T_X6_add = true := by decide +kernel
set_option maxRecDepth 100000 in
theorem K_X6_wordOfFirst : chkM 6 false cX6_wordOfFirst T_X6_wordOfFirst = true := by decide +kernel
set_option maxRecDepth 100000 in
theorem K_X6_wordsOfFirst : chkM 6 false cX6_wordsOfFirst T_X6_wordsOfFirst = true := by decide +kernel
set_option maxRecDepth 100000 in
theorem K_X7_init : chkM 7 true cX7_init T_X7_init = true := by decide +kernel
set_option maxRecDepth 100000 in
theorem K_X7_isFull : chkM 7 false cX7_isFull T_X7_isFull = true := by decide +kernel
set_option maxRecDepth 100000 in
theorem K_X7_lowerThan : chkM 7 false cX7_lowerThan T_X7_lowerThan = true := by decide +kernel
set_option maxRecDepth 100000 in
theorem K_X7_timesOf : chkM 7 false cX7_timesOf T_X7_timesOf = true := by decide +kernel
