set_option maxRecDepth 100000 in
theorem K_X7_put : chkM 7 false cX7_put T_X7_put = true := by decide +kernel
set_option maxRecDepth 100000 in
theorem K_X7_take : chkM 7 false cX7_take T_X7_take = true := by decide +kernel
set_option maxRecDepth 100000 in
theorem K_X7_within : chkM 7 false cX7_within T_X7_within = true := by decide +kernel
set_option maxRecDepth 100000 in
theorem K_X7_having : chkM 7 false cX7_having T_X7_having = true := by decide +kernel
set_option maxRecDepth 100000 in
theorem K_X7_lowestHaving : chkM 7 false cX7_lowestHaving T_X7_lowestHaving = true := by decide +kernel
set_option maxRecDepth 100000 in
theorem K_X7_nearest : chkM 7 false cX7_nearest T_X7_nearest = true := by decide +kernel
set_option maxRecDepth 100000 in
theorem K_X7_copyStore : chkM 7 false cX7_copyStore T_X7_copyStore = true := by decide +kernel
set_option maxRecDepth 100000 in
theorem K_X8_init : chkM 8 true cX8_init T_X8_init = true := by decide +kernel
set_option maxRecDepth 100000 in
theorem K_X8_hasRoomFor : chkM 8 false cX8_hasRoomFor T_X8_hasRoomFor = true := by decide +kernel
set_option maxRecDepth 100000 in
theorem K_X8_addFour : chkM 8 false cX8_addFour T_X8_addFour = true := by decide +kernel
set_option maxRecDepth 100000 in
theorem K_X9_init : chkM 9 true cX9_init T_X9_init = true := by decide +kernel
set_option maxRecDepth 100000 in
theorem K_X9_scan : chkM 9 false cX9_scan T_X9_scan = true := by decide +kernel
set_option maxRecDepth 100000 in
theorem K_X9_kind : chkM 9 false cX9_kind T_X9_kind = true := by decide +kernel
set_option maxRecDepth 100000 in
theorem K_X9_value : chkM 9 false cX9_value T_X9_value = true := by decide +kernel
set_option maxRecDepth 100000 in
theorem K_X9_start : chkM 9 false cX9_start T_X9_start = true := by decide +kernel
set_option maxRecDepth 100000 in
theorem K_X9_advance : chkM 9 false cX9_advance T_X9_advance = true := by decide +kernel
set_option maxRecDepth 100000 in
theorem K_X9_add : chkM 9 false cX9_add T_X9_add = true := by decide +kernel
set_option maxRecDepth 100000 in
theorem K_X9_numberOf : chkM 9 false cX9_numberOf T_X9_numberOf = true := by decide +kernel
set_option maxRecDepth 100000 in
theorem K_X9_nameOf : chkM 9 false cX9_nameOf T_X9_nameOf = true := by decide +kernel
set_option maxRecDepth 100000 in
theorem K_X9_isLetter : chkM 9 false cX9_isLetter T_X9_isLetter = true := by decide +kernel
set_option maxRecDepth 100000 in
theorem K_X9_isDigit : chkM 9 false cX9_isDigit T_X9_isDigit = true := by decide +kernel
set_option maxRecDepth 100000 in
theorem K_X10_init : chkM 10 true cX10_init T_X10_init = true := by decide +kernel
set_option maxRecDepth 100000 in
theorem K_X10_place : chkM 10 false cX10_place T_X10_place = true := by decide +kernel
set_option maxRecDepth 100000 in
theorem K_X10_paint : chkM 10 false cX10_paint T_X10_paint = true := by decide +kernel
set_option maxRecDepth 100000 in
theorem K_X10_word : chkM 10 false cX10_word T_X10_word = true := by decide +kernel
set_option maxRecDepth 100000 in
theorem K_X10_lead : chkM 10 false cX10_lead T_X10_lead = true := by decide +kernel
set_option maxRecDepth 100000 in
theorem K_X10_hear : chkM 10 false cX10_hear T_X10_hear = true := by decide +kernel
set_option maxRecDepth 100000 in
theorem K_X10_doors : chkM 10 false cX10_doors T_X10_doors = true := by decide +kernel
set_option maxRecDepth 100000 in
theorem K_X10_feed : chkM 10 false cX10_feed T_X10_feed = true := by decide +kernel
set_option maxRecDepth 100000 in
theorem K_X10_end : chkM 10 false cX10_end T_X10_end = true := by decide +kernel
set_option maxRecDepth 100000 in
theorem K_X10_row : chkM 10 false cX10_row T_X10_row = true := by decide +kernel
set_option maxRecDepth 100000 in
theorem K_X10_stray : chkM 10 false cX10_stray T_X10_stray = true := by decide +kernel
set_option maxRecDepth 100000 in
theorem K_X10_law : chkM 10 false cX10_law T_X10_law = true := by decide +kernel
set_option maxRecDepth 100000 in
theorem K_X10_fault : chkM 10 false cX10_fault T_X10_fault = true := by decide +kernel
set_option maxRecDepth 100000 in
theorem K_X10_force : chkM 10 false cX10_force T_X10_force = true := by decide +kernel
set_option maxRecDepth 100000 in
theorem K_X10_goes : chkM 10 false cX10_goes T_X10_goes = true := by decide +kernel
set_option maxRecDepth 100000 in
theorem K_X10_barred : chkM 10 false cX10_barred T_X10_barred = true := by decide +kernel
set_option maxRecDepth 100000 in
theorem K_X10_call : chkM 10 false cX10_call T_X10_call = true := by decide +kernel
set_option maxRecDepth 100000 in
theorem K_X10_tear : chkM 10 false cX10_tear T_X10_tear = true := by decide +kernel
set_option maxRecDepth 100000 in
theorem K_X10_after : chkM 10 false cX10_after T_X10_after = true := by decide +kernel
set_option maxRecDepth 100000 in
theorem K_X10_open : chkM 10 false cX10_open T_X10_open = true := by decide +kernel
set_option maxRecDepth 100000 in
theorem K_X10_cycle : chkM 10 false cX10_cycle T_X10_cycle = true := by decide +kernel
set_option maxRecDepth 100000 in
theorem K_X10_trace : chkM 10 false cX10_trace T_X10_trace = true := by decide +kernel
set_option maxRecDepth 100000 in
theorem K_X10_fewest : chkM 10 false cX10_fewest T_X10_fewest = true := by decide +kernel
set_option maxRecDepth 100000 in
theorem K_X10_ways : chkM 10 false cX10_ways T_X10_ways = true := by decide +kernel
set_option maxRecDepth 100000 in
theorem K_X10_spell : chkM 10 false cX10_spell T_X10_spell = true := by decide +kernel
set_option maxRecDepth 100000 in
theorem K_X10_without : chkM 10 false cX10_without T_X10_without = true := by decide +kernel
set_option maxRecDepth 100000 in
theorem K_X10_spare : chkM 10 false cX10_spare T_X10_spare = true := by decide +kernel
set_option maxRecDepth 100000 in
theorem K_X10_stands : chkM 10 false cX10_stands T_X10_stands = true := by decide +kernel
set_option maxRecDepth 100000 in
theorem K_X10_pair : chkM 10 false cX10_pair T_X10_pair = true := by decide +kernel
set_option maxRecDepth 100000 in
theorem K_X10_which : chkM 10 false cX10_which T_X10_which = true := by decide +kernel
set_option maxRecDepth 100000 in
theorem K_X10_farthest : chkM 10 false cX10_farthest T_X10_farthest = true := by decide +kernel
set_option maxRecDepth 100000 in
theorem K_X10_bar : chkM 10 false cX10_bar T_X10_bar = true := by decide +kernel
set_option maxRecDepth 100000 in
theorem K_X10_plod : chkM 10 false cX10_plod T_X10_plod = true := by decide +kernel
set_option maxRecDepth 100000 in
theorem K_X10_sight : chkM 10 false cX10_sight T_X10_sight = true := by decide +kernel
set_option maxRecDepth 100000 in
theorem K_X10_ask : chkM 10 false cX10_ask T_X10_ask = true := by decide +kernel
set_option maxRecDepth 100000 in
theorem K_X10_hold : chkM 10 false cX10_hold T_X10_hold = true := by decide +kernel
set_option maxRecDepth 100000 in
theorem K_X10_drop : chkM 10 false cX10_drop T_X10_drop = true := by decide +kernel
set_option maxRecDepth 100000 in
theorem K_X10_held : chkM 10 false cX10_held T_X10_held = true := by decide +kernel
set_option maxRecDepth 100000 in
theorem K_X10_kth : chkM 10 false cX10_kth T_X10_kth = true := by decide +kernel
set_option maxRecDepth 100000 in
theorem K_X10_rank : chkM 10 false cX10_rank T_X10_rank = true := by decide +kernel
set_option maxRecDepth 100000 in
theorem K_X10_about : chkM 10 false cX10_about T_X10_about = true := by decide +kernel
set_option maxRecDepth 100000 in
theorem K_X10_near : chkM 10 false cX10_near T_X10_near = true := by decide +kernel
set_option maxRecDepth 100000 in
theorem K_X10_between : chkM 10 false cX10_between T_X10_between = true := by decide +kernel
set_option maxRecDepth 100000 in
theorem K_X10_walker : chkM 10 false cX10_walker T_X10_walker = true := by decide +kernel
set_option maxRecDepth 100000 in
theorem K_X10_where : chkM 10 false cX10_where T_X10_where = true := by decide +kernel
set_option maxRecDepth 100000 in
theorem K_X10_say : chkM 10 false cX10_say T_X10_say = true := by decide +kernel
set_option maxRecDepth 100000 in
theorem K_X10_horn : chkM 10 false cX10_horn T_X10_horn = true := by decide +kernel
set_option maxRecDepth 100000 in
theorem K_X10_drawn : chkM 10 false cX10_drawn T_X10_drawn = true := by decide +kernel
set_option maxRecDepth 100000 in
theorem K_X10_image : chkM 10 false cX10_image T_X10_image = true := by decide +kernel
set_option maxRecDepth 100000 in
theorem K_X10_back : chkM 10 false cX10_back T_X10_back = true := by decide +kernel
set_option maxRecDepth 100000 in
theorem K_X10_count : chkM 10 false cX10_count T_X10_count = true := by decide +kernel
set_option maxRecDepth 100000 in
theorem K_X10_status : chkM 10 false cX10_status T_X10_status = true := by decide +kernel
set_option maxRecDepth 100000 in
theorem K_X10_refuse : chkM 10 false cX10_refuse T_X10_refuse = true := by decide +kernel
set_option maxRecDepth 100000 in
theorem K_X10_grant : chkM 10 false cX10_grant T_X10_grant = true := by decide +kernel
set_option maxRecDepth 100000 in
theorem K_X10_isColour : chkM 10 false cX10_isColour T_X10_isColour = true := by decide +kernel
set_option maxRecDepth 100000 in
theorem K_X10_isKind : chkM 10 false cX10_isKind T_X10_isKind = true := by decide +kernel
set_option maxRecDepth 100000 in
theorem K_X10_isDoors : chkM 10 false cX10_isDoors T_X10_isDoors = true := by decide +kernel
set_option maxRecDepth 100000 in
theorem K_X10_isStoreSet : chkM 10 false cX10_isStoreSet T_X10_isStoreSet = true := by decide +kernel
set_option maxRecDepth 100000 in
theorem K_X10_isAim : chkM 10 false cX10_isAim T_X10_isAim = true := by decide +kernel
set_option maxRecDepth 100000 in
theorem K_X10_isSetOf : chkM 10 false cX10_isSetOf T_X10_isSetOf = true := by decide +kernel
set_option maxRecDepth 100000 in
theorem K_X10_standOf : chkM 10 false cX10_standOf T_X10_standOf = true := by decide +kernel
set_option maxRecDepth 100000 in
theorem K_X10_hearAt : chkM 10 false cX10_hearAt T_X10_hearAt = true := by decide +kernel
set_option maxRecDepth 100000 in
theorem K_X10_standAfter : chkM 10 false cX10_standAfter T_X10_standAfter = true := by decide +kernel
set_option maxRecDepth 100000 in
theorem K_X10_firstLapWith : chkM 10 false cX10_firstLapWith T_X10_firstLapWith = true := by decide +kernel
set_option maxRecDepth 100000 in
theorem K_X10_findFewest : chkM 10 false cX10_findFewest T_X10_findFewest = true := by decide +kernel
set_option maxRecDepth 100000 in
theorem K_X10_findPairs : chkM 10 false cX10_findPairs T_X10_findPairs = true := by decide +kernel
set_option maxRecDepth 100000 in
theorem K_X10_findSights : chkM 10 false cX10_findSights T_X10_findSights = true := by decide +kernel
set_option maxRecDepth 100000 in
theorem K_X10_soonestPair : chkM 10 false cX10_soonestPair T_X10_soonestPair = true := by decide +kernel
set_option maxRecDepth 100000 in
theorem K_X10_bringTogether : chkM 10 false cX10_bringTogether T_X10_bringTogether = true := by decide +kernel
set_option maxRecDepth 100000 in
theorem K_X10_hearOnPaper : chkM 10 false cX10_hearOnPaper T_X10_hearOnPaper = true := by decide +kernel
set_option maxRecDepth 100000 in
theorem K_X11_lies : chkM 11 false cX11_lies T_X11_lies = true := by decide +kernel
set_option maxRecDepth 100000 in
theorem K_X11_refuses : chkM 11 false cX11_refuses T_X11_refuses = true := by decide +kernel
set_option maxRecDepth 100000 in
theorem K_X11_good : chkM 11 false cX11_good T_X11_good = true := by decide +kernel
set_option maxRecDepth 100000 in
theorem K_X11_isIn : chkM 11 false cX11_isIn T_X11_isIn = true := by decide +kernel
