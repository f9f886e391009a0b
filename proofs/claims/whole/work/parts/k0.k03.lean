set_option maxRecDepth 100000 in
theorem K_X11_call : chkM 11 false cX11_call T_X11_call = true := by decide +kernel
set_option maxRecDepth 100000 in
theorem K_X11_tear : chkM 11 false cX11_tear T_X11_tear = true := by decide +kernel
set_option maxRecDepth 100000 in
theorem K_X11_calls : chkM 11 false cX11_calls T_X11_calls = true := by decide +kernel
set_option maxRecDepth 100000 in
theorem K_X11_after : chkM 11 false cX11_after T_X11_after = true := by decide +kernel
set_option maxRecDepth 100000 in
theorem K_X11_open : chkM 11 false cX11_open T_X11_open = true := by decide +kernel
set_option maxRecDepth 100000 in
theorem K_X11_behind : chkM 11 false cX11_behind T_X11_behind = true := by decide +kernel
set_option maxRecDepth 100000 in
theorem K_X11_isGoal : chkM 11 false cX11_isGoal T_X11_isGoal = true := by decide +kernel
set_option maxRecDepth 100000 in
theorem K_X11_spreads : chkM 11 false cX11_spreads T_X11_spreads = true := by decide +kernel
set_option maxRecDepth 100000 in
theorem K_X11_added : chkM 11 false cX11_added T_X11_added = true := by decide +kernel
set_option maxRecDepth 100000 in
theorem K_X11_isTo : chkM 11 false cX11_isTo T_X11_isTo = true := by decide +kernel
set_option maxRecDepth 100000 in
theorem K_X11_fewest : chkM 11 false cX11_fewest T_X11_fewest = true := by decide +kernel
set_option maxRecDepth 100000 in
theorem K_X11_ways : chkM 11 false cX11_ways T_X11_ways = true := by decide +kernel
set_option maxRecDepth 100000 in
theorem K_X11_spell : chkM 11 false cX11_spell T_X11_spell = true := by decide +kernel
set_option maxRecDepth 100000 in
theorem K_X11_spells : chkM 11 false cX11_spells T_X11_spells = true := by decide +kernel
set_option maxRecDepth 100000 in
theorem K_X11_leads : chkM 11 false cX11_leads T_X11_leads = true := by decide +kernel
set_option maxRecDepth 100000 in
theorem K_X11_without : chkM 11 false cX11_without T_X11_without = true := by decide +kernel
set_option maxRecDepth 100000 in
theorem K_X11_spare : chkM 11 false cX11_spare T_X11_spare = true := by decide +kernel
set_option maxRecDepth 100000 in
theorem K_X11_cycle : chkM 11 false cX11_cycle T_X11_cycle = true := by decide +kernel
set_option maxRecDepth 100000 in
theorem K_X11_trace : chkM 11 false cX11_trace T_X11_trace = true := by decide +kernel
set_option maxRecDepth 100000 in
theorem K_X11_stands : chkM 11 false cX11_stands T_X11_stands = true := by decide +kernel
set_option maxRecDepth 100000 in
theorem K_X11_pairOf : chkM 11 false cX11_pairOf T_X11_pairOf = true := by decide +kernel
set_option maxRecDepth 100000 in
theorem K_X11_pair : chkM 11 false cX11_pair T_X11_pair = true := by decide +kernel
set_option maxRecDepth 100000 in
theorem K_X11_which : chkM 11 false cX11_which T_X11_which = true := by decide +kernel
set_option maxRecDepth 100000 in
theorem K_X11_farthest : chkM 11 false cX11_farthest T_X11_farthest = true := by decide +kernel
set_option maxRecDepth 100000 in
theorem K_X11_bar : chkM 11 false cX11_bar T_X11_bar = true := by decide +kernel
set_option maxRecDepth 100000 in
theorem K_X11_plod : chkM 11 false cX11_plod T_X11_plod = true := by decide +kernel
set_option maxRecDepth 100000 in
theorem K_X11_sightBehind : chkM 11 false cX11_sightBehind T_X11_sightBehind = true := by decide +kernel
set_option maxRecDepth 100000 in
theorem K_X11_sights : chkM 11 false cX11_sights T_X11_sights = true := by decide +kernel
set_option maxRecDepth 100000 in
theorem K_X11_sight : chkM 11 false cX11_sight T_X11_sight = true := by decide +kernel
set_option maxRecDepth 100000 in
theorem K_X11_ask : chkM 11 false cX11_ask T_X11_ask = true := by decide +kernel
set_option maxRecDepth 100000 in
theorem K_X11_isNumber : chkM 11 false cX11_isNumber T_X11_isNumber = true := by decide +kernel
set_option maxRecDepth 100000 in
theorem K_X11_hold : chkM 11 false cX11_hold T_X11_hold = true := by decide +kernel
set_option maxRecDepth 100000 in
theorem K_X11_drop : chkM 11 false cX11_drop T_X11_drop = true := by decide +kernel
set_option maxRecDepth 100000 in
theorem K_X11_held : chkM 11 false cX11_held T_X11_held = true := by decide +kernel
set_option maxRecDepth 100000 in
theorem K_X11_below : chkM 11 false cX11_below T_X11_below = true := by decide +kernel
set_option maxRecDepth 100000 in
theorem K_X11_kth : chkM 11 false cX11_kth T_X11_kth = true := by decide +kernel
set_option maxRecDepth 100000 in
theorem K_X11_rank : chkM 11 false cX11_rank T_X11_rank = true := by decide +kernel
set_option maxRecDepth 100000 in
theorem K_X11_about : chkM 11 false cX11_about T_X11_about = true := by decide +kernel
set_option maxRecDepth 100000 in
theorem K_X11_near : chkM 11 false cX11_near T_X11_near = true := by decide +kernel
set_option maxRecDepth 100000 in
theorem K_X11_between : chkM 11 false cX11_between T_X11_between = true := by decide +kernel
set_option maxRecDepth 100000 in
theorem K_X11_walker : chkM 11 false cX11_walker T_X11_walker = true := by decide +kernel
set_option maxRecDepth 100000 in
theorem K_X11_where : chkM 11 false cX11_where T_X11_where = true := by decide +kernel
set_option maxRecDepth 100000 in
theorem K_X11_say : chkM 11 false cX11_say T_X11_say = true := by decide +kernel
set_option maxRecDepth 100000 in
theorem K_X11_horn : chkM 11 false cX11_horn T_X11_horn = true := by decide +kernel
set_option maxRecDepth 100000 in
theorem K_X11_drawn : chkM 11 false cX11_drawn T_X11_drawn = true := by decide +kernel
set_option maxRecDepth 100000 in
theorem K_X11_count : chkM 11 false cX11_count T_X11_count = true := by decide +kernel
set_option maxRecDepth 100000 in
theorem K_X11_status : chkM 11 false cX11_status T_X11_status = true := by decide +kernel
set_option maxRecDepth 100000 in
theorem K_J6_highestOneBit_0f7a4 : chkM 12 false cJ6_highestOneBit_0f7a4 T_J6_highestOneBit_0f7a4 = true := by decide +kernel
set_option maxRecDepth 100000 in
theorem K_J6_numberOfLeadingZeros_0f7a4 : chkM 12 false cJ6_numberOfLeadingZeros_0f7a4 T_J6_numberOfLeadingZeros_0f7a4 = true := by decide +kernel
set_option maxRecDepth 100000 in
theorem K_J6_numberOfTrailingZeros_0f7a4 : chkM 12 false cJ6_numberOfTrailingZeros_0f7a4 T_J6_numberOfTrailingZeros_0f7a4 = true := by decide +kernel
set_option maxRecDepth 100000 in
theorem K_J6_bitCount_0f7a4 : chkM 12 false cJ6_bitCount_0f7a4 T_J6_bitCount_0f7a4 = true := by decide +kernel
set_option maxRecDepth 100000 in
theorem K_J7_fill_53178 : chkM 14 false cJ7_fill_53178 T_J7_fill_53178 = true := by decide +kernel
set_option maxRecDepth 100000 in
theorem K_J7_copyOf_59c91 : chkM 14 false cJ7_copyOf_59c91 T_J7_copyOf_59c91 = true := by decide +kernel
set_option maxRecDepth 100000 in
theorem K_J0_length_8abf5 : chkM 16 false cJ0_length_8abf5 T_J0_length_8abf5 = true := by decide +kernel
set_option maxRecDepth 100000 in
theorem K_J0_charAt_5068e : chkM 16 false cJ0_charAt_5068e T_J0_charAt_5068e = true := by decide +kernel
set_option maxRecDepth 100000 in
theorem K_J0_coder_7d493 : chkM 16 false cJ0_coder_7d493 T_J0_coder_7d493 = true := by decide +kernel
set_option maxRecDepth 100000 in
theorem K_J0_isLatin1_aae02 : chkM 16 false cJ0_isLatin1_aae02 T_J0_isLatin1_aae02 = true := by decide +kernel
set_option maxRecDepth 100000 in
theorem K_J0_checkIndex_df160 : chkM 16 false cJ0_checkIndex_df160 T_J0_checkIndex_df160 = true := by decide +kernel
set_option maxRecDepth 100000 in
theorem K_J1_charAt_3b067 : chkM 17 false cJ1_charAt_3b067 T_J1_charAt_3b067 = true := by decide +kernel
set_option maxRecDepth 100000 in
theorem K_J3_checkIndex_8e157 : chkM 18 false cJ3_checkIndex_8e157 T_J3_checkIndex_8e157 = true := by decide +kernel
