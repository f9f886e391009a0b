set_option maxRecDepth 100000 in
theorem K_X11_init : chkM 11 true cX11_init T_X11_init = true := by decide +kernel
set_option maxRecDepth 100000 in
theorem K_X11_image : chkM 11 false cX11_image T_X11_image = true := by decide +kernel
set_option maxRecDepth 100000 in
theorem K_X11_back : chkM 11 false cX11_back T_X11_back = true := by decide +kernel
set_option maxRecDepth 100000 in
theorem K_X11_places : chkM 11 false cX11_places T_X11_places = true := by decide +kernel
set_option maxRecDepth 100000 in
theorem K_X11_words : chkM 11 false cX11_words T_X11_words = true := by decide +kernel
set_option maxRecDepth 100000 in
theorem K_X11_isPlace : chkM 11 false cX11_isPlace T_X11_isPlace = true := by decide +kernel
set_option maxRecDepth 100000 in
theorem K_X11_isWord : chkM 11 false cX11_isWord T_X11_isWord = true := by decide +kernel
set_option maxRecDepth 100000 in
theorem K_X11_isKind : chkM 11 false cX11_isKind T_X11_isKind = true := by decide +kernel
set_option maxRecDepth 100000 in
theorem K_X11_replaces : chkM 11 false cX11_replaces T_X11_replaces = true := by decide +kernel
set_option maxRecDepth 100000 in
theorem K_X11_place : chkM 11 false cX11_place T_X11_place = true := by decide +kernel
set_option maxRecDepth 100000 in
theorem K_X11_paint : chkM 11 false cX11_paint T_X11_paint = true := by decide +kernel
set_option maxRecDepth 100000 in
theorem K_X11_word : chkM 11 false cX11_word T_X11_word = true := by decide +kernel
set_option maxRecDepth 100000 in
theorem K_X11_lead : chkM 11 false cX11_lead T_X11_lead = true := by decide +kernel
set_option maxRecDepth 100000 in
theorem K_X11_hear : chkM 11 false cX11_hear T_X11_hear = true := by decide +kernel
set_option maxRecDepth 100000 in
theorem K_X11_doors : chkM 11 false cX11_doors T_X11_doors = true := by decide +kernel
set_option maxRecDepth 100000 in
theorem K_X11_row : chkM 11 false cX11_row T_X11_row = true := by decide +kernel
set_option maxRecDepth 100000 in
theorem K_X11_stray : chkM 11 false cX11_stray T_X11_stray = true := by decide +kernel
set_option maxRecDepth 100000 in
theorem K_X11_feed : chkM 11 false cX11_feed T_X11_feed = true := by decide +kernel
set_option maxRecDepth 100000 in
theorem K_X11_end : chkM 11 false cX11_end T_X11_end = true := by decide +kernel
set_option maxRecDepth 100000 in
theorem K_X11_isSmall : chkM 11 false cX11_isSmall T_X11_isSmall = true := by decide +kernel
set_option maxRecDepth 100000 in
theorem K_X11_isDigit : chkM 11 false cX11_isDigit T_X11_isDigit = true := by decide +kernel
set_option maxRecDepth 100000 in
theorem K_X11_wordOf : chkM 11 false cX11_wordOf T_X11_wordOf = true := by decide +kernel
set_option maxRecDepth 100000 in
theorem K_X11_splits : chkM 11 false cX11_splits T_X11_splits = true := by decide +kernel
set_option maxRecDepth 100000 in
theorem K_X11_fine : chkM 11 false cX11_fine T_X11_fine = true := by decide +kernel
set_option maxRecDepth 100000 in
theorem K_X11_faults : chkM 11 false cX11_faults T_X11_faults = true := by decide +kernel
set_option maxRecDepth 100000 in
theorem K_X11_takes0 : chkM 11 false cX11_takes0 T_X11_takes0 = true := by decide +kernel
set_option maxRecDepth 100000 in
theorem K_X11_must : chkM 11 false cX11_must T_X11_must = true := by decide +kernel
set_option maxRecDepth 100000 in
theorem K_X11_leaf : chkM 11 false cX11_leaf T_X11_leaf = true := by decide +kernel
set_option maxRecDepth 100000 in
theorem K_X11_sign : chkM 11 false cX11_sign T_X11_sign = true := by decide +kernel
set_option maxRecDepth 100000 in
theorem K_X11_readClause : chkM 11 false cX11_readClause T_X11_readClause = true := by decide +kernel
set_option maxRecDepth 100000 in
theorem K_X11_readTest : chkM 11 false cX11_readTest T_X11_readTest = true := by decide +kernel
set_option maxRecDepth 100000 in
theorem K_X11_readBoth : chkM 11 false cX11_readBoth T_X11_readBoth = true := by decide +kernel
set_option maxRecDepth 100000 in
theorem K_X11_readPlain : chkM 11 false cX11_readPlain T_X11_readPlain = true := by decide +kernel
set_option maxRecDepth 100000 in
theorem K_X11_readSum : chkM 11 false cX11_readSum T_X11_readSum = true := by decide +kernel
set_option maxRecDepth 100000 in
theorem K_X11_readTerm : chkM 11 false cX11_readTerm T_X11_readTerm = true := by decide +kernel
set_option maxRecDepth 100000 in
theorem K_X11_readPart : chkM 11 false cX11_readPart T_X11_readPart = true := by decide +kernel
set_option maxRecDepth 100000 in
theorem K_X11_reads : chkM 11 false cX11_reads T_X11_reads = true := by decide +kernel
set_option maxRecDepth 100000 in
theorem K_X11_law : chkM 11 false cX11_law T_X11_law = true := by decide +kernel
set_option maxRecDepth 100000 in
theorem K_X11_fault : chkM 11 false cX11_fault T_X11_fault = true := by decide +kernel
set_option maxRecDepth 100000 in
theorem K_X11_force : chkM 11 false cX11_force T_X11_force = true := by decide +kernel
set_option maxRecDepth 100000 in
theorem K_X11_codeAt : chkM 11 false cX11_codeAt T_X11_codeAt = true := by decide +kernel
set_option maxRecDepth 100000 in
theorem K_X11_passes0 : chkM 11 false cX11_passes0 T_X11_passes0 = true := by decide +kernel
set_option maxRecDepth 100000 in
theorem K_X11_bounded : chkM 11 false cX11_bounded T_X11_bounded = true := by decide +kernel
set_option maxRecDepth 100000 in
theorem K_X11_sumOf : chkM 11 false cX11_sumOf T_X11_sumOf = true := by decide +kernel
set_option maxRecDepth 100000 in
theorem K_X11_termOf : chkM 11 false cX11_termOf T_X11_termOf = true := by decide +kernel
set_option maxRecDepth 100000 in
theorem K_X11_partOf : chkM 11 false cX11_partOf T_X11_partOf = true := by decide +kernel
set_option maxRecDepth 100000 in
theorem K_X11_testOf : chkM 11 false cX11_testOf T_X11_testOf = true := by decide +kernel
set_option maxRecDepth 100000 in
theorem K_X11_bothOf : chkM 11 false cX11_bothOf T_X11_bothOf = true := by decide +kernel
set_option maxRecDepth 100000 in
theorem K_X11_plainOf : chkM 11 false cX11_plainOf T_X11_plainOf = true := by decide +kernel
set_option maxRecDepth 100000 in
theorem K_X11_positiveOf : chkM 11 false cX11_positiveOf T_X11_positiveOf = true := by decide +kernel
set_option maxRecDepth 100000 in
theorem K_X11_asks : chkM 11 false cX11_asks T_X11_asks = true := by decide +kernel
set_option maxRecDepth 100000 in
theorem K_X11_asksOf : chkM 11 false cX11_asksOf T_X11_asksOf = true := by decide +kernel
set_option maxRecDepth 100000 in
theorem K_X11_goOf : chkM 11 false cX11_goOf T_X11_goOf = true := by decide +kernel
set_option maxRecDepth 100000 in
theorem K_X11_at : chkM 11 false cX11_at T_X11_at = true := by decide +kernel
set_option maxRecDepth 100000 in
theorem K_X11_looks : chkM 11 false cX11_looks T_X11_looks = true := by decide +kernel
set_option maxRecDepth 100000 in
theorem K_X11_doorsBehind : chkM 11 false cX11_doorsBehind T_X11_doorsBehind = true := by decide +kernel
set_option maxRecDepth 100000 in
theorem K_X11_goes : chkM 11 false cX11_goes T_X11_goes = true := by decide +kernel
set_option maxRecDepth 100000 in
theorem K_X11_barred : chkM 11 false cX11_barred T_X11_barred = true := by decide +kernel
set_option maxRecDepth 100000 in
theorem K_X11_isSet : chkM 11 false cX11_isSet T_X11_isSet = true := by decide +kernel
set_option maxRecDepth 100000 in
theorem K_X11_setBehind : chkM 11 false cX11_setBehind T_X11_setBehind = true := by decide +kernel
set_option maxRecDepth 100000 in
theorem K_X11_together : chkM 11 false cX11_together T_X11_together = true := by decide +kernel
