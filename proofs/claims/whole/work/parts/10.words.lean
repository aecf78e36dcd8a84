/-! the tables' words by their places, for my own rows; printed by wip/whole/gen_words.py -/
theorem mm_in {i : Nat} {w : Cond} (h : tables_1[i]? = some w) (hg : goodWord w = true) : w ∈ mm_GW := List.mem_filter.mpr ⟨List.mem_append_right _ (List.mem_append_right _ (List.mem_of_getElem? h)), hg⟩
theorem mm_inp {i : Nat} {w : Cond} (h : (k2_sels lw_privs)[i]? = some w) (hg : goodWord w = true) : w ∈ mm_GW := List.mem_filter.mpr ⟨List.mem_append_right _ (List.mem_append_left _ (List.mem_of_getElem? h)), hg⟩
theorem mm_inl {i : Nat} {w : Cond} (h : tables_1[i]? = some w) : w ∈ lw_tbl := List.mem_append_right _ (List.mem_of_getElem? h)
theorem kw_X0 : ∀ w ∈ u_ws RX0 TX0 4, w ∈ mm_GW := by decide +kernel
theorem kw_X1 : ∀ w ∈ u_ws RX1 TX1 3, w ∈ mm_GW := by decide +kernel
theorem kw_X2 : ∀ w ∈ u_ws RX2 TX2 3, w ∈ mm_GW := by decide +kernel
theorem kw_X4 : ∀ w ∈ u_ws RX4 TX4 3, w ∈ mm_GW := by decide +kernel
theorem kw_X5 : ∀ w ∈ u_ws RX5 TX5 4, w ∈ mm_GW := by decide +kernel
theorem kw_X6 : ∀ w ∈ u_ws RX6 TX6 7, w ∈ mm_GW := by decide +kernel
theorem kw_X7 : ∀ w ∈ u_ws RX7 TX7 4, w ∈ mm_GW := by decide +kernel
theorem kw_X8 : ∀ w ∈ u_ws RX8 TX8 11, w ∈ mm_GW := by decide +kernel
theorem ki_X0 : Cond.initialized RX0 ∈ mm_GW := (mm_in (i := 6) (by decide +kernel) (by decide +kernel))
theorem ki_X1 : Cond.initialized RX1 ∈ mm_GW := (mm_in (i := 7) (by decide +kernel) (by decide +kernel))
theorem ki_X2 : Cond.initialized RX2 ∈ mm_GW := (mm_in (i := 4) (by decide +kernel) (by decide +kernel))
theorem ki_X3 : Cond.initialized RX3 ∈ mm_GW := (mm_in (i := 3) (by decide +kernel) (by decide +kernel))
theorem ki_X4 : Cond.initialized RX4 ∈ mm_GW := (mm_in (i := 5) (by decide +kernel) (by decide +kernel))
theorem ki_X5 : Cond.initialized RX5 ∈ mm_GW := (mm_in (i := 2) (by decide +kernel) (by decide +kernel))
theorem ki_X6 : Cond.initialized RX6 ∈ mm_GW := (mm_in (i := 8) (by decide +kernel) (by decide +kernel))
theorem ki_X7 : Cond.initialized RX7 ∈ mm_GW := (mm_in (i := 1) (by decide +kernel) (by decide +kernel))
theorem ki_X8 : Cond.initialized RX8 ∈ mm_GW := (mm_in (i := 9) (by decide +kernel) (by decide +kernel))
theorem ki_J6 : Cond.initialized RJ6 ∈ mm_GW := (mm_in (i := 18) (by decide +kernel) (by decide +kernel))
theorem ki_J9 : Cond.initialized RJ9 ∈ mm_GW := (mm_in (i := 16) (by decide +kernel) (by decide +kernel))
theorem ki_J10 : Cond.initialized RJ10 ∈ mm_GW := (mm_in (i := 15) (by decide +kernel) (by decide +kernel))
theorem ki_L : Cond.initialized RL ∈ mm_GW := (mm_in (i := 0) (by decide +kernel) (by decide +kernel))
theorem kc_X0_init : Cond.code yX0_init cX0_init 2 none ∈ mm_GW := (mm_in (i := 80) (by decide +kernel) (by decide +kernel))
theorem kn_X0_init : Cond.instanceMethod yX0_init ∈ mm_GW := (mm_in (i := 79) (by decide +kernel) (by decide +kernel))
theorem kc_X0_handlesAbove : Cond.code yX0_handlesAbove cX0_handlesAbove 4 (some .int) ∈ mm_GW := (mm_in (i := 865) (by decide +kernel) (by decide +kernel))
theorem kn_X0_handlesAbove : Cond.instanceMethod yX0_handlesAbove ∈ mm_GW := (mm_in (i := 863) (by decide +kernel) (by decide +kernel))
theorem kc_X0_down : Cond.code yX0_down cX0_down 7 none ∈ mm_GW := (mm_in (i := 263) (by decide +kernel) (by decide +kernel))
theorem kn_X0_down : Cond.instanceMethod yX0_down ∈ mm_GW := (mm_in (i := 262) (by decide +kernel) (by decide +kernel))
theorem kc_X0_enter : Cond.code yX0_enter cX0_enter 3 none ∈ mm_GW := (mm_in (i := 608) (by decide +kernel) (by decide +kernel))
theorem kn_X0_enter : Cond.instanceMethod yX0_enter ∈ mm_GW := (mm_in (i := 607) (by decide +kernel) (by decide +kernel))
theorem kc_X0_settle : Cond.code yX0_settle cX0_settle 2 none ∈ mm_GW := (mm_in (i := 672) (by decide +kernel) (by decide +kernel))
theorem kn_X0_settle : Cond.instanceMethod yX0_settle ∈ mm_GW := (mm_in (i := 671) (by decide +kernel) (by decide +kernel))
theorem kc_X0_settleAll : Cond.code yX0_settleAll cX0_settleAll 2 none ∈ mm_GW := (mm_in (i := 259) (by decide +kernel) (by decide +kernel))
theorem kn_X0_settleAll : Cond.instanceMethod yX0_settleAll ∈ mm_GW := (mm_in (i := 258) (by decide +kernel) (by decide +kernel))
theorem kc_X0_brokenPairs : Cond.code yX0_brokenPairs cX0_brokenPairs 5 (some .int) ∈ mm_GW := (mm_in (i := 470) (by decide +kernel) (by decide +kernel))
theorem kn_X0_brokenPairs : Cond.instanceMethod yX0_brokenPairs ∈ mm_GW := (mm_in (i := 469) (by decide +kernel) (by decide +kernel))
theorem kc_X1_init : Cond.code yX1_init cX1_init 2 none ∈ mm_GW := (mm_in (i := 108) (by decide +kernel) (by decide +kernel))
theorem kn_X1_init : Cond.instanceMethod yX1_init ∈ mm_GW := (mm_in (i := 107) (by decide +kernel) (by decide +kernel))
theorem kc_X1_slotAt : Cond.code yX1_slotAt cX1_slotAt 2 (some (.object "TwoEndQueues$Queues")) ∈ mm_GW := (mm_in (i := 181) (by decide +kernel) (by decide +kernel))
theorem kn_X1_slotAt : Cond.instanceMethod yX1_slotAt ∈ mm_GW := (mm_in (i := 180) (by decide +kernel) (by decide +kernel))
theorem kc_X1_keep : Cond.code yX1_keep cX1_keep 3 none ∈ mm_GW := (mm_in (i := 177) (by decide +kernel) (by decide +kernel))
theorem kn_X1_keep : Cond.instanceMethod yX1_keep ∈ mm_GW := (mm_in (i := 175) (by decide +kernel) (by decide +kernel))
theorem kc_X1_restore : Cond.code yX1_restore cX1_restore 4 none ∈ mm_GW := (mm_in (i := 941) (by decide +kernel) (by decide +kernel))
theorem kn_X1_restore : Cond.instanceMethod yX1_restore ∈ mm_GW := (mm_in (i := 939) (by decide +kernel) (by decide +kernel))
theorem kc_X2_init : Cond.code yX2_init cX2_init 1 none ∈ mm_GW := (mm_in (i := 37) (by decide +kernel) (by decide +kernel))
theorem kn_X2_init : Cond.instanceMethod yX2_init ∈ mm_GW := (mm_in (i := 36) (by decide +kernel) (by decide +kernel))
theorem kc_X2_low : Cond.code yX2_low cX2_low 1 (some .int) ∈ mm_GW := (mm_in (i := 290) (by decide +kernel) (by decide +kernel))
theorem ks_X2_low : Cond.static yX2_low ∈ mm_GW := (mm_in (i := 289) (by decide +kernel) (by decide +kernel))
theorem kc_X2_high : Cond.code yX2_high cX2_high 1 (some .int) ∈ mm_GW := (mm_in (i := 287) (by decide +kernel) (by decide +kernel))
theorem ks_X2_high : Cond.static yX2_high ∈ mm_GW := (mm_in (i := 286) (by decide +kernel) (by decide +kernel))
theorem kc_X2_top : Cond.code yX2_top cX2_top 2 (some .int) ∈ mm_GW := (mm_in (i := 304) (by decide +kernel) (by decide +kernel))
theorem kn_X2_top : Cond.instanceMethod yX2_top ∈ mm_GW := (mm_in (i := 303) (by decide +kernel) (by decide +kernel))
theorem kc_X2_greatestPosition : Cond.code yX2_greatestPosition cX2_greatestPosition 1 (some .int) ∈ mm_GW := (mm_in (i := 692) (by decide +kernel) (by decide +kernel))
theorem kn_X2_greatestPosition : Cond.instanceMethod yX2_greatestPosition ∈ mm_GW := (mm_in (i := 690) (by decide +kernel) (by decide +kernel))
theorem kc_X2_order : Cond.code yX2_order cX2_order 2 none ∈ mm_GW := (mm_in (i := 284) (by decide +kernel) (by decide +kernel))
theorem kn_X2_order : Cond.instanceMethod yX2_order ∈ mm_GW := (mm_in (i := 283) (by decide +kernel) (by decide +kernel))
theorem kc_X2_riseLow : Cond.code yX2_riseLow cX2_riseLow 4 none ∈ mm_GW := (mm_in (i := 619) (by decide +kernel) (by decide +kernel))
theorem kn_X2_riseLow : Cond.instanceMethod yX2_riseLow ∈ mm_GW := (mm_in (i := 618) (by decide +kernel) (by decide +kernel))
theorem kc_X2_riseHigh : Cond.code yX2_riseHigh cX2_riseHigh 6 none ∈ mm_GW := (mm_in (i := 615) (by decide +kernel) (by decide +kernel))
theorem kn_X2_riseHigh : Cond.instanceMethod yX2_riseHigh ∈ mm_GW := (mm_in (i := 614) (by decide +kernel) (by decide +kernel))
theorem kc_X2_sinkLow : Cond.code yX2_sinkLow cX2_sinkLow 7 none ∈ mm_GW := (mm_in (i := 280) (by decide +kernel) (by decide +kernel))
theorem kn_X2_sinkLow : Cond.instanceMethod yX2_sinkLow ∈ mm_GW := (mm_in (i := 279) (by decide +kernel) (by decide +kernel))
theorem kc_X2_sinkHigh : Cond.code yX2_sinkHigh cX2_sinkHigh 7 none ∈ mm_GW := (mm_in (i := 300) (by decide +kernel) (by decide +kernel))
theorem kn_X2_sinkHigh : Cond.instanceMethod yX2_sinkHigh ∈ mm_GW := (mm_in (i := 299) (by decide +kernel) (by decide +kernel))
theorem kc_X2_enter : Cond.code yX2_enter cX2_enter 5 none ∈ mm_GW := (mm_in (i := 611) (by decide +kernel) (by decide +kernel))
theorem kn_X2_enter : Cond.instanceMethod yX2_enter ∈ mm_GW := (mm_in (i := 610) (by decide +kernel) (by decide +kernel))
theorem kc_X2_settle : Cond.code yX2_settle cX2_settle 3 none ∈ mm_GW := (mm_in (i := 676) (by decide +kernel) (by decide +kernel))
theorem kn_X2_settle : Cond.instanceMethod yX2_settle ∈ mm_GW := (mm_in (i := 675) (by decide +kernel) (by decide +kernel))
theorem kc_X2_settleAll : Cond.code yX2_settleAll cX2_settleAll 2 none ∈ mm_GW := (mm_in (i := 276) (by decide +kernel) (by decide +kernel))
theorem kn_X2_settleAll : Cond.instanceMethod yX2_settleAll ∈ mm_GW := (mm_in (i := 275) (by decide +kernel) (by decide +kernel))
theorem kc_X2_brokenPairs : Cond.code yX2_brokenPairs cX2_brokenPairs 3 (some .int) ∈ mm_GW := (mm_in (i := 478) (by decide +kernel) (by decide +kernel))
theorem kn_X2_brokenPairs : Cond.instanceMethod yX2_brokenPairs ∈ mm_GW := (mm_in (i := 477) (by decide +kernel) (by decide +kernel))
theorem kc_X3_init : Cond.code yX3_init cX3_init 1 none ∈ mm_GW := (mm_in (i := 40) (by decide +kernel) (by decide +kernel))
theorem kn_X3_init : Cond.instanceMethod yX3_init ∈ mm_GW := (mm_in (i := 39) (by decide +kernel) (by decide +kernel))
theorem kc_X3_parentOf : Cond.code yX3_parentOf cX3_parentOf 1 (some .int) ∈ mm_GW := (mm_in (i := 331) (by decide +kernel) (by decide +kernel))
theorem ks_X3_parentOf : Cond.static yX3_parentOf ∈ mm_GW := (mm_in (i := 330) (by decide +kernel) (by decide +kernel))
theorem kc_X3_isPosition : Cond.code yX3_isPosition cX3_isPosition 2 (some .boolean) ∈ mm_GW := (mm_in (i := 246) (by decide +kernel) (by decide +kernel))
theorem kn_X3_isPosition : Cond.instanceMethod yX3_isPosition ∈ mm_GW := (mm_in (i := 241) (by decide +kernel) (by decide +kernel))
theorem kc_X3_itemAt : Cond.code yX3_itemAt cX3_itemAt 2 (some .int) ∈ mm_GW := (mm_in (i := 381) (by decide +kernel) (by decide +kernel))
theorem kn_X3_itemAt : Cond.instanceMethod yX3_itemAt ∈ mm_GW := (mm_in (i := 380) (by decide +kernel) (by decide +kernel))
theorem kc_X3_handleAt : Cond.code yX3_handleAt cX3_handleAt 2 (some .int) ∈ mm_GW := (mm_in (i := 239) (by decide +kernel) (by decide +kernel))
theorem kn_X3_handleAt : Cond.instanceMethod yX3_handleAt ∈ mm_GW := (mm_in (i := 234) (by decide +kernel) (by decide +kernel))
theorem kc_X3_keyAt : Cond.code yX3_keyAt cX3_keyAt 2 (some .int) ∈ mm_GW := (mm_in (i := 395) (by decide +kernel) (by decide +kernel))
theorem kn_X3_keyAt : Cond.instanceMethod yX3_keyAt ∈ mm_GW := (mm_in (i := 394) (by decide +kernel) (by decide +kernel))
theorem kc_X3_find : Cond.code yX3_find cX3_find 3 (some .int) ∈ mm_GW := (mm_in (i := 232) (by decide +kernel) (by decide +kernel))
theorem kn_X3_find : Cond.instanceMethod yX3_find ∈ mm_GW := (mm_in (i := 227) (by decide +kernel) (by decide +kernel))
theorem kc_X3_ahead : Cond.code yX3_ahead cX3_ahead 4 (some .boolean) ∈ mm_GW := (mm_in (i := 269) (by decide +kernel) (by decide +kernel))
theorem kn_X3_ahead : Cond.instanceMethod yX3_ahead ∈ mm_GW := (mm_in (i := 268) (by decide +kernel) (by decide +kernel))
theorem kc_X3_exchange : Cond.code yX3_exchange cX3_exchange 4 none ∈ mm_GW := (mm_in (i := 253) (by decide +kernel) (by decide +kernel))
theorem kn_X3_exchange : Cond.instanceMethod yX3_exchange ∈ mm_GW := (mm_in (i := 248) (by decide +kernel) (by decide +kernel))
theorem kc_X3_putIn : Cond.code yX3_putIn cX3_putIn 3 none ∈ mm_GW := (mm_in (i := 602) (by decide +kernel) (by decide +kernel))
theorem kn_X3_putIn : Cond.instanceMethod yX3_putIn ∈ mm_GW := (mm_in (i := 597) (by decide +kernel) (by decide +kernel))
theorem kc_X3_takeOut : Cond.code yX3_takeOut cX3_takeOut 3 none ∈ mm_GW := (mm_in (i := 666) (by decide +kernel) (by decide +kernel))
theorem kn_X3_takeOut : Cond.instanceMethod yX3_takeOut ∈ mm_GW := (mm_in (i := 661) (by decide +kernel) (by decide +kernel))
theorem kc_X3_giveKey : Cond.code yX3_giveKey cX3_giveKey 4 none ∈ mm_GW := (mm_in (i := 713) (by decide +kernel) (by decide +kernel))
theorem kn_X3_giveKey : Cond.instanceMethod yX3_giveKey ∈ mm_GW := (mm_in (i := 708) (by decide +kernel) (by decide +kernel))
theorem kc_X3_arrange : Cond.code yX3_arrange cX3_arrange 1 none ∈ mm_GW := (mm_in (i := 221) (by decide +kernel) (by decide +kernel))
theorem kn_X3_arrange : Cond.instanceMethod yX3_arrange ∈ mm_GW := (mm_in (i := 216) (by decide +kernel) (by decide +kernel))
theorem kc_X3_lineUp : Cond.code yX3_lineUp cX3_lineUp 4 none ∈ mm_GW := (mm_in (i := 225) (by decide +kernel) (by decide +kernel))
theorem kn_X3_lineUp : Cond.instanceMethod yX3_lineUp ∈ mm_GW := (mm_in (i := 224) (by decide +kernel) (by decide +kernel))
theorem kc_X3_copyFrom : Cond.code yX3_copyFrom cX3_copyFrom 2 none ∈ mm_GW := (mm_in (i := 196) (by decide +kernel) (by decide +kernel))
theorem kn_X3_copyFrom : Cond.instanceMethod yX3_copyFrom ∈ mm_GW := (mm_in (i := 191) (by decide +kernel) (by decide +kernel))
theorem kc_X4_init : Cond.code yX4_init cX4_init 1 none ∈ mm_GW := (mm_in (i := 70) (by decide +kernel) (by decide +kernel))
theorem kn_X4_init : Cond.instanceMethod yX4_init ∈ mm_GW := (mm_in (i := 69) (by decide +kernel) (by decide +kernel))
theorem kc_X4_levelOf : Cond.code yX4_levelOf cX4_levelOf 3 (some .int) ∈ mm_GW := (mm_in (i := 317) (by decide +kernel) (by decide +kernel))
theorem ks_X4_levelOf : Cond.static yX4_levelOf ∈ mm_GW := (mm_in (i := 316) (by decide +kernel) (by decide +kernel))
theorem kc_X4_isLow : Cond.code yX4_isLow cX4_isLow 1 (some .boolean) ∈ mm_GW := (mm_in (i := 314) (by decide +kernel) (by decide +kernel))
theorem ks_X4_isLow : Cond.static yX4_isLow ∈ mm_GW := (mm_in (i := 313) (by decide +kernel) (by decide +kernel))
theorem kc_X4_greatestPosition : Cond.code yX4_greatestPosition cX4_greatestPosition 1 (some .int) ∈ mm_GW := (mm_in (i := 696) (by decide +kernel) (by decide +kernel))
theorem kn_X4_greatestPosition : Cond.instanceMethod yX4_greatestPosition ∈ mm_GW := (mm_in (i := 694) (by decide +kernel) (by decide +kernel))
theorem kc_X4_countFindingGreatest : Cond.code yX4_countFindingGreatest cX4_countFindingGreatest 1 none ∈ mm_GW := (mm_in (i := 684) (by decide +kernel) (by decide +kernel))
theorem kn_X4_countFindingGreatest : Cond.instanceMethod yX4_countFindingGreatest ∈ mm_GW := (mm_in (i := 682) (by decide +kernel) (by decide +kernel))
theorem kc_X4_rise : Cond.code yX4_rise cX4_rise 5 none ∈ mm_GW := (mm_in (i := 626) (by decide +kernel) (by decide +kernel))
theorem kn_X4_rise : Cond.instanceMethod yX4_rise ∈ mm_GW := (mm_in (i := 625) (by decide +kernel) (by decide +kernel))
theorem kc_X4_foremostBelow : Cond.code yX4_foremostBelow cX4_foremostBelow 6 (some .int) ∈ mm_GW := (mm_in (i := 321) (by decide +kernel) (by decide +kernel))
theorem kn_X4_foremostBelow : Cond.instanceMethod yX4_foremostBelow ∈ mm_GW := (mm_in (i := 320) (by decide +kernel) (by decide +kernel))
theorem kc_X4_sink : Cond.code yX4_sink cX4_sink 7 none ∈ mm_GW := (mm_in (i := 311) (by decide +kernel) (by decide +kernel))
theorem kn_X4_sink : Cond.instanceMethod yX4_sink ∈ mm_GW := (mm_in (i := 310) (by decide +kernel) (by decide +kernel))
theorem kc_X4_enter : Cond.code yX4_enter cX4_enter 4 none ∈ mm_GW := (mm_in (i := 622) (by decide +kernel) (by decide +kernel))
theorem kn_X4_enter : Cond.instanceMethod yX4_enter ∈ mm_GW := (mm_in (i := 621) (by decide +kernel) (by decide +kernel))
theorem kc_X4_settle : Cond.code yX4_settle cX4_settle 2 none ∈ mm_GW := (mm_in (i := 679) (by decide +kernel) (by decide +kernel))
theorem kn_X4_settle : Cond.instanceMethod yX4_settle ∈ mm_GW := (mm_in (i := 678) (by decide +kernel) (by decide +kernel))
theorem kc_X4_settleAll : Cond.code yX4_settleAll cX4_settleAll 2 none ∈ mm_GW := (mm_in (i := 307) (by decide +kernel) (by decide +kernel))
theorem kn_X4_settleAll : Cond.instanceMethod yX4_settleAll ∈ mm_GW := (mm_in (i := 306) (by decide +kernel) (by decide +kernel))
theorem kc_X4_brokenPairs : Cond.code yX4_brokenPairs cX4_brokenPairs 6 (some .int) ∈ mm_GW := (mm_in (i := 484) (by decide +kernel) (by decide +kernel))
theorem kn_X4_brokenPairs : Cond.instanceMethod yX4_brokenPairs ∈ mm_GW := (mm_in (i := 483) (by decide +kernel) (by decide +kernel))
theorem kc_X5_init : Cond.code yX5_init cX5_init 1 none ∈ mm_GW := (mm_in (i := 31) (by decide +kernel) (by decide +kernel))
theorem kn_X5_init : Cond.instanceMethod yX5_init ∈ mm_GW := (mm_in (i := 30) (by decide +kernel) (by decide +kernel))
theorem kc_X5_layout : Cond.code yX5_layout cX5_layout 2 (some (.object "TwoEndQueues$Layout")) ∈ mm_GW := (mm_in (i := 189) (by decide +kernel) (by decide +kernel))
theorem kn_X5_layout : Cond.instanceMethod yX5_layout ∈ mm_GW := (mm_in (i := 187) (by decide +kernel) (by decide +kernel))
theorem kc_X5_itemCount : Cond.code yX5_itemCount cX5_itemCount 1 (some .int) ∈ mm_GW := (mm_in (i := 339) (by decide +kernel) (by decide +kernel))
theorem kn_X5_itemCount : Cond.instanceMethod yX5_itemCount ∈ mm_GW := (mm_in (i := 337) (by decide +kernel) (by decide +kernel))
theorem kc_X5_has : Cond.code yX5_has cX5_has 2 (some .boolean) ∈ mm_GW := (mm_in (i := 367) (by decide +kernel) (by decide +kernel))
theorem kn_X5_has : Cond.instanceMethod yX5_has ∈ mm_GW := (mm_in (i := 365) (by decide +kernel) (by decide +kernel))
theorem kc_X5_keyOf : Cond.code yX5_keyOf cX5_keyOf 2 (some .int) ∈ mm_GW := (mm_in (i := 389) (by decide +kernel) (by decide +kernel))
theorem kn_X5_keyOf : Cond.instanceMethod yX5_keyOf ∈ mm_GW := (mm_in (i := 387) (by decide +kernel) (by decide +kernel))
theorem kc_X5_handleSet : Cond.code yX5_handleSet cX5_handleSet 3 (some .int) ∈ mm_GW := (mm_in (i := 355) (by decide +kernel) (by decide +kernel))
theorem kn_X5_handleSet : Cond.instanceMethod yX5_handleSet ∈ mm_GW := (mm_in (i := 353) (by decide +kernel) (by decide +kernel))
theorem kc_X5_countLess : Cond.code yX5_countLess cX5_countLess 5 (some .int) ∈ mm_GW := (mm_in (i := 375) (by decide +kernel) (by decide +kernel))
theorem kn_X5_countLess : Cond.instanceMethod yX5_countLess ∈ mm_GW := (mm_in (i := 373) (by decide +kernel) (by decide +kernel))
theorem kc_X5_leastOf : Cond.code yX5_leastOf cX5_leastOf 2 (some .int) ∈ mm_GW := (mm_in (i := 642) (by decide +kernel) (by decide +kernel))
theorem kn_X5_leastOf : Cond.instanceMethod yX5_leastOf ∈ mm_GW := (mm_in (i := 640) (by decide +kernel) (by decide +kernel))
theorem kc_X5_greatestOf : Cond.code yX5_greatestOf cX5_greatestOf 2 (some .int) ∈ mm_GW := (mm_in (i := 688) (by decide +kernel) (by decide +kernel))
theorem kn_X5_greatestOf : Cond.instanceMethod yX5_greatestOf ∈ mm_GW := (mm_in (i := 686) (by decide +kernel) (by decide +kernel))
theorem kc_X5_countedIn : Cond.code yX5_countedIn cX5_countedIn 2 (some .int) ∈ mm_GW := (mm_in (i := 210) (by decide +kernel) (by decide +kernel))
theorem kn_X5_countedIn : Cond.instanceMethod yX5_countedIn ∈ mm_GW := (mm_in (i := 208) (by decide +kernel) (by decide +kernel))
theorem kc_X5_countedInAll : Cond.code yX5_countedInAll cX5_countedInAll 1 (some .int) ∈ mm_GW := (mm_in (i := 206) (by decide +kernel) (by decide +kernel))
theorem kn_X5_countedInAll : Cond.instanceMethod yX5_countedInAll ∈ mm_GW := (mm_in (i := 204) (by decide +kernel) (by decide +kernel))
theorem kc_X5_forgetCounts : Cond.code yX5_forgetCounts cX5_forgetCounts 2 none ∈ mm_GW := (mm_in (i := 404) (by decide +kernel) (by decide +kernel))
theorem kn_X5_forgetCounts : Cond.instanceMethod yX5_forgetCounts ∈ mm_GW := (mm_in (i := 402) (by decide +kernel) (by decide +kernel))
theorem kc_X5_lowestFreeHandle : Cond.code yX5_lowestFreeHandle cX5_lowestFreeHandle 2 (some .int) ∈ mm_GW := (mm_in (i := 594) (by decide +kernel) (by decide +kernel))
theorem kn_X5_lowestFreeHandle : Cond.instanceMethod yX5_lowestFreeHandle ∈ mm_GW := (mm_in (i := 593) (by decide +kernel) (by decide +kernel))
theorem kc_X5_putIn : Cond.code yX5_putIn cX5_putIn 4 (some .int) ∈ mm_GW := (mm_in (i := 590) (by decide +kernel) (by decide +kernel))
theorem kn_X5_putIn : Cond.instanceMethod yX5_putIn ∈ mm_GW := (mm_in (i := 588) (by decide +kernel) (by decide +kernel))
theorem kc_X5_takeOut : Cond.code yX5_takeOut cX5_takeOut 3 none ∈ mm_GW := (mm_in (i := 659) (by decide +kernel) (by decide +kernel))
theorem kn_X5_takeOut : Cond.instanceMethod yX5_takeOut ∈ mm_GW := (mm_in (i := 657) (by decide +kernel) (by decide +kernel))
theorem kc_X5_takeOutOf : Cond.code yX5_takeOutOf cX5_takeOutOf 3 none ∈ mm_GW := (mm_in (i := 902) (by decide +kernel) (by decide +kernel))
theorem kn_X5_takeOutOf : Cond.instanceMethod yX5_takeOutOf ∈ mm_GW := (mm_in (i := 900) (by decide +kernel) (by decide +kernel))
theorem kc_X5_giveKey : Cond.code yX5_giveKey cX5_giveKey 4 none ∈ mm_GW := (mm_in (i := 706) (by decide +kernel) (by decide +kernel))
theorem kn_X5_giveKey : Cond.instanceMethod yX5_giveKey ∈ mm_GW := (mm_in (i := 704) (by decide +kernel) (by decide +kernel))
theorem kc_X5_arrange : Cond.code yX5_arrange cX5_arrange 2 none ∈ mm_GW := (mm_in (i := 214) (by decide +kernel) (by decide +kernel))
theorem kn_X5_arrange : Cond.instanceMethod yX5_arrange ∈ mm_GW := (mm_in (i := 212) (by decide +kernel) (by decide +kernel))
theorem kc_X5_empty : Cond.code yX5_empty cX5_empty 2 none ∈ mm_GW := (mm_in (i := 343) (by decide +kernel) (by decide +kernel))
theorem kn_X5_empty : Cond.instanceMethod yX5_empty ∈ mm_GW := (mm_in (i := 341) (by decide +kernel) (by decide +kernel))
theorem kc_X5_copyFrom : Cond.code yX5_copyFrom cX5_copyFrom 3 none ∈ mm_GW := (mm_in (i := 185) (by decide +kernel) (by decide +kernel))
theorem kn_X5_copyFrom : Cond.instanceMethod yX5_copyFrom ∈ mm_GW := (mm_in (i := 183) (by decide +kernel) (by decide +kernel))
theorem kc_X5_isPossible : Cond.code yX5_isPossible cX5_isPossible 4 (some .boolean) ∈ mm_GW := (mm_in (i := 651) (by decide +kernel) (by decide +kernel))
theorem kn_X5_isPossible : Cond.instanceMethod yX5_isPossible ∈ mm_GW := (mm_in (i := 650) (by decide +kernel) (by decide +kernel))
theorem kc_X5_carryOut : Cond.code yX5_carryOut cX5_carryOut 4 (some .boolean) ∈ mm_GW := (mm_in (i := 647) (by decide +kernel) (by decide +kernel))
theorem kn_X5_carryOut : Cond.instanceMethod yX5_carryOut ∈ mm_GW := (mm_in (i := 645) (by decide +kernel) (by decide +kernel))
theorem kc_X6_init : Cond.code yX6_init cX6_init 1 none ∈ mm_GW := (mm_in (i := 128) (by decide +kernel) (by decide +kernel))
theorem kn_X6_init : Cond.instanceMethod yX6_init ∈ mm_GW := (mm_in (i := 127) (by decide +kernel) (by decide +kernel))
theorem kc_X6_append : Cond.code yX6_append cX6_append 2 none ∈ mm_GW := (mm_in (i := 919) (by decide +kernel) (by decide +kernel))
theorem kn_X6_append : Cond.instanceMethod yX6_append ∈ mm_GW := (mm_in (i := 917) (by decide +kernel) (by decide +kernel))
theorem kc_X6_rewind : Cond.code yX6_rewind cX6_rewind 1 none ∈ mm_GW := (mm_in (i := 425) (by decide +kernel) (by decide +kernel))
theorem kn_X6_rewind : Cond.instanceMethod yX6_rewind ∈ mm_GW := (mm_in (i := 423) (by decide +kernel) (by decide +kernel))
theorem kc_X6_firstFault : Cond.code yX6_firstFault cX6_firstFault 2 (some .int) ∈ mm_GW := (mm_in (i := 421) (by decide +kernel) (by decide +kernel))
theorem kn_X6_firstFault : Cond.instanceMethod yX6_firstFault ∈ mm_GW := (mm_in (i := 419) (by decide +kernel) (by decide +kernel))
theorem kc_X6_readCommand : Cond.code yX6_readCommand cX6_readCommand 1 (some .boolean) ∈ mm_GW := (mm_in (i := 429) (by decide +kernel) (by decide +kernel))
theorem kn_X6_readCommand : Cond.instanceMethod yX6_readCommand ∈ mm_GW := (mm_in (i := 427) (by decide +kernel) (by decide +kernel))
theorem kc_X6_commandOf : Cond.code yX6_commandOf cX6_commandOf 1 (some .int) ∈ mm_GW := (mm_in (i := 436) (by decide +kernel) (by decide +kernel))
theorem ks_X6_commandOf : Cond.static yX6_commandOf ∈ mm_GW := (mm_in (i := 435) (by decide +kernel) (by decide +kernel))
theorem kc_X6_readArguments : Cond.code yX6_readArguments cX6_readArguments 1 (some .boolean) ∈ mm_GW := (mm_in (i := 440) (by decide +kernel) (by decide +kernel))
theorem kn_X6_readArguments : Cond.instanceMethod yX6_readArguments ∈ mm_GW := (mm_in (i := 439) (by decide +kernel) (by decide +kernel))
theorem kc_X6_readKey : Cond.code yX6_readKey cX6_readKey 3 (some .boolean) ∈ mm_GW := (mm_in (i := 444) (by decide +kernel) (by decide +kernel))
theorem kn_X6_readKey : Cond.instanceMethod yX6_readKey ∈ mm_GW := (mm_in (i := 443) (by decide +kernel) (by decide +kernel))
theorem kc_X6_readHandle : Cond.code yX6_readHandle cX6_readHandle 2 (some .boolean) ∈ mm_GW := (mm_in (i := 456) (by decide +kernel) (by decide +kernel))
theorem kn_X6_readHandle : Cond.instanceMethod yX6_readHandle ∈ mm_GW := (mm_in (i := 455) (by decide +kernel) (by decide +kernel))
theorem kc_X6_readNumber : Cond.code yX6_readNumber cX6_readNumber 3 (some .boolean) ∈ mm_GW := (mm_in (i := 452) (by decide +kernel) (by decide +kernel))
theorem kn_X6_readNumber : Cond.instanceMethod yX6_readNumber ∈ mm_GW := (mm_in (i := 451) (by decide +kernel) (by decide +kernel))
theorem kc_X6_readSign : Cond.code yX6_readSign cX6_readSign 2 (some .boolean) ∈ mm_GW := (mm_in (i := 448) (by decide +kernel) (by decide +kernel))
theorem kn_X6_readSign : Cond.instanceMethod yX6_readSign ∈ mm_GW := (mm_in (i := 447) (by decide +kernel) (by decide +kernel))
theorem kc_X6_current : Cond.code yX6_current cX6_current 1 (some .char) ∈ mm_GW := (mm_in (i := 433) (by decide +kernel) (by decide +kernel))
theorem kn_X6_current : Cond.instanceMethod yX6_current ∈ mm_GW := (mm_in (i := 432) (by decide +kernel) (by decide +kernel))
theorem kc_X7_init : Cond.code yX7_init cX7_init 1 none ∈ mm_GW := (mm_in (i := 23) (by decide +kernel) (by decide +kernel))
theorem kn_X7_init : Cond.instanceMethod yX7_init ∈ mm_GW := (mm_in (i := 22) (by decide +kernel) (by decide +kernel))
theorem kc_X7_insert : Cond.code yX7_insert cX7_insert 2 (some .int) ∈ mm_GW := (mm_in (i := 496) (by decide +kernel) (by decide +kernel))
theorem kn_X7_insert : Cond.instanceMethod yX7_insert ∈ mm_GW := (mm_in (i := 494) (by decide +kernel) (by decide +kernel))
theorem kc_X7_takeLeast : Cond.code yX7_takeLeast cX7_takeLeast 2 (some .int) ∈ mm_GW := (mm_in (i := 633) (by decide +kernel) (by decide +kernel))
theorem kn_X7_takeLeast : Cond.instanceMethod yX7_takeLeast ∈ mm_GW := (mm_in (i := 631) (by decide +kernel) (by decide +kernel))
theorem kc_X7_takeGreatest : Cond.code yX7_takeGreatest cX7_takeGreatest 2 (some .int) ∈ mm_GW := (mm_in (i := 721) (by decide +kernel) (by decide +kernel))
theorem kn_X7_takeGreatest : Cond.instanceMethod yX7_takeGreatest ∈ mm_GW := (mm_in (i := 719) (by decide +kernel) (by decide +kernel))
theorem kc_X7_remove : Cond.code yX7_remove cX7_remove 3 (some .int) ∈ mm_GW := (mm_in (i := 730) (by decide +kernel) (by decide +kernel))
theorem kn_X7_remove : Cond.instanceMethod yX7_remove ∈ mm_GW := (mm_in (i := 728) (by decide +kernel) (by decide +kernel))
theorem kc_X7_change : Cond.code yX7_change cX7_change 4 (some .int) ∈ mm_GW := (mm_in (i := 758) (by decide +kernel) (by decide +kernel))
theorem kn_X7_change : Cond.instanceMethod yX7_change ∈ mm_GW := (mm_in (i := 756) (by decide +kernel) (by decide +kernel))
theorem kc_X7_build : Cond.code yX7_build cX7_build 2 (some .int) ∈ mm_GW := (mm_in (i := 173) (by decide +kernel) (by decide +kernel))
theorem kn_X7_build : Cond.instanceMethod yX7_build ∈ mm_GW := (mm_in (i := 171) (by decide +kernel) (by decide +kernel))
theorem kc_X7_clear : Cond.code yX7_clear cX7_clear 2 (some .int) ∈ mm_GW := (mm_in (i := 335) (by decide +kernel) (by decide +kernel))
theorem kn_X7_clear : Cond.instanceMethod yX7_clear ∈ mm_GW := (mm_in (i := 333) (by decide +kernel) (by decide +kernel))
theorem kc_X7_size : Cond.code yX7_size cX7_size 1 (some .int) ∈ mm_GW := (mm_in (i := 347) (by decide +kernel) (by decide +kernel))
theorem kn_X7_size : Cond.instanceMethod yX7_size ∈ mm_GW := (mm_in (i := 345) (by decide +kernel) (by decide +kernel))
theorem kc_X7_handles : Cond.code yX7_handles cX7_handles 1 (some .int) ∈ mm_GW := (mm_in (i := 351) (by decide +kernel) (by decide +kernel))
theorem kn_X7_handles : Cond.instanceMethod yX7_handles ∈ mm_GW := (mm_in (i := 349) (by decide +kernel) (by decide +kernel))
theorem kc_X7_key : Cond.code yX7_key cX7_key 2 (some .int) ∈ mm_GW := (mm_in (i := 766) (by decide +kernel) (by decide +kernel))
theorem kn_X7_key : Cond.instanceMethod yX7_key ∈ mm_GW := (mm_in (i := 764) (by decide +kernel) (by decide +kernel))
theorem kc_X7_fill : Cond.code yX7_fill cX7_fill 6 (some .int) ∈ mm_GW := (mm_in (i := 773) (by decide +kernel) (by decide +kernel))
theorem kn_X7_fill : Cond.instanceMethod yX7_fill ∈ mm_GW := (mm_in (i := 771) (by decide +kernel) (by decide +kernel))
theorem kc_X7_least : Cond.code yX7_least cX7_least 2 (some .int) ∈ mm_GW := (mm_in (i := 787) (by decide +kernel) (by decide +kernel))
theorem kn_X7_least : Cond.instanceMethod yX7_least ∈ mm_GW := (mm_in (i := 785) (by decide +kernel) (by decide +kernel))
theorem kc_X7_greatest : Cond.code yX7_greatest cX7_greatest 2 (some .int) ∈ mm_GW := (mm_in (i := 798) (by decide +kernel) (by decide +kernel))
theorem kn_X7_greatest : Cond.instanceMethod yX7_greatest ∈ mm_GW := (mm_in (i := 796) (by decide +kernel) (by decide +kernel))
theorem kc_X7_ranked : Cond.code yX7_ranked cX7_ranked 3 (some .int) ∈ mm_GW := (mm_in (i := 363) (by decide +kernel) (by decide +kernel))
theorem kn_X7_ranked : Cond.instanceMethod yX7_ranked ∈ mm_GW := (mm_in (i := 361) (by decide +kernel) (by decide +kernel))
theorem kc_X7_rank : Cond.code yX7_rank cX7_rank 2 (some .int) ∈ mm_GW := (mm_in (i := 805) (by decide +kernel) (by decide +kernel))
theorem kn_X7_rank : Cond.instanceMethod yX7_rank ∈ mm_GW := (mm_in (i := 803) (by decide +kernel) (by decide +kernel))
theorem kc_X7_between : Cond.code yX7_between cX7_between 5 (some .int) ∈ mm_GW := (mm_in (i := 385) (by decide +kernel) (by decide +kernel))
theorem kn_X7_between : Cond.instanceMethod yX7_between ∈ mm_GW := (mm_in (i := 383) (by decide +kernel) (by decide +kernel))
theorem kc_X7_at : Cond.code yX7_at cX7_at 3 (some .int) ∈ mm_GW := (mm_in (i := 812) (by decide +kernel) (by decide +kernel))
theorem kn_X7_at : Cond.instanceMethod yX7_at ∈ mm_GW := (mm_in (i := 810) (by decide +kernel) (by decide +kernel))
theorem kc_X7_where : Cond.code yX7_where cX7_where 3 (some .int) ∈ mm_GW := (mm_in (i := 823) (by decide +kernel) (by decide +kernel))
theorem kn_X7_where : Cond.instanceMethod yX7_where ∈ mm_GW := (mm_in (i := 821) (by decide +kernel) (by decide +kernel))
theorem kc_X7_violations : Cond.code yX7_violations cX7_violations 2 (some .int) ∈ mm_GW := (mm_in (i := 831) (by decide +kernel) (by decide +kernel))
theorem kn_X7_violations : Cond.instanceMethod yX7_violations ∈ mm_GW := (mm_in (i := 829) (by decide +kernel) (by decide +kernel))
theorem kc_X7_disturb : Cond.code yX7_disturb cX7_disturb 4 (some .int) ∈ mm_GW := (mm_in (i := 838) (by decide +kernel) (by decide +kernel))
theorem kn_X7_disturb : Cond.instanceMethod yX7_disturb ∈ mm_GW := (mm_in (i := 836) (by decide +kernel) (by decide +kernel))
theorem kc_X7_level : Cond.code yX7_level cX7_level 2 (some .int) ∈ mm_GW := (mm_in (i := 851) (by decide +kernel) (by decide +kernel))
theorem kn_X7_level : Cond.instanceMethod yX7_level ∈ mm_GW := (mm_in (i := 849) (by decide +kernel) (by decide +kernel))
theorem kc_X7_ancestors : Cond.code yX7_ancestors cX7_ancestors 2 (some .int) ∈ mm_GW := (mm_in (i := 861) (by decide +kernel) (by decide +kernel))
theorem kn_X7_ancestors : Cond.instanceMethod yX7_ancestors ∈ mm_GW := (mm_in (i := 859) (by decide +kernel) (by decide +kernel))
theorem kc_X7_comparisons : Cond.code yX7_comparisons cX7_comparisons 2 (some .int) ∈ mm_GW := (mm_in (i := 882) (by decide +kernel) (by decide +kernel))
theorem kn_X7_comparisons : Cond.instanceMethod yX7_comparisons ∈ mm_GW := (mm_in (i := 880) (by decide +kernel) (by decide +kernel))
theorem kc_X7_forget : Cond.code yX7_forget cX7_forget 2 (some .int) ∈ mm_GW := (mm_in (i := 400) (by decide +kernel) (by decide +kernel))
theorem kn_X7_forget : Cond.instanceMethod yX7_forget ∈ mm_GW := (mm_in (i := 398) (by decide +kernel) (by decide +kernel))
theorem kc_X7_wouldNeed : Cond.code yX7_wouldNeed cX7_wouldNeed 4 (some .int) ∈ mm_GW := (mm_in (i := 889) (by decide +kernel) (by decide +kernel))
theorem kn_X7_wouldNeed : Cond.instanceMethod yX7_wouldNeed ∈ mm_GW := (mm_in (i := 887) (by decide +kernel) (by decide +kernel))
theorem kc_X7_sortingNeeds : Cond.code yX7_sortingNeeds cX7_sortingNeeds 3 (some .int) ∈ mm_GW := (mm_in (i := 898) (by decide +kernel) (by decide +kernel))
theorem kn_X7_sortingNeeds : Cond.instanceMethod yX7_sortingNeeds ∈ mm_GW := (mm_in (i := 896) (by decide +kernel) (by decide +kernel))
theorem kc_X7_fewest : Cond.code yX7_fewest cX7_fewest 3 (some .int) ∈ mm_GW := (mm_in (i := 408) (by decide +kernel) (by decide +kernel))
theorem kn_X7_fewest : Cond.instanceMethod yX7_fewest ∈ mm_GW := (mm_in (i := 406) (by decide +kernel) (by decide +kernel))
theorem kc_X7_type : Cond.code yX7_type cX7_type 2 (some .int) ∈ mm_GW := (mm_in (i := 913) (by decide +kernel) (by decide +kernel))
theorem kn_X7_type : Cond.instanceMethod yX7_type ∈ mm_GW := (mm_in (i := 911) (by decide +kernel) (by decide +kernel))
theorem kc_X7_clearText : Cond.code yX7_clearText cX7_clearText 2 (some .int) ∈ mm_GW := (mm_in (i := 413) (by decide +kernel) (by decide +kernel))
theorem kn_X7_clearText : Cond.instanceMethod yX7_clearText ∈ mm_GW := (mm_in (i := 411) (by decide +kernel) (by decide +kernel))
theorem kc_X7_fault : Cond.code yX7_fault cX7_fault 1 (some .int) ∈ mm_GW := (mm_in (i := 417) (by decide +kernel) (by decide +kernel))
theorem kn_X7_fault : Cond.instanceMethod yX7_fault ∈ mm_GW := (mm_in (i := 415) (by decide +kernel) (by decide +kernel))
theorem kc_X7_run : Cond.code yX7_run cX7_run 3 (some .int) ∈ mm_GW := (mm_in (i := 926) (by decide +kernel) (by decide +kernel))
theorem kn_X7_run : Cond.instanceMethod yX7_run ∈ mm_GW := (mm_in (i := 924) (by decide +kernel) (by decide +kernel))
theorem kc_X7_undo : Cond.code yX7_undo cX7_undo 1 (some .int) ∈ mm_GW := (mm_in (i := 936) (by decide +kernel) (by decide +kernel))
theorem kn_X7_undo : Cond.instanceMethod yX7_undo ∈ mm_GW := (mm_in (i := 934) (by decide +kernel) (by decide +kernel))
theorem kc_X7_checksum : Cond.code yX7_checksum cX7_checksum 5 (some .long) ∈ mm_GW := (mm_in (i := 460) (by decide +kernel) (by decide +kernel))
theorem kn_X7_checksum : Cond.instanceMethod yX7_checksum ∈ mm_GW := (mm_in (i := 458) (by decide +kernel) (by decide +kernel))
theorem kc_X7_requireKey : Cond.code yX7_requireKey cX7_requireKey 1 none ∈ mm_GW := (mm_in (i := 499) (by decide +kernel) (by decide +kernel))
theorem ks_X7_requireKey : Cond.static yX7_requireKey ∈ mm_GW := (mm_in (i := 498) (by decide +kernel) (by decide +kernel))
theorem kc_X7_requireQueue : Cond.code yX7_requireQueue cX7_requireQueue 1 none ∈ mm_GW := (mm_in (i := 790) (by decide +kernel) (by decide +kernel))
theorem ks_X7_requireQueue : Cond.static yX7_requireQueue ∈ mm_GW := (mm_in (i := 789) (by decide +kernel) (by decide +kernel))
theorem kc_X7_requireLayout : Cond.code yX7_requireLayout cX7_requireLayout 1 none ∈ mm_GW := (mm_in (i := 815) (by decide +kernel) (by decide +kernel))
theorem ks_X7_requireLayout : Cond.static yX7_requireLayout ∈ mm_GW := (mm_in (i := 814) (by decide +kernel) (by decide +kernel))
theorem kc_X7_requireItem : Cond.code yX7_requireItem cX7_requireItem 2 none ∈ mm_GW := (mm_in (i := 734) (by decide +kernel) (by decide +kernel))
theorem kn_X7_requireItem : Cond.instanceMethod yX7_requireItem ∈ mm_GW := (mm_in (i := 733) (by decide +kernel) (by decide +kernel))
theorem kc_X7_requirePosition : Cond.code yX7_requirePosition cX7_requirePosition 2 none ∈ mm_GW := (mm_in (i := 842) (by decide +kernel) (by decide +kernel))
theorem kn_X7_requirePosition : Cond.instanceMethod yX7_requirePosition ∈ mm_GW := (mm_in (i := 841) (by decide +kernel) (by decide +kernel))
theorem kc_X7_requireItems : Cond.code yX7_requireItems cX7_requireItems 1 none ∈ mm_GW := (mm_in (i := 637) (by decide +kernel) (by decide +kernel))
theorem kn_X7_requireItems : Cond.instanceMethod yX7_requireItems ∈ mm_GW := (mm_in (i := 636) (by decide +kernel) (by decide +kernel))
theorem kc_X7_isKey : Cond.code yX7_isKey cX7_isKey 1 (some .boolean) ∈ mm_GW := (mm_in (i := 502) (by decide +kernel) (by decide +kernel))
theorem ks_X7_isKey : Cond.static yX7_isKey ∈ mm_GW := (mm_in (i := 501) (by decide +kernel) (by decide +kernel))
theorem kc_X8_init : Cond.code yX8_init cX8_init 1 none ∈ mm_GW := (mm_in (i := 946) (by decide +kernel) (by decide +kernel))
theorem kn_X8_init : Cond.instanceMethod yX8_init ∈ mm_GW := (mm_in (i := 945) (by decide +kernel) (by decide +kernel))
theorem kc_X8_thrown : Cond.code yX8_thrown cX8_thrown 1 (some .int) ∈ mm_GW := (mm_in (i := 985) (by decide +kernel) (by decide +kernel))
theorem kn_X8_thrown : Cond.instanceMethod yX8_thrown ∈ mm_GW := (mm_in (i := 983) (by decide +kernel) (by decide +kernel))
theorem kc_X8_refused : Cond.code yX8_refused cX8_refused 2 (some .boolean) ∈ mm_GW := (mm_in (i := 993) (by decide +kernel) (by decide +kernel))
theorem kn_X8_refused : Cond.instanceMethod yX8_refused ∈ mm_GW := (mm_in (i := 992) (by decide +kernel) (by decide +kernel))
theorem kc_X8_within : Cond.code yX8_within cX8_within 3 (some .boolean) ∈ mm_GW := (mm_in (i := 1003) (by decide +kernel) (by decide +kernel))
theorem ks_X8_within : Cond.static yX8_within ∈ mm_GW := (mm_in (i := 1002) (by decide +kernel) (by decide +kernel))
theorem kc_X8_saves : Cond.code yX8_saves cX8_saves 2 none ∈ mm_GW := (mm_in (i := 1011) (by decide +kernel) (by decide +kernel))
theorem kn_X8_saves : Cond.instanceMethod yX8_saves ∈ mm_GW := (mm_in (i := 1010) (by decide +kernel) (by decide +kernel))
theorem kc_X8_undo : Cond.code yX8_undo cX8_undo 2 (some .int) ∈ mm_GW := (mm_in (i := 989) (by decide +kernel) (by decide +kernel))
theorem kn_X8_undo : Cond.instanceMethod yX8_undo ∈ mm_GW := (mm_in (i := 987) (by decide +kernel) (by decide +kernel))
theorem kc_X8_many : Cond.code yX8_many cX8_many 1 (some .int) ∈ mm_GW := (mm_in (i := 1007) (by decide +kernel) (by decide +kernel))
theorem kn_X8_many : Cond.instanceMethod yX8_many ∈ mm_GW := (mm_in (i := 1006) (by decide +kernel) (by decide +kernel))
theorem kc_X8_item : Cond.code yX8_item cX8_item 3 (some .int) ∈ mm_GW := (mm_in (i := 1039) (by decide +kernel) (by decide +kernel))
theorem kn_X8_item : Cond.instanceMethod yX8_item ∈ mm_GW := (mm_in (i := 1038) (by decide +kernel) (by decide +kernel))
theorem kc_X8_lays : Cond.code yX8_lays cX8_lays 4 none ∈ mm_GW := (mm_in (i := 1027) (by decide +kernel) (by decide +kernel))
theorem kn_X8_lays : Cond.instanceMethod yX8_lays ∈ mm_GW := (mm_in (i := 1026) (by decide +kernel) (by decide +kernel))
theorem kc_X8_isItem : Cond.code yX8_isItem cX8_isItem 2 (some .boolean) ∈ mm_GW := (mm_in (i := 1153) (by decide +kernel) (by decide +kernel))
theorem kn_X8_isItem : Cond.instanceMethod yX8_isItem ∈ mm_GW := (mm_in (i := 1152) (by decide +kernel) (by decide +kernel))
theorem kc_X8_isLayout : Cond.code yX8_isLayout cX8_isLayout 1 (some .boolean) ∈ mm_GW := (mm_in (i := 1241) (by decide +kernel) (by decide +kernel))
theorem ks_X8_isLayout : Cond.static yX8_isLayout ∈ mm_GW := (mm_in (i := 1240) (by decide +kernel) (by decide +kernel))
theorem kc_X8_isLess : Cond.code yX8_isLess cX8_isLess 3 (some .boolean) ∈ mm_GW := (mm_in (i := 1043) (by decide +kernel) (by decide +kernel))
theorem kn_X8_isLess : Cond.instanceMethod yX8_isLess ∈ mm_GW := (mm_in (i := 1042) (by decide +kernel) (by decide +kernel))
theorem kc_X8_less : Cond.code yX8_less cX8_less 4 (some .boolean) ∈ mm_GW := (mm_in (i := 1035) (by decide +kernel) (by decide +kernel))
theorem kn_X8_less : Cond.instanceMethod yX8_less ∈ mm_GW := (mm_in (i := 1034) (by decide +kernel) (by decide +kernel))
theorem kc_X8_exchange : Cond.code yX8_exchange cX8_exchange 5 none ∈ mm_GW := (mm_in (i := 1047) (by decide +kernel) (by decide +kernel))
theorem kn_X8_exchange : Cond.instanceMethod yX8_exchange ∈ mm_GW := (mm_in (i := 1046) (by decide +kernel) (by decide +kernel))
theorem kc_X8_placeOf : Cond.code yX8_placeOf cX8_placeOf 4 (some .int) ∈ mm_GW := (mm_in (i := 1097) (by decide +kernel) (by decide +kernel))
theorem kn_X8_placeOf : Cond.instanceMethod yX8_placeOf ∈ mm_GW := (mm_in (i := 1096) (by decide +kernel) (by decide +kernel))
theorem kc_X8_closes : Cond.code yX8_closes cX8_closes 4 (some .int) ∈ mm_GW := (mm_in (i := 1101) (by decide +kernel) (by decide +kernel))
theorem kn_X8_closes : Cond.instanceMethod yX8_closes ∈ mm_GW := (mm_in (i := 1100) (by decide +kernel) (by decide +kernel))
theorem kc_X8_laysAll : Cond.code yX8_laysAll cX8_laysAll 4 none ∈ mm_GW := (mm_in (i := 1177) (by decide +kernel) (by decide +kernel))
theorem kn_X8_laysAll : Cond.instanceMethod yX8_laysAll ∈ mm_GW := (mm_in (i := 1176) (by decide +kernel) (by decide +kernel))
theorem kc_X8_topOf : Cond.code yX8_topOf cX8_topOf 3 (some .int) ∈ mm_GW := (mm_in (i := 1117) (by decide +kernel) (by decide +kernel))
theorem kn_X8_topOf : Cond.instanceMethod yX8_topOf ∈ mm_GW := (mm_in (i := 1116) (by decide +kernel) (by decide +kernel))
theorem kc_X8_orders : Cond.code yX8_orders cX8_orders 3 none ∈ mm_GW := (mm_in (i := 1113) (by decide +kernel) (by decide +kernel))
theorem kn_X8_orders : Cond.instanceMethod yX8_orders ∈ mm_GW := (mm_in (i := 1112) (by decide +kernel) (by decide +kernel))
theorem kc_X8_risesLow : Cond.code yX8_risesLow cX8_risesLow 3 none ∈ mm_GW := (mm_in (i := 1051) (by decide +kernel) (by decide +kernel))
theorem kn_X8_risesLow : Cond.instanceMethod yX8_risesLow ∈ mm_GW := (mm_in (i := 1050) (by decide +kernel) (by decide +kernel))
theorem kc_X8_risesHigh : Cond.code yX8_risesHigh cX8_risesHigh 6 none ∈ mm_GW := (mm_in (i := 1055) (by decide +kernel) (by decide +kernel))
theorem kn_X8_risesHigh : Cond.instanceMethod yX8_risesHigh ∈ mm_GW := (mm_in (i := 1054) (by decide +kernel) (by decide +kernel))
theorem kc_X8_sinksLow : Cond.code yX8_sinksLow cX8_sinksLow 6 none ∈ mm_GW := (mm_in (i := 1121) (by decide +kernel) (by decide +kernel))
theorem kn_X8_sinksLow : Cond.instanceMethod yX8_sinksLow ∈ mm_GW := (mm_in (i := 1120) (by decide +kernel) (by decide +kernel))
theorem kc_X8_sinksHigh : Cond.code yX8_sinksHigh cX8_sinksHigh 6 none ∈ mm_GW := (mm_in (i := 1125) (by decide +kernel) (by decide +kernel))
theorem kn_X8_sinksHigh : Cond.instanceMethod yX8_sinksHigh ∈ mm_GW := (mm_in (i := 1124) (by decide +kernel) (by decide +kernel))
theorem kc_X8_settles : Cond.code yX8_settles cX8_settles 3 none ∈ mm_GW := (mm_in (i := 1109) (by decide +kernel) (by decide +kernel))
theorem kn_X8_settles : Cond.instanceMethod yX8_settles ∈ mm_GW := (mm_in (i := 1108) (by decide +kernel) (by decide +kernel))
theorem kc_X8_comesFirst : Cond.code yX8_comesFirst cX8_comesFirst 4 none ∈ mm_GW := (mm_in (i := 1031) (by decide +kernel) (by decide +kernel))
theorem kn_X8_comesFirst : Cond.instanceMethod yX8_comesFirst ∈ mm_GW := (mm_in (i := 1030) (by decide +kernel) (by decide +kernel))
theorem kc_X8_levelOf : Cond.code yX8_levelOf cX8_levelOf 3 (some .int) ∈ mm_GW := (mm_in (i := 1065) (by decide +kernel) (by decide +kernel))
theorem ks_X8_levelOf : Cond.static yX8_levelOf ∈ mm_GW := (mm_in (i := 1064) (by decide +kernel) (by decide +kernel))
theorem kc_X8_leads : Cond.code yX8_leads cX8_leads 4 (some .boolean) ∈ mm_GW := (mm_in (i := 1069) (by decide +kernel) (by decide +kernel))
theorem kn_X8_leads : Cond.instanceMethod yX8_leads ∈ mm_GW := (mm_in (i := 1068) (by decide +kernel) (by decide +kernel))
theorem kc_X8_isLow : Cond.code yX8_isLow cX8_isLow 1 (some .boolean) ∈ mm_GW := (mm_in (i := 1062) (by decide +kernel) (by decide +kernel))
theorem ks_X8_isLow : Cond.static yX8_isLow ∈ mm_GW := (mm_in (i := 1061) (by decide +kernel) (by decide +kernel))
theorem kc_X8_rises : Cond.code yX8_rises cX8_rises 4 none ∈ mm_GW := (mm_in (i := 1073) (by decide +kernel) (by decide +kernel))
theorem kn_X8_rises : Cond.instanceMethod yX8_rises ∈ mm_GW := (mm_in (i := 1072) (by decide +kernel) (by decide +kernel))
theorem kc_X8_sinks : Cond.code yX8_sinks cX8_sinks 9 none ∈ mm_GW := (mm_in (i := 1129) (by decide +kernel) (by decide +kernel))
theorem kn_X8_sinks : Cond.instanceMethod yX8_sinks ∈ mm_GW := (mm_in (i := 1128) (by decide +kernel) (by decide +kernel))
theorem kc_X8_enters : Cond.code yX8_enters cX8_enters 3 none ∈ mm_GW := (mm_in (i := 1059) (by decide +kernel) (by decide +kernel))
theorem kn_X8_enters : Cond.instanceMethod yX8_enters ∈ mm_GW := (mm_in (i := 1058) (by decide +kernel) (by decide +kernel))
theorem kc_X8_isAhead : Cond.code yX8_isAhead cX8_isAhead 4 (some .boolean) ∈ mm_GW := (mm_in (i := 1081) (by decide +kernel) (by decide +kernel))
theorem kn_X8_isAhead : Cond.instanceMethod yX8_isAhead ∈ mm_GW := (mm_in (i := 1080) (by decide +kernel) (by decide +kernel))
theorem kc_X8_up : Cond.code yX8_up cX8_up 4 none ∈ mm_GW := (mm_in (i := 1077) (by decide +kernel) (by decide +kernel))
theorem kn_X8_up : Cond.instanceMethod yX8_up ∈ mm_GW := (mm_in (i := 1076) (by decide +kernel) (by decide +kernel))
theorem kc_X8_down : Cond.code yX8_down cX8_down 7 none ∈ mm_GW := (mm_in (i := 1133) (by decide +kernel) (by decide +kernel))
theorem kn_X8_down : Cond.instanceMethod yX8_down ∈ mm_GW := (mm_in (i := 1132) (by decide +kernel) (by decide +kernel))
theorem kc_X8_enters_ : Cond.code yX8_enters_ cX8_enters_ 5 none ∈ mm_GW := (mm_in (i := 1023) (by decide +kernel) (by decide +kernel))
theorem kn_X8_enters_ : Cond.instanceMethod yX8_enters_ ∈ mm_GW := (mm_in (i := 1022) (by decide +kernel) (by decide +kernel))
theorem kc_X8_moves : Cond.code yX8_moves cX8_moves 4 none ∈ mm_GW := (mm_in (i := 1105) (by decide +kernel) (by decide +kernel))
theorem kn_X8_moves : Cond.instanceMethod yX8_moves ∈ mm_GW := (mm_in (i := 1104) (by decide +kernel) (by decide +kernel))
theorem kc_X8_goes : Cond.code yX8_goes cX8_goes 6 none ∈ mm_GW := (mm_in (i := 1093) (by decide +kernel) (by decide +kernel))
theorem kn_X8_goes : Cond.instanceMethod yX8_goes ∈ mm_GW := (mm_in (i := 1092) (by decide +kernel) (by decide +kernel))
theorem kc_X8_builds : Cond.code yX8_builds cX8_builds 5 none ∈ mm_GW := (mm_in (i := 1173) (by decide +kernel) (by decide +kernel))
theorem kn_X8_builds : Cond.instanceMethod yX8_builds ∈ mm_GW := (mm_in (i := 1172) (by decide +kernel) (by decide +kernel))
theorem kc_X8_buildsAt : Cond.code yX8_buildsAt cX8_buildsAt 4 none ∈ mm_GW := (mm_in (i := 1181) (by decide +kernel) (by decide +kernel))
theorem kn_X8_buildsAt : Cond.instanceMethod yX8_buildsAt ∈ mm_GW := (mm_in (i := 1180) (by decide +kernel) (by decide +kernel))
theorem kc_X8_counts : Cond.code yX8_counts cX8_counts 1 (some .int) ∈ mm_GW := (mm_in (i := 1169) (by decide +kernel) (by decide +kernel))
theorem kn_X8_counts : Cond.instanceMethod yX8_counts ∈ mm_GW := (mm_in (i := 1168) (by decide +kernel) (by decide +kernel))
theorem kc_X8_freeHandle : Cond.code yX8_freeHandle cX8_freeHandle 2 (some .int) ∈ mm_GW := (mm_in (i := 1019) (by decide +kernel) (by decide +kernel))
theorem kn_X8_freeHandle : Cond.instanceMethod yX8_freeHandle ∈ mm_GW := (mm_in (i := 1018) (by decide +kernel) (by decide +kernel))
theorem kc_X8_inserts : Cond.code yX8_inserts cX8_inserts 4 (some .int) ∈ mm_GW := (mm_in (i := 1015) (by decide +kernel) (by decide +kernel))
theorem kn_X8_inserts : Cond.instanceMethod yX8_inserts ∈ mm_GW := (mm_in (i := 1014) (by decide +kernel) (by decide +kernel))
theorem kc_X8_isKey : Cond.code yX8_isKey cX8_isKey 1 (some .boolean) ∈ mm_GW := (mm_in (i := 1000) (by decide +kernel) (by decide +kernel))
theorem ks_X8_isKey : Cond.static yX8_isKey ∈ mm_GW := (mm_in (i := 999) (by decide +kernel) (by decide +kernel))
theorem kc_X8_insert : Cond.code yX8_insert cX8_insert 2 (some .int) ∈ mm_GW := (mm_in (i := 997) (by decide +kernel) (by decide +kernel))
theorem kn_X8_insert : Cond.instanceMethod yX8_insert ∈ mm_GW := (mm_in (i := 995) (by decide +kernel) (by decide +kernel))
theorem kc_X8_leastOf : Cond.code yX8_leastOf cX8_leastOf 2 (some .int) ∈ mm_GW := (mm_in (i := 1089) (by decide +kernel) (by decide +kernel))
theorem kn_X8_leastOf : Cond.instanceMethod yX8_leastOf ∈ mm_GW := (mm_in (i := 1088) (by decide +kernel) (by decide +kernel))
theorem kc_X8_greatestOf : Cond.code yX8_greatestOf cX8_greatestOf 3 (some .int) ∈ mm_GW := (mm_in (i := 1145) (by decide +kernel) (by decide +kernel))
theorem kn_X8_greatestOf : Cond.instanceMethod yX8_greatestOf ∈ mm_GW := (mm_in (i := 1144) (by decide +kernel) (by decide +kernel))
theorem kc_X8_takeLeast : Cond.code yX8_takeLeast cX8_takeLeast 2 (some .int) ∈ mm_GW := (mm_in (i := 1085) (by decide +kernel) (by decide +kernel))
theorem kn_X8_takeLeast : Cond.instanceMethod yX8_takeLeast ∈ mm_GW := (mm_in (i := 1083) (by decide +kernel) (by decide +kernel))
theorem kc_X8_takesGreatest : Cond.code yX8_takesGreatest cX8_takesGreatest 3 (some .int) ∈ mm_GW := (mm_in (i := 1141) (by decide +kernel) (by decide +kernel))
theorem kn_X8_takesGreatest : Cond.instanceMethod yX8_takesGreatest ∈ mm_GW := (mm_in (i := 1140) (by decide +kernel) (by decide +kernel))
theorem kc_X8_takeGreatest : Cond.code yX8_takeGreatest cX8_takeGreatest 1 (some .int) ∈ mm_GW := (mm_in (i := 1137) (by decide +kernel) (by decide +kernel))
theorem kn_X8_takeGreatest : Cond.instanceMethod yX8_takeGreatest ∈ mm_GW := (mm_in (i := 1135) (by decide +kernel) (by decide +kernel))
theorem kc_X8_remove : Cond.code yX8_remove cX8_remove 3 (some .int) ∈ mm_GW := (mm_in (i := 1149) (by decide +kernel) (by decide +kernel))
theorem kn_X8_remove : Cond.instanceMethod yX8_remove ∈ mm_GW := (mm_in (i := 1147) (by decide +kernel) (by decide +kernel))
theorem kc_X8_changes : Cond.code yX8_changes cX8_changes 4 none ∈ mm_GW := (mm_in (i := 1161) (by decide +kernel) (by decide +kernel))
theorem kn_X8_changes : Cond.instanceMethod yX8_changes ∈ mm_GW := (mm_in (i := 1160) (by decide +kernel) (by decide +kernel))
theorem kc_X8_change : Cond.code yX8_change cX8_change 4 (some .int) ∈ mm_GW := (mm_in (i := 1157) (by decide +kernel) (by decide +kernel))
theorem kn_X8_change : Cond.instanceMethod yX8_change ∈ mm_GW := (mm_in (i := 1155) (by decide +kernel) (by decide +kernel))
theorem kc_X8_build : Cond.code yX8_build cX8_build 2 (some .int) ∈ mm_GW := (mm_in (i := 1165) (by decide +kernel) (by decide +kernel))
theorem kn_X8_build : Cond.instanceMethod yX8_build ∈ mm_GW := (mm_in (i := 1163) (by decide +kernel) (by decide +kernel))
theorem kc_X8_clear : Cond.code yX8_clear cX8_clear 3 (some .int) ∈ mm_GW := (mm_in (i := 1185) (by decide +kernel) (by decide +kernel))
theorem kn_X8_clear : Cond.instanceMethod yX8_clear ∈ mm_GW := (mm_in (i := 1183) (by decide +kernel) (by decide +kernel))
theorem kc_X8_size : Cond.code yX8_size cX8_size 1 (some .int) ∈ mm_GW := (mm_in (i := 1189) (by decide +kernel) (by decide +kernel))
theorem kn_X8_size : Cond.instanceMethod yX8_size ∈ mm_GW := (mm_in (i := 1187) (by decide +kernel) (by decide +kernel))
theorem kc_X8_handleSet : Cond.code yX8_handleSet cX8_handleSet 3 (some .int) ∈ mm_GW := (mm_in (i := 1197) (by decide +kernel) (by decide +kernel))
theorem kn_X8_handleSet : Cond.instanceMethod yX8_handleSet ∈ mm_GW := (mm_in (i := 1196) (by decide +kernel) (by decide +kernel))
theorem kc_X8_handles : Cond.code yX8_handles cX8_handles 1 (some .int) ∈ mm_GW := (mm_in (i := 1193) (by decide +kernel) (by decide +kernel))
theorem kn_X8_handles : Cond.instanceMethod yX8_handles ∈ mm_GW := (mm_in (i := 1191) (by decide +kernel) (by decide +kernel))
theorem kc_X8_key : Cond.code yX8_key cX8_key 2 (some .int) ∈ mm_GW := (mm_in (i := 1201) (by decide +kernel) (by decide +kernel))
theorem kn_X8_key : Cond.instanceMethod yX8_key ∈ mm_GW := (mm_in (i := 1199) (by decide +kernel) (by decide +kernel))
theorem kc_X8_fill : Cond.code yX8_fill cX8_fill 7 (some .int) ∈ mm_GW := (mm_in (i := 1205) (by decide +kernel) (by decide +kernel))
theorem kn_X8_fill : Cond.instanceMethod yX8_fill ∈ mm_GW := (mm_in (i := 1203) (by decide +kernel) (by decide +kernel))
theorem kc_X8_least : Cond.code yX8_least cX8_least 2 (some .int) ∈ mm_GW := (mm_in (i := 1214) (by decide +kernel) (by decide +kernel))
theorem kn_X8_least : Cond.instanceMethod yX8_least ∈ mm_GW := (mm_in (i := 1212) (by decide +kernel) (by decide +kernel))
theorem kc_X8_greatest : Cond.code yX8_greatest cX8_greatest 2 (some .int) ∈ mm_GW := (mm_in (i := 1218) (by decide +kernel) (by decide +kernel))
theorem kn_X8_greatest : Cond.instanceMethod yX8_greatest ∈ mm_GW := (mm_in (i := 1216) (by decide +kernel) (by decide +kernel))
theorem kc_X8_rankOf : Cond.code yX8_rankOf cX8_rankOf 4 (some .int) ∈ mm_GW := (mm_in (i := 1226) (by decide +kernel) (by decide +kernel))
theorem kn_X8_rankOf : Cond.instanceMethod yX8_rankOf ∈ mm_GW := (mm_in (i := 1225) (by decide +kernel) (by decide +kernel))
theorem kc_X8_ranked : Cond.code yX8_ranked cX8_ranked 3 (some .int) ∈ mm_GW := (mm_in (i := 1222) (by decide +kernel) (by decide +kernel))
theorem kn_X8_ranked : Cond.instanceMethod yX8_ranked ∈ mm_GW := (mm_in (i := 1220) (by decide +kernel) (by decide +kernel))
theorem kc_X8_rank : Cond.code yX8_rank cX8_rank 2 (some .int) ∈ mm_GW := (mm_in (i := 1230) (by decide +kernel) (by decide +kernel))
theorem kn_X8_rank : Cond.instanceMethod yX8_rank ∈ mm_GW := (mm_in (i := 1228) (by decide +kernel) (by decide +kernel))
theorem kc_X8_between : Cond.code yX8_between cX8_between 5 (some .int) ∈ mm_GW := (mm_in (i := 1234) (by decide +kernel) (by decide +kernel))
theorem kn_X8_between : Cond.instanceMethod yX8_between ∈ mm_GW := (mm_in (i := 1232) (by decide +kernel) (by decide +kernel))
theorem kc_X8_at : Cond.code yX8_at cX8_at 3 (some .int) ∈ mm_GW := (mm_in (i := 1238) (by decide +kernel) (by decide +kernel))
theorem kn_X8_at : Cond.instanceMethod yX8_at ∈ mm_GW := (mm_in (i := 1236) (by decide +kernel) (by decide +kernel))
theorem kc_X8_where : Cond.code yX8_where cX8_where 3 (some .int) ∈ mm_GW := (mm_in (i := 1245) (by decide +kernel) (by decide +kernel))
theorem kn_X8_where : Cond.instanceMethod yX8_where ∈ mm_GW := (mm_in (i := 1243) (by decide +kernel) (by decide +kernel))
theorem kc_X8_wrong : Cond.code yX8_wrong cX8_wrong 4 (some .int) ∈ mm_GW := (mm_in (i := 1261) (by decide +kernel) (by decide +kernel))
theorem kn_X8_wrong : Cond.instanceMethod yX8_wrong ∈ mm_GW := (mm_in (i := 1260) (by decide +kernel) (by decide +kernel))
theorem kc_X8_wrongNodes : Cond.code yX8_wrongNodes cX8_wrongNodes 5 (some .int) ∈ mm_GW := (mm_in (i := 1257) (by decide +kernel) (by decide +kernel))
theorem kn_X8_wrongNodes : Cond.instanceMethod yX8_wrongNodes ∈ mm_GW := (mm_in (i := 1256) (by decide +kernel) (by decide +kernel))
theorem kc_X8_wrongLevels : Cond.code yX8_wrongLevels cX8_wrongLevels 4 (some .int) ∈ mm_GW := (mm_in (i := 1265) (by decide +kernel) (by decide +kernel))
theorem kn_X8_wrongLevels : Cond.instanceMethod yX8_wrongLevels ∈ mm_GW := (mm_in (i := 1264) (by decide +kernel) (by decide +kernel))
theorem kc_X8_wrongIn : Cond.code yX8_wrongIn cX8_wrongIn 4 (some .int) ∈ mm_GW := (mm_in (i := 1253) (by decide +kernel) (by decide +kernel))
theorem kn_X8_wrongIn : Cond.instanceMethod yX8_wrongIn ∈ mm_GW := (mm_in (i := 1252) (by decide +kernel) (by decide +kernel))
theorem kc_X8_violations : Cond.code yX8_violations cX8_violations 2 (some .int) ∈ mm_GW := (mm_in (i := 1249) (by decide +kernel) (by decide +kernel))
theorem kn_X8_violations : Cond.instanceMethod yX8_violations ∈ mm_GW := (mm_in (i := 1247) (by decide +kernel) (by decide +kernel))
theorem kc_X8_disturb : Cond.code yX8_disturb cX8_disturb 5 (some .int) ∈ mm_GW := (mm_in (i := 1269) (by decide +kernel) (by decide +kernel))
theorem kn_X8_disturb : Cond.instanceMethod yX8_disturb ∈ mm_GW := (mm_in (i := 1267) (by decide +kernel) (by decide +kernel))
theorem kc_X8_level : Cond.code yX8_level cX8_level 2 (some .int) ∈ mm_GW := (mm_in (i := 1273) (by decide +kernel) (by decide +kernel))
theorem kn_X8_level : Cond.instanceMethod yX8_level ∈ mm_GW := (mm_in (i := 1271) (by decide +kernel) (by decide +kernel))
theorem kc_X8_above : Cond.code yX8_above cX8_above 5 (some .int) ∈ mm_GW := (mm_in (i := 1282) (by decide +kernel) (by decide +kernel))
theorem kn_X8_above : Cond.instanceMethod yX8_above ∈ mm_GW := (mm_in (i := 1281) (by decide +kernel) (by decide +kernel))
theorem kc_X8_ancestors : Cond.code yX8_ancestors cX8_ancestors 5 (some .int) ∈ mm_GW := (mm_in (i := 1278) (by decide +kernel) (by decide +kernel))
theorem kn_X8_ancestors : Cond.instanceMethod yX8_ancestors ∈ mm_GW := (mm_in (i := 1276) (by decide +kernel) (by decide +kernel))
theorem kc_X8_comparisons : Cond.code yX8_comparisons cX8_comparisons 2 (some .int) ∈ mm_GW := (mm_in (i := 1286) (by decide +kernel) (by decide +kernel))
theorem kn_X8_comparisons : Cond.instanceMethod yX8_comparisons ∈ mm_GW := (mm_in (i := 1284) (by decide +kernel) (by decide +kernel))
theorem kc_X8_forget : Cond.code yX8_forget cX8_forget 3 (some .int) ∈ mm_GW := (mm_in (i := 1290) (by decide +kernel) (by decide +kernel))
theorem kn_X8_forget : Cond.instanceMethod yX8_forget ∈ mm_GW := (mm_in (i := 1288) (by decide +kernel) (by decide +kernel))
theorem kc_X8_keeps : Cond.code yX8_keeps cX8_keeps 2 none ∈ mm_GW := (mm_in (i := 1302) (by decide +kernel) (by decide +kernel))
theorem kn_X8_keeps : Cond.instanceMethod yX8_keeps ∈ mm_GW := (mm_in (i := 1301) (by decide +kernel) (by decide +kernel))
theorem kc_X8_returns : Cond.code yX8_returns cX8_returns 2 none ∈ mm_GW := (mm_in (i := 1310) (by decide +kernel) (by decide +kernel))
theorem kn_X8_returns : Cond.instanceMethod yX8_returns ∈ mm_GW := (mm_in (i := 1309) (by decide +kernel) (by decide +kernel))
theorem kc_X8_canDo : Cond.code yX8_canDo cX8_canDo 3 (some .boolean) ∈ mm_GW := (mm_in (i := 1298) (by decide +kernel) (by decide +kernel))
theorem kn_X8_canDo : Cond.instanceMethod yX8_canDo ∈ mm_GW := (mm_in (i := 1297) (by decide +kernel) (by decide +kernel))
theorem kc_X8_does : Cond.code yX8_does cX8_does 5 none ∈ mm_GW := (mm_in (i := 1306) (by decide +kernel) (by decide +kernel))
theorem kn_X8_does : Cond.instanceMethod yX8_does ∈ mm_GW := (mm_in (i := 1305) (by decide +kernel) (by decide +kernel))
theorem kc_X8_wouldNeed : Cond.code yX8_wouldNeed cX8_wouldNeed 5 (some .int) ∈ mm_GW := (mm_in (i := 1294) (by decide +kernel) (by decide +kernel))
theorem kn_X8_wouldNeed : Cond.instanceMethod yX8_wouldNeed ∈ mm_GW := (mm_in (i := 1292) (by decide +kernel) (by decide +kernel))
theorem kc_X8_sortingNeeds : Cond.code yX8_sortingNeeds cX8_sortingNeeds 3 (some .int) ∈ mm_GW := (mm_in (i := 1314) (by decide +kernel) (by decide +kernel))
theorem kn_X8_sortingNeeds : Cond.instanceMethod yX8_sortingNeeds ∈ mm_GW := (mm_in (i := 1312) (by decide +kernel) (by decide +kernel))
theorem kc_X8_fewest : Cond.code yX8_fewest cX8_fewest 3 (some .int) ∈ mm_GW := (mm_in (i := 1318) (by decide +kernel) (by decide +kernel))
theorem kn_X8_fewest : Cond.instanceMethod yX8_fewest ∈ mm_GW := (mm_in (i := 1316) (by decide +kernel) (by decide +kernel))
theorem kc_X8_type : Cond.code yX8_type cX8_type 2 (some .int) ∈ mm_GW := (mm_in (i := 1322) (by decide +kernel) (by decide +kernel))
theorem kn_X8_type : Cond.instanceMethod yX8_type ∈ mm_GW := (mm_in (i := 1320) (by decide +kernel) (by decide +kernel))
theorem kc_X8_clearText : Cond.code yX8_clearText cX8_clearText 2 (some .int) ∈ mm_GW := (mm_in (i := 1326) (by decide +kernel) (by decide +kernel))
theorem kn_X8_clearText : Cond.instanceMethod yX8_clearText ∈ mm_GW := (mm_in (i := 1324) (by decide +kernel) (by decide +kernel))
theorem kc_X8_next : Cond.code yX8_next cX8_next 1 (some .int) ∈ mm_GW := (mm_in (i := 1338) (by decide +kernel) (by decide +kernel))
theorem kn_X8_next : Cond.instanceMethod yX8_next ∈ mm_GW := (mm_in (i := 1337) (by decide +kernel) (by decide +kernel))
theorem kc_X8_fails : Cond.code yX8_fails cX8_fails 1 none ∈ mm_GW := (mm_in (i := 1342) (by decide +kernel) (by decide +kernel))
theorem kn_X8_fails : Cond.instanceMethod yX8_fails ∈ mm_GW := (mm_in (i := 1341) (by decide +kernel) (by decide +kernel))
theorem kc_X8_takes : Cond.code yX8_takes cX8_takes 2 none ∈ mm_GW := (mm_in (i := 1350) (by decide +kernel) (by decide +kernel))
theorem kn_X8_takes : Cond.instanceMethod yX8_takes ∈ mm_GW := (mm_in (i := 1349) (by decide +kernel) (by decide +kernel))
theorem kc_X8_number : Cond.code yX8_number cX8_number 6 (some .int) ∈ mm_GW := (mm_in (i := 1346) (by decide +kernel) (by decide +kernel))
theorem kn_X8_number : Cond.instanceMethod yX8_number ∈ mm_GW := (mm_in (i := 1345) (by decide +kernel) (by decide +kernel))
theorem kc_X8_reads : Cond.code yX8_reads cX8_reads 6 (some .int) ∈ mm_GW := (mm_in (i := 1334) (by decide +kernel) (by decide +kernel))
theorem kn_X8_reads : Cond.instanceMethod yX8_reads ∈ mm_GW := (mm_in (i := 1333) (by decide +kernel) (by decide +kernel))
theorem kc_X8_isDone : Cond.code yX8_isDone cX8_isDone 5 (some .boolean) ∈ mm_GW := (mm_in (i := 1354) (by decide +kernel) (by decide +kernel))
theorem kn_X8_isDone : Cond.instanceMethod yX8_isDone ∈ mm_GW := (mm_in (i := 1353) (by decide +kernel) (by decide +kernel))
theorem kc_X8_fault : Cond.code yX8_fault cX8_fault 1 (some .int) ∈ mm_GW := (mm_in (i := 1330) (by decide +kernel) (by decide +kernel))
theorem kn_X8_fault : Cond.instanceMethod yX8_fault ∈ mm_GW := (mm_in (i := 1328) (by decide +kernel) (by decide +kernel))
theorem kc_X8_run : Cond.code yX8_run cX8_run 2 (some .int) ∈ mm_GW := (mm_in (i := 1358) (by decide +kernel) (by decide +kernel))
theorem kn_X8_run : Cond.instanceMethod yX8_run ∈ mm_GW := (mm_in (i := 1356) (by decide +kernel) (by decide +kernel))
theorem kc_X8_mix : Cond.code yX8_mix cX8_mix 3 none ∈ mm_GW := (mm_in (i := 1367) (by decide +kernel) (by decide +kernel))
theorem kn_X8_mix : Cond.instanceMethod yX8_mix ∈ mm_GW := (mm_in (i := 1366) (by decide +kernel) (by decide +kernel))
theorem kc_X8_checksum : Cond.code yX8_checksum cX8_checksum 3 (some .long) ∈ mm_GW := (mm_in (i := 1362) (by decide +kernel) (by decide +kernel))
theorem kn_X8_checksum : Cond.instanceMethod yX8_checksum ∈ mm_GW := (mm_in (i := 1360) (by decide +kernel) (by decide +kernel))
theorem kc_J6_bitCount_0f7a4 : Cond.code yJ6_bitCount_0f7a4 cJ6_bitCount_0f7a4 1 (some .int) ∈ mm_GW := (mm_in (i := 872) (by decide +kernel) (by decide +kernel))
theorem ks_J6_bitCount_0f7a4 : Cond.static yJ6_bitCount_0f7a4 ∈ mm_GW := (mm_in (i := 871) (by decide +kernel) (by decide +kernel))
theorem kc_J9_min_7cf53 : Cond.code yJ9_min_7cf53 cJ9_min_7cf53 2 (some .int) ∈ mm_GW := (mm_in (i := 202) (by decide +kernel) (by decide +kernel))
theorem ks_J9_min_7cf53 : Cond.static yJ9_min_7cf53 ∈ mm_GW := (mm_in (i := 201) (by decide +kernel) (by decide +kernel))
theorem kc_L_insert : Cond.codeWith yL_insert cL_insert 4 (some .int) [(0, 9, 12, 13), (0, 9, 15, 15)] ∈ mm_GW := (mm_in (i := 490) (by decide +kernel) (by decide +kernel))
theorem ks_L_insert : Cond.static yL_insert ∈ mm_GW := (mm_in (i := 489) (by decide +kernel) (by decide +kernel))
theorem kc_L_takeLeast : Cond.codeWith yL_takeLeast cL_takeLeast 3 (some .int) [(0, 8, 11, 15)] ∈ mm_GW := (mm_in (i := 629) (by decide +kernel) (by decide +kernel))
theorem ks_L_takeLeast : Cond.static yL_takeLeast ∈ mm_GW := (mm_in (i := 628) (by decide +kernel) (by decide +kernel))
theorem kc_L_takeGreatest : Cond.codeWith yL_takeGreatest cL_takeGreatest 3 (some .int) [(0, 8, 11, 15)] ∈ mm_GW := (mm_in (i := 717) (by decide +kernel) (by decide +kernel))
theorem ks_L_takeGreatest : Cond.static yL_takeGreatest ∈ mm_GW := (mm_in (i := 716) (by decide +kernel) (by decide +kernel))
theorem kc_L_remove : Cond.codeWith yL_remove cL_remove 4 (some .int) [(0, 9, 12, 27)] ∈ mm_GW := (mm_in (i := 725) (by decide +kernel) (by decide +kernel))
theorem ks_L_remove : Cond.static yL_remove ∈ mm_GW := (mm_in (i := 724) (by decide +kernel) (by decide +kernel))
theorem kc_L_change : Cond.codeWith yL_change cL_change 5 (some .int) [(0, 10, 13, 27), (0, 10, 17, 13)] ∈ mm_GW := (mm_in (i := 754) (by decide +kernel) (by decide +kernel))
theorem ks_L_change : Cond.static yL_change ∈ mm_GW := (mm_in (i := 753) (by decide +kernel) (by decide +kernel))
theorem kc_L_key : Cond.codeWith yL_key cL_key 4 (some .int) [(0, 9, 12, 27)] ∈ mm_GW := (mm_in (i := 762) (by decide +kernel) (by decide +kernel))
theorem ks_L_key : Cond.static yL_key ∈ mm_GW := (mm_in (i := 761) (by decide +kernel) (by decide +kernel))
theorem kc_L_fill : Cond.codeWith yL_fill cL_fill 5 (some .int) [(0, 10, 13, 13), (0, 10, 17, 15)] ∈ mm_GW := (mm_in (i := 769) (by decide +kernel) (by decide +kernel))
theorem ks_L_fill : Cond.static yL_fill ∈ mm_GW := (mm_in (i := 768) (by decide +kernel) (by decide +kernel))
theorem kc_L_least : Cond.codeWith yL_least cL_least 4 (some .int) [(0, 9, 12, 13)] ∈ mm_GW := (mm_in (i := 783) (by decide +kernel) (by decide +kernel))
theorem ks_L_least : Cond.static yL_least ∈ mm_GW := (mm_in (i := 782) (by decide +kernel) (by decide +kernel))
theorem kc_L_greatest : Cond.codeWith yL_greatest cL_greatest 4 (some .int) [(0, 9, 12, 13)] ∈ mm_GW := (mm_in (i := 794) (by decide +kernel) (by decide +kernel))
theorem ks_L_greatest : Cond.static yL_greatest ∈ mm_GW := (mm_in (i := 793) (by decide +kernel) (by decide +kernel))
theorem kc_L_rank : Cond.codeWith yL_rank cL_rank 4 (some .int) [(0, 9, 12, 27)] ∈ mm_GW := (mm_in (i := 801) (by decide +kernel) (by decide +kernel))
theorem ks_L_rank : Cond.static yL_rank ∈ mm_GW := (mm_in (i := 800) (by decide +kernel) (by decide +kernel))
theorem kc_L_at : Cond.codeWith yL_at cL_at 5 (some .int) [(0, 10, 13, 13)] ∈ mm_GW := (mm_in (i := 808) (by decide +kernel) (by decide +kernel))
theorem ks_L_at : Cond.static yL_at ∈ mm_GW := (mm_in (i := 807) (by decide +kernel) (by decide +kernel))
theorem kc_L_where : Cond.codeWith yL_where cL_where 5 (some .int) [(0, 10, 13, 13), (0, 10, 17, 27)] ∈ mm_GW := (mm_in (i := 819) (by decide +kernel) (by decide +kernel))
theorem ks_L_where : Cond.static yL_where ∈ mm_GW := (mm_in (i := 818) (by decide +kernel) (by decide +kernel))
theorem kc_L_violations : Cond.codeWith yL_violations cL_violations 4 (some .int) [(0, 9, 12, 13)] ∈ mm_GW := (mm_in (i := 827) (by decide +kernel) (by decide +kernel))
theorem ks_L_violations : Cond.static yL_violations ∈ mm_GW := (mm_in (i := 826) (by decide +kernel) (by decide +kernel))
theorem kc_L_disturb : Cond.codeWith yL_disturb cL_disturb 6 (some .int) [(0, 12, 15, 13), (0, 12, 19, 27)] ∈ mm_GW := (mm_in (i := 834) (by decide +kernel) (by decide +kernel))
theorem ks_L_disturb : Cond.static yL_disturb ∈ mm_GW := (mm_in (i := 833) (by decide +kernel) (by decide +kernel))
theorem kc_L_level : Cond.codeWith yL_level cL_level 4 (some .int) [(0, 9, 12, 13)] ∈ mm_GW := (mm_in (i := 847) (by decide +kernel) (by decide +kernel))
theorem ks_L_level : Cond.static yL_level ∈ mm_GW := (mm_in (i := 846) (by decide +kernel) (by decide +kernel))
theorem kc_L_ancestors : Cond.codeWith yL_ancestors cL_ancestors 4 (some .int) [(0, 9, 12, 27)] ∈ mm_GW := (mm_in (i := 857) (by decide +kernel) (by decide +kernel))
theorem ks_L_ancestors : Cond.static yL_ancestors ∈ mm_GW := (mm_in (i := 856) (by decide +kernel) (by decide +kernel))
theorem kc_L_comparisons : Cond.codeWith yL_comparisons cL_comparisons 4 (some .int) [(0, 9, 12, 13)] ∈ mm_GW := (mm_in (i := 878) (by decide +kernel) (by decide +kernel))
theorem ks_L_comparisons : Cond.static yL_comparisons ∈ mm_GW := (mm_in (i := 877) (by decide +kernel) (by decide +kernel))
theorem kc_L_wouldNeed : Cond.codeWith yL_wouldNeed cL_wouldNeed 6 (some .int) [(0, 12, 15, 13)] ∈ mm_GW := (mm_in (i := 885) (by decide +kernel) (by decide +kernel))
theorem ks_L_wouldNeed : Cond.static yL_wouldNeed ∈ mm_GW := (mm_in (i := 884) (by decide +kernel) (by decide +kernel))
theorem kc_L_sortingNeeds : Cond.codeWith yL_sortingNeeds cL_sortingNeeds 4 (some .int) [(0, 9, 12, 13)] ∈ mm_GW := (mm_in (i := 894) (by decide +kernel) (by decide +kernel))
theorem ks_L_sortingNeeds : Cond.static yL_sortingNeeds ∈ mm_GW := (mm_in (i := 893) (by decide +kernel) (by decide +kernel))
theorem kc_L_type : Cond.codeWith yL_type cL_type 4 (some .int) [(0, 9, 12, 13), (0, 9, 15, 15)] ∈ mm_GW := (mm_in (i := 909) (by decide +kernel) (by decide +kernel))
theorem ks_L_type : Cond.static yL_type ∈ mm_GW := (mm_in (i := 908) (by decide +kernel) (by decide +kernel))
theorem kc_L_run : Cond.codeWith yL_run cL_run 3 (some .int) [(0, 8, 11, 13)] ∈ mm_GW := (mm_in (i := 922) (by decide +kernel) (by decide +kernel))
theorem ks_L_run : Cond.static yL_run ∈ mm_GW := (mm_in (i := 921) (by decide +kernel) (by decide +kernel))
theorem kc_L_undo : Cond.codeWith yL_undo cL_undo 3 (some .int) [(0, 8, 11, 15)] ∈ mm_GW := (mm_in (i := 932) (by decide +kernel) (by decide +kernel))
theorem ks_L_undo : Cond.static yL_undo ∈ mm_GW := (mm_in (i := 931) (by decide +kernel) (by decide +kernel))
theorem kn_object : Cond.instanceMethod Lib.objectInit ∈ mm_GW := (mm_in (i := 25) (by decide +kernel) (by decide +kernel))
theorem kc_object : Cond.code Lib.objectInit ⟨#[0xb1]⟩ 1 none ∈ mm_GW := (mm_in (i := 26) (by decide +kernel) (by decide +kernel))
theorem kf_X3_9 : Cond.fieldLink RX3 9 "TwoEndQueues$Layout" "items" "[I" ∈ mm_GW := (mm_in (i := 42) (by decide +kernel) (by decide +kernel))
theorem f_X3_9_0 : mm_Fld RX3 9 0 0 := ⟨RX0, TX0, 4, "TwoEndQueues$Layout", rfl, by decide, kw_X0, kf_X3_9, Or.inl rfl⟩
theorem p_X3_9_0 : mm_Put RX3 9 0 0 (.array .int) true := ⟨RX0, TX0, 4, "TwoEndQueues$Layout", tyX0, rfl, by decide, kw_X0, kf_X3_9, Or.inl rfl, tyX0_ok, nmX0, rfl, by decide +kernel, fun _ => rfl⟩
theorem f_X3_9_2 : mm_Fld RX3 9 2 0 := ⟨RX2, TX2, 3, "TwoEndQueues$Layout", rfl, by decide, kw_X2, kf_X3_9, Or.inl rfl⟩
theorem p_X3_9_2 : mm_Put RX3 9 2 0 (.array .int) true := ⟨RX2, TX2, 3, "TwoEndQueues$Layout", tyX2, rfl, by decide, kw_X2, kf_X3_9, Or.inl rfl, tyX2_ok, nmX2, rfl, by decide +kernel, fun _ => rfl⟩
theorem f_X3_9_3 : mm_Fld RX3 9 3 0 := ⟨RX4, TX4, 3, "TwoEndQueues$Layout", rfl, by decide, kw_X4, kf_X3_9, Or.inl rfl⟩
theorem p_X3_9_3 : mm_Put RX3 9 3 0 (.array .int) true := ⟨RX4, TX4, 3, "TwoEndQueues$Layout", tyX4, rfl, by decide, kw_X4, kf_X3_9, Or.inl rfl, tyX4_ok, nmX4, rfl, by decide +kernel, fun _ => rfl⟩
theorem f_X3_9 {ci : Nat} (h : ci = 0 ∨ ci = 2 ∨ ci = 3) : mm_Fld RX3 9 ci 0 := by rcases h with rfl | rfl | rfl <;> first | exact f_X3_9_0 | exact f_X3_9_2 | exact f_X3_9_3
theorem p_X3_9 {ci : Nat} (h : ci = 0 ∨ ci = 2 ∨ ci = 3) : mm_Put RX3 9 ci 0 (.array .int) true := by rcases h with rfl | rfl | rfl <;> first | exact p_X3_9_0 | exact p_X3_9_2 | exact p_X3_9_3
theorem kf_X5_37 : Cond.fieldLink RX5 37 "TwoEndQueues$IntervalLayout" "length" "I" ∈ mm_GW := (mm_in (i := 43) (by decide +kernel) (by decide +kernel))
theorem f_X5_37_2 : mm_Fld RX5 37 2 1 := ⟨RX2, TX2, 3, "TwoEndQueues$IntervalLayout", rfl, by decide, kw_X2, kf_X5_37, Or.inr (mm_in (i := 44) (by decide +kernel) (by decide +kernel))⟩
theorem p_X5_37_2 : mm_Put RX5 37 2 1 .int false := ⟨RX2, TX2, 3, "TwoEndQueues$IntervalLayout", tyX2, rfl, by decide, kw_X2, kf_X5_37, Or.inr (mm_in (i := 44) (by decide +kernel) (by decide +kernel)), tyX2_ok, nmX2, rfl, by decide +kernel, fun h => by cases h⟩
theorem kf_X0_25 : Cond.fieldLink RX0 25 "TwoEndQueues$HeapLayout" "length" "I" ∈ mm_GW := (mm_in (i := 45) (by decide +kernel) (by decide +kernel))
theorem f_X0_25_0 : mm_Fld RX0 25 0 1 := ⟨RX0, TX0, 4, "TwoEndQueues$HeapLayout", rfl, by decide, kw_X0, kf_X0_25, Or.inr (mm_in (i := 46) (by decide +kernel) (by decide +kernel))⟩
theorem p_X0_25_0 : mm_Put RX0 25 0 1 .int false := ⟨RX0, TX0, 4, "TwoEndQueues$HeapLayout", tyX0, rfl, by decide, kw_X0, kf_X0_25, Or.inr (mm_in (i := 46) (by decide +kernel) (by decide +kernel)), tyX0_ok, nmX0, rfl, by decide +kernel, fun h => by cases h⟩
theorem kf_X4_15 : Cond.fieldLink RX4 15 "TwoEndQueues$LevelLayout" "length" "I" ∈ mm_GW := (mm_in (i := 47) (by decide +kernel) (by decide +kernel))
theorem f_X4_15_3 : mm_Fld RX4 15 3 1 := ⟨RX4, TX4, 3, "TwoEndQueues$LevelLayout", rfl, by decide, kw_X4, kf_X4_15, Or.inr (mm_in (i := 48) (by decide +kernel) (by decide +kernel))⟩
theorem p_X4_15_3 : mm_Put RX4 15 3 1 .int false := ⟨RX4, TX4, 3, "TwoEndQueues$LevelLayout", tyX4, rfl, by decide, kw_X4, kf_X4_15, Or.inr (mm_in (i := 48) (by decide +kernel) (by decide +kernel)), tyX4_ok, nmX4, rfl, by decide +kernel, fun h => by cases h⟩
theorem kf_X2_15 : Cond.fieldLink RX2 15 "TwoEndQueues$IntervalLayout" "length" "I" ∈ mm_GW := (mm_in (i := 49) (by decide +kernel) (by decide +kernel))
theorem f_X2_15_2 : mm_Fld RX2 15 2 1 := ⟨RX2, TX2, 3, "TwoEndQueues$IntervalLayout", rfl, by decide, kw_X2, kf_X2_15, Or.inr (mm_in (i := 44) (by decide +kernel) (by decide +kernel))⟩
theorem p_X2_15_2 : mm_Put RX2 15 2 1 .int false := ⟨RX2, TX2, 3, "TwoEndQueues$IntervalLayout", tyX2, rfl, by decide, kw_X2, kf_X2_15, Or.inr (mm_in (i := 44) (by decide +kernel) (by decide +kernel)), tyX2_ok, nmX2, rfl, by decide +kernel, fun h => by cases h⟩
theorem kf_X3_15 : Cond.fieldLink RX3 15 "TwoEndQueues$Layout" "length" "I" ∈ mm_GW := (mm_in (i := 50) (by decide +kernel) (by decide +kernel))
theorem f_X3_15_0 : mm_Fld RX3 15 0 1 := ⟨RX0, TX0, 4, "TwoEndQueues$Layout", rfl, by decide, kw_X0, kf_X3_15, Or.inl rfl⟩
theorem p_X3_15_0 : mm_Put RX3 15 0 1 .int false := ⟨RX0, TX0, 4, "TwoEndQueues$Layout", tyX0, rfl, by decide, kw_X0, kf_X3_15, Or.inl rfl, tyX0_ok, nmX0, rfl, by decide +kernel, fun h => by cases h⟩
theorem f_X3_15_2 : mm_Fld RX3 15 2 1 := ⟨RX2, TX2, 3, "TwoEndQueues$Layout", rfl, by decide, kw_X2, kf_X3_15, Or.inl rfl⟩
theorem p_X3_15_2 : mm_Put RX3 15 2 1 .int false := ⟨RX2, TX2, 3, "TwoEndQueues$Layout", tyX2, rfl, by decide, kw_X2, kf_X3_15, Or.inl rfl, tyX2_ok, nmX2, rfl, by decide +kernel, fun h => by cases h⟩
theorem f_X3_15_3 : mm_Fld RX3 15 3 1 := ⟨RX4, TX4, 3, "TwoEndQueues$Layout", rfl, by decide, kw_X4, kf_X3_15, Or.inl rfl⟩
theorem p_X3_15_3 : mm_Put RX3 15 3 1 .int false := ⟨RX4, TX4, 3, "TwoEndQueues$Layout", tyX4, rfl, by decide, kw_X4, kf_X3_15, Or.inl rfl, tyX4_ok, nmX4, rfl, by decide +kernel, fun h => by cases h⟩
theorem f_X3_15 {ci : Nat} (h : ci = 0 ∨ ci = 2 ∨ ci = 3) : mm_Fld RX3 15 ci 1 := by rcases h with rfl | rfl | rfl <;> first | exact f_X3_15_0 | exact f_X3_15_2 | exact f_X3_15_3
theorem p_X3_15 {ci : Nat} (h : ci = 0 ∨ ci = 2 ∨ ci = 3) : mm_Put RX3 15 ci 1 .int false := by rcases h with rfl | rfl | rfl <;> first | exact p_X3_15_0 | exact p_X3_15_2 | exact p_X3_15_3
theorem kf_X5_97 : Cond.fieldLink RX5 97 "TwoEndQueues$Layout" "length" "I" ∈ mm_GW := (mm_in (i := 51) (by decide +kernel) (by decide +kernel))
theorem f_X5_97_0 : mm_Fld RX5 97 0 1 := ⟨RX0, TX0, 4, "TwoEndQueues$Layout", rfl, by decide, kw_X0, kf_X5_97, Or.inl rfl⟩
theorem p_X5_97_0 : mm_Put RX5 97 0 1 .int false := ⟨RX0, TX0, 4, "TwoEndQueues$Layout", tyX0, rfl, by decide, kw_X0, kf_X5_97, Or.inl rfl, tyX0_ok, nmX0, rfl, by decide +kernel, fun h => by cases h⟩
theorem f_X5_97_2 : mm_Fld RX5 97 2 1 := ⟨RX2, TX2, 3, "TwoEndQueues$Layout", rfl, by decide, kw_X2, kf_X5_97, Or.inl rfl⟩
theorem p_X5_97_2 : mm_Put RX5 97 2 1 .int false := ⟨RX2, TX2, 3, "TwoEndQueues$Layout", tyX2, rfl, by decide, kw_X2, kf_X5_97, Or.inl rfl, tyX2_ok, nmX2, rfl, by decide +kernel, fun h => by cases h⟩
theorem f_X5_97_3 : mm_Fld RX5 97 3 1 := ⟨RX4, TX4, 3, "TwoEndQueues$Layout", rfl, by decide, kw_X4, kf_X5_97, Or.inl rfl⟩
theorem p_X5_97_3 : mm_Put RX5 97 3 1 .int false := ⟨RX4, TX4, 3, "TwoEndQueues$Layout", tyX4, rfl, by decide, kw_X4, kf_X5_97, Or.inl rfl, tyX4_ok, nmX4, rfl, by decide +kernel, fun h => by cases h⟩
theorem f_X5_97 {ci : Nat} (h : ci = 0 ∨ ci = 2 ∨ ci = 3) : mm_Fld RX5 97 ci 1 := by rcases h with rfl | rfl | rfl <;> first | exact f_X5_97_0 | exact f_X5_97_2 | exact f_X5_97_3
theorem p_X5_97 {ci : Nat} (h : ci = 0 ∨ ci = 2 ∨ ci = 3) : mm_Put RX5 97 ci 1 .int false := by rcases h with rfl | rfl | rfl <;> first | exact p_X5_97_0 | exact p_X5_97_2 | exact p_X5_97_3
theorem kf_X4_22 : Cond.fieldLink RX4 22 "TwoEndQueues$LevelLayout" "counted" "I" ∈ mm_GW := (mm_in (i := 52) (by decide +kernel) (by decide +kernel))
theorem f_X4_22_3 : mm_Fld RX4 22 3 2 := ⟨RX4, TX4, 3, "TwoEndQueues$LevelLayout", rfl, by decide, kw_X4, kf_X4_22, Or.inr (mm_in (i := 53) (by decide +kernel) (by decide +kernel))⟩
theorem p_X4_22_3 : mm_Put RX4 22 3 2 .int false := ⟨RX4, TX4, 3, "TwoEndQueues$LevelLayout", tyX4, rfl, by decide, kw_X4, kf_X4_22, Or.inr (mm_in (i := 53) (by decide +kernel) (by decide +kernel)), tyX4_ok, nmX4, rfl, by decide +kernel, fun h => by cases h⟩
theorem kf_X5_68 : Cond.fieldLink RX5 68 "TwoEndQueues$HeapLayout" "counted" "I" ∈ mm_GW := (mm_in (i := 54) (by decide +kernel) (by decide +kernel))
theorem f_X5_68_0 : mm_Fld RX5 68 0 2 := ⟨RX0, TX0, 4, "TwoEndQueues$HeapLayout", rfl, by decide, kw_X0, kf_X5_68, Or.inr (mm_in (i := 55) (by decide +kernel) (by decide +kernel))⟩
theorem p_X5_68_0 : mm_Put RX5 68 0 2 .int false := ⟨RX0, TX0, 4, "TwoEndQueues$HeapLayout", tyX0, rfl, by decide, kw_X0, kf_X5_68, Or.inr (mm_in (i := 55) (by decide +kernel) (by decide +kernel)), tyX0_ok, nmX0, rfl, by decide +kernel, fun h => by cases h⟩
theorem kf_X5_71 : Cond.fieldLink RX5 71 "TwoEndQueues$Layout" "counted" "I" ∈ mm_GW := (mm_in (i := 56) (by decide +kernel) (by decide +kernel))
theorem f_X5_71_0 : mm_Fld RX5 71 0 2 := ⟨RX0, TX0, 4, "TwoEndQueues$Layout", rfl, by decide, kw_X0, kf_X5_71, Or.inl rfl⟩
theorem p_X5_71_0 : mm_Put RX5 71 0 2 .int false := ⟨RX0, TX0, 4, "TwoEndQueues$Layout", tyX0, rfl, by decide, kw_X0, kf_X5_71, Or.inl rfl, tyX0_ok, nmX0, rfl, by decide +kernel, fun h => by cases h⟩
theorem f_X5_71_2 : mm_Fld RX5 71 2 2 := ⟨RX2, TX2, 3, "TwoEndQueues$Layout", rfl, by decide, kw_X2, kf_X5_71, Or.inl rfl⟩
theorem p_X5_71_2 : mm_Put RX5 71 2 2 .int false := ⟨RX2, TX2, 3, "TwoEndQueues$Layout", tyX2, rfl, by decide, kw_X2, kf_X5_71, Or.inl rfl, tyX2_ok, nmX2, rfl, by decide +kernel, fun h => by cases h⟩
theorem f_X5_71_3 : mm_Fld RX5 71 3 2 := ⟨RX4, TX4, 3, "TwoEndQueues$Layout", rfl, by decide, kw_X4, kf_X5_71, Or.inl rfl⟩
theorem p_X5_71_3 : mm_Put RX5 71 3 2 .int false := ⟨RX4, TX4, 3, "TwoEndQueues$Layout", tyX4, rfl, by decide, kw_X4, kf_X5_71, Or.inl rfl, tyX4_ok, nmX4, rfl, by decide +kernel, fun h => by cases h⟩
theorem f_X5_71 {ci : Nat} (h : ci = 0 ∨ ci = 2 ∨ ci = 3) : mm_Fld RX5 71 ci 2 := by rcases h with rfl | rfl | rfl <;> first | exact f_X5_71_0 | exact f_X5_71_2 | exact f_X5_71_3
theorem p_X5_71 {ci : Nat} (h : ci = 0 ∨ ci = 2 ∨ ci = 3) : mm_Put RX5 71 ci 2 .int false := by rcases h with rfl | rfl | rfl <;> first | exact p_X5_71_0 | exact p_X5_71_2 | exact p_X5_71_3
theorem kf_X3_30 : Cond.fieldLink RX3 30 "TwoEndQueues$Layout" "counted" "I" ∈ mm_GW := (mm_in (i := 57) (by decide +kernel) (by decide +kernel))
theorem f_X3_30_0 : mm_Fld RX3 30 0 2 := ⟨RX0, TX0, 4, "TwoEndQueues$Layout", rfl, by decide, kw_X0, kf_X3_30, Or.inl rfl⟩
theorem p_X3_30_0 : mm_Put RX3 30 0 2 .int false := ⟨RX0, TX0, 4, "TwoEndQueues$Layout", tyX0, rfl, by decide, kw_X0, kf_X3_30, Or.inl rfl, tyX0_ok, nmX0, rfl, by decide +kernel, fun h => by cases h⟩
theorem f_X3_30_2 : mm_Fld RX3 30 2 2 := ⟨RX2, TX2, 3, "TwoEndQueues$Layout", rfl, by decide, kw_X2, kf_X3_30, Or.inl rfl⟩
theorem p_X3_30_2 : mm_Put RX3 30 2 2 .int false := ⟨RX2, TX2, 3, "TwoEndQueues$Layout", tyX2, rfl, by decide, kw_X2, kf_X3_30, Or.inl rfl, tyX2_ok, nmX2, rfl, by decide +kernel, fun h => by cases h⟩
theorem f_X3_30_3 : mm_Fld RX3 30 3 2 := ⟨RX4, TX4, 3, "TwoEndQueues$Layout", rfl, by decide, kw_X4, kf_X3_30, Or.inl rfl⟩
theorem p_X3_30_3 : mm_Put RX3 30 3 2 .int false := ⟨RX4, TX4, 3, "TwoEndQueues$Layout", tyX4, rfl, by decide, kw_X4, kf_X3_30, Or.inl rfl, tyX4_ok, nmX4, rfl, by decide +kernel, fun h => by cases h⟩
theorem f_X3_30 {ci : Nat} (h : ci = 0 ∨ ci = 2 ∨ ci = 3) : mm_Fld RX3 30 ci 2 := by rcases h with rfl | rfl | rfl <;> first | exact f_X3_30_0 | exact f_X3_30_2 | exact f_X3_30_3
theorem p_X3_30 {ci : Nat} (h : ci = 0 ∨ ci = 2 ∨ ci = 3) : mm_Put RX3 30 ci 2 .int false := by rcases h with rfl | rfl | rfl <;> first | exact p_X3_30_0 | exact p_X3_30_2 | exact p_X3_30_3
theorem kf_X0_9 : Cond.fieldLink RX0 9 "TwoEndQueues$HeapLayout" "forLeast" "Z" ∈ mm_GW := (mm_in (i := 82) (by decide +kernel) (by decide +kernel))
theorem f_X0_9_0 : mm_Fld RX0 9 0 3 := ⟨RX0, TX0, 4, "TwoEndQueues$HeapLayout", rfl, by decide, kw_X0, kf_X0_9, Or.inl rfl⟩
theorem p_X0_9_0 : mm_Put RX0 9 0 3 .boolean true := ⟨RX0, TX0, 4, "TwoEndQueues$HeapLayout", tyX0, rfl, by decide, kw_X0, kf_X0_9, Or.inl rfl, tyX0_ok, nmX0, rfl, by decide +kernel, fun _ => rfl⟩
theorem kf_X5_12 : Cond.fieldLink RX5 12 "TwoEndQueues$Queues" "interval" "LTwoEndQueues$IntervalLayout;" ∈ mm_GW := (mm_in (i := 89) (by decide +kernel) (by decide +kernel))
theorem f_X5_12_4 : mm_Fld RX5 12 4 0 := ⟨RX5, TX5, 4, "TwoEndQueues$Queues", rfl, by decide, kw_X5, kf_X5_12, Or.inl rfl⟩
theorem p_X5_12_4 : mm_Put RX5 12 4 0 (.object "TwoEndQueues$IntervalLayout") true := ⟨RX5, TX5, 4, "TwoEndQueues$Queues", tyX5, rfl, by decide, kw_X5, kf_X5_12, Or.inl rfl, tyX5_ok, nmX5, rfl, by decide +kernel, fun _ => rfl⟩
theorem kf_X5_21 : Cond.fieldLink RX5 21 "TwoEndQueues$Queues" "levels" "LTwoEndQueues$LevelLayout;" ∈ mm_GW := (mm_in (i := 90) (by decide +kernel) (by decide +kernel))
theorem f_X5_21_4 : mm_Fld RX5 21 4 1 := ⟨RX5, TX5, 4, "TwoEndQueues$Queues", rfl, by decide, kw_X5, kf_X5_21, Or.inl rfl⟩
theorem p_X5_21_4 : mm_Put RX5 21 4 1 (.object "TwoEndQueues$LevelLayout") true := ⟨RX5, TX5, 4, "TwoEndQueues$Queues", tyX5, rfl, by decide, kw_X5, kf_X5_21, Or.inl rfl, tyX5_ok, nmX5, rfl, by decide +kernel, fun _ => rfl⟩
theorem kf_X5_30 : Cond.fieldLink RX5 30 "TwoEndQueues$Queues" "leastFirst" "LTwoEndQueues$HeapLayout;" ∈ mm_GW := (mm_in (i := 91) (by decide +kernel) (by decide +kernel))
theorem f_X5_30_4 : mm_Fld RX5 30 4 2 := ⟨RX5, TX5, 4, "TwoEndQueues$Queues", rfl, by decide, kw_X5, kf_X5_30, Or.inl rfl⟩
theorem p_X5_30_4 : mm_Put RX5 30 4 2 (.object "TwoEndQueues$HeapLayout") true := ⟨RX5, TX5, 4, "TwoEndQueues$Queues", tyX5, rfl, by decide, kw_X5, kf_X5_30, Or.inl rfl, tyX5_ok, nmX5, rfl, by decide +kernel, fun _ => rfl⟩
theorem kf_X7_153 : Cond.fieldLink RX7 153 "TwoEndQueues$Queues" "leastFirst" "LTwoEndQueues$HeapLayout;" ∈ mm_GW := (mm_in (i := 92) (by decide +kernel) (by decide +kernel))
theorem f_X7_153_4 : mm_Fld RX7 153 4 2 := ⟨RX5, TX5, 4, "TwoEndQueues$Queues", rfl, by decide, kw_X5, kf_X7_153, Or.inl rfl⟩
theorem kf_X5_34 : Cond.fieldLink RX5 34 "TwoEndQueues$Queues" "greatestFirst" "LTwoEndQueues$HeapLayout;" ∈ mm_GW := (mm_in (i := 93) (by decide +kernel) (by decide +kernel))
theorem f_X5_34_4 : mm_Fld RX5 34 4 3 := ⟨RX5, TX5, 4, "TwoEndQueues$Queues", rfl, by decide, kw_X5, kf_X5_34, Or.inl rfl⟩
theorem p_X5_34_4 : mm_Put RX5 34 4 3 (.object "TwoEndQueues$HeapLayout") true := ⟨RX5, TX5, 4, "TwoEndQueues$Queues", tyX5, rfl, by decide, kw_X5, kf_X5_34, Or.inl rfl, tyX5_ok, nmX5, rfl, by decide +kernel, fun _ => rfl⟩
theorem kf_X7_162 : Cond.fieldLink RX7 162 "TwoEndQueues$Queues" "greatestFirst" "LTwoEndQueues$HeapLayout;" ∈ mm_GW := (mm_in (i := 94) (by decide +kernel) (by decide +kernel))
theorem f_X7_162_4 : mm_Fld RX7 162 4 3 := ⟨RX5, TX5, 4, "TwoEndQueues$Queues", rfl, by decide, kw_X5, kf_X7_162, Or.inl rfl⟩
theorem kf_X1_11 : Cond.fieldLink RX1 11 "TwoEndQueues$History" "ring" "[LTwoEndQueues$Queues;" ∈ mm_GW := (mm_in (i := 113) (by decide +kernel) (by decide +kernel))
theorem f_X1_11_1 : mm_Fld RX1 11 1 0 := ⟨RX1, TX1, 3, "TwoEndQueues$History", rfl, by decide, kw_X1, kf_X1_11, Or.inl rfl⟩
theorem p_X1_11_1 : mm_Put RX1 11 1 0 (.array (.object "TwoEndQueues$Queues")) true := ⟨RX1, TX1, 3, "TwoEndQueues$History", tyX1, rfl, by decide, kw_X1, kf_X1_11, Or.inl rfl, tyX1_ok, nmX1, rfl, by decide +kernel, fun _ => rfl⟩
theorem kf_X1_18 : Cond.fieldLink RX1 18 "TwoEndQueues$History" "next" "I" ∈ mm_GW := (mm_in (i := 114) (by decide +kernel) (by decide +kernel))
theorem f_X1_18_1 : mm_Fld RX1 18 1 1 := ⟨RX1, TX1, 3, "TwoEndQueues$History", rfl, by decide, kw_X1, kf_X1_18, Or.inl rfl⟩
theorem p_X1_18_1 : mm_Put RX1 18 1 1 .int false := ⟨RX1, TX1, 3, "TwoEndQueues$History", tyX1, rfl, by decide, kw_X1, kf_X1_18, Or.inl rfl, tyX1_ok, nmX1, rfl, by decide +kernel, fun h => by cases h⟩
theorem kf_X1_30 : Cond.fieldLink RX1 30 "TwoEndQueues$History" "kept" "I" ∈ mm_GW := (mm_in (i := 115) (by decide +kernel) (by decide +kernel))
theorem f_X1_30_1 : mm_Fld RX1 30 1 2 := ⟨RX1, TX1, 3, "TwoEndQueues$History", rfl, by decide, kw_X1, kf_X1_30, Or.inl rfl⟩
theorem p_X1_30_1 : mm_Put RX1 30 1 2 .int false := ⟨RX1, TX1, 3, "TwoEndQueues$History", tyX1, rfl, by decide, kw_X1, kf_X1_30, Or.inl rfl, tyX1_ok, nmX1, rfl, by decide +kernel, fun h => by cases h⟩
theorem kf_X7_217 : Cond.fieldLink RX7 217 "TwoEndQueues$History" "kept" "I" ∈ mm_GW := (mm_in (i := 116) (by decide +kernel) (by decide +kernel))
theorem f_X7_217_1 : mm_Fld RX7 217 1 2 := ⟨RX1, TX1, 3, "TwoEndQueues$History", rfl, by decide, kw_X1, kf_X7_217, Or.inl rfl⟩
theorem p_X7_217_1 : mm_Put RX7 217 1 2 .int false := ⟨RX1, TX1, 3, "TwoEndQueues$History", tyX1, rfl, by decide, kw_X1, kf_X7_217, Or.inl rfl, tyX1_ok, nmX1, rfl, by decide +kernel, fun h => by cases h⟩
theorem kf_X6_9 : Cond.fieldLink RX6 9 "TwoEndQueues$Script" "signs" "[C" ∈ mm_GW := (mm_in (i := 130) (by decide +kernel) (by decide +kernel))
theorem f_X6_9_5 : mm_Fld RX6 9 5 0 := ⟨RX6, TX6, 7, "TwoEndQueues$Script", rfl, by decide, kw_X6, kf_X6_9, Or.inl rfl⟩
theorem p_X6_9_5 : mm_Put RX6 9 5 0 (.array .char) true := ⟨RX6, TX6, 7, "TwoEndQueues$Script", tyX6, rfl, by decide, kw_X6, kf_X6_9, Or.inl rfl, tyX6_ok, nmX6, rfl, by decide +kernel, fun _ => rfl⟩
theorem kf_X6_19 : Cond.fieldLink RX6 19 "TwoEndQueues$Script" "cursor" "I" ∈ mm_GW := (mm_in (i := 131) (by decide +kernel) (by decide +kernel))
theorem f_X6_19_5 : mm_Fld RX6 19 5 1 := ⟨RX6, TX6, 7, "TwoEndQueues$Script", rfl, by decide, kw_X6, kf_X6_19, Or.inl rfl⟩
theorem p_X6_19_5 : mm_Put RX6 19 5 1 .int false := ⟨RX6, TX6, 7, "TwoEndQueues$Script", tyX6, rfl, by decide, kw_X6, kf_X6_19, Or.inl rfl, tyX6_ok, nmX6, rfl, by decide +kernel, fun h => by cases h⟩
theorem kf_X6_57 : Cond.fieldLink RX6 57 "TwoEndQueues$Script" "number" "I" ∈ mm_GW := (mm_in (i := 132) (by decide +kernel) (by decide +kernel))
theorem f_X6_57_5 : mm_Fld RX6 57 5 2 := ⟨RX6, TX6, 7, "TwoEndQueues$Script", rfl, by decide, kw_X6, kf_X6_57, Or.inl rfl⟩
theorem p_X6_57_5 : mm_Put RX6 57 5 2 .int false := ⟨RX6, TX6, 7, "TwoEndQueues$Script", tyX6, rfl, by decide, kw_X6, kf_X6_57, Or.inl rfl, tyX6_ok, nmX6, rfl, by decide +kernel, fun h => by cases h⟩
theorem kf_X6_15 : Cond.fieldLink RX6 15 "TwoEndQueues$Script" "length" "I" ∈ mm_GW := (mm_in (i := 133) (by decide +kernel) (by decide +kernel))
theorem f_X6_15_5 : mm_Fld RX6 15 5 3 := ⟨RX6, TX6, 7, "TwoEndQueues$Script", rfl, by decide, kw_X6, kf_X6_15, Or.inl rfl⟩
theorem p_X6_15_5 : mm_Put RX6 15 5 3 .int false := ⟨RX6, TX6, 7, "TwoEndQueues$Script", tyX6, rfl, by decide, kw_X6, kf_X6_15, Or.inl rfl, tyX6_ok, nmX6, rfl, by decide +kernel, fun h => by cases h⟩
theorem kf_X7_186 : Cond.fieldLink RX7 186 "TwoEndQueues$Script" "length" "I" ∈ mm_GW := (mm_in (i := 134) (by decide +kernel) (by decide +kernel))
theorem f_X7_186_5 : mm_Fld RX7 186 5 3 := ⟨RX6, TX6, 7, "TwoEndQueues$Script", rfl, by decide, kw_X6, kf_X7_186, Or.inl rfl⟩
theorem p_X7_186_5 : mm_Put RX7 186 5 3 .int false := ⟨RX6, TX6, 7, "TwoEndQueues$Script", tyX6, rfl, by decide, kw_X6, kf_X7_186, Or.inl rfl, tyX6_ok, nmX6, rfl, by decide +kernel, fun h => by cases h⟩
theorem kf_X6_37 : Cond.fieldLink RX6 37 "TwoEndQueues$Script" "command" "I" ∈ mm_GW := (mm_in (i := 135) (by decide +kernel) (by decide +kernel))
theorem f_X6_37_5 : mm_Fld RX6 37 5 4 := ⟨RX6, TX6, 7, "TwoEndQueues$Script", rfl, by decide, kw_X6, kf_X6_37, Or.inl rfl⟩
theorem p_X6_37_5 : mm_Put RX6 37 5 4 .int false := ⟨RX6, TX6, 7, "TwoEndQueues$Script", tyX6, rfl, by decide, kw_X6, kf_X6_37, Or.inl rfl, tyX6_ok, nmX6, rfl, by decide +kernel, fun h => by cases h⟩
theorem kf_X7_208 : Cond.fieldLink RX7 208 "TwoEndQueues$Script" "command" "I" ∈ mm_GW := (mm_in (i := 136) (by decide +kernel) (by decide +kernel))
theorem f_X7_208_5 : mm_Fld RX7 208 5 4 := ⟨RX6, TX6, 7, "TwoEndQueues$Script", rfl, by decide, kw_X6, kf_X7_208, Or.inl rfl⟩
theorem p_X7_208_5 : mm_Put RX7 208 5 4 .int false := ⟨RX6, TX6, 7, "TwoEndQueues$Script", tyX6, rfl, by decide, kw_X6, kf_X7_208, Or.inl rfl, tyX6_ok, nmX6, rfl, by decide +kernel, fun h => by cases h⟩
theorem kf_X6_63 : Cond.fieldLink RX6 63 "TwoEndQueues$Script" "handle" "I" ∈ mm_GW := (mm_in (i := 137) (by decide +kernel) (by decide +kernel))
theorem f_X6_63_5 : mm_Fld RX6 63 5 5 := ⟨RX6, TX6, 7, "TwoEndQueues$Script", rfl, by decide, kw_X6, kf_X6_63, Or.inl rfl⟩
theorem p_X6_63_5 : mm_Put RX6 63 5 5 .int false := ⟨RX6, TX6, 7, "TwoEndQueues$Script", tyX6, rfl, by decide, kw_X6, kf_X6_63, Or.inl rfl, tyX6_ok, nmX6, rfl, by decide +kernel, fun h => by cases h⟩
theorem kf_X7_211 : Cond.fieldLink RX7 211 "TwoEndQueues$Script" "handle" "I" ∈ mm_GW := (mm_in (i := 138) (by decide +kernel) (by decide +kernel))
theorem f_X7_211_5 : mm_Fld RX7 211 5 5 := ⟨RX6, TX6, 7, "TwoEndQueues$Script", rfl, by decide, kw_X6, kf_X7_211, Or.inl rfl⟩
theorem p_X7_211_5 : mm_Put RX7 211 5 5 .int false := ⟨RX6, TX6, 7, "TwoEndQueues$Script", tyX6, rfl, by decide, kw_X6, kf_X7_211, Or.inl rfl, tyX6_ok, nmX6, rfl, by decide +kernel, fun h => by cases h⟩
theorem kf_X6_60 : Cond.fieldLink RX6 60 "TwoEndQueues$Script" "key" "I" ∈ mm_GW := (mm_in (i := 139) (by decide +kernel) (by decide +kernel))
theorem f_X6_60_5 : mm_Fld RX6 60 5 6 := ⟨RX6, TX6, 7, "TwoEndQueues$Script", rfl, by decide, kw_X6, kf_X6_60, Or.inl rfl⟩
theorem p_X6_60_5 : mm_Put RX6 60 5 6 .int false := ⟨RX6, TX6, 7, "TwoEndQueues$Script", tyX6, rfl, by decide, kw_X6, kf_X6_60, Or.inl rfl, tyX6_ok, nmX6, rfl, by decide +kernel, fun h => by cases h⟩
theorem kf_X7_214 : Cond.fieldLink RX7 214 "TwoEndQueues$Script" "key" "I" ∈ mm_GW := (mm_in (i := 140) (by decide +kernel) (by decide +kernel))
theorem f_X7_214_5 : mm_Fld RX7 214 5 6 := ⟨RX6, TX6, 7, "TwoEndQueues$Script", rfl, by decide, kw_X6, kf_X7_214, Or.inl rfl⟩
theorem p_X7_214_5 : mm_Put RX7 214 5 6 .int false := ⟨RX6, TX6, 7, "TwoEndQueues$Script", tyX6, rfl, by decide, kw_X6, kf_X7_214, Or.inl rfl, tyX6_ok, nmX6, rfl, by decide +kernel, fun h => by cases h⟩
theorem kf_X7_10 : Cond.fieldLink RX7 10 "TwoEndQueues" "queues" "LTwoEndQueues$Queues;" ∈ mm_GW := (mm_in (i := 157) (by decide +kernel) (by decide +kernel))
theorem f_X7_10_6 : mm_Fld RX7 10 6 0 := ⟨RX7, TX7, 4, "TwoEndQueues", rfl, by decide, kw_X7, kf_X7_10, Or.inl rfl⟩
theorem p_X7_10_6 : mm_Put RX7 10 6 0 (.object "TwoEndQueues$Queues") true := ⟨RX7, TX7, 4, "TwoEndQueues", tyX7, rfl, by decide, kw_X7, kf_X7_10, Or.inl rfl, tyX7_ok, nmX7, rfl, by decide +kernel, fun _ => rfl⟩
theorem kf_X7_16 : Cond.fieldLink RX7 16 "TwoEndQueues" "thought" "LTwoEndQueues$Queues;" ∈ mm_GW := (mm_in (i := 158) (by decide +kernel) (by decide +kernel))
theorem f_X7_16_6 : mm_Fld RX7 16 6 1 := ⟨RX7, TX7, 4, "TwoEndQueues", rfl, by decide, kw_X7, kf_X7_16, Or.inl rfl⟩
theorem p_X7_16_6 : mm_Put RX7 16 6 1 (.object "TwoEndQueues$Queues") true := ⟨RX7, TX7, 4, "TwoEndQueues", tyX7, rfl, by decide, kw_X7, kf_X7_16, Or.inl rfl, tyX7_ok, nmX7, rfl, by decide +kernel, fun _ => rfl⟩
theorem kf_X7_22 : Cond.fieldLink RX7 22 "TwoEndQueues" "history" "LTwoEndQueues$History;" ∈ mm_GW := (mm_in (i := 159) (by decide +kernel) (by decide +kernel))
theorem f_X7_22_6 : mm_Fld RX7 22 6 2 := ⟨RX7, TX7, 4, "TwoEndQueues", rfl, by decide, kw_X7, kf_X7_22, Or.inl rfl⟩
theorem p_X7_22_6 : mm_Put RX7 22 6 2 (.object "TwoEndQueues$History") true := ⟨RX7, TX7, 4, "TwoEndQueues", tyX7, rfl, by decide, kw_X7, kf_X7_22, Or.inl rfl, tyX7_ok, nmX7, rfl, by decide +kernel, fun _ => rfl⟩
theorem kf_X7_29 : Cond.fieldLink RX7 29 "TwoEndQueues" "script" "LTwoEndQueues$Script;" ∈ mm_GW := (mm_in (i := 160) (by decide +kernel) (by decide +kernel))
theorem f_X7_29_6 : mm_Fld RX7 29 6 3 := ⟨RX7, TX7, 4, "TwoEndQueues", rfl, by decide, kw_X7, kf_X7_29, Or.inl rfl⟩
theorem p_X7_29_6 : mm_Put RX7 29 6 3 (.object "TwoEndQueues$Script") true := ⟨RX7, TX7, 4, "TwoEndQueues", tyX7, rfl, by decide, kw_X7, kf_X7_29, Or.inl rfl, tyX7_ok, nmX7, rfl, by decide +kernel, fun _ => rfl⟩
theorem kf_X8_7 : Cond.fieldLink RX8 7 "TwoEndQueuesModel" "now" "[I" ∈ mm_GW := (mm_in (i := 948) (by decide +kernel) (by decide +kernel))
theorem f_X8_7_7 : mm_Fld RX8 7 7 0 := ⟨RX8, TX8, 11, "TwoEndQueuesModel", rfl, by decide, kw_X8, kf_X8_7, Or.inl rfl⟩
theorem p_X8_7_7 : mm_Put RX8 7 7 0 (.array .int) true := ⟨RX8, TX8, 11, "TwoEndQueuesModel", tyX8, rfl, by decide, kw_X8, kf_X8_7, Or.inl rfl, tyX8_ok, nmX8, rfl, by decide +kernel, fun _ => rfl⟩
theorem kf_X8_13 : Cond.fieldLink RX8 13 "TwoEndQueuesModel" "past" "[I" ∈ mm_GW := (mm_in (i := 949) (by decide +kernel) (by decide +kernel))
theorem f_X8_13_7 : mm_Fld RX8 13 7 1 := ⟨RX8, TX8, 11, "TwoEndQueuesModel", rfl, by decide, kw_X8, kf_X8_13, Or.inl rfl⟩
theorem p_X8_13_7 : mm_Put RX8 13 7 1 (.array .int) true := ⟨RX8, TX8, 11, "TwoEndQueuesModel", tyX8, rfl, by decide, kw_X8, kf_X8_13, Or.inl rfl, tyX8_ok, nmX8, rfl, by decide +kernel, fun _ => rfl⟩
theorem kf_X8_16 : Cond.fieldLink RX8 16 "TwoEndQueuesModel" "kept" "[I" ∈ mm_GW := (mm_in (i := 950) (by decide +kernel) (by decide +kernel))
theorem f_X8_16_7 : mm_Fld RX8 16 7 2 := ⟨RX8, TX8, 11, "TwoEndQueuesModel", rfl, by decide, kw_X8, kf_X8_16, Or.inl rfl⟩
theorem p_X8_16_7 : mm_Put RX8 16 7 2 (.array .int) true := ⟨RX8, TX8, 11, "TwoEndQueuesModel", tyX8, rfl, by decide, kw_X8, kf_X8_16, Or.inl rfl, tyX8_ok, nmX8, rfl, by decide +kernel, fun _ => rfl⟩
theorem kf_X8_26 : Cond.fieldLink RX8 26 "TwoEndQueuesModel" "saved" "I" ∈ mm_GW := (mm_in (i := 951) (by decide +kernel) (by decide +kernel))
theorem f_X8_26_7 : mm_Fld RX8 26 7 3 := ⟨RX8, TX8, 11, "TwoEndQueuesModel", rfl, by decide, kw_X8, kf_X8_26, Or.inl rfl⟩
theorem p_X8_26_7 : mm_Put RX8 26 7 3 .int false := ⟨RX8, TX8, 11, "TwoEndQueuesModel", tyX8, rfl, by decide, kw_X8, kf_X8_26, Or.inl rfl, tyX8_ok, nmX8, rfl, by decide +kernel, fun h => by cases h⟩
theorem kf_X8_22 : Cond.fieldLink RX8 22 "TwoEndQueuesModel" "refusal" "I" ∈ mm_GW := (mm_in (i := 952) (by decide +kernel) (by decide +kernel))
theorem f_X8_22_7 : mm_Fld RX8 22 7 4 := ⟨RX8, TX8, 11, "TwoEndQueuesModel", rfl, by decide, kw_X8, kf_X8_22, Or.inl rfl⟩
theorem p_X8_22_7 : mm_Put RX8 22 7 4 .int false := ⟨RX8, TX8, 11, "TwoEndQueuesModel", tyX8, rfl, by decide, kw_X8, kf_X8_22, Or.inl rfl, tyX8_ok, nmX8, rfl, by decide +kernel, fun h => by cases h⟩
theorem kf_X8_19 : Cond.fieldLink RX8 19 "TwoEndQueuesModel" "text" "[I" ∈ mm_GW := (mm_in (i := 953) (by decide +kernel) (by decide +kernel))
theorem f_X8_19_7 : mm_Fld RX8 19 7 5 := ⟨RX8, TX8, 11, "TwoEndQueuesModel", rfl, by decide, kw_X8, kf_X8_19, Or.inl rfl⟩
theorem p_X8_19_7 : mm_Put RX8 19 7 5 (.array .int) true := ⟨RX8, TX8, 11, "TwoEndQueuesModel", tyX8, rfl, by decide, kw_X8, kf_X8_19, Or.inl rfl, tyX8_ok, nmX8, rfl, by decide +kernel, fun _ => rfl⟩
theorem kf_X8_215 : Cond.fieldLink RX8 215 "TwoEndQueuesModel" "length" "I" ∈ mm_GW := (mm_in (i := 954) (by decide +kernel) (by decide +kernel))
theorem f_X8_215_7 : mm_Fld RX8 215 7 6 := ⟨RX8, TX8, 11, "TwoEndQueuesModel", rfl, by decide, kw_X8, kf_X8_215, Or.inl rfl⟩
theorem p_X8_215_7 : mm_Put RX8 215 7 6 .int false := ⟨RX8, TX8, 11, "TwoEndQueuesModel", tyX8, rfl, by decide, kw_X8, kf_X8_215, Or.inl rfl, tyX8_ok, nmX8, rfl, by decide +kernel, fun h => by cases h⟩
theorem kf_X8_218 : Cond.fieldLink RX8 218 "TwoEndQueuesModel" "place" "I" ∈ mm_GW := (mm_in (i := 955) (by decide +kernel) (by decide +kernel))
theorem f_X8_218_7 : mm_Fld RX8 218 7 7 := ⟨RX8, TX8, 11, "TwoEndQueuesModel", rfl, by decide, kw_X8, kf_X8_218, Or.inl rfl⟩
theorem p_X8_218_7 : mm_Put RX8 218 7 7 .int false := ⟨RX8, TX8, 11, "TwoEndQueuesModel", tyX8, rfl, by decide, kw_X8, kf_X8_218, Or.inl rfl, tyX8_ok, nmX8, rfl, by decide +kernel, fun h => by cases h⟩
theorem kf_X8_221 : Cond.fieldLink RX8 221 "TwoEndQueuesModel" "wrong" "I" ∈ mm_GW := (mm_in (i := 956) (by decide +kernel) (by decide +kernel))
theorem f_X8_221_7 : mm_Fld RX8 221 7 8 := ⟨RX8, TX8, 11, "TwoEndQueuesModel", rfl, by decide, kw_X8, kf_X8_221, Or.inl rfl⟩
theorem p_X8_221_7 : mm_Put RX8 221 7 8 .int false := ⟨RX8, TX8, 11, "TwoEndQueuesModel", tyX8, rfl, by decide, kw_X8, kf_X8_221, Or.inl rfl, tyX8_ok, nmX8, rfl, by decide +kernel, fun h => by cases h⟩
theorem kf_X8_229 : Cond.fieldLink RX8 229 "TwoEndQueuesModel" "done" "I" ∈ mm_GW := (mm_in (i := 957) (by decide +kernel) (by decide +kernel))
theorem f_X8_229_7 : mm_Fld RX8 229 7 9 := ⟨RX8, TX8, 11, "TwoEndQueuesModel", rfl, by decide, kw_X8, kf_X8_229, Or.inl rfl⟩
theorem p_X8_229_7 : mm_Put RX8 229 7 9 .int false := ⟨RX8, TX8, 11, "TwoEndQueuesModel", tyX8, rfl, by decide, kw_X8, kf_X8_229, Or.inl rfl, tyX8_ok, nmX8, rfl, by decide +kernel, fun h => by cases h⟩
theorem kf_X8_248 : Cond.fieldLink RX8 248 "TwoEndQueuesModel" "hash" "J" ∈ mm_GW := (mm_in (i := 958) (by decide +kernel) (by decide +kernel))
theorem f_X8_248_7 : mm_Fld RX8 248 7 10 := ⟨RX8, TX8, 11, "TwoEndQueuesModel", rfl, by decide, kw_X8, kf_X8_248, Or.inl rfl⟩
theorem p_X8_248_7 : mm_Put RX8 248 7 10 .long false := ⟨RX8, TX8, 11, "TwoEndQueuesModel", tyX8, rfl, by decide, kw_X8, kf_X8_248, Or.inl rfl, tyX8_ok, nmX8, rfl, by decide +kernel, fun h => by cases h⟩
theorem kl_L_85 : Cond.methodLink RL 85 yX7_init ∈ mm_GW := (mm_in (i := 21) (by decide +kernel) (by decide +kernel))
theorem n_L_85 : mm_In RL 85 yX7_init cX7_init 1 0 := ⟨kc_X7_init, ki_X7, kn_X7_init, rfl, ⟨by decide, by decide⟩, by decide +kernel, Or.inl kl_L_85⟩
theorem kl_X7_1 : Cond.methodLink RX7 1 Lib.objectInit ∈ mm_GW := (mm_in (i := 24) (by decide +kernel) (by decide +kernel))
theorem kl_X5_3 : Cond.methodLink RX5 3 Lib.objectInit ∈ mm_GW := (mm_in (i := 32) (by decide +kernel) (by decide +kernel))
theorem kl_X3_3 : Cond.methodLink RX3 3 Lib.objectInit ∈ mm_GW := (mm_in (i := 41) (by decide +kernel) (by decide +kernel))
theorem kl_X5_27 : Cond.methodLink RX5 27 yX0_init ∈ mm_GW := (mm_in (i := 78) (by decide +kernel) (by decide +kernel))
theorem n_X5_27 : mm_In RX5 27 yX0_init cX0_init 2 1 := ⟨kc_X0_init, ki_X0, kn_X0_init, rfl, ⟨by decide, by decide⟩, by decide +kernel, Or.inl kl_X5_27⟩
theorem kl_X7_21 : Cond.methodLink RX7 21 yX1_init ∈ mm_GW := (mm_in (i := 106) (by decide +kernel) (by decide +kernel))
theorem n_X7_21 : mm_In RX7 21 yX1_init cX1_init 2 0 := ⟨kc_X1_init, ki_X1, kn_X1_init, rfl, ⟨by decide, by decide⟩, by decide +kernel, Or.inl kl_X7_21⟩
theorem kl_X1_3 : Cond.methodLink RX1 3 Lib.objectInit ∈ mm_GW := (mm_in (i := 109) (by decide +kernel) (by decide +kernel))
theorem kl_X6_3 : Cond.methodLink RX6 3 Lib.objectInit ∈ mm_GW := (mm_in (i := 129) (by decide +kernel) (by decide +kernel))
theorem kl_L_112 : Cond.methodLink RL 112 yX7_build ∈ mm_GW := (mm_in (i := 170) (by decide +kernel) (by decide +kernel))
theorem v_L_112_6 : mm_V RL 112 6 yX7_build cX7_build 2 (some .int) 0 := ⟨RX7, TX7, 4, rfl, kc_X7_build, ki_X7, kn_X7_build, Or.inl ⟨kl_L_112, (mm_in (i := 172) (by decide +kernel) (by decide +kernel)), ⟨by decide, by decide⟩, by decide +kernel⟩⟩
theorem kl_X7_48 : Cond.methodLink RX7 48 yX1_keep ∈ mm_GW := (mm_in (i := 174) (by decide +kernel) (by decide +kernel))
theorem v_X7_48_1 : mm_V RX7 48 1 yX1_keep cX1_keep 3 none 1 := ⟨RX1, TX1, 3, rfl, kc_X1_keep, ki_X1, kn_X1_keep, Or.inl ⟨kl_X7_48, (mm_in (i := 176) (by decide +kernel) (by decide +kernel)), ⟨by decide, by decide⟩, by decide +kernel⟩⟩
theorem kl_X1_22 : Cond.methodLink RX1 22 yX1_slotAt ∈ mm_GW := (mm_in (i := 178) (by decide +kernel) (by decide +kernel))
theorem v_X1_22_1 : mm_V RX1 22 1 yX1_slotAt cX1_slotAt 2 (some (.object "TwoEndQueues$Queues")) 1 := ⟨RX1, TX1, 3, rfl, kc_X1_slotAt, ki_X1, kn_X1_slotAt, Or.inl ⟨kl_X1_22, (mm_inp (i := 0) (by decide +kernel) (by decide +kernel)), ⟨by decide, by decide⟩, by decide +kernel⟩⟩
theorem kl_X1_26 : Cond.methodLink RX1 26 yX5_copyFrom ∈ mm_GW := (mm_in (i := 182) (by decide +kernel) (by decide +kernel))
theorem v_X1_26_4 : mm_V RX1 26 4 yX5_copyFrom cX5_copyFrom 3 none 1 := ⟨RX5, TX5, 4, rfl, kc_X5_copyFrom, ki_X5, kn_X5_copyFrom, Or.inl ⟨kl_X1_26, (mm_in (i := 184) (by decide +kernel) (by decide +kernel)), ⟨by decide, by decide⟩, by decide +kernel⟩⟩
theorem kl_X5_54 : Cond.methodLink RX5 54 yX5_layout ∈ mm_GW := (mm_in (i := 186) (by decide +kernel) (by decide +kernel))
theorem v_X5_54_4 : mm_V RX5 54 4 yX5_layout cX5_layout 2 (some (.object "TwoEndQueues$Layout")) 1 := ⟨RX5, TX5, 4, rfl, kc_X5_layout, ki_X5, kn_X5_layout, Or.inl ⟨kl_X5_54, (mm_in (i := 188) (by decide +kernel) (by decide +kernel)), ⟨by decide, by decide⟩, by decide +kernel⟩⟩
theorem kl_X5_98 : Cond.methodLink RX5 98 yX3_copyFrom ∈ mm_GW := (mm_in (i := 190) (by decide +kernel) (by decide +kernel))
theorem v_X5_98_0 : mm_V RX5 98 0 yX3_copyFrom cX3_copyFrom 2 none 1 := ⟨RX0, TX0, 4, rfl, kc_X3_copyFrom, ki_X3, kn_X3_copyFrom, Or.inr ⟨"TwoEndQueues$Layout", yX3_copyFrom, kl_X5_98, (mm_in (i := 192) (by decide +kernel) (by decide +kernel)), (mm_in (i := 193) (by decide +kernel) (by decide +kernel)), ⟨by decide, by decide⟩, by decide +kernel, Or.inl rfl⟩⟩
theorem v_X5_98_2 : mm_V RX5 98 2 yX3_copyFrom cX3_copyFrom 2 none 1 := ⟨RX2, TX2, 3, rfl, kc_X3_copyFrom, ki_X3, kn_X3_copyFrom, Or.inr ⟨"TwoEndQueues$Layout", yX3_copyFrom, kl_X5_98, (mm_in (i := 192) (by decide +kernel) (by decide +kernel)), (mm_in (i := 194) (by decide +kernel) (by decide +kernel)), ⟨by decide, by decide⟩, by decide +kernel, Or.inl rfl⟩⟩
theorem v_X5_98_3 : mm_V RX5 98 3 yX3_copyFrom cX3_copyFrom 2 none 1 := ⟨RX4, TX4, 3, rfl, kc_X3_copyFrom, ki_X3, kn_X3_copyFrom, Or.inr ⟨"TwoEndQueues$Layout", yX3_copyFrom, kl_X5_98, (mm_in (i := 192) (by decide +kernel) (by decide +kernel)), (mm_in (i := 195) (by decide +kernel) (by decide +kernel)), ⟨by decide, by decide⟩, by decide +kernel, Or.inl rfl⟩⟩
theorem v_X5_98 {ci : Nat} (h : ci = 0 ∨ ci = 2 ∨ ci = 3) : mm_V RX5 98 ci yX3_copyFrom cX3_copyFrom 2 none 1 := by rcases h with rfl | rfl | rfl <;> first | exact v_X5_98_0 | exact v_X5_98_2 | exact v_X5_98_3
theorem kl_X3_53 : Cond.methodLink RX3 53 ⟨"java/lang/System", "arraycopy", "(Ljava/lang/Object;ILjava/lang/Object;II)V"⟩ ∈ mm_GW := (mm_in (i := 197) (by decide +kernel) (by decide +kernel))
theorem kl_X1_33 : Cond.methodLink RX1 33 yJ9_min_7cf53 ∈ mm_GW := (mm_in (i := 200) (by decide +kernel) (by decide +kernel))
theorem s_X1_33 : mm_St RX1 33 yJ9_min_7cf53 2 := ⟨ki_J9, ks_J9_min_7cf53, ⟨by decide, by decide⟩, by decide +kernel, Or.inl kl_X1_33⟩
theorem kl_X7_82 : Cond.methodLink RX7 82 yX5_countedInAll ∈ mm_GW := (mm_in (i := 203) (by decide +kernel) (by decide +kernel))
theorem v_X7_82_4 : mm_V RX7 82 4 yX5_countedInAll cX5_countedInAll 1 (some .int) 0 := ⟨RX5, TX5, 4, rfl, kc_X5_countedInAll, ki_X5, kn_X5_countedInAll, Or.inl ⟨kl_X7_82, (mm_in (i := 205) (by decide +kernel) (by decide +kernel)), ⟨by decide, by decide⟩, by decide +kernel⟩⟩
theorem kl_X5_72 : Cond.methodLink RX5 72 yX5_countedIn ∈ mm_GW := (mm_in (i := 207) (by decide +kernel) (by decide +kernel))
theorem v_X5_72_4 : mm_V RX5 72 4 yX5_countedIn cX5_countedIn 2 (some .int) 1 := ⟨RX5, TX5, 4, rfl, kc_X5_countedIn, ki_X5, kn_X5_countedIn, Or.inl ⟨kl_X5_72, (mm_in (i := 209) (by decide +kernel) (by decide +kernel)), ⟨by decide, by decide⟩, by decide +kernel⟩⟩
theorem kl_X7_85 : Cond.methodLink RX7 85 yX5_arrange ∈ mm_GW := (mm_in (i := 211) (by decide +kernel) (by decide +kernel))
theorem v_X7_85_4 : mm_V RX7 85 4 yX5_arrange cX5_arrange 2 none 0 := ⟨RX5, TX5, 4, rfl, kc_X5_arrange, ki_X5, kn_X5_arrange, Or.inl ⟨kl_X7_85, (mm_in (i := 213) (by decide +kernel) (by decide +kernel)), ⟨by decide, by decide⟩, by decide +kernel⟩⟩
theorem kl_X5_94 : Cond.methodLink RX5 94 yX3_arrange ∈ mm_GW := (mm_in (i := 215) (by decide +kernel) (by decide +kernel))
theorem v_X5_94_0 : mm_V RX5 94 0 yX3_arrange cX3_arrange 1 none 0 := ⟨RX0, TX0, 4, rfl, kc_X3_arrange, ki_X3, kn_X3_arrange, Or.inr ⟨"TwoEndQueues$Layout", yX3_arrange, kl_X5_94, (mm_in (i := 217) (by decide +kernel) (by decide +kernel)), (mm_in (i := 218) (by decide +kernel) (by decide +kernel)), ⟨by decide, by decide⟩, by decide +kernel, Or.inl rfl⟩⟩
theorem v_X5_94_2 : mm_V RX5 94 2 yX3_arrange cX3_arrange 1 none 0 := ⟨RX2, TX2, 3, rfl, kc_X3_arrange, ki_X3, kn_X3_arrange, Or.inr ⟨"TwoEndQueues$Layout", yX3_arrange, kl_X5_94, (mm_in (i := 217) (by decide +kernel) (by decide +kernel)), (mm_in (i := 219) (by decide +kernel) (by decide +kernel)), ⟨by decide, by decide⟩, by decide +kernel, Or.inl rfl⟩⟩
theorem v_X5_94_3 : mm_V RX5 94 3 yX3_arrange cX3_arrange 1 none 0 := ⟨RX4, TX4, 3, rfl, kc_X3_arrange, ki_X3, kn_X3_arrange, Or.inr ⟨"TwoEndQueues$Layout", yX3_arrange, kl_X5_94, (mm_in (i := 217) (by decide +kernel) (by decide +kernel)), (mm_in (i := 220) (by decide +kernel) (by decide +kernel)), ⟨by decide, by decide⟩, by decide +kernel, Or.inl rfl⟩⟩
theorem v_X5_94 {ci : Nat} (h : ci = 0 ∨ ci = 2 ∨ ci = 3) : mm_V RX5 94 ci yX3_arrange cX3_arrange 1 none 0 := by rcases h with rfl | rfl | rfl <;> first | exact v_X5_94_0 | exact v_X5_94_2 | exact v_X5_94_3
theorem kl_X3_43 : Cond.methodLink RX3 43 yX3_lineUp ∈ mm_GW := (mm_in (i := 222) (by decide +kernel) (by decide +kernel))
theorem v_X3_43_0 : mm_V RX3 43 0 yX3_lineUp cX3_lineUp 4 none 0 := ⟨RX0, TX0, 4, rfl, kc_X3_lineUp, ki_X3, kn_X3_lineUp, Or.inr ⟨"TwoEndQueues$Layout", yX3_lineUp, kl_X3_43, (mm_in (i := 1370) (by decide +kernel) (by decide +kernel)), List.mem_filter.mpr ⟨List.mem_append_left _ (by decide +kernel), by decide +kernel⟩, ⟨by decide, by decide⟩, by decide +kernel, Or.inl rfl⟩⟩
theorem v_X3_43_2 : mm_V RX3 43 2 yX3_lineUp cX3_lineUp 4 none 0 := ⟨RX2, TX2, 3, rfl, kc_X3_lineUp, ki_X3, kn_X3_lineUp, Or.inr ⟨"TwoEndQueues$Layout", yX3_lineUp, kl_X3_43, (mm_in (i := 1370) (by decide +kernel) (by decide +kernel)), List.mem_filter.mpr ⟨List.mem_append_left _ (by decide +kernel), by decide +kernel⟩, ⟨by decide, by decide⟩, by decide +kernel, Or.inl rfl⟩⟩
theorem v_X3_43_3 : mm_V RX3 43 3 yX3_lineUp cX3_lineUp 4 none 0 := ⟨RX4, TX4, 3, rfl, kc_X3_lineUp, ki_X3, kn_X3_lineUp, Or.inr ⟨"TwoEndQueues$Layout", yX3_lineUp, kl_X3_43, (mm_in (i := 1370) (by decide +kernel) (by decide +kernel)), List.mem_filter.mpr ⟨List.mem_append_left _ (by decide +kernel), by decide +kernel⟩, ⟨by decide, by decide⟩, by decide +kernel, Or.inl rfl⟩⟩
theorem kl_X3_37 : Cond.methodLink RX3 37 yX3_find ∈ mm_GW := (mm_in (i := 226) (by decide +kernel) (by decide +kernel))
theorem v_X3_37_0 : mm_V RX3 37 0 yX3_find cX3_find 3 (some .int) 1 := ⟨RX0, TX0, 4, rfl, kc_X3_find, ki_X3, kn_X3_find, Or.inr ⟨"TwoEndQueues$Layout", yX3_find, kl_X3_37, (mm_in (i := 228) (by decide +kernel) (by decide +kernel)), (mm_in (i := 229) (by decide +kernel) (by decide +kernel)), ⟨by decide, by decide⟩, by decide +kernel, Or.inl rfl⟩⟩
theorem v_X3_37_2 : mm_V RX3 37 2 yX3_find cX3_find 3 (some .int) 1 := ⟨RX2, TX2, 3, rfl, kc_X3_find, ki_X3, kn_X3_find, Or.inr ⟨"TwoEndQueues$Layout", yX3_find, kl_X3_37, (mm_in (i := 228) (by decide +kernel) (by decide +kernel)), (mm_in (i := 230) (by decide +kernel) (by decide +kernel)), ⟨by decide, by decide⟩, by decide +kernel, Or.inl rfl⟩⟩
theorem v_X3_37_3 : mm_V RX3 37 3 yX3_find cX3_find 3 (some .int) 1 := ⟨RX4, TX4, 3, rfl, kc_X3_find, ki_X3, kn_X3_find, Or.inr ⟨"TwoEndQueues$Layout", yX3_find, kl_X3_37, (mm_in (i := 228) (by decide +kernel) (by decide +kernel)), (mm_in (i := 231) (by decide +kernel) (by decide +kernel)), ⟨by decide, by decide⟩, by decide +kernel, Or.inl rfl⟩⟩
theorem v_X3_37 {ci : Nat} (h : ci = 0 ∨ ci = 2 ∨ ci = 3) : mm_V RX3 37 ci yX3_find cX3_find 3 (some .int) 1 := by rcases h with rfl | rfl | rfl <;> first | exact v_X3_37_0 | exact v_X3_37_2 | exact v_X3_37_3
theorem kl_X3_27 : Cond.methodLink RX3 27 yX3_handleAt ∈ mm_GW := (mm_in (i := 233) (by decide +kernel) (by decide +kernel))
theorem v_X3_27_0 : mm_V RX3 27 0 yX3_handleAt cX3_handleAt 2 (some .int) 1 := ⟨RX0, TX0, 4, rfl, kc_X3_handleAt, ki_X3, kn_X3_handleAt, Or.inr ⟨"TwoEndQueues$Layout", yX3_handleAt, kl_X3_27, (mm_in (i := 235) (by decide +kernel) (by decide +kernel)), (mm_in (i := 236) (by decide +kernel) (by decide +kernel)), ⟨by decide, by decide⟩, by decide +kernel, Or.inl rfl⟩⟩
theorem v_X3_27_2 : mm_V RX3 27 2 yX3_handleAt cX3_handleAt 2 (some .int) 1 := ⟨RX2, TX2, 3, rfl, kc_X3_handleAt, ki_X3, kn_X3_handleAt, Or.inr ⟨"TwoEndQueues$Layout", yX3_handleAt, kl_X3_27, (mm_in (i := 235) (by decide +kernel) (by decide +kernel)), (mm_in (i := 237) (by decide +kernel) (by decide +kernel)), ⟨by decide, by decide⟩, by decide +kernel, Or.inl rfl⟩⟩
theorem v_X3_27_3 : mm_V RX3 27 3 yX3_handleAt cX3_handleAt 2 (some .int) 1 := ⟨RX4, TX4, 3, rfl, kc_X3_handleAt, ki_X3, kn_X3_handleAt, Or.inr ⟨"TwoEndQueues$Layout", yX3_handleAt, kl_X3_27, (mm_in (i := 235) (by decide +kernel) (by decide +kernel)), (mm_in (i := 238) (by decide +kernel) (by decide +kernel)), ⟨by decide, by decide⟩, by decide +kernel, Or.inl rfl⟩⟩
theorem v_X3_27 {ci : Nat} (h : ci = 0 ∨ ci = 2 ∨ ci = 3) : mm_V RX3 27 ci yX3_handleAt cX3_handleAt 2 (some .int) 1 := by rcases h with rfl | rfl | rfl <;> first | exact v_X3_27_0 | exact v_X3_27_2 | exact v_X3_27_3
theorem kl_X3_19 : Cond.methodLink RX3 19 yX3_isPosition ∈ mm_GW := (mm_in (i := 240) (by decide +kernel) (by decide +kernel))
theorem v_X3_19_0 : mm_V RX3 19 0 yX3_isPosition cX3_isPosition 2 (some .boolean) 1 := ⟨RX0, TX0, 4, rfl, kc_X3_isPosition, ki_X3, kn_X3_isPosition, Or.inr ⟨"TwoEndQueues$Layout", yX3_isPosition, kl_X3_19, (mm_in (i := 242) (by decide +kernel) (by decide +kernel)), (mm_in (i := 243) (by decide +kernel) (by decide +kernel)), ⟨by decide, by decide⟩, by decide +kernel, Or.inl rfl⟩⟩
theorem v_X3_19_2 : mm_V RX3 19 2 yX3_isPosition cX3_isPosition 2 (some .boolean) 1 := ⟨RX2, TX2, 3, rfl, kc_X3_isPosition, ki_X3, kn_X3_isPosition, Or.inr ⟨"TwoEndQueues$Layout", yX3_isPosition, kl_X3_19, (mm_in (i := 242) (by decide +kernel) (by decide +kernel)), (mm_in (i := 244) (by decide +kernel) (by decide +kernel)), ⟨by decide, by decide⟩, by decide +kernel, Or.inl rfl⟩⟩
theorem v_X3_19_3 : mm_V RX3 19 3 yX3_isPosition cX3_isPosition 2 (some .boolean) 1 := ⟨RX4, TX4, 3, rfl, kc_X3_isPosition, ki_X3, kn_X3_isPosition, Or.inr ⟨"TwoEndQueues$Layout", yX3_isPosition, kl_X3_19, (mm_in (i := 242) (by decide +kernel) (by decide +kernel)), (mm_in (i := 245) (by decide +kernel) (by decide +kernel)), ⟨by decide, by decide⟩, by decide +kernel, Or.inl rfl⟩⟩
theorem v_X3_19 {ci : Nat} (h : ci = 0 ∨ ci = 2 ∨ ci = 3) : mm_V RX3 19 ci yX3_isPosition cX3_isPosition 2 (some .boolean) 1 := by rcases h with rfl | rfl | rfl <;> first | exact v_X3_19_0 | exact v_X3_19_2 | exact v_X3_19_3
theorem kl_X3_49 : Cond.methodLink RX3 49 yX3_exchange ∈ mm_GW := (mm_in (i := 247) (by decide +kernel) (by decide +kernel))
theorem v_X3_49_0 : mm_V RX3 49 0 yX3_exchange cX3_exchange 4 none 2 := ⟨RX0, TX0, 4, rfl, kc_X3_exchange, ki_X3, kn_X3_exchange, Or.inr ⟨"TwoEndQueues$Layout", yX3_exchange, kl_X3_49, (mm_in (i := 249) (by decide +kernel) (by decide +kernel)), (mm_in (i := 250) (by decide +kernel) (by decide +kernel)), ⟨by decide, by decide⟩, by decide +kernel, Or.inl rfl⟩⟩
theorem v_X3_49_2 : mm_V RX3 49 2 yX3_exchange cX3_exchange 4 none 2 := ⟨RX2, TX2, 3, rfl, kc_X3_exchange, ki_X3, kn_X3_exchange, Or.inr ⟨"TwoEndQueues$Layout", yX3_exchange, kl_X3_49, (mm_in (i := 249) (by decide +kernel) (by decide +kernel)), (mm_in (i := 251) (by decide +kernel) (by decide +kernel)), ⟨by decide, by decide⟩, by decide +kernel, Or.inl rfl⟩⟩
theorem v_X3_49_3 : mm_V RX3 49 3 yX3_exchange cX3_exchange 4 none 2 := ⟨RX4, TX4, 3, rfl, kc_X3_exchange, ki_X3, kn_X3_exchange, Or.inr ⟨"TwoEndQueues$Layout", yX3_exchange, kl_X3_49, (mm_in (i := 249) (by decide +kernel) (by decide +kernel)), (mm_in (i := 252) (by decide +kernel) (by decide +kernel)), ⟨by decide, by decide⟩, by decide +kernel, Or.inl rfl⟩⟩
theorem v_X3_49 {ci : Nat} (h : ci = 0 ∨ ci = 2 ∨ ci = 3) : mm_V RX3 49 ci yX3_exchange cX3_exchange 4 none 2 := by rcases h with rfl | rfl | rfl <;> first | exact v_X3_49_0 | exact v_X3_49_2 | exact v_X3_49_3
theorem kl_X3_46 : Cond.methodLink RX3 46 ⟨"TwoEndQueues$Layout", "settleAll", "()V"⟩ ∈ mm_GW := (mm_in (i := 254) (by decide +kernel) (by decide +kernel))
theorem v_X3_46_0 : mm_V RX3 46 0 yX0_settleAll cX0_settleAll 2 none 0 := ⟨RX0, TX0, 4, rfl, kc_X0_settleAll, ki_X0, kn_X0_settleAll, Or.inr ⟨"TwoEndQueues$Layout", ⟨"TwoEndQueues$Layout", "settleAll", "()V"⟩, kl_X3_46, (mm_in (i := 256) (by decide +kernel) (by decide +kernel)), (mm_in (i := 257) (by decide +kernel) (by decide +kernel)), ⟨by decide, by decide⟩, by decide +kernel, Or.inr (mm_inl (i := 255) (by decide +kernel))⟩⟩
theorem v_X3_46_2 : mm_V RX3 46 2 yX2_settleAll cX2_settleAll 2 none 0 := ⟨RX2, TX2, 3, rfl, kc_X2_settleAll, ki_X2, kn_X2_settleAll, Or.inr ⟨"TwoEndQueues$Layout", ⟨"TwoEndQueues$Layout", "settleAll", "()V"⟩, kl_X3_46, (mm_in (i := 256) (by decide +kernel) (by decide +kernel)), (mm_in (i := 274) (by decide +kernel) (by decide +kernel)), ⟨by decide, by decide⟩, by decide +kernel, Or.inr (mm_inl (i := 255) (by decide +kernel))⟩⟩
theorem v_X3_46_3 : mm_V RX3 46 3 yX4_settleAll cX4_settleAll 2 none 0 := ⟨RX4, TX4, 3, rfl, kc_X4_settleAll, ki_X4, kn_X4_settleAll, Or.inr ⟨"TwoEndQueues$Layout", ⟨"TwoEndQueues$Layout", "settleAll", "()V"⟩, kl_X3_46, (mm_in (i := 256) (by decide +kernel) (by decide +kernel)), (mm_in (i := 305) (by decide +kernel) (by decide +kernel)), ⟨by decide, by decide⟩, by decide +kernel, Or.inr (mm_inl (i := 255) (by decide +kernel))⟩⟩
theorem kl_X0_41 : Cond.methodLink RX0 41 yX0_down ∈ mm_GW := (mm_in (i := 260) (by decide +kernel) (by decide +kernel))
theorem v_X0_41_0 : mm_V RX0 41 0 yX0_down cX0_down 7 none 1 := ⟨RX0, TX0, 4, rfl, kc_X0_down, ki_X0, kn_X0_down, Or.inl ⟨kl_X0_41, (mm_inp (i := 1) (by decide +kernel) (by decide +kernel)), ⟨by decide, by decide⟩, by decide +kernel⟩⟩
theorem kl_X0_29 : Cond.methodLink RX0 29 ⟨"TwoEndQueues$HeapLayout", "ahead", "(IIZ)Z"⟩ ∈ mm_GW := (mm_in (i := 264) (by decide +kernel) (by decide +kernel))
theorem v_X0_29_0 : mm_V RX0 29 0 yX3_ahead cX3_ahead 4 (some .boolean) 3 := ⟨RX0, TX0, 4, rfl, kc_X3_ahead, ki_X3, kn_X3_ahead, Or.inr ⟨"TwoEndQueues$Layout", ⟨"TwoEndQueues$HeapLayout", "ahead", "(IIZ)Z"⟩, kl_X0_29, (mm_in (i := 265) (by decide +kernel) (by decide +kernel)), (mm_in (i := 267) (by decide +kernel) (by decide +kernel)), ⟨by decide, by decide⟩, by decide +kernel, Or.inl rfl⟩⟩
theorem kl_X0_33 : Cond.methodLink RX0 33 ⟨"TwoEndQueues$HeapLayout", "exchange", "(II)V"⟩ ∈ mm_GW := (mm_in (i := 270) (by decide +kernel) (by decide +kernel))
theorem v_X0_33_0 : mm_V RX0 33 0 yX3_exchange cX3_exchange 4 none 2 := ⟨RX0, TX0, 4, rfl, kc_X3_exchange, ki_X3, kn_X3_exchange, Or.inr ⟨"TwoEndQueues$Layout", ⟨"TwoEndQueues$HeapLayout", "exchange", "(II)V"⟩, kl_X0_33, (mm_in (i := 271) (by decide +kernel) (by decide +kernel)), (mm_in (i := 273) (by decide +kernel) (by decide +kernel)), ⟨by decide, by decide⟩, by decide +kernel, Or.inl rfl⟩⟩
theorem kl_X2_46 : Cond.methodLink RX2 46 yX2_sinkLow ∈ mm_GW := (mm_in (i := 277) (by decide +kernel) (by decide +kernel))
theorem v_X2_46_2 : mm_V RX2 46 2 yX2_sinkLow cX2_sinkLow 7 none 1 := ⟨RX2, TX2, 3, rfl, kc_X2_sinkLow, ki_X2, kn_X2_sinkLow, Or.inl ⟨kl_X2_46, (mm_inp (i := 2) (by decide +kernel) (by decide +kernel)), ⟨by decide, by decide⟩, by decide +kernel⟩⟩
theorem kl_X2_36 : Cond.methodLink RX2 36 yX2_order ∈ mm_GW := (mm_in (i := 281) (by decide +kernel) (by decide +kernel))
theorem v_X2_36_2 : mm_V RX2 36 2 yX2_order cX2_order 2 none 1 := ⟨RX2, TX2, 3, rfl, kc_X2_order, ki_X2, kn_X2_order, Or.inl ⟨kl_X2_36, (mm_inp (i := 3) (by decide +kernel) (by decide +kernel)), ⟨by decide, by decide⟩, by decide +kernel⟩⟩
theorem kl_X2_9 : Cond.methodLink RX2 9 yX2_high ∈ mm_GW := (mm_in (i := 285) (by decide +kernel) (by decide +kernel))
theorem s_X2_9 : mm_St RX2 9 yX2_high 1 := ⟨ki_X2, ks_X2_high, ⟨by decide, by decide⟩, by decide +kernel, Or.inl kl_X2_9⟩
theorem kl_X2_19 : Cond.methodLink RX2 19 yX2_low ∈ mm_GW := (mm_in (i := 288) (by decide +kernel) (by decide +kernel))
theorem s_X2_19 : mm_St RX2 19 yX2_low 1 := ⟨ki_X2, ks_X2_low, ⟨by decide, by decide⟩, by decide +kernel, Or.inl kl_X2_19⟩
theorem kl_X2_25 : Cond.methodLink RX2 25 ⟨"TwoEndQueues$IntervalLayout", "ahead", "(IIZ)Z"⟩ ∈ mm_GW := (mm_in (i := 291) (by decide +kernel) (by decide +kernel))
theorem v_X2_25_2 : mm_V RX2 25 2 yX3_ahead cX3_ahead 4 (some .boolean) 3 := ⟨RX2, TX2, 3, rfl, kc_X3_ahead, ki_X3, kn_X3_ahead, Or.inr ⟨"TwoEndQueues$Layout", ⟨"TwoEndQueues$IntervalLayout", "ahead", "(IIZ)Z"⟩, kl_X2_25, (mm_in (i := 292) (by decide +kernel) (by decide +kernel)), (mm_in (i := 293) (by decide +kernel) (by decide +kernel)), ⟨by decide, by decide⟩, by decide +kernel, Or.inl rfl⟩⟩
theorem kl_X2_29 : Cond.methodLink RX2 29 ⟨"TwoEndQueues$IntervalLayout", "exchange", "(II)V"⟩ ∈ mm_GW := (mm_in (i := 294) (by decide +kernel) (by decide +kernel))
theorem v_X2_29_2 : mm_V RX2 29 2 yX3_exchange cX3_exchange 4 none 2 := ⟨RX2, TX2, 3, rfl, kc_X3_exchange, ki_X3, kn_X3_exchange, Or.inr ⟨"TwoEndQueues$Layout", ⟨"TwoEndQueues$IntervalLayout", "exchange", "(II)V"⟩, kl_X2_29, (mm_in (i := 295) (by decide +kernel) (by decide +kernel)), (mm_in (i := 296) (by decide +kernel) (by decide +kernel)), ⟨by decide, by decide⟩, by decide +kernel, Or.inl rfl⟩⟩
theorem kl_X2_49 : Cond.methodLink RX2 49 yX2_sinkHigh ∈ mm_GW := (mm_in (i := 297) (by decide +kernel) (by decide +kernel))
theorem v_X2_49_2 : mm_V RX2 49 2 yX2_sinkHigh cX2_sinkHigh 7 none 1 := ⟨RX2, TX2, 3, rfl, kc_X2_sinkHigh, ki_X2, kn_X2_sinkHigh, Or.inl ⟨kl_X2_49, (mm_inp (i := 4) (by decide +kernel) (by decide +kernel)), ⟨by decide, by decide⟩, by decide +kernel⟩⟩
theorem kl_X2_22 : Cond.methodLink RX2 22 yX2_top ∈ mm_GW := (mm_in (i := 301) (by decide +kernel) (by decide +kernel))
theorem v_X2_22_2 : mm_V RX2 22 2 yX2_top cX2_top 2 (some .int) 1 := ⟨RX2, TX2, 3, rfl, kc_X2_top, ki_X2, kn_X2_top, Or.inl ⟨kl_X2_22, (mm_inp (i := 5) (by decide +kernel) (by decide +kernel)), ⟨by decide, by decide⟩, by decide +kernel⟩⟩
theorem kl_X4_52 : Cond.methodLink RX4 52 yX4_sink ∈ mm_GW := (mm_in (i := 308) (by decide +kernel) (by decide +kernel))
theorem v_X4_52_3 : mm_V RX4 52 3 yX4_sink cX4_sink 7 none 1 := ⟨RX4, TX4, 3, rfl, kc_X4_sink, ki_X4, kn_X4_sink, Or.inl ⟨kl_X4_52, (mm_inp (i := 6) (by decide +kernel) (by decide +kernel)), ⟨by decide, by decide⟩, by decide +kernel⟩⟩
theorem kl_X4_33 : Cond.methodLink RX4 33 yX4_isLow ∈ mm_GW := (mm_in (i := 312) (by decide +kernel) (by decide +kernel))
theorem s_X4_33 : mm_St RX4 33 yX4_isLow 1 := ⟨ki_X4, ks_X4_isLow, ⟨by decide, by decide⟩, by decide +kernel, Or.inl kl_X4_33⟩
theorem kl_X4_9 : Cond.methodLink RX4 9 yX4_levelOf ∈ mm_GW := (mm_in (i := 315) (by decide +kernel) (by decide +kernel))
theorem s_X4_9 : mm_St RX4 9 yX4_levelOf 1 := ⟨ki_X4, ks_X4_levelOf, ⟨by decide, by decide⟩, by decide +kernel, Or.inl kl_X4_9⟩
theorem kl_X4_37 : Cond.methodLink RX4 37 yX4_foremostBelow ∈ mm_GW := (mm_in (i := 318) (by decide +kernel) (by decide +kernel))
theorem v_X4_37_3 : mm_V RX4 37 3 yX4_foremostBelow cX4_foremostBelow 6 (some .int) 2 := ⟨RX4, TX4, 3, rfl, kc_X4_foremostBelow, ki_X4, kn_X4_foremostBelow, Or.inl ⟨kl_X4_37, (mm_inp (i := 7) (by decide +kernel) (by decide +kernel)), ⟨by decide, by decide⟩, by decide +kernel⟩⟩
theorem kl_X4_25 : Cond.methodLink RX4 25 ⟨"TwoEndQueues$LevelLayout", "ahead", "(IIZ)Z"⟩ ∈ mm_GW := (mm_in (i := 322) (by decide +kernel) (by decide +kernel))
theorem v_X4_25_3 : mm_V RX4 25 3 yX3_ahead cX3_ahead 4 (some .boolean) 3 := ⟨RX4, TX4, 3, rfl, kc_X3_ahead, ki_X3, kn_X3_ahead, Or.inr ⟨"TwoEndQueues$Layout", ⟨"TwoEndQueues$LevelLayout", "ahead", "(IIZ)Z"⟩, kl_X4_25, (mm_in (i := 323) (by decide +kernel) (by decide +kernel)), (mm_in (i := 324) (by decide +kernel) (by decide +kernel)), ⟨by decide, by decide⟩, by decide +kernel, Or.inl rfl⟩⟩
theorem kl_X4_29 : Cond.methodLink RX4 29 ⟨"TwoEndQueues$LevelLayout", "exchange", "(II)V"⟩ ∈ mm_GW := (mm_in (i := 325) (by decide +kernel) (by decide +kernel))
theorem v_X4_29_3 : mm_V RX4 29 3 yX3_exchange cX3_exchange 4 none 2 := ⟨RX4, TX4, 3, rfl, kc_X3_exchange, ki_X3, kn_X3_exchange, Or.inr ⟨"TwoEndQueues$Layout", ⟨"TwoEndQueues$LevelLayout", "exchange", "(II)V"⟩, kl_X4_29, (mm_in (i := 326) (by decide +kernel) (by decide +kernel)), (mm_in (i := 327) (by decide +kernel) (by decide +kernel)), ⟨by decide, by decide⟩, by decide +kernel, Or.inl rfl⟩⟩
theorem kl_X4_41 : Cond.methodLink RX4 41 ⟨"TwoEndQueues$LevelLayout", "parentOf", "(I)I"⟩ ∈ mm_GW := (mm_in (i := 328) (by decide +kernel) (by decide +kernel))
theorem kl_L_116 : Cond.methodLink RL 116 yX7_clear ∈ mm_GW := (mm_in (i := 332) (by decide +kernel) (by decide +kernel))
theorem v_L_116_6 : mm_V RL 116 6 yX7_clear cX7_clear 2 (some .int) 0 := ⟨RX7, TX7, 4, rfl, kc_X7_clear, ki_X7, kn_X7_clear, Or.inl ⟨kl_L_116, (mm_in (i := 334) (by decide +kernel) (by decide +kernel)), ⟨by decide, by decide⟩, by decide +kernel⟩⟩
theorem kl_X7_37 : Cond.methodLink RX7 37 yX5_itemCount ∈ mm_GW := (mm_in (i := 336) (by decide +kernel) (by decide +kernel))
theorem v_X7_37_4 : mm_V RX7 37 4 yX5_itemCount cX5_itemCount 1 (some .int) 0 := ⟨RX5, TX5, 4, rfl, kc_X5_itemCount, ki_X5, kn_X5_itemCount, Or.inl ⟨kl_X7_37, (mm_in (i := 338) (by decide +kernel) (by decide +kernel)), ⟨by decide, by decide⟩, by decide +kernel⟩⟩
theorem kl_X7_88 : Cond.methodLink RX7 88 yX5_empty ∈ mm_GW := (mm_in (i := 340) (by decide +kernel) (by decide +kernel))
theorem v_X7_88_4 : mm_V RX7 88 4 yX5_empty cX5_empty 2 none 0 := ⟨RX5, TX5, 4, rfl, kc_X5_empty, ki_X5, kn_X5_empty, Or.inl ⟨kl_X7_88, (mm_in (i := 342) (by decide +kernel) (by decide +kernel)), ⟨by decide, by decide⟩, by decide +kernel⟩⟩
theorem kl_L_120 : Cond.methodLink RL 120 yX7_size ∈ mm_GW := (mm_in (i := 344) (by decide +kernel) (by decide +kernel))
theorem v_L_120_6 : mm_V RL 120 6 yX7_size cX7_size 1 (some .int) 0 := ⟨RX7, TX7, 4, rfl, kc_X7_size, ki_X7, kn_X7_size, Or.inl ⟨kl_L_120, (mm_in (i := 346) (by decide +kernel) (by decide +kernel)), ⟨by decide, by decide⟩, by decide +kernel⟩⟩
theorem kl_L_124 : Cond.methodLink RL 124 yX7_handles ∈ mm_GW := (mm_in (i := 348) (by decide +kernel) (by decide +kernel))
theorem v_L_124_6 : mm_V RL 124 6 yX7_handles cX7_handles 1 (some .int) 0 := ⟨RX7, TX7, 4, rfl, kc_X7_handles, ki_X7, kn_X7_handles, Or.inl ⟨kl_L_124, (mm_in (i := 350) (by decide +kernel) (by decide +kernel)), ⟨by decide, by decide⟩, by decide +kernel⟩⟩
theorem kl_X7_91 : Cond.methodLink RX7 91 yX5_handleSet ∈ mm_GW := (mm_in (i := 352) (by decide +kernel) (by decide +kernel))
theorem v_X7_91_4 : mm_V RX7 91 4 yX5_handleSet cX5_handleSet 3 (some .int) 0 := ⟨RX5, TX5, 4, rfl, kc_X5_handleSet, ki_X5, kn_X5_handleSet, Or.inl ⟨kl_X7_91, (mm_in (i := 354) (by decide +kernel) (by decide +kernel)), ⟨by decide, by decide⟩, by decide +kernel⟩⟩
theorem kl_X5_48 : Cond.methodLink RX5 48 ⟨"TwoEndQueues$IntervalLayout", "handleAt", "(I)I"⟩ ∈ mm_GW := (mm_in (i := 356) (by decide +kernel) (by decide +kernel))
theorem v_X5_48_2 : mm_V RX5 48 2 yX3_handleAt cX3_handleAt 2 (some .int) 1 := ⟨RX2, TX2, 3, rfl, kc_X3_handleAt, ki_X3, kn_X3_handleAt, Or.inr ⟨"TwoEndQueues$Layout", ⟨"TwoEndQueues$IntervalLayout", "handleAt", "(I)I"⟩, kl_X5_48, (mm_in (i := 357) (by decide +kernel) (by decide +kernel)), (mm_in (i := 359) (by decide +kernel) (by decide +kernel)), ⟨by decide, by decide⟩, by decide +kernel, Or.inl rfl⟩⟩
theorem kl_L_140 : Cond.methodLink RL 140 yX7_ranked ∈ mm_GW := (mm_in (i := 360) (by decide +kernel) (by decide +kernel))
theorem v_L_140_6 : mm_V RL 140 6 yX7_ranked cX7_ranked 3 (some .int) 1 := ⟨RX7, TX7, 4, rfl, kc_X7_ranked, ki_X7, kn_X7_ranked, Or.inl ⟨kl_L_140, (mm_in (i := 362) (by decide +kernel) (by decide +kernel)), ⟨by decide, by decide⟩, by decide +kernel⟩⟩
theorem kl_X7_114 : Cond.methodLink RX7 114 yX5_has ∈ mm_GW := (mm_in (i := 364) (by decide +kernel) (by decide +kernel))
theorem v_X7_114_4 : mm_V RX7 114 4 yX5_has cX5_has 2 (some .boolean) 1 := ⟨RX5, TX5, 4, rfl, kc_X5_has, ki_X5, kn_X5_has, Or.inl ⟨kl_X7_114, (mm_in (i := 366) (by decide +kernel) (by decide +kernel)), ⟨by decide, by decide⟩, by decide +kernel⟩⟩
theorem kl_X5_41 : Cond.methodLink RX5 41 ⟨"TwoEndQueues$IntervalLayout", "find", "(I)I"⟩ ∈ mm_GW := (mm_in (i := 368) (by decide +kernel) (by decide +kernel))
theorem v_X5_41_2 : mm_V RX5 41 2 yX3_find cX3_find 3 (some .int) 1 := ⟨RX2, TX2, 3, rfl, kc_X3_find, ki_X3, kn_X3_find, Or.inr ⟨"TwoEndQueues$Layout", ⟨"TwoEndQueues$IntervalLayout", "find", "(I)I"⟩, kl_X5_41, (mm_in (i := 369) (by decide +kernel) (by decide +kernel)), (mm_in (i := 371) (by decide +kernel) (by decide +kernel)), ⟨by decide, by decide⟩, by decide +kernel, Or.inl rfl⟩⟩
theorem kl_X7_118 : Cond.methodLink RX7 118 yX5_countLess ∈ mm_GW := (mm_in (i := 372) (by decide +kernel) (by decide +kernel))
theorem v_X7_118_4 : mm_V RX7 118 4 yX5_countLess cX5_countLess 5 (some .int) 1 := ⟨RX5, TX5, 4, rfl, kc_X5_countLess, ki_X5, kn_X5_countLess, Or.inl ⟨kl_X7_118, (mm_in (i := 374) (by decide +kernel) (by decide +kernel)), ⟨by decide, by decide⟩, by decide +kernel⟩⟩
theorem kl_X5_51 : Cond.methodLink RX5 51 ⟨"TwoEndQueues$IntervalLayout", "itemAt", "(I)I"⟩ ∈ mm_GW := (mm_in (i := 376) (by decide +kernel) (by decide +kernel))
theorem v_X5_51_2 : mm_V RX5 51 2 yX3_itemAt cX3_itemAt 2 (some .int) 1 := ⟨RX2, TX2, 3, rfl, kc_X3_itemAt, ki_X3, kn_X3_itemAt, Or.inr ⟨"TwoEndQueues$Layout", ⟨"TwoEndQueues$IntervalLayout", "itemAt", "(I)I"⟩, kl_X5_51, (mm_in (i := 377) (by decide +kernel) (by decide +kernel)), (mm_in (i := 379) (by decide +kernel) (by decide +kernel)), ⟨by decide, by decide⟩, by decide +kernel, Or.inl rfl⟩⟩
theorem kl_L_147 : Cond.methodLink RL 147 yX7_between ∈ mm_GW := (mm_in (i := 382) (by decide +kernel) (by decide +kernel))
theorem v_L_147_6 : mm_V RL 147 6 yX7_between cX7_between 5 (some .int) 2 := ⟨RX7, TX7, 4, rfl, kc_X7_between, ki_X7, kn_X7_between, Or.inl ⟨kl_L_147, (mm_in (i := 384) (by decide +kernel) (by decide +kernel)), ⟨by decide, by decide⟩, by decide +kernel⟩⟩
theorem kl_X7_72 : Cond.methodLink RX7 72 yX5_keyOf ∈ mm_GW := (mm_in (i := 386) (by decide +kernel) (by decide +kernel))
theorem v_X7_72_4 : mm_V RX7 72 4 yX5_keyOf cX5_keyOf 2 (some .int) 1 := ⟨RX5, TX5, 4, rfl, kc_X5_keyOf, ki_X5, kn_X5_keyOf, Or.inl ⟨kl_X7_72, (mm_in (i := 388) (by decide +kernel) (by decide +kernel)), ⟨by decide, by decide⟩, by decide +kernel⟩⟩
theorem kl_X5_45 : Cond.methodLink RX5 45 ⟨"TwoEndQueues$IntervalLayout", "keyAt", "(I)I"⟩ ∈ mm_GW := (mm_in (i := 390) (by decide +kernel) (by decide +kernel))
theorem v_X5_45_2 : mm_V RX5 45 2 yX3_keyAt cX3_keyAt 2 (some .int) 1 := ⟨RX2, TX2, 3, rfl, kc_X3_keyAt, ki_X3, kn_X3_keyAt, Or.inr ⟨"TwoEndQueues$Layout", ⟨"TwoEndQueues$IntervalLayout", "keyAt", "(I)I"⟩, kl_X5_45, (mm_in (i := 391) (by decide +kernel) (by decide +kernel)), (mm_in (i := 393) (by decide +kernel) (by decide +kernel)), ⟨by decide, by decide⟩, by decide +kernel, Or.inl rfl⟩⟩
theorem kl_X3_23 : Cond.methodLink RX3 23 yX3_itemAt ∈ mm_GW := (mm_in (i := 396) (by decide +kernel) (by decide +kernel))
theorem v_X3_23_0 : mm_V RX3 23 0 yX3_itemAt cX3_itemAt 2 (some .int) 1 := ⟨RX0, TX0, 4, rfl, kc_X3_itemAt, ki_X3, kn_X3_itemAt, Or.inr ⟨"TwoEndQueues$Layout", yX3_itemAt, kl_X3_23, (mm_in (i := 1371) (by decide +kernel) (by decide +kernel)), (mm_in (i := 1372) (by decide +kernel) (by decide +kernel)), ⟨by decide, by decide⟩, by decide +kernel, Or.inl rfl⟩⟩
theorem v_X3_23_2 : mm_V RX3 23 2 yX3_itemAt cX3_itemAt 2 (some .int) 1 := ⟨RX2, TX2, 3, rfl, kc_X3_itemAt, ki_X3, kn_X3_itemAt, Or.inr ⟨"TwoEndQueues$Layout", yX3_itemAt, kl_X3_23, (mm_in (i := 1371) (by decide +kernel) (by decide +kernel)), (mm_in (i := 1373) (by decide +kernel) (by decide +kernel)), ⟨by decide, by decide⟩, by decide +kernel, Or.inl rfl⟩⟩
theorem v_X3_23_3 : mm_V RX3 23 3 yX3_itemAt cX3_itemAt 2 (some .int) 1 := ⟨RX4, TX4, 3, rfl, kc_X3_itemAt, ki_X3, kn_X3_itemAt, Or.inr ⟨"TwoEndQueues$Layout", yX3_itemAt, kl_X3_23, (mm_in (i := 1371) (by decide +kernel) (by decide +kernel)), (mm_in (i := 1374) (by decide +kernel) (by decide +kernel)), ⟨by decide, by decide⟩, by decide +kernel, Or.inl rfl⟩⟩
theorem v_X3_23 {ci : Nat} (h : ci = 0 ∨ ci = 2 ∨ ci = 3) : mm_V RX3 23 ci yX3_itemAt cX3_itemAt 2 (some .int) 1 := by rcases h with rfl | rfl | rfl <;> first | exact v_X3_23_0 | exact v_X3_23_2 | exact v_X3_23_3
theorem kl_L_173 : Cond.methodLink RL 173 yX7_forget ∈ mm_GW := (mm_in (i := 397) (by decide +kernel) (by decide +kernel))
theorem v_L_173_6 : mm_V RL 173 6 yX7_forget cX7_forget 2 (some .int) 0 := ⟨RX7, TX7, 4, rfl, kc_X7_forget, ki_X7, kn_X7_forget, Or.inl ⟨kl_L_173, (mm_in (i := 399) (by decide +kernel) (by decide +kernel)), ⟨by decide, by decide⟩, by decide +kernel⟩⟩
theorem kl_X7_173 : Cond.methodLink RX7 173 yX5_forgetCounts ∈ mm_GW := (mm_in (i := 401) (by decide +kernel) (by decide +kernel))
theorem v_X7_173_4 : mm_V RX7 173 4 yX5_forgetCounts cX5_forgetCounts 2 none 0 := ⟨RX5, TX5, 4, rfl, kc_X5_forgetCounts, ki_X5, kn_X5_forgetCounts, Or.inl ⟨kl_X7_173, (mm_in (i := 403) (by decide +kernel) (by decide +kernel)), ⟨by decide, by decide⟩, by decide +kernel⟩⟩
theorem kl_L_183 : Cond.methodLink RL 183 yX7_fewest ∈ mm_GW := (mm_in (i := 405) (by decide +kernel) (by decide +kernel))
theorem v_L_183_6 : mm_V RL 183 6 yX7_fewest cX7_fewest 3 (some .int) 0 := ⟨RX7, TX7, 4, rfl, kc_X7_fewest, ki_X7, kn_X7_fewest, Or.inl ⟨kl_L_183, (mm_in (i := 407) (by decide +kernel) (by decide +kernel)), ⟨by decide, by decide⟩, by decide +kernel⟩⟩
theorem kl_X7_170 : Cond.methodLink RX7 170 yX5_countedIn ∈ mm_GW := (mm_in (i := 409) (by decide +kernel) (by decide +kernel))
theorem v_X7_170_4 : mm_V RX7 170 4 yX5_countedIn cX5_countedIn 2 (some .int) 1 := ⟨RX5, TX5, 4, rfl, kc_X5_countedIn, ki_X5, kn_X5_countedIn, Or.inl ⟨kl_X7_170, (mm_in (i := 209) (by decide +kernel) (by decide +kernel)), ⟨by decide, by decide⟩, by decide +kernel⟩⟩
theorem kl_L_190 : Cond.methodLink RL 190 yX7_clearText ∈ mm_GW := (mm_in (i := 410) (by decide +kernel) (by decide +kernel))
theorem v_L_190_6 : mm_V RL 190 6 yX7_clearText cX7_clearText 2 (some .int) 0 := ⟨RX7, TX7, 4, rfl, kc_X7_clearText, ki_X7, kn_X7_clearText, Or.inl ⟨kl_L_190, (mm_in (i := 412) (by decide +kernel) (by decide +kernel)), ⟨by decide, by decide⟩, by decide +kernel⟩⟩
theorem kl_L_194 : Cond.methodLink RL 194 yX7_fault ∈ mm_GW := (mm_in (i := 414) (by decide +kernel) (by decide +kernel))
theorem v_L_194_6 : mm_V RL 194 6 yX7_fault cX7_fault 1 (some .int) 0 := ⟨RX7, TX7, 4, rfl, kc_X7_fault, ki_X7, kn_X7_fault, Or.inl ⟨kl_L_194, (mm_in (i := 416) (by decide +kernel) (by decide +kernel)), ⟨by decide, by decide⟩, by decide +kernel⟩⟩
theorem kl_X7_196 : Cond.methodLink RX7 196 yX6_firstFault ∈ mm_GW := (mm_in (i := 418) (by decide +kernel) (by decide +kernel))
theorem v_X7_196_5 : mm_V RX7 196 5 yX6_firstFault cX6_firstFault 2 (some .int) 0 := ⟨RX6, TX6, 7, rfl, kc_X6_firstFault, ki_X6, kn_X6_firstFault, Or.inl ⟨kl_X7_196, (mm_in (i := 420) (by decide +kernel) (by decide +kernel)), ⟨by decide, by decide⟩, by decide +kernel⟩⟩
theorem kl_X6_22 : Cond.methodLink RX6 22 yX6_rewind ∈ mm_GW := (mm_in (i := 422) (by decide +kernel) (by decide +kernel))
theorem v_X6_22_5 : mm_V RX6 22 5 yX6_rewind cX6_rewind 1 none 0 := ⟨RX6, TX6, 7, rfl, kc_X6_rewind, ki_X6, kn_X6_rewind, Or.inl ⟨kl_X6_22, (mm_in (i := 424) (by decide +kernel) (by decide +kernel)), ⟨by decide, by decide⟩, by decide +kernel⟩⟩
theorem kl_X6_25 : Cond.methodLink RX6 25 yX6_readCommand ∈ mm_GW := (mm_in (i := 426) (by decide +kernel) (by decide +kernel))
theorem v_X6_25_5 : mm_V RX6 25 5 yX6_readCommand cX6_readCommand 1 (some .boolean) 0 := ⟨RX6, TX6, 7, rfl, kc_X6_readCommand, ki_X6, kn_X6_readCommand, Or.inl ⟨kl_X6_25, (mm_in (i := 428) (by decide +kernel) (by decide +kernel)), ⟨by decide, by decide⟩, by decide +kernel⟩⟩
theorem kl_X6_29 : Cond.methodLink RX6 29 yX6_current ∈ mm_GW := (mm_in (i := 430) (by decide +kernel) (by decide +kernel))
theorem v_X6_29_5 : mm_V RX6 29 5 yX6_current cX6_current 1 (some .char) 0 := ⟨RX6, TX6, 7, rfl, kc_X6_current, ki_X6, kn_X6_current, Or.inl ⟨kl_X6_29, (mm_inp (i := 8) (by decide +kernel) (by decide +kernel)), ⟨by decide, by decide⟩, by decide +kernel⟩⟩
theorem kl_X6_33 : Cond.methodLink RX6 33 yX6_commandOf ∈ mm_GW := (mm_in (i := 434) (by decide +kernel) (by decide +kernel))
theorem s_X6_33 : mm_St RX6 33 yX6_commandOf 1 := ⟨ki_X6, ks_X6_commandOf, ⟨by decide, by decide⟩, by decide +kernel, Or.inl kl_X6_33⟩
theorem kl_X6_40 : Cond.methodLink RX6 40 yX6_readArguments ∈ mm_GW := (mm_in (i := 437) (by decide +kernel) (by decide +kernel))
theorem v_X6_40_5 : mm_V RX6 40 5 yX6_readArguments cX6_readArguments 1 (some .boolean) 0 := ⟨RX6, TX6, 7, rfl, kc_X6_readArguments, ki_X6, kn_X6_readArguments, Or.inl ⟨kl_X6_40, (mm_inp (i := 9) (by decide +kernel) (by decide +kernel)), ⟨by decide, by decide⟩, by decide +kernel⟩⟩
theorem kl_X6_47 : Cond.methodLink RX6 47 yX6_readKey ∈ mm_GW := (mm_in (i := 441) (by decide +kernel) (by decide +kernel))
theorem v_X6_47_5 : mm_V RX6 47 5 yX6_readKey cX6_readKey 3 (some .boolean) 0 := ⟨RX6, TX6, 7, rfl, kc_X6_readKey, ki_X6, kn_X6_readKey, Or.inl ⟨kl_X6_47, (mm_inp (i := 10) (by decide +kernel) (by decide +kernel)), ⟨by decide, by decide⟩, by decide +kernel⟩⟩
theorem kl_X6_43 : Cond.methodLink RX6 43 yX6_readSign ∈ mm_GW := (mm_in (i := 445) (by decide +kernel) (by decide +kernel))
theorem v_X6_43_5 : mm_V RX6 43 5 yX6_readSign cX6_readSign 2 (some .boolean) 1 := ⟨RX6, TX6, 7, rfl, kc_X6_readSign, ki_X6, kn_X6_readSign, Or.inl ⟨kl_X6_43, (mm_inp (i := 11) (by decide +kernel) (by decide +kernel)), ⟨by decide, by decide⟩, by decide +kernel⟩⟩
theorem kl_X6_53 : Cond.methodLink RX6 53 yX6_readNumber ∈ mm_GW := (mm_in (i := 449) (by decide +kernel) (by decide +kernel))
theorem v_X6_53_5 : mm_V RX6 53 5 yX6_readNumber cX6_readNumber 3 (some .boolean) 1 := ⟨RX6, TX6, 7, rfl, kc_X6_readNumber, ki_X6, kn_X6_readNumber, Or.inl ⟨kl_X6_53, (mm_inp (i := 12) (by decide +kernel) (by decide +kernel)), ⟨by decide, by decide⟩, by decide +kernel⟩⟩
theorem kl_X6_50 : Cond.methodLink RX6 50 yX6_readHandle ∈ mm_GW := (mm_in (i := 453) (by decide +kernel) (by decide +kernel))
theorem v_X6_50_5 : mm_V RX6 50 5 yX6_readHandle cX6_readHandle 2 (some .boolean) 0 := ⟨RX6, TX6, 7, rfl, kc_X6_readHandle, ki_X6, kn_X6_readHandle, Or.inl ⟨kl_X6_50, (mm_inp (i := 13) (by decide +kernel) (by decide +kernel)), ⟨by decide, by decide⟩, by decide +kernel⟩⟩
theorem kl_L_204 : Cond.methodLink RL 204 yX7_checksum ∈ mm_GW := (mm_in (i := 457) (by decide +kernel) (by decide +kernel))
theorem v_L_204_6 : mm_V RL 204 6 yX7_checksum cX7_checksum 5 (some .long) 0 := ⟨RX7, TX7, 4, rfl, kc_X7_checksum, ki_X7, kn_X7_checksum, Or.inl ⟨kl_L_204, (mm_in (i := 459) (by decide +kernel) (by decide +kernel)), ⟨by decide, by decide⟩, by decide +kernel⟩⟩
theorem kl_X7_124 : Cond.methodLink RX7 124 yX5_layout ∈ mm_GW := (mm_in (i := 463) (by decide +kernel) (by decide +kernel))
theorem v_X7_124_4 : mm_V RX7 124 4 yX5_layout cX5_layout 2 (some (.object "TwoEndQueues$Layout")) 1 := ⟨RX5, TX5, 4, rfl, kc_X5_layout, ki_X5, kn_X5_layout, Or.inl ⟨kl_X7_124, (mm_in (i := 188) (by decide +kernel) (by decide +kernel)), ⟨by decide, by decide⟩, by decide +kernel⟩⟩
theorem kl_X7_128 : Cond.methodLink RX7 128 yX3_handleAt ∈ mm_GW := (mm_in (i := 464) (by decide +kernel) (by decide +kernel))
theorem v_X7_128_0 : mm_V RX7 128 0 yX3_handleAt cX3_handleAt 2 (some .int) 1 := ⟨RX0, TX0, 4, rfl, kc_X3_handleAt, ki_X3, kn_X3_handleAt, Or.inr ⟨"TwoEndQueues$Layout", yX3_handleAt, kl_X7_128, (mm_in (i := 235) (by decide +kernel) (by decide +kernel)), (mm_in (i := 236) (by decide +kernel) (by decide +kernel)), ⟨by decide, by decide⟩, by decide +kernel, Or.inl rfl⟩⟩
theorem v_X7_128_2 : mm_V RX7 128 2 yX3_handleAt cX3_handleAt 2 (some .int) 1 := ⟨RX2, TX2, 3, rfl, kc_X3_handleAt, ki_X3, kn_X3_handleAt, Or.inr ⟨"TwoEndQueues$Layout", yX3_handleAt, kl_X7_128, (mm_in (i := 235) (by decide +kernel) (by decide +kernel)), (mm_in (i := 237) (by decide +kernel) (by decide +kernel)), ⟨by decide, by decide⟩, by decide +kernel, Or.inl rfl⟩⟩
theorem v_X7_128_3 : mm_V RX7 128 3 yX3_handleAt cX3_handleAt 2 (some .int) 1 := ⟨RX4, TX4, 3, rfl, kc_X3_handleAt, ki_X3, kn_X3_handleAt, Or.inr ⟨"TwoEndQueues$Layout", yX3_handleAt, kl_X7_128, (mm_in (i := 235) (by decide +kernel) (by decide +kernel)), (mm_in (i := 238) (by decide +kernel) (by decide +kernel)), ⟨by decide, by decide⟩, by decide +kernel, Or.inl rfl⟩⟩
theorem v_X7_128 {ci : Nat} (h : ci = 0 ∨ ci = 2 ∨ ci = 3) : mm_V RX7 128 ci yX3_handleAt cX3_handleAt 2 (some .int) 1 := by rcases h with rfl | rfl | rfl <;> first | exact v_X7_128_0 | exact v_X7_128_2 | exact v_X7_128_3
theorem kl_X7_136 : Cond.methodLink RX7 136 ⟨"TwoEndQueues$Layout", "brokenPairs", "()I"⟩ ∈ mm_GW := (mm_in (i := 465) (by decide +kernel) (by decide +kernel))
theorem v_X7_136_0 : mm_V RX7 136 0 yX0_brokenPairs cX0_brokenPairs 5 (some .int) 0 := ⟨RX0, TX0, 4, rfl, kc_X0_brokenPairs, ki_X0, kn_X0_brokenPairs, Or.inr ⟨"TwoEndQueues$Layout", ⟨"TwoEndQueues$Layout", "brokenPairs", "()I"⟩, kl_X7_136, (mm_in (i := 467) (by decide +kernel) (by decide +kernel)), (mm_in (i := 468) (by decide +kernel) (by decide +kernel)), ⟨by decide, by decide⟩, by decide +kernel, Or.inr (mm_inl (i := 466) (by decide +kernel))⟩⟩
theorem v_X7_136_2 : mm_V RX7 136 2 yX2_brokenPairs cX2_brokenPairs 3 (some .int) 0 := ⟨RX2, TX2, 3, rfl, kc_X2_brokenPairs, ki_X2, kn_X2_brokenPairs, Or.inr ⟨"TwoEndQueues$Layout", ⟨"TwoEndQueues$Layout", "brokenPairs", "()I"⟩, kl_X7_136, (mm_in (i := 467) (by decide +kernel) (by decide +kernel)), (mm_in (i := 476) (by decide +kernel) (by decide +kernel)), ⟨by decide, by decide⟩, by decide +kernel, Or.inr (mm_inl (i := 466) (by decide +kernel))⟩⟩
theorem v_X7_136_3 : mm_V RX7 136 3 yX4_brokenPairs cX4_brokenPairs 6 (some .int) 0 := ⟨RX4, TX4, 3, rfl, kc_X4_brokenPairs, ki_X4, kn_X4_brokenPairs, Or.inr ⟨"TwoEndQueues$Layout", ⟨"TwoEndQueues$Layout", "brokenPairs", "()I"⟩, kl_X7_136, (mm_in (i := 467) (by decide +kernel) (by decide +kernel)), (mm_in (i := 482) (by decide +kernel) (by decide +kernel)), ⟨by decide, by decide⟩, by decide +kernel, Or.inr (mm_inl (i := 466) (by decide +kernel))⟩⟩
theorem kl_X0_19 : Cond.methodLink RX0 19 ⟨"TwoEndQueues$HeapLayout", "parentOf", "(I)I"⟩ ∈ mm_GW := (mm_in (i := 471) (by decide +kernel) (by decide +kernel))
theorem kl_X0_44 : Cond.methodLink RX0 44 ⟨"TwoEndQueues$HeapLayout", "itemAt", "(I)I"⟩ ∈ mm_GW := (mm_in (i := 473) (by decide +kernel) (by decide +kernel))
theorem v_X0_44_0 : mm_V RX0 44 0 yX3_itemAt cX3_itemAt 2 (some .int) 1 := ⟨RX0, TX0, 4, rfl, kc_X3_itemAt, ki_X3, kn_X3_itemAt, Or.inr ⟨"TwoEndQueues$Layout", ⟨"TwoEndQueues$HeapLayout", "itemAt", "(I)I"⟩, kl_X0_44, (mm_in (i := 474) (by decide +kernel) (by decide +kernel)), (mm_in (i := 475) (by decide +kernel) (by decide +kernel)), ⟨by decide, by decide⟩, by decide +kernel, Or.inl rfl⟩⟩
theorem kl_X2_52 : Cond.methodLink RX2 52 ⟨"TwoEndQueues$IntervalLayout", "itemAt", "(I)I"⟩ ∈ mm_GW := (mm_in (i := 479) (by decide +kernel) (by decide +kernel))
theorem v_X2_52_2 : mm_V RX2 52 2 yX3_itemAt cX3_itemAt 2 (some .int) 1 := ⟨RX2, TX2, 3, rfl, kc_X3_itemAt, ki_X3, kn_X3_itemAt, Or.inr ⟨"TwoEndQueues$Layout", ⟨"TwoEndQueues$IntervalLayout", "itemAt", "(I)I"⟩, kl_X2_52, (mm_in (i := 377) (by decide +kernel) (by decide +kernel)), (mm_in (i := 379) (by decide +kernel) (by decide +kernel)), ⟨by decide, by decide⟩, by decide +kernel, Or.inl rfl⟩⟩
theorem kl_X2_33 : Cond.methodLink RX2 33 ⟨"TwoEndQueues$IntervalLayout", "parentOf", "(I)I"⟩ ∈ mm_GW := (mm_in (i := 480) (by decide +kernel) (by decide +kernel))
theorem kl_X4_19 : Cond.methodLink RX4 19 ⟨"TwoEndQueues$LevelLayout", "itemAt", "(I)I"⟩ ∈ mm_GW := (mm_in (i := 485) (by decide +kernel) (by decide +kernel))
theorem v_X4_19_3 : mm_V RX4 19 3 yX3_itemAt cX3_itemAt 2 (some .int) 1 := ⟨RX4, TX4, 3, rfl, kc_X3_itemAt, ki_X3, kn_X3_itemAt, Or.inr ⟨"TwoEndQueues$Layout", ⟨"TwoEndQueues$LevelLayout", "itemAt", "(I)I"⟩, kl_X4_19, (mm_in (i := 486) (by decide +kernel) (by decide +kernel)), (mm_in (i := 487) (by decide +kernel) (by decide +kernel)), ⟨by decide, by decide⟩, by decide +kernel, Or.inl rfl⟩⟩
theorem kl_L_89 : Cond.methodLink RL 89 yL_insert ∈ mm_GW := (mm_in (i := 488) (by decide +kernel) (by decide +kernel))
theorem s_L_89 : mm_St RL 89 yL_insert 3 := ⟨ki_L, ks_L_insert, ⟨by decide, by decide⟩, by decide +kernel, Or.inl kl_L_89⟩
theorem kl_L_7 : Cond.methodLink RL 7 yX7_insert ∈ mm_GW := (mm_in (i := 493) (by decide +kernel) (by decide +kernel))
theorem v_L_7_6 : mm_V RL 7 6 yX7_insert cX7_insert 2 (some .int) 1 := ⟨RX7, TX7, 4, rfl, kc_X7_insert, ki_X7, kn_X7_insert, Or.inl ⟨kl_L_7, (mm_in (i := 495) (by decide +kernel) (by decide +kernel)), ⟨by decide, by decide⟩, by decide +kernel⟩⟩
theorem kl_X7_33 : Cond.methodLink RX7 33 yX7_requireKey ∈ mm_GW := (mm_in (i := 497) (by decide +kernel) (by decide +kernel))
theorem s_X7_33 : mm_St RX7 33 yX7_requireKey 1 := ⟨ki_X7, ks_X7_requireKey, ⟨by decide, by decide⟩, by decide +kernel, Or.inl kl_X7_33⟩
theorem kl_X7_229 : Cond.methodLink RX7 229 yX7_isKey ∈ mm_GW := (mm_in (i := 500) (by decide +kernel) (by decide +kernel))
theorem s_X7_229 : mm_St RX7 229 yX7_isKey 1 := ⟨ki_X7, ks_X7_isKey, ⟨by decide, by decide⟩, by decide +kernel, Or.inl kl_X7_229⟩
theorem kl_X7_98 : Cond.methodLink RX7 98 ⟨"java/lang/IllegalArgumentException", "<init>", "(Ljava/lang/String;)V"⟩ ∈ mm_GW := (mm_in (i := 545) (by decide +kernel) (by decide +kernel))
theorem kl_X7_45 : Cond.methodLink RX7 45 ⟨"java/lang/IllegalStateException", "<init>", "(Ljava/lang/String;)V"⟩ ∈ mm_GW := (mm_in (i := 581) (by decide +kernel) (by decide +kernel))
theorem kl_X7_52 : Cond.methodLink RX7 52 yX5_putIn ∈ mm_GW := (mm_in (i := 587) (by decide +kernel) (by decide +kernel))
theorem v_X7_52_4 : mm_V RX7 52 4 yX5_putIn cX5_putIn 4 (some .int) 1 := ⟨RX5, TX5, 4, rfl, kc_X5_putIn, ki_X5, kn_X5_putIn, Or.inl ⟨kl_X7_52, (mm_in (i := 589) (by decide +kernel) (by decide +kernel)), ⟨by decide, by decide⟩, by decide +kernel⟩⟩
theorem kl_X5_79 : Cond.methodLink RX5 79 yX5_lowestFreeHandle ∈ mm_GW := (mm_in (i := 591) (by decide +kernel) (by decide +kernel))
theorem v_X5_79_4 : mm_V RX5 79 4 yX5_lowestFreeHandle cX5_lowestFreeHandle 2 (some .int) 0 := ⟨RX5, TX5, 4, rfl, kc_X5_lowestFreeHandle, ki_X5, kn_X5_lowestFreeHandle, Or.inl ⟨kl_X5_79, (mm_inp (i := 15) (by decide +kernel) (by decide +kernel)), ⟨by decide, by decide⟩, by decide +kernel⟩⟩
theorem kl_X5_75 : Cond.methodLink RX5 75 yX5_has ∈ mm_GW := (mm_in (i := 595) (by decide +kernel) (by decide +kernel))
theorem v_X5_75_4 : mm_V RX5 75 4 yX5_has cX5_has 2 (some .boolean) 1 := ⟨RX5, TX5, 4, rfl, kc_X5_has, ki_X5, kn_X5_has, Or.inl ⟨kl_X5_75, (mm_in (i := 366) (by decide +kernel) (by decide +kernel)), ⟨by decide, by decide⟩, by decide +kernel⟩⟩
theorem kl_X5_82 : Cond.methodLink RX5 82 yX3_putIn ∈ mm_GW := (mm_in (i := 596) (by decide +kernel) (by decide +kernel))
theorem v_X5_82_0 : mm_V RX5 82 0 yX3_putIn cX3_putIn 3 none 2 := ⟨RX0, TX0, 4, rfl, kc_X3_putIn, ki_X3, kn_X3_putIn, Or.inr ⟨"TwoEndQueues$Layout", yX3_putIn, kl_X5_82, (mm_in (i := 598) (by decide +kernel) (by decide +kernel)), (mm_in (i := 599) (by decide +kernel) (by decide +kernel)), ⟨by decide, by decide⟩, by decide +kernel, Or.inl rfl⟩⟩
theorem v_X5_82_2 : mm_V RX5 82 2 yX3_putIn cX3_putIn 3 none 2 := ⟨RX2, TX2, 3, rfl, kc_X3_putIn, ki_X3, kn_X3_putIn, Or.inr ⟨"TwoEndQueues$Layout", yX3_putIn, kl_X5_82, (mm_in (i := 598) (by decide +kernel) (by decide +kernel)), (mm_in (i := 600) (by decide +kernel) (by decide +kernel)), ⟨by decide, by decide⟩, by decide +kernel, Or.inl rfl⟩⟩
theorem v_X5_82_3 : mm_V RX5 82 3 yX3_putIn cX3_putIn 3 none 2 := ⟨RX4, TX4, 3, rfl, kc_X3_putIn, ki_X3, kn_X3_putIn, Or.inr ⟨"TwoEndQueues$Layout", yX3_putIn, kl_X5_82, (mm_in (i := 598) (by decide +kernel) (by decide +kernel)), (mm_in (i := 601) (by decide +kernel) (by decide +kernel)), ⟨by decide, by decide⟩, by decide +kernel, Or.inl rfl⟩⟩
theorem v_X5_82 {ci : Nat} (h : ci = 0 ∨ ci = 2 ∨ ci = 3) : mm_V RX5 82 ci yX3_putIn cX3_putIn 3 none 2 := by rcases h with rfl | rfl | rfl <;> first | exact v_X5_82_0 | exact v_X5_82_2 | exact v_X5_82_3
theorem kl_X3_33 : Cond.methodLink RX3 33 ⟨"TwoEndQueues$Layout", "enter", "(I)V"⟩ ∈ mm_GW := (mm_in (i := 603) (by decide +kernel) (by decide +kernel))
theorem v_X3_33_0 : mm_V RX3 33 0 yX0_enter cX0_enter 3 none 1 := ⟨RX0, TX0, 4, rfl, kc_X0_enter, ki_X0, kn_X0_enter, Or.inr ⟨"TwoEndQueues$Layout", ⟨"TwoEndQueues$Layout", "enter", "(I)V"⟩, kl_X3_33, (mm_in (i := 605) (by decide +kernel) (by decide +kernel)), (mm_in (i := 606) (by decide +kernel) (by decide +kernel)), ⟨by decide, by decide⟩, by decide +kernel, Or.inr (mm_inl (i := 604) (by decide +kernel))⟩⟩
theorem v_X3_33_2 : mm_V RX3 33 2 yX2_enter cX2_enter 5 none 1 := ⟨RX2, TX2, 3, rfl, kc_X2_enter, ki_X2, kn_X2_enter, Or.inr ⟨"TwoEndQueues$Layout", ⟨"TwoEndQueues$Layout", "enter", "(I)V"⟩, kl_X3_33, (mm_in (i := 605) (by decide +kernel) (by decide +kernel)), (mm_in (i := 609) (by decide +kernel) (by decide +kernel)), ⟨by decide, by decide⟩, by decide +kernel, Or.inr (mm_inl (i := 604) (by decide +kernel))⟩⟩
theorem v_X3_33_3 : mm_V RX3 33 3 yX4_enter cX4_enter 4 none 1 := ⟨RX4, TX4, 3, rfl, kc_X4_enter, ki_X4, kn_X4_enter, Or.inr ⟨"TwoEndQueues$Layout", ⟨"TwoEndQueues$Layout", "enter", "(I)V"⟩, kl_X3_33, (mm_in (i := 605) (by decide +kernel) (by decide +kernel)), (mm_in (i := 620) (by decide +kernel) (by decide +kernel)), ⟨by decide, by decide⟩, by decide +kernel, Or.inr (mm_inl (i := 604) (by decide +kernel))⟩⟩
theorem kl_X2_40 : Cond.methodLink RX2 40 yX2_riseHigh ∈ mm_GW := (mm_in (i := 612) (by decide +kernel) (by decide +kernel))
theorem v_X2_40_2 : mm_V RX2 40 2 yX2_riseHigh cX2_riseHigh 6 none 2 := ⟨RX2, TX2, 3, rfl, kc_X2_riseHigh, ki_X2, kn_X2_riseHigh, Or.inl ⟨kl_X2_40, (mm_inp (i := 16) (by decide +kernel) (by decide +kernel)), ⟨by decide, by decide⟩, by decide +kernel⟩⟩
theorem kl_X2_43 : Cond.methodLink RX2 43 yX2_riseLow ∈ mm_GW := (mm_in (i := 616) (by decide +kernel) (by decide +kernel))
theorem v_X2_43_2 : mm_V RX2 43 2 yX2_riseLow cX2_riseLow 4 none 1 := ⟨RX2, TX2, 3, rfl, kc_X2_riseLow, ki_X2, kn_X2_riseLow, Or.inl ⟨kl_X2_43, (mm_inp (i := 17) (by decide +kernel) (by decide +kernel)), ⟨by decide, by decide⟩, by decide +kernel⟩⟩
theorem kl_X4_44 : Cond.methodLink RX4 44 yX4_rise ∈ mm_GW := (mm_in (i := 623) (by decide +kernel) (by decide +kernel))
theorem v_X4_44_3 : mm_V RX4 44 3 yX4_rise cX4_rise 5 none 2 := ⟨RX4, TX4, 3, rfl, kc_X4_rise, ki_X4, kn_X4_rise, Or.inl ⟨kl_X4_44, (mm_inp (i := 18) (by decide +kernel) (by decide +kernel)), ⟨by decide, by decide⟩, by decide +kernel⟩⟩
theorem kl_L_98 : Cond.methodLink RL 98 yL_takeLeast ∈ mm_GW := (mm_in (i := 627) (by decide +kernel) (by decide +kernel))
theorem s_L_98 : mm_St RL 98 yL_takeLeast 2 := ⟨ki_L, ks_L_takeLeast, ⟨by decide, by decide⟩, by decide +kernel, Or.inl kl_L_98⟩
theorem kl_L_17 : Cond.methodLink RL 17 yX7_takeLeast ∈ mm_GW := (mm_in (i := 630) (by decide +kernel) (by decide +kernel))
theorem v_L_17_6 : mm_V RL 17 6 yX7_takeLeast cX7_takeLeast 2 (some .int) 0 := ⟨RX7, TX7, 4, rfl, kc_X7_takeLeast, ki_X7, kn_X7_takeLeast, Or.inl ⟨kl_L_17, (mm_in (i := 632) (by decide +kernel) (by decide +kernel)), ⟨by decide, by decide⟩, by decide +kernel⟩⟩
theorem kl_X7_56 : Cond.methodLink RX7 56 yX7_requireItems ∈ mm_GW := (mm_in (i := 634) (by decide +kernel) (by decide +kernel))
theorem v_X7_56_6 : mm_V RX7 56 6 yX7_requireItems cX7_requireItems 1 none 0 := ⟨RX7, TX7, 4, rfl, kc_X7_requireItems, ki_X7, kn_X7_requireItems, Or.inl ⟨kl_X7_56, (mm_inp (i := 19) (by decide +kernel) (by decide +kernel)), ⟨by decide, by decide⟩, by decide +kernel⟩⟩
theorem kl_X7_59 : Cond.methodLink RX7 59 yX5_leastOf ∈ mm_GW := (mm_in (i := 639) (by decide +kernel) (by decide +kernel))
theorem v_X7_59_4 : mm_V RX7 59 4 yX5_leastOf cX5_leastOf 2 (some .int) 1 := ⟨RX5, TX5, 4, rfl, kc_X5_leastOf, ki_X5, kn_X5_leastOf, Or.inl ⟨kl_X7_59, (mm_in (i := 641) (by decide +kernel) (by decide +kernel)), ⟨by decide, by decide⟩, by decide +kernel⟩⟩
theorem kl_X5_58 : Cond.methodLink RX5 58 yX3_handleAt ∈ mm_GW := (mm_in (i := 643) (by decide +kernel) (by decide +kernel))
theorem v_X5_58_0 : mm_V RX5 58 0 yX3_handleAt cX3_handleAt 2 (some .int) 1 := ⟨RX0, TX0, 4, rfl, kc_X3_handleAt, ki_X3, kn_X3_handleAt, Or.inr ⟨"TwoEndQueues$Layout", yX3_handleAt, kl_X5_58, (mm_in (i := 235) (by decide +kernel) (by decide +kernel)), (mm_in (i := 236) (by decide +kernel) (by decide +kernel)), ⟨by decide, by decide⟩, by decide +kernel, Or.inl rfl⟩⟩
theorem v_X5_58_2 : mm_V RX5 58 2 yX3_handleAt cX3_handleAt 2 (some .int) 1 := ⟨RX2, TX2, 3, rfl, kc_X3_handleAt, ki_X3, kn_X3_handleAt, Or.inr ⟨"TwoEndQueues$Layout", yX3_handleAt, kl_X5_58, (mm_in (i := 235) (by decide +kernel) (by decide +kernel)), (mm_in (i := 237) (by decide +kernel) (by decide +kernel)), ⟨by decide, by decide⟩, by decide +kernel, Or.inl rfl⟩⟩
theorem v_X5_58_3 : mm_V RX5 58 3 yX3_handleAt cX3_handleAt 2 (some .int) 1 := ⟨RX4, TX4, 3, rfl, kc_X3_handleAt, ki_X3, kn_X3_handleAt, Or.inr ⟨"TwoEndQueues$Layout", yX3_handleAt, kl_X5_58, (mm_in (i := 235) (by decide +kernel) (by decide +kernel)), (mm_in (i := 238) (by decide +kernel) (by decide +kernel)), ⟨by decide, by decide⟩, by decide +kernel, Or.inl rfl⟩⟩
theorem v_X5_58 {ci : Nat} (h : ci = 0 ∨ ci = 2 ∨ ci = 3) : mm_V RX5 58 ci yX3_handleAt cX3_handleAt 2 (some .int) 1 := by rcases h with rfl | rfl | rfl <;> first | exact v_X5_58_0 | exact v_X5_58_2 | exact v_X5_58_3
theorem kl_X7_62 : Cond.methodLink RX7 62 yX5_carryOut ∈ mm_GW := (mm_in (i := 644) (by decide +kernel) (by decide +kernel))
theorem v_X7_62_4 : mm_V RX7 62 4 yX5_carryOut cX5_carryOut 4 (some .boolean) 3 := ⟨RX5, TX5, 4, rfl, kc_X5_carryOut, ki_X5, kn_X5_carryOut, Or.inl ⟨kl_X7_62, (mm_in (i := 646) (by decide +kernel) (by decide +kernel)), ⟨by decide, by decide⟩, by decide +kernel⟩⟩
theorem kl_X5_108 : Cond.methodLink RX5 108 yX5_isPossible ∈ mm_GW := (mm_in (i := 648) (by decide +kernel) (by decide +kernel))
theorem v_X5_108_4 : mm_V RX5 108 4 yX5_isPossible cX5_isPossible 4 (some .boolean) 3 := ⟨RX5, TX5, 4, rfl, kc_X5_isPossible, ki_X5, kn_X5_isPossible, Or.inl ⟨kl_X5_108, (mm_inp (i := 20) (by decide +kernel) (by decide +kernel)), ⟨by decide, by decide⟩, by decide +kernel⟩⟩
theorem kl_X5_105 : Cond.methodLink RX5 105 yX5_itemCount ∈ mm_GW := (mm_in (i := 653) (by decide +kernel) (by decide +kernel))
theorem v_X5_105_4 : mm_V RX5 105 4 yX5_itemCount cX5_itemCount 1 (some .int) 0 := ⟨RX5, TX5, 4, rfl, kc_X5_itemCount, ki_X5, kn_X5_itemCount, Or.inl ⟨kl_X5_105, (mm_in (i := 338) (by decide +kernel) (by decide +kernel)), ⟨by decide, by decide⟩, by decide +kernel⟩⟩
theorem kl_X5_112 : Cond.methodLink RX5 112 yX5_putIn ∈ mm_GW := (mm_in (i := 654) (by decide +kernel) (by decide +kernel))
theorem v_X5_112_4 : mm_V RX5 112 4 yX5_putIn cX5_putIn 4 (some .int) 1 := ⟨RX5, TX5, 4, rfl, kc_X5_putIn, ki_X5, kn_X5_putIn, Or.inl ⟨kl_X5_112, (mm_in (i := 589) (by decide +kernel) (by decide +kernel)), ⟨by decide, by decide⟩, by decide +kernel⟩⟩
theorem kl_X5_114 : Cond.methodLink RX5 114 yX5_leastOf ∈ mm_GW := (mm_in (i := 655) (by decide +kernel) (by decide +kernel))
theorem v_X5_114_4 : mm_V RX5 114 4 yX5_leastOf cX5_leastOf 2 (some .int) 1 := ⟨RX5, TX5, 4, rfl, kc_X5_leastOf, ki_X5, kn_X5_leastOf, Or.inl ⟨kl_X5_114, (mm_in (i := 641) (by decide +kernel) (by decide +kernel)), ⟨by decide, by decide⟩, by decide +kernel⟩⟩
theorem kl_X5_117 : Cond.methodLink RX5 117 yX5_takeOut ∈ mm_GW := (mm_in (i := 656) (by decide +kernel) (by decide +kernel))
theorem v_X5_117_4 : mm_V RX5 117 4 yX5_takeOut cX5_takeOut 3 none 1 := ⟨RX5, TX5, 4, rfl, kc_X5_takeOut, ki_X5, kn_X5_takeOut, Or.inl ⟨kl_X5_117, (mm_in (i := 658) (by decide +kernel) (by decide +kernel)), ⟨by decide, by decide⟩, by decide +kernel⟩⟩
theorem kl_X5_86 : Cond.methodLink RX5 86 yX3_takeOut ∈ mm_GW := (mm_in (i := 660) (by decide +kernel) (by decide +kernel))
theorem v_X5_86_0 : mm_V RX5 86 0 yX3_takeOut cX3_takeOut 3 none 1 := ⟨RX0, TX0, 4, rfl, kc_X3_takeOut, ki_X3, kn_X3_takeOut, Or.inr ⟨"TwoEndQueues$Layout", yX3_takeOut, kl_X5_86, (mm_in (i := 662) (by decide +kernel) (by decide +kernel)), (mm_in (i := 663) (by decide +kernel) (by decide +kernel)), ⟨by decide, by decide⟩, by decide +kernel, Or.inl rfl⟩⟩
theorem v_X5_86_2 : mm_V RX5 86 2 yX3_takeOut cX3_takeOut 3 none 1 := ⟨RX2, TX2, 3, rfl, kc_X3_takeOut, ki_X3, kn_X3_takeOut, Or.inr ⟨"TwoEndQueues$Layout", yX3_takeOut, kl_X5_86, (mm_in (i := 662) (by decide +kernel) (by decide +kernel)), (mm_in (i := 664) (by decide +kernel) (by decide +kernel)), ⟨by decide, by decide⟩, by decide +kernel, Or.inl rfl⟩⟩
theorem v_X5_86_3 : mm_V RX5 86 3 yX3_takeOut cX3_takeOut 3 none 1 := ⟨RX4, TX4, 3, rfl, kc_X3_takeOut, ki_X3, kn_X3_takeOut, Or.inr ⟨"TwoEndQueues$Layout", yX3_takeOut, kl_X5_86, (mm_in (i := 662) (by decide +kernel) (by decide +kernel)), (mm_in (i := 665) (by decide +kernel) (by decide +kernel)), ⟨by decide, by decide⟩, by decide +kernel, Or.inl rfl⟩⟩
theorem v_X5_86 {ci : Nat} (h : ci = 0 ∨ ci = 2 ∨ ci = 3) : mm_V RX5 86 ci yX3_takeOut cX3_takeOut 3 none 1 := by rcases h with rfl | rfl | rfl <;> first | exact v_X5_86_0 | exact v_X5_86_2 | exact v_X5_86_3
theorem kl_X3_40 : Cond.methodLink RX3 40 ⟨"TwoEndQueues$Layout", "settle", "(I)V"⟩ ∈ mm_GW := (mm_in (i := 667) (by decide +kernel) (by decide +kernel))
theorem v_X3_40_0 : mm_V RX3 40 0 yX0_settle cX0_settle 2 none 1 := ⟨RX0, TX0, 4, rfl, kc_X0_settle, ki_X0, kn_X0_settle, Or.inr ⟨"TwoEndQueues$Layout", ⟨"TwoEndQueues$Layout", "settle", "(I)V"⟩, kl_X3_40, (mm_in (i := 669) (by decide +kernel) (by decide +kernel)), (mm_in (i := 670) (by decide +kernel) (by decide +kernel)), ⟨by decide, by decide⟩, by decide +kernel, Or.inr (mm_inl (i := 668) (by decide +kernel))⟩⟩
theorem v_X3_40_2 : mm_V RX3 40 2 yX2_settle cX2_settle 3 none 1 := ⟨RX2, TX2, 3, rfl, kc_X2_settle, ki_X2, kn_X2_settle, Or.inr ⟨"TwoEndQueues$Layout", ⟨"TwoEndQueues$Layout", "settle", "(I)V"⟩, kl_X3_40, (mm_in (i := 669) (by decide +kernel) (by decide +kernel)), (mm_in (i := 674) (by decide +kernel) (by decide +kernel)), ⟨by decide, by decide⟩, by decide +kernel, Or.inr (mm_inl (i := 668) (by decide +kernel))⟩⟩
theorem v_X3_40_3 : mm_V RX3 40 3 yX4_settle cX4_settle 2 none 1 := ⟨RX4, TX4, 3, rfl, kc_X4_settle, ki_X4, kn_X4_settle, Or.inr ⟨"TwoEndQueues$Layout", ⟨"TwoEndQueues$Layout", "settle", "(I)V"⟩, kl_X3_40, (mm_in (i := 669) (by decide +kernel) (by decide +kernel)), (mm_in (i := 677) (by decide +kernel) (by decide +kernel)), ⟨by decide, by decide⟩, by decide +kernel, Or.inr (mm_inl (i := 668) (by decide +kernel))⟩⟩
theorem kl_X0_37 : Cond.methodLink RX0 37 yX0_enter ∈ mm_GW := (mm_in (i := 673) (by decide +kernel) (by decide +kernel))
theorem v_X0_37_0 : mm_V RX0 37 0 yX0_enter cX0_enter 3 none 1 := ⟨RX0, TX0, 4, rfl, kc_X0_enter, ki_X0, kn_X0_enter, Or.inl ⟨kl_X0_37, (mm_in (i := 1376) (by decide +kernel) (by decide +kernel)), ⟨by decide, by decide⟩, by decide +kernel⟩⟩
theorem kl_X4_48 : Cond.methodLink RX4 48 yX4_enter ∈ mm_GW := (mm_in (i := 680) (by decide +kernel) (by decide +kernel))
theorem v_X4_48_3 : mm_V RX4 48 3 yX4_enter cX4_enter 4 none 1 := ⟨RX4, TX4, 3, rfl, kc_X4_enter, ki_X4, kn_X4_enter, Or.inl ⟨kl_X4_48, (mm_in (i := 1377) (by decide +kernel) (by decide +kernel)), ⟨by decide, by decide⟩, by decide +kernel⟩⟩
theorem kl_X5_118 : Cond.methodLink RX5 118 yX4_countFindingGreatest ∈ mm_GW := (mm_in (i := 681) (by decide +kernel) (by decide +kernel))
theorem v_X5_118_3 : mm_V RX5 118 3 yX4_countFindingGreatest cX4_countFindingGreatest 1 none 0 := ⟨RX4, TX4, 3, rfl, kc_X4_countFindingGreatest, ki_X4, kn_X4_countFindingGreatest, Or.inl ⟨kl_X5_118, (mm_in (i := 683) (by decide +kernel) (by decide +kernel)), ⟨by decide, by decide⟩, by decide +kernel⟩⟩
theorem kl_X5_121 : Cond.methodLink RX5 121 yX5_greatestOf ∈ mm_GW := (mm_in (i := 685) (by decide +kernel) (by decide +kernel))
theorem v_X5_121_4 : mm_V RX5 121 4 yX5_greatestOf cX5_greatestOf 2 (some .int) 1 := ⟨RX5, TX5, 4, rfl, kc_X5_greatestOf, ki_X5, kn_X5_greatestOf, Or.inl ⟨kl_X5_121, (mm_in (i := 687) (by decide +kernel) (by decide +kernel)), ⟨by decide, by decide⟩, by decide +kernel⟩⟩
theorem kl_X5_61 : Cond.methodLink RX5 61 yX2_greatestPosition ∈ mm_GW := (mm_in (i := 689) (by decide +kernel) (by decide +kernel))
theorem v_X5_61_2 : mm_V RX5 61 2 yX2_greatestPosition cX2_greatestPosition 1 (some .int) 0 := ⟨RX2, TX2, 3, rfl, kc_X2_greatestPosition, ki_X2, kn_X2_greatestPosition, Or.inl ⟨kl_X5_61, (mm_in (i := 691) (by decide +kernel) (by decide +kernel)), ⟨by decide, by decide⟩, by decide +kernel⟩⟩
theorem kl_X5_65 : Cond.methodLink RX5 65 yX4_greatestPosition ∈ mm_GW := (mm_in (i := 693) (by decide +kernel) (by decide +kernel))
theorem v_X5_65_3 : mm_V RX5 65 3 yX4_greatestPosition cX4_greatestPosition 1 (some .int) 0 := ⟨RX4, TX4, 3, rfl, kc_X4_greatestPosition, ki_X4, kn_X4_greatestPosition, Or.inl ⟨kl_X5_65, (mm_in (i := 695) (by decide +kernel) (by decide +kernel)), ⟨by decide, by decide⟩, by decide +kernel⟩⟩
theorem kl_X5_66 : Cond.methodLink RX5 66 ⟨"TwoEndQueues$LevelLayout", "handleAt", "(I)I"⟩ ∈ mm_GW := (mm_in (i := 697) (by decide +kernel) (by decide +kernel))
theorem v_X5_66_3 : mm_V RX5 66 3 yX3_handleAt cX3_handleAt 2 (some .int) 1 := ⟨RX4, TX4, 3, rfl, kc_X3_handleAt, ki_X3, kn_X3_handleAt, Or.inr ⟨"TwoEndQueues$Layout", ⟨"TwoEndQueues$LevelLayout", "handleAt", "(I)I"⟩, kl_X5_66, (mm_in (i := 698) (by decide +kernel) (by decide +kernel)), (mm_in (i := 699) (by decide +kernel) (by decide +kernel)), ⟨by decide, by decide⟩, by decide +kernel, Or.inl rfl⟩⟩
theorem kl_X5_67 : Cond.methodLink RX5 67 ⟨"TwoEndQueues$HeapLayout", "handleAt", "(I)I"⟩ ∈ mm_GW := (mm_in (i := 700) (by decide +kernel) (by decide +kernel))
theorem v_X5_67_0 : mm_V RX5 67 0 yX3_handleAt cX3_handleAt 2 (some .int) 1 := ⟨RX0, TX0, 4, rfl, kc_X3_handleAt, ki_X3, kn_X3_handleAt, Or.inr ⟨"TwoEndQueues$Layout", ⟨"TwoEndQueues$HeapLayout", "handleAt", "(I)I"⟩, kl_X5_67, (mm_in (i := 701) (by decide +kernel) (by decide +kernel)), (mm_in (i := 702) (by decide +kernel) (by decide +kernel)), ⟨by decide, by decide⟩, by decide +kernel, Or.inl rfl⟩⟩
theorem kl_X5_124 : Cond.methodLink RX5 124 yX5_giveKey ∈ mm_GW := (mm_in (i := 703) (by decide +kernel) (by decide +kernel))
theorem v_X5_124_4 : mm_V RX5 124 4 yX5_giveKey cX5_giveKey 4 none 2 := ⟨RX5, TX5, 4, rfl, kc_X5_giveKey, ki_X5, kn_X5_giveKey, Or.inl ⟨kl_X5_124, (mm_in (i := 705) (by decide +kernel) (by decide +kernel)), ⟨by decide, by decide⟩, by decide +kernel⟩⟩
theorem kl_X5_91 : Cond.methodLink RX5 91 yX3_giveKey ∈ mm_GW := (mm_in (i := 707) (by decide +kernel) (by decide +kernel))
theorem v_X5_91_0 : mm_V RX5 91 0 yX3_giveKey cX3_giveKey 4 none 2 := ⟨RX0, TX0, 4, rfl, kc_X3_giveKey, ki_X3, kn_X3_giveKey, Or.inr ⟨"TwoEndQueues$Layout", yX3_giveKey, kl_X5_91, (mm_in (i := 709) (by decide +kernel) (by decide +kernel)), (mm_in (i := 710) (by decide +kernel) (by decide +kernel)), ⟨by decide, by decide⟩, by decide +kernel, Or.inl rfl⟩⟩
theorem v_X5_91_2 : mm_V RX5 91 2 yX3_giveKey cX3_giveKey 4 none 2 := ⟨RX2, TX2, 3, rfl, kc_X3_giveKey, ki_X3, kn_X3_giveKey, Or.inr ⟨"TwoEndQueues$Layout", yX3_giveKey, kl_X5_91, (mm_in (i := 709) (by decide +kernel) (by decide +kernel)), (mm_in (i := 711) (by decide +kernel) (by decide +kernel)), ⟨by decide, by decide⟩, by decide +kernel, Or.inl rfl⟩⟩
theorem v_X5_91_3 : mm_V RX5 91 3 yX3_giveKey cX3_giveKey 4 none 2 := ⟨RX4, TX4, 3, rfl, kc_X3_giveKey, ki_X3, kn_X3_giveKey, Or.inr ⟨"TwoEndQueues$Layout", yX3_giveKey, kl_X5_91, (mm_in (i := 709) (by decide +kernel) (by decide +kernel)), (mm_in (i := 712) (by decide +kernel) (by decide +kernel)), ⟨by decide, by decide⟩, by decide +kernel, Or.inl rfl⟩⟩
theorem v_X5_91 {ci : Nat} (h : ci = 0 ∨ ci = 2 ∨ ci = 3) : mm_V RX5 91 ci yX3_giveKey cX3_giveKey 4 none 2 := by rcases h with rfl | rfl | rfl <;> first | exact v_X5_91_0 | exact v_X5_91_2 | exact v_X5_91_3
theorem kl_X5_125 : Cond.methodLink RX5 125 yX5_arrange ∈ mm_GW := (mm_in (i := 714) (by decide +kernel) (by decide +kernel))
theorem v_X5_125_4 : mm_V RX5 125 4 yX5_arrange cX5_arrange 2 none 0 := ⟨RX5, TX5, 4, rfl, kc_X5_arrange, ki_X5, kn_X5_arrange, Or.inl ⟨kl_X5_125, (mm_in (i := 213) (by decide +kernel) (by decide +kernel)), ⟨by decide, by decide⟩, by decide +kernel⟩⟩
theorem kl_L_102 : Cond.methodLink RL 102 yL_takeGreatest ∈ mm_GW := (mm_in (i := 715) (by decide +kernel) (by decide +kernel))
theorem s_L_102 : mm_St RL 102 yL_takeGreatest 2 := ⟨ki_L, ks_L_takeGreatest, ⟨by decide, by decide⟩, by decide +kernel, Or.inl kl_L_102⟩
theorem kl_L_21 : Cond.methodLink RL 21 yX7_takeGreatest ∈ mm_GW := (mm_in (i := 718) (by decide +kernel) (by decide +kernel))
theorem v_L_21_6 : mm_V RL 21 6 yX7_takeGreatest cX7_takeGreatest 2 (some .int) 0 := ⟨RX7, TX7, 4, rfl, kc_X7_takeGreatest, ki_X7, kn_X7_takeGreatest, Or.inl ⟨kl_L_21, (mm_in (i := 720) (by decide +kernel) (by decide +kernel)), ⟨by decide, by decide⟩, by decide +kernel⟩⟩
theorem kl_X7_66 : Cond.methodLink RX7 66 yX5_greatestOf ∈ mm_GW := (mm_in (i := 722) (by decide +kernel) (by decide +kernel))
theorem v_X7_66_4 : mm_V RX7 66 4 yX5_greatestOf cX5_greatestOf 2 (some .int) 1 := ⟨RX5, TX5, 4, rfl, kc_X5_greatestOf, ki_X5, kn_X5_greatestOf, Or.inl ⟨kl_X7_66, (mm_in (i := 687) (by decide +kernel) (by decide +kernel)), ⟨by decide, by decide⟩, by decide +kernel⟩⟩
theorem kl_L_105 : Cond.methodLink RL 105 yL_remove ∈ mm_GW := (mm_in (i := 723) (by decide +kernel) (by decide +kernel))
theorem s_L_105 : mm_St RL 105 yL_remove 3 := ⟨ki_L, ks_L_remove, ⟨by decide, by decide⟩, by decide +kernel, Or.inl kl_L_105⟩
theorem kl_L_24 : Cond.methodLink RL 24 yX7_remove ∈ mm_GW := (mm_in (i := 727) (by decide +kernel) (by decide +kernel))
theorem v_L_24_6 : mm_V RL 24 6 yX7_remove cX7_remove 3 (some .int) 1 := ⟨RX7, TX7, 4, rfl, kc_X7_remove, ki_X7, kn_X7_remove, Or.inl ⟨kl_L_24, (mm_in (i := 729) (by decide +kernel) (by decide +kernel)), ⟨by decide, by decide⟩, by decide +kernel⟩⟩
theorem kl_X7_69 : Cond.methodLink RX7 69 yX7_requireItem ∈ mm_GW := (mm_in (i := 731) (by decide +kernel) (by decide +kernel))
theorem v_X7_69_6 : mm_V RX7 69 6 yX7_requireItem cX7_requireItem 2 none 1 := ⟨RX7, TX7, 4, rfl, kc_X7_requireItem, ki_X7, kn_X7_requireItem, Or.inl ⟨kl_X7_69, (mm_inp (i := 21) (by decide +kernel) (by decide +kernel)), ⟨by decide, by decide⟩, by decide +kernel⟩⟩
theorem kl_X7_242 : Cond.methodLink RX7 242 ⟨"java/lang/IndexOutOfBoundsException", "<init>", "(Ljava/lang/String;)V"⟩ ∈ mm_GW := (mm_in (i := 745) (by decide +kernel) (by decide +kernel))
theorem kl_X7_75 : Cond.methodLink RX7 75 yX5_takeOut ∈ mm_GW := (mm_in (i := 751) (by decide +kernel) (by decide +kernel))
theorem v_X7_75_4 : mm_V RX7 75 4 yX5_takeOut cX5_takeOut 3 none 1 := ⟨RX5, TX5, 4, rfl, kc_X5_takeOut, ki_X5, kn_X5_takeOut, Or.inl ⟨kl_X7_75, (mm_in (i := 658) (by decide +kernel) (by decide +kernel)), ⟨by decide, by decide⟩, by decide +kernel⟩⟩
theorem kl_L_108 : Cond.methodLink RL 108 yL_change ∈ mm_GW := (mm_in (i := 752) (by decide +kernel) (by decide +kernel))
theorem s_L_108 : mm_St RL 108 yL_change 4 := ⟨ki_L, ks_L_change, ⟨by decide, by decide⟩, by decide +kernel, Or.inl kl_L_108⟩
theorem kl_L_29 : Cond.methodLink RL 29 yX7_change ∈ mm_GW := (mm_in (i := 755) (by decide +kernel) (by decide +kernel))
theorem v_L_29_6 : mm_V RL 29 6 yX7_change cX7_change 4 (some .int) 2 := ⟨RX7, TX7, 4, rfl, kc_X7_change, ki_X7, kn_X7_change, Or.inl ⟨kl_L_29, (mm_in (i := 757) (by decide +kernel) (by decide +kernel)), ⟨by decide, by decide⟩, by decide +kernel⟩⟩
theorem kl_X7_78 : Cond.methodLink RX7 78 yX5_giveKey ∈ mm_GW := (mm_in (i := 759) (by decide +kernel) (by decide +kernel))
theorem v_X7_78_4 : mm_V RX7 78 4 yX5_giveKey cX5_giveKey 4 none 2 := ⟨RX5, TX5, 4, rfl, kc_X5_giveKey, ki_X5, kn_X5_giveKey, Or.inl ⟨kl_X7_78, (mm_in (i := 705) (by decide +kernel) (by decide +kernel)), ⟨by decide, by decide⟩, by decide +kernel⟩⟩
theorem kl_L_128 : Cond.methodLink RL 128 yL_key ∈ mm_GW := (mm_in (i := 760) (by decide +kernel) (by decide +kernel))
theorem s_L_128 : mm_St RL 128 yL_key 3 := ⟨ki_L, ks_L_key, ⟨by decide, by decide⟩, by decide +kernel, Or.inl kl_L_128⟩
theorem kl_L_33 : Cond.methodLink RL 33 yX7_key ∈ mm_GW := (mm_in (i := 763) (by decide +kernel) (by decide +kernel))
theorem v_L_33_6 : mm_V RL 33 6 yX7_key cX7_key 2 (some .int) 1 := ⟨RX7, TX7, 4, rfl, kc_X7_key, ki_X7, kn_X7_key, Or.inl ⟨kl_L_33, (mm_in (i := 765) (by decide +kernel) (by decide +kernel)), ⟨by decide, by decide⟩, by decide +kernel⟩⟩
theorem kl_L_131 : Cond.methodLink RL 131 yL_fill ∈ mm_GW := (mm_in (i := 767) (by decide +kernel) (by decide +kernel))
theorem s_L_131 : mm_St RL 131 yL_fill 4 := ⟨ki_L, ks_L_fill, ⟨by decide, by decide⟩, by decide +kernel, Or.inl kl_L_131⟩
theorem kl_L_36 : Cond.methodLink RL 36 yX7_fill ∈ mm_GW := (mm_in (i := 770) (by decide +kernel) (by decide +kernel))
theorem v_L_36_6 : mm_V RL 36 6 yX7_fill cX7_fill 6 (some .int) 2 := ⟨RX7, TX7, 4, rfl, kc_X7_fill, ki_X7, kn_X7_fill, Or.inl ⟨kl_L_36, (mm_in (i := 772) (by decide +kernel) (by decide +kernel)), ⟨by decide, by decide⟩, by decide +kernel⟩⟩
theorem kl_L_134 : Cond.methodLink RL 134 yL_least ∈ mm_GW := (mm_in (i := 781) (by decide +kernel) (by decide +kernel))
theorem s_L_134 : mm_St RL 134 yL_least 3 := ⟨ki_L, ks_L_least, ⟨by decide, by decide⟩, by decide +kernel, Or.inl kl_L_134⟩
theorem kl_L_39 : Cond.methodLink RL 39 yX7_least ∈ mm_GW := (mm_in (i := 784) (by decide +kernel) (by decide +kernel))
theorem v_L_39_6 : mm_V RL 39 6 yX7_least cX7_least 2 (some .int) 1 := ⟨RX7, TX7, 4, rfl, kc_X7_least, ki_X7, kn_X7_least, Or.inl ⟨kl_L_39, (mm_in (i := 786) (by decide +kernel) (by decide +kernel)), ⟨by decide, by decide⟩, by decide +kernel⟩⟩
theorem kl_X7_111 : Cond.methodLink RX7 111 yX7_requireQueue ∈ mm_GW := (mm_in (i := 788) (by decide +kernel) (by decide +kernel))
theorem s_X7_111 : mm_St RX7 111 yX7_requireQueue 1 := ⟨ki_X7, ks_X7_requireQueue, ⟨by decide, by decide⟩, by decide +kernel, Or.inl kl_X7_111⟩
theorem kl_L_137 : Cond.methodLink RL 137 yL_greatest ∈ mm_GW := (mm_in (i := 792) (by decide +kernel) (by decide +kernel))
theorem s_L_137 : mm_St RL 137 yL_greatest 3 := ⟨ki_L, ks_L_greatest, ⟨by decide, by decide⟩, by decide +kernel, Or.inl kl_L_137⟩
theorem kl_L_42 : Cond.methodLink RL 42 yX7_greatest ∈ mm_GW := (mm_in (i := 795) (by decide +kernel) (by decide +kernel))
theorem v_L_42_6 : mm_V RL 42 6 yX7_greatest cX7_greatest 2 (some .int) 1 := ⟨RX7, TX7, 4, rfl, kc_X7_greatest, ki_X7, kn_X7_greatest, Or.inl ⟨kl_L_42, (mm_in (i := 797) (by decide +kernel) (by decide +kernel)), ⟨by decide, by decide⟩, by decide +kernel⟩⟩
theorem kl_L_144 : Cond.methodLink RL 144 yL_rank ∈ mm_GW := (mm_in (i := 799) (by decide +kernel) (by decide +kernel))
theorem s_L_144 : mm_St RL 144 yL_rank 3 := ⟨ki_L, ks_L_rank, ⟨by decide, by decide⟩, by decide +kernel, Or.inl kl_L_144⟩
theorem kl_L_45 : Cond.methodLink RL 45 yX7_rank ∈ mm_GW := (mm_in (i := 802) (by decide +kernel) (by decide +kernel))
theorem v_L_45_6 : mm_V RL 45 6 yX7_rank cX7_rank 2 (some .int) 1 := ⟨RX7, TX7, 4, rfl, kc_X7_rank, ki_X7, kn_X7_rank, Or.inl ⟨kl_L_45, (mm_in (i := 804) (by decide +kernel) (by decide +kernel)), ⟨by decide, by decide⟩, by decide +kernel⟩⟩
theorem kl_L_151 : Cond.methodLink RL 151 yL_at ∈ mm_GW := (mm_in (i := 806) (by decide +kernel) (by decide +kernel))
theorem s_L_151 : mm_St RL 151 yL_at 4 := ⟨ki_L, ks_L_at, ⟨by decide, by decide⟩, by decide +kernel, Or.inl kl_L_151⟩
theorem kl_L_48 : Cond.methodLink RL 48 yX7_at ∈ mm_GW := (mm_in (i := 809) (by decide +kernel) (by decide +kernel))
theorem v_L_48_6 : mm_V RL 48 6 yX7_at cX7_at 3 (some .int) 2 := ⟨RX7, TX7, 4, rfl, kc_X7_at, ki_X7, kn_X7_at, Or.inl ⟨kl_L_48, (mm_in (i := 811) (by decide +kernel) (by decide +kernel)), ⟨by decide, by decide⟩, by decide +kernel⟩⟩
theorem kl_X7_121 : Cond.methodLink RX7 121 yX7_requireLayout ∈ mm_GW := (mm_in (i := 813) (by decide +kernel) (by decide +kernel))
theorem s_X7_121 : mm_St RX7 121 yX7_requireLayout 1 := ⟨ki_X7, ks_X7_requireLayout, ⟨by decide, by decide⟩, by decide +kernel, Or.inl kl_X7_121⟩
theorem kl_L_154 : Cond.methodLink RL 154 yL_where ∈ mm_GW := (mm_in (i := 817) (by decide +kernel) (by decide +kernel))
theorem s_L_154 : mm_St RL 154 yL_where 4 := ⟨ki_L, ks_L_where, ⟨by decide, by decide⟩, by decide +kernel, Or.inl kl_L_154⟩
theorem kl_L_51 : Cond.methodLink RL 51 yX7_where ∈ mm_GW := (mm_in (i := 820) (by decide +kernel) (by decide +kernel))
theorem v_L_51_6 : mm_V RL 51 6 yX7_where cX7_where 3 (some .int) 2 := ⟨RX7, TX7, 4, rfl, kc_X7_where, ki_X7, kn_X7_where, Or.inl ⟨kl_L_51, (mm_in (i := 822) (by decide +kernel) (by decide +kernel)), ⟨by decide, by decide⟩, by decide +kernel⟩⟩
theorem kl_X7_133 : Cond.methodLink RX7 133 yX3_find ∈ mm_GW := (mm_in (i := 824) (by decide +kernel) (by decide +kernel))
theorem v_X7_133_0 : mm_V RX7 133 0 yX3_find cX3_find 3 (some .int) 1 := ⟨RX0, TX0, 4, rfl, kc_X3_find, ki_X3, kn_X3_find, Or.inr ⟨"TwoEndQueues$Layout", yX3_find, kl_X7_133, (mm_in (i := 228) (by decide +kernel) (by decide +kernel)), (mm_in (i := 229) (by decide +kernel) (by decide +kernel)), ⟨by decide, by decide⟩, by decide +kernel, Or.inl rfl⟩⟩
theorem v_X7_133_2 : mm_V RX7 133 2 yX3_find cX3_find 3 (some .int) 1 := ⟨RX2, TX2, 3, rfl, kc_X3_find, ki_X3, kn_X3_find, Or.inr ⟨"TwoEndQueues$Layout", yX3_find, kl_X7_133, (mm_in (i := 228) (by decide +kernel) (by decide +kernel)), (mm_in (i := 230) (by decide +kernel) (by decide +kernel)), ⟨by decide, by decide⟩, by decide +kernel, Or.inl rfl⟩⟩
theorem v_X7_133_3 : mm_V RX7 133 3 yX3_find cX3_find 3 (some .int) 1 := ⟨RX4, TX4, 3, rfl, kc_X3_find, ki_X3, kn_X3_find, Or.inr ⟨"TwoEndQueues$Layout", yX3_find, kl_X7_133, (mm_in (i := 228) (by decide +kernel) (by decide +kernel)), (mm_in (i := 231) (by decide +kernel) (by decide +kernel)), ⟨by decide, by decide⟩, by decide +kernel, Or.inl rfl⟩⟩
theorem v_X7_133 {ci : Nat} (h : ci = 0 ∨ ci = 2 ∨ ci = 3) : mm_V RX7 133 ci yX3_find cX3_find 3 (some .int) 1 := by rcases h with rfl | rfl | rfl <;> first | exact v_X7_133_0 | exact v_X7_133_2 | exact v_X7_133_3
theorem kl_L_157 : Cond.methodLink RL 157 yL_violations ∈ mm_GW := (mm_in (i := 825) (by decide +kernel) (by decide +kernel))
theorem s_L_157 : mm_St RL 157 yL_violations 3 := ⟨ki_L, ks_L_violations, ⟨by decide, by decide⟩, by decide +kernel, Or.inl kl_L_157⟩
theorem kl_L_54 : Cond.methodLink RL 54 yX7_violations ∈ mm_GW := (mm_in (i := 828) (by decide +kernel) (by decide +kernel))
theorem v_L_54_6 : mm_V RL 54 6 yX7_violations cX7_violations 2 (some .int) 1 := ⟨RX7, TX7, 4, rfl, kc_X7_violations, ki_X7, kn_X7_violations, Or.inl ⟨kl_L_54, (mm_in (i := 830) (by decide +kernel) (by decide +kernel)), ⟨by decide, by decide⟩, by decide +kernel⟩⟩
theorem kl_L_160 : Cond.methodLink RL 160 yL_disturb ∈ mm_GW := (mm_in (i := 832) (by decide +kernel) (by decide +kernel))
theorem s_L_160 : mm_St RL 160 yL_disturb 5 := ⟨ki_L, ks_L_disturb, ⟨by decide, by decide⟩, by decide +kernel, Or.inl kl_L_160⟩
theorem kl_L_57 : Cond.methodLink RL 57 yX7_disturb ∈ mm_GW := (mm_in (i := 835) (by decide +kernel) (by decide +kernel))
theorem v_L_57_6 : mm_V RL 57 6 yX7_disturb cX7_disturb 4 (some .int) 3 := ⟨RX7, TX7, 4, rfl, kc_X7_disturb, ki_X7, kn_X7_disturb, Or.inl ⟨kl_L_57, (mm_in (i := 837) (by decide +kernel) (by decide +kernel)), ⟨by decide, by decide⟩, by decide +kernel⟩⟩
theorem kl_X7_139 : Cond.methodLink RX7 139 yX7_requirePosition ∈ mm_GW := (mm_in (i := 839) (by decide +kernel) (by decide +kernel))
theorem v_X7_139_6 : mm_V RX7 139 6 yX7_requirePosition cX7_requirePosition 2 none 1 := ⟨RX7, TX7, 4, rfl, kc_X7_requirePosition, ki_X7, kn_X7_requirePosition, Or.inl ⟨kl_X7_139, (mm_inp (i := 22) (by decide +kernel) (by decide +kernel)), ⟨by decide, by decide⟩, by decide +kernel⟩⟩
theorem kl_X7_142 : Cond.methodLink RX7 142 yX3_exchange ∈ mm_GW := (mm_in (i := 844) (by decide +kernel) (by decide +kernel))
theorem v_X7_142_0 : mm_V RX7 142 0 yX3_exchange cX3_exchange 4 none 2 := ⟨RX0, TX0, 4, rfl, kc_X3_exchange, ki_X3, kn_X3_exchange, Or.inr ⟨"TwoEndQueues$Layout", yX3_exchange, kl_X7_142, (mm_in (i := 249) (by decide +kernel) (by decide +kernel)), (mm_in (i := 250) (by decide +kernel) (by decide +kernel)), ⟨by decide, by decide⟩, by decide +kernel, Or.inl rfl⟩⟩
theorem v_X7_142_2 : mm_V RX7 142 2 yX3_exchange cX3_exchange 4 none 2 := ⟨RX2, TX2, 3, rfl, kc_X3_exchange, ki_X3, kn_X3_exchange, Or.inr ⟨"TwoEndQueues$Layout", yX3_exchange, kl_X7_142, (mm_in (i := 249) (by decide +kernel) (by decide +kernel)), (mm_in (i := 251) (by decide +kernel) (by decide +kernel)), ⟨by decide, by decide⟩, by decide +kernel, Or.inl rfl⟩⟩
theorem v_X7_142_3 : mm_V RX7 142 3 yX3_exchange cX3_exchange 4 none 2 := ⟨RX4, TX4, 3, rfl, kc_X3_exchange, ki_X3, kn_X3_exchange, Or.inr ⟨"TwoEndQueues$Layout", yX3_exchange, kl_X7_142, (mm_in (i := 249) (by decide +kernel) (by decide +kernel)), (mm_in (i := 252) (by decide +kernel) (by decide +kernel)), ⟨by decide, by decide⟩, by decide +kernel, Or.inl rfl⟩⟩
theorem v_X7_142 {ci : Nat} (h : ci = 0 ∨ ci = 2 ∨ ci = 3) : mm_V RX7 142 ci yX3_exchange cX3_exchange 4 none 2 := by rcases h with rfl | rfl | rfl <;> first | exact v_X7_142_0 | exact v_X7_142_2 | exact v_X7_142_3
theorem kl_L_164 : Cond.methodLink RL 164 yL_level ∈ mm_GW := (mm_in (i := 845) (by decide +kernel) (by decide +kernel))
theorem s_L_164 : mm_St RL 164 yL_level 3 := ⟨ki_L, ks_L_level, ⟨by decide, by decide⟩, by decide +kernel, Or.inl kl_L_164⟩
theorem kl_L_61 : Cond.methodLink RL 61 yX7_level ∈ mm_GW := (mm_in (i := 848) (by decide +kernel) (by decide +kernel))
theorem v_L_61_6 : mm_V RL 61 6 yX7_level cX7_level 2 (some .int) 1 := ⟨RX7, TX7, 4, rfl, kc_X7_level, ki_X7, kn_X7_level, Or.inl ⟨kl_L_61, (mm_in (i := 850) (by decide +kernel) (by decide +kernel)), ⟨by decide, by decide⟩, by decide +kernel⟩⟩
theorem kl_X7_148 : Cond.methodLink RX7 148 yX4_levelOf ∈ mm_GW := (mm_in (i := 854) (by decide +kernel) (by decide +kernel))
theorem s_X7_148 : mm_St RX7 148 yX4_levelOf 1 := ⟨ki_X4, ks_X4_levelOf, ⟨by decide, by decide⟩, by decide +kernel, Or.inl kl_X7_148⟩
theorem kl_L_167 : Cond.methodLink RL 167 yL_ancestors ∈ mm_GW := (mm_in (i := 855) (by decide +kernel) (by decide +kernel))
theorem s_L_167 : mm_St RL 167 yL_ancestors 3 := ⟨ki_L, ks_L_ancestors, ⟨by decide, by decide⟩, by decide +kernel, Or.inl kl_L_167⟩
theorem kl_L_64 : Cond.methodLink RL 64 yX7_ancestors ∈ mm_GW := (mm_in (i := 858) (by decide +kernel) (by decide +kernel))
theorem v_L_64_6 : mm_V RL 64 6 yX7_ancestors cX7_ancestors 2 (some .int) 1 := ⟨RX7, TX7, 4, rfl, kc_X7_ancestors, ki_X7, kn_X7_ancestors, Or.inl ⟨kl_L_64, (mm_in (i := 860) (by decide +kernel) (by decide +kernel)), ⟨by decide, by decide⟩, by decide +kernel⟩⟩
theorem kl_X7_157 : Cond.methodLink RX7 157 yX0_handlesAbove ∈ mm_GW := (mm_in (i := 862) (by decide +kernel) (by decide +kernel))
theorem v_X7_157_0 : mm_V RX7 157 0 yX0_handlesAbove cX0_handlesAbove 4 (some .int) 1 := ⟨RX0, TX0, 4, rfl, kc_X0_handlesAbove, ki_X0, kn_X0_handlesAbove, Or.inl ⟨kl_X7_157, (mm_in (i := 864) (by decide +kernel) (by decide +kernel)), ⟨by decide, by decide⟩, by decide +kernel⟩⟩
theorem kl_X0_15 : Cond.methodLink RX0 15 ⟨"TwoEndQueues$HeapLayout", "find", "(I)I"⟩ ∈ mm_GW := (mm_in (i := 866) (by decide +kernel) (by decide +kernel))
theorem v_X0_15_0 : mm_V RX0 15 0 yX3_find cX3_find 3 (some .int) 1 := ⟨RX0, TX0, 4, rfl, kc_X3_find, ki_X3, kn_X3_find, Or.inr ⟨"TwoEndQueues$Layout", ⟨"TwoEndQueues$HeapLayout", "find", "(I)I"⟩, kl_X0_15, (mm_in (i := 867) (by decide +kernel) (by decide +kernel)), (mm_in (i := 868) (by decide +kernel) (by decide +kernel)), ⟨by decide, by decide⟩, by decide +kernel, Or.inl rfl⟩⟩
theorem kl_X0_22 : Cond.methodLink RX0 22 ⟨"TwoEndQueues$HeapLayout", "handleAt", "(I)I"⟩ ∈ mm_GW := (mm_in (i := 869) (by decide +kernel) (by decide +kernel))
theorem v_X0_22_0 : mm_V RX0 22 0 yX3_handleAt cX3_handleAt 2 (some .int) 1 := ⟨RX0, TX0, 4, rfl, kc_X3_handleAt, ki_X3, kn_X3_handleAt, Or.inr ⟨"TwoEndQueues$Layout", ⟨"TwoEndQueues$HeapLayout", "handleAt", "(I)I"⟩, kl_X0_22, (mm_in (i := 701) (by decide +kernel) (by decide +kernel)), (mm_in (i := 702) (by decide +kernel) (by decide +kernel)), ⟨by decide, by decide⟩, by decide +kernel, Or.inl rfl⟩⟩
theorem kl_X7_165 : Cond.methodLink RX7 165 yJ6_bitCount_0f7a4 ∈ mm_GW := (mm_in (i := 870) (by decide +kernel) (by decide +kernel))
theorem s_X7_165 : mm_St RX7 165 yJ6_bitCount_0f7a4 1 := ⟨ki_J6, ks_J6_bitCount_0f7a4, ⟨by decide, by decide⟩, by decide +kernel, Or.inl kl_X7_165⟩
theorem kl_L_170 : Cond.methodLink RL 170 yL_comparisons ∈ mm_GW := (mm_in (i := 876) (by decide +kernel) (by decide +kernel))
theorem s_L_170 : mm_St RL 170 yL_comparisons 3 := ⟨ki_L, ks_L_comparisons, ⟨by decide, by decide⟩, by decide +kernel, Or.inl kl_L_170⟩
theorem kl_L_67 : Cond.methodLink RL 67 yX7_comparisons ∈ mm_GW := (mm_in (i := 879) (by decide +kernel) (by decide +kernel))
theorem v_L_67_6 : mm_V RL 67 6 yX7_comparisons cX7_comparisons 2 (some .int) 1 := ⟨RX7, TX7, 4, rfl, kc_X7_comparisons, ki_X7, kn_X7_comparisons, Or.inl ⟨kl_L_67, (mm_in (i := 881) (by decide +kernel) (by decide +kernel)), ⟨by decide, by decide⟩, by decide +kernel⟩⟩
theorem kl_L_177 : Cond.methodLink RL 177 yL_wouldNeed ∈ mm_GW := (mm_in (i := 883) (by decide +kernel) (by decide +kernel))
theorem s_L_177 : mm_St RL 177 yL_wouldNeed 5 := ⟨ki_L, ks_L_wouldNeed, ⟨by decide, by decide⟩, by decide +kernel, Or.inl kl_L_177⟩
theorem kl_L_70 : Cond.methodLink RL 70 yX7_wouldNeed ∈ mm_GW := (mm_in (i := 886) (by decide +kernel) (by decide +kernel))
theorem v_L_70_6 : mm_V RL 70 6 yX7_wouldNeed cX7_wouldNeed 4 (some .int) 3 := ⟨RX7, TX7, 4, rfl, kc_X7_wouldNeed, ki_X7, kn_X7_wouldNeed, Or.inl ⟨kl_L_70, (mm_in (i := 888) (by decide +kernel) (by decide +kernel)), ⟨by decide, by decide⟩, by decide +kernel⟩⟩
theorem kl_X7_178 : Cond.methodLink RX7 178 yX5_copyFrom ∈ mm_GW := (mm_in (i := 891) (by decide +kernel) (by decide +kernel))
theorem v_X7_178_4 : mm_V RX7 178 4 yX5_copyFrom cX5_copyFrom 3 none 1 := ⟨RX5, TX5, 4, rfl, kc_X5_copyFrom, ki_X5, kn_X5_copyFrom, Or.inl ⟨kl_X7_178, (mm_in (i := 184) (by decide +kernel) (by decide +kernel)), ⟨by decide, by decide⟩, by decide +kernel⟩⟩
theorem kl_L_180 : Cond.methodLink RL 180 yL_sortingNeeds ∈ mm_GW := (mm_in (i := 892) (by decide +kernel) (by decide +kernel))
theorem s_L_180 : mm_St RL 180 yL_sortingNeeds 3 := ⟨ki_L, ks_L_sortingNeeds, ⟨by decide, by decide⟩, by decide +kernel, Or.inl kl_L_180⟩
theorem kl_L_73 : Cond.methodLink RL 73 yX7_sortingNeeds ∈ mm_GW := (mm_in (i := 895) (by decide +kernel) (by decide +kernel))
theorem v_L_73_6 : mm_V RL 73 6 yX7_sortingNeeds cX7_sortingNeeds 3 (some .int) 1 := ⟨RX7, TX7, 4, rfl, kc_X7_sortingNeeds, ki_X7, kn_X7_sortingNeeds, Or.inl ⟨kl_L_73, (mm_in (i := 897) (by decide +kernel) (by decide +kernel)), ⟨by decide, by decide⟩, by decide +kernel⟩⟩
theorem kl_X7_181 : Cond.methodLink RX7 181 yX5_takeOutOf ∈ mm_GW := (mm_in (i := 899) (by decide +kernel) (by decide +kernel))
theorem v_X7_181_4 : mm_V RX7 181 4 yX5_takeOutOf cX5_takeOutOf 3 none 2 := ⟨RX5, TX5, 4, rfl, kc_X5_takeOutOf, ki_X5, kn_X5_takeOutOf, Or.inl ⟨kl_X7_181, (mm_in (i := 901) (by decide +kernel) (by decide +kernel)), ⟨by decide, by decide⟩, by decide +kernel⟩⟩
theorem kl_X5_90 : Cond.methodLink RX5 90 ⟨"TwoEndQueues$HeapLayout", "takeOut", "(I)V"⟩ ∈ mm_GW := (mm_in (i := 903) (by decide +kernel) (by decide +kernel))
theorem v_X5_90_0 : mm_V RX5 90 0 yX3_takeOut cX3_takeOut 3 none 1 := ⟨RX0, TX0, 4, rfl, kc_X3_takeOut, ki_X3, kn_X3_takeOut, Or.inr ⟨"TwoEndQueues$Layout", ⟨"TwoEndQueues$HeapLayout", "takeOut", "(I)V"⟩, kl_X5_90, (mm_in (i := 904) (by decide +kernel) (by decide +kernel)), (mm_in (i := 906) (by decide +kernel) (by decide +kernel)), ⟨by decide, by decide⟩, by decide +kernel, Or.inl rfl⟩⟩
theorem kl_L_187 : Cond.methodLink RL 187 yL_type ∈ mm_GW := (mm_in (i := 907) (by decide +kernel) (by decide +kernel))
theorem s_L_187 : mm_St RL 187 yL_type 3 := ⟨ki_L, ks_L_type, ⟨by decide, by decide⟩, by decide +kernel, Or.inl kl_L_187⟩
theorem kl_L_76 : Cond.methodLink RL 76 yX7_type ∈ mm_GW := (mm_in (i := 910) (by decide +kernel) (by decide +kernel))
theorem v_L_76_6 : mm_V RL 76 6 yX7_type cX7_type 2 (some .int) 1 := ⟨RX7, TX7, 4, rfl, kc_X7_type, ki_X7, kn_X7_type, Or.inl ⟨kl_L_76, (mm_in (i := 912) (by decide +kernel) (by decide +kernel)), ⟨by decide, by decide⟩, by decide +kernel⟩⟩
theorem kl_X7_192 : Cond.methodLink RX7 192 yX6_append ∈ mm_GW := (mm_in (i := 916) (by decide +kernel) (by decide +kernel))
theorem v_X7_192_5 : mm_V RX7 192 5 yX6_append cX6_append 2 none 1 := ⟨RX6, TX6, 7, rfl, kc_X6_append, ki_X6, kn_X6_append, Or.inl ⟨kl_X7_192, (mm_in (i := 918) (by decide +kernel) (by decide +kernel)), ⟨by decide, by decide⟩, by decide +kernel⟩⟩
theorem kl_L_198 : Cond.methodLink RL 198 yL_run ∈ mm_GW := (mm_in (i := 920) (by decide +kernel) (by decide +kernel))
theorem s_L_198 : mm_St RL 198 yL_run 2 := ⟨ki_L, ks_L_run, ⟨by decide, by decide⟩, by decide +kernel, Or.inl kl_L_198⟩
theorem kl_L_79 : Cond.methodLink RL 79 yX7_run ∈ mm_GW := (mm_in (i := 923) (by decide +kernel) (by decide +kernel))
theorem v_L_79_6 : mm_V RL 79 6 yX7_run cX7_run 3 (some .int) 0 := ⟨RX7, TX7, 4, rfl, kc_X7_run, ki_X7, kn_X7_run, Or.inl ⟨kl_L_79, (mm_in (i := 925) (by decide +kernel) (by decide +kernel)), ⟨by decide, by decide⟩, by decide +kernel⟩⟩
theorem kl_X7_201 : Cond.methodLink RX7 201 yX6_rewind ∈ mm_GW := (mm_in (i := 928) (by decide +kernel) (by decide +kernel))
theorem v_X7_201_5 : mm_V RX7 201 5 yX6_rewind cX6_rewind 1 none 0 := ⟨RX6, TX6, 7, rfl, kc_X6_rewind, ki_X6, kn_X6_rewind, Or.inl ⟨kl_X7_201, (mm_in (i := 424) (by decide +kernel) (by decide +kernel)), ⟨by decide, by decide⟩, by decide +kernel⟩⟩
theorem kl_X7_204 : Cond.methodLink RX7 204 yX6_readCommand ∈ mm_GW := (mm_in (i := 929) (by decide +kernel) (by decide +kernel))
theorem v_X7_204_5 : mm_V RX7 204 5 yX6_readCommand cX6_readCommand 1 (some .boolean) 0 := ⟨RX6, TX6, 7, rfl, kc_X6_readCommand, ki_X6, kn_X6_readCommand, Or.inl ⟨kl_X7_204, (mm_in (i := 428) (by decide +kernel) (by decide +kernel)), ⟨by decide, by decide⟩, by decide +kernel⟩⟩
theorem kl_L_201 : Cond.methodLink RL 201 yL_undo ∈ mm_GW := (mm_in (i := 930) (by decide +kernel) (by decide +kernel))
theorem s_L_201 : mm_St RL 201 yL_undo 2 := ⟨ki_L, ks_L_undo, ⟨by decide, by decide⟩, by decide +kernel, Or.inl kl_L_201⟩
theorem kl_L_82 : Cond.methodLink RL 82 yX7_undo ∈ mm_GW := (mm_in (i := 933) (by decide +kernel) (by decide +kernel))
theorem v_L_82_6 : mm_V RL 82 6 yX7_undo cX7_undo 1 (some .int) 0 := ⟨RX7, TX7, 4, rfl, kc_X7_undo, ki_X7, kn_X7_undo, Or.inl ⟨kl_L_82, (mm_in (i := 935) (by decide +kernel) (by decide +kernel)), ⟨by decide, by decide⟩, by decide +kernel⟩⟩
theorem kl_X7_222 : Cond.methodLink RX7 222 yX1_restore ∈ mm_GW := (mm_in (i := 938) (by decide +kernel) (by decide +kernel))
theorem v_X7_222_1 : mm_V RX7 222 1 yX1_restore cX1_restore 4 none 1 := ⟨RX1, TX1, 3, rfl, kc_X1_restore, ki_X1, kn_X1_restore, Or.inl ⟨kl_X7_222, (mm_in (i := 940) (by decide +kernel) (by decide +kernel)), ⟨by decide, by decide⟩, by decide +kernel⟩⟩
theorem kl_L_88 : Cond.methodLink RL 88 yX8_init ∈ mm_GW := (mm_in (i := 944) (by decide +kernel) (by decide +kernel))
theorem n_L_88 : mm_In RL 88 yX8_init cX8_init 1 0 := ⟨kc_X8_init, ki_X8, kn_X8_init, rfl, ⟨by decide, by decide⟩, by decide +kernel, Or.inl kl_L_88⟩
theorem kl_X8_1 : Cond.methodLink RX8 1 Lib.objectInit ∈ mm_GW := (mm_in (i := 947) (by decide +kernel) (by decide +kernel))
theorem kl_L_95 : Cond.methodLink RL 95 yX8_thrown ∈ mm_GW := (mm_in (i := 982) (by decide +kernel) (by decide +kernel))
theorem v_L_95_7 : mm_V RL 95 7 yX8_thrown cX8_thrown 1 (some .int) 0 := ⟨RX8, TX8, 11, rfl, kc_X8_thrown, ki_X8, kn_X8_thrown, Or.inl ⟨kl_L_95, (mm_in (i := 984) (by decide +kernel) (by decide +kernel)), ⟨by decide, by decide⟩, by decide +kernel⟩⟩
theorem kl_L_203 : Cond.methodLink RL 203 yX8_undo ∈ mm_GW := (mm_in (i := 986) (by decide +kernel) (by decide +kernel))
theorem v_L_203_7 : mm_V RL 203 7 yX8_undo cX8_undo 2 (some .int) 0 := ⟨RX8, TX8, 11, rfl, kc_X8_undo, ki_X8, kn_X8_undo, Or.inl ⟨kl_L_203, (mm_in (i := 988) (by decide +kernel) (by decide +kernel)), ⟨by decide, by decide⟩, by decide +kernel⟩⟩
theorem kl_X8_29 : Cond.methodLink RX8 29 yX8_refused ∈ mm_GW := (mm_in (i := 990) (by decide +kernel) (by decide +kernel))
theorem v_X8_29_7 : mm_V RX8 29 7 yX8_refused cX8_refused 2 (some .boolean) 1 := ⟨RX8, TX8, 11, rfl, kc_X8_refused, ki_X8, kn_X8_refused, Or.inl ⟨kl_X8_29, (mm_inp (i := 23) (by decide +kernel) (by decide +kernel)), ⟨by decide, by decide⟩, by decide +kernel⟩⟩
theorem kl_L_94 : Cond.methodLink RL 94 yX8_insert ∈ mm_GW := (mm_in (i := 994) (by decide +kernel) (by decide +kernel))
theorem v_L_94_7 : mm_V RL 94 7 yX8_insert cX8_insert 2 (some .int) 1 := ⟨RX8, TX8, 11, rfl, kc_X8_insert, ki_X8, kn_X8_insert, Or.inl ⟨kl_L_94, (mm_in (i := 996) (by decide +kernel) (by decide +kernel)), ⟨by decide, by decide⟩, by decide +kernel⟩⟩
theorem kl_X8_138 : Cond.methodLink RX8 138 yX8_isKey ∈ mm_GW := (mm_in (i := 998) (by decide +kernel) (by decide +kernel))
theorem s_X8_138 : mm_St RX8 138 yX8_isKey 1 := ⟨ki_X8, ks_X8_isKey, ⟨by decide, by decide⟩, by decide +kernel, Or.inl kl_X8_138⟩
theorem kl_X8_33 : Cond.methodLink RX8 33 yX8_within ∈ mm_GW := (mm_in (i := 1001) (by decide +kernel) (by decide +kernel))
theorem s_X8_33 : mm_St RX8 33 yX8_within 3 := ⟨ki_X8, ks_X8_within, ⟨by decide, by decide⟩, by decide +kernel, Or.inl kl_X8_33⟩
theorem kl_X8_95 : Cond.methodLink RX8 95 yX8_many ∈ mm_GW := (mm_in (i := 1004) (by decide +kernel) (by decide +kernel))
theorem v_X8_95_7 : mm_V RX8 95 7 yX8_many cX8_many 1 (some .int) 0 := ⟨RX8, TX8, 11, rfl, kc_X8_many, ki_X8, kn_X8_many, Or.inl ⟨kl_X8_95, (mm_inp (i := 24) (by decide +kernel) (by decide +kernel)), ⟨by decide, by decide⟩, by decide +kernel⟩⟩
theorem kl_X8_141 : Cond.methodLink RX8 141 yX8_saves ∈ mm_GW := (mm_in (i := 1008) (by decide +kernel) (by decide +kernel))
theorem v_X8_141_7 : mm_V RX8 141 7 yX8_saves cX8_saves 2 none 0 := ⟨RX8, TX8, 11, rfl, kc_X8_saves, ki_X8, kn_X8_saves, Or.inl ⟨kl_X8_141, (mm_inp (i := 25) (by decide +kernel) (by decide +kernel)), ⟨by decide, by decide⟩, by decide +kernel⟩⟩
theorem kl_X8_144 : Cond.methodLink RX8 144 yX8_inserts ∈ mm_GW := (mm_in (i := 1012) (by decide +kernel) (by decide +kernel))
theorem v_X8_144_7 : mm_V RX8 144 7 yX8_inserts cX8_inserts 4 (some .int) 2 := ⟨RX8, TX8, 11, rfl, kc_X8_inserts, ki_X8, kn_X8_inserts, Or.inl ⟨kl_X8_144, (mm_inp (i := 26) (by decide +kernel) (by decide +kernel)), ⟨by decide, by decide⟩, by decide +kernel⟩⟩
theorem kl_X8_133 : Cond.methodLink RX8 133 yX8_freeHandle ∈ mm_GW := (mm_in (i := 1016) (by decide +kernel) (by decide +kernel))
theorem v_X8_133_7 : mm_V RX8 133 7 yX8_freeHandle cX8_freeHandle 2 (some .int) 0 := ⟨RX8, TX8, 11, rfl, kc_X8_freeHandle, ki_X8, kn_X8_freeHandle, Or.inl ⟨kl_X8_133, (mm_inp (i := 27) (by decide +kernel) (by decide +kernel)), ⟨by decide, by decide⟩, by decide +kernel⟩⟩
theorem kl_X8_136 : Cond.methodLink RX8 136 yX8_enters_ ∈ mm_GW := (mm_in (i := 1020) (by decide +kernel) (by decide +kernel))
theorem v_X8_136_7 : mm_V RX8 136 7 yX8_enters_ cX8_enters_ 5 none 2 := ⟨RX8, TX8, 11, rfl, kc_X8_enters_, ki_X8, kn_X8_enters_, Or.inl ⟨kl_X8_136, (mm_inp (i := 28) (by decide +kernel) (by decide +kernel)), ⟨by decide, by decide⟩, by decide +kernel⟩⟩
theorem kl_X8_45 : Cond.methodLink RX8 45 yX8_lays ∈ mm_GW := (mm_in (i := 1024) (by decide +kernel) (by decide +kernel))
theorem v_X8_45_7 : mm_V RX8 45 7 yX8_lays cX8_lays 4 none 3 := ⟨RX8, TX8, 11, rfl, kc_X8_lays, ki_X8, kn_X8_lays, Or.inl ⟨kl_X8_45, (mm_inp (i := 29) (by decide +kernel) (by decide +kernel)), ⟨by decide, by decide⟩, by decide +kernel⟩⟩
theorem kl_X8_99 : Cond.methodLink RX8 99 yX8_comesFirst ∈ mm_GW := (mm_in (i := 1028) (by decide +kernel) (by decide +kernel))
theorem v_X8_99_7 : mm_V RX8 99 7 yX8_comesFirst cX8_comesFirst 4 none 1 := ⟨RX8, TX8, 11, rfl, kc_X8_comesFirst, ki_X8, kn_X8_comesFirst, Or.inl ⟨kl_X8_99, (mm_inp (i := 30) (by decide +kernel) (by decide +kernel)), ⟨by decide, by decide⟩, by decide +kernel⟩⟩
theorem kl_X8_52 : Cond.methodLink RX8 52 yX8_less ∈ mm_GW := (mm_in (i := 1032) (by decide +kernel) (by decide +kernel))
theorem v_X8_52_7 : mm_V RX8 52 7 yX8_less cX8_less 4 (some .boolean) 3 := ⟨RX8, TX8, 11, rfl, kc_X8_less, ki_X8, kn_X8_less, Or.inl ⟨kl_X8_52, (mm_inp (i := 31) (by decide +kernel) (by decide +kernel)), ⟨by decide, by decide⟩, by decide +kernel⟩⟩
theorem kl_X8_37 : Cond.methodLink RX8 37 yX8_item ∈ mm_GW := (mm_in (i := 1036) (by decide +kernel) (by decide +kernel))
theorem v_X8_37_7 : mm_V RX8 37 7 yX8_item cX8_item 3 (some .int) 2 := ⟨RX8, TX8, 11, rfl, kc_X8_item, ki_X8, kn_X8_item, Or.inl ⟨kl_X8_37, (mm_inp (i := 32) (by decide +kernel) (by decide +kernel)), ⟨by decide, by decide⟩, by decide +kernel⟩⟩
theorem kl_X8_41 : Cond.methodLink RX8 41 yX8_isLess ∈ mm_GW := (mm_in (i := 1040) (by decide +kernel) (by decide +kernel))
theorem v_X8_41_7 : mm_V RX8 41 7 yX8_isLess cX8_isLess 3 (some .boolean) 2 := ⟨RX8, TX8, 11, rfl, kc_X8_isLess, ki_X8, kn_X8_isLess, Or.inl ⟨kl_X8_41, (mm_inp (i := 33) (by decide +kernel) (by decide +kernel)), ⟨by decide, by decide⟩, by decide +kernel⟩⟩
theorem kl_X8_55 : Cond.methodLink RX8 55 yX8_exchange ∈ mm_GW := (mm_in (i := 1044) (by decide +kernel) (by decide +kernel))
theorem v_X8_55_7 : mm_V RX8 55 7 yX8_exchange cX8_exchange 5 none 3 := ⟨RX8, TX8, 11, rfl, kc_X8_exchange, ki_X8, kn_X8_exchange, Or.inl ⟨kl_X8_55, (mm_inp (i := 34) (by decide +kernel) (by decide +kernel)), ⟨by decide, by decide⟩, by decide +kernel⟩⟩
theorem kl_X8_65 : Cond.methodLink RX8 65 yX8_risesLow ∈ mm_GW := (mm_in (i := 1048) (by decide +kernel) (by decide +kernel))
theorem v_X8_65_7 : mm_V RX8 65 7 yX8_risesLow cX8_risesLow 3 none 1 := ⟨RX8, TX8, 11, rfl, kc_X8_risesLow, ki_X8, kn_X8_risesLow, Or.inl ⟨kl_X8_65, (mm_inp (i := 35) (by decide +kernel) (by decide +kernel)), ⟨by decide, by decide⟩, by decide +kernel⟩⟩
theorem kl_X8_69 : Cond.methodLink RX8 69 yX8_risesHigh ∈ mm_GW := (mm_in (i := 1052) (by decide +kernel) (by decide +kernel))
theorem v_X8_69_7 : mm_V RX8 69 7 yX8_risesHigh cX8_risesHigh 6 none 2 := ⟨RX8, TX8, 11, rfl, kc_X8_risesHigh, ki_X8, kn_X8_risesHigh, Or.inl ⟨kl_X8_69, (mm_inp (i := 36) (by decide +kernel) (by decide +kernel)), ⟨by decide, by decide⟩, by decide +kernel⟩⟩
theorem kl_X8_102 : Cond.methodLink RX8 102 yX8_enters ∈ mm_GW := (mm_in (i := 1056) (by decide +kernel) (by decide +kernel))
theorem v_X8_102_7 : mm_V RX8 102 7 yX8_enters cX8_enters 3 none 1 := ⟨RX8, TX8, 11, rfl, kc_X8_enters, ki_X8, kn_X8_enters, Or.inl ⟨kl_X8_102, (mm_inp (i := 37) (by decide +kernel) (by decide +kernel)), ⟨by decide, by decide⟩, by decide +kernel⟩⟩
theorem kl_X8_82 : Cond.methodLink RX8 82 yX8_isLow ∈ mm_GW := (mm_in (i := 1060) (by decide +kernel) (by decide +kernel))
theorem s_X8_82 : mm_St RX8 82 yX8_isLow 1 := ⟨ki_X8, ks_X8_isLow, ⟨by decide, by decide⟩, by decide +kernel, Or.inl kl_X8_82⟩
theorem kl_X8_78 : Cond.methodLink RX8 78 yX8_levelOf ∈ mm_GW := (mm_in (i := 1063) (by decide +kernel) (by decide +kernel))
theorem s_X8_78 : mm_St RX8 78 yX8_levelOf 1 := ⟨ki_X8, ks_X8_levelOf, ⟨by decide, by decide⟩, by decide +kernel, Or.inl kl_X8_78⟩
theorem kl_X8_85 : Cond.methodLink RX8 85 yX8_leads ∈ mm_GW := (mm_in (i := 1066) (by decide +kernel) (by decide +kernel))
theorem v_X8_85_7 : mm_V RX8 85 7 yX8_leads cX8_leads 4 (some .boolean) 3 := ⟨RX8, TX8, 11, rfl, kc_X8_leads, ki_X8, kn_X8_leads, Or.inl ⟨kl_X8_85, (mm_inp (i := 38) (by decide +kernel) (by decide +kernel)), ⟨by decide, by decide⟩, by decide +kernel⟩⟩
theorem kl_X8_89 : Cond.methodLink RX8 89 yX8_rises ∈ mm_GW := (mm_in (i := 1070) (by decide +kernel) (by decide +kernel))
theorem v_X8_89_7 : mm_V RX8 89 7 yX8_rises cX8_rises 4 none 1 := ⟨RX8, TX8, 11, rfl, kc_X8_rises, ki_X8, kn_X8_rises, Or.inl ⟨kl_X8_89, (mm_inp (i := 39) (by decide +kernel) (by decide +kernel)), ⟨by decide, by decide⟩, by decide +kernel⟩⟩
theorem kl_X8_105 : Cond.methodLink RX8 105 yX8_up ∈ mm_GW := (mm_in (i := 1074) (by decide +kernel) (by decide +kernel))
theorem v_X8_105_7 : mm_V RX8 105 7 yX8_up cX8_up 4 none 2 := ⟨RX8, TX8, 11, rfl, kc_X8_up, ki_X8, kn_X8_up, Or.inl ⟨kl_X8_105, (mm_inp (i := 40) (by decide +kernel) (by decide +kernel)), ⟨by decide, by decide⟩, by decide +kernel⟩⟩
theorem kl_X8_92 : Cond.methodLink RX8 92 yX8_isAhead ∈ mm_GW := (mm_in (i := 1078) (by decide +kernel) (by decide +kernel))
theorem v_X8_92_7 : mm_V RX8 92 7 yX8_isAhead cX8_isAhead 4 (some .boolean) 3 := ⟨RX8, TX8, 11, rfl, kc_X8_isAhead, ki_X8, kn_X8_isAhead, Or.inl ⟨kl_X8_92, (mm_inp (i := 41) (by decide +kernel) (by decide +kernel)), ⟨by decide, by decide⟩, by decide +kernel⟩⟩
theorem kl_L_101 : Cond.methodLink RL 101 yX8_takeLeast ∈ mm_GW := (mm_in (i := 1082) (by decide +kernel) (by decide +kernel))
theorem v_L_101_7 : mm_V RL 101 7 yX8_takeLeast cX8_takeLeast 2 (some .int) 0 := ⟨RX8, TX8, 11, rfl, kc_X8_takeLeast, ki_X8, kn_X8_takeLeast, Or.inl ⟨kl_L_101, (mm_in (i := 1084) (by decide +kernel) (by decide +kernel)), ⟨by decide, by decide⟩, by decide +kernel⟩⟩
theorem kl_X8_147 : Cond.methodLink RX8 147 yX8_leastOf ∈ mm_GW := (mm_in (i := 1086) (by decide +kernel) (by decide +kernel))
theorem v_X8_147_7 : mm_V RX8 147 7 yX8_leastOf cX8_leastOf 2 (some .int) 1 := ⟨RX8, TX8, 11, rfl, kc_X8_leastOf, ki_X8, kn_X8_leastOf, Or.inl ⟨kl_X8_147, (mm_inp (i := 42) (by decide +kernel) (by decide +kernel)), ⟨by decide, by decide⟩, by decide +kernel⟩⟩
theorem kl_X8_150 : Cond.methodLink RX8 150 yX8_goes ∈ mm_GW := (mm_in (i := 1090) (by decide +kernel) (by decide +kernel))
theorem v_X8_150_7 : mm_V RX8 150 7 yX8_goes cX8_goes 6 none 2 := ⟨RX8, TX8, 11, rfl, kc_X8_goes, ki_X8, kn_X8_goes, Or.inl ⟨kl_X8_150, (mm_inp (i := 43) (by decide +kernel) (by decide +kernel)), ⟨by decide, by decide⟩, by decide +kernel⟩⟩
theorem kl_X8_117 : Cond.methodLink RX8 117 yX8_placeOf ∈ mm_GW := (mm_in (i := 1094) (by decide +kernel) (by decide +kernel))
theorem v_X8_117_7 : mm_V RX8 117 7 yX8_placeOf cX8_placeOf 4 (some .int) 2 := ⟨RX8, TX8, 11, rfl, kc_X8_placeOf, ki_X8, kn_X8_placeOf, Or.inl ⟨kl_X8_117, (mm_inp (i := 44) (by decide +kernel) (by decide +kernel)), ⟨by decide, by decide⟩, by decide +kernel⟩⟩
theorem kl_X8_120 : Cond.methodLink RX8 120 yX8_closes ∈ mm_GW := (mm_in (i := 1098) (by decide +kernel) (by decide +kernel))
theorem v_X8_120_7 : mm_V RX8 120 7 yX8_closes cX8_closes 4 (some .int) 3 := ⟨RX8, TX8, 11, rfl, kc_X8_closes, ki_X8, kn_X8_closes, Or.inl ⟨kl_X8_120, (mm_inp (i := 45) (by decide +kernel) (by decide +kernel)), ⟨by decide, by decide⟩, by decide +kernel⟩⟩
theorem kl_X8_124 : Cond.methodLink RX8 124 yX8_moves ∈ mm_GW := (mm_in (i := 1102) (by decide +kernel) (by decide +kernel))
theorem v_X8_124_7 : mm_V RX8 124 7 yX8_moves cX8_moves 4 none 3 := ⟨RX8, TX8, 11, rfl, kc_X8_moves, ki_X8, kn_X8_moves, Or.inl ⟨kl_X8_124, (mm_inp (i := 46) (by decide +kernel) (by decide +kernel)), ⟨by decide, by decide⟩, by decide +kernel⟩⟩
theorem kl_X8_108 : Cond.methodLink RX8 108 yX8_settles ∈ mm_GW := (mm_in (i := 1106) (by decide +kernel) (by decide +kernel))
theorem v_X8_108_7 : mm_V RX8 108 7 yX8_settles cX8_settles 3 none 2 := ⟨RX8, TX8, 11, rfl, kc_X8_settles, ki_X8, kn_X8_settles, Or.inl ⟨kl_X8_108, (mm_inp (i := 47) (by decide +kernel) (by decide +kernel)), ⟨by decide, by decide⟩, by decide +kernel⟩⟩
theorem kl_X8_58 : Cond.methodLink RX8 58 yX8_orders ∈ mm_GW := (mm_in (i := 1110) (by decide +kernel) (by decide +kernel))
theorem v_X8_58_7 : mm_V RX8 58 7 yX8_orders cX8_orders 3 none 2 := ⟨RX8, TX8, 11, rfl, kc_X8_orders, ki_X8, kn_X8_orders, Or.inl ⟨kl_X8_58, (mm_inp (i := 48) (by decide +kernel) (by decide +kernel)), ⟨by decide, by decide⟩, by decide +kernel⟩⟩
theorem kl_X8_62 : Cond.methodLink RX8 62 yX8_topOf ∈ mm_GW := (mm_in (i := 1114) (by decide +kernel) (by decide +kernel))
theorem v_X8_62_7 : mm_V RX8 62 7 yX8_topOf cX8_topOf 3 (some .int) 2 := ⟨RX8, TX8, 11, rfl, kc_X8_topOf, ki_X8, kn_X8_topOf, Or.inl ⟨kl_X8_62, (mm_inp (i := 49) (by decide +kernel) (by decide +kernel)), ⟨by decide, by decide⟩, by decide +kernel⟩⟩
theorem kl_X8_72 : Cond.methodLink RX8 72 yX8_sinksLow ∈ mm_GW := (mm_in (i := 1118) (by decide +kernel) (by decide +kernel))
theorem v_X8_72_7 : mm_V RX8 72 7 yX8_sinksLow cX8_sinksLow 6 none 2 := ⟨RX8, TX8, 11, rfl, kc_X8_sinksLow, ki_X8, kn_X8_sinksLow, Or.inl ⟨kl_X8_72, (mm_inp (i := 50) (by decide +kernel) (by decide +kernel)), ⟨by decide, by decide⟩, by decide +kernel⟩⟩
theorem kl_X8_75 : Cond.methodLink RX8 75 yX8_sinksHigh ∈ mm_GW := (mm_in (i := 1122) (by decide +kernel) (by decide +kernel))
theorem v_X8_75_7 : mm_V RX8 75 7 yX8_sinksHigh cX8_sinksHigh 6 none 2 := ⟨RX8, TX8, 11, rfl, kc_X8_sinksHigh, ki_X8, kn_X8_sinksHigh, Or.inl ⟨kl_X8_75, (mm_inp (i := 51) (by decide +kernel) (by decide +kernel)), ⟨by decide, by decide⟩, by decide +kernel⟩⟩
theorem kl_X8_111 : Cond.methodLink RX8 111 yX8_sinks ∈ mm_GW := (mm_in (i := 1126) (by decide +kernel) (by decide +kernel))
theorem v_X8_111_7 : mm_V RX8 111 7 yX8_sinks cX8_sinks 9 none 2 := ⟨RX8, TX8, 11, rfl, kc_X8_sinks, ki_X8, kn_X8_sinks, Or.inl ⟨kl_X8_111, (mm_inp (i := 52) (by decide +kernel) (by decide +kernel)), ⟨by decide, by decide⟩, by decide +kernel⟩⟩
theorem kl_X8_114 : Cond.methodLink RX8 114 yX8_down ∈ mm_GW := (mm_in (i := 1130) (by decide +kernel) (by decide +kernel))
theorem v_X8_114_7 : mm_V RX8 114 7 yX8_down cX8_down 7 none 3 := ⟨RX8, TX8, 11, rfl, kc_X8_down, ki_X8, kn_X8_down, Or.inl ⟨kl_X8_114, (mm_inp (i := 53) (by decide +kernel) (by decide +kernel)), ⟨by decide, by decide⟩, by decide +kernel⟩⟩
theorem kl_L_104 : Cond.methodLink RL 104 yX8_takeGreatest ∈ mm_GW := (mm_in (i := 1134) (by decide +kernel) (by decide +kernel))
theorem v_L_104_7 : mm_V RL 104 7 yX8_takeGreatest cX8_takeGreatest 1 (some .int) 0 := ⟨RX8, TX8, 11, rfl, kc_X8_takeGreatest, ki_X8, kn_X8_takeGreatest, Or.inl ⟨kl_L_104, (mm_in (i := 1136) (by decide +kernel) (by decide +kernel)), ⟨by decide, by decide⟩, by decide +kernel⟩⟩
theorem kl_X8_156 : Cond.methodLink RX8 156 yX8_takesGreatest ∈ mm_GW := (mm_in (i := 1138) (by decide +kernel) (by decide +kernel))
theorem v_X8_156_7 : mm_V RX8 156 7 yX8_takesGreatest cX8_takesGreatest 3 (some .int) 1 := ⟨RX8, TX8, 11, rfl, kc_X8_takesGreatest, ki_X8, kn_X8_takesGreatest, Or.inl ⟨kl_X8_156, (mm_inp (i := 54) (by decide +kernel) (by decide +kernel)), ⟨by decide, by decide⟩, by decide +kernel⟩⟩
theorem kl_X8_153 : Cond.methodLink RX8 153 yX8_greatestOf ∈ mm_GW := (mm_in (i := 1142) (by decide +kernel) (by decide +kernel))
theorem v_X8_153_7 : mm_V RX8 153 7 yX8_greatestOf cX8_greatestOf 3 (some .int) 1 := ⟨RX8, TX8, 11, rfl, kc_X8_greatestOf, ki_X8, kn_X8_greatestOf, Or.inl ⟨kl_X8_153, (mm_inp (i := 55) (by decide +kernel) (by decide +kernel)), ⟨by decide, by decide⟩, by decide +kernel⟩⟩
theorem kl_L_107 : Cond.methodLink RL 107 yX8_remove ∈ mm_GW := (mm_in (i := 1146) (by decide +kernel) (by decide +kernel))
theorem v_L_107_7 : mm_V RL 107 7 yX8_remove cX8_remove 3 (some .int) 1 := ⟨RX8, TX8, 11, rfl, kc_X8_remove, ki_X8, kn_X8_remove, Or.inl ⟨kl_L_107, (mm_in (i := 1148) (by decide +kernel) (by decide +kernel)), ⟨by decide, by decide⟩, by decide +kernel⟩⟩
theorem kl_X8_49 : Cond.methodLink RX8 49 yX8_isItem ∈ mm_GW := (mm_in (i := 1150) (by decide +kernel) (by decide +kernel))
theorem v_X8_49_7 : mm_V RX8 49 7 yX8_isItem cX8_isItem 2 (some .boolean) 1 := ⟨RX8, TX8, 11, rfl, kc_X8_isItem, ki_X8, kn_X8_isItem, Or.inl ⟨kl_X8_49, (mm_inp (i := 56) (by decide +kernel) (by decide +kernel)), ⟨by decide, by decide⟩, by decide +kernel⟩⟩
theorem kl_L_111 : Cond.methodLink RL 111 yX8_change ∈ mm_GW := (mm_in (i := 1154) (by decide +kernel) (by decide +kernel))
theorem v_L_111_7 : mm_V RL 111 7 yX8_change cX8_change 4 (some .int) 2 := ⟨RX8, TX8, 11, rfl, kc_X8_change, ki_X8, kn_X8_change, Or.inl ⟨kl_L_111, (mm_in (i := 1156) (by decide +kernel) (by decide +kernel)), ⟨by decide, by decide⟩, by decide +kernel⟩⟩
theorem kl_X8_159 : Cond.methodLink RX8 159 yX8_changes ∈ mm_GW := (mm_in (i := 1158) (by decide +kernel) (by decide +kernel))
theorem v_X8_159_7 : mm_V RX8 159 7 yX8_changes cX8_changes 4 none 2 := ⟨RX8, TX8, 11, rfl, kc_X8_changes, ki_X8, kn_X8_changes, Or.inl ⟨kl_X8_159, (mm_inp (i := 57) (by decide +kernel) (by decide +kernel)), ⟨by decide, by decide⟩, by decide +kernel⟩⟩
theorem kl_L_115 : Cond.methodLink RL 115 yX8_build ∈ mm_GW := (mm_in (i := 1162) (by decide +kernel) (by decide +kernel))
theorem v_L_115_7 : mm_V RL 115 7 yX8_build cX8_build 2 (some .int) 0 := ⟨RX8, TX8, 11, rfl, kc_X8_build, ki_X8, kn_X8_build, Or.inl ⟨kl_L_115, (mm_in (i := 1164) (by decide +kernel) (by decide +kernel)), ⟨by decide, by decide⟩, by decide +kernel⟩⟩
theorem kl_X8_162 : Cond.methodLink RX8 162 yX8_counts ∈ mm_GW := (mm_in (i := 1166) (by decide +kernel) (by decide +kernel))
theorem v_X8_162_7 : mm_V RX8 162 7 yX8_counts cX8_counts 1 (some .int) 0 := ⟨RX8, TX8, 11, rfl, kc_X8_counts, ki_X8, kn_X8_counts, Or.inl ⟨kl_X8_162, (mm_inp (i := 58) (by decide +kernel) (by decide +kernel)), ⟨by decide, by decide⟩, by decide +kernel⟩⟩
theorem kl_X8_165 : Cond.methodLink RX8 165 yX8_builds ∈ mm_GW := (mm_in (i := 1170) (by decide +kernel) (by decide +kernel))
theorem v_X8_165_7 : mm_V RX8 165 7 yX8_builds cX8_builds 5 none 1 := ⟨RX8, TX8, 11, rfl, kc_X8_builds, ki_X8, kn_X8_builds, Or.inl ⟨kl_X8_165, (mm_inp (i := 59) (by decide +kernel) (by decide +kernel)), ⟨by decide, by decide⟩, by decide +kernel⟩⟩
theorem kl_X8_127 : Cond.methodLink RX8 127 yX8_laysAll ∈ mm_GW := (mm_in (i := 1174) (by decide +kernel) (by decide +kernel))
theorem v_X8_127_7 : mm_V RX8 127 7 yX8_laysAll cX8_laysAll 4 none 1 := ⟨RX8, TX8, 11, rfl, kc_X8_laysAll, ki_X8, kn_X8_laysAll, Or.inl ⟨kl_X8_127, (mm_inp (i := 60) (by decide +kernel) (by decide +kernel)), ⟨by decide, by decide⟩, by decide +kernel⟩⟩
theorem kl_X8_130 : Cond.methodLink RX8 130 yX8_buildsAt ∈ mm_GW := (mm_in (i := 1178) (by decide +kernel) (by decide +kernel))
theorem v_X8_130_7 : mm_V RX8 130 7 yX8_buildsAt cX8_buildsAt 4 none 3 := ⟨RX8, TX8, 11, rfl, kc_X8_buildsAt, ki_X8, kn_X8_buildsAt, Or.inl ⟨kl_X8_130, (mm_inp (i := 61) (by decide +kernel) (by decide +kernel)), ⟨by decide, by decide⟩, by decide +kernel⟩⟩
theorem kl_L_119 : Cond.methodLink RL 119 yX8_clear ∈ mm_GW := (mm_in (i := 1182) (by decide +kernel) (by decide +kernel))
theorem v_L_119_7 : mm_V RL 119 7 yX8_clear cX8_clear 3 (some .int) 0 := ⟨RX8, TX8, 11, rfl, kc_X8_clear, ki_X8, kn_X8_clear, Or.inl ⟨kl_L_119, (mm_in (i := 1184) (by decide +kernel) (by decide +kernel)), ⟨by decide, by decide⟩, by decide +kernel⟩⟩
theorem kl_L_123 : Cond.methodLink RL 123 yX8_size ∈ mm_GW := (mm_in (i := 1186) (by decide +kernel) (by decide +kernel))
theorem v_L_123_7 : mm_V RL 123 7 yX8_size cX8_size 1 (some .int) 0 := ⟨RX8, TX8, 11, rfl, kc_X8_size, ki_X8, kn_X8_size, Or.inl ⟨kl_L_123, (mm_in (i := 1188) (by decide +kernel) (by decide +kernel)), ⟨by decide, by decide⟩, by decide +kernel⟩⟩
theorem kl_L_127 : Cond.methodLink RL 127 yX8_handles ∈ mm_GW := (mm_in (i := 1190) (by decide +kernel) (by decide +kernel))
theorem v_L_127_7 : mm_V RL 127 7 yX8_handles cX8_handles 1 (some .int) 0 := ⟨RX8, TX8, 11, rfl, kc_X8_handles, ki_X8, kn_X8_handles, Or.inl ⟨kl_L_127, (mm_in (i := 1192) (by decide +kernel) (by decide +kernel)), ⟨by decide, by decide⟩, by decide +kernel⟩⟩
theorem kl_X8_168 : Cond.methodLink RX8 168 yX8_handleSet ∈ mm_GW := (mm_in (i := 1194) (by decide +kernel) (by decide +kernel))
theorem v_X8_168_7 : mm_V RX8 168 7 yX8_handleSet cX8_handleSet 3 (some .int) 0 := ⟨RX8, TX8, 11, rfl, kc_X8_handleSet, ki_X8, kn_X8_handleSet, Or.inl ⟨kl_X8_168, (mm_inp (i := 62) (by decide +kernel) (by decide +kernel)), ⟨by decide, by decide⟩, by decide +kernel⟩⟩
theorem kl_L_130 : Cond.methodLink RL 130 yX8_key ∈ mm_GW := (mm_in (i := 1198) (by decide +kernel) (by decide +kernel))
theorem v_L_130_7 : mm_V RL 130 7 yX8_key cX8_key 2 (some .int) 1 := ⟨RX8, TX8, 11, rfl, kc_X8_key, ki_X8, kn_X8_key, Or.inl ⟨kl_L_130, (mm_in (i := 1200) (by decide +kernel) (by decide +kernel)), ⟨by decide, by decide⟩, by decide +kernel⟩⟩
theorem kl_L_133 : Cond.methodLink RL 133 yX8_fill ∈ mm_GW := (mm_in (i := 1202) (by decide +kernel) (by decide +kernel))
theorem v_L_133_7 : mm_V RL 133 7 yX8_fill cX8_fill 7 (some .int) 2 := ⟨RX8, TX8, 11, rfl, kc_X8_fill, ki_X8, kn_X8_fill, Or.inl ⟨kl_L_133, (mm_in (i := 1204) (by decide +kernel) (by decide +kernel)), ⟨by decide, by decide⟩, by decide +kernel⟩⟩
theorem kl_L_136 : Cond.methodLink RL 136 yX8_least ∈ mm_GW := (mm_in (i := 1211) (by decide +kernel) (by decide +kernel))
theorem v_L_136_7 : mm_V RL 136 7 yX8_least cX8_least 2 (some .int) 1 := ⟨RX8, TX8, 11, rfl, kc_X8_least, ki_X8, kn_X8_least, Or.inl ⟨kl_L_136, (mm_in (i := 1213) (by decide +kernel) (by decide +kernel)), ⟨by decide, by decide⟩, by decide +kernel⟩⟩
theorem kl_L_139 : Cond.methodLink RL 139 yX8_greatest ∈ mm_GW := (mm_in (i := 1215) (by decide +kernel) (by decide +kernel))
theorem v_L_139_7 : mm_V RL 139 7 yX8_greatest cX8_greatest 2 (some .int) 1 := ⟨RX8, TX8, 11, rfl, kc_X8_greatest, ki_X8, kn_X8_greatest, Or.inl ⟨kl_L_139, (mm_in (i := 1217) (by decide +kernel) (by decide +kernel)), ⟨by decide, by decide⟩, by decide +kernel⟩⟩
theorem kl_L_143 : Cond.methodLink RL 143 yX8_ranked ∈ mm_GW := (mm_in (i := 1219) (by decide +kernel) (by decide +kernel))
theorem v_L_143_7 : mm_V RL 143 7 yX8_ranked cX8_ranked 3 (some .int) 1 := ⟨RX8, TX8, 11, rfl, kc_X8_ranked, ki_X8, kn_X8_ranked, Or.inl ⟨kl_L_143, (mm_in (i := 1221) (by decide +kernel) (by decide +kernel)), ⟨by decide, by decide⟩, by decide +kernel⟩⟩
theorem kl_X8_181 : Cond.methodLink RX8 181 yX8_rankOf ∈ mm_GW := (mm_in (i := 1223) (by decide +kernel) (by decide +kernel))
theorem v_X8_181_7 : mm_V RX8 181 7 yX8_rankOf cX8_rankOf 4 (some .int) 1 := ⟨RX8, TX8, 11, rfl, kc_X8_rankOf, ki_X8, kn_X8_rankOf, Or.inl ⟨kl_X8_181, (mm_inp (i := 63) (by decide +kernel) (by decide +kernel)), ⟨by decide, by decide⟩, by decide +kernel⟩⟩
theorem kl_L_146 : Cond.methodLink RL 146 yX8_rank ∈ mm_GW := (mm_in (i := 1227) (by decide +kernel) (by decide +kernel))
theorem v_L_146_7 : mm_V RL 146 7 yX8_rank cX8_rank 2 (some .int) 1 := ⟨RX8, TX8, 11, rfl, kc_X8_rank, ki_X8, kn_X8_rank, Or.inl ⟨kl_L_146, (mm_in (i := 1229) (by decide +kernel) (by decide +kernel)), ⟨by decide, by decide⟩, by decide +kernel⟩⟩
theorem kl_L_150 : Cond.methodLink RL 150 yX8_between ∈ mm_GW := (mm_in (i := 1231) (by decide +kernel) (by decide +kernel))
theorem v_L_150_7 : mm_V RL 150 7 yX8_between cX8_between 5 (some .int) 2 := ⟨RX8, TX8, 11, rfl, kc_X8_between, ki_X8, kn_X8_between, Or.inl ⟨kl_L_150, (mm_in (i := 1233) (by decide +kernel) (by decide +kernel)), ⟨by decide, by decide⟩, by decide +kernel⟩⟩
theorem kl_L_153 : Cond.methodLink RL 153 yX8_at ∈ mm_GW := (mm_in (i := 1235) (by decide +kernel) (by decide +kernel))
theorem v_L_153_7 : mm_V RL 153 7 yX8_at cX8_at 3 (some .int) 2 := ⟨RX8, TX8, 11, rfl, kc_X8_at, ki_X8, kn_X8_at, Or.inl ⟨kl_L_153, (mm_in (i := 1237) (by decide +kernel) (by decide +kernel)), ⟨by decide, by decide⟩, by decide +kernel⟩⟩
theorem kl_X8_184 : Cond.methodLink RX8 184 yX8_isLayout ∈ mm_GW := (mm_in (i := 1239) (by decide +kernel) (by decide +kernel))
theorem s_X8_184 : mm_St RX8 184 yX8_isLayout 1 := ⟨ki_X8, ks_X8_isLayout, ⟨by decide, by decide⟩, by decide +kernel, Or.inl kl_X8_184⟩
theorem kl_L_156 : Cond.methodLink RL 156 yX8_where ∈ mm_GW := (mm_in (i := 1242) (by decide +kernel) (by decide +kernel))
theorem v_L_156_7 : mm_V RL 156 7 yX8_where cX8_where 3 (some .int) 2 := ⟨RX8, TX8, 11, rfl, kc_X8_where, ki_X8, kn_X8_where, Or.inl ⟨kl_L_156, (mm_in (i := 1244) (by decide +kernel) (by decide +kernel)), ⟨by decide, by decide⟩, by decide +kernel⟩⟩
theorem kl_L_159 : Cond.methodLink RL 159 yX8_violations ∈ mm_GW := (mm_in (i := 1246) (by decide +kernel) (by decide +kernel))
theorem v_L_159_7 : mm_V RL 159 7 yX8_violations cX8_violations 2 (some .int) 1 := ⟨RX8, TX8, 11, rfl, kc_X8_violations, ki_X8, kn_X8_violations, Or.inl ⟨kl_L_159, (mm_in (i := 1248) (by decide +kernel) (by decide +kernel)), ⟨by decide, by decide⟩, by decide +kernel⟩⟩
theorem kl_X8_196 : Cond.methodLink RX8 196 yX8_wrongIn ∈ mm_GW := (mm_in (i := 1250) (by decide +kernel) (by decide +kernel))
theorem v_X8_196_7 : mm_V RX8 196 7 yX8_wrongIn cX8_wrongIn 4 (some .int) 1 := ⟨RX8, TX8, 11, rfl, kc_X8_wrongIn, ki_X8, kn_X8_wrongIn, Or.inl ⟨kl_X8_196, (mm_inp (i := 64) (by decide +kernel) (by decide +kernel)), ⟨by decide, by decide⟩, by decide +kernel⟩⟩
theorem kl_X8_190 : Cond.methodLink RX8 190 yX8_wrongNodes ∈ mm_GW := (mm_in (i := 1254) (by decide +kernel) (by decide +kernel))
theorem v_X8_190_7 : mm_V RX8 190 7 yX8_wrongNodes cX8_wrongNodes 5 (some .int) 0 := ⟨RX8, TX8, 11, rfl, kc_X8_wrongNodes, ki_X8, kn_X8_wrongNodes, Or.inl ⟨kl_X8_190, (mm_inp (i := 65) (by decide +kernel) (by decide +kernel)), ⟨by decide, by decide⟩, by decide +kernel⟩⟩
theorem kl_X8_187 : Cond.methodLink RX8 187 yX8_wrong ∈ mm_GW := (mm_in (i := 1258) (by decide +kernel) (by decide +kernel))
theorem v_X8_187_7 : mm_V RX8 187 7 yX8_wrong cX8_wrong 4 (some .int) 3 := ⟨RX8, TX8, 11, rfl, kc_X8_wrong, ki_X8, kn_X8_wrong, Or.inl ⟨kl_X8_187, (mm_inp (i := 66) (by decide +kernel) (by decide +kernel)), ⟨by decide, by decide⟩, by decide +kernel⟩⟩
theorem kl_X8_193 : Cond.methodLink RX8 193 yX8_wrongLevels ∈ mm_GW := (mm_in (i := 1262) (by decide +kernel) (by decide +kernel))
theorem v_X8_193_7 : mm_V RX8 193 7 yX8_wrongLevels cX8_wrongLevels 4 (some .int) 0 := ⟨RX8, TX8, 11, rfl, kc_X8_wrongLevels, ki_X8, kn_X8_wrongLevels, Or.inl ⟨kl_X8_193, (mm_inp (i := 67) (by decide +kernel) (by decide +kernel)), ⟨by decide, by decide⟩, by decide +kernel⟩⟩
theorem kl_L_163 : Cond.methodLink RL 163 yX8_disturb ∈ mm_GW := (mm_in (i := 1266) (by decide +kernel) (by decide +kernel))
theorem v_L_163_7 : mm_V RL 163 7 yX8_disturb cX8_disturb 5 (some .int) 3 := ⟨RX8, TX8, 11, rfl, kc_X8_disturb, ki_X8, kn_X8_disturb, Or.inl ⟨kl_L_163, (mm_in (i := 1268) (by decide +kernel) (by decide +kernel)), ⟨by decide, by decide⟩, by decide +kernel⟩⟩
theorem kl_L_166 : Cond.methodLink RL 166 yX8_level ∈ mm_GW := (mm_in (i := 1270) (by decide +kernel) (by decide +kernel))
theorem v_L_166_7 : mm_V RL 166 7 yX8_level cX8_level 2 (some .int) 1 := ⟨RX8, TX8, 11, rfl, kc_X8_level, ki_X8, kn_X8_level, Or.inl ⟨kl_L_166, (mm_in (i := 1272) (by decide +kernel) (by decide +kernel)), ⟨by decide, by decide⟩, by decide +kernel⟩⟩
theorem kl_L_169 : Cond.methodLink RL 169 yX8_ancestors ∈ mm_GW := (mm_in (i := 1275) (by decide +kernel) (by decide +kernel))
theorem v_L_169_7 : mm_V RL 169 7 yX8_ancestors cX8_ancestors 5 (some .int) 1 := ⟨RX8, TX8, 11, rfl, kc_X8_ancestors, ki_X8, kn_X8_ancestors, Or.inl ⟨kl_L_169, (mm_in (i := 1277) (by decide +kernel) (by decide +kernel)), ⟨by decide, by decide⟩, by decide +kernel⟩⟩
theorem kl_X8_200 : Cond.methodLink RX8 200 yX8_above ∈ mm_GW := (mm_in (i := 1279) (by decide +kernel) (by decide +kernel))
theorem v_X8_200_7 : mm_V RX8 200 7 yX8_above cX8_above 5 (some .int) 2 := ⟨RX8, TX8, 11, rfl, kc_X8_above, ki_X8, kn_X8_above, Or.inl ⟨kl_X8_200, (mm_inp (i := 68) (by decide +kernel) (by decide +kernel)), ⟨by decide, by decide⟩, by decide +kernel⟩⟩
theorem kl_L_172 : Cond.methodLink RL 172 yX8_comparisons ∈ mm_GW := (mm_in (i := 1283) (by decide +kernel) (by decide +kernel))
theorem v_L_172_7 : mm_V RL 172 7 yX8_comparisons cX8_comparisons 2 (some .int) 1 := ⟨RX8, TX8, 11, rfl, kc_X8_comparisons, ki_X8, kn_X8_comparisons, Or.inl ⟨kl_L_172, (mm_in (i := 1285) (by decide +kernel) (by decide +kernel)), ⟨by decide, by decide⟩, by decide +kernel⟩⟩
theorem kl_L_176 : Cond.methodLink RL 176 yX8_forget ∈ mm_GW := (mm_in (i := 1287) (by decide +kernel) (by decide +kernel))
theorem v_L_176_7 : mm_V RL 176 7 yX8_forget cX8_forget 3 (some .int) 0 := ⟨RX8, TX8, 11, rfl, kc_X8_forget, ki_X8, kn_X8_forget, Or.inl ⟨kl_L_176, (mm_in (i := 1289) (by decide +kernel) (by decide +kernel)), ⟨by decide, by decide⟩, by decide +kernel⟩⟩
theorem kl_L_179 : Cond.methodLink RL 179 yX8_wouldNeed ∈ mm_GW := (mm_in (i := 1291) (by decide +kernel) (by decide +kernel))
theorem v_L_179_7 : mm_V RL 179 7 yX8_wouldNeed cX8_wouldNeed 5 (some .int) 3 := ⟨RX8, TX8, 11, rfl, kc_X8_wouldNeed, ki_X8, kn_X8_wouldNeed, Or.inl ⟨kl_L_179, (mm_in (i := 1293) (by decide +kernel) (by decide +kernel)), ⟨by decide, by decide⟩, by decide +kernel⟩⟩
theorem kl_X8_203 : Cond.methodLink RX8 203 yX8_canDo ∈ mm_GW := (mm_in (i := 1295) (by decide +kernel) (by decide +kernel))
theorem v_X8_203_7 : mm_V RX8 203 7 yX8_canDo cX8_canDo 3 (some .boolean) 2 := ⟨RX8, TX8, 11, rfl, kc_X8_canDo, ki_X8, kn_X8_canDo, Or.inl ⟨kl_X8_203, (mm_inp (i := 69) (by decide +kernel) (by decide +kernel)), ⟨by decide, by decide⟩, by decide +kernel⟩⟩
theorem kl_X8_206 : Cond.methodLink RX8 206 yX8_keeps ∈ mm_GW := (mm_in (i := 1299) (by decide +kernel) (by decide +kernel))
theorem v_X8_206_7 : mm_V RX8 206 7 yX8_keeps cX8_keeps 2 none 0 := ⟨RX8, TX8, 11, rfl, kc_X8_keeps, ki_X8, kn_X8_keeps, Or.inl ⟨kl_X8_206, (mm_inp (i := 70) (by decide +kernel) (by decide +kernel)), ⟨by decide, by decide⟩, by decide +kernel⟩⟩
theorem kl_X8_209 : Cond.methodLink RX8 209 yX8_does ∈ mm_GW := (mm_in (i := 1303) (by decide +kernel) (by decide +kernel))
theorem v_X8_209_7 : mm_V RX8 209 7 yX8_does cX8_does 5 none 3 := ⟨RX8, TX8, 11, rfl, kc_X8_does, ki_X8, kn_X8_does, Or.inl ⟨kl_X8_209, (mm_inp (i := 71) (by decide +kernel) (by decide +kernel)), ⟨by decide, by decide⟩, by decide +kernel⟩⟩
theorem kl_X8_212 : Cond.methodLink RX8 212 yX8_returns ∈ mm_GW := (mm_in (i := 1307) (by decide +kernel) (by decide +kernel))
theorem v_X8_212_7 : mm_V RX8 212 7 yX8_returns cX8_returns 2 none 0 := ⟨RX8, TX8, 11, rfl, kc_X8_returns, ki_X8, kn_X8_returns, Or.inl ⟨kl_X8_212, (mm_inp (i := 72) (by decide +kernel) (by decide +kernel)), ⟨by decide, by decide⟩, by decide +kernel⟩⟩
theorem kl_L_182 : Cond.methodLink RL 182 yX8_sortingNeeds ∈ mm_GW := (mm_in (i := 1311) (by decide +kernel) (by decide +kernel))
theorem v_L_182_7 : mm_V RL 182 7 yX8_sortingNeeds cX8_sortingNeeds 3 (some .int) 1 := ⟨RX8, TX8, 11, rfl, kc_X8_sortingNeeds, ki_X8, kn_X8_sortingNeeds, Or.inl ⟨kl_L_182, (mm_in (i := 1313) (by decide +kernel) (by decide +kernel)), ⟨by decide, by decide⟩, by decide +kernel⟩⟩
theorem kl_L_186 : Cond.methodLink RL 186 yX8_fewest ∈ mm_GW := (mm_in (i := 1315) (by decide +kernel) (by decide +kernel))
theorem v_L_186_7 : mm_V RL 186 7 yX8_fewest cX8_fewest 3 (some .int) 0 := ⟨RX8, TX8, 11, rfl, kc_X8_fewest, ki_X8, kn_X8_fewest, Or.inl ⟨kl_L_186, (mm_in (i := 1317) (by decide +kernel) (by decide +kernel)), ⟨by decide, by decide⟩, by decide +kernel⟩⟩
theorem kl_L_189 : Cond.methodLink RL 189 yX8_type ∈ mm_GW := (mm_in (i := 1319) (by decide +kernel) (by decide +kernel))
theorem v_L_189_7 : mm_V RL 189 7 yX8_type cX8_type 2 (some .int) 1 := ⟨RX8, TX8, 11, rfl, kc_X8_type, ki_X8, kn_X8_type, Or.inl ⟨kl_L_189, (mm_in (i := 1321) (by decide +kernel) (by decide +kernel)), ⟨by decide, by decide⟩, by decide +kernel⟩⟩
theorem kl_L_193 : Cond.methodLink RL 193 yX8_clearText ∈ mm_GW := (mm_in (i := 1323) (by decide +kernel) (by decide +kernel))
theorem v_L_193_7 : mm_V RL 193 7 yX8_clearText cX8_clearText 2 (some .int) 0 := ⟨RX8, TX8, 11, rfl, kc_X8_clearText, ki_X8, kn_X8_clearText, Or.inl ⟨kl_L_193, (mm_in (i := 1325) (by decide +kernel) (by decide +kernel)), ⟨by decide, by decide⟩, by decide +kernel⟩⟩
theorem kl_L_197 : Cond.methodLink RL 197 yX8_fault ∈ mm_GW := (mm_in (i := 1327) (by decide +kernel) (by decide +kernel))
theorem v_L_197_7 : mm_V RL 197 7 yX8_fault cX8_fault 1 (some .int) 0 := ⟨RX8, TX8, 11, rfl, kc_X8_fault, ki_X8, kn_X8_fault, Or.inl ⟨kl_L_197, (mm_in (i := 1329) (by decide +kernel) (by decide +kernel)), ⟨by decide, by decide⟩, by decide +kernel⟩⟩
theorem kl_X8_242 : Cond.methodLink RX8 242 yX8_reads ∈ mm_GW := (mm_in (i := 1331) (by decide +kernel) (by decide +kernel))
theorem v_X8_242_7 : mm_V RX8 242 7 yX8_reads cX8_reads 6 (some .int) 1 := ⟨RX8, TX8, 11, rfl, kc_X8_reads, ki_X8, kn_X8_reads, Or.inl ⟨kl_X8_242, (mm_inp (i := 73) (by decide +kernel) (by decide +kernel)), ⟨by decide, by decide⟩, by decide +kernel⟩⟩
theorem kl_X8_223 : Cond.methodLink RX8 223 yX8_next ∈ mm_GW := (mm_in (i := 1335) (by decide +kernel) (by decide +kernel))
theorem v_X8_223_7 : mm_V RX8 223 7 yX8_next cX8_next 1 (some .int) 0 := ⟨RX8, TX8, 11, rfl, kc_X8_next, ki_X8, kn_X8_next, Or.inl ⟨kl_X8_223, (mm_inp (i := 74) (by decide +kernel) (by decide +kernel)), ⟨by decide, by decide⟩, by decide +kernel⟩⟩
theorem kl_X8_226 : Cond.methodLink RX8 226 yX8_fails ∈ mm_GW := (mm_in (i := 1339) (by decide +kernel) (by decide +kernel))
theorem v_X8_226_7 : mm_V RX8 226 7 yX8_fails cX8_fails 1 none 0 := ⟨RX8, TX8, 11, rfl, kc_X8_fails, ki_X8, kn_X8_fails, Or.inl ⟨kl_X8_226, (mm_inp (i := 75) (by decide +kernel) (by decide +kernel)), ⟨by decide, by decide⟩, by decide +kernel⟩⟩
theorem kl_X8_232 : Cond.methodLink RX8 232 yX8_number ∈ mm_GW := (mm_in (i := 1343) (by decide +kernel) (by decide +kernel))
theorem v_X8_232_7 : mm_V RX8 232 7 yX8_number cX8_number 6 (some .int) 2 := ⟨RX8, TX8, 11, rfl, kc_X8_number, ki_X8, kn_X8_number, Or.inl ⟨kl_X8_232, (mm_inp (i := 76) (by decide +kernel) (by decide +kernel)), ⟨by decide, by decide⟩, by decide +kernel⟩⟩
theorem kl_X8_236 : Cond.methodLink RX8 236 yX8_takes ∈ mm_GW := (mm_in (i := 1347) (by decide +kernel) (by decide +kernel))
theorem v_X8_236_7 : mm_V RX8 236 7 yX8_takes cX8_takes 2 none 1 := ⟨RX8, TX8, 11, rfl, kc_X8_takes, ki_X8, kn_X8_takes, Or.inl ⟨kl_X8_236, (mm_inp (i := 77) (by decide +kernel) (by decide +kernel)), ⟨by decide, by decide⟩, by decide +kernel⟩⟩
theorem kl_X8_239 : Cond.methodLink RX8 239 yX8_isDone ∈ mm_GW := (mm_in (i := 1351) (by decide +kernel) (by decide +kernel))
theorem v_X8_239_7 : mm_V RX8 239 7 yX8_isDone cX8_isDone 5 (some .boolean) 3 := ⟨RX8, TX8, 11, rfl, kc_X8_isDone, ki_X8, kn_X8_isDone, Or.inl ⟨kl_X8_239, (mm_inp (i := 78) (by decide +kernel) (by decide +kernel)), ⟨by decide, by decide⟩, by decide +kernel⟩⟩
theorem kl_L_200 : Cond.methodLink RL 200 yX8_run ∈ mm_GW := (mm_in (i := 1355) (by decide +kernel) (by decide +kernel))
theorem v_L_200_7 : mm_V RL 200 7 yX8_run cX8_run 2 (some .int) 0 := ⟨RX8, TX8, 11, rfl, kc_X8_run, ki_X8, kn_X8_run, Or.inl ⟨kl_L_200, (mm_in (i := 1357) (by decide +kernel) (by decide +kernel)), ⟨by decide, by decide⟩, by decide +kernel⟩⟩
theorem kl_L_208 : Cond.methodLink RL 208 yX8_checksum ∈ mm_GW := (mm_in (i := 1359) (by decide +kernel) (by decide +kernel))
theorem v_L_208_7 : mm_V RL 208 7 yX8_checksum cX8_checksum 3 (some .long) 0 := ⟨RX8, TX8, 11, rfl, kc_X8_checksum, ki_X8, kn_X8_checksum, Or.inl ⟨kl_L_208, (mm_in (i := 1361) (by decide +kernel) (by decide +kernel)), ⟨by decide, by decide⟩, by decide +kernel⟩⟩
theorem kl_X8_254 : Cond.methodLink RX8 254 yX8_mix ∈ mm_GW := (mm_in (i := 1364) (by decide +kernel) (by decide +kernel))
theorem v_X8_254_7 : mm_V RX8 254 7 yX8_mix cX8_mix 3 none 1 := ⟨RX8, TX8, 11, rfl, kc_X8_mix, ki_X8, kn_X8_mix, Or.inl ⟨kl_X8_254, (mm_inp (i := 79) (by decide +kernel) (by decide +kernel)), ⟨by decide, by decide⟩, by decide +kernel⟩⟩
theorem n_X7_9 : mm_In RX7 9 yX5_init cX5_init 1 0 := ⟨kc_X5_init, ki_X5, kn_X5_init, rfl, ⟨by decide, by decide⟩, by decide +kernel, Or.inr ⟨"TwoEndQueues", (mm_inl (i := 29) (by decide +kernel))⟩⟩
theorem n_X5_11 : mm_In RX5 11 yX2_init cX2_init 1 0 := ⟨kc_X2_init, ki_X2, kn_X2_init, rfl, ⟨by decide, by decide⟩, by decide +kernel, Or.inr ⟨"TwoEndQueues", (mm_inl (i := 35) (by decide +kernel))⟩⟩
theorem n_X2_3 : mm_In RX2 3 yX3_init cX3_init 1 0 := ⟨kc_X3_init, ki_X3, kn_X3_init, rfl, ⟨by decide, by decide⟩, by decide +kernel, Or.inr ⟨"TwoEndQueues", (mm_inl (i := 38) (by decide +kernel))⟩⟩
theorem n_X5_20 : mm_In RX5 20 yX4_init cX4_init 1 0 := ⟨kc_X4_init, ki_X4, kn_X4_init, rfl, ⟨by decide, by decide⟩, by decide +kernel, Or.inr ⟨"TwoEndQueues", (mm_inl (i := 68) (by decide +kernel))⟩⟩
theorem n_X4_3 : mm_In RX4 3 yX3_init cX3_init 1 0 := ⟨kc_X3_init, ki_X3, kn_X3_init, rfl, ⟨by decide, by decide⟩, by decide +kernel, Or.inr ⟨"TwoEndQueues", (mm_inl (i := 71) (by decide +kernel))⟩⟩
theorem n_X0_3 : mm_In RX0 3 yX3_init cX3_init 1 0 := ⟨kc_X3_init, ki_X3, kn_X3_init, rfl, ⟨by decide, by decide⟩, by decide +kernel, Or.inr ⟨"TwoEndQueues", (mm_inl (i := 81) (by decide +kernel))⟩⟩
theorem n_X1_17 : mm_In RX1 17 yX5_init cX5_init 1 0 := ⟨kc_X5_init, ki_X5, kn_X5_init, rfl, ⟨by decide, by decide⟩, by decide +kernel, Or.inr ⟨"TwoEndQueues", (mm_inl (i := 112) (by decide +kernel))⟩⟩
theorem n_X7_28 : mm_In RX7 28 yX6_init cX6_init 1 0 := ⟨kc_X6_init, ki_X6, kn_X6_init, rfl, ⟨by decide, by decide⟩, by decide +kernel, Or.inr ⟨"TwoEndQueues", (mm_inl (i := 126) (by decide +kernel))⟩⟩
theorem s_X5_102 : mm_St RX5 102 yX7_isKey 1 := ⟨ki_X7, ks_X7_isKey, ⟨by decide, by decide⟩, by decide +kernel, Or.inr ⟨"TwoEndQueues", (mm_inl (i := 652) (by decide +kernel))⟩⟩
theorem kk_L_8 : Cond.classLink RL 8 "TwoEndQueues" ∈ mm_GW := (mm_in (i := 19) (by decide +kernel) (by decide +kernel))
theorem w_L_8 : mm_New RL 8 6 4 [.null, .null, .null, .null] := ⟨RX7, TX7, tyX7, rfl, kw_X7, tyX7_ok, kk_L_8, (mm_in (i := 20) (by decide +kernel) (by decide +kernel)), ki_X7, by decide +kernel, by simp⟩
theorem kk_X7_7 : Cond.classLink RX7 7 "TwoEndQueues$Queues" ∈ mm_GW := (mm_in (i := 27) (by decide +kernel) (by decide +kernel))
theorem w_X7_7 : mm_New RX7 7 4 4 [.null, .null, .null, .null] := ⟨RX5, TX5, tyX5, rfl, kw_X5, tyX5_ok, kk_X7_7, (mm_in (i := 28) (by decide +kernel) (by decide +kernel)), ki_X5, by decide +kernel, by simp⟩
theorem kk_X5_9 : Cond.classLink RX5 9 "TwoEndQueues$IntervalLayout" ∈ mm_GW := (mm_in (i := 33) (by decide +kernel) (by decide +kernel))
theorem w_X5_9 : mm_New RX5 9 2 3 [.null, .int 0, .int 0] := ⟨RX2, TX2, tyX2, rfl, kw_X2, tyX2_ok, kk_X5_9, (mm_in (i := 34) (by decide +kernel) (by decide +kernel)), ki_X2, by decide +kernel, by simp⟩
theorem kk_X5_18 : Cond.classLink RX5 18 "TwoEndQueues$LevelLayout" ∈ mm_GW := (mm_in (i := 66) (by decide +kernel) (by decide +kernel))
theorem w_X5_18 : mm_New RX5 18 3 3 [.null, .int 0, .int 0] := ⟨RX4, TX4, tyX4, rfl, kw_X4, tyX4_ok, kk_X5_18, (mm_in (i := 67) (by decide +kernel) (by decide +kernel)), ki_X4, by decide +kernel, by simp⟩
theorem kk_X5_25 : Cond.classLink RX5 25 "TwoEndQueues$HeapLayout" ∈ mm_GW := (mm_in (i := 76) (by decide +kernel) (by decide +kernel))
theorem w_X5_25 : mm_New RX5 25 0 4 [.null, .int 0, .int 0, .int 0] := ⟨RX0, TX0, tyX0, rfl, kw_X0, tyX0_ok, kk_X5_25, (mm_in (i := 77) (by decide +kernel) (by decide +kernel)), ki_X0, by decide +kernel, by simp⟩
theorem kk_X7_19 : Cond.classLink RX7 19 "TwoEndQueues$History" ∈ mm_GW := (mm_in (i := 104) (by decide +kernel) (by decide +kernel))
theorem w_X7_19 : mm_New RX7 19 1 3 [.null, .int 0, .int 0] := ⟨RX1, TX1, tyX1, rfl, kw_X1, tyX1_ok, kk_X7_19, (mm_in (i := 105) (by decide +kernel) (by decide +kernel)), ki_X1, by decide +kernel, by simp⟩
theorem kk_X1_9 : Cond.classLink RX1 9 "TwoEndQueues$Queues" ∈ mm_GW := (mm_in (i := 110) (by decide +kernel) (by decide +kernel))
theorem w_X1_9 : mm_New RX1 9 4 4 [.null, .null, .null, .null] := ⟨RX5, TX5, tyX5, rfl, kw_X5, tyX5_ok, kk_X1_9, (mm_in (i := 28) (by decide +kernel) (by decide +kernel)), ki_X5, by decide +kernel, by simp⟩
theorem kk_X7_26 : Cond.classLink RX7 26 "TwoEndQueues$Script" ∈ mm_GW := (mm_in (i := 124) (by decide +kernel) (by decide +kernel))
theorem w_X7_26 : mm_New RX7 26 5 7 [.null, .int 0, .int 0, .int 0, .int 0, .int 0, .int 0] := ⟨RX6, TX6, tyX6, rfl, kw_X6, tyX6_ok, kk_X7_26, (mm_in (i := 125) (by decide +kernel) (by decide +kernel)), ki_X6, by decide +kernel, by simp⟩
theorem kk_L_13 : Cond.classLink RL 13 "java/lang/IllegalArgumentException" ∈ mm_GW := (mm_in (i := 491) (by decide +kernel) (by decide +kernel))
theorem kk_L_15 : Cond.classLink RL 15 "java/lang/IllegalStateException" ∈ mm_GW := (mm_in (i := 492) (by decide +kernel) (by decide +kernel))
theorem kk_X7_94 : Cond.classLink RX7 94 "java/lang/IllegalArgumentException" ∈ mm_GW := (mm_in (i := 503) (by decide +kernel) (by decide +kernel))
theorem kk_X7_41 : Cond.classLink RX7 41 "java/lang/IllegalStateException" ∈ mm_GW := (mm_in (i := 571) (by decide +kernel) (by decide +kernel))
theorem kk_L_27 : Cond.classLink RL 27 "java/lang/IndexOutOfBoundsException" ∈ mm_GW := (mm_in (i := 726) (by decide +kernel) (by decide +kernel))
theorem kk_X7_238 : Cond.classLink RX7 238 "java/lang/IndexOutOfBoundsException" ∈ mm_GW := (mm_in (i := 735) (by decide +kernel) (by decide +kernel))
theorem kk_L_86 : Cond.classLink RL 86 "TwoEndQueuesModel" ∈ mm_GW := (mm_in (i := 942) (by decide +kernel) (by decide +kernel))
theorem w_L_86 : mm_New RL 86 7 11 [.null, .null, .null, .int 0, .int 0, .null, .int 0, .int 0, .int 0, .int 0, .long 0] := ⟨RX8, TX8, tyX8, rfl, kw_X8, tyX8_ok, kk_L_86, (mm_in (i := 943) (by decide +kernel) (by decide +kernel)), ki_X8, by decide +kernel, by simp⟩
theorem kd_X7_145 : Cond.constant RX7 145 1000000 ∈ mm_GW := (mm_in (i := 852) (by decide +kernel) (by decide +kernel))
theorem kd_J6_265 : Cond.constant RJ6 265 1431655765 ∈ mm_GW := (mm_in (i := 873) (by decide +kernel) (by decide +kernel))
theorem kd_J6_266 : Cond.constant RJ6 266 858993459 ∈ mm_GW := (mm_in (i := 874) (by decide +kernel) (by decide +kernel))
theorem kd_J6_267 : Cond.constant RJ6 267 252645135 ∈ mm_GW := (mm_in (i := 875) (by decide +kernel) (by decide +kernel))
theorem kd_X8_199 : Cond.constant RX8 199 1000000 ∈ mm_GW := (mm_in (i := 1274) (by decide +kernel) (by decide +kernel))
theorem kd_X7_225 : Cond.constantLong RX7 225 576631 ∈ mm_GW := (mm_in (i := 461) (by decide +kernel) (by decide +kernel))
theorem kd_X7_227 : Cond.constantLong RX7 227 31 ∈ mm_GW := (mm_in (i := 462) (by decide +kernel) (by decide +kernel))
theorem kd_X7_101 : Cond.constantLong RX7 101 1103515245 ∈ mm_GW := (mm_in (i := 776) (by decide +kernel) (by decide +kernel))
theorem kd_X7_103 : Cond.constantLong RX7 103 12345 ∈ mm_GW := (mm_in (i := 777) (by decide +kernel) (by decide +kernel))
theorem kd_X7_105 : Cond.constantLong RX7 105 2147483648 ∈ mm_GW := (mm_in (i := 778) (by decide +kernel) (by decide +kernel))
theorem kd_X7_107 : Cond.constantLong RX7 107 65536 ∈ mm_GW := (mm_in (i := 779) (by decide +kernel) (by decide +kernel))
theorem kd_X7_109 : Cond.constantLong RX7 109 200 ∈ mm_GW := (mm_in (i := 780) (by decide +kernel) (by decide +kernel))
theorem kd_X8_171 : Cond.constantLong RX8 171 1103515245 ∈ mm_GW := (mm_in (i := 1206) (by decide +kernel) (by decide +kernel))
theorem kd_X8_173 : Cond.constantLong RX8 173 12345 ∈ mm_GW := (mm_in (i := 1207) (by decide +kernel) (by decide +kernel))
theorem kd_X8_175 : Cond.constantLong RX8 175 2147483648 ∈ mm_GW := (mm_in (i := 1208) (by decide +kernel) (by decide +kernel))
theorem kd_X8_177 : Cond.constantLong RX8 177 65536 ∈ mm_GW := (mm_in (i := 1209) (by decide +kernel) (by decide +kernel))
theorem kd_X8_179 : Cond.constantLong RX8 179 200 ∈ mm_GW := (mm_in (i := 1210) (by decide +kernel) (by decide +kernel))
theorem kd_X8_252 : Cond.constantLong RX8 252 18601 ∈ mm_GW := (mm_in (i := 1363) (by decide +kernel) (by decide +kernel))
theorem kd_X8_246 : Cond.constantLong RX8 246 31 ∈ mm_GW := (mm_in (i := 1368) (by decide +kernel) (by decide +kernel))
theorem ka_int : Cond.arrayClass .int ∈ mm_GW := (mm_in (i := 65) (by decide +kernel) (by decide +kernel))
theorem ka_char : Cond.arrayClass .char ∈ mm_GW := (mm_in (i := 156) (by decide +kernel) (by decide +kernel))
theorem ka_long : Cond.arrayClass .long ∈ mm_GW := (mm_in (i := 1369) (by decide +kernel) (by decide +kernel))
theorem kv_copy : Cond.native arraycopyName ∈ mm_GW := (mm_in (i := 199) (by decide +kernel) (by decide +kernel))
theorem ks_copy : Cond.static arraycopyName ∈ mm_GW := (mm_in (i := 198) (by decide +kernel) (by decide +kernel))
theorem ki_System : Cond.initialized "java/lang/System" ∈ mm_GW := (mm_in (i := 15) (by decide +kernel) (by decide +kernel))
theorem kt_X7_45 : ∀ w ∈ vx_atS RX7 45 "java/lang/IllegalStateException" ["java/lang/RuntimeException", "java/lang/Exception"], w ∈ mm_GW ∨ (w ∈ lw_tbl ∧ mm_ok w = true) := by decide +kernel
theorem ku_X7_45 : ∀ w ∈ Cond.classLink RX7 41 "java/lang/IllegalStateException" :: Cond.initialized "java/lang/IllegalStateException" :: vx_atS RX7 45 "java/lang/IllegalStateException" ["java/lang/RuntimeException", "java/lang/Exception"], vx_ot w = true := by decide +kernel
theorem kt_X7_98 : ∀ w ∈ vx_atS RX7 98 "java/lang/IllegalArgumentException" ["java/lang/RuntimeException", "java/lang/Exception"], w ∈ mm_GW ∨ (w ∈ lw_tbl ∧ mm_ok w = true) := by decide +kernel
theorem ku_X7_98 : ∀ w ∈ Cond.classLink RX7 94 "java/lang/IllegalArgumentException" :: Cond.initialized "java/lang/IllegalArgumentException" :: vx_atS RX7 98 "java/lang/IllegalArgumentException" ["java/lang/RuntimeException", "java/lang/Exception"], vx_ot w = true := by decide +kernel
theorem kt_X7_242 : ∀ w ∈ vx_atS RX7 242 "java/lang/IndexOutOfBoundsException" ["java/lang/RuntimeException", "java/lang/Exception"], w ∈ mm_GW ∨ (w ∈ lw_tbl ∧ mm_ok w = true) := by decide +kernel
theorem ku_X7_242 : ∀ w ∈ Cond.classLink RX7 238 "java/lang/IndexOutOfBoundsException" :: Cond.initialized "java/lang/IndexOutOfBoundsException" :: vx_atS RX7 242 "java/lang/IndexOutOfBoundsException" ["java/lang/RuntimeException", "java/lang/Exception"], vx_ot w = true := by decide +kernel
theorem t_X7_43 : mm_Thr RX7 41 43 45 "java/lang/IllegalStateException" := ⟨"there are 30 items", by decide +kernel, kk_X7_41, (mm_in (i := 14) (by decide +kernel) (by decide +kernel)), by decide +kernel, kt_X7_45, ku_X7_45⟩
theorem t_X7_99 : mm_Thr RX7 41 99 45 "java/lang/IllegalStateException" := ⟨"there would be more than 30 items", by decide +kernel, kk_X7_41, (mm_in (i := 14) (by decide +kernel) (by decide +kernel)), by decide +kernel, kt_X7_45, ku_X7_45⟩
theorem t_X7_190 : mm_Thr RX7 41 190 45 "java/lang/IllegalStateException" := ⟨"the text has 120 characters", by decide +kernel, kk_X7_41, (mm_in (i := 14) (by decide +kernel) (by decide +kernel)), by decide +kernel, kt_X7_45, ku_X7_45⟩
theorem t_X7_220 : mm_Thr RX7 41 220 45 "java/lang/IllegalStateException" := ⟨"there is no record", by decide +kernel, kk_X7_41, (mm_in (i := 14) (by decide +kernel) (by decide +kernel)), by decide +kernel, kt_X7_45, ku_X7_45⟩
theorem t_X7_245 : mm_Thr RX7 41 245 45 "java/lang/IllegalStateException" := ⟨"there is no item", by decide +kernel, kk_X7_41, (mm_in (i := 14) (by decide +kernel) (by decide +kernel)), by decide +kernel, kt_X7_45, ku_X7_45⟩
theorem t_X7_96 : mm_Thr RX7 94 96 98 "java/lang/IllegalArgumentException" := ⟨"count is not 1 to 30, or start is negative", by decide +kernel, kk_X7_94, (mm_in (i := 13) (by decide +kernel) (by decide +kernel)), by decide +kernel, kt_X7_98, ku_X7_98⟩
theorem t_X7_146 : mm_Thr RX7 94 146 98 "java/lang/IllegalArgumentException" := ⟨"position is not 0 to 1000000", by decide +kernel, kk_X7_94, (mm_in (i := 13) (by decide +kernel) (by decide +kernel)), by decide +kernel, kt_X7_98, ku_X7_98⟩
theorem t_X7_176 : mm_Thr RX7 94 176 98 "java/lang/IllegalArgumentException" := ⟨"what is not 0 to 4", by decide +kernel, kk_X7_94, (mm_in (i := 13) (by decide +kernel) (by decide +kernel)), by decide +kernel, kt_X7_98, ku_X7_98⟩
theorem t_X7_184 : mm_Thr RX7 94 184 98 "java/lang/IllegalArgumentException" := ⟨"c is not 32 to 126", by decide +kernel, kk_X7_94, (mm_in (i := 13) (by decide +kernel) (by decide +kernel)), by decide +kernel, kt_X7_98, ku_X7_98⟩
theorem t_X7_199 : mm_Thr RX7 94 199 98 "java/lang/IllegalArgumentException" := ⟨"the text has a fault", by decide +kernel, kk_X7_94, (mm_in (i := 13) (by decide +kernel) (by decide +kernel)), by decide +kernel, kt_X7_98, ku_X7_98⟩
theorem t_X7_232 : mm_Thr RX7 94 232 98 "java/lang/IllegalArgumentException" := ⟨"key is not -999 to 999", by decide +kernel, kk_X7_94, (mm_in (i := 13) (by decide +kernel) (by decide +kernel)), by decide +kernel, kt_X7_98, ku_X7_98⟩
theorem t_X7_234 : mm_Thr RX7 94 234 98 "java/lang/IllegalArgumentException" := ⟨"queue is not 0 to 2", by decide +kernel, kk_X7_94, (mm_in (i := 13) (by decide +kernel) (by decide +kernel)), by decide +kernel, kt_X7_98, ku_X7_98⟩
theorem t_X7_236 : mm_Thr RX7 94 236 98 "java/lang/IllegalArgumentException" := ⟨"layout is not 0 to 3", by decide +kernel, kk_X7_94, (mm_in (i := 13) (by decide +kernel) (by decide +kernel)), by decide +kernel, kt_X7_98, ku_X7_98⟩
theorem t_X7_240 : mm_Thr RX7 238 240 242 "java/lang/IndexOutOfBoundsException" := ⟨"there is no such item", by decide +kernel, kk_X7_238, (mm_in (i := 17) (by decide +kernel) (by decide +kernel)), by decide +kernel, kt_X7_242, ku_X7_242⟩
theorem t_X7_243 : mm_Thr RX7 238 243 242 "java/lang/IndexOutOfBoundsException" := ⟨"there is no such position", by decide +kernel, kk_X7_238, (mm_in (i := 17) (by decide +kernel) (by decide +kernel)), by decide +kernel, kt_X7_242, ku_X7_242⟩
