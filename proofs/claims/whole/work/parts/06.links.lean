theorem xg_mi {w : Cond} (i : Nat) (h : lw_tbl[i]? = some w) (hg : goodWord w = true) : w ∈ xg_tb := List.mem_filter.mpr ⟨List.mem_of_getElem? h, hg⟩
abbrev mX0_reset : xg_Y := (yX0_reset, cX0_reset, 2, none)
theorem zk_X0_reset : xg_zk mX0_reset 0 := ⟨by decide +kernel, by decide +kernel, by decide +kernel, by decide +kernel⟩
theorem py_X0_reset : plainName mX0_reset.1.cls = true := by decide +kernel
abbrev mX0_copyFrom : xg_Y := (yX0_copyFrom, cX0_copyFrom, 3, none)
theorem zk_X0_copyFrom : xg_zk mX0_copyFrom 1 := ⟨by decide +kernel, by decide +kernel, by decide +kernel, by decide +kernel⟩
theorem py_X0_copyFrom : plainName mX0_copyFrom.1.cls = true := by decide +kernel
abbrev mX0_addThing : xg_Y := (yX0_addThing, cX0_addThing, 5, none)
theorem zk_X0_addThing : xg_zk mX0_addThing 4 := ⟨by decide +kernel, by decide +kernel, by decide +kernel, by decide +kernel⟩
theorem py_X0_addThing : plainName mX0_addThing.1.cls = true := by decide +kernel
abbrev mX1_clear : xg_Y := (yX1_clear, cX1_clear, 1, none)
theorem zk_X1_clear : xg_zk mX1_clear 0 := ⟨by decide +kernel, by decide +kernel, by decide +kernel, by decide +kernel⟩
theorem py_X1_clear : plainName mX1_clear.1.cls = true := by decide +kernel
abbrev mX1_copyFrom : xg_Y := (yX1_copyFrom, cX1_copyFrom, 2, none)
theorem zk_X1_copyFrom : xg_zk mX1_copyFrom 1 := ⟨by decide +kernel, by decide +kernel, by decide +kernel, by decide +kernel⟩
theorem py_X1_copyFrom : plainName mX1_copyFrom.1.cls = true := by decide +kernel
abbrev mX1_goldOf : xg_Y := (yX1_goldOf, cX1_goldOf, 2, (some .int))
theorem zk_X1_goldOf : xg_zk mX1_goldOf 1 := ⟨by decide +kernel, by decide +kernel, by decide +kernel, by decide +kernel⟩
theorem py_X1_goldOf : plainName mX1_goldOf.1.cls = true := by decide +kernel
abbrev mX1_isLost : xg_Y := (yX1_isLost, cX1_isLost, 3, (some .boolean))
theorem zk_X1_isLost : xg_zk mX1_isLost 2 := ⟨by decide +kernel, by decide +kernel, by decide +kernel, by decide +kernel⟩
theorem py_X1_isLost : plainName mX1_isLost.1.cls = true := by decide +kernel
abbrev mX1_weighs : xg_Y := (yX1_weighs, cX1_weighs, 3, (some .int))
theorem zk_X1_weighs : xg_zk mX1_weighs 2 := ⟨by decide +kernel, by decide +kernel, by decide +kernel, by decide +kernel⟩
theorem py_X1_weighs : plainName mX1_weighs.1.cls = true := by decide +kernel
abbrev mX1_loadOf : xg_Y := (yX1_loadOf, cX1_loadOf, 5, (some .int))
theorem zk_X1_loadOf : xg_zk mX1_loadOf 2 := ⟨by decide +kernel, by decide +kernel, by decide +kernel, by decide +kernel⟩
theorem py_X1_loadOf : plainName mX1_loadOf.1.cls = true := by decide +kernel
abbrev mX1_firstOverloaded : xg_Y := (yX1_firstOverloaded, cX1_firstOverloaded, 3, (some .int))
theorem zk_X1_firstOverloaded : xg_zk mX1_firstOverloaded 1 := ⟨by decide +kernel, by decide +kernel, by decide +kernel, by decide +kernel⟩
theorem py_X1_firstOverloaded : plainName mX1_firstOverloaded.1.cls = true := by decide +kernel
abbrev mX1_priceOf : xg_Y := (yX1_priceOf, cX1_priceOf, 3, (some .int))
theorem zk_X1_priceOf : xg_zk mX1_priceOf 2 := ⟨by decide +kernel, by decide +kernel, by decide +kernel, by decide +kernel⟩
theorem py_X1_priceOf : plainName mX1_priceOf.1.cls = true := by decide +kernel
abbrev mX1_prices : xg_Y := (yX1_prices, cX1_prices, 4, (some .int))
theorem zk_X1_prices : xg_zk mX1_prices 1 := ⟨by decide +kernel, by decide +kernel, by decide +kernel, by decide +kernel⟩
theorem py_X1_prices : plainName mX1_prices.1.cls = true := by decide +kernel
abbrev mX1_openGates : xg_Y := (yX1_openGates, cX1_openGates, 4, (some .int))
theorem zk_X1_openGates : xg_zk mX1_openGates 1 := ⟨by decide +kernel, by decide +kernel, by decide +kernel, by decide +kernel⟩
theorem py_X1_openGates : plainName mX1_openGates.1.cls = true := by decide +kernel
abbrev mX1_toolOf : xg_Y := (yX1_toolOf, cX1_toolOf, 8, (some .int))
theorem zk_X1_toolOf : xg_zk mX1_toolOf 3 := ⟨by decide +kernel, by decide +kernel, by decide +kernel, by decide +kernel⟩
theorem py_X1_toolOf : plainName mX1_toolOf.1.cls = true := by decide +kernel
abbrev mX1_gild : xg_Y := (yX1_gild, cX1_gild, 4, none)
theorem zk_X1_gild : xg_zk mX1_gild 2 := ⟨by decide +kernel, by decide +kernel, by decide +kernel, by decide +kernel⟩
theorem py_X1_gild : plainName mX1_gild.1.cls = true := by decide +kernel
abbrev mX1_pass : xg_Y := (yX1_pass, cX1_pass, 3, none)
theorem zk_X1_pass : xg_zk mX1_pass 1 := ⟨by decide +kernel, by decide +kernel, by decide +kernel, by decide +kernel⟩
theorem py_X1_pass : plainName mX1_pass.1.cls = true := by decide +kernel
abbrev mX2_findWay : xg_Y := (yX2_findWay, cX2_findWay, 5, (some .boolean))
theorem zk_X2_findWay : xg_zk mX2_findWay 3 := ⟨by decide +kernel, by decide +kernel, by decide +kernel, by decide +kernel⟩
theorem py_X2_findWay : plainName mX2_findWay.1.cls = true := by decide +kernel
abbrev mX2_search : xg_Y := (yX2_search, cX2_search, 13, none)
theorem zk_X2_search : xg_zk mX2_search 7 := ⟨by decide +kernel, by decide +kernel, by decide +kernel, by decide +kernel⟩
theorem py_X2_search : plainName mX2_search.1.cls = true := by decide +kernel
abbrev mX2_firstOf : xg_Y := (yX2_firstOf, cX2_firstOf, 2, (some .int))
theorem zk_X2_firstOf : xg_zk mX2_firstOf 2 := ⟨by decide +kernel, by decide +kernel, by decide +kernel, by decide +kernel⟩
theorem py_X2_firstOf : plainName mX2_firstOf.1.cls = true := by decide +kernel
abbrev mX2_rankOf : xg_Y := (yX2_rankOf, cX2_rankOf, 2, (some .int))
theorem zk_X2_rankOf : xg_zk mX2_rankOf 2 := ⟨by decide +kernel, by decide +kernel, by decide +kernel, by decide +kernel⟩
theorem py_X2_rankOf : plainName mX2_rankOf.1.cls = true := by decide +kernel
abbrev mX2_take : xg_Y := (yX2_take, cX2_take, 4, none)
theorem zk_X2_take : xg_zk mX2_take 3 := ⟨by decide +kernel, by decide +kernel, by decide +kernel, by decide +kernel⟩
theorem py_X2_take : plainName mX2_take.1.cls = true := by decide +kernel
abbrev mX3_readOnto : xg_Y := (yX3_readOnto, cX3_readOnto, 3, (some .int))
theorem zk_X3_readOnto : xg_zk mX3_readOnto 1 := ⟨by decide +kernel, by decide +kernel, by decide +kernel, by decide +kernel⟩
theorem py_X3_readOnto : plainName mX3_readOnto.1.cls = true := by decide +kernel
abbrev mX3_readClause : xg_Y := (yX3_readClause, cX3_readClause, 5, (some .boolean))
theorem zk_X3_readClause : xg_zk mX3_readClause 1 := ⟨by decide +kernel, by decide +kernel, by decide +kernel, by decide +kernel⟩
theorem py_X3_readClause : plainName mX3_readClause.1.cls = true := by decide +kernel
abbrev mX3_doClause : xg_Y := (yX3_doClause, cX3_doClause, 3, none)
theorem zk_X3_doClause : xg_zk mX3_doClause 2 := ⟨by decide +kernel, by decide +kernel, by decide +kernel, by decide +kernel⟩
theorem py_X3_doClause : plainName mX3_doClause.1.cls = true := by decide +kernel
abbrev mX3_setBears : xg_Y := (yX3_setBears, cX3_setBears, 3, none)
theorem zk_X3_setBears : xg_zk mX3_setBears 3 := ⟨by decide +kernel, by decide +kernel, by decide +kernel, by decide +kernel⟩
theorem py_X3_setBears : plainName mX3_setBears.1.cls = true := by decide +kernel
abbrev mX3_leastOf : xg_Y := (yX3_leastOf, cX3_leastOf, 2, (some .int))
theorem zk_X3_leastOf : xg_zk mX3_leastOf 2 := ⟨by decide +kernel, by decide +kernel, by decide +kernel, by decide +kernel⟩
theorem py_X3_leastOf : plainName mX3_leastOf.1.cls = true := by decide +kernel
abbrev mX3_mostOf : xg_Y := (yX3_mostOf, cX3_mostOf, 2, (some .int))
theorem zk_X3_mostOf : xg_zk mX3_mostOf 2 := ⟨by decide +kernel, by decide +kernel, by decide +kernel, by decide +kernel⟩
theorem py_X3_mostOf : plainName mX3_mostOf.1.cls = true := by decide +kernel
abbrev mX3_wordText : xg_Y := (yX3_wordText, cX3_wordText, 1, (some (.object "java/lang/String")))
theorem zk_X3_wordText : xg_zk mX3_wordText 1 := ⟨by decide +kernel, by decide +kernel, by decide +kernel, by decide +kernel⟩
theorem py_X3_wordText : plainName mX3_wordText.1.cls = true := by decide +kernel
abbrev mX3_readWord : xg_Y := (yX3_readWord, cX3_readWord, 2, (some .int))
theorem zk_X3_readWord : xg_zk mX3_readWord 0 := ⟨by decide +kernel, by decide +kernel, by decide +kernel, by decide +kernel⟩
theorem py_X3_readWord : plainName mX3_readWord.1.cls = true := by decide +kernel
abbrev mX3_isToken : xg_Y := (yX3_isToken, cX3_isToken, 3, (some .boolean))
theorem zk_X3_isToken : xg_zk mX3_isToken 1 := ⟨by decide +kernel, by decide +kernel, by decide +kernel, by decide +kernel⟩
theorem py_X3_isToken : plainName mX3_isToken.1.cls = true := by decide +kernel
abbrev mX3_readNumber : xg_Y := (yX3_readNumber, cX3_readNumber, 3, (some .int))
theorem zk_X3_readNumber : xg_zk mX3_readNumber 0 := ⟨by decide +kernel, by decide +kernel, by decide +kernel, by decide +kernel⟩
theorem py_X3_readNumber : plainName mX3_readNumber.1.cls = true := by decide +kernel
abbrev mX3_nextToken : xg_Y := (yX3_nextToken, cX3_nextToken, 2, none)
theorem zk_X3_nextToken : xg_zk mX3_nextToken 0 := ⟨by decide +kernel, by decide +kernel, by decide +kernel, by decide +kernel⟩
theorem py_X3_nextToken : plainName mX3_nextToken.1.cls = true := by decide +kernel
abbrev mX3_letterAt : xg_Y := (yX3_letterAt, cX3_letterAt, 2, (some .int))
theorem zk_X3_letterAt : xg_zk mX3_letterAt 1 := ⟨by decide +kernel, by decide +kernel, by decide +kernel, by decide +kernel⟩
theorem py_X3_letterAt : plainName mX3_letterAt.1.cls = true := by decide +kernel
abbrev mX3_isSmall : xg_Y := (yX3_isSmall, cX3_isSmall, 1, (some .boolean))
theorem zk_X3_isSmall : xg_zk mX3_isSmall 1 := ⟨by decide +kernel, by decide +kernel, by decide +kernel, by decide +kernel⟩
theorem py_X3_isSmall : plainName mX3_isSmall.1.cls = true := by decide +kernel
abbrev mX3_isDigit : xg_Y := (yX3_isDigit, cX3_isDigit, 1, (some .boolean))
theorem zk_X3_isDigit : xg_zk mX3_isDigit 1 := ⟨by decide +kernel, by decide +kernel, by decide +kernel, by decide +kernel⟩
theorem py_X3_isDigit : plainName mX3_isDigit.1.cls = true := by decide +kernel
abbrev mX4_write : xg_Y := (yX4_write, cX4_write, 2, (some .int))
theorem zk_X4_write : xg_zk mX4_write 1 := ⟨by decide +kernel, by decide +kernel, by decide +kernel, by decide +kernel⟩
theorem py_X4_write : plainName mX4_write.1.cls = true := by decide +kernel
abbrev mX4_erase : xg_Y := (yX4_erase, cX4_erase, 2, (some .int))
theorem zk_X4_erase : xg_zk mX4_erase 0 := ⟨by decide +kernel, by decide +kernel, by decide +kernel, by decide +kernel⟩
theorem py_X4_erase : plainName mX4_erase.1.cls = true := by decide +kernel
abbrev mX4_fault : xg_Y := (yX4_fault, cX4_fault, 1, (some .int))
theorem zk_X4_fault : xg_zk mX4_fault 0 := ⟨by decide +kernel, by decide +kernel, by decide +kernel, by decide +kernel⟩
theorem py_X4_fault : plainName mX4_fault.1.cls = true := by decide +kernel
abbrev mX4_court : xg_Y := (yX4_court, cX4_court, 1, (some .int))
theorem zk_X4_court : xg_zk mX4_court 0 := ⟨by decide +kernel, by decide +kernel, by decide +kernel, by decide +kernel⟩
theorem py_X4_court : plainName mX4_court.1.cls = true := by decide +kernel
abbrev mX4_thing : xg_Y := (yX4_thing, cX4_thing, 3, (some .int))
theorem zk_X4_thing : xg_zk mX4_thing 2 := ⟨by decide +kernel, by decide +kernel, by decide +kernel, by decide +kernel⟩
theorem py_X4_thing : plainName mX4_thing.1.cls = true := by decide +kernel
abbrev mX4_as : xg_Y := (yX4_as, cX4_as, 3, (some .int))
theorem zk_X4_as : xg_zk mX4_as 2 := ⟨by decide +kernel, by decide +kernel, by decide +kernel, by decide +kernel⟩
theorem py_X4_as : plainName mX4_as.1.cls = true := by decide +kernel
abbrev mX4_floor : xg_Y := (yX4_floor, cX4_floor, 3, (some .int))
theorem zk_X4_floor : xg_zk mX4_floor 2 := ⟨by decide +kernel, by decide +kernel, by decide +kernel, by decide +kernel⟩
theorem py_X4_floor : plainName mX4_floor.1.cls = true := by decide +kernel
abbrev mX4_hand : xg_Y := (yX4_hand, cX4_hand, 2, (some .int))
theorem zk_X4_hand : xg_zk mX4_hand 1 := ⟨by decide +kernel, by decide +kernel, by decide +kernel, by decide +kernel⟩
theorem py_X4_hand : plainName mX4_hand.1.cls = true := by decide +kernel
abbrev mX4_touch : xg_Y := (yX4_touch, cX4_touch, 2, (some .int))
theorem zk_X4_touch : xg_zk mX4_touch 1 := ⟨by decide +kernel, by decide +kernel, by decide +kernel, by decide +kernel⟩
theorem py_X4_touch : plainName mX4_touch.1.cls = true := by decide +kernel
abbrev mX4_by : xg_Y := (yX4_by, cX4_by, 3, (some .int))
theorem zk_X4_by : xg_zk mX4_by 2 := ⟨by decide +kernel, by decide +kernel, by decide +kernel, by decide +kernel⟩
theorem py_X4_by : plainName mX4_by.1.cls = true := by decide +kernel
abbrev mX4_eat : xg_Y := (yX4_eat, cX4_eat, 4, (some .int))
theorem zk_X4_eat : xg_zk mX4_eat 2 := ⟨by decide +kernel, by decide +kernel, by decide +kernel, by decide +kernel⟩
theorem py_X4_eat : plainName mX4_eat.1.cls = true := by decide +kernel
abbrev mX4_bathe : xg_Y := (yX4_bathe, cX4_bathe, 1, (some .int))
theorem zk_X4_bathe : xg_zk mX4_bathe 0 := ⟨by decide +kernel, by decide +kernel, by decide +kernel, by decide +kernel⟩
theorem py_X4_bathe : plainName mX4_bathe.1.cls = true := by decide +kernel
abbrev mX4_idle : xg_Y := (yX4_idle, cX4_idle, 1, (some .int))
theorem zk_X4_idle : xg_zk mX4_idle 0 := ⟨by decide +kernel, by decide +kernel, by decide +kernel, by decide +kernel⟩
theorem py_X4_idle : plainName mX4_idle.1.cls = true := by decide +kernel
abbrev mX4_undo : xg_Y := (yX4_undo, cX4_undo, 1, (some .int))
theorem zk_X4_undo : xg_zk mX4_undo 0 := ⟨by decide +kernel, by decide +kernel, by decide +kernel, by decide +kernel⟩
theorem py_X4_undo : plainName mX4_undo.1.cls = true := by decide +kernel
abbrev mX4_keep : xg_Y := (yX4_keep, cX4_keep, 2, (some .int))
theorem zk_X4_keep : xg_zk mX4_keep 1 := ⟨by decide +kernel, by decide +kernel, by decide +kernel, by decide +kernel⟩
theorem py_X4_keep : plainName mX4_keep.1.cls = true := by decide +kernel
abbrev mX4_back : xg_Y := (yX4_back, cX4_back, 2, (some .int))
theorem zk_X4_back : xg_zk mX4_back 1 := ⟨by decide +kernel, by decide +kernel, by decide +kernel, by decide +kernel⟩
theorem py_X4_back : plainName mX4_back.1.cls = true := by decide +kernel
abbrev mX4_town : xg_Y := (yX4_town, cX4_town, 8, (some .int))
theorem zk_X4_town : xg_zk mX4_town 2 := ⟨by decide +kernel, by decide +kernel, by decide +kernel, by decide +kernel⟩
theorem py_X4_town : plainName mX4_town.1.cls = true := by decide +kernel
abbrev mX4_put : xg_Y := (yX4_put, cX4_put, 2, (some .int))
theorem zk_X4_put : xg_zk mX4_put 1 := ⟨by decide +kernel, by decide +kernel, by decide +kernel, by decide +kernel⟩
theorem py_X4_put : plainName mX4_put.1.cls = true := by decide +kernel
abbrev mX4_wipe : xg_Y := (yX4_wipe, cX4_wipe, 2, (some .int))
theorem zk_X4_wipe : xg_zk mX4_wipe 0 := ⟨by decide +kernel, by decide +kernel, by decide +kernel, by decide +kernel⟩
theorem py_X4_wipe : plainName mX4_wipe.1.cls = true := by decide +kernel
abbrev mX4_goes : xg_Y := (yX4_goes, cX4_goes, 4, (some .int))
theorem zk_X4_goes : xg_zk mX4_goes 1 := ⟨by decide +kernel, by decide +kernel, by decide +kernel, by decide +kernel⟩
theorem py_X4_goes : plainName mX4_goes.1.cls = true := by decide +kernel
abbrev mX4_task : xg_Y := (yX4_task, cX4_task, 2, (some .int))
theorem zk_X4_task : xg_zk mX4_task 1 := ⟨by decide +kernel, by decide +kernel, by decide +kernel, by decide +kernel⟩
theorem py_X4_task : plainName mX4_task.1.cls = true := by decide +kernel
abbrev mX4_drop : xg_Y := (yX4_drop, cX4_drop, 2, (some .int))
theorem zk_X4_drop : xg_zk mX4_drop 0 := ⟨by decide +kernel, by decide +kernel, by decide +kernel, by decide +kernel⟩
theorem py_X4_drop : plainName mX4_drop.1.cls = true := by decide +kernel
abbrev mX4_plan : xg_Y := (yX4_plan, cX4_plan, 2, (some .int))
theorem zk_X4_plan : xg_zk mX4_plan 1 := ⟨by decide +kernel, by decide +kernel, by decide +kernel, by decide +kernel⟩
theorem py_X4_plan : plainName mX4_plan.1.cls = true := by decide +kernel
abbrev mX4_price : xg_Y := (yX4_price, cX4_price, 3, (some .int))
theorem zk_X4_price : xg_zk mX4_price 1 := ⟨by decide +kernel, by decide +kernel, by decide +kernel, by decide +kernel⟩
theorem py_X4_price : plainName mX4_price.1.cls = true := by decide +kernel
abbrev mX4_sell : xg_Y := (yX4_sell, cX4_sell, 6, (some .int))
theorem zk_X4_sell : xg_zk mX4_sell 1 := ⟨by decide +kernel, by decide +kernel, by decide +kernel, by decide +kernel⟩
theorem py_X4_sell : plainName mX4_sell.1.cls = true := by decide +kernel
abbrev mX4_thief : xg_Y := (yX4_thief, cX4_thief, 7, (some .int))
theorem zk_X4_thief : xg_zk mX4_thief 1 := ⟨by decide +kernel, by decide +kernel, by decide +kernel, by decide +kernel⟩
theorem py_X4_thief : plainName mX4_thief.1.cls = true := by decide +kernel
abbrev mX4_look : xg_Y := (yX4_look, cX4_look, 4, (some .int))
theorem zk_X4_look : xg_zk mX4_look 3 := ⟨by decide +kernel, by decide +kernel, by decide +kernel, by decide +kernel⟩
theorem py_X4_look : plainName mX4_look.1.cls = true := by decide +kernel
abbrev mX4_forget : xg_Y := (yX4_forget, cX4_forget, 2, (some .int))
theorem zk_X4_forget : xg_zk mX4_forget 0 := ⟨by decide +kernel, by decide +kernel, by decide +kernel, by decide +kernel⟩
theorem py_X4_forget : plainName mX4_forget.1.cls = true := by decide +kernel
abbrev mX4_fit : xg_Y := (yX4_fit, cX4_fit, 4, (some .int))
theorem zk_X4_fit : xg_zk mX4_fit 1 := ⟨by decide +kernel, by decide +kernel, by decide +kernel, by decide +kernel⟩
theorem py_X4_fit : plainName mX4_fit.1.cls = true := by decide +kernel
abbrev mX4_baths : xg_Y := (yX4_baths, cX4_baths, 8, (some .int))
theorem zk_X4_baths : xg_zk mX4_baths 2 := ⟨by decide +kernel, by decide +kernel, by decide +kernel, by decide +kernel⟩
theorem py_X4_baths : plainName mX4_baths.1.cls = true := by decide +kernel
abbrev mX4_slips : xg_Y := (yX4_slips, cX4_slips, 15, (some .long))
theorem zk_X4_slips : xg_zk mX4_slips 4 := ⟨by decide +kernel, by decide +kernel, by decide +kernel, by decide +kernel⟩
theorem py_X4_slips : plainName mX4_slips.1.cls = true := by decide +kernel
abbrev mX4_count : xg_Y := (yX4_count, cX4_count, 2, (some .int))
theorem zk_X4_count : xg_zk mX4_count 1 := ⟨by decide +kernel, by decide +kernel, by decide +kernel, by decide +kernel⟩
theorem py_X4_count : plainName mX4_count.1.cls = true := by decide +kernel
abbrev mX4_hasBit : xg_Y := (yX4_hasBit, cX4_hasBit, 2, (some .boolean))
theorem zk_X4_hasBit : xg_zk mX4_hasBit 2 := ⟨by decide +kernel, by decide +kernel, by decide +kernel, by decide +kernel⟩
theorem py_X4_hasBit : plainName mX4_hasBit.1.cls = true := by decide +kernel
abbrev mX4_isThing : xg_Y := (yX4_isThing, cX4_isThing, 2, (some .boolean))
theorem zk_X4_isThing : xg_zk mX4_isThing 1 := ⟨by decide +kernel, by decide +kernel, by decide +kernel, by decide +kernel⟩
theorem py_X4_isThing : plainName mX4_isThing.1.cls = true := by decide +kernel
abbrev mX4_isUnder : xg_Y := (yX4_isUnder, cX4_isUnder, 4, (some .boolean))
theorem zk_X4_isUnder : xg_zk mX4_isUnder 2 := ⟨by decide +kernel, by decide +kernel, by decide +kernel, by decide +kernel⟩
theorem py_X4_isUnder : plainName mX4_isUnder.1.cls = true := by decide +kernel
abbrev mX4_handIn : xg_Y := (yX4_handIn, cX4_handIn, 5, (some .int))
theorem zk_X4_handIn : xg_zk mX4_handIn 3 := ⟨by decide +kernel, by decide +kernel, by decide +kernel, by decide +kernel⟩
theorem py_X4_handIn : plainName mX4_handIn.1.cls = true := by decide +kernel
abbrev mX4_startDay : xg_Y := (yX4_startDay, cX4_startDay, 1, none)
theorem zk_X4_startDay : xg_zk mX4_startDay 0 := ⟨by decide +kernel, by decide +kernel, by decide +kernel, by decide +kernel⟩
theorem py_X4_startDay : plainName mX4_startDay.1.cls = true := by decide +kernel
abbrev mX4_servesAsTool : xg_Y := (yX4_servesAsTool, cX4_servesAsTool, 3, (some .boolean))
theorem zk_X4_servesAsTool : xg_zk mX4_servesAsTool 2 := ⟨by decide +kernel, by decide +kernel, by decide +kernel, by decide +kernel⟩
theorem py_X4_servesAsTool : plainName mX4_servesAsTool.1.cls = true := by decide +kernel
abbrev mX4_remember : xg_Y := (yX4_remember, cX4_remember, 3, none)
theorem zk_X4_remember : xg_zk mX4_remember 0 := ⟨by decide +kernel, by decide +kernel, by decide +kernel, by decide +kernel⟩
theorem py_X4_remember : plainName mX4_remember.1.cls = true := by decide +kernel
abbrev mX4_doTouching : xg_Y := (yX4_doTouching, cX4_doTouching, 3, (some .int))
theorem zk_X4_doTouching : xg_zk mX4_doTouching 1 := ⟨by decide +kernel, by decide +kernel, by decide +kernel, by decide +kernel⟩
theorem py_X4_doTouching : plainName mX4_doTouching.1.cls = true := by decide +kernel
abbrev mX4_doEating : xg_Y := (yX4_doEating, cX4_doEating, 4, (some .int))
theorem zk_X4_doEating : xg_zk mX4_doEating 2 := ⟨by decide +kernel, by decide +kernel, by decide +kernel, by decide +kernel⟩
theorem py_X4_doEating : plainName mX4_doEating.1.cls = true := by decide +kernel
abbrev mX4_townThings : xg_Y := (yX4_townThings, cX4_townThings, 3, (some .int))
theorem zk_X4_townThings : xg_zk mX4_townThings 0 := ⟨by decide +kernel, by decide +kernel, by decide +kernel, by decide +kernel⟩
theorem py_X4_townThings : plainName mX4_townThings.1.cls = true := by decide +kernel
abbrev mX4_thiefGain : xg_Y := (yX4_thiefGain, cX4_thiefGain, 3, (some .int))
theorem zk_X4_thiefGain : xg_zk mX4_thiefGain 2 := ⟨by decide +kernel, by decide +kernel, by decide +kernel, by decide +kernel⟩
theorem py_X4_thiefGain : plainName mX4_thiefGain.1.cls = true := by decide +kernel
abbrev mX4_isRest : xg_Y := (yX4_isRest, cX4_isRest, 5, (some .boolean))
theorem zk_X4_isRest : xg_zk mX4_isRest 2 := ⟨by decide +kernel, by decide +kernel, by decide +kernel, by decide +kernel⟩
theorem py_X4_isRest : plainName mX4_isRest.1.cls = true := by decide +kernel
abbrev mX4_goldEnd : xg_Y := (yX4_goldEnd, cX4_goldEnd, 3, (some .int))
theorem zk_X4_goldEnd : xg_zk mX4_goldEnd 1 := ⟨by decide +kernel, by decide +kernel, by decide +kernel, by decide +kernel⟩
theorem py_X4_goldEnd : plainName mX4_goldEnd.1.cls = true := by decide +kernel
abbrev mX4_fitsSeen : xg_Y := (yX4_fitsSeen, cX4_fitsSeen, 6, (some .boolean))
theorem zk_X4_fitsSeen : xg_zk mX4_fitsSeen 3 := ⟨by decide +kernel, by decide +kernel, by decide +kernel, by decide +kernel⟩
theorem py_X4_fitsSeen : plainName mX4_fitsSeen.1.cls = true := by decide +kernel
abbrev mX4_cleanAnyway : xg_Y := (yX4_cleanAnyway, cX4_cleanAnyway, 3, (some .int))
theorem zk_X4_cleanAnyway : xg_zk mX4_cleanAnyway 0 := ⟨by decide +kernel, by decide +kernel, by decide +kernel, by decide +kernel⟩
theorem py_X4_cleanAnyway : plainName mX4_cleanAnyway.1.cls = true := by decide +kernel
abbrev mX4_cleanBehind : xg_Y := (yX4_cleanBehind, cX4_cleanBehind, 4, (some .int))
theorem zk_X4_cleanBehind : xg_zk mX4_cleanBehind 1 := ⟨by decide +kernel, by decide +kernel, by decide +kernel, by decide +kernel⟩
theorem py_X4_cleanBehind : plainName mX4_cleanBehind.1.cls = true := by decide +kernel
abbrev mX4_power : xg_Y := (yX4_power, cX4_power, 5, (some .long))
theorem zk_X4_power : xg_zk mX4_power 2 := ⟨by decide +kernel, by decide +kernel, by decide +kernel, by decide +kernel⟩
theorem py_X4_power : plainName mX4_power.1.cls = true := by decide +kernel
abbrev mX4_commonDivisor : xg_Y := (yX4_commonDivisor, cX4_commonDivisor, 11, (some .long))
theorem zk_X4_commonDivisor : xg_zk mX4_commonDivisor 2 := ⟨by decide +kernel, by decide +kernel, by decide +kernel, by decide +kernel⟩
theorem py_X4_commonDivisor : plainName mX4_commonDivisor.1.cls = true := by decide +kernel
abbrev mX5_in : xg_Y := (yX5_in, cX5_in, 3, (some .boolean))
theorem zk_X5_in : xg_zk mX5_in 3 := ⟨by decide +kernel, by decide +kernel, by decide +kernel, by decide +kernel⟩
theorem py_X5_in : plainName mX5_in.1.cls = true := by decide +kernel
abbrev mX5_has : xg_Y := (yX5_has, cX5_has, 2, (some .boolean))
theorem zk_X5_has : xg_zk mX5_has 2 := ⟨by decide +kernel, by decide +kernel, by decide +kernel, by decide +kernel⟩
theorem py_X5_has : plainName mX5_has.1.cls = true := by decide +kernel
abbrev mX5_bits : xg_Y := (yX5_bits, cX5_bits, 3, (some .int))
theorem zk_X5_bits : xg_zk mX5_bits 1 := ⟨by decide +kernel, by decide +kernel, by decide +kernel, by decide +kernel⟩
theorem py_X5_bits : plainName mX5_bits.1.cls = true := by decide +kernel
abbrev mX5_plain : xg_Y := (yX5_plain, cX5_plain, 1, none)
theorem zk_X5_plain : xg_zk mX5_plain 0 := ⟨by decide +kernel, by decide +kernel, by decide +kernel, by decide +kernel⟩
theorem py_X5_plain : plainName mX5_plain.1.cls = true := by decide +kernel
abbrev mX5_begin : xg_Y := (yX5_begin, cX5_begin, 2, none)
theorem zk_X5_begin : xg_zk mX5_begin 0 := ⟨by decide +kernel, by decide +kernel, by decide +kernel, by decide +kernel⟩
theorem py_X5_begin : plainName mX5_begin.1.cls = true := by decide +kernel
abbrev mX5_kindOf : xg_Y := (yX5_kindOf, cX5_kindOf, 2, (some .int))
theorem zk_X5_kindOf : xg_zk mX5_kindOf 1 := ⟨by decide +kernel, by decide +kernel, by decide +kernel, by decide +kernel⟩
theorem py_X5_kindOf : plainName mX5_kindOf.1.cls = true := by decide +kernel
abbrev mX5_floorOf : xg_Y := (yX5_floorOf, cX5_floorOf, 2, (some .int))
theorem zk_X5_floorOf : xg_zk mX5_floorOf 1 := ⟨by decide +kernel, by decide +kernel, by decide +kernel, by decide +kernel⟩
theorem py_X5_floorOf : plainName mX5_floorOf.1.cls = true := by decide +kernel
abbrev mX5_isThing : xg_Y := (yX5_isThing, cX5_isThing, 2, (some .boolean))
theorem zk_X5_isThing : xg_zk mX5_isThing 1 := ⟨by decide +kernel, by decide +kernel, by decide +kernel, by decide +kernel⟩
theorem py_X5_isThing : plainName mX5_isThing.1.cls = true := by decide +kernel
abbrev mX5_write : xg_Y := (yX5_write, cX5_write, 2, (some .int))
theorem zk_X5_write : xg_zk mX5_write 1 := ⟨by decide +kernel, by decide +kernel, by decide +kernel, by decide +kernel⟩
theorem py_X5_write : plainName mX5_write.1.cls = true := by decide +kernel
abbrev mX5_erase : xg_Y := (yX5_erase, cX5_erase, 2, (some .int))
theorem zk_X5_erase : xg_zk mX5_erase 0 := ⟨by decide +kernel, by decide +kernel, by decide +kernel, by decide +kernel⟩
theorem py_X5_erase : plainName mX5_erase.1.cls = true := by decide +kernel
abbrev mX5_nextToken : xg_Y := (yX5_nextToken, cX5_nextToken, 1, none)
theorem zk_X5_nextToken : xg_zk mX5_nextToken 0 := ⟨by decide +kernel, by decide +kernel, by decide +kernel, by decide +kernel⟩
theorem py_X5_nextToken : plainName mX5_nextToken.1.cls = true := by decide +kernel
abbrev mX5_fails : xg_Y := (yX5_fails, cX5_fails, 1, (some .boolean))
theorem zk_X5_fails : xg_zk mX5_fails 0 := ⟨by decide +kernel, by decide +kernel, by decide +kernel, by decide +kernel⟩
theorem py_X5_fails : plainName mX5_fails.1.cls = true := by decide +kernel
abbrev mX5_isNumber : xg_Y := (yX5_isNumber, cX5_isNumber, 4, (some .boolean))
theorem zk_X5_isNumber : xg_zk mX5_isNumber 3 := ⟨by decide +kernel, by decide +kernel, by decide +kernel, by decide +kernel⟩
theorem py_X5_isNumber : plainName mX5_isNumber.1.cls = true := by decide +kernel
abbrev mX5_isThingLine : xg_Y := (yX5_isThingLine, cX5_isThingLine, 2, (some .boolean))
theorem zk_X5_isThingLine : xg_zk mX5_isThingLine 1 := ⟨by decide +kernel, by decide +kernel, by decide +kernel, by decide +kernel⟩
theorem py_X5_isThingLine : plainName mX5_isThingLine.1.cls = true := by decide +kernel
abbrev mX5_isLine : xg_Y := (yX5_isLine, cX5_isLine, 4, (some .boolean))
theorem zk_X5_isLine : xg_zk mX5_isLine 1 := ⟨by decide +kernel, by decide +kernel, by decide +kernel, by decide +kernel⟩
theorem py_X5_isLine : plainName mX5_isLine.1.cls = true := by decide +kernel
abbrev mX5_isRead : xg_Y := (yX5_isRead, cX5_isRead, 2, (some .boolean))
theorem zk_X5_isRead : xg_zk mX5_isRead 0 := ⟨by decide +kernel, by decide +kernel, by decide +kernel, by decide +kernel⟩
theorem py_X5_isRead : plainName mX5_isRead.1.cls = true := by decide +kernel
abbrev mX5_fault : xg_Y := (yX5_fault, cX5_fault, 1, (some .int))
theorem zk_X5_fault : xg_zk mX5_fault 0 := ⟨by decide +kernel, by decide +kernel, by decide +kernel, by decide +kernel⟩
theorem py_X5_fault : plainName mX5_fault.1.cls = true := by decide +kernel
abbrev mX5_doLine : xg_Y := (yX5_doLine, cX5_doLine, 4, none)
theorem zk_X5_doLine : xg_zk mX5_doLine 1 := ⟨by decide +kernel, by decide +kernel, by decide +kernel, by decide +kernel⟩
theorem py_X5_doLine : plainName mX5_doLine.1.cls = true := by decide +kernel
abbrev mX5_court : xg_Y := (yX5_court, cX5_court, 2, (some .int))
theorem zk_X5_court : xg_zk mX5_court 0 := ⟨by decide +kernel, by decide +kernel, by decide +kernel, by decide +kernel⟩
theorem py_X5_court : plainName mX5_court.1.cls = true := by decide +kernel
abbrev mX5_weighs : xg_Y := (yX5_weighs, cX5_weighs, 3, (some .int))
theorem zk_X5_weighs : xg_zk mX5_weighs 2 := ⟨by decide +kernel, by decide +kernel, by decide +kernel, by decide +kernel⟩
theorem py_X5_weighs : plainName mX5_weighs.1.cls = true := by decide +kernel
abbrev mX5_loadOf : xg_Y := (yX5_loadOf, cX5_loadOf, 5, (some .int))
theorem zk_X5_loadOf : xg_zk mX5_loadOf 2 := ⟨by decide +kernel, by decide +kernel, by decide +kernel, by decide +kernel⟩
theorem py_X5_loadOf : plainName mX5_loadOf.1.cls = true := by decide +kernel
abbrev mX5_isThere : xg_Y := (yX5_isThere, cX5_isThere, 3, (some .boolean))
theorem zk_X5_isThere : xg_zk mX5_isThere 2 := ⟨by decide +kernel, by decide +kernel, by decide +kernel, by decide +kernel⟩
theorem py_X5_isThere : plainName mX5_isThere.1.cls = true := by decide +kernel
abbrev mX5_priceOf : xg_Y := (yX5_priceOf, cX5_priceOf, 3, (some .int))
theorem zk_X5_priceOf : xg_zk mX5_priceOf 2 := ⟨by decide +kernel, by decide +kernel, by decide +kernel, by decide +kernel⟩
theorem py_X5_priceOf : plainName mX5_priceOf.1.cls = true := by decide +kernel
abbrev mX5_pricesOf : xg_Y := (yX5_pricesOf, cX5_pricesOf, 4, (some .int))
theorem zk_X5_pricesOf : xg_zk mX5_pricesOf 1 := ⟨by decide +kernel, by decide +kernel, by decide +kernel, by decide +kernel⟩
theorem py_X5_pricesOf : plainName mX5_pricesOf.1.cls = true := by decide +kernel
abbrev mX5_thing : xg_Y := (yX5_thing, cX5_thing, 3, (some .int))
theorem zk_X5_thing : xg_zk mX5_thing 2 := ⟨by decide +kernel, by decide +kernel, by decide +kernel, by decide +kernel⟩
theorem py_X5_thing : plainName mX5_thing.1.cls = true := by decide +kernel
abbrev mX5_as : xg_Y := (yX5_as, cX5_as, 5, (some .int))
theorem zk_X5_as : xg_zk mX5_as 2 := ⟨by decide +kernel, by decide +kernel, by decide +kernel, by decide +kernel⟩
theorem py_X5_as : plainName mX5_as.1.cls = true := by decide +kernel
abbrev mX5_isTask : xg_Y := (yX5_isTask, cX5_isTask, 4, (some .boolean))
theorem zk_X5_isTask : xg_zk mX5_isTask 1 := ⟨by decide +kernel, by decide +kernel, by decide +kernel, by decide +kernel⟩
theorem py_X5_isTask : plainName mX5_isTask.1.cls = true := by decide +kernel
abbrev mX5_toolOf : xg_Y := (yX5_toolOf, cX5_toolOf, 7, (some .int))
theorem zk_X5_toolOf : xg_zk mX5_toolOf 1 := ⟨by decide +kernel, by decide +kernel, by decide +kernel, by decide +kernel⟩
theorem py_X5_toolOf : plainName mX5_toolOf.1.cls = true := by decide +kernel
abbrev mX5_floor : xg_Y := (yX5_floor, cX5_floor, 3, (some .int))
theorem zk_X5_floor : xg_zk mX5_floor 2 := ⟨by decide +kernel, by decide +kernel, by decide +kernel, by decide +kernel⟩
theorem py_X5_floor : plainName mX5_floor.1.cls = true := by decide +kernel
abbrev mX5_handBehind : xg_Y := (yX5_handBehind, cX5_handBehind, 2, (some .int))
theorem zk_X5_handBehind : xg_zk mX5_handBehind 1 := ⟨by decide +kernel, by decide +kernel, by decide +kernel, by decide +kernel⟩
theorem py_X5_handBehind : plainName mX5_handBehind.1.cls = true := by decide +kernel
abbrev mX5_handIn : xg_Y := (yX5_handIn, cX5_handIn, 5, (some .int))
theorem zk_X5_handIn : xg_zk mX5_handIn 2 := ⟨by decide +kernel, by decide +kernel, by decide +kernel, by decide +kernel⟩
theorem py_X5_handIn : plainName mX5_handIn.1.cls = true := by decide +kernel
abbrev mX5_hand : xg_Y := (yX5_hand, cX5_hand, 2, (some .int))
theorem zk_X5_hand : xg_zk mX5_hand 1 := ⟨by decide +kernel, by decide +kernel, by decide +kernel, by decide +kernel⟩
theorem py_X5_hand : plainName mX5_hand.1.cls = true := by decide +kernel
abbrev mX5_note : xg_Y := (yX5_note, cX5_note, 2, none)
theorem zk_X5_note : xg_zk mX5_note 0 := ⟨by decide +kernel, by decide +kernel, by decide +kernel, by decide +kernel⟩
theorem py_X5_note : plainName mX5_note.1.cls = true := by decide +kernel
abbrev mX5_copy : xg_Y := (yX5_copy, cX5_copy, 5, none)
theorem zk_X5_copy : xg_zk mX5_copy 4 := ⟨by decide +kernel, by decide +kernel, by decide +kernel, by decide +kernel⟩
theorem py_X5_copy : plainName mX5_copy.1.cls = true := by decide +kernel
abbrev mX5_touches : xg_Y := (yX5_touches, cX5_touches, 3, none)
theorem zk_X5_touches : xg_zk mX5_touches 1 := ⟨by decide +kernel, by decide +kernel, by decide +kernel, by decide +kernel⟩
theorem py_X5_touches : plainName mX5_touches.1.cls = true := by decide +kernel
abbrev mX5_pass : xg_Y := (yX5_pass, cX5_pass, 3, none)
theorem zk_X5_pass : xg_zk mX5_pass 1 := ⟨by decide +kernel, by decide +kernel, by decide +kernel, by decide +kernel⟩
theorem py_X5_pass : plainName mX5_pass.1.cls = true := by decide +kernel
abbrev mX5_touch : xg_Y := (yX5_touch, cX5_touch, 3, (some .int))
theorem zk_X5_touch : xg_zk mX5_touch 1 := ⟨by decide +kernel, by decide +kernel, by decide +kernel, by decide +kernel⟩
theorem py_X5_touch : plainName mX5_touch.1.cls = true := by decide +kernel
abbrev mX5_isBy : xg_Y := (yX5_isBy, cX5_isBy, 3, (some .boolean))
theorem zk_X5_isBy : xg_zk mX5_isBy 2 := ⟨by decide +kernel, by decide +kernel, by decide +kernel, by decide +kernel⟩
theorem py_X5_isBy : plainName mX5_isBy.1.cls = true := by decide +kernel
abbrev mX5_by : xg_Y := (yX5_by, cX5_by, 4, (some .int))
theorem zk_X5_by : xg_zk mX5_by 2 := ⟨by decide +kernel, by decide +kernel, by decide +kernel, by decide +kernel⟩
theorem py_X5_by : plainName mX5_by.1.cls = true := by decide +kernel
abbrev mX5_eat : xg_Y := (yX5_eat, cX5_eat, 4, (some .int))
theorem zk_X5_eat : xg_zk mX5_eat 2 := ⟨by decide +kernel, by decide +kernel, by decide +kernel, by decide +kernel⟩
theorem py_X5_eat : plainName mX5_eat.1.cls = true := by decide +kernel
abbrev mX5_bathe : xg_Y := (yX5_bathe, cX5_bathe, 1, (some .int))
theorem zk_X5_bathe : xg_zk mX5_bathe 0 := ⟨by decide +kernel, by decide +kernel, by decide +kernel, by decide +kernel⟩
theorem py_X5_bathe : plainName mX5_bathe.1.cls = true := by decide +kernel
abbrev mX5_idle : xg_Y := (yX5_idle, cX5_idle, 1, (some .int))
theorem zk_X5_idle : xg_zk mX5_idle 0 := ⟨by decide +kernel, by decide +kernel, by decide +kernel, by decide +kernel⟩
theorem py_X5_idle : plainName mX5_idle.1.cls = true := by decide +kernel
abbrev mX5_undo : xg_Y := (yX5_undo, cX5_undo, 1, (some .int))
theorem zk_X5_undo : xg_zk mX5_undo 0 := ⟨by decide +kernel, by decide +kernel, by decide +kernel, by decide +kernel⟩
theorem py_X5_undo : plainName mX5_undo.1.cls = true := by decide +kernel
abbrev mX5_keep : xg_Y := (yX5_keep, cX5_keep, 2, (some .int))
theorem zk_X5_keep : xg_zk mX5_keep 1 := ⟨by decide +kernel, by decide +kernel, by decide +kernel, by decide +kernel⟩
theorem py_X5_keep : plainName mX5_keep.1.cls = true := by decide +kernel
abbrev mX5_back : xg_Y := (yX5_back, cX5_back, 2, (some .int))
theorem zk_X5_back : xg_zk mX5_back 1 := ⟨by decide +kernel, by decide +kernel, by decide +kernel, by decide +kernel⟩
theorem py_X5_back : plainName mX5_back.1.cls = true := by decide +kernel
abbrev mX5_tooLoaded : xg_Y := (yX5_tooLoaded, cX5_tooLoaded, 4, (some .int))
theorem zk_X5_tooLoaded : xg_zk mX5_tooLoaded 1 := ⟨by decide +kernel, by decide +kernel, by decide +kernel, by decide +kernel⟩
theorem py_X5_tooLoaded : plainName mX5_tooLoaded.1.cls = true := by decide +kernel
abbrev mX5_town : xg_Y := (yX5_town, cX5_town, 9, (some .int))
theorem zk_X5_town : xg_zk mX5_town 2 := ⟨by decide +kernel, by decide +kernel, by decide +kernel, by decide +kernel⟩
theorem py_X5_town : plainName mX5_town.1.cls = true := by decide +kernel
abbrev mX5_put : xg_Y := (yX5_put, cX5_put, 2, (some .int))
theorem zk_X5_put : xg_zk mX5_put 1 := ⟨by decide +kernel, by decide +kernel, by decide +kernel, by decide +kernel⟩
theorem py_X5_put : plainName mX5_put.1.cls = true := by decide +kernel
abbrev mX5_wipe : xg_Y := (yX5_wipe, cX5_wipe, 2, (some .int))
theorem zk_X5_wipe : xg_zk mX5_wipe 0 := ⟨by decide +kernel, by decide +kernel, by decide +kernel, by decide +kernel⟩
theorem py_X5_wipe : plainName mX5_wipe.1.cls = true := by decide +kernel
abbrev mX5_goes : xg_Y := (yX5_goes, cX5_goes, 4, (some .int))
theorem zk_X5_goes : xg_zk mX5_goes 1 := ⟨by decide +kernel, by decide +kernel, by decide +kernel, by decide +kernel⟩
theorem py_X5_goes : plainName mX5_goes.1.cls = true := by decide +kernel
abbrev mX5_task : xg_Y := (yX5_task, cX5_task, 2, (some .int))
theorem zk_X5_task : xg_zk mX5_task 1 := ⟨by decide +kernel, by decide +kernel, by decide +kernel, by decide +kernel⟩
theorem py_X5_task : plainName mX5_task.1.cls = true := by decide +kernel
abbrev mX5_drop : xg_Y := (yX5_drop, cX5_drop, 2, (some .int))
theorem zk_X5_drop : xg_zk mX5_drop 0 := ⟨by decide +kernel, by decide +kernel, by decide +kernel, by decide +kernel⟩
theorem py_X5_drop : plainName mX5_drop.1.cls = true := by decide +kernel
abbrev mX5_placeOf : xg_Y := (yX5_placeOf, cX5_placeOf, 4, (some .int))
theorem zk_X5_placeOf : xg_zk mX5_placeOf 4 := ⟨by decide +kernel, by decide +kernel, by decide +kernel, by decide +kernel⟩
theorem py_X5_placeOf : plainName mX5_placeOf.1.cls = true := by decide +kernel
abbrev mX5_goldBy : xg_Y := (yX5_goldBy, cX5_goldBy, 6, (some .int))
theorem zk_X5_goldBy : xg_zk mX5_goldBy 4 := ⟨by decide +kernel, by decide +kernel, by decide +kernel, by decide +kernel⟩
theorem py_X5_goldBy : plainName mX5_goldBy.1.cls = true := by decide +kernel
abbrev mX5_costBy : xg_Y := (yX5_costBy, cX5_costBy, 4, (some .int))
theorem zk_X5_costBy : xg_zk mX5_costBy 3 := ⟨by decide +kernel, by decide +kernel, by decide +kernel, by decide +kernel⟩
theorem py_X5_costBy : plainName mX5_costBy.1.cls = true := by decide +kernel
abbrev mX5_canDo : xg_Y := (yX5_canDo, cX5_canDo, 5, (some .boolean))
theorem zk_X5_canDo : xg_zk mX5_canDo 3 := ⟨by decide +kernel, by decide +kernel, by decide +kernel, by decide +kernel⟩
theorem py_X5_canDo : plainName mX5_canDo.1.cls = true := by decide +kernel
abbrev mX5_behind : xg_Y := (yX5_behind, cX5_behind, 8, (some .int))
theorem zk_X5_behind : xg_zk mX5_behind 5 := ⟨by decide +kernel, by decide +kernel, by decide +kernel, by decide +kernel⟩
theorem py_X5_behind : plainName mX5_behind.1.cls = true := by decide +kernel
abbrev mX5_costOf : xg_Y := (yX5_costOf, cX5_costOf, 6, (some .int))
theorem zk_X5_costOf : xg_zk mX5_costOf 4 := ⟨by decide +kernel, by decide +kernel, by decide +kernel, by decide +kernel⟩
theorem py_X5_costOf : plainName mX5_costOf.1.cls = true := by decide +kernel
abbrev mX5_deedAt : xg_Y := (yX5_deedAt, cX5_deedAt, 1, (some .int))
theorem zk_X5_deedAt : xg_zk mX5_deedAt 1 := ⟨by decide +kernel, by decide +kernel, by decide +kernel, by decide +kernel⟩
theorem py_X5_deedAt : plainName mX5_deedAt.1.cls = true := by decide +kernel
abbrev mX5_layPlans : xg_Y := (yX5_layPlans, cX5_layPlans, 12, none)
theorem zk_X5_layPlans : xg_zk mX5_layPlans 0 := ⟨by decide +kernel, by decide +kernel, by decide +kernel, by decide +kernel⟩
theorem py_X5_layPlans : plainName mX5_layPlans.1.cls = true := by decide +kernel
abbrev mX5_plan : xg_Y := (yX5_plan, cX5_plan, 11, (some .int))
theorem zk_X5_plan : xg_zk mX5_plan 1 := ⟨by decide +kernel, by decide +kernel, by decide +kernel, by decide +kernel⟩
theorem py_X5_plan : plainName mX5_plan.1.cls = true := by decide +kernel
abbrev mX5_pricesIn : xg_Y := (yX5_pricesIn, cX5_pricesIn, 2, (some .int))
theorem zk_X5_pricesIn : xg_zk mX5_pricesIn 1 := ⟨by decide +kernel, by decide +kernel, by decide +kernel, by decide +kernel⟩
theorem py_X5_pricesIn : plainName mX5_pricesIn.1.cls = true := by decide +kernel
abbrev mX5_price : xg_Y := (yX5_price, cX5_price, 2, (some .int))
theorem zk_X5_price : xg_zk mX5_price 1 := ⟨by decide +kernel, by decide +kernel, by decide +kernel, by decide +kernel⟩
theorem py_X5_price : plainName mX5_price.1.cls = true := by decide +kernel
abbrev mX5_sell : xg_Y := (yX5_sell, cX5_sell, 4, (some .int))
theorem zk_X5_sell : xg_zk mX5_sell 1 := ⟨by decide +kernel, by decide +kernel, by decide +kernel, by decide +kernel⟩
theorem py_X5_sell : plainName mX5_sell.1.cls = true := by decide +kernel
abbrev mX5_lootOf : xg_Y := (yX5_lootOf, cX5_lootOf, 4, (some .int))
theorem zk_X5_lootOf : xg_zk mX5_lootOf 2 := ⟨by decide +kernel, by decide +kernel, by decide +kernel, by decide +kernel⟩
theorem py_X5_lootOf : plainName mX5_lootOf.1.cls = true := by decide +kernel
abbrev mX5_thief : xg_Y := (yX5_thief, cX5_thief, 9, (some .int))
theorem zk_X5_thief : xg_zk mX5_thief 1 := ⟨by decide +kernel, by decide +kernel, by decide +kernel, by decide +kernel⟩
theorem py_X5_thief : plainName mX5_thief.1.cls = true := by decide +kernel
abbrev mX5_look : xg_Y := (yX5_look, cX5_look, 4, (some .int))
theorem zk_X5_look : xg_zk mX5_look 3 := ⟨by decide +kernel, by decide +kernel, by decide +kernel, by decide +kernel⟩
theorem py_X5_look : plainName mX5_look.1.cls = true := by decide +kernel
abbrev mX5_forget : xg_Y := (yX5_forget, cX5_forget, 2, (some .int))
theorem zk_X5_forget : xg_zk mX5_forget 0 := ⟨by decide +kernel, by decide +kernel, by decide +kernel, by decide +kernel⟩
theorem py_X5_forget : plainName mX5_forget.1.cls = true := by decide +kernel
abbrev mX5_isGold : xg_Y := (yX5_isGold, cX5_isGold, 4, (some .boolean))
theorem zk_X5_isGold : xg_zk mX5_isGold 2 := ⟨by decide +kernel, by decide +kernel, by decide +kernel, by decide +kernel⟩
theorem py_X5_isGold : plainName mX5_isGold.1.cls = true := by decide +kernel
abbrev mX5_fit : xg_Y := (yX5_fit, cX5_fit, 6, (some .int))
theorem zk_X5_fit : xg_zk mX5_fit 1 := ⟨by decide +kernel, by decide +kernel, by decide +kernel, by decide +kernel⟩
theorem py_X5_fit : plainName mX5_fit.1.cls = true := by decide +kernel
abbrev mX5_baths : xg_Y := (yX5_baths, cX5_baths, 8, (some .int))
theorem zk_X5_baths : xg_zk mX5_baths 2 := ⟨by decide +kernel, by decide +kernel, by decide +kernel, by decide +kernel⟩
theorem py_X5_baths : plainName mX5_baths.1.cls = true := by decide +kernel
abbrev mX5_slips : xg_Y := (yX5_slips, cX5_slips, 17, (some .long))
theorem zk_X5_slips : xg_zk mX5_slips 4 := ⟨by decide +kernel, by decide +kernel, by decide +kernel, by decide +kernel⟩
theorem py_X5_slips : plainName mX5_slips.1.cls = true := by decide +kernel
abbrev mX5_count : xg_Y := (yX5_count, cX5_count, 4, (some .int))
theorem zk_X5_count : xg_zk mX5_count 1 := ⟨by decide +kernel, by decide +kernel, by decide +kernel, by decide +kernel⟩
theorem py_X5_count : plainName mX5_count.1.cls = true := by decide +kernel
abbrev mJ6_bitCount_0f7a4 : xg_Y := (yJ6_bitCount_0f7a4, cJ6_bitCount_0f7a4, 1, (some .int))
theorem zk_J6_bitCount_0f7a4 : xg_zk mJ6_bitCount_0f7a4 1 := ⟨by decide +kernel, by decide +kernel, by decide +kernel, by decide +kernel⟩
theorem py_J6_bitCount_0f7a4 : plainName mJ6_bitCount_0f7a4.1.cls = true := by decide +kernel
abbrev mJ9_max_7cf53 : xg_Y := (yJ9_max_7cf53, cJ9_max_7cf53, 2, (some .int))
theorem zk_J9_max_7cf53 : xg_zk mJ9_max_7cf53 2 := ⟨by decide +kernel, by decide +kernel, by decide +kernel, by decide +kernel⟩
abbrev mJ0_length_8abf5 : xg_Y := (yJ0_length_8abf5, cJ0_length_8abf5, 1, (some .int))
theorem zk_J0_length_8abf5 : xg_zk mJ0_length_8abf5 0 := ⟨by decide +kernel, by decide +kernel, by decide +kernel, by decide +kernel⟩
theorem py_J0_length_8abf5 : plainName mJ0_length_8abf5.1.cls = true := by decide +kernel
abbrev mJ0_charAt_5068e : xg_Y := (yJ0_charAt_5068e, cJ0_charAt_5068e, 2, (some .char))
theorem zk_J0_charAt_5068e : xg_zk mJ0_charAt_5068e 1 := ⟨by decide +kernel, by decide +kernel, by decide +kernel, by decide +kernel⟩
theorem py_J0_charAt_5068e : plainName mJ0_charAt_5068e.1.cls = true := by decide +kernel
abbrev mJ0_coder_7d493 : xg_Y := (yJ0_coder_7d493, cJ0_coder_7d493, 1, (some .byte))
theorem zk_J0_coder_7d493 : xg_zk mJ0_coder_7d493 0 := ⟨by decide +kernel, by decide +kernel, by decide +kernel, by decide +kernel⟩
theorem py_J0_coder_7d493 : plainName mJ0_coder_7d493.1.cls = true := by decide +kernel
abbrev mJ0_isLatin1_aae02 : xg_Y := (yJ0_isLatin1_aae02, cJ0_isLatin1_aae02, 1, (some .boolean))
theorem zk_J0_isLatin1_aae02 : xg_zk mJ0_isLatin1_aae02 0 := ⟨by decide +kernel, by decide +kernel, by decide +kernel, by decide +kernel⟩
theorem py_J0_isLatin1_aae02 : plainName mJ0_isLatin1_aae02.1.cls = true := by decide +kernel
abbrev mJ0_checkIndex_df160 : xg_Y := (yJ0_checkIndex_df160, cJ0_checkIndex_df160, 2, none)
theorem zk_J0_checkIndex_df160 : xg_zk mJ0_checkIndex_df160 2 := ⟨by decide +kernel, by decide +kernel, by decide +kernel, by decide +kernel⟩
theorem py_J0_checkIndex_df160 : plainName mJ0_checkIndex_df160.1.cls = true := by decide +kernel
abbrev mJ1_charAt_3b067 : xg_Y := (yJ1_charAt_3b067, cJ1_charAt_3b067, 2, (some .char))
theorem zk_J1_charAt_3b067 : xg_zk mJ1_charAt_3b067 2 := ⟨by decide +kernel, by decide +kernel, by decide +kernel, by decide +kernel⟩
theorem py_J1_charAt_3b067 : plainName mJ1_charAt_3b067.1.cls = true := by decide +kernel
abbrev mJ3_checkIndex_8e157 : xg_Y := (yJ3_checkIndex_8e157, cJ3_checkIndex_8e157, 3, (some .int))
theorem zk_J3_checkIndex_8e157 : xg_zk mJ3_checkIndex_8e157 3 := ⟨by decide +kernel, by decide +kernel, by decide +kernel, by decide +kernel⟩
theorem py_J3_checkIndex_8e157 : plainName mJ3_checkIndex_8e157.1.cls = true := by decide +kernel
theorem inb_X0 : ∀ w ∈ wsX00, w ∈ xg_tb := by decide +kernel
theorem inb_X1 : ∀ w ∈ wsX10, w ∈ xg_tb := by decide +kernel
theorem inb_X2 : ∀ w ∈ wsX20, w ∈ xg_tb := by decide +kernel
theorem inb_X3 : ∀ w ∈ wsX30, w ∈ xg_tb := by decide +kernel
theorem inb_X4 : ∀ w ∈ wsX40, w ∈ xg_tb := by decide +kernel
theorem inb_X5 : ∀ w ∈ wsX50, w ∈ xg_tb := by decide +kernel
theorem fs_J0_9 : Cond.fieldLink RJ0 9 RJ0 "value" "[B" ∈ xg_tb := (xg_mi 1104 (by decide +kernel) (by decide +kernel))
theorem fs_J0_15 : Cond.fieldLink RJ0 15 RJ0 "coder" "B" ∈ xg_tb := (xg_mi 1105 (by decide +kernel) (by decide +kernel))
theorem fl_X0_9 : xg_fl RX0 9 0 0 := ⟨_, _, _, rfl, by decide, inb_X0, (xg_mi 84 (by decide +kernel) (by decide +kernel))⟩
theorem fl_X0_15 : xg_fl RX0 15 0 1 := ⟨_, _, _, rfl, by decide, inb_X0, (xg_mi 87 (by decide +kernel) (by decide +kernel))⟩
theorem fl_X0_18 : xg_fl RX0 18 0 2 := ⟨_, _, _, rfl, by decide, inb_X0, (xg_mi 91 (by decide +kernel) (by decide +kernel))⟩
theorem fl_X0_21 : xg_fl RX0 21 0 3 := ⟨_, _, _, rfl, by decide, inb_X0, (xg_mi 94 (by decide +kernel) (by decide +kernel))⟩
theorem fl_X0_24 : xg_fl RX0 24 0 4 := ⟨_, _, _, rfl, by decide, inb_X0, (xg_mi 98 (by decide +kernel) (by decide +kernel))⟩
theorem fl_X0_27 : xg_fl RX0 27 0 6 := ⟨_, _, _, rfl, by decide, inb_X0, (xg_mi 107 (by decide +kernel) (by decide +kernel))⟩
theorem fl_X0_31 : xg_fl RX0 31 0 7 := ⟨_, _, _, rfl, by decide, inb_X0, (xg_mi 110 (by decide +kernel) (by decide +kernel))⟩
theorem fl_X0_34 : xg_fl RX0 34 0 8 := ⟨_, _, _, rfl, by decide, inb_X0, (xg_mi 113 (by decide +kernel) (by decide +kernel))⟩
theorem fl_X0_37 : xg_fl RX0 37 0 5 := ⟨_, _, _, rfl, by decide, inb_X0, (xg_mi 102 (by decide +kernel) (by decide +kernel))⟩
theorem fl_X1_9 : xg_fl RX1 9 1 0 := ⟨_, _, _, rfl, by decide, inb_X1, (xg_mi 172 (by decide +kernel) (by decide +kernel))⟩
theorem fl_X1_15 : xg_fl RX1 15 1 1 := ⟨_, _, _, rfl, by decide, inb_X1, (xg_mi 175 (by decide +kernel) (by decide +kernel))⟩
theorem fl_X1_18 : xg_fl RX1 18 1 2 := ⟨_, _, _, rfl, by decide, inb_X1, (xg_mi 178 (by decide +kernel) (by decide +kernel))⟩
theorem fl_X1_21 : xg_fl RX1 21 1 3 := ⟨_, _, _, rfl, by decide, inb_X1, (xg_mi 180 (by decide +kernel) (by decide +kernel))⟩
theorem fl_X1_24 : xg_fl RX1 24 1 4 := ⟨_, _, _, rfl, by decide, inb_X1, (xg_mi 183 (by decide +kernel) (by decide +kernel))⟩
theorem fl_X1_27 : xg_fl RX1 27 1 5 := ⟨_, _, _, rfl, by decide, inb_X1, (xg_mi 185 (by decide +kernel) (by decide +kernel))⟩
theorem fl_X1_34 : xg_fl RX1 34 0 3 := ⟨_, _, _, rfl, by decide, inb_X0, (xg_mi 96 (by decide +kernel) (by decide +kernel))⟩
theorem fl_X1_44 : xg_fl RX1 44 0 1 := ⟨_, _, _, rfl, by decide, inb_X0, (xg_mi 89 (by decide +kernel) (by decide +kernel))⟩
theorem fl_X1_47 : xg_fl RX1 47 0 5 := ⟨_, _, _, rfl, by decide, inb_X0, (xg_mi 105 (by decide +kernel) (by decide +kernel))⟩
theorem fl_X1_57 : xg_fl RX1 57 0 4 := ⟨_, _, _, rfl, by decide, inb_X0, (xg_mi 100 (by decide +kernel) (by decide +kernel))⟩
theorem fl_X1_64 : xg_fl RX1 64 0 2 := ⟨_, _, _, rfl, by decide, inb_X0, (xg_mi 93 (by decide +kernel) (by decide +kernel))⟩
theorem fl_X1_70 : xg_fl RX1 70 0 0 := ⟨_, _, _, rfl, by decide, inb_X0, (xg_mi 86 (by decide +kernel) (by decide +kernel))⟩
theorem fl_X1_77 : xg_fl RX1 77 0 8 := ⟨_, _, _, rfl, by decide, inb_X0, (xg_mi 116 (by decide +kernel) (by decide +kernel))⟩
theorem fl_X2_9 : xg_fl RX2 9 2 4 := ⟨_, _, _, rfl, by decide, inb_X2, (xg_mi 214 (by decide +kernel) (by decide +kernel))⟩
theorem fl_X2_16 : xg_fl RX2 16 2 3 := ⟨_, _, _, rfl, by decide, inb_X2, (xg_mi 213 (by decide +kernel) (by decide +kernel))⟩
theorem fl_X2_20 : xg_fl RX2 20 0 5 := ⟨_, _, _, rfl, by decide, inb_X0, (xg_mi 103 (by decide +kernel) (by decide +kernel))⟩
theorem fl_X2_39 : xg_fl RX2 39 1 0 := ⟨_, _, _, rfl, by decide, inb_X1, (xg_mi 173 (by decide +kernel) (by decide +kernel))⟩
theorem fl_X2_42 : xg_fl RX2 42 1 1 := ⟨_, _, _, rfl, by decide, inb_X1, (xg_mi 176 (by decide +kernel) (by decide +kernel))⟩
theorem fl_X2_45 : xg_fl RX2 45 1 3 := ⟨_, _, _, rfl, by decide, inb_X1, (xg_mi 181 (by decide +kernel) (by decide +kernel))⟩
theorem fl_X2_72 : xg_fl RX2 72 0 3 := ⟨_, _, _, rfl, by decide, inb_X0, (xg_mi 95 (by decide +kernel) (by decide +kernel))⟩
theorem fl_X2_75 : xg_fl RX2 75 0 8 := ⟨_, _, _, rfl, by decide, inb_X0, (xg_mi 114 (by decide +kernel) (by decide +kernel))⟩
theorem fl_X2_78 : xg_fl RX2 78 0 1 := ⟨_, _, _, rfl, by decide, inb_X0, (xg_mi 88 (by decide +kernel) (by decide +kernel))⟩
theorem fl_X3_9 : xg_fl RX3 9 3 0 := ⟨_, _, _, rfl, by decide, inb_X3, (xg_mi 144 (by decide +kernel) (by decide +kernel))⟩
theorem fl_X3_15 : xg_fl RX3 15 3 5 := ⟨_, _, _, rfl, by decide, inb_X3, (xg_mi 152 (by decide +kernel) (by decide +kernel))⟩
theorem fl_X3_18 : xg_fl RX3 18 3 2 := ⟨_, _, _, rfl, by decide, inb_X3, (xg_mi 148 (by decide +kernel) (by decide +kernel))⟩
theorem fl_X3_22 : xg_fl RX3 22 3 4 := ⟨_, _, _, rfl, by decide, inb_X3, (xg_mi 151 (by decide +kernel) (by decide +kernel))⟩
theorem fl_X3_32 : xg_fl RX3 32 3 3 := ⟨_, _, _, rfl, by decide, inb_X3, (xg_mi 150 (by decide +kernel) (by decide +kernel))⟩
theorem fl_X3_35 : xg_fl RX3 35 3 1 := ⟨_, _, _, rfl, by decide, inb_X3, (xg_mi 147 (by decide +kernel) (by decide +kernel))⟩
theorem fl_X3_46 : xg_fl RX3 46 0 5 := ⟨_, _, _, rfl, by decide, inb_X0, (xg_mi 104 (by decide +kernel) (by decide +kernel))⟩
theorem fl_X3_88 : xg_fl RX3 88 0 4 := ⟨_, _, _, rfl, by decide, inb_X0, (xg_mi 99 (by decide +kernel) (by decide +kernel))⟩
theorem fl_X4_10 : xg_fl RX4 10 4 0 := ⟨_, _, _, rfl, by decide, inb_X4, (xg_mi 226 (by decide +kernel) (by decide +kernel))⟩
theorem fl_X4_16 : xg_fl RX4 16 4 1 := ⟨_, _, _, rfl, by decide, inb_X4, (xg_mi 227 (by decide +kernel) (by decide +kernel))⟩
theorem fl_X4_22 : xg_fl RX4 22 4 2 := ⟨_, _, _, rfl, by decide, inb_X4, (xg_mi 228 (by decide +kernel) (by decide +kernel))⟩
theorem fl_X4_29 : xg_fl RX4 29 4 3 := ⟨_, _, _, rfl, by decide, inb_X4, (xg_mi 229 (by decide +kernel) (by decide +kernel))⟩
theorem fl_X4_33 : xg_fl RX4 33 4 4 := ⟨_, _, _, rfl, by decide, inb_X4, (xg_mi 230 (by decide +kernel) (by decide +kernel))⟩
theorem fl_X4_36 : xg_fl RX4 36 4 5 := ⟨_, _, _, rfl, by decide, inb_X4, (xg_mi 231 (by decide +kernel) (by decide +kernel))⟩
theorem fl_X4_40 : xg_fl RX4 40 4 7 := ⟨_, _, _, rfl, by decide, inb_X4, (xg_mi 233 (by decide +kernel) (by decide +kernel))⟩
theorem fl_X4_43 : xg_fl RX4 43 4 9 := ⟨_, _, _, rfl, by decide, inb_X4, (xg_mi 235 (by decide +kernel) (by decide +kernel))⟩
theorem fl_X4_50 : xg_fl RX4 50 4 12 := ⟨_, _, _, rfl, by decide, inb_X4, (xg_mi 238 (by decide +kernel) (by decide +kernel))⟩
theorem fl_X4_54 : xg_fl RX4 54 4 13 := ⟨_, _, _, rfl, by decide, inb_X4, (xg_mi 239 (by decide +kernel) (by decide +kernel))⟩
theorem fl_X4_57 : xg_fl RX4 57 4 14 := ⟨_, _, _, rfl, by decide, inb_X4, (xg_mi 240 (by decide +kernel) (by decide +kernel))⟩
theorem fl_X4_60 : xg_fl RX4 60 4 15 := ⟨_, _, _, rfl, by decide, inb_X4, (xg_mi 241 (by decide +kernel) (by decide +kernel))⟩
theorem fl_X4_63 : xg_fl RX4 63 3 1 := ⟨_, _, _, rfl, by decide, inb_X3, (xg_mi 146 (by decide +kernel) (by decide +kernel))⟩
theorem fl_X4_67 : xg_fl RX4 67 3 0 := ⟨_, _, _, rfl, by decide, inb_X3, (xg_mi 145 (by decide +kernel) (by decide +kernel))⟩
theorem fl_X4_81 : xg_fl RX4 81 3 2 := ⟨_, _, _, rfl, by decide, inb_X3, (xg_mi 149 (by decide +kernel) (by decide +kernel))⟩
theorem fl_X4_88 : xg_fl RX4 88 0 0 := ⟨_, _, _, rfl, by decide, inb_X0, (xg_mi 85 (by decide +kernel) (by decide +kernel))⟩
theorem fl_X4_91 : xg_fl RX4 91 0 1 := ⟨_, _, _, rfl, by decide, inb_X0, (xg_mi 90 (by decide +kernel) (by decide +kernel))⟩
theorem fl_X4_94 : xg_fl RX4 94 0 2 := ⟨_, _, _, rfl, by decide, inb_X0, (xg_mi 92 (by decide +kernel) (by decide +kernel))⟩
theorem fl_X4_97 : xg_fl RX4 97 0 3 := ⟨_, _, _, rfl, by decide, inb_X0, (xg_mi 97 (by decide +kernel) (by decide +kernel))⟩
theorem fl_X4_104 : xg_fl RX4 104 1 4 := ⟨_, _, _, rfl, by decide, inb_X1, (xg_mi 184 (by decide +kernel) (by decide +kernel))⟩
theorem fl_X4_124 : xg_fl RX4 124 0 4 := ⟨_, _, _, rfl, by decide, inb_X0, (xg_mi 101 (by decide +kernel) (by decide +kernel))⟩
theorem fl_X4_130 : xg_fl RX4 130 1 5 := ⟨_, _, _, rfl, by decide, inb_X1, (xg_mi 186 (by decide +kernel) (by decide +kernel))⟩
theorem fl_X4_133 : xg_fl RX4 133 4 11 := ⟨_, _, _, rfl, by decide, inb_X4, (xg_mi 237 (by decide +kernel) (by decide +kernel))⟩
theorem fl_X4_140 : xg_fl RX4 140 1 1 := ⟨_, _, _, rfl, by decide, inb_X1, (xg_mi 177 (by decide +kernel) (by decide +kernel))⟩
theorem fl_X4_150 : xg_fl RX4 150 1 0 := ⟨_, _, _, rfl, by decide, inb_X1, (xg_mi 174 (by decide +kernel) (by decide +kernel))⟩
theorem fl_X4_169 : xg_fl RX4 169 4 6 := ⟨_, _, _, rfl, by decide, inb_X4, (xg_mi 232 (by decide +kernel) (by decide +kernel))⟩
theorem fl_X4_175 : xg_fl RX4 175 4 8 := ⟨_, _, _, rfl, by decide, inb_X4, (xg_mi 234 (by decide +kernel) (by decide +kernel))⟩
theorem fl_X4_182 : xg_fl RX4 182 1 3 := ⟨_, _, _, rfl, by decide, inb_X1, (xg_mi 182 (by decide +kernel) (by decide +kernel))⟩
theorem fl_X4_194 : xg_fl RX4 194 4 10 := ⟨_, _, _, rfl, by decide, inb_X4, (xg_mi 236 (by decide +kernel) (by decide +kernel))⟩
theorem fl_X4_206 : xg_fl RX4 206 2 0 := ⟨_, _, _, rfl, by decide, inb_X2, (xg_mi 208 (by decide +kernel) (by decide +kernel))⟩
theorem fl_X4_209 : xg_fl RX4 209 2 1 := ⟨_, _, _, rfl, by decide, inb_X2, (xg_mi 210 (by decide +kernel) (by decide +kernel))⟩
theorem fl_X4_212 : xg_fl RX4 212 2 2 := ⟨_, _, _, rfl, by decide, inb_X2, (xg_mi 212 (by decide +kernel) (by decide +kernel))⟩
theorem fl_X4_215 : xg_fl RX4 215 0 5 := ⟨_, _, _, rfl, by decide, inb_X0, (xg_mi 106 (by decide +kernel) (by decide +kernel))⟩
theorem fl_X4_221 : xg_fl RX4 221 4 16 := ⟨_, _, _, rfl, by decide, inb_X4, (xg_mi 242 (by decide +kernel) (by decide +kernel))⟩
theorem fl_X4_248 : xg_fl RX4 248 0 6 := ⟨_, _, _, rfl, by decide, inb_X0, (xg_mi 109 (by decide +kernel) (by decide +kernel))⟩
theorem fl_X4_251 : xg_fl RX4 251 0 7 := ⟨_, _, _, rfl, by decide, inb_X0, (xg_mi 112 (by decide +kernel) (by decide +kernel))⟩
theorem fl_X4_254 : xg_fl RX4 254 0 8 := ⟨_, _, _, rfl, by decide, inb_X0, (xg_mi 117 (by decide +kernel) (by decide +kernel))⟩
theorem fl_X4_257 : xg_fl RX4 257 1 2 := ⟨_, _, _, rfl, by decide, inb_X1, (xg_mi 179 (by decide +kernel) (by decide +kernel))⟩
theorem fl_X5_7 : xg_fl RX5 7 5 1 := ⟨_, _, _, rfl, by decide, inb_X5, (xg_mi 708 (by decide +kernel) (by decide +kernel))⟩
theorem fl_X5_13 : xg_fl RX5 13 5 2 := ⟨_, _, _, rfl, by decide, inb_X5, (xg_mi 709 (by decide +kernel) (by decide +kernel))⟩
theorem fl_X5_16 : xg_fl RX5 16 5 3 := ⟨_, _, _, rfl, by decide, inb_X5, (xg_mi 710 (by decide +kernel) (by decide +kernel))⟩
theorem fl_X5_20 : xg_fl RX5 20 5 4 := ⟨_, _, _, rfl, by decide, inb_X5, (xg_mi 711 (by decide +kernel) (by decide +kernel))⟩
theorem fl_X5_23 : xg_fl RX5 23 5 5 := ⟨_, _, _, rfl, by decide, inb_X5, (xg_mi 712 (by decide +kernel) (by decide +kernel))⟩
theorem fl_X5_26 : xg_fl RX5 26 5 7 := ⟨_, _, _, rfl, by decide, inb_X5, (xg_mi 714 (by decide +kernel) (by decide +kernel))⟩
theorem fl_X5_29 : xg_fl RX5 29 5 16 := ⟨_, _, _, rfl, by decide, inb_X5, (xg_mi 723 (by decide +kernel) (by decide +kernel))⟩
theorem fl_X5_32 : xg_fl RX5 32 5 17 := ⟨_, _, _, rfl, by decide, inb_X5, (xg_mi 724 (by decide +kernel) (by decide +kernel))⟩
theorem fl_X5_35 : xg_fl RX5 35 5 18 := ⟨_, _, _, rfl, by decide, inb_X5, (xg_mi 725 (by decide +kernel) (by decide +kernel))⟩
theorem fl_X5_38 : xg_fl RX5 38 5 19 := ⟨_, _, _, rfl, by decide, inb_X5, (xg_mi 726 (by decide +kernel) (by decide +kernel))⟩
theorem fl_X5_41 : xg_fl RX5 41 5 20 := ⟨_, _, _, rfl, by decide, inb_X5, (xg_mi 727 (by decide +kernel) (by decide +kernel))⟩
theorem fl_X5_45 : xg_fl RX5 45 5 21 := ⟨_, _, _, rfl, by decide, inb_X5, (xg_mi 728 (by decide +kernel) (by decide +kernel))⟩
theorem fl_X5_48 : xg_fl RX5 48 5 23 := ⟨_, _, _, rfl, by decide, inb_X5, (xg_mi 730 (by decide +kernel) (by decide +kernel))⟩
theorem fl_X5_51 : xg_fl RX5 51 5 25 := ⟨_, _, _, rfl, by decide, inb_X5, (xg_mi 732 (by decide +kernel) (by decide +kernel))⟩
theorem fl_X5_54 : xg_fl RX5 54 5 27 := ⟨_, _, _, rfl, by decide, inb_X5, (xg_mi 734 (by decide +kernel) (by decide +kernel))⟩
theorem fl_X5_57 : xg_fl RX5 57 5 29 := ⟨_, _, _, rfl, by decide, inb_X5, (xg_mi 736 (by decide +kernel) (by decide +kernel))⟩
theorem fl_X5_60 : xg_fl RX5 60 5 30 := ⟨_, _, _, rfl, by decide, inb_X5, (xg_mi 737 (by decide +kernel) (by decide +kernel))⟩
theorem fl_X5_63 : xg_fl RX5 63 5 31 := ⟨_, _, _, rfl, by decide, inb_X5, (xg_mi 738 (by decide +kernel) (by decide +kernel))⟩
theorem fl_X5_72 : xg_fl RX5 72 5 0 := ⟨_, _, _, rfl, by decide, inb_X5, (xg_mi 707 (by decide +kernel) (by decide +kernel))⟩
theorem fl_X5_75 : xg_fl RX5 75 5 22 := ⟨_, _, _, rfl, by decide, inb_X5, (xg_mi 729 (by decide +kernel) (by decide +kernel))⟩
theorem fl_X5_78 : xg_fl RX5 78 5 24 := ⟨_, _, _, rfl, by decide, inb_X5, (xg_mi 731 (by decide +kernel) (by decide +kernel))⟩
theorem fl_X5_81 : xg_fl RX5 81 5 26 := ⟨_, _, _, rfl, by decide, inb_X5, (xg_mi 733 (by decide +kernel) (by decide +kernel))⟩
theorem fl_X5_84 : xg_fl RX5 84 5 28 := ⟨_, _, _, rfl, by decide, inb_X5, (xg_mi 735 (by decide +kernel) (by decide +kernel))⟩
theorem fl_X5_91 : xg_fl RX5 91 5 6 := ⟨_, _, _, rfl, by decide, inb_X5, (xg_mi 713 (by decide +kernel) (by decide +kernel))⟩
theorem fl_X5_94 : xg_fl RX5 94 5 8 := ⟨_, _, _, rfl, by decide, inb_X5, (xg_mi 715 (by decide +kernel) (by decide +kernel))⟩
theorem fl_X5_97 : xg_fl RX5 97 5 9 := ⟨_, _, _, rfl, by decide, inb_X5, (xg_mi 716 (by decide +kernel) (by decide +kernel))⟩
theorem fl_X5_100 : xg_fl RX5 100 5 11 := ⟨_, _, _, rfl, by decide, inb_X5, (xg_mi 718 (by decide +kernel) (by decide +kernel))⟩
theorem fl_X5_103 : xg_fl RX5 103 5 12 := ⟨_, _, _, rfl, by decide, inb_X5, (xg_mi 719 (by decide +kernel) (by decide +kernel))⟩
theorem fl_X5_108 : xg_fl RX5 108 5 10 := ⟨_, _, _, rfl, by decide, inb_X5, (xg_mi 717 (by decide +kernel) (by decide +kernel))⟩
theorem fl_X5_122 : xg_fl RX5 122 5 13 := ⟨_, _, _, rfl, by decide, inb_X5, (xg_mi 720 (by decide +kernel) (by decide +kernel))⟩
theorem fl_X5_132 : xg_fl RX5 132 5 15 := ⟨_, _, _, rfl, by decide, inb_X5, (xg_mi 722 (by decide +kernel) (by decide +kernel))⟩
theorem fl_X5_164 : xg_fl RX5 164 5 14 := ⟨_, _, _, rfl, by decide, inb_X5, (xg_mi 721 (by decide +kernel) (by decide +kernel))⟩
theorem fl_X5_253 : xg_fl RX5 253 5 32 := ⟨_, _, _, rfl, by decide, inb_X5, (xg_mi 739 (by decide +kernel) (by decide +kernel))⟩
theorem fp_X0_27 : xg_fp RX0 27 0 6 .int := ⟨_, _, _, tyX0, rfl, by decide, inb_X0, (xg_mi 107 (by decide +kernel) (by decide +kernel)), tyX0_ok, nmX0, rfl, by decide +kernel⟩
theorem fp_X0_31 : xg_fp RX0 31 0 7 .int := ⟨_, _, _, tyX0, rfl, by decide, inb_X0, (xg_mi 110 (by decide +kernel) (by decide +kernel)), tyX0_ok, nmX0, rfl, by decide +kernel⟩
theorem fp_X0_34 : xg_fp RX0 34 0 8 .int := ⟨_, _, _, tyX0, rfl, by decide, inb_X0, (xg_mi 113 (by decide +kernel) (by decide +kernel)), tyX0_ok, nmX0, rfl, by decide +kernel⟩
theorem fp_X0_37 : xg_fp RX0 37 0 5 .int := ⟨_, _, _, tyX0, rfl, by decide, inb_X0, (xg_mi 102 (by decide +kernel) (by decide +kernel)), tyX0_ok, nmX0, rfl, by decide +kernel⟩
theorem fp_X1_9 : xg_fp RX1 9 1 0 .int := ⟨_, _, _, tyX1, rfl, by decide, inb_X1, (xg_mi 172 (by decide +kernel) (by decide +kernel)), tyX1_ok, nmX1, rfl, by decide +kernel⟩
theorem fp_X1_15 : xg_fp RX1 15 1 1 .int := ⟨_, _, _, tyX1, rfl, by decide, inb_X1, (xg_mi 175 (by decide +kernel) (by decide +kernel)), tyX1_ok, nmX1, rfl, by decide +kernel⟩
theorem fp_X1_18 : xg_fp RX1 18 1 2 .int := ⟨_, _, _, tyX1, rfl, by decide, inb_X1, (xg_mi 178 (by decide +kernel) (by decide +kernel)), tyX1_ok, nmX1, rfl, by decide +kernel⟩
theorem fp_X1_21 : xg_fp RX1 21 1 3 .int := ⟨_, _, _, tyX1, rfl, by decide, inb_X1, (xg_mi 180 (by decide +kernel) (by decide +kernel)), tyX1_ok, nmX1, rfl, by decide +kernel⟩
theorem fp_X1_24 : xg_fp RX1 24 1 4 .int := ⟨_, _, _, tyX1, rfl, by decide, inb_X1, (xg_mi 183 (by decide +kernel) (by decide +kernel)), tyX1_ok, nmX1, rfl, by decide +kernel⟩
theorem fp_X1_27 : xg_fp RX1 27 1 5 .int := ⟨_, _, _, tyX1, rfl, by decide, inb_X1, (xg_mi 185 (by decide +kernel) (by decide +kernel)), tyX1_ok, nmX1, rfl, by decide +kernel⟩
theorem fp_X2_16 : xg_fp RX2 16 2 3 .int := ⟨_, _, _, tyX2, rfl, by decide, inb_X2, (xg_mi 213 (by decide +kernel) (by decide +kernel)), tyX2_ok, nmX2, rfl, by decide +kernel⟩
theorem fp_X2_81 : xg_fp RX2 81 2 0 .int := ⟨_, _, _, tyX2, rfl, by decide, inb_X2, (xg_mi 207 (by decide +kernel) (by decide +kernel)), tyX2_ok, nmX2, rfl, by decide +kernel⟩
theorem fp_X2_84 : xg_fp RX2 84 2 1 .int := ⟨_, _, _, tyX2, rfl, by decide, inb_X2, (xg_mi 209 (by decide +kernel) (by decide +kernel)), tyX2_ok, nmX2, rfl, by decide +kernel⟩
theorem fp_X2_87 : xg_fp RX2 87 2 2 .int := ⟨_, _, _, tyX2, rfl, by decide, inb_X2, (xg_mi 211 (by decide +kernel) (by decide +kernel)), tyX2_ok, nmX2, rfl, by decide +kernel⟩
theorem fp_X3_18 : xg_fp RX3 18 3 2 .int := ⟨_, _, _, tyX3, rfl, by decide, inb_X3, (xg_mi 148 (by decide +kernel) (by decide +kernel)), tyX3_ok, nmX3, rfl, by decide +kernel⟩
theorem fp_X3_22 : xg_fp RX3 22 3 4 .int := ⟨_, _, _, tyX3, rfl, by decide, inb_X3, (xg_mi 151 (by decide +kernel) (by decide +kernel)), tyX3_ok, nmX3, rfl, by decide +kernel⟩
theorem fp_X3_32 : xg_fp RX3 32 3 3 .int := ⟨_, _, _, tyX3, rfl, by decide, inb_X3, (xg_mi 150 (by decide +kernel) (by decide +kernel)), tyX3_ok, nmX3, rfl, by decide +kernel⟩
theorem fp_X3_46 : xg_fp RX3 46 0 5 .int := ⟨_, _, _, tyX0, rfl, by decide, inb_X0, (xg_mi 104 (by decide +kernel) (by decide +kernel)), tyX0_ok, nmX0, rfl, by decide +kernel⟩
theorem fp_X3_72 : xg_fp RX3 72 0 6 .int := ⟨_, _, _, tyX0, rfl, by decide, inb_X0, (xg_mi 108 (by decide +kernel) (by decide +kernel)), tyX0_ok, nmX0, rfl, by decide +kernel⟩
theorem fp_X3_75 : xg_fp RX3 75 0 7 .int := ⟨_, _, _, tyX0, rfl, by decide, inb_X0, (xg_mi 111 (by decide +kernel) (by decide +kernel)), tyX0_ok, nmX0, rfl, by decide +kernel⟩
theorem fp_X3_78 : xg_fp RX3 78 0 8 .int := ⟨_, _, _, tyX0, rfl, by decide, inb_X0, (xg_mi 115 (by decide +kernel) (by decide +kernel)), tyX0_ok, nmX0, rfl, by decide +kernel⟩
theorem fp_X4_63 : xg_fp RX4 63 3 1 .int := ⟨_, _, _, tyX3, rfl, by decide, inb_X3, (xg_mi 146 (by decide +kernel) (by decide +kernel)), tyX3_ok, nmX3, rfl, by decide +kernel⟩
theorem fp_X4_104 : xg_fp RX4 104 1 4 .int := ⟨_, _, _, tyX1, rfl, by decide, inb_X1, (xg_mi 184 (by decide +kernel) (by decide +kernel)), tyX1_ok, nmX1, rfl, by decide +kernel⟩
theorem fp_X4_133 : xg_fp RX4 133 4 11 .int := ⟨_, _, _, tyX4, rfl, by decide, inb_X4, (xg_mi 237 (by decide +kernel) (by decide +kernel)), tyX4_ok, nmX4, rfl, by decide +kernel⟩
theorem fp_X4_140 : xg_fp RX4 140 1 1 .int := ⟨_, _, _, tyX1, rfl, by decide, inb_X1, (xg_mi 177 (by decide +kernel) (by decide +kernel)), tyX1_ok, nmX1, rfl, by decide +kernel⟩
theorem fp_X4_169 : xg_fp RX4 169 4 6 .int := ⟨_, _, _, tyX4, rfl, by decide, inb_X4, (xg_mi 232 (by decide +kernel) (by decide +kernel)), tyX4_ok, nmX4, rfl, by decide +kernel⟩
theorem fp_X4_175 : xg_fp RX4 175 4 8 .int := ⟨_, _, _, tyX4, rfl, by decide, inb_X4, (xg_mi 234 (by decide +kernel) (by decide +kernel)), tyX4_ok, nmX4, rfl, by decide +kernel⟩
theorem fp_X4_182 : xg_fp RX4 182 1 3 .int := ⟨_, _, _, tyX1, rfl, by decide, inb_X1, (xg_mi 182 (by decide +kernel) (by decide +kernel)), tyX1_ok, nmX1, rfl, by decide +kernel⟩
theorem fp_X4_194 : xg_fp RX4 194 4 10 .int := ⟨_, _, _, tyX4, rfl, by decide, inb_X4, (xg_mi 236 (by decide +kernel) (by decide +kernel)), tyX4_ok, nmX4, rfl, by decide +kernel⟩
theorem fp_X4_221 : xg_fp RX4 221 4 16 .int := ⟨_, _, _, tyX4, rfl, by decide, inb_X4, (xg_mi 242 (by decide +kernel) (by decide +kernel)), tyX4_ok, nmX4, rfl, by decide +kernel⟩
theorem fp_X5_16 : xg_fp RX5 16 5 3 .int := ⟨_, _, _, tyX5, rfl, by decide, inb_X5, (xg_mi 710 (by decide +kernel) (by decide +kernel)), tyX5_ok, nmX5, rfl, by decide +kernel⟩
theorem fp_X5_20 : xg_fp RX5 20 5 4 .int := ⟨_, _, _, tyX5, rfl, by decide, inb_X5, (xg_mi 711 (by decide +kernel) (by decide +kernel)), tyX5_ok, nmX5, rfl, by decide +kernel⟩
theorem fp_X5_23 : xg_fp RX5 23 5 5 .int := ⟨_, _, _, tyX5, rfl, by decide, inb_X5, (xg_mi 712 (by decide +kernel) (by decide +kernel)), tyX5_ok, nmX5, rfl, by decide +kernel⟩
theorem fp_X5_72 : xg_fp RX5 72 5 0 .int := ⟨_, _, _, tyX5, rfl, by decide, inb_X5, (xg_mi 707 (by decide +kernel) (by decide +kernel)), tyX5_ok, nmX5, rfl, by decide +kernel⟩
theorem fp_X5_75 : xg_fp RX5 75 5 22 .int := ⟨_, _, _, tyX5, rfl, by decide, inb_X5, (xg_mi 729 (by decide +kernel) (by decide +kernel)), tyX5_ok, nmX5, rfl, by decide +kernel⟩
theorem fp_X5_78 : xg_fp RX5 78 5 24 .int := ⟨_, _, _, tyX5, rfl, by decide, inb_X5, (xg_mi 731 (by decide +kernel) (by decide +kernel)), tyX5_ok, nmX5, rfl, by decide +kernel⟩
theorem fp_X5_81 : xg_fp RX5 81 5 26 .int := ⟨_, _, _, tyX5, rfl, by decide, inb_X5, (xg_mi 733 (by decide +kernel) (by decide +kernel)), tyX5_ok, nmX5, rfl, by decide +kernel⟩
theorem fp_X5_84 : xg_fp RX5 84 5 28 .int := ⟨_, _, _, tyX5, rfl, by decide, inb_X5, (xg_mi 735 (by decide +kernel) (by decide +kernel)), tyX5_ok, nmX5, rfl, by decide +kernel⟩
theorem fp_X5_91 : xg_fp RX5 91 5 6 .int := ⟨_, _, _, tyX5, rfl, by decide, inb_X5, (xg_mi 713 (by decide +kernel) (by decide +kernel)), tyX5_ok, nmX5, rfl, by decide +kernel⟩
theorem fp_X5_94 : xg_fp RX5 94 5 8 .int := ⟨_, _, _, tyX5, rfl, by decide, inb_X5, (xg_mi 715 (by decide +kernel) (by decide +kernel)), tyX5_ok, nmX5, rfl, by decide +kernel⟩
theorem fp_X5_97 : xg_fp RX5 97 5 9 .int := ⟨_, _, _, tyX5, rfl, by decide, inb_X5, (xg_mi 716 (by decide +kernel) (by decide +kernel)), tyX5_ok, nmX5, rfl, by decide +kernel⟩
theorem fp_X5_100 : xg_fp RX5 100 5 11 .int := ⟨_, _, _, tyX5, rfl, by decide, inb_X5, (xg_mi 718 (by decide +kernel) (by decide +kernel)), tyX5_ok, nmX5, rfl, by decide +kernel⟩
theorem fp_X5_103 : xg_fp RX5 103 5 12 .int := ⟨_, _, _, tyX5, rfl, by decide, inb_X5, (xg_mi 719 (by decide +kernel) (by decide +kernel)), tyX5_ok, nmX5, rfl, by decide +kernel⟩
theorem fp_X5_108 : xg_fp RX5 108 5 10 .long := ⟨_, _, _, tyX5, rfl, by decide, inb_X5, (xg_mi 717 (by decide +kernel) (by decide +kernel)), tyX5_ok, nmX5, rfl, by decide +kernel⟩
theorem fp_X5_122 : xg_fp RX5 122 5 13 .int := ⟨_, _, _, tyX5, rfl, by decide, inb_X5, (xg_mi 720 (by decide +kernel) (by decide +kernel)), tyX5_ok, nmX5, rfl, by decide +kernel⟩
theorem fp_X5_132 : xg_fp RX5 132 5 15 .int := ⟨_, _, _, tyX5, rfl, by decide, inb_X5, (xg_mi 722 (by decide +kernel) (by decide +kernel)), tyX5_ok, nmX5, rfl, by decide +kernel⟩
theorem fp_X5_164 : xg_fp RX5 164 5 14 .int := ⟨_, _, _, tyX5, rfl, by decide, inb_X5, (xg_mi 721 (by decide +kernel) (by decide +kernel)), tyX5_ok, nmX5, rfl, by decide +kernel⟩
theorem fp_X5_253 : xg_fp RX5 253 5 32 .int := ⟨_, _, _, tyX5, rfl, by decide, inb_X5, (xg_mi 739 (by decide +kernel) (by decide +kernel)), tyX5_ok, nmX5, rfl, by decide +kernel⟩
theorem cw_J0_335 : ∀ w ∈ [Cond.methodLink RJ0 335 mJ0_coder_7d493.1, .instanceMethod mJ0_coder_7d493.1, .selects mJ0_coder_7d493.1.cls mJ0_coder_7d493.1 mJ0_coder_7d493.1, .initialized mJ0_coder_7d493.1.cls, xg_cd mJ0_coder_7d493], w ∈ xg_tb := List.forall_mem_cons.mpr ⟨(xg_mi 342 (by decide +kernel) (by decide +kernel)), List.forall_mem_cons.mpr ⟨(xg_mi 343 (by decide +kernel) (by decide +kernel)), List.forall_mem_cons.mpr ⟨(xg_mi 344 (by decide +kernel) (by decide +kernel)), List.forall_mem_cons.mpr ⟨(xg_mi 64 (by decide +kernel) (by decide +kernel)), List.forall_mem_cons.mpr ⟨(xg_mi 345 (by decide +kernel) (by decide +kernel)), fun _ h => absurd h List.not_mem_nil⟩⟩⟩⟩⟩
theorem cw_J0_492 : ∀ w ∈ [Cond.methodLink RJ0 492 mJ0_isLatin1_aae02.1, .instanceMethod mJ0_isLatin1_aae02.1, .selects mJ0_isLatin1_aae02.1.cls mJ0_isLatin1_aae02.1 mJ0_isLatin1_aae02.1, .initialized mJ0_isLatin1_aae02.1.cls, xg_cd mJ0_isLatin1_aae02], w ∈ xg_tb := List.forall_mem_cons.mpr ⟨(xg_mi 352 (by decide +kernel) (by decide +kernel)), List.forall_mem_cons.mpr ⟨(xg_mi 353 (by decide +kernel) (by decide +kernel)), List.forall_mem_cons.mpr ⟨(xg_mi 354 (by decide +kernel) (by decide +kernel)), List.forall_mem_cons.mpr ⟨(xg_mi 64 (by decide +kernel) (by decide +kernel)), List.forall_mem_cons.mpr ⟨(xg_mi 355 (by decide +kernel) (by decide +kernel)), fun _ h => absurd h List.not_mem_nil⟩⟩⟩⟩⟩
theorem cw_J0_495 : ∀ w ∈ [Cond.methodLink RJ0 495 mJ1_charAt_3b067.1, .static mJ1_charAt_3b067.1, .initialized mJ1_charAt_3b067.1.cls, xg_cd mJ1_charAt_3b067], w ∈ xg_tb := List.forall_mem_cons.mpr ⟨(xg_mi 356 (by decide +kernel) (by decide +kernel)), List.forall_mem_cons.mpr ⟨(xg_mi 357 (by decide +kernel) (by decide +kernel)), List.forall_mem_cons.mpr ⟨(xg_mi 65 (by decide +kernel) (by decide +kernel)), List.forall_mem_cons.mpr ⟨(xg_mi 358 (by decide +kernel) (by decide +kernel)), fun _ h => absurd h List.not_mem_nil⟩⟩⟩⟩
theorem cw_J0_1059 : ∀ w ∈ [Cond.methodLink RJ0 1059 mJ3_checkIndex_8e157.1, .static mJ3_checkIndex_8e157.1, .initialized mJ3_checkIndex_8e157.1.cls, xg_cd mJ3_checkIndex_8e157], w ∈ xg_tb := List.forall_mem_cons.mpr ⟨(xg_mi 364 (by decide +kernel) (by decide +kernel)), List.forall_mem_cons.mpr ⟨(xg_mi 365 (by decide +kernel) (by decide +kernel)), List.forall_mem_cons.mpr ⟨(xg_mi 66 (by decide +kernel) (by decide +kernel)), List.forall_mem_cons.mpr ⟨(xg_mi 366 (by decide +kernel) (by decide +kernel)), fun _ h => absurd h List.not_mem_nil⟩⟩⟩⟩
theorem cw_J1_9 : ∀ w ∈ [Cond.methodLink RJ1 9 mJ0_checkIndex_df160.1, .static mJ0_checkIndex_df160.1, .initialized mJ0_checkIndex_df160.1.cls, xg_cd mJ0_checkIndex_df160], w ∈ xg_tb := List.forall_mem_cons.mpr ⟨(xg_mi 359 (by decide +kernel) (by decide +kernel)), List.forall_mem_cons.mpr ⟨(xg_mi 360 (by decide +kernel) (by decide +kernel)), List.forall_mem_cons.mpr ⟨(xg_mi 64 (by decide +kernel) (by decide +kernel)), List.forall_mem_cons.mpr ⟨(xg_mi 361 (by decide +kernel) (by decide +kernel)), fun _ h => absurd h List.not_mem_nil⟩⟩⟩⟩
theorem cn_X1_30 : Cond.methodLinkNest RX1 30 mX4_hasBit.1 RX4 ∈ xk_nest := by decide +kernel
theorem cw_X1_30 : ∀ w ∈ [Cond.static mX4_hasBit.1, .initialized mX4_hasBit.1.cls, xg_cd mX4_hasBit], w ∈ xg_tb := List.forall_mem_cons.mpr ⟨(xg_mi 439 (by decide +kernel) (by decide +kernel)), List.forall_mem_cons.mpr ⟨(xg_mi 58 (by decide +kernel) (by decide +kernel)), List.forall_mem_cons.mpr ⟨(xg_mi 440 (by decide +kernel) (by decide +kernel)), fun _ h => absurd h List.not_mem_nil⟩⟩⟩
theorem cw_X1_40 : ∀ w ∈ [Cond.methodLink RX1 40 mX1_goldOf.1, .instanceMethod mX1_goldOf.1, .selects mX1_goldOf.1.cls mX1_goldOf.1 mX1_goldOf.1, .initialized mX1_goldOf.1.cls, xg_cd mX1_goldOf], w ∈ xg_tb := List.forall_mem_cons.mpr ⟨(xg_mi 450 (by decide +kernel) (by decide +kernel)), List.forall_mem_cons.mpr ⟨(xg_mi 435 (by decide +kernel) (by decide +kernel)), List.forall_mem_cons.mpr ⟨(xg_mi 436 (by decide +kernel) (by decide +kernel)), List.forall_mem_cons.mpr ⟨(xg_mi 61 (by decide +kernel) (by decide +kernel)), List.forall_mem_cons.mpr ⟨(xg_mi 437 (by decide +kernel) (by decide +kernel)), fun _ h => absurd h List.not_mem_nil⟩⟩⟩⟩⟩
theorem cw_X1_50 : ∀ w ∈ [Cond.methodLink RX1 50 mX1_weighs.1, .instanceMethod mX1_weighs.1, .selects mX1_weighs.1.cls mX1_weighs.1 mX1_weighs.1, .initialized mX1_weighs.1.cls, xg_cd mX1_weighs], w ∈ xg_tb := List.forall_mem_cons.mpr ⟨(xg_mi 472 (by decide +kernel) (by decide +kernel)), List.forall_mem_cons.mpr ⟨(xg_mi 461 (by decide +kernel) (by decide +kernel)), List.forall_mem_cons.mpr ⟨(xg_mi 462 (by decide +kernel) (by decide +kernel)), List.forall_mem_cons.mpr ⟨(xg_mi 61 (by decide +kernel) (by decide +kernel)), List.forall_mem_cons.mpr ⟨(xg_mi 463 (by decide +kernel) (by decide +kernel)), fun _ h => absurd h List.not_mem_nil⟩⟩⟩⟩⟩
theorem cw_X1_54 : ∀ w ∈ [Cond.methodLink RX1 54 mX1_loadOf.1, .instanceMethod mX1_loadOf.1, .selects mX1_loadOf.1.cls mX1_loadOf.1 mX1_loadOf.1, .initialized mX1_loadOf.1.cls, xg_cd mX1_loadOf], w ∈ xg_tb := List.forall_mem_cons.mpr ⟨(xg_mi 510 (by decide +kernel) (by decide +kernel)), List.forall_mem_cons.mpr ⟨(xg_mi 469 (by decide +kernel) (by decide +kernel)), List.forall_mem_cons.mpr ⟨(xg_mi 470 (by decide +kernel) (by decide +kernel)), List.forall_mem_cons.mpr ⟨(xg_mi 61 (by decide +kernel) (by decide +kernel)), List.forall_mem_cons.mpr ⟨(xg_mi 471 (by decide +kernel) (by decide +kernel)), fun _ h => absurd h List.not_mem_nil⟩⟩⟩⟩⟩
theorem cw_X1_60 : ∀ w ∈ [Cond.methodLink RX1 60 mX1_isLost.1, .instanceMethod mX1_isLost.1, .selects mX1_isLost.1.cls mX1_isLost.1 mX1_isLost.1, .initialized mX1_isLost.1.cls, xg_cd mX1_isLost], w ∈ xg_tb := List.forall_mem_cons.mpr ⟨(xg_mi 446 (by decide +kernel) (by decide +kernel)), List.forall_mem_cons.mpr ⟨(xg_mi 447 (by decide +kernel) (by decide +kernel)), List.forall_mem_cons.mpr ⟨(xg_mi 448 (by decide +kernel) (by decide +kernel)), List.forall_mem_cons.mpr ⟨(xg_mi 61 (by decide +kernel) (by decide +kernel)), List.forall_mem_cons.mpr ⟨(xg_mi 449 (by decide +kernel) (by decide +kernel)), fun _ h => absurd h List.not_mem_nil⟩⟩⟩⟩⟩
theorem cw_X1_67 : ∀ w ∈ [Cond.methodLink RX1 67 mX1_priceOf.1, .instanceMethod mX1_priceOf.1, .selects mX1_priceOf.1.cls mX1_priceOf.1 mX1_priceOf.1, .initialized mX1_priceOf.1.cls, xg_cd mX1_priceOf], w ∈ xg_tb := List.forall_mem_cons.mpr ⟨(xg_mi 567 (by decide +kernel) (by decide +kernel)), List.forall_mem_cons.mpr ⟨(xg_mi 443 (by decide +kernel) (by decide +kernel)), List.forall_mem_cons.mpr ⟨(xg_mi 444 (by decide +kernel) (by decide +kernel)), List.forall_mem_cons.mpr ⟨(xg_mi 61 (by decide +kernel) (by decide +kernel)), List.forall_mem_cons.mpr ⟨(xg_mi 445 (by decide +kernel) (by decide +kernel)), fun _ h => absurd h List.not_mem_nil⟩⟩⟩⟩⟩
theorem cn_X1_73 : Cond.methodLinkNest RX1 73 mX4_handIn.1 RX4 ∈ xk_nest := by decide +kernel
theorem cw_X1_73 : ∀ w ∈ [Cond.static mX4_handIn.1, .initialized mX4_handIn.1.cls, xg_cd mX4_handIn], w ∈ xg_tb := List.forall_mem_cons.mpr ⟨(xg_mi 482 (by decide +kernel) (by decide +kernel)), List.forall_mem_cons.mpr ⟨(xg_mi 58 (by decide +kernel) (by decide +kernel)), List.forall_mem_cons.mpr ⟨(xg_mi 483 (by decide +kernel) (by decide +kernel)), fun _ h => absurd h List.not_mem_nil⟩⟩⟩
theorem cn_X2_25 : Cond.methodLinkNest RX2 25 mX4_hasBit.1 RX4 ∈ xk_nest := by decide +kernel
theorem cw_X2_25 : ∀ w ∈ [Cond.static mX4_hasBit.1, .initialized mX4_hasBit.1.cls, xg_cd mX4_hasBit], w ∈ xg_tb := List.forall_mem_cons.mpr ⟨(xg_mi 439 (by decide +kernel) (by decide +kernel)), List.forall_mem_cons.mpr ⟨(xg_mi 58 (by decide +kernel) (by decide +kernel)), List.forall_mem_cons.mpr ⟨(xg_mi 440 (by decide +kernel) (by decide +kernel)), fun _ h => absurd h List.not_mem_nil⟩⟩⟩
theorem cw_X2_29 : ∀ w ∈ [Cond.methodLink RX2 29 mX1_isLost.1, .instanceMethod mX1_isLost.1, .selects mX1_isLost.1.cls mX1_isLost.1 mX1_isLost.1, .initialized mX1_isLost.1.cls, xg_cd mX1_isLost], w ∈ xg_tb := List.forall_mem_cons.mpr ⟨(xg_mi 604 (by decide +kernel) (by decide +kernel)), List.forall_mem_cons.mpr ⟨(xg_mi 447 (by decide +kernel) (by decide +kernel)), List.forall_mem_cons.mpr ⟨(xg_mi 448 (by decide +kernel) (by decide +kernel)), List.forall_mem_cons.mpr ⟨(xg_mi 61 (by decide +kernel) (by decide +kernel)), List.forall_mem_cons.mpr ⟨(xg_mi 449 (by decide +kernel) (by decide +kernel)), fun _ h => absurd h List.not_mem_nil⟩⟩⟩⟩⟩
theorem cw_X2_35 : ∀ w ∈ [Cond.methodLink RX2 35 mX1_toolOf.1, .instanceMethod mX1_toolOf.1, .selects mX1_toolOf.1.cls mX1_toolOf.1 mX1_toolOf.1, .initialized mX1_toolOf.1.cls, xg_cd mX1_toolOf], w ∈ xg_tb := List.forall_mem_cons.mpr ⟨(xg_mi 605 (by decide +kernel) (by decide +kernel)), List.forall_mem_cons.mpr ⟨(xg_mi 474 (by decide +kernel) (by decide +kernel)), List.forall_mem_cons.mpr ⟨(xg_mi 475 (by decide +kernel) (by decide +kernel)), List.forall_mem_cons.mpr ⟨(xg_mi 61 (by decide +kernel) (by decide +kernel)), List.forall_mem_cons.mpr ⟨(xg_mi 476 (by decide +kernel) (by decide +kernel)), fun _ h => absurd h List.not_mem_nil⟩⟩⟩⟩⟩
theorem cw_X2_48 : ∀ w ∈ [Cond.methodLink RX2 48 mX2_search.1, .instanceMethod mX2_search.1, .selects mX2_search.1.cls mX2_search.1 mX2_search.1, .initialized mX2_search.1.cls, xg_cd mX2_search], w ∈ xg_tb := List.forall_mem_cons.mpr ⟨(xg_mi 606 (by decide +kernel) (by decide +kernel)), List.forall_mem_cons.mpr ⟨(xg_mi 608 (by decide +kernel) (by decide +kernel)), List.forall_mem_cons.mpr ⟨(xg_mi 14 (by decide +kernel) (by decide +kernel)), List.forall_mem_cons.mpr ⟨(xg_mi 62 (by decide +kernel) (by decide +kernel)), List.forall_mem_cons.mpr ⟨(xg_mi 609 (by decide +kernel) (by decide +kernel)), fun _ h => absurd h List.not_mem_nil⟩⟩⟩⟩⟩
theorem cw_X2_52 : ∀ w ∈ [Cond.methodLink RX2 52 mJ6_bitCount_0f7a4.1, .static mJ6_bitCount_0f7a4.1, .initialized mJ6_bitCount_0f7a4.1.cls, xg_cd mJ6_bitCount_0f7a4], w ∈ xg_tb := List.forall_mem_cons.mpr ⟨(xg_mi 610 (by decide +kernel) (by decide +kernel)), List.forall_mem_cons.mpr ⟨(xg_mi 585 (by decide +kernel) (by decide +kernel)), List.forall_mem_cons.mpr ⟨(xg_mi 68 (by decide +kernel) (by decide +kernel)), List.forall_mem_cons.mpr ⟨(xg_mi 586 (by decide +kernel) (by decide +kernel)), fun _ h => absurd h List.not_mem_nil⟩⟩⟩⟩
theorem cw_X2_58 : ∀ w ∈ [Cond.methodLink RX2 58 mX2_rankOf.1, .static mX2_rankOf.1, .initialized mX2_rankOf.1.cls, xg_cd mX2_rankOf], w ∈ xg_tb := List.forall_mem_cons.mpr ⟨(xg_mi 611 (by decide +kernel) (by decide +kernel)), List.forall_mem_cons.mpr ⟨(xg_mi 612 (by decide +kernel) (by decide +kernel)), List.forall_mem_cons.mpr ⟨(xg_mi 62 (by decide +kernel) (by decide +kernel)), List.forall_mem_cons.mpr ⟨(xg_mi 613 (by decide +kernel) (by decide +kernel)), fun _ h => absurd h List.not_mem_nil⟩⟩⟩⟩
theorem cw_X2_62 : ∀ w ∈ [Cond.methodLink RX2 62 mX2_take.1, .instanceMethod mX2_take.1, .selects mX2_take.1.cls mX2_take.1 mX2_take.1, .initialized mX2_take.1.cls, xg_cd mX2_take], w ∈ xg_tb := List.forall_mem_cons.mpr ⟨(xg_mi 614 (by decide +kernel) (by decide +kernel)), List.forall_mem_cons.mpr ⟨(xg_mi 616 (by decide +kernel) (by decide +kernel)), List.forall_mem_cons.mpr ⟨(xg_mi 15 (by decide +kernel) (by decide +kernel)), List.forall_mem_cons.mpr ⟨(xg_mi 62 (by decide +kernel) (by decide +kernel)), List.forall_mem_cons.mpr ⟨(xg_mi 617 (by decide +kernel) (by decide +kernel)), fun _ h => absurd h List.not_mem_nil⟩⟩⟩⟩⟩
theorem cw_X2_66 : ∀ w ∈ [Cond.methodLink RX2 66 mX2_firstOf.1, .static mX2_firstOf.1, .initialized mX2_firstOf.1.cls, xg_cd mX2_firstOf], w ∈ xg_tb := List.forall_mem_cons.mpr ⟨(xg_mi 618 (by decide +kernel) (by decide +kernel)), List.forall_mem_cons.mpr ⟨(xg_mi 619 (by decide +kernel) (by decide +kernel)), List.forall_mem_cons.mpr ⟨(xg_mi 62 (by decide +kernel) (by decide +kernel)), List.forall_mem_cons.mpr ⟨(xg_mi 620 (by decide +kernel) (by decide +kernel)), fun _ h => absurd h List.not_mem_nil⟩⟩⟩⟩
theorem cn_X2_69 : Cond.methodLinkNest RX2 69 mX4_handIn.1 RX4 ∈ xk_nest := by decide +kernel
theorem cw_X2_69 : ∀ w ∈ [Cond.static mX4_handIn.1, .initialized mX4_handIn.1.cls, xg_cd mX4_handIn], w ∈ xg_tb := List.forall_mem_cons.mpr ⟨(xg_mi 482 (by decide +kernel) (by decide +kernel)), List.forall_mem_cons.mpr ⟨(xg_mi 58 (by decide +kernel) (by decide +kernel)), List.forall_mem_cons.mpr ⟨(xg_mi 483 (by decide +kernel) (by decide +kernel)), fun _ h => absurd h List.not_mem_nil⟩⟩⟩
theorem cw_X3_25 : ∀ w ∈ [Cond.methodLink RX3 25 mX3_nextToken.1, .instanceMethod mX3_nextToken.1, .selects mX3_nextToken.1.cls mX3_nextToken.1 mX3_nextToken.1, .initialized mX3_nextToken.1.cls, xg_cd mX3_nextToken], w ∈ xg_tb := List.forall_mem_cons.mpr ⟨(xg_mi 298 (by decide +kernel) (by decide +kernel)), List.forall_mem_cons.mpr ⟨(xg_mi 300 (by decide +kernel) (by decide +kernel)), List.forall_mem_cons.mpr ⟨(xg_mi 0 (by decide +kernel) (by decide +kernel)), List.forall_mem_cons.mpr ⟨(xg_mi 60 (by decide +kernel) (by decide +kernel)), List.forall_mem_cons.mpr ⟨(xg_mi 301 (by decide +kernel) (by decide +kernel)), fun _ h => absurd h List.not_mem_nil⟩⟩⟩⟩⟩
theorem cw_X3_28 : ∀ w ∈ [Cond.methodLink RX3 28 mX3_readClause.1, .instanceMethod mX3_readClause.1, .selects mX3_readClause.1.cls mX3_readClause.1 mX3_readClause.1, .initialized mX3_readClause.1.cls, xg_cd mX3_readClause], w ∈ xg_tb := List.forall_mem_cons.mpr ⟨(xg_mi 312 (by decide +kernel) (by decide +kernel)), List.forall_mem_cons.mpr ⟨(xg_mi 314 (by decide +kernel) (by decide +kernel)), List.forall_mem_cons.mpr ⟨(xg_mi 2 (by decide +kernel) (by decide +kernel)), List.forall_mem_cons.mpr ⟨(xg_mi 60 (by decide +kernel) (by decide +kernel)), List.forall_mem_cons.mpr ⟨(xg_mi 315 (by decide +kernel) (by decide +kernel)), fun _ h => absurd h List.not_mem_nil⟩⟩⟩⟩⟩
theorem cw_X3_38 : ∀ w ∈ [Cond.methodLink RX3 38 mX3_letterAt.1, .instanceMethod mX3_letterAt.1, .selects mX3_letterAt.1.cls mX3_letterAt.1 mX3_letterAt.1, .initialized mX3_letterAt.1.cls, xg_cd mX3_letterAt], w ∈ xg_tb := List.forall_mem_cons.mpr ⟨(xg_mi 302 (by decide +kernel) (by decide +kernel)), List.forall_mem_cons.mpr ⟨(xg_mi 304 (by decide +kernel) (by decide +kernel)), List.forall_mem_cons.mpr ⟨(xg_mi 1 (by decide +kernel) (by decide +kernel)), List.forall_mem_cons.mpr ⟨(xg_mi 60 (by decide +kernel) (by decide +kernel)), List.forall_mem_cons.mpr ⟨(xg_mi 305 (by decide +kernel) (by decide +kernel)), fun _ h => absurd h List.not_mem_nil⟩⟩⟩⟩⟩
theorem cw_X3_42 : ∀ w ∈ [Cond.methodLink RX3 42 mX3_readWord.1, .instanceMethod mX3_readWord.1, .selects mX3_readWord.1.cls mX3_readWord.1 mX3_readWord.1, .initialized mX3_readWord.1.cls, xg_cd mX3_readWord], w ∈ xg_tb := List.forall_mem_cons.mpr ⟨(xg_mi 316 (by decide +kernel) (by decide +kernel)), List.forall_mem_cons.mpr ⟨(xg_mi 318 (by decide +kernel) (by decide +kernel)), List.forall_mem_cons.mpr ⟨(xg_mi 3 (by decide +kernel) (by decide +kernel)), List.forall_mem_cons.mpr ⟨(xg_mi 60 (by decide +kernel) (by decide +kernel)), List.forall_mem_cons.mpr ⟨(xg_mi 319 (by decide +kernel) (by decide +kernel)), fun _ h => absurd h List.not_mem_nil⟩⟩⟩⟩⟩
theorem cw_X3_54 : ∀ w ∈ [Cond.methodLink RX3 54 mX3_readNumber.1, .instanceMethod mX3_readNumber.1, .selects mX3_readNumber.1.cls mX3_readNumber.1 mX3_readNumber.1, .initialized mX3_readNumber.1.cls, xg_cd mX3_readNumber], w ∈ xg_tb := List.forall_mem_cons.mpr ⟨(xg_mi 388 (by decide +kernel) (by decide +kernel)), List.forall_mem_cons.mpr ⟨(xg_mi 390 (by decide +kernel) (by decide +kernel)), List.forall_mem_cons.mpr ⟨(xg_mi 5 (by decide +kernel) (by decide +kernel)), List.forall_mem_cons.mpr ⟨(xg_mi 60 (by decide +kernel) (by decide +kernel)), List.forall_mem_cons.mpr ⟨(xg_mi 391 (by decide +kernel) (by decide +kernel)), fun _ h => absurd h List.not_mem_nil⟩⟩⟩⟩⟩
theorem cw_X3_57 : ∀ w ∈ [Cond.methodLink RX3 57 mX3_leastOf.1, .static mX3_leastOf.1, .initialized mX3_leastOf.1.cls, xg_cd mX3_leastOf], w ∈ xg_tb := List.forall_mem_cons.mpr ⟨(xg_mi 392 (by decide +kernel) (by decide +kernel)), List.forall_mem_cons.mpr ⟨(xg_mi 393 (by decide +kernel) (by decide +kernel)), List.forall_mem_cons.mpr ⟨(xg_mi 60 (by decide +kernel) (by decide +kernel)), List.forall_mem_cons.mpr ⟨(xg_mi 394 (by decide +kernel) (by decide +kernel)), fun _ h => absurd h List.not_mem_nil⟩⟩⟩⟩
theorem cw_X3_61 : ∀ w ∈ [Cond.methodLink RX3 61 mX3_mostOf.1, .static mX3_mostOf.1, .initialized mX3_mostOf.1.cls, xg_cd mX3_mostOf], w ∈ xg_tb := List.forall_mem_cons.mpr ⟨(xg_mi 395 (by decide +kernel) (by decide +kernel)), List.forall_mem_cons.mpr ⟨(xg_mi 396 (by decide +kernel) (by decide +kernel)), List.forall_mem_cons.mpr ⟨(xg_mi 60 (by decide +kernel) (by decide +kernel)), List.forall_mem_cons.mpr ⟨(xg_mi 397 (by decide +kernel) (by decide +kernel)), fun _ h => absurd h List.not_mem_nil⟩⟩⟩⟩
theorem cw_X3_64 : ∀ w ∈ [Cond.methodLink RX3 64 mX3_doClause.1, .instanceMethod mX3_doClause.1, .selects mX3_doClause.1.cls mX3_doClause.1 mX3_doClause.1, .initialized mX3_doClause.1.cls, xg_cd mX3_doClause], w ∈ xg_tb := List.forall_mem_cons.mpr ⟨(xg_mi 398 (by decide +kernel) (by decide +kernel)), List.forall_mem_cons.mpr ⟨(xg_mi 400 (by decide +kernel) (by decide +kernel)), List.forall_mem_cons.mpr ⟨(xg_mi 6 (by decide +kernel) (by decide +kernel)), List.forall_mem_cons.mpr ⟨(xg_mi 60 (by decide +kernel) (by decide +kernel)), List.forall_mem_cons.mpr ⟨(xg_mi 401 (by decide +kernel) (by decide +kernel)), fun _ h => absurd h List.not_mem_nil⟩⟩⟩⟩⟩
theorem cw_X3_68 : ∀ w ∈ [Cond.methodLink RX3 68 mX3_setBears.1, .static mX3_setBears.1, .initialized mX3_setBears.1.cls, xg_cd mX3_setBears], w ∈ xg_tb := List.forall_mem_cons.mpr ⟨(xg_mi 402 (by decide +kernel) (by decide +kernel)), List.forall_mem_cons.mpr ⟨(xg_mi 403 (by decide +kernel) (by decide +kernel)), List.forall_mem_cons.mpr ⟨(xg_mi 60 (by decide +kernel) (by decide +kernel)), List.forall_mem_cons.mpr ⟨(xg_mi 404 (by decide +kernel) (by decide +kernel)), fun _ h => absurd h List.not_mem_nil⟩⟩⟩⟩
theorem cw_X3_81 : ∀ w ∈ [Cond.methodLink RX3 81 mX0_reset.1, .instanceMethod mX0_reset.1, .selects mX0_reset.1.cls mX0_reset.1 mX0_reset.1, .initialized mX0_reset.1.cls, xg_cd mX0_reset], w ∈ xg_tb := List.forall_mem_cons.mpr ⟨(xg_mi 405 (by decide +kernel) (by decide +kernel)), List.forall_mem_cons.mpr ⟨(xg_mi 406 (by decide +kernel) (by decide +kernel)), List.forall_mem_cons.mpr ⟨(xg_mi 407 (by decide +kernel) (by decide +kernel)), List.forall_mem_cons.mpr ⟨(xg_mi 59 (by decide +kernel) (by decide +kernel)), List.forall_mem_cons.mpr ⟨(xg_mi 408 (by decide +kernel) (by decide +kernel)), fun _ h => absurd h List.not_mem_nil⟩⟩⟩⟩⟩
theorem cw_X3_84 : ∀ w ∈ [Cond.methodLink RX3 84 mX0_addThing.1, .instanceMethod mX0_addThing.1, .selects mX0_addThing.1.cls mX0_addThing.1 mX0_addThing.1, .initialized mX0_addThing.1.cls, xg_cd mX0_addThing], w ∈ xg_tb := List.forall_mem_cons.mpr ⟨(xg_mi 409 (by decide +kernel) (by decide +kernel)), List.forall_mem_cons.mpr ⟨(xg_mi 410 (by decide +kernel) (by decide +kernel)), List.forall_mem_cons.mpr ⟨(xg_mi 411 (by decide +kernel) (by decide +kernel)), List.forall_mem_cons.mpr ⟨(xg_mi 59 (by decide +kernel) (by decide +kernel)), List.forall_mem_cons.mpr ⟨(xg_mi 412 (by decide +kernel) (by decide +kernel)), fun _ h => absurd h List.not_mem_nil⟩⟩⟩⟩⟩
theorem cw_X3_109 : ∀ w ∈ [Cond.methodLink RX3 109 mX3_wordText.1, .static mX3_wordText.1, .initialized mX3_wordText.1.cls, xg_cd mX3_wordText], w ∈ xg_tb := List.forall_mem_cons.mpr ⟨(xg_mi 320 (by decide +kernel) (by decide +kernel)), List.forall_mem_cons.mpr ⟨(xg_mi 321 (by decide +kernel) (by decide +kernel)), List.forall_mem_cons.mpr ⟨(xg_mi 60 (by decide +kernel) (by decide +kernel)), List.forall_mem_cons.mpr ⟨(xg_mi 322 (by decide +kernel) (by decide +kernel)), fun _ h => absurd h List.not_mem_nil⟩⟩⟩⟩
theorem cw_X3_113 : ∀ w ∈ [Cond.methodLink RX3 113 mX3_isToken.1, .instanceMethod mX3_isToken.1, .selects mX3_isToken.1.cls mX3_isToken.1 mX3_isToken.1, .initialized mX3_isToken.1.cls, xg_cd mX3_isToken], w ∈ xg_tb := List.forall_mem_cons.mpr ⟨(xg_mi 334 (by decide +kernel) (by decide +kernel)), List.forall_mem_cons.mpr ⟨(xg_mi 336 (by decide +kernel) (by decide +kernel)), List.forall_mem_cons.mpr ⟨(xg_mi 4 (by decide +kernel) (by decide +kernel)), List.forall_mem_cons.mpr ⟨(xg_mi 60 (by decide +kernel) (by decide +kernel)), List.forall_mem_cons.mpr ⟨(xg_mi 337 (by decide +kernel) (by decide +kernel)), fun _ h => absurd h List.not_mem_nil⟩⟩⟩⟩⟩
theorem cw_X3_117 : ∀ w ∈ [Cond.methodLink RX3 117 mJ0_length_8abf5.1, .instanceMethod mJ0_length_8abf5.1, .selects mJ0_length_8abf5.1.cls mJ0_length_8abf5.1 mJ0_length_8abf5.1, .initialized mJ0_length_8abf5.1.cls, xg_cd mJ0_length_8abf5], w ∈ xg_tb := List.forall_mem_cons.mpr ⟨(xg_mi 338 (by decide +kernel) (by decide +kernel)), List.forall_mem_cons.mpr ⟨(xg_mi 339 (by decide +kernel) (by decide +kernel)), List.forall_mem_cons.mpr ⟨(xg_mi 340 (by decide +kernel) (by decide +kernel)), List.forall_mem_cons.mpr ⟨(xg_mi 64 (by decide +kernel) (by decide +kernel)), List.forall_mem_cons.mpr ⟨(xg_mi 341 (by decide +kernel) (by decide +kernel)), fun _ h => absurd h List.not_mem_nil⟩⟩⟩⟩⟩
theorem cw_X3_121 : ∀ w ∈ [Cond.methodLink RX3 121 mJ0_charAt_5068e.1, .instanceMethod mJ0_charAt_5068e.1, .selects mJ0_charAt_5068e.1.cls mJ0_charAt_5068e.1 mJ0_charAt_5068e.1, .initialized mJ0_charAt_5068e.1.cls, xg_cd mJ0_charAt_5068e], w ∈ xg_tb := List.forall_mem_cons.mpr ⟨(xg_mi 348 (by decide +kernel) (by decide +kernel)), List.forall_mem_cons.mpr ⟨(xg_mi 349 (by decide +kernel) (by decide +kernel)), List.forall_mem_cons.mpr ⟨(xg_mi 350 (by decide +kernel) (by decide +kernel)), List.forall_mem_cons.mpr ⟨(xg_mi 64 (by decide +kernel) (by decide +kernel)), List.forall_mem_cons.mpr ⟨(xg_mi 351 (by decide +kernel) (by decide +kernel)), fun _ h => absurd h List.not_mem_nil⟩⟩⟩⟩⟩
theorem cw_X3_125 : ∀ w ∈ [Cond.methodLink RX3 125 mX3_isDigit.1, .static mX3_isDigit.1, .initialized mX3_isDigit.1.cls, xg_cd mX3_isDigit], w ∈ xg_tb := List.forall_mem_cons.mpr ⟨(xg_mi 309 (by decide +kernel) (by decide +kernel)), List.forall_mem_cons.mpr ⟨(xg_mi 310 (by decide +kernel) (by decide +kernel)), List.forall_mem_cons.mpr ⟨(xg_mi 60 (by decide +kernel) (by decide +kernel)), List.forall_mem_cons.mpr ⟨(xg_mi 311 (by decide +kernel) (by decide +kernel)), fun _ h => absurd h List.not_mem_nil⟩⟩⟩⟩
theorem cw_X3_129 : ∀ w ∈ [Cond.methodLink RX3 129 mX3_isSmall.1, .static mX3_isSmall.1, .initialized mX3_isSmall.1.cls, xg_cd mX3_isSmall], w ∈ xg_tb := List.forall_mem_cons.mpr ⟨(xg_mi 306 (by decide +kernel) (by decide +kernel)), List.forall_mem_cons.mpr ⟨(xg_mi 307 (by decide +kernel) (by decide +kernel)), List.forall_mem_cons.mpr ⟨(xg_mi 60 (by decide +kernel) (by decide +kernel)), List.forall_mem_cons.mpr ⟨(xg_mi 308 (by decide +kernel) (by decide +kernel)), fun _ h => absurd h List.not_mem_nil⟩⟩⟩⟩
theorem cw_X4_70 : ∀ w ∈ [Cond.methodLink RX4 70 mX0_copyFrom.1, .instanceMethod mX0_copyFrom.1, .selects mX0_copyFrom.1.cls mX0_copyFrom.1 mX0_copyFrom.1, .initialized mX0_copyFrom.1.cls, xg_cd mX0_copyFrom], w ∈ xg_tb := List.forall_mem_cons.mpr ⟨(xg_mi 290 (by decide +kernel) (by decide +kernel)), List.forall_mem_cons.mpr ⟨(xg_mi 291 (by decide +kernel) (by decide +kernel)), List.forall_mem_cons.mpr ⟨(xg_mi 292 (by decide +kernel) (by decide +kernel)), List.forall_mem_cons.mpr ⟨(xg_mi 59 (by decide +kernel) (by decide +kernel)), List.forall_mem_cons.mpr ⟨(xg_mi 293 (by decide +kernel) (by decide +kernel)), fun _ h => absurd h List.not_mem_nil⟩⟩⟩⟩⟩
theorem cw_X4_74 : ∀ w ∈ [Cond.methodLink RX4 74 mX3_readOnto.1, .instanceMethod mX3_readOnto.1, .selects mX3_readOnto.1.cls mX3_readOnto.1 mX3_readOnto.1, .initialized mX3_readOnto.1.cls, xg_cd mX3_readOnto], w ∈ xg_tb := List.forall_mem_cons.mpr ⟨(xg_mi 294 (by decide +kernel) (by decide +kernel)), List.forall_mem_cons.mpr ⟨(xg_mi 295 (by decide +kernel) (by decide +kernel)), List.forall_mem_cons.mpr ⟨(xg_mi 296 (by decide +kernel) (by decide +kernel)), List.forall_mem_cons.mpr ⟨(xg_mi 60 (by decide +kernel) (by decide +kernel)), List.forall_mem_cons.mpr ⟨(xg_mi 297 (by decide +kernel) (by decide +kernel)), fun _ h => absurd h List.not_mem_nil⟩⟩⟩⟩⟩
theorem cw_X4_78 : ∀ w ∈ [Cond.methodLink RX4 78 mX4_startDay.1, .instanceMethod mX4_startDay.1, .selects mX4_startDay.1.cls mX4_startDay.1 mX4_startDay.1, .initialized mX4_startDay.1.cls, xg_cd mX4_startDay], w ∈ xg_tb := List.forall_mem_cons.mpr ⟨(xg_mi 418 (by decide +kernel) (by decide +kernel)), List.forall_mem_cons.mpr ⟨(xg_mi 420 (by decide +kernel) (by decide +kernel)), List.forall_mem_cons.mpr ⟨(xg_mi 7 (by decide +kernel) (by decide +kernel)), List.forall_mem_cons.mpr ⟨(xg_mi 58 (by decide +kernel) (by decide +kernel)), List.forall_mem_cons.mpr ⟨(xg_mi 421 (by decide +kernel) (by decide +kernel)), fun _ h => absurd h List.not_mem_nil⟩⟩⟩⟩⟩
theorem cw_X4_84 : ∀ w ∈ [Cond.methodLink RX4 84 mX4_isThing.1, .instanceMethod mX4_isThing.1, .selects mX4_isThing.1.cls mX4_isThing.1 mX4_isThing.1, .initialized mX4_isThing.1.cls, xg_cd mX4_isThing], w ∈ xg_tb := List.forall_mem_cons.mpr ⟨(xg_mi 430 (by decide +kernel) (by decide +kernel)), List.forall_mem_cons.mpr ⟨(xg_mi 432 (by decide +kernel) (by decide +kernel)), List.forall_mem_cons.mpr ⟨(xg_mi 8 (by decide +kernel) (by decide +kernel)), List.forall_mem_cons.mpr ⟨(xg_mi 58 (by decide +kernel) (by decide +kernel)), List.forall_mem_cons.mpr ⟨(xg_mi 433 (by decide +kernel) (by decide +kernel)), fun _ h => absurd h List.not_mem_nil⟩⟩⟩⟩⟩
theorem cw_X4_100 : ∀ w ∈ [Cond.methodLink RX4 100 mX1_goldOf.1, .instanceMethod mX1_goldOf.1, .selects mX1_goldOf.1.cls mX1_goldOf.1 mX1_goldOf.1, .initialized mX1_goldOf.1.cls, xg_cd mX1_goldOf], w ∈ xg_tb := List.forall_mem_cons.mpr ⟨(xg_mi 434 (by decide +kernel) (by decide +kernel)), List.forall_mem_cons.mpr ⟨(xg_mi 435 (by decide +kernel) (by decide +kernel)), List.forall_mem_cons.mpr ⟨(xg_mi 436 (by decide +kernel) (by decide +kernel)), List.forall_mem_cons.mpr ⟨(xg_mi 61 (by decide +kernel) (by decide +kernel)), List.forall_mem_cons.mpr ⟨(xg_mi 437 (by decide +kernel) (by decide +kernel)), fun _ h => absurd h List.not_mem_nil⟩⟩⟩⟩⟩
theorem cw_X4_107 : ∀ w ∈ [Cond.methodLink RX4 107 mX4_hasBit.1, .static mX4_hasBit.1, .initialized mX4_hasBit.1.cls, xg_cd mX4_hasBit], w ∈ xg_tb := List.forall_mem_cons.mpr ⟨(xg_mi 441 (by decide +kernel) (by decide +kernel)), List.forall_mem_cons.mpr ⟨(xg_mi 439 (by decide +kernel) (by decide +kernel)), List.forall_mem_cons.mpr ⟨(xg_mi 58 (by decide +kernel) (by decide +kernel)), List.forall_mem_cons.mpr ⟨(xg_mi 440 (by decide +kernel) (by decide +kernel)), fun _ h => absurd h List.not_mem_nil⟩⟩⟩⟩
theorem cw_X4_111 : ∀ w ∈ [Cond.methodLink RX4 111 mX1_priceOf.1, .instanceMethod mX1_priceOf.1, .selects mX1_priceOf.1.cls mX1_priceOf.1 mX1_priceOf.1, .initialized mX1_priceOf.1.cls, xg_cd mX1_priceOf], w ∈ xg_tb := List.forall_mem_cons.mpr ⟨(xg_mi 442 (by decide +kernel) (by decide +kernel)), List.forall_mem_cons.mpr ⟨(xg_mi 443 (by decide +kernel) (by decide +kernel)), List.forall_mem_cons.mpr ⟨(xg_mi 444 (by decide +kernel) (by decide +kernel)), List.forall_mem_cons.mpr ⟨(xg_mi 61 (by decide +kernel) (by decide +kernel)), List.forall_mem_cons.mpr ⟨(xg_mi 445 (by decide +kernel) (by decide +kernel)), fun _ h => absurd h List.not_mem_nil⟩⟩⟩⟩⟩
theorem cw_X4_118 : ∀ w ∈ [Cond.methodLink RX4 118 mX4_isUnder.1, .static mX4_isUnder.1, .initialized mX4_isUnder.1.cls, xg_cd mX4_isUnder], w ∈ xg_tb := List.forall_mem_cons.mpr ⟨(xg_mi 457 (by decide +kernel) (by decide +kernel)), List.forall_mem_cons.mpr ⟨(xg_mi 458 (by decide +kernel) (by decide +kernel)), List.forall_mem_cons.mpr ⟨(xg_mi 58 (by decide +kernel) (by decide +kernel)), List.forall_mem_cons.mpr ⟨(xg_mi 459 (by decide +kernel) (by decide +kernel)), fun _ h => absurd h List.not_mem_nil⟩⟩⟩⟩
theorem cw_X4_121 : ∀ w ∈ [Cond.methodLink RX4 121 mX1_weighs.1, .instanceMethod mX1_weighs.1, .selects mX1_weighs.1.cls mX1_weighs.1 mX1_weighs.1, .initialized mX1_weighs.1.cls, xg_cd mX1_weighs], w ∈ xg_tb := List.forall_mem_cons.mpr ⟨(xg_mi 460 (by decide +kernel) (by decide +kernel)), List.forall_mem_cons.mpr ⟨(xg_mi 461 (by decide +kernel) (by decide +kernel)), List.forall_mem_cons.mpr ⟨(xg_mi 462 (by decide +kernel) (by decide +kernel)), List.forall_mem_cons.mpr ⟨(xg_mi 61 (by decide +kernel) (by decide +kernel)), List.forall_mem_cons.mpr ⟨(xg_mi 463 (by decide +kernel) (by decide +kernel)), fun _ h => absurd h List.not_mem_nil⟩⟩⟩⟩⟩
theorem cw_X4_127 : ∀ w ∈ [Cond.methodLink RX4 127 mX1_loadOf.1, .instanceMethod mX1_loadOf.1, .selects mX1_loadOf.1.cls mX1_loadOf.1 mX1_loadOf.1, .initialized mX1_loadOf.1.cls, xg_cd mX1_loadOf], w ∈ xg_tb := List.forall_mem_cons.mpr ⟨(xg_mi 468 (by decide +kernel) (by decide +kernel)), List.forall_mem_cons.mpr ⟨(xg_mi 469 (by decide +kernel) (by decide +kernel)), List.forall_mem_cons.mpr ⟨(xg_mi 470 (by decide +kernel) (by decide +kernel)), List.forall_mem_cons.mpr ⟨(xg_mi 61 (by decide +kernel) (by decide +kernel)), List.forall_mem_cons.mpr ⟨(xg_mi 471 (by decide +kernel) (by decide +kernel)), fun _ h => absurd h List.not_mem_nil⟩⟩⟩⟩⟩
theorem cw_X4_136 : ∀ w ∈ [Cond.methodLink RX4 136 mX1_toolOf.1, .instanceMethod mX1_toolOf.1, .selects mX1_toolOf.1.cls mX1_toolOf.1 mX1_toolOf.1, .initialized mX1_toolOf.1.cls, xg_cd mX1_toolOf], w ∈ xg_tb := List.forall_mem_cons.mpr ⟨(xg_mi 473 (by decide +kernel) (by decide +kernel)), List.forall_mem_cons.mpr ⟨(xg_mi 474 (by decide +kernel) (by decide +kernel)), List.forall_mem_cons.mpr ⟨(xg_mi 475 (by decide +kernel) (by decide +kernel)), List.forall_mem_cons.mpr ⟨(xg_mi 61 (by decide +kernel) (by decide +kernel)), List.forall_mem_cons.mpr ⟨(xg_mi 476 (by decide +kernel) (by decide +kernel)), fun _ h => absurd h List.not_mem_nil⟩⟩⟩⟩⟩
theorem cw_X4_143 : ∀ w ∈ [Cond.methodLink RX4 143 mX4_handIn.1, .static mX4_handIn.1, .initialized mX4_handIn.1.cls, xg_cd mX4_handIn], w ∈ xg_tb := List.forall_mem_cons.mpr ⟨(xg_mi 481 (by decide +kernel) (by decide +kernel)), List.forall_mem_cons.mpr ⟨(xg_mi 482 (by decide +kernel) (by decide +kernel)), List.forall_mem_cons.mpr ⟨(xg_mi 58 (by decide +kernel) (by decide +kernel)), List.forall_mem_cons.mpr ⟨(xg_mi 483 (by decide +kernel) (by decide +kernel)), fun _ h => absurd h List.not_mem_nil⟩⟩⟩⟩
theorem cw_X4_146 : ∀ w ∈ [Cond.methodLink RX4 146 mX1_isLost.1, .instanceMethod mX1_isLost.1, .selects mX1_isLost.1.cls mX1_isLost.1 mX1_isLost.1, .initialized mX1_isLost.1.cls, xg_cd mX1_isLost], w ∈ xg_tb := List.forall_mem_cons.mpr ⟨(xg_mi 488 (by decide +kernel) (by decide +kernel)), List.forall_mem_cons.mpr ⟨(xg_mi 447 (by decide +kernel) (by decide +kernel)), List.forall_mem_cons.mpr ⟨(xg_mi 448 (by decide +kernel) (by decide +kernel)), List.forall_mem_cons.mpr ⟨(xg_mi 61 (by decide +kernel) (by decide +kernel)), List.forall_mem_cons.mpr ⟨(xg_mi 449 (by decide +kernel) (by decide +kernel)), fun _ h => absurd h List.not_mem_nil⟩⟩⟩⟩⟩
theorem cw_X4_153 : ∀ w ∈ [Cond.methodLink RX4 153 mX4_doTouching.1, .instanceMethod mX4_doTouching.1, .selects mX4_doTouching.1.cls mX4_doTouching.1 mX4_doTouching.1, .initialized mX4_doTouching.1.cls, xg_cd mX4_doTouching], w ∈ xg_tb := List.forall_mem_cons.mpr ⟨(xg_mi 489 (by decide +kernel) (by decide +kernel)), List.forall_mem_cons.mpr ⟨(xg_mi 491 (by decide +kernel) (by decide +kernel)), List.forall_mem_cons.mpr ⟨(xg_mi 9 (by decide +kernel) (by decide +kernel)), List.forall_mem_cons.mpr ⟨(xg_mi 58 (by decide +kernel) (by decide +kernel)), List.forall_mem_cons.mpr ⟨(xg_mi 492 (by decide +kernel) (by decide +kernel)), fun _ h => absurd h List.not_mem_nil⟩⟩⟩⟩⟩
theorem cw_X4_156 : ∀ w ∈ [Cond.methodLink RX4 156 mX4_servesAsTool.1, .instanceMethod mX4_servesAsTool.1, .selects mX4_servesAsTool.1.cls mX4_servesAsTool.1 mX4_servesAsTool.1, .initialized mX4_servesAsTool.1.cls, xg_cd mX4_servesAsTool], w ∈ xg_tb := List.forall_mem_cons.mpr ⟨(xg_mi 515 (by decide +kernel) (by decide +kernel)), List.forall_mem_cons.mpr ⟨(xg_mi 517 (by decide +kernel) (by decide +kernel)), List.forall_mem_cons.mpr ⟨(xg_mi 11 (by decide +kernel) (by decide +kernel)), List.forall_mem_cons.mpr ⟨(xg_mi 58 (by decide +kernel) (by decide +kernel)), List.forall_mem_cons.mpr ⟨(xg_mi 518 (by decide +kernel) (by decide +kernel)), fun _ h => absurd h List.not_mem_nil⟩⟩⟩⟩⟩
theorem cw_X4_159 : ∀ w ∈ [Cond.methodLink RX4 159 mX4_doEating.1, .instanceMethod mX4_doEating.1, .selects mX4_doEating.1.cls mX4_doEating.1 mX4_doEating.1, .initialized mX4_doEating.1.cls, xg_cd mX4_doEating], w ∈ xg_tb := List.forall_mem_cons.mpr ⟨(xg_mi 523 (by decide +kernel) (by decide +kernel)), List.forall_mem_cons.mpr ⟨(xg_mi 525 (by decide +kernel) (by decide +kernel)), List.forall_mem_cons.mpr ⟨(xg_mi 12 (by decide +kernel) (by decide +kernel)), List.forall_mem_cons.mpr ⟨(xg_mi 58 (by decide +kernel) (by decide +kernel)), List.forall_mem_cons.mpr ⟨(xg_mi 526 (by decide +kernel) (by decide +kernel)), fun _ h => absurd h List.not_mem_nil⟩⟩⟩⟩⟩
theorem cw_X4_163 : ∀ w ∈ [Cond.methodLink RX4 163 mX4_remember.1, .instanceMethod mX4_remember.1, .selects mX4_remember.1.cls mX4_remember.1 mX4_remember.1, .initialized mX4_remember.1.cls, xg_cd mX4_remember], w ∈ xg_tb := List.forall_mem_cons.mpr ⟨(xg_mi 493 (by decide +kernel) (by decide +kernel)), List.forall_mem_cons.mpr ⟨(xg_mi 495 (by decide +kernel) (by decide +kernel)), List.forall_mem_cons.mpr ⟨(xg_mi 10 (by decide +kernel) (by decide +kernel)), List.forall_mem_cons.mpr ⟨(xg_mi 58 (by decide +kernel) (by decide +kernel)), List.forall_mem_cons.mpr ⟨(xg_mi 496 (by decide +kernel) (by decide +kernel)), fun _ h => absurd h List.not_mem_nil⟩⟩⟩⟩⟩
theorem cw_X4_166 : ∀ w ∈ [Cond.methodLink RX4 166 mX1_pass.1, .instanceMethod mX1_pass.1, .selects mX1_pass.1.cls mX1_pass.1 mX1_pass.1, .initialized mX1_pass.1.cls, xg_cd mX1_pass], w ∈ xg_tb := List.forall_mem_cons.mpr ⟨(xg_mi 506 (by decide +kernel) (by decide +kernel)), List.forall_mem_cons.mpr ⟨(xg_mi 507 (by decide +kernel) (by decide +kernel)), List.forall_mem_cons.mpr ⟨(xg_mi 508 (by decide +kernel) (by decide +kernel)), List.forall_mem_cons.mpr ⟨(xg_mi 61 (by decide +kernel) (by decide +kernel)), List.forall_mem_cons.mpr ⟨(xg_mi 509 (by decide +kernel) (by decide +kernel)), fun _ h => absurd h List.not_mem_nil⟩⟩⟩⟩⟩
theorem cw_X4_172 : ∀ w ∈ [Cond.methodLink RX4 172 mX1_copyFrom.1, .instanceMethod mX1_copyFrom.1, .selects mX1_copyFrom.1.cls mX1_copyFrom.1 mX1_copyFrom.1, .initialized mX1_copyFrom.1.cls, xg_cd mX1_copyFrom], w ∈ xg_tb := List.forall_mem_cons.mpr ⟨(xg_mi 497 (by decide +kernel) (by decide +kernel)), List.forall_mem_cons.mpr ⟨(xg_mi 498 (by decide +kernel) (by decide +kernel)), List.forall_mem_cons.mpr ⟨(xg_mi 499 (by decide +kernel) (by decide +kernel)), List.forall_mem_cons.mpr ⟨(xg_mi 61 (by decide +kernel) (by decide +kernel)), List.forall_mem_cons.mpr ⟨(xg_mi 500 (by decide +kernel) (by decide +kernel)), fun _ h => absurd h List.not_mem_nil⟩⟩⟩⟩⟩
theorem cw_X4_178 : ∀ w ∈ [Cond.methodLink RX4 178 mX4_townThings.1, .instanceMethod mX4_townThings.1, .selects mX4_townThings.1.cls mX4_townThings.1 mX4_townThings.1, .initialized mX4_townThings.1.cls, xg_cd mX4_townThings], w ∈ xg_tb := List.forall_mem_cons.mpr ⟨(xg_mi 551 (by decide +kernel) (by decide +kernel)), List.forall_mem_cons.mpr ⟨(xg_mi 553 (by decide +kernel) (by decide +kernel)), List.forall_mem_cons.mpr ⟨(xg_mi 13 (by decide +kernel) (by decide +kernel)), List.forall_mem_cons.mpr ⟨(xg_mi 58 (by decide +kernel) (by decide +kernel)), List.forall_mem_cons.mpr ⟨(xg_mi 554 (by decide +kernel) (by decide +kernel)), fun _ h => absurd h List.not_mem_nil⟩⟩⟩⟩⟩
theorem cw_X4_185 : ∀ w ∈ [Cond.methodLink RX4 185 mX1_firstOverloaded.1, .instanceMethod mX1_firstOverloaded.1, .selects mX1_firstOverloaded.1.cls mX1_firstOverloaded.1 mX1_firstOverloaded.1, .initialized mX1_firstOverloaded.1.cls, xg_cd mX1_firstOverloaded], w ∈ xg_tb := List.forall_mem_cons.mpr ⟨(xg_mi 555 (by decide +kernel) (by decide +kernel)), List.forall_mem_cons.mpr ⟨(xg_mi 556 (by decide +kernel) (by decide +kernel)), List.forall_mem_cons.mpr ⟨(xg_mi 557 (by decide +kernel) (by decide +kernel)), List.forall_mem_cons.mpr ⟨(xg_mi 61 (by decide +kernel) (by decide +kernel)), List.forall_mem_cons.mpr ⟨(xg_mi 558 (by decide +kernel) (by decide +kernel)), fun _ h => absurd h List.not_mem_nil⟩⟩⟩⟩⟩
theorem cw_X4_188 : ∀ w ∈ [Cond.methodLink RX4 188 mX1_openGates.1, .instanceMethod mX1_openGates.1, .selects mX1_openGates.1.cls mX1_openGates.1 mX1_openGates.1, .initialized mX1_openGates.1.cls, xg_cd mX1_openGates], w ∈ xg_tb := List.forall_mem_cons.mpr ⟨(xg_mi 559 (by decide +kernel) (by decide +kernel)), List.forall_mem_cons.mpr ⟨(xg_mi 560 (by decide +kernel) (by decide +kernel)), List.forall_mem_cons.mpr ⟨(xg_mi 561 (by decide +kernel) (by decide +kernel)), List.forall_mem_cons.mpr ⟨(xg_mi 61 (by decide +kernel) (by decide +kernel)), List.forall_mem_cons.mpr ⟨(xg_mi 562 (by decide +kernel) (by decide +kernel)), fun _ h => absurd h List.not_mem_nil⟩⟩⟩⟩⟩
theorem cw_X4_191 : ∀ w ∈ [Cond.methodLink RX4 191 mX1_prices.1, .instanceMethod mX1_prices.1, .selects mX1_prices.1.cls mX1_prices.1 mX1_prices.1, .initialized mX1_prices.1.cls, xg_cd mX1_prices], w ∈ xg_tb := List.forall_mem_cons.mpr ⟨(xg_mi 563 (by decide +kernel) (by decide +kernel)), List.forall_mem_cons.mpr ⟨(xg_mi 564 (by decide +kernel) (by decide +kernel)), List.forall_mem_cons.mpr ⟨(xg_mi 565 (by decide +kernel) (by decide +kernel)), List.forall_mem_cons.mpr ⟨(xg_mi 61 (by decide +kernel) (by decide +kernel)), List.forall_mem_cons.mpr ⟨(xg_mi 566 (by decide +kernel) (by decide +kernel)), fun _ h => absurd h List.not_mem_nil⟩⟩⟩⟩⟩
theorem cw_X4_197 : ∀ w ∈ [Cond.methodLink RX4 197 mJ6_bitCount_0f7a4.1, .static mJ6_bitCount_0f7a4.1, .initialized mJ6_bitCount_0f7a4.1.cls, xg_cd mJ6_bitCount_0f7a4], w ∈ xg_tb := List.forall_mem_cons.mpr ⟨(xg_mi 584 (by decide +kernel) (by decide +kernel)), List.forall_mem_cons.mpr ⟨(xg_mi 585 (by decide +kernel) (by decide +kernel)), List.forall_mem_cons.mpr ⟨(xg_mi 68 (by decide +kernel) (by decide +kernel)), List.forall_mem_cons.mpr ⟨(xg_mi 586 (by decide +kernel) (by decide +kernel)), fun _ h => absurd h List.not_mem_nil⟩⟩⟩⟩
theorem cw_X4_202 : ∀ w ∈ [Cond.methodLink RX4 202 mX2_findWay.1, .instanceMethod mX2_findWay.1, .selects mX2_findWay.1.cls mX2_findWay.1 mX2_findWay.1, .initialized mX2_findWay.1.cls, xg_cd mX2_findWay], w ∈ xg_tb := List.forall_mem_cons.mpr ⟨(xg_mi 598 (by decide +kernel) (by decide +kernel)), List.forall_mem_cons.mpr ⟨(xg_mi 599 (by decide +kernel) (by decide +kernel)), List.forall_mem_cons.mpr ⟨(xg_mi 600 (by decide +kernel) (by decide +kernel)), List.forall_mem_cons.mpr ⟨(xg_mi 62 (by decide +kernel) (by decide +kernel)), List.forall_mem_cons.mpr ⟨(xg_mi 601 (by decide +kernel) (by decide +kernel)), fun _ h => absurd h List.not_mem_nil⟩⟩⟩⟩⟩
theorem cw_X4_218 : ∀ w ∈ [Cond.methodLink RX4 218 mX4_isRest.1, .instanceMethod mX4_isRest.1, .selects mX4_isRest.1.cls mX4_isRest.1 mX4_isRest.1, .initialized mX4_isRest.1.cls, xg_cd mX4_isRest], w ∈ xg_tb := List.forall_mem_cons.mpr ⟨(xg_mi 634 (by decide +kernel) (by decide +kernel)), List.forall_mem_cons.mpr ⟨(xg_mi 636 (by decide +kernel) (by decide +kernel)), List.forall_mem_cons.mpr ⟨(xg_mi 16 (by decide +kernel) (by decide +kernel)), List.forall_mem_cons.mpr ⟨(xg_mi 58 (by decide +kernel) (by decide +kernel)), List.forall_mem_cons.mpr ⟨(xg_mi 637 (by decide +kernel) (by decide +kernel)), fun _ h => absurd h List.not_mem_nil⟩⟩⟩⟩⟩
theorem cw_X4_224 : ∀ w ∈ [Cond.methodLink RX4 224 mX4_goldEnd.1, .instanceMethod mX4_goldEnd.1, .selects mX4_goldEnd.1.cls mX4_goldEnd.1 mX4_goldEnd.1, .initialized mX4_goldEnd.1.cls, xg_cd mX4_goldEnd], w ∈ xg_tb := List.forall_mem_cons.mpr ⟨(xg_mi 657 (by decide +kernel) (by decide +kernel)), List.forall_mem_cons.mpr ⟨(xg_mi 659 (by decide +kernel) (by decide +kernel)), List.forall_mem_cons.mpr ⟨(xg_mi 18 (by decide +kernel) (by decide +kernel)), List.forall_mem_cons.mpr ⟨(xg_mi 58 (by decide +kernel) (by decide +kernel)), List.forall_mem_cons.mpr ⟨(xg_mi 660 (by decide +kernel) (by decide +kernel)), fun _ h => absurd h List.not_mem_nil⟩⟩⟩⟩⟩
theorem cw_X4_227 : ∀ w ∈ [Cond.methodLink RX4 227 mX4_fitsSeen.1, .instanceMethod mX4_fitsSeen.1, .selects mX4_fitsSeen.1.cls mX4_fitsSeen.1 mX4_fitsSeen.1, .initialized mX4_fitsSeen.1.cls, xg_cd mX4_fitsSeen], w ∈ xg_tb := List.forall_mem_cons.mpr ⟨(xg_mi 661 (by decide +kernel) (by decide +kernel)), List.forall_mem_cons.mpr ⟨(xg_mi 663 (by decide +kernel) (by decide +kernel)), List.forall_mem_cons.mpr ⟨(xg_mi 19 (by decide +kernel) (by decide +kernel)), List.forall_mem_cons.mpr ⟨(xg_mi 58 (by decide +kernel) (by decide +kernel)), List.forall_mem_cons.mpr ⟨(xg_mi 664 (by decide +kernel) (by decide +kernel)), fun _ h => absurd h List.not_mem_nil⟩⟩⟩⟩⟩
theorem cw_X4_232 : ∀ w ∈ [Cond.methodLink RX4 232 mX4_cleanAnyway.1, .instanceMethod mX4_cleanAnyway.1, .selects mX4_cleanAnyway.1.cls mX4_cleanAnyway.1 mX4_cleanAnyway.1, .initialized mX4_cleanAnyway.1.cls, xg_cd mX4_cleanAnyway], w ∈ xg_tb := List.forall_mem_cons.mpr ⟨(xg_mi 670 (by decide +kernel) (by decide +kernel)), List.forall_mem_cons.mpr ⟨(xg_mi 672 (by decide +kernel) (by decide +kernel)), List.forall_mem_cons.mpr ⟨(xg_mi 20 (by decide +kernel) (by decide +kernel)), List.forall_mem_cons.mpr ⟨(xg_mi 58 (by decide +kernel) (by decide +kernel)), List.forall_mem_cons.mpr ⟨(xg_mi 673 (by decide +kernel) (by decide +kernel)), fun _ h => absurd h List.not_mem_nil⟩⟩⟩⟩⟩
theorem cw_X4_235 : ∀ w ∈ [Cond.methodLink RX4 235 mX4_cleanBehind.1, .instanceMethod mX4_cleanBehind.1, .selects mX4_cleanBehind.1.cls mX4_cleanBehind.1 mX4_cleanBehind.1, .initialized mX4_cleanBehind.1.cls, xg_cd mX4_cleanBehind], w ∈ xg_tb := List.forall_mem_cons.mpr ⟨(xg_mi 674 (by decide +kernel) (by decide +kernel)), List.forall_mem_cons.mpr ⟨(xg_mi 676 (by decide +kernel) (by decide +kernel)), List.forall_mem_cons.mpr ⟨(xg_mi 21 (by decide +kernel) (by decide +kernel)), List.forall_mem_cons.mpr ⟨(xg_mi 58 (by decide +kernel) (by decide +kernel)), List.forall_mem_cons.mpr ⟨(xg_mi 677 (by decide +kernel) (by decide +kernel)), fun _ h => absurd h List.not_mem_nil⟩⟩⟩⟩⟩
theorem cw_X4_240 : ∀ w ∈ [Cond.methodLink RX4 240 mX4_power.1, .static mX4_power.1, .initialized mX4_power.1.cls, xg_cd mX4_power], w ∈ xg_tb := List.forall_mem_cons.mpr ⟨(xg_mi 683 (by decide +kernel) (by decide +kernel)), List.forall_mem_cons.mpr ⟨(xg_mi 684 (by decide +kernel) (by decide +kernel)), List.forall_mem_cons.mpr ⟨(xg_mi 58 (by decide +kernel) (by decide +kernel)), List.forall_mem_cons.mpr ⟨(xg_mi 685 (by decide +kernel) (by decide +kernel)), fun _ h => absurd h List.not_mem_nil⟩⟩⟩⟩
theorem cw_X4_244 : ∀ w ∈ [Cond.methodLink RX4 244 mX4_commonDivisor.1, .static mX4_commonDivisor.1, .initialized mX4_commonDivisor.1.cls, xg_cd mX4_commonDivisor], w ∈ xg_tb := List.forall_mem_cons.mpr ⟨(xg_mi 686 (by decide +kernel) (by decide +kernel)), List.forall_mem_cons.mpr ⟨(xg_mi 687 (by decide +kernel) (by decide +kernel)), List.forall_mem_cons.mpr ⟨(xg_mi 58 (by decide +kernel) (by decide +kernel)), List.forall_mem_cons.mpr ⟨(xg_mi 688 (by decide +kernel) (by decide +kernel)), fun _ h => absurd h List.not_mem_nil⟩⟩⟩⟩
theorem cw_X4_260 : ∀ w ∈ [Cond.methodLink RX4 260 mX1_clear.1, .instanceMethod mX1_clear.1, .selects mX1_clear.1.cls mX1_clear.1 mX1_clear.1, .initialized mX1_clear.1.cls, xg_cd mX1_clear], w ∈ xg_tb := List.forall_mem_cons.mpr ⟨(xg_mi 422 (by decide +kernel) (by decide +kernel)), List.forall_mem_cons.mpr ⟨(xg_mi 423 (by decide +kernel) (by decide +kernel)), List.forall_mem_cons.mpr ⟨(xg_mi 424 (by decide +kernel) (by decide +kernel)), List.forall_mem_cons.mpr ⟨(xg_mi 61 (by decide +kernel) (by decide +kernel)), List.forall_mem_cons.mpr ⟨(xg_mi 425 (by decide +kernel) (by decide +kernel)), fun _ h => absurd h List.not_mem_nil⟩⟩⟩⟩⟩
theorem cw_X4_263 : ∀ w ∈ [Cond.methodLink RX4 263 mX1_gild.1, .instanceMethod mX1_gild.1, .selects mX1_gild.1.cls mX1_gild.1 mX1_gild.1, .initialized mX1_gild.1.cls, xg_cd mX1_gild], w ∈ xg_tb := List.forall_mem_cons.mpr ⟨(xg_mi 501 (by decide +kernel) (by decide +kernel)), List.forall_mem_cons.mpr ⟨(xg_mi 502 (by decide +kernel) (by decide +kernel)), List.forall_mem_cons.mpr ⟨(xg_mi 503 (by decide +kernel) (by decide +kernel)), List.forall_mem_cons.mpr ⟨(xg_mi 61 (by decide +kernel) (by decide +kernel)), List.forall_mem_cons.mpr ⟨(xg_mi 504 (by decide +kernel) (by decide +kernel)), fun _ h => absurd h List.not_mem_nil⟩⟩⟩⟩⟩
theorem cw_X4_267 : ∀ w ∈ [Cond.methodLink RX4 267 mJ9_max_7cf53.1, .static mJ9_max_7cf53.1, .initialized mJ9_max_7cf53.1.cls, xg_cd mJ9_max_7cf53], w ∈ xg_tb := List.forall_mem_cons.mpr ⟨(xg_mi 642 (by decide +kernel) (by decide +kernel)), List.forall_mem_cons.mpr ⟨(xg_mi 643 (by decide +kernel) (by decide +kernel)), List.forall_mem_cons.mpr ⟨(xg_mi 69 (by decide +kernel) (by decide +kernel)), List.forall_mem_cons.mpr ⟨(xg_mi 644 (by decide +kernel) (by decide +kernel)), fun _ h => absurd h List.not_mem_nil⟩⟩⟩⟩
theorem cw_X4_272 : ∀ w ∈ [Cond.methodLink RX4 272 mX4_thiefGain.1, .instanceMethod mX4_thiefGain.1, .selects mX4_thiefGain.1.cls mX4_thiefGain.1 mX4_thiefGain.1, .initialized mX4_thiefGain.1.cls, xg_cd mX4_thiefGain], w ∈ xg_tb := List.forall_mem_cons.mpr ⟨(xg_mi 638 (by decide +kernel) (by decide +kernel)), List.forall_mem_cons.mpr ⟨(xg_mi 640 (by decide +kernel) (by decide +kernel)), List.forall_mem_cons.mpr ⟨(xg_mi 17 (by decide +kernel) (by decide +kernel)), List.forall_mem_cons.mpr ⟨(xg_mi 58 (by decide +kernel) (by decide +kernel)), List.forall_mem_cons.mpr ⟨(xg_mi 641 (by decide +kernel) (by decide +kernel)), fun _ h => absurd h List.not_mem_nil⟩⟩⟩⟩⟩
theorem cw_X5_66 : ∀ w ∈ [Cond.methodLink RX5 66 mX5_plain.1, .instanceMethod mX5_plain.1, .selects mX5_plain.1.cls mX5_plain.1 mX5_plain.1, .initialized mX5_plain.1.cls, xg_cd mX5_plain], w ∈ xg_tb := List.forall_mem_cons.mpr ⟨(xg_mi 699 (by decide +kernel) (by decide +kernel)), List.forall_mem_cons.mpr ⟨(xg_mi 701 (by decide +kernel) (by decide +kernel)), List.forall_mem_cons.mpr ⟨(xg_mi 22 (by decide +kernel) (by decide +kernel)), List.forall_mem_cons.mpr ⟨(xg_mi 63 (by decide +kernel) (by decide +kernel)), List.forall_mem_cons.mpr ⟨(xg_mi 702 (by decide +kernel) (by decide +kernel)), fun _ h => absurd h List.not_mem_nil⟩⟩⟩⟩⟩
theorem cw_X5_69 : ∀ w ∈ [Cond.methodLink RX5 69 mX5_begin.1, .instanceMethod mX5_begin.1, .selects mX5_begin.1.cls mX5_begin.1 mX5_begin.1, .initialized mX5_begin.1.cls, xg_cd mX5_begin], w ∈ xg_tb := List.forall_mem_cons.mpr ⟨(xg_mi 703 (by decide +kernel) (by decide +kernel)), List.forall_mem_cons.mpr ⟨(xg_mi 705 (by decide +kernel) (by decide +kernel)), List.forall_mem_cons.mpr ⟨(xg_mi 23 (by decide +kernel) (by decide +kernel)), List.forall_mem_cons.mpr ⟨(xg_mi 63 (by decide +kernel) (by decide +kernel)), List.forall_mem_cons.mpr ⟨(xg_mi 706 (by decide +kernel) (by decide +kernel)), fun _ h => absurd h List.not_mem_nil⟩⟩⟩⟩⟩
theorem cw_X5_87 : ∀ w ∈ [Cond.methodLink RX5 87 mX5_in.1, .static mX5_in.1, .initialized mX5_in.1.cls, xg_cd mX5_in], w ∈ xg_tb := List.forall_mem_cons.mpr ⟨(xg_mi 812 (by decide +kernel) (by decide +kernel)), List.forall_mem_cons.mpr ⟨(xg_mi 813 (by decide +kernel) (by decide +kernel)), List.forall_mem_cons.mpr ⟨(xg_mi 63 (by decide +kernel) (by decide +kernel)), List.forall_mem_cons.mpr ⟨(xg_mi 814 (by decide +kernel) (by decide +kernel)), fun _ h => absurd h List.not_mem_nil⟩⟩⟩⟩
theorem cw_X5_125 : ∀ w ∈ [Cond.methodLink RX5 125 mX5_nextToken.1, .instanceMethod mX5_nextToken.1, .selects mX5_nextToken.1.cls mX5_nextToken.1 mX5_nextToken.1, .initialized mX5_nextToken.1.cls, xg_cd mX5_nextToken], w ∈ xg_tb := List.forall_mem_cons.mpr ⟨(xg_mi 831 (by decide +kernel) (by decide +kernel)), List.forall_mem_cons.mpr ⟨(xg_mi 833 (by decide +kernel) (by decide +kernel)), List.forall_mem_cons.mpr ⟨(xg_mi 26 (by decide +kernel) (by decide +kernel)), List.forall_mem_cons.mpr ⟨(xg_mi 63 (by decide +kernel) (by decide +kernel)), List.forall_mem_cons.mpr ⟨(xg_mi 834 (by decide +kernel) (by decide +kernel)), fun _ h => absurd h List.not_mem_nil⟩⟩⟩⟩⟩
theorem cw_X5_128 : ∀ w ∈ [Cond.methodLink RX5 128 mX5_fails.1, .instanceMethod mX5_fails.1, .selects mX5_fails.1.cls mX5_fails.1 mX5_fails.1, .initialized mX5_fails.1.cls, xg_cd mX5_fails], w ∈ xg_tb := List.forall_mem_cons.mpr ⟨(xg_mi 856 (by decide +kernel) (by decide +kernel)), List.forall_mem_cons.mpr ⟨(xg_mi 858 (by decide +kernel) (by decide +kernel)), List.forall_mem_cons.mpr ⟨(xg_mi 28 (by decide +kernel) (by decide +kernel)), List.forall_mem_cons.mpr ⟨(xg_mi 63 (by decide +kernel) (by decide +kernel)), List.forall_mem_cons.mpr ⟨(xg_mi 859 (by decide +kernel) (by decide +kernel)), fun _ h => absurd h List.not_mem_nil⟩⟩⟩⟩⟩
theorem cw_X5_135 : ∀ w ∈ [Cond.methodLink RX5 135 mX5_isNumber.1, .instanceMethod mX5_isNumber.1, .selects mX5_isNumber.1.cls mX5_isNumber.1 mX5_isNumber.1, .initialized mX5_isNumber.1.cls, xg_cd mX5_isNumber], w ∈ xg_tb := List.forall_mem_cons.mpr ⟨(xg_mi 860 (by decide +kernel) (by decide +kernel)), List.forall_mem_cons.mpr ⟨(xg_mi 862 (by decide +kernel) (by decide +kernel)), List.forall_mem_cons.mpr ⟨(xg_mi 29 (by decide +kernel) (by decide +kernel)), List.forall_mem_cons.mpr ⟨(xg_mi 63 (by decide +kernel) (by decide +kernel)), List.forall_mem_cons.mpr ⟨(xg_mi 863 (by decide +kernel) (by decide +kernel)), fun _ h => absurd h List.not_mem_nil⟩⟩⟩⟩⟩
theorem cw_X5_160 : ∀ w ∈ [Cond.methodLink RX5 160 mX5_isThingLine.1, .instanceMethod mX5_isThingLine.1, .selects mX5_isThingLine.1.cls mX5_isThingLine.1 mX5_isThingLine.1, .initialized mX5_isThingLine.1.cls, xg_cd mX5_isThingLine], w ∈ xg_tb := List.forall_mem_cons.mpr ⟨(xg_mi 852 (by decide +kernel) (by decide +kernel)), List.forall_mem_cons.mpr ⟨(xg_mi 854 (by decide +kernel) (by decide +kernel)), List.forall_mem_cons.mpr ⟨(xg_mi 27 (by decide +kernel) (by decide +kernel)), List.forall_mem_cons.mpr ⟨(xg_mi 63 (by decide +kernel) (by decide +kernel)), List.forall_mem_cons.mpr ⟨(xg_mi 855 (by decide +kernel) (by decide +kernel)), fun _ h => absurd h List.not_mem_nil⟩⟩⟩⟩⟩
theorem cw_X5_167 : ∀ w ∈ [Cond.methodLink RX5 167 mX5_isLine.1, .instanceMethod mX5_isLine.1, .selects mX5_isLine.1.cls mX5_isLine.1 mX5_isLine.1, .initialized mX5_isLine.1.cls, xg_cd mX5_isLine], w ∈ xg_tb := List.forall_mem_cons.mpr ⟨(xg_mi 827 (by decide +kernel) (by decide +kernel)), List.forall_mem_cons.mpr ⟨(xg_mi 829 (by decide +kernel) (by decide +kernel)), List.forall_mem_cons.mpr ⟨(xg_mi 25 (by decide +kernel) (by decide +kernel)), List.forall_mem_cons.mpr ⟨(xg_mi 63 (by decide +kernel) (by decide +kernel)), List.forall_mem_cons.mpr ⟨(xg_mi 830 (by decide +kernel) (by decide +kernel)), fun _ h => absurd h List.not_mem_nil⟩⟩⟩⟩⟩
theorem cw_X5_170 : ∀ w ∈ [Cond.methodLink RX5 170 mX5_isRead.1, .instanceMethod mX5_isRead.1, .selects mX5_isRead.1.cls mX5_isRead.1 mX5_isRead.1, .initialized mX5_isRead.1.cls, xg_cd mX5_isRead], w ∈ xg_tb := List.forall_mem_cons.mpr ⟨(xg_mi 823 (by decide +kernel) (by decide +kernel)), List.forall_mem_cons.mpr ⟨(xg_mi 825 (by decide +kernel) (by decide +kernel)), List.forall_mem_cons.mpr ⟨(xg_mi 24 (by decide +kernel) (by decide +kernel)), List.forall_mem_cons.mpr ⟨(xg_mi 63 (by decide +kernel) (by decide +kernel)), List.forall_mem_cons.mpr ⟨(xg_mi 826 (by decide +kernel) (by decide +kernel)), fun _ h => absurd h List.not_mem_nil⟩⟩⟩⟩⟩
theorem cw_X5_173 : ∀ w ∈ [Cond.methodLink RX5 173 mX5_doLine.1, .instanceMethod mX5_doLine.1, .selects mX5_doLine.1.cls mX5_doLine.1 mX5_doLine.1, .initialized mX5_doLine.1.cls, xg_cd mX5_doLine], w ∈ xg_tb := List.forall_mem_cons.mpr ⟨(xg_mi 868 (by decide +kernel) (by decide +kernel)), List.forall_mem_cons.mpr ⟨(xg_mi 870 (by decide +kernel) (by decide +kernel)), List.forall_mem_cons.mpr ⟨(xg_mi 30 (by decide +kernel) (by decide +kernel)), List.forall_mem_cons.mpr ⟨(xg_mi 63 (by decide +kernel) (by decide +kernel)), List.forall_mem_cons.mpr ⟨(xg_mi 871 (by decide +kernel) (by decide +kernel)), fun _ h => absurd h List.not_mem_nil⟩⟩⟩⟩⟩
theorem cw_X5_177 : ∀ w ∈ [Cond.methodLink RX5 177 mX5_has.1, .static mX5_has.1, .initialized mX5_has.1.cls, xg_cd mX5_has], w ∈ xg_tb := List.forall_mem_cons.mpr ⟨(xg_mi 888 (by decide +kernel) (by decide +kernel)), List.forall_mem_cons.mpr ⟨(xg_mi 889 (by decide +kernel) (by decide +kernel)), List.forall_mem_cons.mpr ⟨(xg_mi 63 (by decide +kernel) (by decide +kernel)), List.forall_mem_cons.mpr ⟨(xg_mi 890 (by decide +kernel) (by decide +kernel)), fun _ h => absurd h List.not_mem_nil⟩⟩⟩⟩
theorem cw_X5_181 : ∀ w ∈ [Cond.methodLink RX5 181 mX5_floorOf.1, .instanceMethod mX5_floorOf.1, .selects mX5_floorOf.1.cls mX5_floorOf.1 mX5_floorOf.1, .initialized mX5_floorOf.1.cls, xg_cd mX5_floorOf], w ∈ xg_tb := List.forall_mem_cons.mpr ⟨(xg_mi 891 (by decide +kernel) (by decide +kernel)), List.forall_mem_cons.mpr ⟨(xg_mi 893 (by decide +kernel) (by decide +kernel)), List.forall_mem_cons.mpr ⟨(xg_mi 34 (by decide +kernel) (by decide +kernel)), List.forall_mem_cons.mpr ⟨(xg_mi 63 (by decide +kernel) (by decide +kernel)), List.forall_mem_cons.mpr ⟨(xg_mi 894 (by decide +kernel) (by decide +kernel)), fun _ h => absurd h List.not_mem_nil⟩⟩⟩⟩⟩
theorem cw_X5_185 : ∀ w ∈ [Cond.methodLink RX5 185 mX5_weighs.1, .instanceMethod mX5_weighs.1, .selects mX5_weighs.1.cls mX5_weighs.1 mX5_weighs.1, .initialized mX5_weighs.1.cls, xg_cd mX5_weighs], w ∈ xg_tb := List.forall_mem_cons.mpr ⟨(xg_mi 903 (by decide +kernel) (by decide +kernel)), List.forall_mem_cons.mpr ⟨(xg_mi 905 (by decide +kernel) (by decide +kernel)), List.forall_mem_cons.mpr ⟨(xg_mi 36 (by decide +kernel) (by decide +kernel)), List.forall_mem_cons.mpr ⟨(xg_mi 63 (by decide +kernel) (by decide +kernel)), List.forall_mem_cons.mpr ⟨(xg_mi 906 (by decide +kernel) (by decide +kernel)), fun _ h => absurd h List.not_mem_nil⟩⟩⟩⟩⟩
theorem cw_X5_189 : ∀ w ∈ [Cond.methodLink RX5 189 mX5_isThere.1, .instanceMethod mX5_isThere.1, .selects mX5_isThere.1.cls mX5_isThere.1 mX5_isThere.1, .initialized mX5_isThere.1.cls, xg_cd mX5_isThere], w ∈ xg_tb := List.forall_mem_cons.mpr ⟨(xg_mi 884 (by decide +kernel) (by decide +kernel)), List.forall_mem_cons.mpr ⟨(xg_mi 886 (by decide +kernel) (by decide +kernel)), List.forall_mem_cons.mpr ⟨(xg_mi 33 (by decide +kernel) (by decide +kernel)), List.forall_mem_cons.mpr ⟨(xg_mi 63 (by decide +kernel) (by decide +kernel)), List.forall_mem_cons.mpr ⟨(xg_mi 887 (by decide +kernel) (by decide +kernel)), fun _ h => absurd h List.not_mem_nil⟩⟩⟩⟩⟩
theorem cw_X5_193 : ∀ w ∈ [Cond.methodLink RX5 193 mX5_priceOf.1, .instanceMethod mX5_priceOf.1, .selects mX5_priceOf.1.cls mX5_priceOf.1 mX5_priceOf.1, .initialized mX5_priceOf.1.cls, xg_cd mX5_priceOf], w ∈ xg_tb := List.forall_mem_cons.mpr ⟨(xg_mi 880 (by decide +kernel) (by decide +kernel)), List.forall_mem_cons.mpr ⟨(xg_mi 882 (by decide +kernel) (by decide +kernel)), List.forall_mem_cons.mpr ⟨(xg_mi 32 (by decide +kernel) (by decide +kernel)), List.forall_mem_cons.mpr ⟨(xg_mi 63 (by decide +kernel) (by decide +kernel)), List.forall_mem_cons.mpr ⟨(xg_mi 883 (by decide +kernel) (by decide +kernel)), fun _ h => absurd h List.not_mem_nil⟩⟩⟩⟩⟩
theorem cw_X5_196 : ∀ w ∈ [Cond.methodLink RX5 196 mX5_isThing.1, .instanceMethod mX5_isThing.1, .selects mX5_isThing.1.cls mX5_isThing.1 mX5_isThing.1, .initialized mX5_isThing.1.cls, xg_cd mX5_isThing], w ∈ xg_tb := List.forall_mem_cons.mpr ⟨(xg_mi 876 (by decide +kernel) (by decide +kernel)), List.forall_mem_cons.mpr ⟨(xg_mi 878 (by decide +kernel) (by decide +kernel)), List.forall_mem_cons.mpr ⟨(xg_mi 31 (by decide +kernel) (by decide +kernel)), List.forall_mem_cons.mpr ⟨(xg_mi 63 (by decide +kernel) (by decide +kernel)), List.forall_mem_cons.mpr ⟨(xg_mi 879 (by decide +kernel) (by decide +kernel)), fun _ h => absurd h List.not_mem_nil⟩⟩⟩⟩⟩
theorem cw_X5_199 : ∀ w ∈ [Cond.methodLink RX5 199 mX5_kindOf.1, .instanceMethod mX5_kindOf.1, .selects mX5_kindOf.1.cls mX5_kindOf.1 mX5_kindOf.1, .initialized mX5_kindOf.1.cls, xg_cd mX5_kindOf], w ∈ xg_tb := List.forall_mem_cons.mpr ⟨(xg_mi 899 (by decide +kernel) (by decide +kernel)), List.forall_mem_cons.mpr ⟨(xg_mi 901 (by decide +kernel) (by decide +kernel)), List.forall_mem_cons.mpr ⟨(xg_mi 35 (by decide +kernel) (by decide +kernel)), List.forall_mem_cons.mpr ⟨(xg_mi 63 (by decide +kernel) (by decide +kernel)), List.forall_mem_cons.mpr ⟨(xg_mi 902 (by decide +kernel) (by decide +kernel)), fun _ h => absurd h List.not_mem_nil⟩⟩⟩⟩⟩
theorem cw_X5_202 : ∀ w ∈ [Cond.methodLink RX5 202 mX5_isTask.1, .instanceMethod mX5_isTask.1, .selects mX5_isTask.1.cls mX5_isTask.1 mX5_isTask.1, .initialized mX5_isTask.1.cls, xg_cd mX5_isTask], w ∈ xg_tb := List.forall_mem_cons.mpr ⟨(xg_mi 919 (by decide +kernel) (by decide +kernel)), List.forall_mem_cons.mpr ⟨(xg_mi 921 (by decide +kernel) (by decide +kernel)), List.forall_mem_cons.mpr ⟨(xg_mi 39 (by decide +kernel) (by decide +kernel)), List.forall_mem_cons.mpr ⟨(xg_mi 63 (by decide +kernel) (by decide +kernel)), List.forall_mem_cons.mpr ⟨(xg_mi 922 (by decide +kernel) (by decide +kernel)), fun _ h => absurd h List.not_mem_nil⟩⟩⟩⟩⟩
theorem cw_X5_205 : ∀ w ∈ [Cond.methodLink RX5 205 mX5_loadOf.1, .instanceMethod mX5_loadOf.1, .selects mX5_loadOf.1.cls mX5_loadOf.1 mX5_loadOf.1, .initialized mX5_loadOf.1.cls, xg_cd mX5_loadOf], w ∈ xg_tb := List.forall_mem_cons.mpr ⟨(xg_mi 911 (by decide +kernel) (by decide +kernel)), List.forall_mem_cons.mpr ⟨(xg_mi 913 (by decide +kernel) (by decide +kernel)), List.forall_mem_cons.mpr ⟨(xg_mi 37 (by decide +kernel) (by decide +kernel)), List.forall_mem_cons.mpr ⟨(xg_mi 63 (by decide +kernel) (by decide +kernel)), List.forall_mem_cons.mpr ⟨(xg_mi 914 (by decide +kernel) (by decide +kernel)), fun _ h => absurd h List.not_mem_nil⟩⟩⟩⟩⟩
theorem cw_X5_208 : ∀ w ∈ [Cond.methodLink RX5 208 mX5_toolOf.1, .instanceMethod mX5_toolOf.1, .selects mX5_toolOf.1.cls mX5_toolOf.1 mX5_toolOf.1, .initialized mX5_toolOf.1.cls, xg_cd mX5_toolOf], w ∈ xg_tb := List.forall_mem_cons.mpr ⟨(xg_mi 915 (by decide +kernel) (by decide +kernel)), List.forall_mem_cons.mpr ⟨(xg_mi 917 (by decide +kernel) (by decide +kernel)), List.forall_mem_cons.mpr ⟨(xg_mi 38 (by decide +kernel) (by decide +kernel)), List.forall_mem_cons.mpr ⟨(xg_mi 63 (by decide +kernel) (by decide +kernel)), List.forall_mem_cons.mpr ⟨(xg_mi 918 (by decide +kernel) (by decide +kernel)), fun _ h => absurd h List.not_mem_nil⟩⟩⟩⟩⟩
theorem cw_X5_211 : ∀ w ∈ [Cond.methodLink RX5 211 mX5_handBehind.1, .instanceMethod mX5_handBehind.1, .selects mX5_handBehind.1.cls mX5_handBehind.1 mX5_handBehind.1, .initialized mX5_handBehind.1.cls, xg_cd mX5_handBehind], w ∈ xg_tb := List.forall_mem_cons.mpr ⟨(xg_mi 931 (by decide +kernel) (by decide +kernel)), List.forall_mem_cons.mpr ⟨(xg_mi 933 (by decide +kernel) (by decide +kernel)), List.forall_mem_cons.mpr ⟨(xg_mi 41 (by decide +kernel) (by decide +kernel)), List.forall_mem_cons.mpr ⟨(xg_mi 63 (by decide +kernel) (by decide +kernel)), List.forall_mem_cons.mpr ⟨(xg_mi 934 (by decide +kernel) (by decide +kernel)), fun _ h => absurd h List.not_mem_nil⟩⟩⟩⟩⟩
theorem cw_X5_214 : ∀ w ∈ [Cond.methodLink RX5 214 mX5_handIn.1, .instanceMethod mX5_handIn.1, .selects mX5_handIn.1.cls mX5_handIn.1 mX5_handIn.1, .initialized mX5_handIn.1.cls, xg_cd mX5_handIn], w ∈ xg_tb := List.forall_mem_cons.mpr ⟨(xg_mi 927 (by decide +kernel) (by decide +kernel)), List.forall_mem_cons.mpr ⟨(xg_mi 929 (by decide +kernel) (by decide +kernel)), List.forall_mem_cons.mpr ⟨(xg_mi 40 (by decide +kernel) (by decide +kernel)), List.forall_mem_cons.mpr ⟨(xg_mi 63 (by decide +kernel) (by decide +kernel)), List.forall_mem_cons.mpr ⟨(xg_mi 930 (by decide +kernel) (by decide +kernel)), fun _ h => absurd h List.not_mem_nil⟩⟩⟩⟩⟩
theorem cw_X5_218 : ∀ w ∈ [Cond.methodLink RX5 218 mX5_copy.1, .static mX5_copy.1, .initialized mX5_copy.1.cls, xg_cd mX5_copy], w ∈ xg_tb := List.forall_mem_cons.mpr ⟨(xg_mi 943 (by decide +kernel) (by decide +kernel)), List.forall_mem_cons.mpr ⟨(xg_mi 944 (by decide +kernel) (by decide +kernel)), List.forall_mem_cons.mpr ⟨(xg_mi 63 (by decide +kernel) (by decide +kernel)), List.forall_mem_cons.mpr ⟨(xg_mi 945 (by decide +kernel) (by decide +kernel)), fun _ h => absurd h List.not_mem_nil⟩⟩⟩⟩
theorem cw_X5_222 : ∀ w ∈ [Cond.methodLink RX5 222 mX5_note.1, .instanceMethod mX5_note.1, .selects mX5_note.1.cls mX5_note.1 mX5_note.1, .initialized mX5_note.1.cls, xg_cd mX5_note], w ∈ xg_tb := List.forall_mem_cons.mpr ⟨(xg_mi 939 (by decide +kernel) (by decide +kernel)), List.forall_mem_cons.mpr ⟨(xg_mi 941 (by decide +kernel) (by decide +kernel)), List.forall_mem_cons.mpr ⟨(xg_mi 42 (by decide +kernel) (by decide +kernel)), List.forall_mem_cons.mpr ⟨(xg_mi 63 (by decide +kernel) (by decide +kernel)), List.forall_mem_cons.mpr ⟨(xg_mi 942 (by decide +kernel) (by decide +kernel)), fun _ h => absurd h List.not_mem_nil⟩⟩⟩⟩⟩
theorem cw_X5_225 : ∀ w ∈ [Cond.methodLink RX5 225 mX5_touches.1, .instanceMethod mX5_touches.1, .selects mX5_touches.1.cls mX5_touches.1 mX5_touches.1, .initialized mX5_touches.1.cls, xg_cd mX5_touches], w ∈ xg_tb := List.forall_mem_cons.mpr ⟨(xg_mi 946 (by decide +kernel) (by decide +kernel)), List.forall_mem_cons.mpr ⟨(xg_mi 948 (by decide +kernel) (by decide +kernel)), List.forall_mem_cons.mpr ⟨(xg_mi 43 (by decide +kernel) (by decide +kernel)), List.forall_mem_cons.mpr ⟨(xg_mi 63 (by decide +kernel) (by decide +kernel)), List.forall_mem_cons.mpr ⟨(xg_mi 949 (by decide +kernel) (by decide +kernel)), fun _ h => absurd h List.not_mem_nil⟩⟩⟩⟩⟩
theorem cw_X5_228 : ∀ w ∈ [Cond.methodLink RX5 228 mX5_pass.1, .instanceMethod mX5_pass.1, .selects mX5_pass.1.cls mX5_pass.1 mX5_pass.1, .initialized mX5_pass.1.cls, xg_cd mX5_pass], w ∈ xg_tb := List.forall_mem_cons.mpr ⟨(xg_mi 950 (by decide +kernel) (by decide +kernel)), List.forall_mem_cons.mpr ⟨(xg_mi 952 (by decide +kernel) (by decide +kernel)), List.forall_mem_cons.mpr ⟨(xg_mi 44 (by decide +kernel) (by decide +kernel)), List.forall_mem_cons.mpr ⟨(xg_mi 63 (by decide +kernel) (by decide +kernel)), List.forall_mem_cons.mpr ⟨(xg_mi 953 (by decide +kernel) (by decide +kernel)), fun _ h => absurd h List.not_mem_nil⟩⟩⟩⟩⟩
theorem cw_X5_232 : ∀ w ∈ [Cond.methodLink RX5 232 mX5_isBy.1, .instanceMethod mX5_isBy.1, .selects mX5_isBy.1.cls mX5_isBy.1 mX5_isBy.1, .initialized mX5_isBy.1.cls, xg_cd mX5_isBy], w ∈ xg_tb := List.forall_mem_cons.mpr ⟨(xg_mi 958 (by decide +kernel) (by decide +kernel)), List.forall_mem_cons.mpr ⟨(xg_mi 960 (by decide +kernel) (by decide +kernel)), List.forall_mem_cons.mpr ⟨(xg_mi 45 (by decide +kernel) (by decide +kernel)), List.forall_mem_cons.mpr ⟨(xg_mi 63 (by decide +kernel) (by decide +kernel)), List.forall_mem_cons.mpr ⟨(xg_mi 961 (by decide +kernel) (by decide +kernel)), fun _ h => absurd h List.not_mem_nil⟩⟩⟩⟩⟩
theorem cw_X5_235 : ∀ w ∈ [Cond.methodLink RX5 235 mX5_tooLoaded.1, .instanceMethod mX5_tooLoaded.1, .selects mX5_tooLoaded.1.cls mX5_tooLoaded.1 mX5_tooLoaded.1, .initialized mX5_tooLoaded.1.cls, xg_cd mX5_tooLoaded], w ∈ xg_tb := List.forall_mem_cons.mpr ⟨(xg_mi 990 (by decide +kernel) (by decide +kernel)), List.forall_mem_cons.mpr ⟨(xg_mi 992 (by decide +kernel) (by decide +kernel)), List.forall_mem_cons.mpr ⟨(xg_mi 46 (by decide +kernel) (by decide +kernel)), List.forall_mem_cons.mpr ⟨(xg_mi 63 (by decide +kernel) (by decide +kernel)), List.forall_mem_cons.mpr ⟨(xg_mi 993 (by decide +kernel) (by decide +kernel)), fun _ h => absurd h List.not_mem_nil⟩⟩⟩⟩⟩
theorem cw_X5_239 : ∀ w ∈ [Cond.methodLink RX5 239 mX5_pricesOf.1, .instanceMethod mX5_pricesOf.1, .selects mX5_pricesOf.1.cls mX5_pricesOf.1 mX5_pricesOf.1, .initialized mX5_pricesOf.1.cls, xg_cd mX5_pricesOf], w ∈ xg_tb := List.forall_mem_cons.mpr ⟨(xg_mi 994 (by decide +kernel) (by decide +kernel)), List.forall_mem_cons.mpr ⟨(xg_mi 996 (by decide +kernel) (by decide +kernel)), List.forall_mem_cons.mpr ⟨(xg_mi 47 (by decide +kernel) (by decide +kernel)), List.forall_mem_cons.mpr ⟨(xg_mi 63 (by decide +kernel) (by decide +kernel)), List.forall_mem_cons.mpr ⟨(xg_mi 997 (by decide +kernel) (by decide +kernel)), fun _ h => absurd h List.not_mem_nil⟩⟩⟩⟩⟩
theorem cw_X5_242 : ∀ w ∈ [Cond.methodLink RX5 242 mX5_goldBy.1, .instanceMethod mX5_goldBy.1, .selects mX5_goldBy.1.cls mX5_goldBy.1 mX5_goldBy.1, .initialized mX5_goldBy.1.cls, xg_cd mX5_goldBy], w ∈ xg_tb := List.forall_mem_cons.mpr ⟨(xg_mi 1037 (by decide +kernel) (by decide +kernel)), List.forall_mem_cons.mpr ⟨(xg_mi 1039 (by decide +kernel) (by decide +kernel)), List.forall_mem_cons.mpr ⟨(xg_mi 51 (by decide +kernel) (by decide +kernel)), List.forall_mem_cons.mpr ⟨(xg_mi 63 (by decide +kernel) (by decide +kernel)), List.forall_mem_cons.mpr ⟨(xg_mi 1040 (by decide +kernel) (by decide +kernel)), fun _ h => absurd h List.not_mem_nil⟩⟩⟩⟩⟩
theorem cw_X5_246 : ∀ w ∈ [Cond.methodLink RX5 246 mX5_placeOf.1, .static mX5_placeOf.1, .initialized mX5_placeOf.1.cls, xg_cd mX5_placeOf], w ∈ xg_tb := List.forall_mem_cons.mpr ⟨(xg_mi 1041 (by decide +kernel) (by decide +kernel)), List.forall_mem_cons.mpr ⟨(xg_mi 1042 (by decide +kernel) (by decide +kernel)), List.forall_mem_cons.mpr ⟨(xg_mi 63 (by decide +kernel) (by decide +kernel)), List.forall_mem_cons.mpr ⟨(xg_mi 1043 (by decide +kernel) (by decide +kernel)), fun _ h => absurd h List.not_mem_nil⟩⟩⟩⟩
theorem cw_X5_249 : ∀ w ∈ [Cond.methodLink RX5 249 mX5_costBy.1, .instanceMethod mX5_costBy.1, .selects mX5_costBy.1.cls mX5_costBy.1 mX5_costBy.1, .initialized mX5_costBy.1.cls, xg_cd mX5_costBy], w ∈ xg_tb := List.forall_mem_cons.mpr ⟨(xg_mi 1048 (by decide +kernel) (by decide +kernel)), List.forall_mem_cons.mpr ⟨(xg_mi 1050 (by decide +kernel) (by decide +kernel)), List.forall_mem_cons.mpr ⟨(xg_mi 53 (by decide +kernel) (by decide +kernel)), List.forall_mem_cons.mpr ⟨(xg_mi 63 (by decide +kernel) (by decide +kernel)), List.forall_mem_cons.mpr ⟨(xg_mi 1051 (by decide +kernel) (by decide +kernel)), fun _ h => absurd h List.not_mem_nil⟩⟩⟩⟩⟩
theorem cw_X5_256 : ∀ w ∈ [Cond.methodLink RX5 256 mX5_deedAt.1, .static mX5_deedAt.1, .initialized mX5_deedAt.1.cls, xg_cd mX5_deedAt], w ∈ xg_tb := List.forall_mem_cons.mpr ⟨(xg_mi 1026 (by decide +kernel) (by decide +kernel)), List.forall_mem_cons.mpr ⟨(xg_mi 1027 (by decide +kernel) (by decide +kernel)), List.forall_mem_cons.mpr ⟨(xg_mi 63 (by decide +kernel) (by decide +kernel)), List.forall_mem_cons.mpr ⟨(xg_mi 1028 (by decide +kernel) (by decide +kernel)), fun _ h => absurd h List.not_mem_nil⟩⟩⟩⟩
theorem cw_X5_259 : ∀ w ∈ [Cond.methodLink RX5 259 mX5_canDo.1, .instanceMethod mX5_canDo.1, .selects mX5_canDo.1.cls mX5_canDo.1 mX5_canDo.1, .initialized mX5_canDo.1.cls, xg_cd mX5_canDo], w ∈ xg_tb := List.forall_mem_cons.mpr ⟨(xg_mi 1029 (by decide +kernel) (by decide +kernel)), List.forall_mem_cons.mpr ⟨(xg_mi 1031 (by decide +kernel) (by decide +kernel)), List.forall_mem_cons.mpr ⟨(xg_mi 49 (by decide +kernel) (by decide +kernel)), List.forall_mem_cons.mpr ⟨(xg_mi 63 (by decide +kernel) (by decide +kernel)), List.forall_mem_cons.mpr ⟨(xg_mi 1032 (by decide +kernel) (by decide +kernel)), fun _ h => absurd h List.not_mem_nil⟩⟩⟩⟩⟩
theorem cw_X5_262 : ∀ w ∈ [Cond.methodLink RX5 262 mX5_behind.1, .instanceMethod mX5_behind.1, .selects mX5_behind.1.cls mX5_behind.1 mX5_behind.1, .initialized mX5_behind.1.cls, xg_cd mX5_behind], w ∈ xg_tb := List.forall_mem_cons.mpr ⟨(xg_mi 1033 (by decide +kernel) (by decide +kernel)), List.forall_mem_cons.mpr ⟨(xg_mi 1035 (by decide +kernel) (by decide +kernel)), List.forall_mem_cons.mpr ⟨(xg_mi 50 (by decide +kernel) (by decide +kernel)), List.forall_mem_cons.mpr ⟨(xg_mi 63 (by decide +kernel) (by decide +kernel)), List.forall_mem_cons.mpr ⟨(xg_mi 1036 (by decide +kernel) (by decide +kernel)), fun _ h => absurd h List.not_mem_nil⟩⟩⟩⟩⟩
theorem cw_X5_266 : ∀ w ∈ [Cond.methodLink RX5 266 mX5_costOf.1, .instanceMethod mX5_costOf.1, .selects mX5_costOf.1.cls mX5_costOf.1 mX5_costOf.1, .initialized mX5_costOf.1.cls, xg_cd mX5_costOf], w ∈ xg_tb := List.forall_mem_cons.mpr ⟨(xg_mi 1044 (by decide +kernel) (by decide +kernel)), List.forall_mem_cons.mpr ⟨(xg_mi 1046 (by decide +kernel) (by decide +kernel)), List.forall_mem_cons.mpr ⟨(xg_mi 52 (by decide +kernel) (by decide +kernel)), List.forall_mem_cons.mpr ⟨(xg_mi 63 (by decide +kernel) (by decide +kernel)), List.forall_mem_cons.mpr ⟨(xg_mi 1047 (by decide +kernel) (by decide +kernel)), fun _ h => absurd h List.not_mem_nil⟩⟩⟩⟩⟩
theorem cw_X5_269 : ∀ w ∈ [Cond.methodLink RX5 269 mX5_layPlans.1, .instanceMethod mX5_layPlans.1, .selects mX5_layPlans.1.cls mX5_layPlans.1 mX5_layPlans.1, .initialized mX5_layPlans.1.cls, xg_cd mX5_layPlans], w ∈ xg_tb := List.forall_mem_cons.mpr ⟨(xg_mi 1022 (by decide +kernel) (by decide +kernel)), List.forall_mem_cons.mpr ⟨(xg_mi 1024 (by decide +kernel) (by decide +kernel)), List.forall_mem_cons.mpr ⟨(xg_mi 48 (by decide +kernel) (by decide +kernel)), List.forall_mem_cons.mpr ⟨(xg_mi 63 (by decide +kernel) (by decide +kernel)), List.forall_mem_cons.mpr ⟨(xg_mi 1025 (by decide +kernel) (by decide +kernel)), fun _ h => absurd h List.not_mem_nil⟩⟩⟩⟩⟩
theorem cw_X5_272 : ∀ w ∈ [Cond.methodLink RX5 272 mX5_pricesIn.1, .instanceMethod mX5_pricesIn.1, .selects mX5_pricesIn.1.cls mX5_pricesIn.1 mX5_pricesIn.1, .initialized mX5_pricesIn.1.cls, xg_cd mX5_pricesIn], w ∈ xg_tb := List.forall_mem_cons.mpr ⟨(xg_mi 1056 (by decide +kernel) (by decide +kernel)), List.forall_mem_cons.mpr ⟨(xg_mi 1058 (by decide +kernel) (by decide +kernel)), List.forall_mem_cons.mpr ⟨(xg_mi 54 (by decide +kernel) (by decide +kernel)), List.forall_mem_cons.mpr ⟨(xg_mi 63 (by decide +kernel) (by decide +kernel)), List.forall_mem_cons.mpr ⟨(xg_mi 1059 (by decide +kernel) (by decide +kernel)), fun _ h => absurd h List.not_mem_nil⟩⟩⟩⟩⟩
theorem cw_X5_275 : ∀ w ∈ [Cond.methodLink RX5 275 mX5_lootOf.1, .instanceMethod mX5_lootOf.1, .selects mX5_lootOf.1.cls mX5_lootOf.1 mX5_lootOf.1, .initialized mX5_lootOf.1.cls, xg_cd mX5_lootOf], w ∈ xg_tb := List.forall_mem_cons.mpr ⟨(xg_mi 1068 (by decide +kernel) (by decide +kernel)), List.forall_mem_cons.mpr ⟨(xg_mi 1070 (by decide +kernel) (by decide +kernel)), List.forall_mem_cons.mpr ⟨(xg_mi 55 (by decide +kernel) (by decide +kernel)), List.forall_mem_cons.mpr ⟨(xg_mi 63 (by decide +kernel) (by decide +kernel)), List.forall_mem_cons.mpr ⟨(xg_mi 1071 (by decide +kernel) (by decide +kernel)), fun _ h => absurd h List.not_mem_nil⟩⟩⟩⟩⟩
theorem cw_X5_278 : ∀ w ∈ [Cond.methodLink RX5 278 mX5_isGold.1, .instanceMethod mX5_isGold.1, .selects mX5_isGold.1.cls mX5_isGold.1 mX5_isGold.1, .initialized mX5_isGold.1.cls, xg_cd mX5_isGold], w ∈ xg_tb := List.forall_mem_cons.mpr ⟨(xg_mi 1084 (by decide +kernel) (by decide +kernel)), List.forall_mem_cons.mpr ⟨(xg_mi 1086 (by decide +kernel) (by decide +kernel)), List.forall_mem_cons.mpr ⟨(xg_mi 56 (by decide +kernel) (by decide +kernel)), List.forall_mem_cons.mpr ⟨(xg_mi 63 (by decide +kernel) (by decide +kernel)), List.forall_mem_cons.mpr ⟨(xg_mi 1087 (by decide +kernel) (by decide +kernel)), fun _ h => absurd h List.not_mem_nil⟩⟩⟩⟩⟩
theorem cw_X5_281 : ∀ w ∈ [Cond.methodLink RX5 281 mX5_bits.1, .static mX5_bits.1, .initialized mX5_bits.1.cls, xg_cd mX5_bits], w ∈ xg_tb := List.forall_mem_cons.mpr ⟨(xg_mi 1092 (by decide +kernel) (by decide +kernel)), List.forall_mem_cons.mpr ⟨(xg_mi 1093 (by decide +kernel) (by decide +kernel)), List.forall_mem_cons.mpr ⟨(xg_mi 63 (by decide +kernel) (by decide +kernel)), List.forall_mem_cons.mpr ⟨(xg_mi 1094 (by decide +kernel) (by decide +kernel)), fun _ h => absurd h List.not_mem_nil⟩⟩⟩⟩
theorem ci_J6_265 : Cond.constant RJ6 265 (1431655765) ∈ xg_tb := (xg_mi 587 (by decide +kernel) (by decide +kernel))
theorem ci_J6_266 : Cond.constant RJ6 266 (858993459) ∈ xg_tb := (xg_mi 588 (by decide +kernel) (by decide +kernel))
theorem ci_J6_267 : Cond.constant RJ6 267 (252645135) ∈ xg_tb := (xg_mi 589 (by decide +kernel) (by decide +kernel))
theorem ci_X2_15 : Cond.constant RX2 15 (1048576) ∈ xg_tb := (xg_mi 602 (by decide +kernel) (by decide +kernel))
theorem ci_X4_231 : Cond.constant RX4 231 (16777216) ∈ xg_tb := (xg_mi 665 (by decide +kernel) (by decide +kernel))
theorem cl_X4_238 : Cond.constantLong RX4 238 (-3) ∈ xg_tb := (xg_mi 682 (by decide +kernel) (by decide +kernel))
theorem cl_X5_106 : Cond.constantLong RX5 106 (-2) ∈ xg_tb := (xg_mi 835 (by decide +kernel) (by decide +kernel))
theorem cl_X5_112 : Cond.constantLong RX5 112 (27) ∈ xg_tb := (xg_mi 836 (by decide +kernel) (by decide +kernel))
theorem cl_X5_114 : Cond.constantLong RX5 114 (96) ∈ xg_tb := (xg_mi 837 (by decide +kernel) (by decide +kernel))
theorem cl_X5_116 : Cond.constantLong RX5 116 (-4) ∈ xg_tb := (xg_mi 838 (by decide +kernel) (by decide +kernel))
theorem cl_X5_118 : Cond.constantLong RX5 118 (-1) ∈ xg_tb := (xg_mi 839 (by decide +kernel) (by decide +kernel))
theorem cl_X5_120 : Cond.constantLong RX5 120 (-3) ∈ xg_tb := (xg_mi 840 (by decide +kernel) (by decide +kernel))
theorem cl_X5_138 : Cond.constantLong RX5 138 (82408) ∈ xg_tb := (xg_mi 841 (by decide +kernel) (by decide +kernel))
theorem cl_X5_140 : Cond.constantLong RX5 140 (405012) ∈ xg_tb := (xg_mi 842 (by decide +kernel) (by decide +kernel))
theorem cl_X5_142 : Cond.constantLong RX5 142 (139055) ∈ xg_tb := (xg_mi 843 (by decide +kernel) (by decide +kernel))
theorem cl_X5_144 : Cond.constantLong RX5 144 (1168243) ∈ xg_tb := (xg_mi 844 (by decide +kernel) (by decide +kernel))
theorem cl_X5_146 : Cond.constantLong RX5 146 (129442) ∈ xg_tb := (xg_mi 845 (by decide +kernel) (by decide +kernel))
theorem cl_X5_148 : Cond.constantLong RX5 148 (1905383) ∈ xg_tb := (xg_mi 846 (by decide +kernel) (by decide +kernel))
theorem cl_X5_150 : Cond.constantLong RX5 150 (1162531) ∈ xg_tb := (xg_mi 847 (by decide +kernel) (by decide +kernel))
theorem cl_X5_152 : Cond.constantLong RX5 152 (453959) ∈ xg_tb := (xg_mi 848 (by decide +kernel) (by decide +kernel))
theorem cl_X5_154 : Cond.constantLong RX5 154 (1758684) ∈ xg_tb := (xg_mi 849 (by decide +kernel) (by decide +kernel))
theorem cl_X5_156 : Cond.constantLong RX5 156 (286916) ∈ xg_tb := (xg_mi 850 (by decide +kernel) (by decide +kernel))
theorem cl_X5_158 : Cond.constantLong RX5 158 (40586) ∈ xg_tb := (xg_mi 851 (by decide +kernel) (by decide +kernel))
theorem cl_X5_284 : Cond.constantLong RX5 284 (10) ∈ xg_tb := (xg_mi 1099 (by decide +kernel) (by decide +kernel))
theorem gs_J0_1053 : Cond.fieldLink RJ0 1053 RJ3 "SIOOBE_FORMATTER" "Ljava/util/function/BiFunction;" ∈ xg_tb := (xg_mi 362 (by decide +kernel) (by decide +kernel))
theorem gs_J0_38 : Cond.fieldLink RJ0 38 RJ0 "COMPACT_STRINGS" "Z" ∈ xg_tb := (xg_mi 346 (by decide +kernel) (by decide +kernel))
theorem gs_X3_51 : Cond.fieldLink RX3 51 RX3 "NUMBERS" "[I" ∈ xg_tb := (xg_mi 386 (by decide +kernel) (by decide +kernel))
theorem gs_X4_115 : Cond.fieldLink RX4 115 RX4 "KIND_ABOVE" "[I" ∈ xg_tb := (xg_mi 455 (by decide +kernel) (by decide +kernel))
